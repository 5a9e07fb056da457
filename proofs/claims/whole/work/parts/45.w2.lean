def fr (F A F' A' : gm_M) (a l : Nat) : Prop := (∀ b, b ≠ a → F' b = F b) ∧ ∀ b, b ≠ l → A' b = A b
def dn (z : Nat) : Int32 := nI z - 1
theorem dn_succ (t : Nat) : dn (t + 1) = nI t := pk_sub (by omega : 1 ≤ t + 1)
theorem dn_next (t : Nat) : nI t + (-1) = dn t := by
  unfold dn; rw [Int32.sub_eq_add_neg]
theorem dn_br {A B : Prop} (z : Nat) (hz : z < 2 ^ 31) (f : z = 0 → A) (g : ∀ t, z = t + 1 → B) : (dn z < 0 → A) ∧ (¬ dn z < 0 → B) := by
  match z, f, g with
  | 0, f, _ => exact ⟨fun _ => f rfl, fun h => absurd (by decide) h⟩
  | t + 1, _, g => exact ⟨fun h => absurd (dn_succ t ▸ h) (nI_pos (by omega)), fun _ => g t rfl⟩
theorem dn_mu (z : Nat) (hz : z < 2 ^ 31) : ((dn z).toInt + 1).toNat = z := by
  match z with
  | 0 => rfl
  | t + 1 => rw [dn_succ, nI_toInt (by omega)]; omega
theorem l_m31 (n : Nat) : lN n &&& (2147483647 : Int64) = lN (n % 2147483648) := by
  rw [lZ_lN, lZ_mask _ 31 _ (by decide) (by decide), lZ_lN]
  norm_cast
theorem l_m16 (n : Nat) : lN n &&& (65535 : Int64) = lN (n % 65536) := by
  rw [lZ_lN, lZ_mask _ 16 _ (by decide) (by decide), lZ_lN]
  norm_cast
section W2
variable {F A : gm_M} {a0 l0 n0 u v : Nat}
theorem s_W_setBelowR {x : Int} {p : Int32} (h : wM F A a0 l0 n0 x.natAbs) (hn : n0 < 2 ^ 31) (hp : x ≠ 0 → (p ≠ 0 ↔ x < 0)) {post : gm_M → Prop} (hq : ∀ F' : gm_M, (∀ b, b ≠ a0 → F' b = F b) → wR F' A a0 l0 n0 x → post F') : vc_W_setBelow a0 l0 n0 p F A post := by
  obtain ⟨u, h⟩ := h
  have h1 := h.1
  have hz := h.pos
  refine s_W_setBelow h.2.1 (by omega) (hq _ (fun b hb => gm_off hb) ⟨⟨u, ?_⟩, ?_⟩)
  · obtain ⟨p1, p2, p3, p4, p5⟩ := h
    exact ⟨p1, by rw [up_ne _ _ (by decide)]; exact p2, p3, p4, p5⟩
  · rw [up_at]
    unfold sb
    by_cases hx : x = 0
    · subst hx
      rw [if_neg (fun z => z.2 (hz.mpr rfl)), if_neg (by decide)]
    · by_cases hx2 : x < 0
      · rw [if_pos hx2, if_pos ⟨(hp hx).mpr hx2, fun z => by have := hz.mp z; omega⟩]
      · rw [if_neg hx2, if_neg (fun z => hx2 ((hp hx).mp z.1))]
theorem s_W_takeLong {p : Int64} (hn : 3 ≤ n0) (hn0 : n0 < 2 ^ 31) {post : gm_M → gm_M → Prop} (hq : ∀ F' A' : gm_M, fr F A F' A' a0 l0 → wR F' A' a0 l0 n0 p.toInt → post F' A') : vc_W_takeLong a0 l0 n0 p F A post := by
  have hr := lZ_rng p
  have hm : p.toInt.natAbs ≤ 9223372036854775808 := by omega
  refine ⟨fun w => w = lN p.toInt.natAbs, ⟨fun h => ?_, fun h => ?_⟩, ?_⟩
  · have h0 : 0 ≤ p.toInt := Int64.le_iff_toInt_le.mp h
    show p = _
    rw [lZ_lN, show ((p.toInt.natAbs : Nat) : Int) = p.toInt by omega, lZ_self]
  · have h0 : ¬ 0 ≤ p.toInt := fun z => h (Int64.le_iff_toInt_le.mpr z)
    show -p = _
    rw [lZ_lN, show ((p.toInt.natAbs : Nat) : Int) = -p.toInt by omega, ← lZ_neg, lZ_self]
  · rintro _ rfl
    generalize hM : p.toInt.natAbs = M at hm ⊢
    rw [l_m31, lN_i, show j_lushr (lN M) (31 : Int32) = lN (M / 2 ^ 31) from jl_ushr 31 (by omega) (by decide), l_m31, lN_i, show j_lushr (lN M) (62 : Int32) = lN (M / 2 ^ 62) from jl_ushr 62 (by omega) (by decide), lN_i]
    refine ⟨pk_in 0 n0 (by omega), ?_⟩
    rintro _ rfl
    refine ⟨pk_in 1 n0 (by omega), ?_⟩
    rintro _ rfl
    refine ⟨pk_in 2 n0 (by omega), ?_⟩
    rintro _ rfl
    rw [show (0 : Int32).toNatClampNeg = 0 from rfl, show (1 : Int32).toNatClampNeg = 1 from rfl, show (2 : Int32).toNatClampNeg = 2 from rfl]
    generalize hA : gm_up (gm_up (gm_up A l0 0 (nI (M % 2147483648))) l0 1 (nI (M / 2 ^ 31 % 2147483648))) l0 2 (nI (M / 2 ^ 62)) = A4
    have hd : dk 2147483648 A4 l0 3 := by
      rw [← hA]
      exact dk_up (dk_up (dk_up (fun k hk => absurd hk (Nat.not_lt_zero _)) (by omega) (by decide)) (by omega) (by decide)) (by omega) (by decide)
    have he : ev 2147483648 (dg A4 l0) 3 = M := by
      rw [← hA, ev_at (by omega), ev_at (by omega), ev_at (by omega)]
      simp only [ev]
      omega
    have hoff : ∀ b, b ≠ l0 → A4 b = A b := fun b hb => by rw [← hA, gm_off hb, gm_off hb, gm_off hb]
    refine ⟨fun h => ?_, fun h => ?_⟩
    · have h0 : 0 ≤ p.toInt := Int64.le_iff_toInt_le.mp h
      rintro _ rfl
      refine s_W_trim (n := 3) rfl hn hn0 hd (fun F' f1 f2 f3 => hq F' A4 ⟨fun b hb => by rw [f1 b hb, gm_off hb], hoff⟩ ⟨?_, ?_⟩)
      · rw [hM, ← he]; exact f2
      · rw [f3, up_at, if_neg (fun z => z.1 rfl)]
        unfold sb; rw [if_neg (by omega)]
    · have h0 : ¬ 0 ≤ p.toInt := fun z => h (Int64.le_iff_toInt_le.mpr z)
      rintro _ rfl
      refine s_W_trim (n := 3) rfl hn hn0 hd (fun F' f1 f2 f3 => hq F' A4 ⟨fun b hb => by rw [f1 b hb, gm_off hb], hoff⟩ ⟨?_, ?_⟩)
      · rw [hM, ← he]; exact f2
      · rw [f3, up_at, if_pos ⟨by decide, by rw [he]; omega⟩]
        unfold sb; rw [if_pos (by omega)]
theorem s_W_takeCopy {a1 l1 n1 u : Nat} {x : Int} (ha : a1 ≠ a0) (hl : l1 ≠ l0) (h : wU F A a1 l1 n1 u x.natAbs) (hb : F a1 2 = sb x) (hu : u ≤ n0) (hn1 : n1 < 2 ^ 31) {post : gm_M → gm_M → Prop} (hq : ∀ F' A' : gm_M, fr F A F' A' a0 l0 → wR F' A' a0 l0 n0 x → post F' A') : vc_W_takeCopy a0 l0 n0 a1 l1 n1 F A post := by
  obtain ⟨p1, p2, p3, p4, p5⟩ := h
  have hcl : (F a1 1).toNatClampNeg = u := by rw [p2, nI_clamp (by omega)]
  refine ⟨by rw [p2]; exact nI_pos (by omega), by omega, by omega, ?_⟩
  rintro _ rfl _ rfl
  have e2 : gm_up F a0 1 (F a1 1) a1 2 = sb x := by rw [gm_off ha]; exact hb
  refine ⟨by rw [e2]; exact sb01 x, ?_⟩
  rintro _ rfl
  rw [e2, hcl]
  have e3 : ∀ k, k < u → gm_cpy A l1 l0 u l0 k = A l1 k := fun k hk => by
    rw [gm_cat, pk_cpy_in (by omega) (by omega)]
    simp
  refine hq _ _ ⟨fun b hb => by rw [gm_off hb, gm_off hb], fun b hb => gm_coff hb⟩ ⟨⟨u, hu, ?_, dk_congr p3 e3, fun t ht => ?_, (ev_of e3).trans p5⟩, up_at _ _ _ _⟩
  · rw [up_ne _ _ (by decide), up_at]; exact p2
  · rw [dg_congr (e3 t (by omega))]; exact p4 t ht
theorem s_W_lowestBits {x : Int} (h : wR F A a0 l0 n0 x) (hn : n0 < 2 ^ 31) {post : Int64 → Prop} (hp : post (lZ x)) : vc_W_lowestBits a0 l0 n0 F A post := by
  obtain ⟨⟨u, hu⟩, hb⟩ := h
  have hw : u ≤ n0 ∧ F a0 1 = nI u ∧ dk 2147483648 A l0 u := ⟨hu.1, hu.2.1, hu.2.2.1⟩
  refine s_W_limbAt hw hn (i := 0) rfl (by decide) (s_W_limbAt hw hn (i := 1) rfl (by decide) (s_W_limbAt hw hn (i := 2) rfl (by decide) ?_))
  have d0 := hu.dig 0
  have d1 := hu.dig 1
  have d2 := hu.dig 2
  have b0 := dz_lt (i := 0) hw.2.2
  have b1 := dz_lt (i := 1) hw.2.2
  have b2 := dz_lt (i := 2) hw.2.2
  generalize dz A l0 u 0 = D0 at d0 b0 ⊢
  generalize dz A l0 u 1 = D1 at d1 b1 ⊢
  generalize dz A l0 u 2 = D2 at d2 b2 ⊢
  have key : (nI D0).toInt64 ||| j_lshl (nI D1).toInt64 (31 : Int32) ||| j_lshl (nI D2).toInt64 (62 : Int32) = lN x.natAbs := by
    rw [nI_l (by omega), nI_l (by omega), nI_l (by omega), show j_lshl (lN D1) (31 : Int32) = lN (D1 * 2 ^ 31) from jl_shl D1 31 (by decide), show j_lshl (lN D2) (62 : Int32) = lN (D2 * 2 ^ 62) from jl_shl D2 62 (by decide)]
    rw [show lN (D2 * 2 ^ 62) = lN (D2 % 4 * 2 ^ 62) from lN_inj' (by omega)]
    rw [l_or (by omega) (by omega), or_add' (by omega), l_or (by omega) (by omega), or_add' (by omega)]
    apply lN_inj'
    omega
  rw [key, hb]
  rintro _ rfl
  unfold sb
  by_cases hx : x < 0
  · rw [if_pos hx]
    refine pk_eq 1 0 (fun e => absurd e (by decide)) (fun _ => ?_)
    rw [lZ_lN, lZ_neg, show -((x.natAbs : Nat) : Int) = x by omega]; exact hp
  · rw [if_neg hx]
    refine pk_eq 0 0 (fun _ => ?_) (fun e => absurd rfl e)
    rw [lZ_lN, show ((x.natAbs : Nat) : Int) = x by omega]; exact hp
theorem s_W_fitsLong {x : Int} (h : wR F A a0 l0 n0 x) (hn : n0 < 60000000) {post : Int32 → Prop} (hp : post (if -9223372036854775808 ≤ x ∧ x < 9223372036854775808 then 1 else 0)) : vc_W_fitsLong a0 l0 n0 F A post := by
  have h' := h
  obtain ⟨⟨u, hu⟩, hb⟩ := h
  have hbl := hu.le (bl_lt x.natAbs)
  have hu1 := hu.1
  have hbb : bl x.natAbs < 2 ^ 31 := by
    have : bl x.natAbs ≤ 31 * u := bl_le_iff.mpr (by rw [← pow31]; exact hu.lt)
    omega
  unfold vc_W_fitsLong
  refine s_W_countBits hu hn ?_
  refine pk_lt (bl x.natAbs) 64 (fun e => ?_) (fun e => ?_)
  · have h1 : x.natAbs < 2 ^ 63 := bl_le_iff.mp (by omega)
    rw [if_pos (by omega)] at hp; exact hp
  · have h1 : ¬ x.natAbs < 2 ^ 63 := fun z => by have := bl_le_iff.mpr z; omega
    rw [hb]
    unfold sb
    by_cases hx : x < 0
    · rw [if_pos hx]
      refine pk_eq 1 0 (fun e => absurd e (by decide)) (fun _ => ?_)
      refine s_W_countBits hu hn ?_
      refine (pk_eq (bl x.natAbs) 64 (fun e2 => ?_) (fun e2 => ?_)).symm
      · have h2 : x.natAbs < 2 ^ 64 := bl_le_iff.mp (by omega)
        refine s_W_lowestBits h' (by omega) ?_
        by_cases hx2 : x = -9223372036854775808
        · subst hx2
          rw [if_pos (by decide)] at hp
          exact ⟨fun z => absurd z (by decide), fun _ => hp⟩
        · rw [if_neg (by omega)] at hp
          have e3 : lZ x = lZ (x + 18446744073709551616) := by
            rw [← lZ_add]
            rw [show lZ 18446744073709551616 = 0 from by decide, Int64.add_zero]
          rw [e3]
          refine ⟨fun _ => hp, fun z => absurd ?_ z⟩
          rw [Int64.le_iff_toInt_le, lZ_t (by omega) (by omega)]
          show 0 ≤ _
          omega
      · have h2 : ¬ x.natAbs < 2 ^ 64 := fun z => by have := bl_le_iff.mpr z; omega
        rw [if_neg (by omega)] at hp; exact hp
    · rw [if_neg hx]
      refine pk_eq 0 0 (fun _ => ?_) (fun e => absurd rfl e)
      rw [if_neg (by omega)] at hp; exact hp
end W2
