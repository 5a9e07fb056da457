theorem mod_div_mod (Y k : Nat) (hk : k ≤ 31) : Y % 2 ^ 62 / 2 ^ k % 2 ^ 31 = Y / 2 ^ k % 2 ^ 31 := by
  have e : (2 : Nat) ^ 62 = 2 ^ k * 2 ^ (62 - k) := by rw [← Nat.pow_add]; congr 1; omega
  rw [e, Nat.mod_mul_right_div_self, Nat.mod_mod_of_dvd _ (Nat.pow_dvd_pow 2 (by omega))]
theorem ev_pull {B : Nat} {d : Nat → Nat} {f n : Nat} (hf : f < n) (hz : ∀ j, j < f → d j = 0) : ev B d n = B ^ f * (d f + B * ev B (fun j => d (f + 1 + j)) (n - f - 1)) := by
  obtain ⟨t, rfl⟩ : ∃ t, n = f + (t + 1) := ⟨n - f - 1, by omega⟩
  rw [ev_add, ev_zero hz, Nat.zero_add, ev_cons, show f + (t + 1) - f - 1 = t by omega]
section W6
variable {F A : gm_M} {a0 l0 n0 u v a1 l1 n1 u1 v1 : Nat}
/-- the lowest limb that is not 0 (or the last but one place) -/
theorem s_W_lowestLimb (hu : u ≤ n0) (hF : F a0 1 = nI u) (hd : dk 2147483648 A l0 u) (hn : n0 < 2 ^ 30) {post : Int32 → Prop} (hp : ∀ f, (u = 0 → f = 0) → (0 < u → f < u) → (∀ j, j < f → dg A l0 j = 0) → (f + 1 < u → dg A l0 f ≠ 0) → post (nI f)) : vc_W_lowestLimb a0 l0 n0 F A post := by
  unfold vc_W_lowestLimb
  rw [hF]
  refine ⟨fun x => ∃ i, x = nI i ∧ (u = 0 → i = 0) ∧ (0 < u → i < u) ∧ ∀ j, j < i → dg A l0 j = 0, fun x => u - x.toNatClampNeg, ⟨0, rfl, fun _ => rfl, fun h => h, fun j hj => absurd hj (Nat.not_lt_zero _)⟩, ?_⟩
  rintro _ ⟨i, rfl, h0, h1, hz⟩
  by_cases c : u = 0
  · subst c
    have := h0 rfl
    subst this
    refine ⟨fun _ => hp 0 (fun _ => rfl) (fun h => absurd h (Nat.lt_irrefl _)) hz (fun h => by omega), fun z => absurd (by decide) z⟩
  · obtain ⟨t, rfl⟩ : ∃ t, u = t + 1 := ⟨u - 1, by omega⟩
    rw [show nI (t + 1) - (1 : Int32) = nI t from pk_sub (by omega : 1 ≤ t + 1)]
    have := h1 (by omega)
    refine pk_le t i (fun e => ?_) (fun e => ?_)
    · exact hp i (fun h => by omega) h1 hz (fun h => by omega)
    · refine ⟨pk_in i n0 (by omega), ?_⟩
      have r := hd i (by omega)
      rw [nI_clamp (by omega), r.1]
      have hlt := r.2
      refine (pk_eq (dg A l0 i) 0 (fun z => ?_) (fun z => ?_) rfl rfl (by omega) (by decide)).symm
      · rintro _ rfl
        refine ⟨⟨i + 1, nI_s i, fun h => by omega, fun _ => by omega, fun j hj => ?_⟩, ?_⟩
        · by_cases c2 : j = i
          · subst c2; exact z
          · exact hz j (by omega)
        · dsimp only
          rw [nI_s, nI_clamp (by omega), nI_clamp (by omega)]; omega
      · exact hp i (fun h => by omega) h1 hz (fun _ => z)
theorem s_W_hasOnesUnder {k : Nat} {p q : Int32} (h : wU F A a0 l0 n0 u v) (hv : v ≠ 0) (hp : p = nI (k / 31)) (hq : q = nI (k % 31)) (hk : k < 2 ^ 29) (hn : n0 < 2 ^ 30) {post : Int32 → Prop} (hr : post (if v % 2 ^ k ≠ 0 then 1 else 0)) : vc_W_hasOnesUnder a0 l0 n0 p q F A post := by
  subst hp hq
  have hpos := h.pos
  obtain ⟨p1, p2, p3, p4, p5⟩ := h
  unfold vc_W_hasOnesUnder
  refine s_W_lowestLimb p1 p2 p3 hn (fun f f0 f1 f2 f3 => ?_)
  have hu : 0 < u := by
    rcases Nat.eq_zero_or_pos u with c | c
    · exact absurd (hpos.mp c) hv
    · exact c
  have hfu := f1 hu
  have hdf : dg A l0 f ≠ 0 := by
    by_cases c : f + 1 < u
    · exact f3 c
    · exact p4 f (by omega)
  have hdl := (p3 f hfu).2
  have hpull := ev_pull (B := 2147483648) (d := dg A l0) hfu f2
  rw [p5] at hpull
  generalize hM : ev 2147483648 (fun j => dg A l0 (f + 1 + j)) (u - f - 1) = R at hpull
  have e2 : (2 : Nat) ^ k = 2147483648 ^ (k / 31) * 2 ^ (k % 31) := by
    rw [pow31, ← Nat.pow_add, Nat.div_add_mod]
  have hk2 := Nat.mod_lt k (by decide : 0 < 31)
  refine pk_lt f (k / 31) (fun c => ?_) (fun c => ?_)
  · rw [if_pos (fun z => ?_)] at hr
    · exact hr
    · have hdv : 2147483648 ^ (f + 1) ∣ v := Nat.dvd_trans (Nat.dvd_trans (Nat.pow_dvd_pow _ (by omega : f + 1 ≤ k / 31)) ⟨2 ^ (k % 31), e2⟩) (Nat.dvd_of_mod_eq_zero z)
      rw [hpull, Nat.pow_succ] at hdv
      have hdv := Nat.dvd_of_mul_dvd_mul_left (Nat.pow_pos (by decide)) hdv
      have := Nat.mod_eq_zero_of_dvd hdv
      omega
  · refine (pk_eq f (k / 31) (fun c2 => ?_) (fun c2 => ?_)).symm
    · subst c2
      refine ⟨pk_in (k / 31) n0 (by omega), ?_⟩
      rw [nI_clamp (by omega), (p3 _ hfu).1]
      have e3 : ((1 : Int32) <<< (nI (k % 31) &&& 31)) - (1 : Int32) = nI (2 ^ (k % 31) - 1) := by
        rw [show (1 : Int32) <<< (nI (k % 31) &&& 31) = nI (1 * 2 ^ (k % 31)) from ji_shl 1 (k % 31) (by omega), Nat.one_mul]
        exact pk_sub (Nat.two_pow_pos _)
      have hp2 : (2 : Nat) ^ (k % 31) ≤ 2 ^ 30 := Nat.pow_le_pow_right (by decide) (by omega)
      rw [e3, pk_andN (by omega) (k % 31) (pk_tn (by omega))]
      have hle : dg A l0 (k / 31) % 2 ^ (k % 31) ≤ dg A l0 (k / 31) := Nat.mod_le _ _
      have e4 : v % 2 ^ k = 2147483648 ^ (k / 31) * (dg A l0 (k / 31) % 2 ^ (k % 31)) := by
        rw [e2, hpull, Nat.mul_mod_mul_left]
        congr 1
        rw [show (2147483648 : Nat) = 2 ^ (k % 31) * 2 ^ (31 - k % 31) by
          rw [← Nat.pow_add, show k % 31 + (31 - k % 31) = 31 by omega], Nat.mul_assoc, Nat.add_mul_mod_self_left]
      have hpp : 0 < 2147483648 ^ (k / 31) := Nat.pow_pos (by decide)
      refine pk_eq (dg A l0 (k / 31) % 2 ^ (k % 31)) 0 (fun z => ?_) (fun z => ?_) rfl rfl (by omega) (by decide)
      · rw [if_neg (fun w => w (by rw [e4, z, Nat.mul_zero]))] at hr; exact hr
      · rw [if_pos (fun w => by
          rw [e4] at w
          rcases Nat.mul_eq_zero.mp w with w | w <;> omega)] at hr; exact hr
    · have hz0 : v % 2 ^ k = 0 := by
        have hdv : (2 : Nat) ^ k ∣ 2147483648 ^ f := by
          rw [pow31]; exact Nat.pow_dvd_pow 2 (by omega)
        rw [hpull]
        exact Nat.mod_eq_zero_of_dvd (Nat.dvd_trans hdv (Nat.dvd_mul_right _ _))
      rw [if_neg (fun w => w hz0)] at hr
      exact hr
theorem s_W_takeLowered {x : Int} {k : Nat} {p : Int32} (h1 : wU F A a1 l1 n1 u1 x.natAbs) (b1 : F a1 2 = sb x) (ha : a1 ≠ a0) (hl : l1 ≠ l0) (hp : p = nI k) (hk : k < 2 ^ 29) (hc : u1 < n0) (hn : n0 < 2 ^ 29) (hn1 : n1 < 2 ^ 29) {post : gm_M → gm_M → Prop} (hq : ∀ F' A' : gm_M, fr F A F' A' a0 l0 → wR F' A' a0 l0 n0 (x / 2 ^ k) → post F' A') : vc_W_takeLowered a0 l0 n0 a1 l1 n1 p F A post := by
  subst hp
  have g1 := h1.1
  have hw : u1 ≤ n1 ∧ F a1 1 = nI u1 ∧ dk 2147483648 A l1 u1 := ⟨h1.1, h1.2.1, h1.2.2.1⟩
  unfold vc_W_takeLowered
  rw [show nI k - nI k / (31 : Int32) * (31 : Int32) = nI (k % 31) from pk_rem (by omega) (by decide) (by decide), show nI k / (31 : Int32) = nI (k / 31) from pk_div (by omega) (by decide) (by decide), h1.2.1]
  rintro _ rfl _ rfl
  have hcnt : (if nI u1 - nI (k / 31) < (0 : Int32) then (0 : Int32) else nI u1 - nI (k / 31)) = nI (u1 - k / 31) := by
    by_cases c : u1 < k / 31
    · rw [if_pos (pk_sneg (by omega) c), show u1 - k / 31 = 0 by omega]; rfl
    · rw [pk_sub (by omega : k / 31 ≤ u1), if_neg (nI_pos (by omega))]
  rw [hcnt]
  rintro _ rfl
  generalize hm : u1 - k / 31 = m
  have hq0 : x.natAbs / 2 ^ k < 2147483648 ^ m := by
    have g := h1.lt
    rw [pow31] at g ⊢
    rw [Nat.div_lt_iff_lt_mul (Nat.two_pow_pos k), ← Nat.pow_add]
    exact Nat.lt_of_lt_of_le g (Nat.pow_le_pow_right (by decide) (by omega))
  refine ⟨fun x' A4 => ∃ i, x' = nI i ∧ i ≤ m ∧ sm A A4 l0 i ∧ ∀ j, j < i → A4 l0 j = nI (x.natAbs / 2 ^ k / 2147483648 ^ j % 2147483648), fun x' _ => m - x'.toNatClampNeg, ⟨0, rfl, Nat.zero_le _, sm.rf, fun j hj => absurd hj (Nat.not_lt_zero _)⟩, ?_⟩
  rintro _ A4 ⟨i, rfl, hi, hs, hz⟩
  refine pk_le m i (fun e => ?_) (fun e => ?_)
  · have : i = m := by omega
    subst this
    have hdv : ∀ j, j < i → dg A4 l0 j = x.natAbs / 2 ^ k / 2147483648 ^ j % 2147483648 := fun j hj => dg_of (hz j hj) (by omega)
    have hd : dk 2147483648 A4 l0 i := fun j hj => by
      rw [hdv j hj]; exact ⟨hz j hj, Nat.mod_lt _ (by decide)⟩
    have hev : ev 2147483648 (dg A4 l0) i = x.natAbs / 2 ^ k := by
      rw [ev_congr hdv, ev_all, Nat.mod_eq_of_lt hq0]
    refine s_W_trim (n := i) rfl (by omega) (by omega) hd (fun F' f1 f2 f3 => ?_)
    rw [hev] at f2
    rw [f1 a1 ha, b1]
    have hpp : (0 : Int) < 2 ^ k := by exact_mod_cast Nat.two_pow_pos k
    have hcast : ((2 ^ k : Nat) : Int) = 2 ^ k := by norm_cast
    have fin : ∀ (F5 A5 : gm_M), (∀ b, b ≠ a0 → F5 b = F b) → (∀ b, b ≠ l0 → A5 b = A b) → wM F5 A5 a0 l0 n0 (x / 2 ^ k).natAbs → vc_W_setBelow a0 l0 n0 (sb x) F5 A5 (fun (F_6 : gm_M) => post F_6 A5) := fun F5 A5 e1 e2 e3 =>
      s_W_setBelowR (x := x / 2 ^ k) e3 (by omega) (fun hz => by
        unfold sb
        by_cases c : x < 0
        · rw [if_pos c]
          exact ⟨fun _ => Int.ediv_neg_of_neg_of_pos c hpp, fun _ => by decide⟩
        · rw [if_neg c]
          exact ⟨fun z => absurd rfl z, fun z => absurd (Int.ediv_nonneg (a := x) (b := 2 ^ k) (by omega) (by omega)) (by omega)⟩) (fun F'' g3 g4 => hq F'' A5 ⟨fun b hb => by rw [g3 b hb, e1 b hb], e2⟩ g4)
    by_cases hx : x < 0
    · rw [show sb x = nI 1 from if_pos hx]
      refine pk_eq 1 0 (fun e => absurd e (by decide)) (fun _ => ?_)
      have hx' : x = -((x.natAbs : Nat) : Int) := by omega
      refine s_W_hasOnesUnder (k := k) (h1.congr (f1 a1 ha) (hs.1 l1 hl)) (by omega) rfl rfl hk (by omega) ?_
      have hdm := Nat.div_add_mod x.natAbs (2 ^ k)
      have hml := Nat.mod_lt x.natAbs (Nat.two_pow_pos k)
      by_cases c : x.natAbs % 2 ^ k = 0
      · rw [if_neg (fun z => z c)]
        refine pk_eq 0 0 (fun _ => ?_) (fun e => absurd rfl e)
        rw [show (nI 1 : Int32) = sb x from (if_pos hx).symm]
        refine fin F' A4 f1 hs.1 ?_
        have e5 : x / 2 ^ k = -((x.natAbs / 2 ^ k : Nat) : Int) := by
          rw [← hcast]
          refine Int.ediv_eq_of_eq_mul_right (by rw [hcast]; omega) ?_
          rw [Int.mul_neg, ← Int.natCast_mul]
          omega
        rw [e5, Int.natAbs_neg, Int.natAbs_natCast]
        exact f2
      · rw [if_pos c]
        refine pk_eq 1 0 (fun e => absurd e (by decide)) (fun _ => ?_)
        obtain ⟨u5, f2⟩ := f2
        have hu5 : u5 < n0 := by
          have := f2.le (b := 31 * i) (by rw [← pow31]; exact hq0)
          omega
        refine s_W_growByOne f2 hu5 (by omega) (fun F9 A9 g2 g3 => ?_)
        rw [g2.1 a1 ha, f1 a1 ha, b1]
        refine fin F9 A9 (fun b hb => by rw [g2.1 b hb, f1 b hb]) (fun b hb => by rw [g2.2 b hb, hs.1 b hb]) ?_
        have e5 : x / 2 ^ k = -((x.natAbs / 2 ^ k + 1 : Nat) : Int) := by
          rw [← hcast]
          have h1 : x = ((2 ^ k - x.natAbs % 2 ^ k : Nat) : Int) + ((2 ^ k : Nat) : Int) * (-((x.natAbs / 2 ^ k + 1 : Nat) : Int)) := by
            rw [Int.mul_neg, ← Int.natCast_mul, Nat.mul_add, Nat.mul_one]
            omega
          have key : ∀ (r q : Int), x = r + ((2 ^ k : Nat) : Int) * q → 0 ≤ r → r < ((2 ^ k : Nat) : Int) → x / ((2 ^ k : Nat) : Int) = q := by
            intro r q e h0 h1
            rw [e, Int.add_mul_ediv_left _ _ (by rw [hcast]; omega), Int.ediv_eq_zero_of_lt h0 h1, Int.zero_add]
          exact key _ _ h1 (by omega) (by omega)
        rw [e5, Int.natAbs_neg, Int.natAbs_natCast]
        exact g3
    · rw [show sb x = nI 0 from if_neg hx]
      refine pk_eq 0 0 (fun _ => ?_) (fun e => absurd rfl e)
      rw [show (nI 0 : Int32) = sb x from (if_neg hx).symm]
      refine fin F' A4 f1 hs.1 ?_
      have e5 : x / 2 ^ k = ((x.natAbs / 2 ^ k : Nat) : Int) := by
        rw [Int.natCast_ediv, hcast, Int.natAbs_of_nonneg (by omega)]
      rw [e5, Int.natAbs_natCast]
      exact f2
  · rw [nI_add, nI_s]
    refine s_limb hw (by omega) rfl (by omega) (by rw [hs.1 l1 hl]) (s_limb hw (by omega) rfl (by omega) (by rw [hs.1 l1 hl]) ?_)
    have d1 := h1.dig (k / 31 + i + 1)
    have d0 := h1.dig (k / 31 + i)
    have b1' := dz_lt (i := k / 31 + i + 1) hw.2.2
    have b0' := dz_lt (i := k / 31 + i) hw.2.2
    rw [div_pow_succ] at d1
    have hY : x.natAbs / 2 ^ k / 2147483648 ^ i = x.natAbs / 2147483648 ^ (k / 31 + i) / 2 ^ (k % 31) := by
      rw [Nat.div_div_eq_div_mul, Nat.div_div_eq_div_mul, pow31, pow31, ← Nat.pow_add, ← Nat.pow_add]
      congr 2
      omega
    generalize x.natAbs / 2147483648 ^ (k / 31 + i) = Y at d1 d0 hY
    generalize dz A l1 u1 (k / 31 + i + 1) = D1 at d1 b1' ⊢
    generalize dz A l1 u1 (k / 31 + i) = D0 at d0 b0' ⊢
    rw [nI_l (n := D1) (by omega), nI_l (n := D0) (by omega), show j_lshl (lN D1) (31 : Int32) = lN (D1 * 2 ^ 31) from jl_shl D1 31 (by decide), l_or (a := D1 * 2 ^ 31) (b := D0) (by omega) (by omega), or_add (k := 31) (by omega)]
    rintro _ rfl
    refine ⟨pk_in i n0 (by omega), ?_⟩
    have hk31 := Nat.mod_lt k (by decide : 0 < 31)
    rw [nI_clamp (by omega), jl_ushr (k % 31) (by omega) (by omega), l_m31, lN_i]
    rintro _ rfl _ rfl
    have e1 : (D1 * 2 ^ 31 + D0) / 2 ^ (k % 31) % 2147483648 = x.natAbs / 2 ^ k / 2147483648 ^ i % 2147483648 := by
      rw [hY, show D1 * 2 ^ 31 + D0 = Y % 2 ^ 62 by omega]
      exact mod_div_mod Y (k % 31) (by omega)
    rw [e1]
    refine ⟨⟨i + 1, nI_s i, by omega, hs.up _ (by omega), fun j hj => ?_⟩, ?_⟩
    · by_cases c : j = i
      · subst c; exact up_at _ _ _ _
      · rw [up_ne _ _ c]; exact hz j (by omega)
    · dsimp only
      rw [nI_s, nI_clamp (by omega), nI_clamp (by omega)]; omega
end W6
