/-- a number shifted down -/
theorem dn_abs (x : Int) (k : Nat) : x / 2 ^ k = if x < 0 then (if x.natAbs % 2 ^ k = 0 then -((x.natAbs / 2 ^ k : Nat) : Int) else -((x.natAbs / 2 ^ k + 1 : Nat) : Int)) else ((x.natAbs / 2 ^ k : Nat) : Int) := by
  have hpp : 0 < 2 ^ k := Nat.two_pow_pos k
  have hcast : ((2 ^ k : Nat) : Int) = 2 ^ k := by norm_cast
  have hdm := Nat.mod_add_div x.natAbs (2 ^ k)
  have hml := Nat.mod_lt x.natAbs hpp
  rw [← hcast]
  generalize (2 ^ k : Nat) = P at *
  generalize x.natAbs / P = q at *
  generalize x.natAbs % P = r at *
  have hq : ((P * q : Nat) : Int) = (P : Int) * (q : Int) := by norm_cast
  have hPne : (P : Int) ≠ 0 := by omega
  by_cases c : x < 0
  · rw [if_pos c]
    by_cases d : r = 0
    · rw [if_pos d]
      refine Int.ediv_eq_of_eq_mul_right hPne ?_
      rw [Int.mul_neg, ← hq]; omega
    · rw [if_neg d]
      have e : x = ((P - r : Nat) : Int) + (P : Int) * (-((q + 1 : Nat) : Int)) := by
        have e2 : (P : Int) * (-((q + 1 : Nat) : Int)) = -((P * q : Nat) : Int) - (P : Int) := by rw [hq]; push_cast; grind
        rw [e2]; omega
      rw [e, Int.add_mul_ediv_left _ _ hPne, Int.ediv_eq_zero_of_lt (by omega) (by omega), Int.zero_add]
  · rw [if_neg c]
    have e : x = (r : Int) + (P : Int) * (q : Int) := by rw [← hq]; omega
    rw [e, Int.add_mul_ediv_left _ _ hPne, Int.ediv_eq_zero_of_lt (by omega) (by omega), Int.zero_add]
theorem tb_dig {w k : Nat} : w / 65536 ^ (k / 16) % 65536 / 2 ^ (k % 16) % 2 = w / 2 ^ k % 2 := by
  have e : (2 : Nat) ^ k = 65536 ^ (k / 16) * 2 ^ (k % 16) := by rw [pow16, ← Nat.pow_add]; congr 1; omega
  rw [e, ← Nat.div_div_eq_div_mul]
  exact dig_mod (b := 2) (e := 16) (by omega)
section M11
variable {F A : gm_M} {K : Nat → Nat} {n : Nat} {tx : Nat → Nat} {v : Nat → Int} {a1 n1 u1 v1 a4 n4 : Nat} {p p1 p2 p3 p4 p5 : Int32}
theorem s_M_isBit {u w k : Nat} (hp2 : p2 = nI u) (hp3 : p3 = nI k) (h : aU A a1 u w) (hu : u ≤ n1) (hn : n1 ≤ 9000) (hk : k < 2 ^ 31) {post : Int32 → Prop} (hr : post (nI (w / 2 ^ k % 2))) : vc_M_isBit a1 n1 p2 p3 F A post := by
  subst hp2 hp3
  unfold vc_M_isBit
  rw [show nI k >>> ((4 : Int32) &&& 31) = nI (k / 16) from ji_shr 4 hk (by decide), show nI k &&& (15 : Int32) = nI (k % 16) from pk_andN (by omega) 4 (by decide)]
  refine ⟨fun c => absurd c (nI_pos hk), fun _ => pk_le u (k / 16) (fun c => ?_) (fun c => ⟨pk_in (k / 16) n1 (by omega), ?_⟩)⟩
  · have : w / 2 ^ k = 0 := by
      refine Nat.div_eq_of_lt (Nat.lt_of_lt_of_le h.lt ?_)
      rw [pow16]
      exact Nat.pow_le_pow_right (by decide) (by omega)
    rw [this] at hr; exact hr
  · have r := h.1 (k / 16) c
    have d := h.v.dig (k / 16)
    rw [show dz A a1 u (k / 16) = dg A a1 (k / 16) from if_pos c] at d
    have hl := r.2
    rw [nI_clamp (by omega), r.1, ji_shr _ (by omega) (by omega)]
    have hle : dg A a1 (k / 16) / 2 ^ (k % 16) ≤ dg A a1 (k / 16) := Nat.div_le_self _ _
    rw [show nI (dg A a1 (k / 16) / 2 ^ (k % 16)) &&& (1 : Int32) = nI (dg A a1 (k / 16) / 2 ^ (k % 16) % 2) from pk_andN (by omega) 1 (by decide), ← d, tb_dig]
    have hb : w / 2 ^ k % 2 < 2 := Nat.mod_lt _ (by decide)
    generalize w / 2 ^ k % 2 = b at *
    refine pk_eq b 0 (fun z => ?_) (fun z => ?_)
    · rw [z] at hr; exact hr
    · rw [show b = 1 by omega] at hr; exact hr
theorem s_M_shiftedLeft {u w k : Nat} (hl : a1 ≠ a4) (hp2 : p2 = nI u) (hp3 : p3 = nI k) (h : aV A a1 u w) (hu : u ≤ n1) (hn : n1 ≤ 9000) (hn4 : n4 ≤ 9000) (hk : u + k / 16 < n4) (hk2 : k < 2 ^ 31) {post : Int32 → gm_M → Prop} (hr : ∀ A' r, (∀ b, b ≠ a4 → A' b = A b) → r ≤ u + k / 16 + 1 → aU A' a4 r (w * 2 ^ k) → post (nI r) A') : vc_M_shiftedLeft a1 n1 p2 p3 a4 n4 F A post := by
  subst hp2 hp3
  unfold vc_M_shiftedLeft
  rw [show nI k >>> ((4 : Int32) &&& 31) = nI (k / 16) from ji_shr 4 hk2 (by decide), show nI k &&& (15 : Int32) = nI (k % 16) from pk_andN (by omega) 4 (by decide)]
  rintro _ rfl _ rfl
  generalize hw4 : k / 16 = w4 at *
  have hs16 : k % 16 < 16 := Nat.mod_lt _ (by decide)
  have hkw : w * 2 ^ k = 65536 ^ w4 * (w * 2 ^ (k % 16)) := by
    rw [Nat.mul_left_comm, pow16, ← Nat.pow_add, show 16 * w4 + k % 16 = k by omega]
  generalize k % 16 = s at *
  rw [nI_add]
  refine ⟨pk_in (u + w4) n4 hk, ?_⟩
  rw [nI_clamp (by omega)]
  rintro _ rfl
  have hpow : 2 ^ s ≤ 32768 := Nat.pow_le_pow_right (n := 2) (by decide) (show s ≤ 15 by omega)
  refine ⟨fun x A4 => ∃ z, x = dn z ∧ z ≤ u + 1 ∧ (∀ b, b ≠ a4 → A4 b = A b) ∧ ∀ j, z ≤ j → j ≤ u → A4 a4 (w4 + j) = nI (w * 2 ^ s / 65536 ^ j % 65536), fun x _ => (x.toInt + 1).toNat, ⟨u + 1, (dn_succ u).symm, Nat.le_refl _, fun b hb => gm_off hb, fun j h1 h2 => by omega⟩, ?_⟩
  rintro _ A4 ⟨z, rfl, hz, f1, f2⟩
  refine dn_br z (by omega) (fun e => ?_) (fun t e => ?_)
  · subst e
    refine ⟨fun x A5 => ∃ i, x = nI i ∧ i ≤ w4 ∧ (∀ b, b ≠ a4 → A5 b = A b) ∧ (∀ j, j ≤ u → A5 a4 (w4 + j) = nI (w * 2 ^ s / 65536 ^ j % 65536)) ∧ ∀ j, j < i → A5 a4 j = nI 0, fun x _ => w4 - x.toNatClampNeg, ⟨0, rfl, Nat.zero_le _, f1, fun j hj => f2 j (Nat.zero_le _) hj, fun j hj => absurd hj (Nat.not_lt_zero _)⟩, ?_⟩
    rintro _ A5 ⟨i, rfl, hi, q1, q2, q3⟩
    refine pk_le w4 i (fun e => ?_) (fun e => ?_)
    · have : i = w4 := by omega
      subst this
      have hlt : w * 2 ^ s < 65536 ^ (u + 1) := by
        have a1 := h.lt
        have a2 : w * 2 ^ s < 65536 ^ u * 2 ^ s := Nat.mul_lt_mul_of_pos_right a1 (Nat.two_pow_pos s)
        have a3 : 65536 ^ u * 2 ^ s ≤ 65536 ^ u * 65536 := Nat.mul_le_mul_left _ (by omega)
        rw [Nat.pow_succ]
        omega
      have hd1 : ∀ j, j ≤ u → dg A5 a4 (i + j) = w * 2 ^ s / 65536 ^ j % 65536 := fun j hj => dg_of (q2 j hj) (Nat.lt_trans (Nat.mod_lt _ (by decide)) (by decide))
      have hd0 : ∀ j, j < i → dg A5 a4 j = 0 := fun j hj => dg_of (q3 j hj) (by decide)
      refine s_M_trim (m := u + i + 1) (v := w * 2 ^ k) (nI_s _) (by omega) hn4 ⟨fun j hj => ?_, ?_⟩ (fun r hr1 hr2 => hr A5 r q1 (by omega) hr2)
      · by_cases c : j < i
        · rw [hd0 j c]; exact ⟨q3 j c, by decide⟩
        · have := hd1 (j - i) (by omega)
          have e2 := q2 (j - i) (by omega)
          rw [show i + (j - i) = j by omega] at this e2
          rw [this]; exact ⟨e2, Nat.mod_lt _ (by decide)⟩
      · rw [show u + i + 1 = i + (u + 1) by omega, ev_add, ev_zero hd0, Nat.zero_add, hkw]
        congr 1
        rw [ev_congr (e := fun j => w * 2 ^ s / 65536 ^ j % 65536) (fun j hj => hd1 j (by omega)), ev_all, Nat.mod_eq_of_lt hlt]
    · refine ⟨pk_in i n4 (by omega), ?_⟩
      rw [nI_clamp (by omega)]
      rintro _ rfl _ rfl
      refine ⟨⟨i + 1, nI_s i, by omega, fun b hb => by rw [gm_off hb, q1 b hb], fun j hj => by rw [up_ne _ _ (by omega)]; exact q2 j hj, fun j hj => ?_⟩, ?_⟩
      · by_cases c : j = i
        · subst c; exact up_at _ _ _ _
        · rw [up_ne _ _ c]; exact q3 j (by omega)
      · dsimp only
        rw [nI_s, nI_clamp (by omega), nI_clamp (by omega)]; omega
  · subst e
    rw [dn_succ]
    have dt := h.dig t
    have hdl := dz_lt16 (i := t) h.1
    have hD : dz A a1 u t * 2 ^ s ≤ 65535 * 32768 := Nat.mul_le_mul (by omega) hpow
    refine ⟨fun x => x = nI (dz A a1 u t * 2 ^ s), pk_le u t (fun c => ?_) (fun c => ⟨pk_in t n1 (by omega), ?_⟩), ?_⟩
    · unfold dz; rw [if_neg (by omega), Nat.zero_mul]; rfl
    · rw [nI_clamp (by omega), f1 a1 hl, (h.1 t c).1, ji_shl _ _ (by omega)]; unfold dz; rw [if_pos c]
    rintro _ rfl
    rw [nI_add]
    have next : ∀ x : Int32, x = nI (w * 2 ^ s / 65536 ^ t % 65536) → ∀ A_10 : gm_M, A_10 = gm_up A4 a4 (nI (t + w4)).toNatClampNeg x → ∀ x6_11 : Int32, x6_11 = nI t + (-1 : Int32) → (∃ z, x6_11 = dn z ∧ z ≤ u + 1 ∧ (∀ b, b ≠ a4 → A_10 b = A b) ∧ ∀ j, z ≤ j → j ≤ u → A_10 a4 (w4 + j) = nI (w * 2 ^ s / 65536 ^ j % 65536)) ∧ (x6_11.toInt + 1).toNat < ((nI t).toInt + 1).toNat := by
      rintro _ rfl _ rfl _ rfl
      rw [nI_clamp (by omega)]
      refine ⟨⟨t, dn_next t, by omega, fun b hb => by rw [gm_off hb, f1 b hb], fun j h1 h2 => ?_⟩, ?_⟩
      · by_cases c : j = t
        · subst c; rw [Nat.add_comm]; exact up_at _ _ _ _
        · rw [up_ne _ _ (by omega)]; exact f2 j (by omega) h2
      · rw [dn_next, dn_mu t (by omega), nI_toInt (by omega)]; omega
    refine pk_le t 0 (fun c => ⟨pk_in (t + w4) n4 (by omega), next _ ?_⟩) (fun c => ?_)
    · have : t = 0 := by omega
      subst this
      rw [Nat.pow_zero, Nat.div_one] at dt ⊢
      rw [show nI (dz A a1 u 0 * 2 ^ s) ||| (0 : Int32) = nI (dz A a1 u 0 * 2 ^ s ||| 0) from i_or (b := 0) (by omega) (by decide), Nat.or_zero, i_m16 (by omega), ← dt, Nat.mul_mod, Nat.mod_mod, ← Nat.mul_mod]
    · obtain ⟨q, rfl⟩ : ∃ q, t = q + 1 := ⟨t - 1, by omega⟩
      rw [nI_m1 (by omega), Nat.add_sub_cancel]
      refine ⟨pk_in q n1 (by omega), pk_in (q + 1 + w4) n4 (by omega), next _ ?_⟩
      have rq := h.1 q (by omega)
      have dq := h.dig q
      rw [show dz A a1 u q = dg A a1 q from if_pos (by omega)] at dq
      have lq := rq.2
      rw [nI_clamp (by omega), f1 a1 hl, rq.1, show (16 : Int32) - nI s = nI (16 - s) from pk_sub (a := 16) (b := s) (by omega), ji_shr _ (by omega) (by omega)]
      have hq2 : dg A a1 q / 2 ^ (16 - s) < 2 ^ s := by
        refine Nat.div_lt_of_lt_mul ?_
        rw [← Nat.pow_add, show 16 - s + s = 16 by omega]
        exact lq
      rw [i_or (by omega) (by omega), or_add hq2, i_m16 (by omega), ← dt, ← dq, dig_shl hs16]
end M11
