/-! pieces of the reference's division -/
theorem l_mk16 {L D : Nat} (hL : L < 2 ^ 32) (hD : D < 65536) : j_lshl (lN L) (16 : Int32) ||| lN D = lN (L * 65536 + D) := by
  rw [show j_lshl (lN L) (16 : Int32) = lN (L * 2 ^ 16) from jl_shl L 16 (by decide), l_or (a := L * 2 ^ 16) (b := D) (by omega) (by omega), or_add (k := 16) (by omega)]
theorem div_step {B d Y L D : Nat} (hd0 : 0 < d) (hdt : Y % B = D) (hL : L = Y / B % d) : Y / d = (L * B + D) / d + B * (Y / B / d) ∧ Y % d = (L * B + D) % d := by
  have hY2 : Y = (L * B + D) + d * (B * (Y / B / d)) := by
    have h1 := Nat.div_add_mod Y B
    have h2 := Nat.div_add_mod (Y / B) d
    rw [hdt] at h1
    rw [← hL] at h2
    grind
  generalize Y / B / d = q at hY2 ⊢
  exact ⟨by rw [hY2, Nat.add_mul_div_left _ _ hd0], by rw [hY2, Nat.add_mul_mod_self_left]⟩
theorem dig_mix {y c P : Nat} (h : P * c = 65536) (hc : 0 < c) : (y / 65536 % 65536 * P + y % 65536 / c) % 65536 = y / c % 65536 := by
  have e1 : y / c = y / 65536 * P + y % 65536 / c := by
    have := Nat.mod_add_div y 65536
    have e2 : y = y % 65536 + c * (P * (y / 65536)) := by
      rw [← Nat.mul_assoc, Nat.mul_comm c P, h]; exact this.symm
    generalize y % 65536 = r at *
    generalize y / 65536 = q at *
    rw [e2, Nat.add_mul_div_left _ _ hc, Nat.add_comm, Nat.mul_comm P]
  rw [e1]
  have e3 := Nat.mod_add_div (y / 65536) 65536
  generalize y % 65536 / c = e
  generalize y / 65536 / 65536 = k at *
  generalize y / 65536 % 65536 = r at *
  rw [← e3, show (r + 65536 * k) * P + e = r * P + e + 65536 * (k * P) by grind, Nat.add_mul_mod_self_left]
theorem dig_shl {v t s : Nat} (hs : s < 16) : (v / 65536 ^ (t + 1) % 65536 * 2 ^ s + v / 65536 ^ t % 65536 / 2 ^ (16 - s)) % 65536 = v * 2 ^ s / 65536 ^ (t + 1) % 65536 := by
  have h : 2 ^ s * 2 ^ (16 - s) = 65536 := by rw [← Nat.pow_add, show s + (16 - s) = 16 by omega]
  have e : v * 2 ^ s / 65536 ^ (t + 1) = v / 65536 ^ t / 2 ^ (16 - s) := by
    rw [Nat.pow_succ, Nat.div_div_eq_div_mul]
    have : 65536 ^ t * 65536 = 65536 ^ t * 2 ^ (16 - s) * 2 ^ s := by rw [Nat.mul_assoc, Nat.mul_comm (2 ^ (16 - s)), h]
    rw [this, Nat.mul_div_mul_right _ _ (Nat.two_pow_pos s)]
  rw [e, div_pow_succ, dig_mix h (Nat.two_pow_pos _)]
theorem dig_shr {v t s : Nat} (hs : s ≤ 16) : (v / 65536 ^ t % 65536 / 2 ^ s + v / 65536 ^ (t + 1) % 65536 * 2 ^ (16 - s)) % 65536 = v / 2 ^ s / 65536 ^ t % 65536 := by
  have h : 2 ^ (16 - s) * 2 ^ s = 65536 := by rw [← Nat.pow_add, show 16 - s + s = 16 by omega]
  rw [Nat.add_comm, div_pow_succ, dig_mix h (Nat.two_pow_pos _), Nat.div_div_eq_div_mul, Nat.div_div_eq_div_mul, Nat.mul_comm]
theorem md_norm {d : Nat} (hd0 : 0 < d) (hd : d < 65536) {R : Int32 → Prop} (hR : ∀ s, s < 16 → 32768 ≤ d * 2 ^ s → d * 2 ^ s < 65536 → R (nI s)) {x : Int32} (hx : x = nI d) : ∃ (I : Int32 → Int32 → Prop) (μ : Int32 → Int32 → Nat), I (0 : Int32) x ∧ ∀ (x6 : Int32) (x7 : Int32), I x6 x7 →
    (((32768 : Int32) ≤ x7 → R x6) ∧ (¬ (32768 : Int32) ≤ x7 →
      ∀ x6_52 : Int32, x6_52 = x6 + (1 : Int32) →
      ∀ x7_53 : Int32, x7_53 = (x7 <<< ((1 : Int32) &&& 31)) →
      I x6_52 x7_53 ∧ μ x6_52 x7_53 < μ x6 x7)) := by
  subst hx
  refine ⟨fun x y => ∃ s, x = nI s ∧ y = nI (d * 2 ^ s) ∧ d * 2 ^ s < 65536, fun _ y => 65536 - y.toNatClampNeg, ⟨0, rfl, by rw [Nat.pow_zero, Nat.mul_one], by rw [Nat.pow_zero, Nat.mul_one]; exact hd⟩, ?_⟩
  rintro _ _ ⟨s, rfl, rfl, h⟩
  have hs : s < 16 := by
    have : 2 ^ s < 2 ^ 16 := by
      have := Nat.mul_le_mul_right (2 ^ s) (show 1 ≤ d from hd0)
      omega
    exact (Nat.pow_lt_pow_iff_right (by decide : 1 < 2)).mp this
  refine pk_le 32768 (d * 2 ^ s) (fun c => hR s hs c h) (fun c => ?_)
  rw [show nI (d * 2 ^ s) <<< ((1 : Int32) &&& 31) = nI (d * 2 ^ s * 2) from ji_shl _ 1 (by decide)]
  have e : d * 2 ^ s * 2 = d * 2 ^ (s + 1) := by rw [Nat.pow_succ, Nat.mul_assoc]
  rw [e]
  rintro _ rfl _ rfl
  have : 0 < d * 2 ^ s := Nat.mul_pos hd0 (Nat.two_pow_pos _)
  refine ⟨⟨s + 1, nI_s s, rfl, by omega⟩, ?_⟩
  dsimp only
  rw [nI_clamp (by omega), nI_clamp (by omega)]; omega
theorem md_shl {A : gm_M} {s t c v ns nt by_ : Nat} {R : gm_M → Prop} (hb : by_ < 16) (h : aV A s c v) (hns : c ≤ ns) (hnt : c ≤ nt) (hn : ns ≤ 9000) (hn' : nt ≤ 9000) (hR : ∀ A', (∀ b, b ≠ t → A' b = A b) → (∀ j, c ≤ j → A' t j = A t j) → (∀ j, j < c → A' t j = nI (v * 2 ^ by_ / 65536 ^ j % 65536)) → R A') {x : Int32} (hx : x = dn c) : ∃ (I : Int32 → gm_M → Prop) (μ : Int32 → gm_M → Nat), I x A ∧ ∀ (x7 : Int32) (A5 : gm_M), I x7 A5 →
    ((x7 < (0) → R A5) ∧ (¬ x7 < (0) →
      (vp_in x7 ns) ∧
      ((x7 ≤ (0) →
        (vp_in x7 nt) ∧ ∀ A48 : gm_M, A48 = gm_up A5 t x7.toNatClampNeg ((((A5 s x7.toNatClampNeg) <<< (nI by_ &&& 31)) ||| (0 : Int32)) &&& (65535 : Int32)) →
        ∀ x49 : Int32, x49 = x7 + (-1 : Int32) →
        I x49 A48 ∧ μ x49 A48 < μ x7 A5) ∧ (¬ x7 ≤ (0) →
        (vp_in (x7 - (1 : Int32)) ns) ∧
        (vp_in x7 nt) ∧ ∀ A50 : gm_M, A50 = gm_up A5 t x7.toNatClampNeg ((((A5 s x7.toNatClampNeg) <<< (nI by_ &&& 31)) ||| ((A5 s (x7 - (1 : Int32)).toNatClampNeg) >>> (((16 : Int32) - nI by_) &&& 31))) &&& (65535 : Int32)) →
        ∀ x51 : Int32, x51 = x7 + (-1 : Int32) →
        I x51 A50 ∧ μ x51 A50 < μ x7 A5)))) := by
  subst hx
  have hpow : 2 ^ by_ ≤ 32768 := by
    have := Nat.pow_le_pow_right (n := 2) (by decide) (show by_ ≤ 15 by omega)
    exact this
  refine ⟨fun x A5 => ∃ z, x = dn z ∧ z ≤ c ∧ (∀ b, b ≠ t → A5 b = A b) ∧ (∀ j, j < z ∨ c ≤ j → A5 t j = A t j) ∧ ∀ j, z ≤ j → j < c → A5 t j = nI (v * 2 ^ by_ / 65536 ^ j % 65536), fun x _ => (x.toInt + 1).toNat, ⟨c, rfl, Nat.le_refl _, fun _ _ => rfl, fun _ _ => rfl, fun j h1 h2 => by omega⟩, ?_⟩
  rintro _ A5 ⟨z, rfl, hz, f1, f2, f3⟩
  refine dn_br z (by omega) (fun e => ?_) (fun k e => ?_)
  · subst e
    exact hR A5 f1 (fun j hj => f2 j (Or.inr hj)) (fun j hj => f3 j (Nat.zero_le _) hj)
  · subst e
    rw [dn_succ]
    have rd : ∀ j, j < k + 1 → A5 s j = A s j := fun j hj => by
      by_cases e : s = t
      · subst e; exact f2 j (Or.inl hj)
      · rw [f1 s e]
    have rk := h.1 k (by omega)
    have dk := h.dig k
    rw [show dz A s c k = dg A s k from if_pos (by omega)] at dk
    have lk := rk.2
    refine ⟨pk_in k ns (by omega), ?_⟩
    have next : ∀ x : Int32, x = nI (v * 2 ^ by_ / 65536 ^ k % 65536) → ∀ A48 : gm_M, A48 = gm_up A5 t k x → ∀ x49 : Int32, x49 = nI k + (-1 : Int32) → (∃ z, x49 = dn z ∧ z ≤ c ∧ (∀ b, b ≠ t → A48 b = A b) ∧ (∀ j, j < z ∨ c ≤ j → A48 t j = A t j) ∧ ∀ j, z ≤ j → j < c → A48 t j = nI (v * 2 ^ by_ / 65536 ^ j % 65536)) ∧ (x49.toInt + 1).toNat < ((nI k).toInt + 1).toNat := by
      rintro _ rfl _ rfl _ rfl
      refine ⟨⟨k, dn_next k, by omega, fun b hb => by rw [gm_off hb, f1 b hb], fun j hj => ?_, fun j h1 h2 => ?_⟩, ?_⟩
      · rw [up_ne _ _ (by omega)]; exact f2 j (by omega)
      · by_cases e : j = k
        · subst e; exact up_at _ _ _ _
        · rw [up_ne _ _ e]; exact f3 j (by omega) h2
      · rw [dn_next, dn_mu k (by omega), nI_toInt (by omega)]; omega
    rw [nI_clamp (by omega), rd k (by omega), rk.1]
    have hD : dg A s k * 2 ^ by_ ≤ 65535 * 32768 := Nat.mul_le_mul (by omega) hpow
    refine pk_le k 0 (fun c0 => ⟨pk_in k nt (by omega), next _ ?_⟩) (fun c0 => ?_)
    · have : k = 0 := by omega
      subst this
      rw [Nat.pow_zero, Nat.div_one] at dk ⊢
      rw [ji_shl _ _ (by omega), show nI (dg A s 0 * 2 ^ by_) ||| (0 : Int32) = nI (dg A s 0 * 2 ^ by_ ||| 0) from i_or (b := 0) (by omega) (by decide), Nat.or_zero, i_m16 (by omega), ← dk, Nat.mul_mod, Nat.mod_mod, ← Nat.mul_mod]
    · obtain ⟨q, rfl⟩ : ∃ q, k = q + 1 := ⟨k - 1, by omega⟩
      rw [nI_m1 (by omega), Nat.add_sub_cancel]
      refine ⟨pk_in q ns (by omega), pk_in (q + 1) nt (by omega), next _ ?_⟩
      have rq := h.1 q (by omega)
      have dq := h.dig q
      rw [show dz A s c q = dg A s q from if_pos (by omega)] at dq
      have lq := rq.2
      rw [nI_clamp (by omega), rd q (by omega), rq.1, ji_shl _ _ (by omega), show (16 : Int32) - nI by_ = nI (16 - by_) from pk_sub (a := 16) (b := by_) (by omega), ji_shr _ (by omega) (by omega)]
      have hq2 : dg A s q / 2 ^ (16 - by_) < 2 ^ by_ := by
        refine Nat.div_lt_of_lt_mul ?_
        rw [← Nat.pow_add, show 16 - by_ + by_ = 16 by omega]
        exact lq
      rw [i_or (by omega) (by omega), or_add hq2, i_m16 (by omega), ← dk, ← dq, dig_shl hb]
theorem md_shr {A : gm_M} {a n1 m W by_ : Nat} {R : gm_M → Prop} (hb : by_ < 16) (h : aV A a (m + 1) W) (hm : m < n1) (hn : n1 ≤ 9000) (hR : ∀ A', (∀ b, b ≠ a → A' b = A b) → (∀ j, j < m → A' a j = nI (W / 2 ^ by_ / 65536 ^ j % 65536)) → R A') : ∃ (I : Int32 → gm_M → Prop) (μ : Int32 → gm_M → Nat), I (0 : Int32) A ∧ ∀ (x7 : Int32) (A12 : gm_M), I x7 A12 →
    ((nI m ≤ x7 → R A12) ∧ (¬ nI m ≤ x7 →
      (vp_in x7 n1) ∧
      ((nI m < (x7 + (1 : Int32)) →
        (vp_in x7 n1) ∧ ∀ A_14 : gm_M, A_14 = gm_up A12 a x7.toNatClampNeg ((((A12 a x7.toNatClampNeg) >>> (nI by_ &&& 31)) ||| (0 : Int32)) &&& (65535 : Int32)) →
        ∀ x7_15 : Int32, x7_15 = x7 + (1 : Int32) →
        I x7_15 A_14 ∧ μ x7_15 A_14 < μ x7 A12) ∧ (¬ nI m < (x7 + (1 : Int32)) →
        (vp_in (x7 + (1 : Int32)) n1) ∧
        (vp_in x7 n1) ∧ ∀ A_16 : gm_M, A_16 = gm_up A12 a x7.toNatClampNeg ((((A12 a x7.toNatClampNeg) >>> (nI by_ &&& 31)) ||| ((A12 a (x7 + (1 : Int32)).toNatClampNeg) <<< (((16 : Int32) - nI by_) &&& 31))) &&& (65535 : Int32)) →
        ∀ x7_17 : Int32, x7_17 = x7 + (1 : Int32) →
        I x7_17 A_16 ∧ μ x7_17 A_16 < μ x7 A12)))) := by
  refine ⟨fun x A5 => ∃ i, x = nI i ∧ i ≤ m ∧ (∀ b, b ≠ a → A5 b = A b) ∧ (∀ j, i ≤ j → A5 a j = A a j) ∧ ∀ j, j < i → A5 a j = nI (W / 2 ^ by_ / 65536 ^ j % 65536), fun x _ => m - x.toNatClampNeg, ⟨0, rfl, Nat.zero_le _, fun _ _ => rfl, fun _ _ => rfl, fun j hj => absurd hj (Nat.not_lt_zero _)⟩, ?_⟩
  rintro _ A5 ⟨i, rfl, hi, f1, f2, f3⟩
  refine pk_le m i (fun e => ?_) (fun e => ⟨pk_in i n1 (by omega), ?_⟩)
  · have : i = m := by omega
    subst this
    exact hR A5 f1 f3
  · rw [nI_s]
    refine pk_lt m (i + 1) (fun c => by omega) (fun c => ⟨pk_in (i + 1) n1 (by omega), pk_in i n1 (by omega), ?_⟩)
    have r0 := h.1 i (by omega)
    have r1 := h.1 (i + 1) (by omega)
    have d0 := h.dig i
    have d1 := h.dig (i + 1)
    rw [show dz A a (m + 1) i = dg A a i from if_pos (by omega)] at d0
    rw [show dz A a (m + 1) (i + 1) = dg A a (i + 1) from if_pos (by omega)] at d1
    have l0 := r0.2
    have l1 := r1.2
    rw [nI_clamp (by omega), nI_clamp (by omega), f2 i (by omega), f2 (i + 1) (by omega), r0.1, r1.1]
    have hpow : 2 ^ (16 - by_) ≤ 65536 := Nat.pow_le_pow_right (n := 2) (by decide) (show 16 - by_ ≤ 16 by omega)
    have hD : dg A a (i + 1) * 2 ^ (16 - by_) ≤ 65535 * 65536 := Nat.mul_le_mul (by omega) hpow
    have hq2 : dg A a i / 2 ^ by_ < 2 ^ (16 - by_) := by
      refine Nat.div_lt_of_lt_mul ?_
      rw [← Nat.pow_add, show by_ + (16 - by_) = 16 by omega]
      exact l0
    rw [ji_shr _ (by omega) (by omega), show (16 : Int32) - nI by_ = nI (16 - by_) from pk_sub (a := 16) (b := by_) (by omega), ji_shl _ _ (by omega), i_or (by omega) (by omega), or_add' hq2, i_m16 (by omega), ← d0, ← d1, dig_shr (by omega)]
    rintro _ rfl _ rfl
    refine ⟨⟨i + 1, rfl, by omega, fun b hb => by rw [gm_off hb, f1 b hb], fun j hj => by rw [up_ne _ _ (by omega)]; exact f2 j (by omega), fun j hj => ?_⟩, ?_⟩
    · by_cases c2 : j = i
      · subst c2; exact up_at _ _ _ _
      · rw [up_ne _ _ c2]; exact f3 j (by omega)
    · dsimp only
      rw [nI_clamp (by omega), nI_clamp (by omega)]; omega
theorem md_short {A : gm_M} {a1 n1 a3 n3 a5 n5 u v d : Nat} {R : Int64 → gm_M → Prop} (h13 : a1 ≠ a3) (h15 : a1 ≠ a5) (h35 : a3 ≠ a5) (h : aV A a1 u v) (hd : A a3 0 = nI d) (hd0 : 0 < d) (hd2 : d < 65536) (hn1 : u ≤ n1) (hn3 : 1 ≤ n3) (hn5 : u ≤ n5) (hn1' : n1 ≤ 9000) (hn3' : n3 ≤ 9000) (hn5' : n5 ≤ 9000) (hR : ∀ A', (∀ b, b ≠ a1 → b ≠ a5 → A' b = A b) → aV A' a5 u (v / d) → R (lN (v % d)) A') {x : Int32} (hx : x = dn u) : ∃ (I_32 : Int64 → Int32 → gm_M → Prop) (μ_32 : Int64 → Int32 → gm_M → Nat), I_32 (0 : Int64) x A ∧ ∀ (x6_55 : Int64) (x8_55 : Int32) (A_55 : gm_M), I_32 x6_55 x8_55 A_55 →
    ((x8_55 < (0) → R x6_55 A_55) ∧ (¬ x8_55 < (0) →
      (vp_in x8_55 n1) ∧
      ∀ x6_60 : Int64, x6_60 = ((j_lshl x6_55 (16 : Int32)) ||| ((A_55 a1 x8_55.toNatClampNeg).toInt64)) →
      (vp_in (0 : Int32) n3) ∧
      (¬ ((A_55 a3 (0 : Int32).toNatClampNeg).toInt64) = 0) ∧
      (vp_in x8_55 n5) ∧ ∀ A_61 : gm_M, A_61 = gm_up A_55 a5 x8_55.toNatClampNeg ((x6_60 / ((A_55 a3 (0 : Int32).toNatClampNeg).toInt64)).toInt32) →
      (vp_in (0 : Int32) n3) ∧
      (¬ ((A_61 a3 (0 : Int32).toNatClampNeg).toInt64) = 0) ∧
      ∀ x6_62 : Int64, x6_62 = (x6_60 - x6_60 / ((A_61 a3 (0 : Int32).toNatClampNeg).toInt64) * ((A_61 a3 (0 : Int32).toNatClampNeg).toInt64)) →
      (vp_in x8_55 n1) ∧ ∀ A_63 : gm_M, A_63 = gm_up A_61 a1 x8_55.toNatClampNeg (0 : Int32) →
      ∀ x8_64 : Int32, x8_64 = x8_55 + (-1 : Int32) →
      I_32 x6_62 x8_64 A_63 ∧ μ_32 x6_62 x8_64 A_63 < μ_32 x6_55 x8_55 A_55)) := by
  subst hx
  refine ⟨fun y x A2 => ∃ z L, x = dn z ∧ z ≤ u ∧ y = lN L ∧ L = v / 65536 ^ z % d ∧ (∀ b, b ≠ a1 → b ≠ a5 → A2 b = A b) ∧ (∀ j, j < z → A2 a1 j = A a1 j) ∧ (∀ j, z ≤ j → j < u → A2 a5 j = nI (dg A2 a5 j) ∧ dg A2 a5 j < 65536) ∧ ev 65536 (fun j => dg A2 a5 (z + j)) (u - z) = v / 65536 ^ z / d, fun _ x _ => (x.toInt + 1).toNat, ⟨u, 0, rfl, Nat.le_refl _, rfl, ?_, fun _ _ _ => rfl, fun _ _ => rfl, fun j h1 h2 => by omega, ?_⟩, ?_⟩
  · rw [Nat.div_eq_of_lt h.lt, Nat.zero_mod]
  · rw [Nat.div_eq_of_lt h.lt, Nat.zero_div, Nat.sub_self]; rfl
  rintro _ _ A2 ⟨z, L, rfl, hz, rfl, hL, hs, hs1, hdk, he⟩
  refine dn_br z (by omega) (fun e => ?_) (fun t e => ?_)
  · subst e
    rw [Nat.pow_zero, Nat.div_one] at hL he
    rw [hL]
    refine hR A2 hs ⟨fun j hj => hdk j (Nat.zero_le _) hj, ?_⟩
    rw [← he]
    exact ev_congr (fun j _ => by rw [Nat.zero_add])
  · subst e
    have hdt := h.dig t
    rw [show dz A a1 u t = dg A a1 t from if_pos (by omega)] at hdt
    have r1 := h.1 t (by omega)
    have hlt := r1.2
    have hLd : L < d := by rw [hL]; exact Nat.mod_lt _ hd0
    rw [dn_succ]
    refine ⟨pk_in t n1 (by omega), ?_⟩
    have e3 : A2 a3 0 = nI d := by rw [hs a3 h13.symm h35]; exact hd
    rw [nI_clamp (by omega), hs1 t (by omega), r1.1, show (0 : Int32).toNatClampNeg = 0 from rfl, e3]
    rw [div_pow_succ] at hL he
    generalize hY : v / 65536 ^ t = Y at hL he hdt
    generalize dg A a1 t = D at hdt hlt ⊢
    have hLD : L * 65536 + D < d * 65536 := by omega
    obtain ⟨hq1, hq2⟩ := div_step hd0 hdt hL
    have hqlt : (L * 65536 + D) / d < 65536 := Nat.div_lt_of_lt_mul hLD
    have hL16 : L < 2 ^ 32 := by omega
    rw [nI_l (n := D) (by omega), l_mk16 hL16 hlt, nI_l (n := d) (by omega)]
    rintro _ rfl
    have hne : ¬ lN d = 0 := fun z => by
      have := (pk_lEQ (a := d) (b := 0) (by omega) (by omega)).mp z
      omega
    refine ⟨pk_in 0 n3 (by omega), hne, pk_in t n5 (by omega), ?_⟩
    rw [pk_lDiv (by omega) hd0 (by omega), lN_i]
    rintro _ rfl
    refine ⟨pk_in 0 n3 (by omega), ?_⟩
    rw [gm_off h35, e3, nI_l (n := d) (by omega), pk_lRem (by omega) hd0 (by omega)]
    refine ⟨hne, ?_⟩
    rintro _ rfl
    refine ⟨pk_in t n1 (by omega), ?_⟩
    rintro _ rfl _ rfl
    have e5 : gm_up (gm_up A2 a5 t (nI ((L * 65536 + D) / d))) a1 t 0 a5 = gm_up A2 a5 t (nI ((L * 65536 + D) / d)) a5 := gm_off h15.symm
    refine ⟨⟨t, (L * 65536 + D) % d, dn_next t, by omega, rfl, ?_, fun b b1 b5 => by rw [gm_off b1, gm_off b5, hs b b1 b5], fun j hj => by rw [up_ne _ _ (by omega), gm_off h15]; exact hs1 j (by omega), fun j h1 h2 => ?_, ?_⟩, ?_⟩
    · rw [hY, hq2]
    · rw [dg_congr (A := gm_up A2 a5 t (nI ((L * 65536 + D) / d))) (by rw [e5]), e5]
      by_cases c : j = t
      · subst c
        rw [dg_at _ _ _ (by omega), up_at]
        exact ⟨rfl, hqlt⟩
      · rw [dg_ne _ _ c, up_ne _ _ c]
        exact hdk j (by omega) h2
    · have e6 : ev 65536 (fun j => dg (gm_up (gm_up A2 a5 t (nI ((L * 65536 + D) / d))) a1 t 0) a5 (t + j)) (u - t) = ev 65536 (fun j => dg (gm_up A2 a5 t (nI ((L * 65536 + D) / d))) a5 (t + j)) (u - t) := ev_congr (fun j _ => dg_congr (by rw [e5]))
      rw [e6, show u - t = (u - (t + 1)) + 1 by omega, ev_cons, dg_at _ _ _ (by omega), hY, hq1, ← he]
      congr 2
      exact ev_congr (fun j _ => dg_ne _ _ (by omega))
    · dsimp only
      rw [dn_next, dn_mu _ (by omega), nI_toInt (by omega)]; omega
