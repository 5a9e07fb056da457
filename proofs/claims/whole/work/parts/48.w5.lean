theorem ev_all {B : Nat} (q n : Nat) : ev B (fun i => q / B ^ i % B) n = q % B ^ n := by
  induction n with
  | zero => simp only [ev, Nat.pow_zero, Nat.mod_one]
  | succ n ih => simp only [ev]; rw [ih, Nat.mod_pow_succ, Nat.mul_comm]
theorem nI_s (i : Nat) : nI i + (1 : Int32) = nI (i + 1) := nI_add i 1
section W5
variable {F A : gm_M} {a0 l0 n0 u v a1 l1 n1 u1 v1 a2 l2 n2 u2 v2 : Nat}
theorem s_W_addRow {T i0 : Nat} {p : Int64} {q : Int32} (hp : p = lN T) (hT : T < 2147483648) (hq : q = nI i0) (h2 : wU F A a2 l2 n2 u2 v2) (hl : l2 ≠ l0) (hd0 : dk 2147483648 A l0 (i0 + u2)) (hi : i0 + u2 < n0) (hn : n0 < 2 ^ 30) (hn2 : n2 < 2 ^ 30) {post : gm_M → Prop} (hr : ∀ A' : gm_M, sm A A' l0 (i0 + u2 + 1) → dk 2147483648 A' l0 (i0 + u2 + 1) → ev 2147483648 (dg A' l0) (i0 + u2 + 1) = ev 2147483648 (dg A l0) (i0 + u2) + T * v2 * 2147483648 ^ i0 → post A') : vc_W_addRow a0 l0 n0 p a2 l2 n2 q F A post := by
  subst hp hq
  obtain ⟨p1, p2, p3, p4, p5⟩ := h2
  unfold vc_W_addRow
  rw [p2]
  refine ⟨fun y x A1 => ∃ j k, x = nI j ∧ y = lN k ∧ j ≤ u2 ∧ k < 2147483648 ∧ sm A A1 l0 (i0 + j) ∧ dk 2147483648 A1 l0 (i0 + j) ∧ ev 2147483648 (dg A1 l0) (i0 + j) + k * 2147483648 ^ (i0 + j) = ev 2147483648 (dg A l0) (i0 + j) + T * ev 2147483648 (dg A l2) j * 2147483648 ^ i0, fun _ x _ => u2 - x.toNatClampNeg, ⟨0, 0, rfl, rfl, Nat.zero_le _, by decide, sm.rf, dk_le hd0 (by omega), by simp only [ev, Nat.zero_mul, Nat.add_zero, Nat.mul_zero]⟩, ?_⟩
  rintro _ _ A1 ⟨j, k, rfl, rfl, hj, hk, hs, hd, he⟩
  refine pk_le u2 j (fun e => ?_) (fun e => ?_)
  · have : j = u2 := by omega
    subst this
    rw [nI_add]
    refine ⟨pk_in (i0 + j) n0 hi, ?_⟩
    rw [nI_clamp (by omega), lN_i]
    rintro _ rfl
    refine hr _ (hs.up _ (by omega)) (dk_up hd hk (by decide)) ?_
    rw [ev_at (by omega), he, p5]
  · have r1 := p3 j e
    have r0 := hd0 (i0 + j) (by omega)
    refine ⟨pk_in j n2 (by omega), ?_⟩
    rw [nI_add]
    refine ⟨pk_in (i0 + j) n0 (by omega), ?_⟩
    rw [nI_clamp (by omega), nI_clamp (by omega), hs.1 l2 hl, r1.1, hs.2 (i0 + j) (Nat.le_refl _), r0.1]
    have d1 := r1.2
    have d0 := r0.2
    have ev1 : ev 2147483648 (dg A l2) (j + 1) = ev 2147483648 (dg A l2) j + dg A l2 j * 2147483648 ^ j := rfl
    have ev0 : ev 2147483648 (dg A l0) (i0 + j + 1) = ev 2147483648 (dg A l0) (i0 + j) + dg A l0 (i0 + j) * 2147483648 ^ (i0 + j) := rfl
    generalize dg A l2 j = D at d1 ev1 ⊢
    generalize dg A l0 (i0 + j) = E at d0 ev0 ⊢
    have hm : T * D ≤ 2147483647 * 2147483647 := Nat.mul_le_mul (by omega) (by omega)
    rw [nI_l (n := D) (by omega), nI_l (n := E) (by omega), lN_mul, lN_add, lN_add]
    rintro _ rfl
    refine ⟨pk_in (i0 + j) n0 (by omega), ?_⟩
    rw [l_m31, lN_i, show j_lushr (lN (T * D + E + k)) (31 : Int32) = lN ((T * D + E + k) / 2147483648) from jl_ushr 31 (by omega) (by decide)]
    rintro _ rfl _ rfl _ rfl
    refine ⟨⟨j + 1, (T * D + E + k) / 2147483648, nI_s j, rfl, by omega, by omega, ?_, ?_, ?_⟩, ?_⟩
    · exact hs.up _ (by omega)
    · exact dk_up hd (by omega) (by decide)
    · rw [show i0 + (j + 1) = i0 + j + 1 by omega, ev_at (by omega), ev1, ev0]
      have hcar := ev_car 2147483648 (i0 + j) (T * D + E + k)
      generalize (T * D + E + k) % 2147483648 = m at hcar ⊢
      generalize (T * D + E + k) / 2147483648 = c at hcar ⊢
      generalize 2147483648 ^ (i0 + j + 1) = X1 at hcar ⊢
      rw [Nat.pow_add] at hcar he ⊢
      generalize 2147483648 ^ i0 = X at hcar he ⊢
      generalize 2147483648 ^ j = Y at hcar he ⊢
      grind
    · dsimp only
      rw [nI_s, nI_clamp (by omega), nI_clamp (by omega)]; omega
theorem s_W_takeProduct {x y : Int} (h1 : wU F A a1 l1 n1 u1 x.natAbs) (b1 : F a1 2 = sb x) (h2 : wU F A a2 l2 n2 u2 y.natAbs) (b2 : F a2 2 = sb y) (ha1 : a1 ≠ a0) (ha2 : a2 ≠ a0) (hl1 : l1 ≠ l0) (hl2 : l2 ≠ l0) (hc : u1 + u2 ≤ n0) (hn : n0 < 2 ^ 29) (hn1 : n1 < 2 ^ 29) (hn2 : n2 < 2 ^ 29) {post : gm_M → gm_M → Prop} (hq : ∀ F' A' : gm_M, fr F A F' A' a0 l0 → wR F' A' a0 l0 n0 (x * y) → post F' A') : vc_W_takeProduct a0 l0 n0 a1 l1 n1 a2 l2 n2 F A post := by
  have g1 := h1.1
  have g2 := h2.1
  unfold vc_W_takeProduct
  rw [h1.2.1, h2.2.1, nI_add]
  rintro _ rfl
  refine ⟨fun x' A2 => ∃ i, x' = nI i ∧ i ≤ u1 + u2 ∧ sm A A2 l0 i ∧ ∀ j, j < i → A2 l0 j = nI 0, fun x' _ => u1 + u2 - x'.toNatClampNeg, ⟨0, rfl, Nat.zero_le _, sm.rf, fun j hj => absurd hj (Nat.not_lt_zero _)⟩, ?_⟩
  rintro _ A2 ⟨i, rfl, hi, hs, hz⟩
  refine pk_le (u1 + u2) i (fun e => ?_) (fun e => ?_)
  · have : i = u1 + u2 := by omega
    subst this
    have z0 : ∀ j, j < u1 + u2 → dg A2 l0 j = 0 := fun j hj => dg_of (hz j hj) (by decide)
    refine ⟨fun x' A3 => ∃ i, x' = nI i ∧ i ≤ u1 ∧ sm A A3 l0 (u1 + u2) ∧ dk 2147483648 A3 l0 (u1 + u2) ∧ ev 2147483648 (dg A3 l0) (i + u2) = ev 2147483648 (dg A l1) i * y.natAbs ∧ ∀ j, i + u2 ≤ j → j < u1 + u2 → dg A3 l0 j = 0, fun x' _ => u1 - x'.toNatClampNeg, ⟨0, rfl, Nat.zero_le _, hs, fun j hj => by rw [z0 j hj]; exact ⟨hz j hj, by decide⟩, ?_, fun j h1 h2 => z0 j h2⟩, ?_⟩
    · rw [ev_zero (fun j hj => z0 j (by omega))]; simp only [ev, Nat.zero_mul]
    rintro _ A3 ⟨i, rfl, hi, hs3, hd3, he3, hz3⟩
    refine pk_le u1 i (fun e => ?_) (fun e => ?_)
    · have : i = u1 := by omega
      subst this
      refine s_W_trim (n := i + u2) rfl hc (by omega) hd3 (fun F' f1 f2 f3 => ?_)
      rw [he3, h1.2.2.2.2] at f2
      rw [f1 a1 ha1, f1 a2 ha2, b1, b2]
      have fin : ∀ p : Int32, (x * y ≠ 0 → (p ≠ 0 ↔ x * y < 0)) → vc_W_setBelow a0 l0 n0 p F' A3 (fun (F_5 : gm_M) => post F_5 A3) := fun p hp =>
        s_W_setBelowR (x := x * y) (by rw [Int.natAbs_mul]; exact f2) (by omega) hp (fun F'' g3 g4 => hq F'' A3 ⟨fun b hb => by rw [g3 b hb, f1 b hb], hs3.1⟩ g4)
      refine ⟨fun c => fin 0 (fun hz => ⟨fun z => absurd rfl z, fun z => ?_⟩), fun c => fin 1 (fun hz => ⟨fun _ => ?_, fun _ => by decide⟩)⟩
      · exfalso
        unfold sb at c
        by_cases c1 : x < 0 <;> by_cases c2 : y < 0
        · have := Int.mul_pos_of_neg_of_neg c1 c2; omega
        · rw [if_pos c1, if_neg c2] at c; exact absurd c (by decide)
        · rw [if_neg c1, if_pos c2] at c; exact absurd c (by decide)
        · have := Int.mul_nonneg (a := x) (b := y) (by omega) (by omega); omega
      · unfold sb at c
        have hx0 : x ≠ 0 := fun z => hz (by rw [z, Int.zero_mul])
        have hy0 : y ≠ 0 := fun z => hz (by rw [z, Int.mul_zero])
        by_cases c1 : x < 0 <;> by_cases c2 : y < 0
        · rw [if_pos c1, if_pos c2] at c; exact absurd rfl c
        · exact Int.mul_neg_of_neg_of_pos c1 (by omega)
        · exact Int.mul_neg_of_pos_of_neg (by omega) c2
        · rw [if_neg c1, if_neg c2] at c; exact absurd rfl c
    · have r1 := h1.2.2.1 i e
      refine ⟨pk_in i n1 (by omega), ?_⟩
      rw [nI_clamp (by omega), hs3.1 l1 hl1, r1.1, nI_l (by have := r1.2; omega)]
      refine s_W_addRow (T := dg A l1 i) (i0 := i) rfl r1.2 rfl (h2.congr rfl (hs3.1 l2 hl2)) hl2 (dk_le hd3 (by omega)) (by omega) (by omega) (by omega) (fun A' s1 s2 s3 => ?_)
      rintro _ rfl
      refine ⟨⟨i + 1, nI_s i, by omega, ⟨fun b hb => by rw [s1.1 b hb, hs3.1 b hb], fun j hj => by rw [s1.2 j (by omega), hs3.2 j hj]⟩, fun j hj => ?_, ?_, fun j h1 h2 => ?_⟩, ?_⟩
      · by_cases c : j < i + u2 + 1
        · exact s2 j c
        · have e1 := s1.2 j (by omega)
          rw [dg_congr e1, e1]
          exact hd3 j hj
      · rw [show i + 1 + u2 = i + u2 + 1 by omega, s3, he3]
        simp only [ev]
        grind
      · rw [dg_congr (s1.2 j (by omega))]
        exact hz3 j (by omega) h2
      · dsimp only
        rw [nI_s, nI_clamp (by omega), nI_clamp (by omega)]; omega
  · refine ⟨pk_in i n0 (by omega), ?_⟩
    rw [nI_clamp (by omega)]
    rintro _ rfl _ rfl
    refine ⟨⟨i + 1, nI_s i, by omega, hs.up _ (by omega), fun j hj => ?_⟩, ?_⟩
    · by_cases c : j = i
      · subst c; exact up_at _ _ _ _
      · rw [up_ne _ _ c]; exact hz j (by omega)
    · dsimp only
      rw [nI_s, nI_clamp (by omega), nI_clamp (by omega)]; omega
theorem s_W_raiseInto {s0 k0 : Nat} {p q : Int32} (h : wU F A a0 l0 n0 u v) (hl : l0 ≠ a1) (hp : p = nI s0) (hq : q = nI k0) (hk0 : k0 < 31) (hi : s0 + u < n1) (hn : n0 < 2 ^ 29) (hn1 : n1 < 2 ^ 29) {post : gm_M → Prop} (hr : ∀ A' : gm_M, (∀ b, b ≠ a1 → A' b = A b) → (∀ j, j < s0 ∨ s0 + u < j → A' a1 j = A a1 j) → (∀ j, j ≤ u → A' a1 (s0 + j) = nI (dg A' a1 (s0 + j)) ∧ dg A' a1 (s0 + j) < 2147483648) → ev 2147483648 (fun j => dg A' a1 (s0 + j)) (u + 1) = v * 2 ^ k0 → post A') : vc_W_raiseInto a0 l0 n0 a1 n1 p q F A post := by
  subst hp hq
  obtain ⟨p1, p2, p3, p4, p5⟩ := h
  have hpk : (2 : Nat) ^ k0 ≤ 2 ^ 30 := Nat.pow_le_pow_right (by decide) (by omega)
  have hpk0 := Nat.two_pow_pos k0
  unfold vc_W_raiseInto
  rw [p2]
  refine ⟨fun y x A1 => ∃ i k, x = nI i ∧ y = lN k ∧ i ≤ u ∧ k < 2 ^ k0 ∧ (∀ b, b ≠ a1 → A1 b = A b) ∧ (∀ j, j < s0 ∨ s0 + i ≤ j → A1 a1 j = A a1 j) ∧ (∀ j, j < i → A1 a1 (s0 + j) = nI (dg A1 a1 (s0 + j)) ∧ dg A1 a1 (s0 + j) < 2147483648) ∧ ev 2147483648 (fun j => dg A1 a1 (s0 + j)) i + k * 2147483648 ^ i = ev 2147483648 (dg A l0) i * 2 ^ k0, fun _ x _ => u - x.toNatClampNeg, ⟨0, 0, rfl, rfl, Nat.zero_le _, hpk0, fun _ _ => rfl, fun _ _ => rfl, fun j hj => absurd hj (Nat.not_lt_zero _), by simp only [ev, Nat.zero_mul]⟩, ?_⟩
  rintro _ _ A1 ⟨i, k, rfl, rfl, hiu, hk, hs1, hs2, hd, he⟩
  refine pk_le u i (fun e => ?_) (fun e => ?_)
  · have : i = u := by omega
    subst this
    rw [nI_add]
    refine ⟨pk_in (s0 + i) n1 hi, ?_⟩
    rw [nI_clamp (by omega), lN_i]
    rintro _ rfl
    refine hr _ (fun b hb => by rw [gm_off hb]; exact hs1 b hb) (fun j hj => by rw [up_ne _ _ (by omega)]; exact hs2 j (by omega)) (fun j hj => ?_) ?_
    · by_cases c : j = i
      · subst c; rw [dg_at _ _ _ (by omega), up_at]; exact ⟨rfl, by omega⟩
      · rw [dg_ne _ _ (by omega), up_ne _ _ (by omega)]; exact hd j (by omega)
    · simp only [ev]
      rw [dg_at _ _ _ (by omega), ev_congr (e := fun j => dg A1 a1 (s0 + j)) (fun j hj => dg_ne _ _ (by omega)), he, p5]
  · have r1 := p3 i e
    refine ⟨pk_in i n0 (by omega), ?_⟩
    rw [nI_clamp (by omega), hs1 l0 hl, r1.1, nI_add]
    have d1 := r1.2
    have ev1 : ev 2147483648 (dg A l0) (i + 1) = ev 2147483648 (dg A l0) i + dg A l0 i * 2147483648 ^ i := rfl
    generalize dg A l0 i = D at d1 ev1 ⊢
    have hm : D * 2 ^ k0 ≤ 2147483647 * 2 ^ k0 := Nat.mul_le_mul_right _ (by omega)
    rw [nI_l (n := D) (by omega), jl_shl D k0 (by omega), l_or (a := D * 2 ^ k0) (b := k) (by omega) (by omega), or_add hk]
    rintro _ rfl
    refine ⟨pk_in (s0 + i) n1 (by omega), ?_⟩
    rw [nI_clamp (by omega), l_m31, lN_i, show j_lushr (lN (D * 2 ^ k0 + k)) (31 : Int32) = lN ((D * 2 ^ k0 + k) / 2147483648) from jl_ushr 31 (by omega) (by decide)]
    rintro _ rfl _ rfl _ rfl
    refine ⟨⟨i + 1, (D * 2 ^ k0 + k) / 2147483648, nI_s i, rfl, by omega, by omega, fun b hb => by rw [gm_off hb]; exact hs1 b hb, fun j hj => by rw [up_ne _ _ (by omega)]; exact hs2 j (by omega), fun j hj => ?_, ?_⟩, ?_⟩
    · by_cases c : j = i
      · subst c; rw [dg_at _ _ _ (by omega), up_at]; exact ⟨rfl, by omega⟩
      · rw [dg_ne _ _ (by omega), up_ne _ _ (by omega)]; exact hd j (by omega)
    · rw [ev1]
      have e1 : ev 2147483648 (fun j => dg (gm_up A1 a1 (s0 + i) (nI ((D * 2 ^ k0 + k) % 2147483648))) a1 (s0 + j)) (i + 1) = ev 2147483648 (fun j => dg A1 a1 (s0 + j)) i + (D * 2 ^ k0 + k) % 2147483648 * 2147483648 ^ i := by
        simp only [ev]
        rw [dg_at _ _ _ (by omega), ev_congr (e := fun j => dg A1 a1 (s0 + j)) (fun j hj => dg_ne _ _ (by omega))]
      rw [e1]
      have hcar := ev_car 2147483648 i (D * 2 ^ k0 + k)
      generalize (D * 2 ^ k0 + k) % 2147483648 = m at hcar ⊢
      generalize (D * 2 ^ k0 + k) / 2147483648 = c at hcar ⊢
      generalize 2147483648 ^ (i + 1) = X1 at hcar ⊢
      generalize 2147483648 ^ i = X at hcar he ⊢
      generalize 2 ^ k0 = Y at hcar he ⊢
      grind
    · dsimp only
      rw [nI_s, nI_clamp (by omega), nI_clamp (by omega)]; omega
theorem s_W_takeRaised {x : Int} {k : Nat} {p : Int32} (h1 : wU F A a1 l1 n1 u1 x.natAbs) (b1 : F a1 2 = sb x) (ha : a1 ≠ a0) (hl : l1 ≠ l0) (hp : p = nI k) (hk : k < 2 ^ 29) (hc : k / 31 + u1 < n0) (hn : n0 < 2 ^ 29) (hn1 : n1 < 2 ^ 29) {post : gm_M → gm_M → Prop} (hq : ∀ F' A' : gm_M, fr F A F' A' a0 l0 → wR F' A' a0 l0 n0 (x * 2 ^ k) → post F' A') : vc_W_takeRaised a0 l0 n0 a1 l1 n1 p F A post := by
  subst hp
  have g1 := h1.1
  unfold vc_W_takeRaised
  rw [show nI k - nI k / (31 : Int32) * (31 : Int32) = nI (k % 31) from pk_rem (by omega) (by decide) (by decide), show nI k / (31 : Int32) = nI (k / 31) from pk_div (by omega) (by decide) (by decide), h1.2.1]
  refine ⟨fun w => ∃ m, w = nI m ∧ m ≤ k / 31 ∧ (u1 ≠ 0 → m = k / 31), (pk_eq u1 0 (fun e => ⟨0, rfl, Nat.zero_le _, fun z => absurd e z⟩) (fun e => ⟨k / 31, rfl, Nat.le_refl _, fun _ => rfl⟩)).symm, ?_⟩
  rintro _ ⟨m, rfl, hm1, hm2⟩
  refine ⟨fun x' A2 => ∃ i, x' = nI i ∧ i ≤ m ∧ sm A A2 l0 i ∧ ∀ j, j < i → A2 l0 j = nI 0, fun x' _ => m - x'.toNatClampNeg, ⟨0, rfl, Nat.zero_le _, sm.rf, fun j hj => absurd hj (Nat.not_lt_zero _)⟩, ?_⟩
  rintro _ A2 ⟨i, rfl, hi, hs, hz⟩
  refine pk_le m i (fun e => ?_) (fun e => ?_)
  · have : i = m := by omega
    subst this
    refine s_W_raiseInto (s0 := i) (k0 := k % 31) (h1.congr rfl (hs.1 l1 hl)) hl rfl rfl (Nat.mod_lt _ (by decide)) (by omega) hn1 hn (fun A' r1 r2 r3 r4 => ?_)
    rw [nI_add, nI_s]
    have hd : dk 2147483648 A' l0 (i + u1 + 1) := fun j hj => by
      by_cases c : j < i
      · have e1 := r2 j (Or.inl c)
        have e2 : dg A' l0 j = 0 := dg_of (by rw [e1]; exact hz j c) (by decide)
        rw [e2, e1]; exact ⟨hz j c, by decide⟩
      · have := r3 (j - i) (by omega)
        rw [show i + (j - i) = j by omega] at this
        exact this
    have hev : ev 2147483648 (dg A' l0) (i + u1 + 1) = x.natAbs * 2 ^ k := by
      rw [show i + u1 + 1 = i + (u1 + 1) by omega, ev_add, r4, ev_zero (fun j hj => dg_of (by rw [r2 j (Or.inl hj)]; exact hz j hj) (by decide)), Nat.zero_add]
      by_cases c : u1 = 0
      · rw [(h1.pos.mp c)]; simp only [Nat.zero_mul, Nat.mul_zero]
      · rw [hm2 c, pow31, show x.natAbs * 2 ^ k = 2 ^ (31 * (k / 31)) * (x.natAbs * 2 ^ (k % 31)) by
          rw [Nat.mul_left_comm, ← Nat.pow_add, Nat.div_add_mod]]
    refine s_W_trim (n := i + u1 + 1) rfl (by omega) (by omega) hd (fun F' f1 f2 f3 => ?_)
    rw [hev] at f2
    rw [f1 a1 ha, b1]
    have hpp : (0 : Int) < 2 ^ k := by exact_mod_cast Nat.two_pow_pos k
    refine s_W_setBelowR (x := x * 2 ^ k) ?_ (by omega) (fun hz => ?_) (fun F'' g3 g4 => hq F'' A' ⟨fun b hb => by rw [g3 b hb, f1 b hb], fun b hb => by rw [r1 b hb, hs.1 b hb]⟩ g4)
    · rw [Int.natAbs_mul, show ((2 : Int) ^ k).natAbs = 2 ^ k by rw [Int.natAbs_pow]; rfl]; exact f2
    · have hx0 : x ≠ 0 := fun z => hz (by rw [z, Int.zero_mul])
      unfold sb
      by_cases c : x < 0
      · rw [if_pos c]
        exact ⟨fun _ => Int.mul_neg_of_neg_of_pos c hpp, fun _ => by decide⟩
      · rw [if_neg c]
        exact ⟨fun z => absurd rfl z, fun z => absurd (Int.mul_nonneg (a := x) (b := 2 ^ k) (by omega) (by omega)) (by omega)⟩
  · refine ⟨pk_in i n0 (by omega), ?_⟩
    rw [nI_clamp (by omega)]
    rintro _ rfl _ rfl
    refine ⟨⟨i + 1, nI_s i, by omega, hs.up _ (by omega), fun j hj => ?_⟩, ?_⟩
    · by_cases c : j = i
      · subst c; exact up_at _ _ _ _
      · rw [up_ne _ _ c]; exact hz j (by omega)
    · dsimp only
      rw [nI_s, nI_clamp (by omega), nI_clamp (by omega)]; omega
end W5
