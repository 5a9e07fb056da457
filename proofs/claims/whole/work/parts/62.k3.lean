def dvq (p : Int32) (x y : Int) : Int := if p = 0 then tq x y else if tr x y ≠ 0 ∧ ¬ (tr x y < 0 ↔ y < 0) then -(((tq x y).natAbs + 1 : Nat) : Int) else tq x y
def dvr (p : Int32) (x y : Int) : Int := if p = 0 then tr x y else if tr x y ≠ 0 ∧ ¬ (tr x y < 0 ↔ y < 0) then tr x y + y else tr x y
theorem fit_le {x y : Int} (h : fit x) (hy : y.natAbs ≤ x.natAbs) : fit y := Nat.lt_of_le_of_lt hy h
theorem fit_tq {x : Int} (y : Int) (h : fit x) : fit (tq x y) := fit_le h (by rw [tq_abs]; exact Nat.div_le_self _ _)
theorem fit_tr {x : Int} (y : Int) (h : fit x) : fit (tr x y) := fit_le h (by rw [tr_abs]; exact Nat.mod_le _ _)
theorem tq_1 {x y : Int} (h : tr x y ≠ 0) (hy : y ≠ 0) : (tq x y).natAbs + 1 ≤ x.natAbs := by
  have e := Nat.mod_add_div x.natAbs y.natAbs
  have h1 : (tr x y).natAbs ≠ 0 := by omega
  have h2 : x.natAbs % y.natAbs < y.natAbs := Nat.mod_lt _ (by omega)
  rw [tr_abs] at h1
  rw [tq_abs]
  have h3 := Nat.mul_le_mul_right (x.natAbs / y.natAbs) (show 1 ≤ y.natAbs by omega)
  generalize x.natAbs / y.natAbs = q at *
  generalize x.natAbs % y.natAbs = r at *
  omega
theorem fit_dvq {p : Int32} {x y : Int} (h : fit x) (hy : y ≠ 0) : fit (dvq p x y) := by
  unfold dvq
  split
  · exact fit_tq y h
  · split
    · refine fit_le h ?_
      rw [Int.natAbs_neg, Int.natAbs_natCast]
      exact tq_1 (And.left ‹_›) hy
    · exact fit_tq y h
theorem tr_lt {x y : Int} (hy : y ≠ 0) : (tr x y).natAbs < y.natAbs := by
  rw [tr_abs]; exact Nat.mod_lt _ (by omega)
theorem fit_dvr {p : Int32} {x y : Int} (h : fit x) (h' : fit y) (hy : y ≠ 0) : fit (dvr p x y) := by
  unfold dvr
  split
  · exact fit_tr y h
  · split
    · refine fit_le h' ?_
      have := tr_lt (x := x) hy
      generalize tr x y = r at *
      omega
    · exact fit_tr y h
theorem kdAp {K : Nat → Nat} (hK : kinj K) : dAp K := ⟨kne hK (by decide) (by decide) (by decide), kne hK (by decide) (by decide) (by decide), kne hK (by decide) (by decide) (by decide), kne hK (by decide) (by decide) (by decide), kne hK (by decide) (by decide) (by decide), kne hK (by decide) (by decide) (by decide), kne hK (by decide) (by decide) (by decide)⟩
theorem koff {K : Nat → Nat} (hK : kinj K) {a l : Nat} (ha : a < 64) (hl : l < 64) (h1 : a ≠ 39) (h2 : a ≠ 41) (h3 : l ≠ 40) (h4 : l ≠ 42) (h5 : l ≠ 5) (h6 : l ≠ 6) : offD K (K a) (K l) := ⟨kne hK h1 ha (by decide), kne hK h2 ha (by decide), kne hK h3 hl (by decide), kne hK h4 hl (by decide), kne hK h5 hl (by decide), kne hK h6 hl (by decide)⟩
theorem pow_mono {a m n : Nat} (h : m ≤ n) (ha : a ≠ 0) : a ^ m ≤ a ^ n := Nat.pow_le_pow_right (by omega) h
theorem fit_pow {x : Int} {m n : Nat} (h : m ≤ n) (hf : fit (x ^ n)) : fit (x ^ m) := by
  unfold fit at *
  rw [Int.natAbs_pow] at *
  by_cases hx : x.natAbs = 0
  · have : x.natAbs ^ m ≤ 1 := by
      rw [hx]
      match m with
      | 0 => decide
      | m + 1 => rw [Nat.zero_pow (by omega)]; decide
    have h2 : 2 ^ 1 ≤ 2 ^ bN := Nat.pow_le_pow_right (by decide) (by decide)
    omega
  · exact Nat.lt_of_le_of_lt (pow_mono h hx) hf
theorem half (n t : Nat) : n / 2 ^ t = 2 * (n / 2 ^ (t + 1)) + n / 2 ^ t % 2 := by
  rw [Nat.pow_succ, ← Nat.div_div_eq_div_mul]
  omega
section K3
variable {F A : gm_M} {K : Nat → Nat} {n : Nat} {tx : Nat → Nat} {v : Nat → Int} {p p1 p2 p3 p4 p5 : Int32}
def okD (p2 p3 p4 p5 : Int32) : Prop := (vp_in p2 16 ∧ vp_in p4 16 ∧ vp_in p5 16) ∧ vp_in p3 16 ∧ p2 ≠ p3
theorem s_K_divide (hK : kinj K) (h : CS K F A v n tx) {post : Int32 → gm_M → gm_M → Prop} {pe : Nat → gm_M → gm_M → Prop} (h1 : ¬ okD p2 p3 p4 p5 → pe 1 F A) (h2 : okD p2 p3 p4 p5 → v p5.toNatClampNeg = 0 → pe 3 F A) (h0 : okD p2 p3 p4 p5 → v p5.toNatClampNeg ≠ 0 → ∀ F' A', frC K F A F' A' → CS K F' A' (vu (vu v p2.toNatClampNeg (dvq p1 (v p4.toNatClampNeg) (v p5.toNatClampNeg))) p3.toNatClampNeg (dvr p1 (v p4.toNatClampNeg) (v p5.toNatClampNeg))) n tx → post (iZ (dvr p1 (v p4.toNatClampNeg) (v p5.toNatClampNeg)).sign) F' A') : vc_K_divide K p1 p2 p3 p4 p5 F A post pe := by
  unfold vc_K_divide
  refine s_K_needRegisters (fun c2 c4 c5 => s_K_needRegister (fun c3 => ?_) (fun z => h1 (fun y => z y.2.1))) (fun z => h1 (fun y => z y.1))
  refine ⟨fun ne => ⟨c5, ?_⟩, fun e => h1 (fun y => y.2.2 e)⟩
  have ok : okD p2 p3 p4 p5 := ⟨⟨c2, c4, c5⟩, c3, ne⟩
  have w2 := vp_lt c2
  have w3 := vp_lt c3
  have w4 := vp_lt c4
  have w5 := vp_lt c5
  obtain ⟨u, hu1, hu, hb⟩ := h.reg w4
  obtain ⟨t, ht1, ht, hc⟩ := h.reg w5
  have hfx := (h.1 _ w4).2
  have hfy := (h.1 _ w5).2
  generalize v p4.toNatClampNeg = x at *
  generalize v p5.toNatClampNeg = y at *
  refine s_W_sign (x := y) ⟨⟨t, ht⟩, hc⟩ (by decide) ⟨fun z => ⟨c4, ?_⟩, fun z => h2 ok (sg_0.mp z)⟩
  have hy : y ≠ 0 := fun q => z (sg_0.mpr q)
  have o4 : offD K (K (7 + 2 * p4.toNatClampNeg)) (K (8 + 2 * p4.toNatClampNeg)) := koff hK (by omega) (by omega) (by omega) (by omega) (by omega) (by omega) (by omega) (by omega)
  have o5 : offD K (K (7 + 2 * p5.toNatClampNeg)) (K (8 + 2 * p5.toNatClampNeg)) := koff hK (by omega) (by omega) (by omega) (by omega) (by omega) (by omega) (by omega) (by omega)
  refine s_D_cutSigned (kdAp hK) o4 o5 hu hb ht hc hy (by omega) (by omega) (by decide) (by decide) (fun F6 A6 f6 q6 r6 => ?_)
  refine ⟨fun F7 A7 => frS K F A F7 A7 ∧ wR F7 A7 (K 39) (K 40) 135 (dvq p1 x y) ∧ wR F7 A7 (K 41) (K 42) 135 (dvr p1 x y), ⟨fun d => ⟨f6.scr hK, ?_, ?_⟩, fun d => ?_⟩, ?_⟩
  · unfold dvq; rw [if_pos d]; exact q6
  · unfold dvr; rw [if_pos d]; exact r6
  · obtain ⟨⟨uq, hq⟩, bq⟩ := q6
    obtain ⟨⟨ur, hr⟩, br⟩ := r6
    have lq := fit_u hq (fit_tq y hfx)
    have lr := fit_u hr (fit_tr y hfx)
    have g := f6.off o5
    refine s_D_roundDown (kdAp hK) o5 hq bq hr br (ht.congr g.1 g.2) (by rw [g.1]; exact hc) hy (by omega) (by omega) (by omega) (by decide) (fun F7 A7 f7 q7 r7 => ⟨(f6.scr hK).trans (f7.scr hK), ?_, ?_⟩)
    · unfold dvq; rw [if_neg d]; exact q7
    · unfold dvr; rw [if_neg d]; exact r7
  · rintro F7 A7 ⟨f7, q7, r7⟩
    have c7 := h.scr f7
    refine s_K_keep (s := 39) hK (by decide) c7 q7 c2 (fun _ F8 A8 f8 c8 => ?_) (fun z => absurd (fit_dvq hfx hy) z)
    have r8 : wR F8 A8 (K 41) (K 42) 135 (dvr p1 x y) := r7.congr (f8.1 _ (kne hK (by omega) (by omega) (by omega))) (f8.2 _ (kne hK (by omega) (by omega) (by omega)))
    refine s_K_keep (s := 41) hK (by decide) c8 r8 c3 (fun _ F9 A9 f9 c9 => ?_) (fun z => absurd (fit_dvr hfx hfy hy) z)
    have r9 : wR F9 A9 (K 41) (K 42) 135 (dvr p1 x y) := r8.congr (f9.1 _ (kne hK (by omega) (by omega) (by omega))) (f9.2 _ (kne hK (by omega) (by omega) (by omega)))
    exact s_W_sign r9 (by decide) (h0 ok hy F9 A9 (f7.c.trans ((f8.c hK (by omega) (by omega)).trans (f9.c hK (by omega) (by omega)))) c9)
/-- the outcome times a number -/
theorem s_K_mulOut {a l m u : Nat} {x y : Int} (hK : kinj K) (hx : wR F A (K 43) (K 44) 135 x) (hfx : fit x) (hy : wU F A a l m u y.natAbs) (hb : F a 2 = sb y) (hu : u ≤ 67) (ha : a ≠ K 45) (hl : l ≠ K 46) (hm : m < 2 ^ 29) {post : gm_M → gm_M → Prop} {pe : Nat → gm_M → gm_M → Prop} (h2 : ¬ fit (x * y) → ∀ F' A', frS K F A F' A' → pe 3 F' A') (h0 : fit (x * y) → ∀ F' A', frS K F A F' A' → wR F' A' (K 43) (K 44) 135 (x * y) → post F' A') : vc_K_multiplyOutcome K a l m F A post pe := by
  unfold vc_K_multiplyOutcome
  obtain ⟨⟨t, ht⟩, hc⟩ := hx
  have ht1 := fit_u ht hfx
  refine s_W_takeProduct ht hc hy hb (kne hK (by decide) (by decide) (by decide)) ha (kne hK (by decide) (by decide) (by decide)) hl (by omega) (by decide) (by decide) hm (fun F1 A1 f1 g1 => ?_)
  have s1 := f1.scr hK (by decide) (by decide)
  refine s_K_needFit g1.1 (by decide) (fun c => ?_) (fun c => h2 c _ _ s1)
  obtain ⟨⟨r, hr⟩, hs⟩ := g1
  exact s_W_takeCopy (kne hK (by decide) (by decide) (by decide)) (kne hK (by decide) (by decide) (by decide)) hr hs hr.1 (by decide) (fun F3 A3 f3 g3 => h0 c F3 A3 (s1.trans (f3.scr hK (by decide) (by decide))) g3)
def okP (p1 p2 p3 : Int32) : Prop := vp_in p1 16 ∧ vp_in p2 16 ∧ 0 ≤ p3.toInt
theorem s_K_power (hK : kinj K) (h : CS K F A v n tx) {post : Int32 → gm_M → gm_M → Prop} {pe : Nat → gm_M → gm_M → Prop} (h1 : ¬ okP p1 p2 p3 → pe 1 F A) (h2 : okP p1 p2 p3 → ¬ fit (v p2.toNatClampNeg ^ p3.toNatClampNeg) → ∀ F' A', frC K F A F' A' → CS K F' A' v n tx → pe 3 F' A') (h0 : okP p1 p2 p3 → fit (v p2.toNatClampNeg ^ p3.toNatClampNeg) → ∀ F' A', frC K F A F' A' → CS K F' A' (vu v p1.toNatClampNeg (v p2.toNatClampNeg ^ p3.toNatClampNeg)) n tx → post (nI (bl (v p2.toNatClampNeg ^ p3.toNatClampNeg).natAbs)) F' A') : vc_K_power K p1 p2 p3 F A post pe := by
  unfold vc_K_power
  refine s_K_needRegister (fun c1 => s_K_needRegister (fun c2 => ?_) (fun z => h1 (fun y => z y.2.1))) (fun z => h1 (fun y => z y.1))
  refine pz_le 0 p3.toInt (fun c3 => ?_) (fun c3 => h1 (fun y => by have := y.2.2; omega))
  have ok : okP p1 p2 p3 := ⟨c1, c2, c3⟩
  have w1 := vp_lt c1
  have w2 := vp_lt c2
  obtain ⟨e, he, ep⟩ := nI_of (x := p3) (by rw [Int32.lt_iff_toInt_lt]; exact Int.not_lt.mpr c3)
  have ec : p3.toNatClampNeg = e := by rw [ep, nI_clamp he]
  rw [ec] at h2 h0
  subst ep
  generalize hx : v p2.toNatClampNeg = x at *
  have h2 := h2 ok
  have h0 := h0 ok
  refine s_W_takeLong (by decide) (by decide) (fun F3 A3 f3 g3 => ?_)
  have g3 : wR F3 A3 (K 43) (K 44) 135 1 := g3
  refine ⟨fun k F4 A4 => ∃ z, k = dn z ∧ z ≤ 31 ∧ frS K F A F4 A4 ∧ fit (x ^ (e / 2 ^ z)) ∧ wR F4 A4 (K 43) (K 44) 135 (x ^ (e / 2 ^ z)), fun k _ _ => (k.toInt + 1).toNat, ⟨31, rfl, Nat.le_refl _, f3.scr hK (by decide) (by decide), ?_, ?_⟩, ?_⟩
  · rw [Nat.div_eq_of_lt he, Int.pow_zero]
    exact Nat.one_lt_two_pow (by decide)
  · rw [Nat.div_eq_of_lt he, Int.pow_zero]; exact g3
  rintro _ F4 A4 ⟨z, rfl, hz, f4, hf, hw⟩
  refine dn_br z (by omega) (fun z0 => ?_) (fun t zt => ?_)
  · subst z0
    rw [Nat.pow_zero, Nat.div_one] at hf hw
    have c4 := h.scr f4
    refine s_K_keep (s := 43) hK (by decide) c4 hw c1 (fun _ F5 A5 f5 c5 => ?_) (fun z => absurd hf z)
    obtain ⟨⟨t, ht⟩, -⟩ := hw
    exact s_W_countBits (ht.congr (f5.1 _ (kne hK (by omega) (by omega) (by omega))) (f5.2 _ (kne hK (by omega) (by omega) (by omega)))) (by decide) (h0 hf F5 A5 (f4.c.trans (f5.c hK (by omega) (by omega))) c5)
  · subst zt
    rw [dn_succ]
    have hhalf := half e t
    have hle : e / 2 ^ t ≤ e := Nat.div_le_self _ _
    have sq : x ^ (e / 2 ^ (t + 1)) * x ^ (e / 2 ^ (t + 1)) = x ^ (2 * (e / 2 ^ (t + 1))) := by rw [← Int.pow_add, Nat.two_mul]
    have hw' := hw
    obtain ⟨⟨u, hu⟩, hb⟩ := hw
    refine s_K_mulOut hK hw' hf hu hb (fit_u hu hf) (kne hK (by decide) (by decide) (by decide)) (kne hK (by decide) (by decide) (by decide)) (by decide) (fun c F' A' f => ?_) (fun c F7 A7 f7 g7 => ?_)
    · rw [sq] at c
      exact h2 (fun y => c (fit_pow (by omega) y)) F' A' (f4.trans f).c (h.scr (f4.trans f))
    · rw [sq] at c g7
      have f47 := f4.trans f7
      rw [ji_ushr t (by omega) (by omega), show nI (e / 2 ^ t) &&& (1 : Int32) = nI (e / 2 ^ t % 2) from pk_andN (by omega) 1 (by decide)]
      refine (pk_eq (e / 2 ^ t % 2) 1 (fun d => ?_) (fun d => ?_)).symm
      · refine ⟨c2, ?_⟩
        have c7 := h.scr f47
        obtain ⟨u2, hu2, hu3, hb3⟩ := c7.reg w2
        rw [hx] at hu3 hb3
        have ex : x ^ (2 * (e / 2 ^ (t + 1))) * x = x ^ (e / 2 ^ t) := by
          rw [d] at hhalf
          rw [hhalf]; exact (Int.pow_succ x _).symm
        refine s_K_mulOut hK g7 c hu3 hb3 hu2 (kne hK (by omega) (by omega) (by omega)) (kne hK (by omega) (by omega) (by omega)) (by decide) (fun c9 F' A' f => ?_) (fun c9 F10 A10 f10 g10 => ?_)
        · rw [ex] at c9
          exact h2 (fun y => c9 (fit_pow hle y)) F' A' (f47.trans f).c (h.scr (f47.trans f))
        · rw [ex] at c9 g10
          rintro _ rfl
          refine ⟨⟨t, dn_next t, by omega, f47.trans f10, c9, g10⟩, ?_⟩
          dsimp only
          rw [dn_next, dn_mu t (by omega), nI_toInt (by omega)]; omega
      · have ex : 2 * (e / 2 ^ (t + 1)) = e / 2 ^ t := by
          have d0 : e / 2 ^ t % 2 = 0 := by omega
          rw [d0, Nat.add_zero] at hhalf; exact hhalf.symm
        rw [ex] at c g7
        rintro _ rfl
        refine ⟨⟨t, dn_next t, by omega, f47, c, g7⟩, ?_⟩
        dsimp only
        rw [dn_next, dn_mu t (by omega), nI_toInt (by omega)]; omega
end K3
