def res0 (x e y : Int) : Int := if x < 0 ∧ e.natAbs % 2 = 1 then -((x.natAbs ^ e.natAbs % y.natAbs : Nat) : Int) else ((x.natAbs ^ e.natAbs % y.natAbs : Nat) : Int)
def resv (x e y : Int) : Int := if res0 x e y ≠ 0 ∧ ¬ (res0 x e y < 0 ↔ y < 0) then res0 x e y + y else res0 x e y
theorem res0_abs (x e y : Int) : (res0 x e y).natAbs = x.natAbs ^ e.natAbs % y.natAbs := by
  unfold res0; split
  · rw [Int.natAbs_neg, Int.natAbs_natCast]
  · rw [Int.natAbs_natCast]
theorem fit_res0 {x e y : Int} (hf : fit y) (hy : y ≠ 0) : fit (res0 x e y) ∧ (res0 x e y).natAbs < y.natAbs := by
  have h : (res0 x e y).natAbs < y.natAbs := by rw [res0_abs]; exact Nat.mod_lt _ (by omega)
  exact ⟨fit_le hf (by omega), h⟩
theorem fit_resv {x e y : Int} (hf : fit y) (hy : y ≠ 0) : fit (resv x e y) := by
  obtain ⟨h1, h2⟩ := fit_res0 (x := x) (e := e) hf hy
  unfold resv
  split
  · refine fit_le hf ?_
    generalize res0 x e y = r at *
    omega
  · exact h1
def frQ (K : Nat → Nat) (F A F' A' : gm_M) : Prop := frS K F A F' A' ∧ F' (K 47) = F (K 47) ∧ A' (K 48) = A (K 48)
theorem frQ.trans {K : Nat → Nat} {F A F' A' F'' A'' : gm_M} (h : frQ K F A F' A') (h' : frQ K F' A' F'' A'') : frQ K F A F'' A'' := ⟨h.1.trans h'.1, h'.2.1.trans h.2.1, h'.2.2.trans h.2.2⟩
theorem fr.q {K : Nat → Nat} {F A F' A' : gm_M} {i j : Nat} (hK : kinj K) (h : fr F A F' A' (K i) (K j)) (hi : 39 ≤ i ∧ i < 47) (hj : 39 ≤ j ∧ j < 47) : frQ K F A F' A' := ⟨h.scr hK (by omega) (by omega), h.1 _ (kne hK (by omega) (by omega) (by omega)), h.2 _ (kne hK (by omega) (by omega) (by omega))⟩
theorem frD.q {K : Nat → Nat} {F A F' A' : gm_M} (hK : kinj K) (h : frD K F A F' A') : frQ K F A F' A' := ⟨h.scr hK, h.1 _ (kne hK (by omega) (by omega) (by omega)) (kne hK (by omega) (by omega) (by omega)), h.2 _ (kne hK (by omega) (by omega) (by omega)) (kne hK (by omega) (by omega) (by omega)) (kne hK (by omega) (by omega) (by omega)) (kne hK (by omega) (by omega) (by omega))⟩
section K4
variable {F A : gm_M} {K : Nat → Nat} {n : Nat} {tx : Nat → Nat} {v : Nat → Int} {p p1 p2 p3 p4 p5 : Int32}
theorem s_K_reduce {P w : Nat} (hK : kinj K) (h : CS K F A v n tx) (hw : w < 16) (hy : v w ≠ 0) (hP : P < 2 ^ (bN + bN)) (hx : wR F A (K 45) (K 46) 135 (P : Int)) {post : gm_M → gm_M → Prop} (h0 : ∀ F' A', frQ K F A F' A' → wR F' A' (K 43) (K 44) 135 ((P % (v w).natAbs : Nat) : Int) → post F' A') : vc_K_reduceProduct K (K (7 + 2 * w)) (K (8 + 2 * w)) 67 F A post := by
  unfold vc_K_reduceProduct
  obtain ⟨⟨u, hu⟩, hb⟩ := hx
  obtain ⟨t, ht1, ht, hc⟩ := h.reg hw
  rw [Int.natAbs_natCast] at hu
  have q := hu.le hP
  have e : bN = 2048 := rfl
  refine s_D_cut (x := (P : Int)) (kdAp hK) (koff hK (by omega) (by omega) (by omega) (by omega) (by omega) (by omega) (by omega) (by omega)) (koff hK (by omega) (by omega) (by omega) (by omega) (by omega) (by omega) (by omega) (by omega)) (by rw [Int.natAbs_natCast]; exact hu) hb ht (by omega) (by omega) (by omega) (by decide) (by decide) (fun F1 A1 f1 _ r1 => ?_)
  rw [Int.natAbs_natCast] at r1
  obtain ⟨⟨t2, h2⟩, c2⟩ := r1
  exact s_W_takeCopy (kne hK (by decide) (by decide) (by decide)) (kne hK (by decide) (by decide) (by decide)) h2 c2 h2.1 (by decide) (fun F2 A2 f2 g2 => h0 F2 A2 ((f1.q hK).trans (f2.q hK (by decide) (by decide))) g2)
theorem s_K_raise {w1 w2 w3 : Nat} (hK : kinj K) (h : CS K F A v n tx) (hw1 : w1 < 16) (hw2 : w2 < 16) (hw3 : w3 < 16) (hy : v w3 ≠ 0) {post : gm_M → gm_M → Prop} (h0 : ∀ F' A', frS K F A F' A' → wR F' A' (K 43) (K 44) 135 (((v w1).natAbs ^ (v w2).natAbs % (v w3).natAbs : Nat) : Int) → post F' A') : vc_K_raiseWithin K (K (7 + 2 * w1)) (K (8 + 2 * w1)) 67 (K (7 + 2 * w2)) (K (8 + 2 * w2)) 67 (K (7 + 2 * w3)) (K (8 + 2 * w3)) 67 F A post := by
  unfold vc_K_raiseWithin
  obtain ⟨u1, hu1, hu, hub⟩ := h.reg hw1
  obtain ⟨u3, ht1, ht, htb⟩ := h.reg hw3
  have eN : bN = 2048 := rfl
  have hfy := (h.1 _ hw3).2
  have hM0 : 0 < (v w3).natAbs := by omega
  refine s_D_cut (kdAp hK) (koff hK (by omega) (by omega) (by omega) (by omega) (by omega) (by omega) (by omega) (by omega)) (koff hK (by omega) (by omega) (by omega) (by omega) (by omega) (by omega) (by omega) (by omega)) hu hub ht (by omega) (by omega) (by omega) (by decide) (by decide) (fun F1 A1 f1 _ r1 => ?_)
  have fitm : ∀ X : Nat, fit ((X % (v w3).natAbs : Nat) : Int) := fun X => by
    unfold fit
    rw [Int.natAbs_natCast]
    exact Nat.lt_trans (Nat.mod_lt _ hM0) hfy
  obtain ⟨⟨t2, h2⟩, c2⟩ := r1
  refine s_W_takeCopy (kne hK (by decide) (by decide) (by decide)) (kne hK (by decide) (by decide) (by decide)) h2 c2 (fit_u h2 (fitm _)) (by decide) (fun F2 A2 f2 g2 => ?_)
  refine s_W_takeLong (by decide) (by decide) (fun F3 A3 f3 g3 => ?_)
  have g3 : wR F3 A3 (K 45) (K 46) 135 ((1 : Nat) : Int) := g3
  have s3 : frS K F A F3 A3 := ((f1.scr hK).trans (f2.scr hK (by decide) (by decide))).trans (f3.scr hK (by decide) (by decide))
  have g3f : wR F3 A3 (K 47) (K 48) 67 (((v w1).natAbs % (v w3).natAbs : Nat) : Int) := g2.congr (f3.1 _ (kne hK (by decide) (by decide) (by decide))) (f3.2 _ (kne hK (by decide) (by decide) (by decide)))
  refine s_K_reduce hK (h.scr s3) hw3 hy (Nat.one_lt_two_pow (by decide)) g3 (fun F4 A4 f4 g4 => ?_)
  have s4 := s3.trans f4.1
  obtain ⟨u2, hv1, hv, hvb⟩ := (h.scr s4).reg hw2
  refine s_W_countBits hv (by decide) ?_
  have hfe : bl (v w2).natAbs ≤ 2048 := bl_le_iff.mpr (h.1 _ hw2).2
  have g4f := g3f.congr f4.2.1 f4.2.2
  generalize hE : (v w2).natAbs = E at *
  generalize hX : (v w1).natAbs = X at *
  generalize hM : (v w3).natAbs = M at *
  rintro _ rfl
  refine ⟨fun k F7 A7 => ∃ z, k = dn z ∧ z ≤ bl E ∧ frS K F A F7 A7 ∧ wR F7 A7 (K 43) (K 44) 135 ((X ^ (E / 2 ^ z) % M : Nat) : Int) ∧ wR F7 A7 (K 47) (K 48) 67 ((X % M : Nat) : Int), fun k _ _ => (k.toInt + 1).toNat, ⟨bl E, rfl, Nat.le_refl _, s4, ?_, g4f⟩, ?_⟩
  · rw [Nat.div_eq_of_lt (bl_lt E), Nat.pow_zero]; exact g4
  rintro _ F7 A7 ⟨z, rfl, hz, f7, hw, hwf⟩
  refine dn_br z (by omega) (fun z0 => ?_) (fun t zt => ?_)
  · subst z0
    rw [Nat.pow_zero, Nat.div_one] at hw
    exact h0 F7 A7 f7 hw
  · subst zt
    rw [dn_succ]
    have hhalf := half E t
    have pr : ∀ X Y : Nat, X < 2 ^ bN → Y < 2 ^ bN → X * Y < 2 ^ (bN + bN) := fun X Y hX hY => by
      rw [Nat.pow_add]
      exact Nat.mul_lt_mul'' hX hY
    have ml : ∀ X : Nat, X % M < 2 ^ bN := fun X => by
      have := fitm X
      unfold fit at this
      rw [Int.natAbs_natCast] at this; exact this
    obtain ⟨⟨ur, hr⟩, hrb⟩ := hw
    have lr := fit_u hr (fitm _)
    obtain ⟨⟨uf, hf⟩, hfb⟩ := hwf
    have lf := fit_u hf (fitm _)
    refine s_W_takeProduct hr hrb hr hrb (kne hK (by decide) (by decide) (by decide)) (kne hK (by decide) (by decide) (by decide)) (kne hK (by decide) (by decide) (by decide)) (kne hK (by decide) (by decide) (by decide)) (by omega) (by decide) (by decide) (by decide) (fun F8 A8 f8 g8 => ?_)
    rw [← Int.natCast_mul] at g8
    have s8 := f7.trans (f8.scr hK (by decide) (by decide))
    refine s_K_reduce hK (h.scr s8) hw3 hy (pr _ _ (ml _) (ml _)) g8 (fun F9 A9 f9 g9 => ?_)
    have s9 := s8.trans f9.1
    have q9 := (f8.q hK (by decide) (by decide)).trans f9
    rw [hM, ← Nat.mul_mod, ← Nat.pow_add, ← Nat.two_mul] at g9
    obtain ⟨u2, hv1, hv, hvb⟩ := (h.scr s9).reg hw2
    rw [hE] at hv
    refine s_W_hasBit hv (by decide) rfl (by omega) ?_
    have hf9 : wU F9 A9 (K 47) (K 48) 67 uf ((X % M : Nat) : Int).natAbs := hf.congr q9.2.1 q9.2.2
    have hfb9 : F9 (K 47) 2 = sb ((X % M : Nat) : Int) := by rw [q9.2.1]; exact hfb
    by_cases tb : E.testBit t = true
    · rw [if_pos tb]
      rw [Nat.testBit_eq_decide_div_mod_eq, decide_eq_true_iff] at tb
      rw [tb] at hhalf
      refine ⟨fun y => absurd y (by decide), fun _ => ?_⟩
      obtain ⟨⟨ur9, hr9⟩, hrb9⟩ := g9
      have lr9 := fit_u hr9 (fitm _)
      refine s_W_takeProduct hr9 hrb9 hf9 hfb9 (kne hK (by decide) (by decide) (by decide)) (kne hK (by decide) (by decide) (by decide)) (kne hK (by decide) (by decide) (by decide)) (kne hK (by decide) (by decide) (by decide)) (by omega) (by decide) (by decide) (by decide) (fun F12 A12 f12 g12 => ?_)
      rw [← Int.natCast_mul] at g12
      have s12 := s9.trans (f12.scr hK (by decide) (by decide))
      refine s_K_reduce hK (h.scr s12) hw3 hy (pr _ _ (ml _) (ml _)) g12 (fun F13 A13 f13 g13 => ?_)
      have q13 := (f12.q hK (by decide) (by decide)).trans f13
      rw [hM, ← Nat.mul_mod, ← Nat.pow_succ] at g13
      rintro _ rfl
      refine ⟨⟨t, dn_next t, by omega, s12.trans f13.1, ?_, ⟨⟨uf, hf9.congr q13.2.1 q13.2.2⟩, by rw [q13.2.1]; exact hfb9⟩⟩, ?_⟩
      · rw [hhalf]; exact g13
      · dsimp only
        rw [dn_next, dn_mu t (by omega), nI_toInt (by omega)]; omega
    · rw [if_neg tb]
      rw [Nat.testBit_eq_decide_div_mod_eq, decide_eq_true_iff] at tb
      have d0 : E / 2 ^ t % 2 = 0 := by omega
      rw [d0, Nat.add_zero] at hhalf
      refine ⟨fun _ => ?_, fun y => absurd rfl y⟩
      rintro _ rfl
      refine ⟨⟨t, dn_next t, by omega, s9, ?_, ⟨⟨uf, hf9⟩, hfb9⟩⟩, ?_⟩
      · rw [hhalf]; exact g9
      · dsimp only
        rw [dn_next, dn_mu t (by omega), nI_toInt (by omega)]; omega
def okX (p1 p2 p3 p4 : Int32) (v : Nat → Int) : Prop := (vp_in p1 16 ∧ vp_in p2 16 ∧ vp_in p3 16) ∧ vp_in p4 16 ∧ 0 ≤ v p3.toNatClampNeg
theorem s_K_residue (hK : kinj K) (h : CS K F A v n tx) {post : Int32 → gm_M → gm_M → Prop} {pe : Nat → gm_M → gm_M → Prop} (h1 : ¬ okX p1 p2 p3 p4 v → pe 1 F A) (h2 : okX p1 p2 p3 p4 v → v p4.toNatClampNeg = 0 → pe 3 F A) (h0 : okX p1 p2 p3 p4 v → v p4.toNatClampNeg ≠ 0 → ∀ F' A', frC K F A F' A' → CS K F' A' (vu v p1.toNatClampNeg (resv (v p2.toNatClampNeg) (v p3.toNatClampNeg) (v p4.toNatClampNeg))) n tx → post (iZ (resv (v p2.toNatClampNeg) (v p3.toNatClampNeg) (v p4.toNatClampNeg)).sign) F' A') : vc_K_residue K p1 p2 p3 p4 F A post pe := by
  unfold vc_K_residue
  refine s_K_needRegisters (fun c1 c2 c3 => s_K_needRegister (fun c4 => ⟨c3, ?_⟩) (fun z => h1 (fun y => z y.2.1))) (fun z => h1 (fun y => z y.1))
  have w1 := vp_lt c1
  have w2 := vp_lt c2
  have w3 := vp_lt c3
  have w4 := vp_lt c4
  refine s_W_sign (h.1 _ w3).1 (by decide) ⟨fun z => ⟨c4, ?_⟩, fun z => h1 (fun y => z (sg_le.mpr y.2.2))⟩
  have ok : okX p1 p2 p3 p4 v := ⟨⟨c1, c2, c3⟩, c4, sg_le.mp z⟩
  refine s_W_sign (h.1 _ w4).1 (by decide) ⟨fun z => ⟨c2, c3, c4, ?_⟩, fun z => h2 ok (sg_0.mp z)⟩
  have hy : v p4.toNatClampNeg ≠ 0 := fun q => z (sg_0.mpr q)
  have hfy := (h.1 _ w4).2
  refine s_K_raise hK h w2 w3 w4 hy (fun F10 A10 f10 g10 => ⟨c2, ?_⟩)
  have c10 := h.scr f10
  have e2 := (c10.1 _ w2).1.2
  obtain ⟨u3, hu31, hu3, hb3⟩ := c10.reg w3
  obtain ⟨u4, hu41, hu4, hb4⟩ := c10.reg w4
  generalize hX : v p2.toNatClampNeg = x at *
  generalize hE : v p3.toNatClampNeg = e at *
  generalize hY : v p4.toNatClampNeg = y at *
  refine ⟨fun q => (q ≠ 0 ↔ (x < 0 ∧ e.natAbs % 2 = 1)), ⟨¬ (x < 0 ∧ e.natAbs % 2 = 1), ?_, fun z => ⟨fun y => absurd rfl y, fun y => absurd y z⟩⟩, ?_⟩
  · rw [e2]
    refine ⟨fun z q => absurd z ((sb_ne x).mpr q.1), fun z => ⟨c3, ?_⟩⟩
    have hx := (sb_ne x).mp z
    refine s_W_hasBit hu3 (by decide) (k := 0) rfl (by decide) ?_
    rw [Nat.testBit_eq_decide_div_mod_eq, Nat.pow_zero, Nat.div_one]
    by_cases c : e.natAbs % 2 = 1
    · rw [if_pos (decide_eq_true c)]
      exact ⟨fun z => absurd z (by decide), fun _ => ⟨fun _ => ⟨hx, c⟩, fun _ => by decide⟩⟩
    · rw [if_neg (fun z => c (of_decide_eq_true z))]
      exact ⟨fun _ q => c q.2, fun z => absurd rfl z⟩
  · intro q hq
    have hr : (res0 x e y).natAbs = x.natAbs ^ e.natAbs % y.natAbs := res0_abs x e y
    obtain ⟨hfr, hlt⟩ := fit_res0 (x := x) (e := e) hfy hy
    have hrn : res0 x e y ≠ 0 → (res0 x e y < 0 ↔ (x < 0 ∧ e.natAbs % 2 = 1)) := fun z => by
      unfold res0 at z ⊢
      by_cases c : x < 0 ∧ e.natAbs % 2 = 1
      · rw [if_pos c] at z ⊢
        exact ⟨fun _ => c, fun _ => by omega⟩
      · rw [if_neg c] at z ⊢
        exact ⟨fun y => by omega, fun y => absurd y c⟩
    have hdef : resv x e y = (if res0 x e y ≠ 0 ∧ ¬ (res0 x e y < 0 ↔ y < 0) then res0 x e y + y else res0 x e y) := rfl
    have hfv := fit_resv (x := x) (e := e) hfy hy
    generalize res0 x e y = r at *
    generalize resv x e y = rr at *
    have g10m : wM F10 A10 (K 43) (K 44) 135 r.natAbs := by rw [hr]; have := g10.1; rw [Int.natAbs_natCast] at this; exact this
    refine s_W_setBelowR (x := r) g10m (by decide) (fun z => by rw [hq, hrn z]) (fun F13 f13 g13 => ?_)
    have s13 : frS K F A F13 A10 := f10.trans (fr.scr (i := 43) (j := 44) hK ⟨f13, fun _ _ => rfl⟩ (by decide) (by decide))
    have c13 := h.scr s13
    have hy13 := (c13.1 _ w4).1
    rw [hY] at hy13
    refine s_W_sign g13 (by decide) ⟨c4, s_W_sign hy13 (by decide) ?_⟩
    have hsg : 0 ≤ iZ r.sign * iZ y.sign ↔ ¬ (r ≠ 0 ∧ ¬ (r < 0 ↔ y < 0)) := by
      rcases sg3 r with a | a | a <;> rcases sg3 y with b | b | b <;> rw [a.1, b.1]
      · exact ⟨fun _ => by omega, fun _ => by decide⟩
      · omega
      · exact ⟨fun z => absurd z (by decide), fun z => by omega⟩
      · exact ⟨fun _ => by omega, fun _ => by decide⟩
      · omega
      · exact ⟨fun _ => by omega, fun _ => by decide⟩
      · exact ⟨fun z => absurd z (by decide), fun z => by omega⟩
      · omega
      · exact ⟨fun _ => by omega, fun _ => by decide⟩
    rw [hsg]
    refine ⟨fun z => ?_, fun z => ⟨c4, c4, ?_⟩⟩
    · rw [if_neg z] at hdef
      subst hdef
      have f0 : fr F13 A10 F13 A10 (K 43) (K 44) := ⟨fun _ _ => rfl, fun _ _ => rfl⟩
      exact s_K_end hK c13 f0 g13 c1 (fun z => absurd hfv z) (fun _ F' A' k1 k2 _ => h0 ok hy F' A' (s13.c.trans k1) k2)
    · rw [if_pos (Classical.not_not.mp z)] at hdef
      subst hdef
      obtain ⟨⟨ur, hur⟩, hrb⟩ := g13
      have lr := fit_u hur hfr
      obtain ⟨⟨uy, huy⟩, hyb⟩ := hy13
      have ly := huy.1
      rw [hyb]
      exact s_W_takeSum hur hrb huy (sb01 y) (fun _ => sb_y) (by omega) (by decide) (by decide) (by decide) (fun F21 A21 f21 g21 => s_K_end hK c13 f21 g21 c1 (fun z => absurd hfv z) (fun _ F' A' k1 k2 _ => h0 ok hy F' A' (s13.c.trans k1) k2))
end K4
