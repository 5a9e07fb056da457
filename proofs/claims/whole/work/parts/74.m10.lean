theorem tr_neg {x y : Int} (h : tr x y ≠ 0) : (tr x y < 0 ↔ x < 0) ∧ x ≠ 0 := by
  unfold tr at *
  by_cases c : x < 0
  · rw [if_pos c] at h ⊢
    generalize x.natAbs % y.natAbs = r at *
    exact ⟨⟨fun _ => c, fun _ => by omega⟩, by omega⟩
  · rw [if_neg c] at h ⊢
    refine ⟨⟨fun z => by generalize x.natAbs % y.natAbs = r at *; omega, fun z => absurd z c⟩, fun z => ?_⟩
    rw [z, show (0 : Int).natAbs = 0 from rfl, Nat.zero_mod] at h
    exact h rfl
theorem tr_sg {x y : Int} (h : tr x y ≠ 0) : x.sign = (tr x y).sign := by
  obtain ⟨a, b⟩ := tr_neg h
  rcases sg3 x with c | c | c <;> rcases sg3 (tr x y) with d | d | d <;> omega
theorem tq_sg {x y : Int} (h : tq x y ≠ 0) : (x * y).sign = (tq x y).sign := by
  rw [Int.sign_mul]
  have hx : x ≠ 0 := fun z => by
    unfold tq at h
    rw [z, show (0 : Int).natAbs = 0 from rfl, Nat.zero_div] at h
    split at h <;> exact h rfl
  have hy : y ≠ 0 := fun z => by
    unfold tq at h
    rw [z, show (0 : Int).natAbs = 0 from rfl, Nat.div_zero] at h
    split at h <;> exact h rfl
  have hs : tq x y < 0 ↔ ¬ (x < 0 ↔ y < 0) := by
    unfold tq at h ⊢
    by_cases c : x < 0 ↔ y < 0
    · rw [if_pos c] at h ⊢
      generalize x.natAbs / y.natAbs = q at *
      exact ⟨fun z => by omega, fun z => absurd c z⟩
    · rw [if_neg c] at h ⊢
      generalize x.natAbs / y.natAbs = q at *
      exact ⟨fun _ => c, fun z => by omega⟩
  generalize tq x y = q at *
  rcases sg3 x with a | a | a <;> rcases sg3 y with b | b | b <;> rcases sg3 q with d | d | d <;> rw [a.1, b.1, d.1] <;> omega
section M10
variable {F A : gm_M} {K : Nat → Nat} {n : Nat} {tx : Nat → Nat} {v : Nat → Int} {p p1 p2 p3 p4 p5 : Int32}
theorem s_M_gateR {C : Prop} {REST POST : gm_M → Prop} {q code : Int32} (he : F (K 49) 0 = 0) (hc : code ≠ 0) (hv : (q = 0 ∧ C) ∨ (q = 1 ∧ ¬ C)) (h0 : C → REST F) (h1 : ¬ C → POST (gm_up F (K 49) 0 code)) : vc_M_fails K q code F A (fun r4 F4 => ((¬ r4 = (0) → POST F4) ∧ (r4 = (0) → REST F4))) := by
  refine s_M_fails he hc (fun c => ⟨fun z => absurd rfl z, fun _ => h0 ?_⟩) (fun c => ⟨fun _ => h1 ?_, fun z => absurd z (by decide)⟩)
  · rcases hv with z | z
    · exact z.2
    · exact absurd (z.1.symm.trans c) (by decide)
  · rcases hv with z | z
    · exact absurd z.1 c
    · exact z.2
/-- two numbers are kept -/
theorem s_M_keep2 {F1 A1 : gm_M} {q r : Int} {i j m1 m2 : Nat} {s1 s2 d1 d2 : Int32} (hK : kinj K) (h : MS K F A v n tx) (he : F1 (K 49) 0 = 0) (g : frM K F A F1 A1) (hp : vp_in p2 16) (hp3 : vp_in p3 16) (hi : 54 ≤ i ∧ i < 64) (hj : 54 ≤ j ∧ j < 64) (hm1 : m1 ≤ 9000) (hm2 : m2 ≤ 9000) (hq : aV A1 (K i) m1 q.natAbs) (hr : aV A1 (K j) m2 r.natAbs) (hd1 : d1 = nI m1) (hd2 : d2 = nI m2) (hs1 : q ≠ 0 → s1 = iZ q.sign) (hs2 : r ≠ 0 → s2 = iZ r.sign) (fq : fit q) (fr : fit r) {post : Int32 → gm_M → gm_M → Prop} (h0 : ∀ F' A', F' (K 49) 0 = 0 → frR K F A F' A' → MS K F' A' (vu (vu v p2.toNatClampNeg q) p3.toNatClampNeg r) n tx → post (iZ r.sign) F' A') : vc_M_keep K p2 s1 (K i) 9000 d1 2 F1 A1 (fun (r_14 : Int32) (F_14 : gm_M) (A_14 : gm_M) => vc_M_keep K p3 s2 (K j) 9000 d2 2 F_14 A_14 (fun (r_15 : Int32) (F_15 : gm_M) (A_15 : gm_M) => (vp_in p3 16) ∧ post (A_15 (K 52) p3.toNatClampNeg) F_15 A_15)) := by
  refine s_M_keepX hK (h.scr g) hp he hi hd1 hm1 (by decide) hq hs1 (by decide) (fun c A' f m' => ?_) (fun c => absurd fq c)
  have ej : A' (K j) = A1 (K j) := f _ (kne hK (by omega) (by omega) (by omega)) (kne hK (by omega) (by omega) (by omega)) (kne hK (by omega) (by omega) (by omega))
  refine s_M_keepX hK m' hp3 he hj hd2 hm2 (by decide) (hr.congr (fun k _ => by rw [ej])) hs2 (by decide) (fun c A'' f2 m'' => ⟨hp3, ?_⟩) (fun c => absurd fr c)
  have := (m''.1 _ (vp_lt hp3)).sg
  rw [vu_at] at this
  rw [this]
  exact h0 _ _ he (g.r.trans ((frR_keep hK f).trans (frR_keep hK f2))) m''
set_option maxHeartbeats 1000000 in
theorem s_M_divide (hK : kinj K) (h : MS K F A v n tx) {post : Int32 → gm_M → gm_M → Prop} (h1 : ¬ okD p2 p3 p4 p5 → ∀ r F' A', F' (K 49) 0 = 1 → frR K F A F' A' → MS K F' A' v n tx → post r F' A') (h2 : okD p2 p3 p4 p5 → v p5.toNatClampNeg = 0 → ∀ r F' A', F' (K 49) 0 = 2 → frR K F A F' A' → MS K F' A' v n tx → post r F' A') (h0 : okD p2 p3 p4 p5 → v p5.toNatClampNeg ≠ 0 → ∀ F' A', F' (K 49) 0 = 0 → frR K F A F' A' → MS K F' A' (vu (vu v p2.toNatClampNeg (dvq p1 (v p4.toNatClampNeg) (v p5.toNatClampNeg))) p3.toNatClampNeg (dvr p1 (v p4.toNatClampNeg) (v p5.toNatClampNeg))) n tx → post (iZ (dvr p1 (v p4.toNatClampNeg) (v p5.toNatClampNeg)).sign) F' A') : vc_M_divide K p1 p2 p3 p4 p5 F A post := by
  unfold vc_M_divide
  rintro _ rfl
  have m1 := h.scr (frM_1 hK)
  refine s_M_isReg (fun r hr => ⟨fun q => (q = 0 ∧ okD p2 p3 p4 p5) ∨ (q = 1 ∧ ¬ okD p2 p3 p4 p5), ⟨¬ okD p2 p3 p4 p5, ?_, fun z => Or.inr ⟨rfl, z⟩⟩, fun q hq => s_M_gateR err0 (by decide) hq (fun ok => ⟨ok.1.2.2, ?_⟩) (fun c => h1 c 0 _ _ (up_at _ _ _ _) (frM_2 hK 1).r (h.scr (frM_2 hK 1)))⟩)
  · rcases hr with ⟨rfl, c1⟩ | ⟨rfl, c1⟩
    · refine ⟨fun z => absurd z (by decide), fun _ => s_M_isReg (fun r hr => ?_)⟩
      rcases hr with ⟨rfl, c2⟩ | ⟨rfl, c2⟩
      · refine ⟨fun z => absurd z (by decide), fun _ => s_M_isReg (fun r hr => ?_)⟩
        rcases hr with ⟨rfl, c3⟩ | ⟨rfl, c3⟩
        · refine ⟨fun z => absurd z (by decide), fun _ => s_M_isReg (fun r hr => ?_)⟩
          rcases hr with ⟨rfl, c4⟩ | ⟨rfl, c4⟩
          · exact ⟨fun z => absurd z (by decide), fun _ => ⟨fun ne => Or.inl ⟨rfl, ⟨c1, c3, c4⟩, c2, ne⟩, fun e z => z.2.2 e⟩⟩
          · exact ⟨fun _ z => c4 z.1.2.2, fun z => absurd rfl z⟩
        · exact ⟨fun _ z => c3 z.1.2.1, fun z => absurd rfl z⟩
      · exact ⟨fun _ z => c2 z.2.1, fun z => absurd rfl z⟩
    · exact ⟨fun _ z => c1 z.1.1, fun z => absurd rfl z⟩
  · have k2 := h2 ok
    have k0 := h0 ok
    clear h1 h2 h0
    obtain ⟨⟨c2, c4, c5⟩, c3, -⟩ := ok
    have w4 := vp_lt c4
    have w5 := vp_lt c5
    have s5 := (h.1 _ w5).sg
    rw [s5]
    have hfx : fit (v p4.toNatClampNeg) := by obtain ⟨c, _, _, _, _, _, _, h7⟩ := h.1 _ w4; exact h7
    have hfy : fit (v p5.toNatClampNeg) := by obtain ⟨c, _, _, _, _, _, _, h7⟩ := h.1 _ w5; exact h7
    refine ⟨fun q => (q = 0 ∧ v p5.toNatClampNeg ≠ 0) ∨ (q = 1 ∧ ¬ v p5.toNatClampNeg ≠ 0), ⟨fun z => Or.inl ⟨rfl, fun y => z (sg_0.mpr y)⟩, fun z => Or.inr ⟨rfl, fun y => y (sg_0.mp z)⟩⟩, fun q hq => s_M_gate err0 (by decide) hq (fun hy => ?_) (fun c => k2 (Classical.not_not.mp c) 0 _ _ (up_at _ _ _ _) (frM_2 hK 2).r (h.scr (frM_2 hK 2)))⟩
    have k0 := k0 hy
    refine s_M_load hK (m1.1 _ w4) c4 (by decide) (by decide) (by decide) (fun A7 u7 f7 a7 hu7 => ?_)
    have g7 := (frM_1 (F := F) (A := A) hK).trans (frM_A (F := gm_up F (K 49) 0 0) (i := 54) hK (by decide) f7)
    refine s_M_load hK ((h.scr g7).1 _ w5) c5 (by decide) (by decide) (by decide) (fun A8 u8 f8 a8 hu8 => ⟨c4, ?_⟩)
    have g8 := g7.trans (frM_A (F := gm_up F (K 49) 0 0) (i := 55) hK (by decide) f8)
    have m8 := h.scr g8
    have a78 : aU A8 (K 54) u7 (v p4.toNatClampNeg).natAbs := a7.cong (f8 _ (kne hK (by decide) (by decide) (by decide)))
    rw [(m8.1 _ w4).sg, (m8.1 _ w5).sg]
    rintro _ rfl
    refine ⟨c5, ?_⟩
    rintro _ rfl
    generalize v p4.toNatClampNeg = x at *
    generalize v p5.toNatClampNeg = y at *
    refine s_M_divided (kne hK (by decide) (by decide) (by decide)) (kne hK (by decide) (by decide) (by decide)) (kne hK (by decide) (by decide) (by decide)) (kne hK (by decide) (by decide) (by decide)) (kne hK (by decide) (by decide) (by decide)) (kne hK (by decide) (by decide) (by decide)) rfl rfl a78 a8 (by omega) (by omega) (by omega) (by omega) (by decide) (by decide) (by decide) (fun A11 ur uq f11 ar aq hur huq => ?_)
    rw [up_at]
    rintro _ rfl
    have e11 : gm_up (gm_up F (K 49) 0 0) (K 49) 12 (nI uq) (K 49) 0 = 0 := by rw [up_ne _ _ (by decide)]; exact err0
    have g11 : frM K F A (gm_up (gm_up F (K 49) 0 0) (K 49) 12 (nI uq)) A11 := (g8.trans (frM_F (F := gm_up F (K 49) 0 0) (A := A8) (s := 12) (nI uq) hK (by decide))).trans ⟨fun _ _ => rfl, rfl, fun i hi => f11 _ (kne hK (by omega) (by omega) (by omega)) (kne hK (by omega) (by omega) (by omega)) (kne hK (by omega) (by omega) (by omega))⟩
    rw [← tq_abs] at aq
    rw [← tr_abs] at ar
    have a811 : aU A11 (K 55) u8 y.natAbs := a8.cong (f11 _ (kne hK (by decide) (by decide) (by decide)) (kne hK (by decide) (by decide) (by decide)) (kne hK (by decide) (by decide) (by decide)))
    rw [sg_mul, sg_eq]
    have hz : ur = 0 ↔ tr x y = 0 := by rw [ar.pos]; omega
    refine ⟨p1 = 0 ∨ ur = 0 ∨ x.sign = y.sign, ⟨fun d => Or.inl d, fun d => pk_le ur 0 (fun d2 => Or.inr (Or.inl (by omega))) (fun d2 => ⟨fun d3 => Or.inr (Or.inr d3), fun d3 => ⟨pk_in 0 9000 (by decide), ?_⟩⟩)⟩, fun hJ => ?_⟩
    · rintro _ rfl
      have htr : tr x y ≠ 0 := fun z => by have := hz.mpr z; omega
      obtain ⟨t1, t2⟩ := tr_neg htr
      have hlt := tr_lt (x := x) hy
      have q1 := sg3 x
      have q2 := sg3 y
      have hcond : tr x y ≠ 0 ∧ ¬ (tr x y < 0 ↔ y < 0) := ⟨htr, by omega⟩
      have hfq := fit_dvq (p := p1) hfx hy
      have hfr := fit_dvr (p := p1) hfx hfy hy
      have eq : dvq p1 x y = -(((tq x y).natAbs + 1 : Nat) : Int) := by unfold dvq; rw [if_neg d, if_pos hcond]
      have er : dvr p1 x y = tr x y + y := by unfold dvr; rw [if_neg d, if_pos hcond]
      have one : aV (gm_up A11 (K 57) 0 1) (K 57) 1 1 := ⟨fun k hk => by
        have : k = 0 := by omega
        subst this
        rw [show dg (gm_up A11 (K 57) 0 1) (K 57) 0 = 1 from dg_of (up_at _ _ _ _) (by decide), up_at]
        exact ⟨rfl, by decide⟩, by
        simp only [ev, Nat.pow_zero, Nat.mul_one, Nat.zero_add]
        exact dg_of (up_at _ _ _ _) (by decide)⟩
      have e5756 := kne hK (show 56 ≠ 57 by decide) (by decide) (by decide)
      have aq16 : aU (gm_up A11 (K 57) 0 1) (K 56) uq (tq x y).natAbs := aq.cong (gm_off e5756)
      refine s_M_plus (u1 := uq) (u3 := 1) rfl rfl aq16.v one (by omega) (by decide) (by omega) (by decide) (by decide) (by decide) (fun A17 u17 f17 hu17 a17 => ?_)
      have a817 : aU A17 (K 55) u8 y.natAbs := a811.cong (by rw [f17 _ (kne hK (by decide) (by decide) (by decide)), gm_off (kne hK (by decide) (by decide) (by decide))])
      have ar17 : aU A17 (K 54) ur (tr x y).natAbs := ar.cong (by rw [f17 _ (kne hK (by decide) (by decide) (by decide)), gm_off (kne hK (by decide) (by decide) (by decide))])
      refine s_M_less rfl rfl a817.v ar17.v hur (by omega) (by omega) (by omega) (by omega) (by decide) (by decide) (by decide) (fun A18 u18 f18 hu18 a18 => ?_)
      have a1718 : aU A18 (K 56) u17 ((tq x y).natAbs + 1) := a17.cong (f18 _ e5756)
      refine s_M_bits rfl a1718 (by omega) (by decide) ?_
      have hb : bl ((tq x y).natAbs + 1) ≤ 2048 := by
        rw [eq] at hfq
        unfold fit at hfq
        rw [Int.natAbs_neg, Int.natAbs_natCast] at hfq
        exact bl_le_iff.mpr hfq
      refine ⟨fun q => q = 0, pk_le (bl ((tq x y).natAbs + 1)) 2048 (fun _ => rfl) (fun z => by omega), ?_⟩
      rintro _ rfl
      refine s_M_fails e11 (by decide) (fun _ => ⟨fun _ => ?_, fun z => absurd rfl z⟩) (fun z => absurd rfl z)
      have g18 : frM K F A (gm_up (gm_up F (K 49) 0 0) (K 49) 12 (nI uq)) A18 := g11.trans ⟨fun _ _ => rfl, rfl, fun i hi => by rw [f18 _ (kne hK (by omega) (by omega) (by omega)), f17 _ (kne hK (by omega) (by omega) (by omega)), gm_off (kne hK (by omega) (by omega) (by omega))]⟩
      rw [eq, er] at k0 
      rw [eq] at hfq
      rw [er] at hfr
      refine s_M_keep2 hK h e11 g18 c2 c3 (by decide) (by decide) (m1 := u17) (m2 := u18) (by omega) (by omega) ?_ ?_ rfl rfl (fun z => ?_) (fun z => ?_) hfq hfr k0
      · rw [Int.natAbs_neg, Int.natAbs_natCast]; exact a1718.v
      · rw [show (tr x y + y).natAbs = y.natAbs - (tr x y).natAbs by omega]; exact a18.v
      · rw [Int.sign_mul]
        congr 1
        rw [Int.sign_eq_neg_one_of_neg (a := -(((tq x y).natAbs + 1 : Nat) : Int)) (by omega)]
        rcases q1 with a | a | a <;> rcases q2 with b | b | b <;> rw [a.1, b.1] <;> omega
      · congr 1
        have q3 := sg3 (tr x y + y)
        omega
    · have hcond : p1 = 0 ∨ ¬ (tr x y ≠ 0 ∧ ¬ (tr x y < 0 ↔ y < 0)) := by
        rcases hJ with z | z | z
        · exact Or.inl z
        · exact Or.inr (fun w => w.1 (hz.mp z))
        · refine Or.inr (fun w => w.2 ?_)
          obtain ⟨t1, t2⟩ := tr_neg w.1
          have q1 := sg3 x
          have q2 := sg3 y
          omega
      have eq : dvq p1 x y = tq x y := by
        unfold dvq
        by_cases d : p1 = 0
        · rw [if_pos d]
        · rw [if_neg d, if_neg (hcond.resolve_left d)]
      have er : dvr p1 x y = tr x y := by
        unfold dvr
        by_cases d : p1 = 0
        · rw [if_pos d]
        · rw [if_neg d, if_neg (hcond.resolve_left d)]
      rw [eq, er] at k0
      exact s_M_keep2 hK h e11 g11 c2 c3 (by decide) (by decide) (by omega) (by omega) aq.v ar.v rfl rfl (fun z => by rw [tq_sg z]) (fun z => by rw [tr_sg z]) (fit_tq y hfx) (fit_tr y hfx) k0
end M10
