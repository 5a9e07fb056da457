theorem sg_neg (x : Int) : -(iZ x.sign) = iZ (-x).sign := by rw [iZ_neg, Int.sign_neg]
theorem sg_mul (x y : Int) : iZ x.sign * iZ y.sign = iZ (x * y).sign := by rw [iZ_mul, Int.sign_mul]
theorem sg_eq (x y : Int) : iZ x.sign = iZ y.sign ↔ x.sign = y.sign := by
  rcases sg3 x with a | a | a <;> rcases sg3 y with b | b | b <;> rw [a.1, b.1] <;> decide
theorem cmp_lt {a b : Nat} : iZ (cmpN a b) < 0 ↔ a < b := by
  have h : -1 ≤ cmpN a b ∧ cmpN a b ≤ 1 ∧ (cmpN a b < 0 ↔ a < b) := by
    unfold cmpN; split
    · omega
    · split <;> omega
  rw [← h.2.2]
  exact iZ_lt (b := 0) (by omega) (by omega) (by omega) (by omega)
section M9
variable {F A : gm_M} {K : Nat → Nat} {n : Nat} {tx : Nat → Nat} {v : Nat → Int} {p p1 p2 p3 p4 p5 : Int32}
theorem s_M_in3 {post : Int32 → Prop} (h : ∀ r, (r = 1 ∧ vp_in p 3) ∨ (r = 0 ∧ ¬ vp_in p 3) → post r) : vc_M_in p (0 : Int32) (2 : Int32) F A post := by
  refine s_M_in 0 2 (fun r hr => ?_)
  rcases hr with ⟨rfl, c⟩ | ⟨rfl, c⟩
  · exact h 1 (Or.inl ⟨rfl, vp_in_iff.mpr ⟨c.1, by omega⟩⟩)
  · exact h 0 (Or.inr ⟨rfl, fun z => c (by rw [vp_in_iff] at z; omega)⟩)
theorem s_M_inB {post : Int32 → Prop} (h : ∀ r, (r = 1 ∧ isB p) ∨ (r = 0 ∧ ¬ isB p) → post r) : vc_M_in p (2 : Int32) (36 : Int32) F A post := s_M_in 2 36 h
/-- the start of work and bits -/
theorem s_M_ok4 {REST POST : gm_M → Prop} (h0 : ok4 p1 p2 p3 p4 → REST (gm_up F (K 49) 0 0)) (h1 : ¬ ok4 p1 p2 p3 p4 → POST (gm_up (gm_up F (K 49) 0 0) (K 49) 0 1)) : ∀ F_1 : gm_M, F_1 = gm_up F (K 49) 0 (0 : Int32) →
  vc_M_in p1 (0 : Int32) (2 : Int32) F_1 A (fun (r_2 : Int32) =>
    ∃ (J_42 : Int32 → Prop), (
      ∃ (J_37 : Prop), (
        ((r_2 = (0) →
          J_37
        ) ∧ (¬ r_2 = (0) →
          vc_M_isRegister p2 F_1 A (fun (r_21 : Int32) =>
            ((r_21 = (0) →
              J_37
            ) ∧ (¬ r_21 = (0) →
              vc_M_isRegister p3 F_1 A (fun (r_22 : Int32) =>
                ((r_22 = (0) →
                  J_37
                ) ∧ (¬ r_22 = (0) →
                  vc_M_isRegister p4 F_1 A (fun (r_23 : Int32) =>
                    ((¬ r_23 = (0) →
                      J_42 (0 : Int32)
                    ) ∧ (r_23 = (0) →
                      J_37
                    ))
                  )
                ))
              )
            ))
          )
        ))
      ) ∧ ((J_37 →
        J_42 (1 : Int32)
      ))
    ) ∧ ((∀ (v0_3 : Int32), J_42 v0_3 →
      vc_M_fails K v0_3 (1 : Int32) F_1 A (fun (r_4 : Int32) (F_4 : gm_M) => ((r_4 = (0) → REST F_4) ∧ (¬ r_4 = (0) → POST F_4)))))) := by
  rintro _ rfl
  refine s_M_in3 (fun r hr => ⟨fun q => (q = 0 ∧ ok4 p1 p2 p3 p4) ∨ (q = 1 ∧ ¬ ok4 p1 p2 p3 p4), ⟨¬ ok4 p1 p2 p3 p4, ?_, fun z => Or.inr ⟨rfl, z⟩⟩, fun q hq => s_M_gate err0 (by decide) hq h0 h1⟩)
  rcases hr with ⟨rfl, c1⟩ | ⟨rfl, c1⟩
  · refine ⟨fun z => absurd z (by decide), fun _ => s_M_isReg (fun r hr => ?_)⟩
    rcases hr with ⟨rfl, c2⟩ | ⟨rfl, c2⟩
    · refine ⟨fun z => absurd z (by decide), fun _ => s_M_isReg (fun r hr => ?_)⟩
      rcases hr with ⟨rfl, c3⟩ | ⟨rfl, c3⟩
      · refine ⟨fun z => absurd z (by decide), fun _ => s_M_isReg (fun r hr => ?_)⟩
        rcases hr with ⟨rfl, c4⟩ | ⟨rfl, c4⟩
        · exact ⟨fun _ => Or.inl ⟨rfl, c1, c2, c3, c4⟩, fun z => absurd z (by decide)⟩
        · exact ⟨fun z => absurd rfl z, fun _ z => c4 z.2.2.2⟩
      · exact ⟨fun _ z => c3 z.2.2.1, fun z => absurd rfl z⟩
    · exact ⟨fun _ z => c2 z.2.1, fun z => absurd rfl z⟩
  · exact ⟨fun _ z => c1 z.1, fun z => absurd rfl z⟩
theorem s_M_work (hK : kinj K) (h : MS K F A v n tx) {post : Int32 → gm_M → gm_M → Prop} (h1 : ¬ ok4 p1 p2 p3 p4 → ∀ r F' A', F' (K 49) 0 = 1 → frR K F A F' A' → MS K F' A' v n tx → post r F' A') (h2 : ok4 p1 p2 p3 p4 → ¬ fit (wk p1.toNatClampNeg (v p3.toNatClampNeg) (v p4.toNatClampNeg)) → ∀ r F' A', F' (K 49) 0 = 2 → frR K F A F' A' → MS K F' A' v n tx → post r F' A') (h0 : ok4 p1 p2 p3 p4 → fit (wk p1.toNatClampNeg (v p3.toNatClampNeg) (v p4.toNatClampNeg)) → ∀ F' A', F' (K 49) 0 = 0 → frR K F A F' A' → MS K F' A' (vu v p2.toNatClampNeg (wk p1.toNatClampNeg (v p3.toNatClampNeg) (v p4.toNatClampNeg))) n tx → post (iZ (wk p1.toNatClampNeg (v p3.toNatClampNeg) (v p4.toNatClampNeg)).sign) F' A') : vc_M_work K p1 p2 p3 p4 F A post := by
  unfold vc_M_work
  refine s_M_ok4 (fun ok => ?_) (fun c => h1 c 0 _ _ (up_at _ _ _ _) (frM_2 hK 1).r (h.scr (frM_2 hK 1)))
  have m1 := h.scr (frM_1 hK)
  have k2 := h2 ok
  have k0 := h0 ok
  clear h1 h2 h0
  obtain ⟨c1, c2, c3, c4⟩ := ok
  have w3 := vp_lt c3
  have w4 := vp_lt c4
  have e1 := vp_eq c1 (by decide)
  have l1 := vp_lt c1
  refine s_M_load hK (m1.1 _ w3) c3 (by decide) (by decide) (by decide) (fun A5 u5 f5 a5 hu5 => ?_)
  have g5 := (frM_1 (F := F) (A := A) hK).trans (frM_A (F := gm_up F (K 49) 0 0) (i := 54) hK (by decide) f5)
  refine s_M_load hK ((h.scr g5).1 _ w4) c4 (by decide) (by decide) (by decide) (fun A6 u6 f6 a6 hu6 => ⟨c3, ?_⟩)
  have g6 := g5.trans (frM_A (F := gm_up F (K 49) 0 0) (i := 55) hK (by decide) f6)
  have m6 := h.scr g6
  have a56 : aU A6 (K 54) u5 (v p3.toNatClampNeg).natAbs := a5.cong (f6 _ (kne hK (by decide) (by decide) (by decide)))
  have s3 := (m6.1 _ w3).sg
  have s4 := (m6.1 _ w4).sg
  rw [s3]
  rintro _ rfl
  generalize hk : p1.toNatClampNeg = k at *
  generalize v p3.toNatClampNeg = x at *
  generalize v p4.toNatClampNeg = y at *
  subst e1
  obtain ⟨y', hy', hyk⟩ : ∃ y' : Int, y'.natAbs = y.natAbs ∧ y' = (if k = 1 then -y else y) := ⟨_, by split <;> omega, rfl⟩
  have endp : ∀ (z : Int) (A9 : gm_M) (u9 : Nat) (s : Int32), wk k x y = z → (∀ b, b ≠ K 56 → A9 b = A6 b) → aU A9 (K 56) u9 z.natAbs → u9 ≤ 9000 → (z ≠ 0 → s = iZ z.sign) → vc_M_keep K p2 s (K 56) 9000 (nI u9) 2 (gm_up F (K 49) 0 0) A9 (fun (r_12 : Int32) (F_12 : gm_M) (A_12 : gm_M) => ((r_12 = (0) → post (0 : Int32) F_12 A_12) ∧ (¬ r_12 = (0) → (vp_in p2 16) ∧ post (A_12 (K 52) p2.toNatClampNeg) F_12 A_12))) := by
    intro z A9 u9 s ez f9 a9 hu9 hs
    rw [ez] at k2 k0
    exact s_M_endS hK h err0 (g6.trans (frM_A (F := gm_up F (K 49) 0 0) (i := 56) hK (by decide) f9)) c2 (by decide) rfl hu9 a9.v hs k2 k0
  refine ⟨fun q => q = iZ y'.sign, ?_, ?_⟩
  · rw [s4]
    refine (pk_eq k 1 (fun e => ?_) (fun e => ?_)).symm
    · refine ⟨c4, ?_⟩
      rw [hyk, if_pos e, sg_neg]
    · refine ⟨c4, ?_⟩
      rw [hyk, if_neg e]
  rintro _ rfl
  refine (pk_eq k 2 (fun e => ?_) (fun e => ?_)).symm
  · have e3 : y' = y := by rw [hyk, if_neg (by omega)]
    rw [e3]
    refine s_M_times rfl rfl a56.v a6.v (kne hK (by decide) (by decide) (by decide)) (kne hK (by decide) (by decide) (by decide)) (by omega) (by omega) (by omega) (by decide) (by decide) (by decide) (fun A9 u9 f9 hu9 a9 => ?_)
    refine endp (x * y) A9 u9 _ ?_ f9 (by rw [Int.natAbs_mul]; exact a9) (by omega) (fun _ => sg_mul x y)
    unfold wk
    rw [if_neg (by omega), if_neg (by omega)]
  · have ez : wk k x y = x + y' := by
      unfold wk
      by_cases k0 : k = 0
      · rw [if_pos k0, hyk, if_neg (by omega)]
      · rw [if_neg k0, if_pos (by omega), hyk, if_pos (by omega)]; omega
    rw [sg_eq]
    refine ⟨x.sign = y'.sign ∨ y' = 0 ∨ x = 0, ⟨fun d => Or.inl d, fun d => ⟨fun d2 => Or.inr (Or.inl (sg_0.mp d2)), fun d2 => ⟨fun d3 => ?_, fun d3 => Or.inr (Or.inr (sg_0.mp d3))⟩⟩⟩, fun hJ => ?_⟩
    · have d2 : y' ≠ 0 := fun z => d2 (sg_0.mpr z)
      have d3 : x ≠ 0 := fun z => d3 (sg_0.mpr z)
      have q1 := sg3 x
      have q2 := sg3 y'
      refine s_M_compared rfl rfl a56 a6 (by omega) (by omega) (by decide) (by decide) ?_
      rw [cmp_lt]
      refine ⟨fun lt => ?_, fun lt => ?_⟩
      · refine s_M_less rfl rfl a6.v a56.v ?_ (by omega) (by omega) (by omega) (by omega) (by decide) (by decide) (by decide) (fun A9 u9 f9 hu9 a9 => ?_)
        · rcases Nat.lt_or_ge u6 u5 with c | c
          · have := a56.ltu a6 c; omega
          · exact c
        refine endp (x + y') A9 u9 _ ez f9 ?_ (by omega) (fun _ => ?_)
        · rw [show (x + y').natAbs = y.natAbs - x.natAbs by omega]; exact a9
        · congr 1
          rcases sg3 (x + y') with b | b | b <;> omega
      · refine s_M_less rfl rfl a56.v a6.v ?_ (by omega) (by omega) (by omega) (by omega) (by decide) (by decide) (by decide) (fun A9 u9 f9 hu9 a9 => ?_)
        · rcases Nat.lt_or_ge u5 u6 with c | c
          · have := a6.ltu a56 c; omega
          · exact c
        refine endp (x + y') A9 u9 _ ez f9 ?_ (by omega) (fun _ => ?_)
        · rw [show (x + y').natAbs = x.natAbs - y.natAbs by omega]; exact a9
        · congr 1
          rcases sg3 (x + y') with b | b | b <;> omega
    · have q1 := sg3 x
      have q2 := sg3 y'
      have q3 := sg3 (x + y')
      refine ⟨fun q => x + y' ≠ 0 → q = iZ (x + y').sign, ⟨fun d _ => ?_, fun d _ => ?_⟩, fun q hq => ?_⟩
      · have d := sg_0.mp d
        rw [d, Int.zero_add]
      · have d : x ≠ 0 := fun z => d (sg_0.mpr z)
        congr 1
        omega
      · refine s_M_plus rfl rfl a56.v a6.v (by omega) (by omega) (by omega) (by decide) (by decide) (by decide) (fun A9 u9 f9 hu9 a9 => ?_)
        refine endp (x + y') A9 u9 q ez f9 ?_ (by omega) hq
        rw [show (x + y').natAbs = x.natAbs + y.natAbs by omega]; exact a9
end M9
