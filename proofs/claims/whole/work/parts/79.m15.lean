section M15
variable {F A : gm_M} {K : Nat → Nat} {n : Nat} {tx : Nat → Nat} {v : Nat → Int} {p p1 p2 p3 p4 p5 : Int32}
theorem md_mulmod {R : Int32 → gm_M → gm_M → Prop} {r rj P Q M u8 j n3 : Nat} (hK : kinj K) (hj : j = 57 ∨ j = 62) (hn3 : rj ≤ n3) (hn3' : n3 ≤ 9000) (hr : r ≤ 200) (hrj : rj ≤ 200) (hu8 : u8 ≤ 200) (h1 : aU A (K 57) r P) (h3 : aU A (K j) rj Q) (h8 : aU A (K 58) u8 M) (hM : M ≠ 0) (hR : ∀ r' uq A', (∀ i, i < 64 → i ≠ 54 → i ≠ 56 → i ≠ 57 → i ≠ 60 → A' (K i) = A (K i)) → aU A' (K 57) r' (P * Q % M) → r' ≤ u8 → R (nI r') (gm_up F (K 49) 12 (nI uq)) A') : vc_M_times (K 57) (9000) (nI r) (K j) n3 (nI rj) (K 54) (9000) F A (fun (r_25 : Int32) (A_25 : gm_M) =>
    vc_M_divided K (K 54) (9000) r_25 (K 58) (9000) (nI u8) (K 56) (9000) F A_25 (fun (r_26 : Int32) (F_26 : gm_M) (A_26 : gm_M) =>
      ∃ (I_325 : Int32 → gm_M → Prop) (μ_325 : Int32 → gm_M → Nat), I_325 (0 : Int32) A_26 ∧ ∀ (x12_27 : Int32) (A_27 : gm_M), I_325 x12_27 A_27 →
        ((r_26 ≤ x12_27 → R r_26 F_26 A_27) ∧ (¬ r_26 ≤ x12_27 →
          (vp_in x12_27 9000) ∧
          (vp_in x12_27 9000) ∧ ∀ A_36 : gm_M, A_36 = gm_up A_27 (K 57) x12_27.toNatClampNeg (A_27 (K 54) x12_27.toNatClampNeg) →
          ∀ x12_37 : Int32, x12_37 = x12_27 + (1 : Int32) →
          I_325 x12_37 A_36 ∧ μ_325 x12_37 A_36 < μ_325 x12_27 A_27)))) := by
  have ej : K j ≠ K 54 := kne hK (by omega) (by omega) (by omega)
  refine s_M_times rfl rfl h1.v h3.v (kne hK (by decide) (by decide) (by decide)) ej (by omega) hn3 (by omega) (by decide) hn3' (by decide) (fun A25 r25 f25 hr25 a25 => ?_)
  refine s_M_divided (kne hK (by decide) (by decide) (by decide)) (kne hK (by decide) (by decide) (by decide)) (kne hK (by decide) (by decide) (by decide)) (kne hK (by decide) (by decide) (by decide)) (kne hK (by decide) (by decide) (by decide)) (kne hK (by decide) (by decide) (by decide)) rfl rfl a25 (h8.cong (f25 _ (kne hK (by decide) (by decide) (by decide)))) hM (by omega) (by omega) (by omega) (by decide) (by decide) (by decide) (fun A26 ur uq f26 ar aq hur huq => ?_)
  refine md_cpy (kne hK (by decide) (by decide) (by decide)) (by omega) (by omega) (by decide) (by decide) (fun A27 f27 d27 => ?_)
  exact hR ur uq A27 (fun i hi i4 i6 i7 i0 => by rw [f27 _ (kne hK (by omega) (by omega) (by omega)), f26 _ (kne hK (by omega) (by omega) (by omega)) (kne hK (by omega) (by omega) (by omega)) (kne hK (by omega) (by omega) (by omega)), f25 _ (kne hK (by omega) (by omega) (by omega))]) (ar.congr d27) hur
theorem s_M_endF {F1 A1 : gm_M} {x : Int} {m i : Nat} (hK : kinj K) (h : MS K F A v n tx) (he : F1 (K 49) 0 = 0) (g : frM K F A F1 A1) (hp : vp_in p1 16) (hi : 54 ≤ i ∧ i < 64) (hp4 : p4 = nI m) (hm : m ≤ 9000) (hV : aV A1 (K i) m x.natAbs) (hs : x ≠ 0 → p2 = iZ x.sign) (hf : fit x) {post : Int32 → gm_M → gm_M → Prop} (h0 : ∀ F' A', F' (K 49) 0 = 0 → frR K F A F' A' → MS K F' A' (vu v p1.toNatClampNeg x) n tx → post (iZ x.sign) F' A') : vc_M_keep K p1 p2 (K i) 9000 p4 2 F1 A1 (fun (r_12 : Int32) (F_12 : gm_M) (A_12 : gm_M) => (vp_in p1 16) ∧ post (A_12 (K 52) p1.toNatClampNeg) F_12 A_12) := by
  refine s_M_keep hK (h.scr g) hp he hi hp4 hm (by decide) hV hs (by decide) (fun c A' f m' => ⟨hp, ?_⟩) (fun c => absurd hf c)
  have := (m'.1 _ (vp_lt hp)).sg
  rw [vu_at] at this
  rw [this]
  exact h0 _ _ he (g.r.trans f) m'
set_option maxHeartbeats 2000000 in
theorem s_M_residue (hK : kinj K) (h : MS K F A v n tx) {post : Int32 → gm_M → gm_M → Prop} (h1 : ¬ okX p1 p2 p3 p4 v → ∀ r F' A', F' (K 49) 0 = 1 → frR K F A F' A' → MS K F' A' v n tx → post r F' A') (h2 : okX p1 p2 p3 p4 v → v p4.toNatClampNeg = 0 → ∀ r F' A', F' (K 49) 0 = 2 → frR K F A F' A' → MS K F' A' v n tx → post r F' A') (h0 : okX p1 p2 p3 p4 v → v p4.toNatClampNeg ≠ 0 → ∀ F' A', F' (K 49) 0 = 0 → frR K F A F' A' → MS K F' A' (vu v p1.toNatClampNeg (resv (v p2.toNatClampNeg) (v p3.toNatClampNeg) (v p4.toNatClampNeg))) n tx → post (iZ (resv (v p2.toNatClampNeg) (v p3.toNatClampNeg) (v p4.toNatClampNeg)).sign) F' A') : vc_M_residue K p1 p2 p3 p4 F A post := by
  unfold vc_M_residue
  rintro _ rfl
  have m1 := h.scr (frM_1 hK)
  refine s_M_isReg (fun r hr => ⟨fun q => (q = 0 ∧ okX p1 p2 p3 p4 v) ∨ (q = 1 ∧ ¬ okX p1 p2 p3 p4 v), ⟨¬ okX p1 p2 p3 p4 v, ?_, fun z => Or.inr ⟨rfl, z⟩⟩, fun q hq => s_M_gateR err0 (by decide) hq (fun ok => ⟨ok.2.1, ?_⟩) (fun c => h1 c 0 _ _ (up_at _ _ _ _) (frM_2 hK 1).r (h.scr (frM_2 hK 1)))⟩)
  · rcases hr with ⟨rfl, c1⟩ | ⟨rfl, c1⟩
    · refine ⟨fun z => absurd z (by decide), fun _ => s_M_isReg (fun r hr => ?_)⟩
      rcases hr with ⟨rfl, c2⟩ | ⟨rfl, c2⟩
      · refine ⟨fun z => absurd z (by decide), fun _ => s_M_isReg (fun r hr => ?_)⟩
        rcases hr with ⟨rfl, c3⟩ | ⟨rfl, c3⟩
        · refine ⟨fun z => absurd z (by decide), fun _ => s_M_isReg (fun r hr => ?_)⟩
          rcases hr with ⟨rfl, c4⟩ | ⟨rfl, c4⟩
          · refine ⟨fun z => absurd z (by decide), fun _ => ⟨c3, ?_⟩⟩
            rw [(h.1 _ (vp_lt c3)).sg, sg_le]
            exact ⟨fun c5 => Or.inl ⟨rfl, ⟨c1, c2, c3⟩, c4, c5⟩, fun c5 z => c5 z.2.2⟩
          · exact ⟨fun _ z => c4 z.2.1, fun z => absurd rfl z⟩
        · exact ⟨fun _ z => c3 z.1.2.2, fun z => absurd rfl z⟩
      · exact ⟨fun _ z => c2 z.1.2.1, fun z => absurd rfl z⟩
    · exact ⟨fun _ z => c1 z.1.1, fun z => absurd rfl z⟩
  · have k2 := h2 ok
    have k0 := h0 ok
    clear h1 h2 h0
    obtain ⟨⟨c1, c2, c3⟩, c4, c5⟩ := ok
    have w2 := vp_lt c2
    have w3 := vp_lt c3
    have w4 := vp_lt c4
    have s4 := (h.1 _ w4).sg
    rw [s4]
    have hfy : fit (v p4.toNatClampNeg) := by obtain ⟨c, _, _, _, _, _, _, h7⟩ := h.1 _ w4; exact h7
    have hfe : fit (v p3.toNatClampNeg) := by obtain ⟨c, _, _, _, _, _, _, h7⟩ := h.1 _ w3; exact h7
    refine ⟨fun q => (q = 0 ∧ v p4.toNatClampNeg ≠ 0) ∨ (q = 1 ∧ ¬ v p4.toNatClampNeg ≠ 0), ⟨fun z => Or.inl ⟨rfl, fun y => z (sg_0.mpr y)⟩, fun z => Or.inr ⟨rfl, fun y => y (sg_0.mp z)⟩⟩, fun q hq => s_M_gate err0 (by decide) hq (fun hy => ?_) (fun c => k2 (Classical.not_not.mp c) 0 _ _ (up_at _ _ _ _) (frM_2 hK 2).r (h.scr (frM_2 hK 2)))⟩
    refine s_M_load hK (m1.1 _ w3) c3 (by decide) (by decide) (by decide) (fun A7 u7 f7 a7 hu7 => ?_)
    have g7 := (frM_1 (F := F) (A := A) hK).trans (frM_A (F := gm_up F (K 49) 0 0) (i := 59) hK (by decide) f7)
    refine s_M_load hK ((h.scr g7).1 _ w4) c4 (by decide) (by decide) (by decide) (fun A8 u8 f8 a8 hu8 => ?_)
    have g8 := g7.trans (frM_A (F := gm_up F (K 49) 0 0) (i := 58) hK (by decide) f8)
    refine s_M_load hK ((h.scr g8).1 _ w2) c2 (by decide) (by decide) (by decide) (fun A9 u9 f9 a9 hu9 => ?_)
    have g9 := g8.trans (frM_A (F := gm_up F (K 49) 0 0) (i := 54) hK (by decide) f9)
    have a79 : aU A9 (K 59) u7 (v p3.toNatClampNeg).natAbs := a7.cong (by rw [f9 _ (kne hK (by decide) (by decide) (by decide)), f8 _ (kne hK (by decide) (by decide) (by decide))])
    have a89 : aU A9 (K 58) u8 (v p4.toNatClampNeg).natAbs := a8.cong (f9 _ (kne hK (by decide) (by decide) (by decide)))
    refine s_M_bits rfl a79 (by omega) (by decide) ⟨c2, ?_⟩
    have s9 := ((h.scr g9).1 _ w2).sg
    have hsy : ∀ A' : gm_M, (∀ i, i < 54 → A' (K i) = A (K i)) → A' (K 52) p4.toNatClampNeg = iZ (v p4.toNatClampNeg).sign := fun A' e => by rw [e 52 (by decide)]; exact s4
    have hbe : bl (v p3.toNatClampNeg).natAbs ≤ 2048 := bl_le_iff.mpr hfe
    have hr0 := res0_abs (v p2.toNatClampNeg) (v p3.toNatClampNeg) (v p4.toNatClampNeg)
    have hrs : res0 (v p2.toNatClampNeg) (v p3.toNatClampNeg) (v p4.toNatClampNeg) ≠ 0 → (res0 (v p2.toNatClampNeg) (v p3.toNatClampNeg) (v p4.toNatClampNeg) < 0 ↔ (v p2.toNatClampNeg < 0 ∧ (v p3.toNatClampNeg).natAbs % 2 = 1)) := fun z => by
      unfold res0 at z ⊢
      by_cases c : v p2.toNatClampNeg < 0 ∧ (v p3.toNatClampNeg).natAbs % 2 = 1
      · rw [if_pos c] at z ⊢
        exact ⟨fun _ => c, fun _ => by omega⟩
      · rw [if_neg c] at z ⊢
        exact ⟨fun y => by omega, fun y => absurd y c⟩
    have hrv : resv (v p2.toNatClampNeg) (v p3.toNatClampNeg) (v p4.toNatClampNeg) = (if res0 (v p2.toNatClampNeg) (v p3.toNatClampNeg) (v p4.toNatClampNeg) ≠ 0 ∧ ¬ (res0 (v p2.toNatClampNeg) (v p3.toNatClampNeg) (v p4.toNatClampNeg) < 0 ↔ v p4.toNatClampNeg < 0) then res0 (v p2.toNatClampNeg) (v p3.toNatClampNeg) (v p4.toNatClampNeg) + v p4.toNatClampNeg else res0 (v p2.toNatClampNeg) (v p3.toNatClampNeg) (v p4.toNatClampNeg)) := rfl
    have hrl := (fit_res0 (x := v p2.toNatClampNeg) (e := v p3.toNatClampNeg) hfy hy).2
    have hfv := fit_resv (x := v p2.toNatClampNeg) (e := v p3.toNatClampNeg) hfy hy
    generalize resv (v p2.toNatClampNeg) (v p3.toNatClampNeg) (v p4.toNatClampNeg) = rr at *
    generalize res0 (v p2.toNatClampNeg) (v p3.toNatClampNeg) (v p4.toNatClampNeg) = r0 at *
    generalize v p2.toNatClampNeg = x at *
    generalize hEE : (v p3.toNatClampNeg).natAbs = E at *
    generalize v p4.toNatClampNeg = y at *
    generalize hXE : x.natAbs = X at *
    generalize hME : y.natAbs = M at *
    have hM : M ≠ 0 := by omega
    rw [s9, sg_le]
    refine ⟨fun q => (q = 1 ∧ (x < 0 ∧ E % 2 = 1)) ∨ (q = 0 ∧ ¬ (x < 0 ∧ E % 2 = 1)), ⟨¬ (x < 0 ∧ E % 2 = 1), ⟨fun c => by omega, fun c => s_M_isBit (k := 0) rfl rfl a79 (by omega) (by decide) (by decide) ?_⟩, fun z => Or.inr ⟨rfl, z⟩⟩, fun q hq => ?_⟩
    · rw [Nat.pow_zero, Nat.div_one]
      exact pk_eq (E % 2) 0 (fun d z => by have := z.2; omega) (fun d => Or.inl ⟨rfl, by omega, by omega⟩)
    refine md_cpy (kne hK (by decide) (by decide) (by decide)) (by omega) (by omega) (by decide) (by decide) (fun A12 f12 d12 => ?_)
    have a12 : aU A12 (K 61) u7 E := a79.congr d12
    refine s_M_divided (kne hK (by decide) (by decide) (by decide)) (kne hK (by decide) (by decide) (by decide)) (kne hK (by decide) (by decide) (by decide)) (kne hK (by decide) (by decide) (by decide)) (kne hK (by decide) (by decide) (by decide)) (kne hK (by decide) (by decide) (by decide)) rfl rfl (a9.cong (f12 _ (kne hK (by decide) (by decide) (by decide)))) (a89.cong (f12 _ (kne hK (by decide) (by decide) (by decide)))) hM (by omega) (by omega) (by omega) (by decide) (by decide) (by decide) (fun A13 ub uq f13 ab _ hub _ => ?_)
    refine md_cpy (kne hK (by decide) (by decide) (by decide)) (by omega) (by omega) (by decide) (by decide) (fun A14 f14 d14 => ?_)
    have a14 : aU A14 (K 62) ub (X % M) := ab.congr d14
    refine ⟨pk_in 0 9000 (by decide), ?_⟩
    rw [show (0 : Int32).toNatClampNeg = 0 from rfl]
    rintro _ rfl
    have one := one_V A14 (K 57)
    have f15 : ∀ b, b ≠ K 57 → gm_up A14 (K 57) 0 1 b = A14 b := fun b hb => gm_off hb
    generalize gm_up A14 (K 57) 0 1 = A15 at *
    have keep15 : ∀ i, i < 64 → i ≠ 54 → i ≠ 56 → i ≠ 57 → i ≠ 60 → i ≠ 61 → i ≠ 62 → A15 (K i) = A9 (K i) := fun i hi i4 i6 i7 i0 i1 i2 => by
      rw [f15 _ (kne hK (by omega) (by omega) (by omega)), f14 _ (kne hK (by omega) (by omega) (by omega)), f13 _ (kne hK (by omega) (by omega) (by omega)) (kne hK (by omega) (by omega) (by omega)) (kne hK (by omega) (by omega) (by omega)), f12 _ (kne hK (by omega) (by omega) (by omega))]
    have a815 : aU A15 (K 58) u8 M := a89.cong (keep15 58 (by decide) (by decide) (by decide) (by decide) (by decide) (by decide) (by decide))
    have a1215 : aU A15 (K 61) u7 E := a12.cong (by rw [f15 _ (kne hK (by decide) (by decide) (by decide)), f14 _ (kne hK (by decide) (by decide) (by decide)), f13 _ (kne hK (by decide) (by decide) (by decide)) (kne hK (by decide) (by decide) (by decide)) (kne hK (by decide) (by decide) (by decide))])
    have a1415 : aU A15 (K 62) ub (X % M) := a14.cong (f15 _ (kne hK (by decide) (by decide) (by decide)))
    refine s_M_divided (u1 := 1) (kne hK (by decide) (by decide) (by decide)) (kne hK (by decide) (by decide) (by decide)) (kne hK (by decide) (by decide) (by decide)) (kne hK (by decide) (by decide) (by decide)) (kne hK (by decide) (by decide) (by decide)) (kne hK (by decide) (by decide) (by decide)) rfl rfl one a815 hM (by decide) (by omega) (by decide) (by decide) (by decide) (by decide) (fun A16 r16 uq2 f16 a16 _ hr16 _ => ?_)
    have e16 : gm_up (gm_up (gm_up F (K 49) 0 0) (K 49) 12 (nI uq)) (K 49) 12 (nI uq2) (K 49) 0 = 0 := by rw [up_ne _ _ (by decide), up_ne _ _ (by decide)]; exact err0
    have g16 : frM K F A (gm_up (gm_up (gm_up F (K 49) 0 0) (K 49) 12 (nI uq)) (K 49) 12 (nI uq2)) A16 := ((g9.trans (frM_F (F := gm_up F (K 49) 0 0) (A := A9) (s := 12) (nI uq) hK (by decide))).trans (frM_F (F := gm_up (gm_up F (K 49) 0 0) (K 49) 12 (nI uq)) (A := A9) (s := 12) (nI uq2) hK (by decide))).trans ⟨fun _ _ => rfl, rfl, fun i hi => by rw [f16 _ (kne hK (by omega) (by omega) (by omega)) (kne hK (by omega) (by omega) (by omega)) (kne hK (by omega) (by omega) (by omega)), keep15 i (by omega) (by omega) (by omega) (by omega) (by omega) (by omega) (by omega)]⟩
    generalize gm_up (gm_up (gm_up F (K 49) 0 0) (K 49) 12 (nI uq)) (K 49) 12 (nI uq2) = F16 at *
    rintro _ rfl
    have off16 : ∀ i, i < 64 → i ≠ 56 → i ≠ 57 → i ≠ 60 → A16 (K i) = A15 (K i) := fun i hi i6 i7 i0 => f16 _ (kne hK (by omega) (by omega) (by omega)) (kne hK (by omega) (by omega) (by omega)) (kne hK (by omega) (by omega) (by omega))
    refine ⟨fun a b F18 A18 => ∃ r z, a = nI r ∧ b = dn z ∧ z ≤ bl E ∧ F18 (K 49) 0 = 0 ∧ frM K F A F18 A18 ∧ r ≤ u8 ∧ aU A18 (K 57) r (X ^ (E / 2 ^ z) % M) ∧ aU A18 (K 58) u8 M ∧ aU A18 (K 61) u7 E ∧ aU A18 (K 62) ub (X % M), fun _ b _ _ => (b.toInt + 1).toNat, ⟨r16, bl E, rfl, rfl, Nat.le_refl _, e16, g16, hr16, ?_, a815.cong (off16 58 (by decide) (by decide) (by decide) (by decide)), a1215.cong (off16 61 (by decide) (by decide) (by decide) (by decide)), a1415.cong (off16 62 (by decide) (by decide) (by decide) (by decide))⟩, ?_⟩
    · rw [Nat.div_eq_of_lt (bl_lt E), Nat.pow_zero]; exact a16
    clear one f15 keep15 a815 a1215 a1415 off16 e16 g16 a16 f16 f14 d14 a14 f13 ab f12 d12 a12
    rintro _ _ F18 A18 ⟨r, z, rfl, rfl, hz, e18, g18, hr8, a18, b18, d18, t18⟩
    refine dn_br z (by omega) (fun z0 => ?_) (fun t zt => ?_)
    · subst z0
      rw [Nat.pow_zero, Nat.div_one, ← hr0] at a18
      have s18 := hsy A18 g18.2.2
      have hother : (r ≠ 0 ∧ ¬ ((x < 0 ∧ E % 2 = 1) ↔ y < 0)) ↔ (r0 ≠ 0 ∧ ¬ (r0 < 0 ↔ y < 0)) := by
        have hp := a18.pos
        by_cases c : r0 = 0
        · exact ⟨fun q => absurd (hp.mpr (by omega)) q.1, fun q => absurd c q.1⟩
        · rw [hrs c]
          exact ⟨fun q => ⟨c, q.2⟩, fun q => ⟨fun w => c (by have := hp.mp w; omega), q.2⟩⟩
      have q1 := sg3 y
      refine ⟨fun w => (w = 1 ∧ (r0 ≠ 0 ∧ ¬ (r0 < 0 ↔ y < 0))) ∨ (w = 0 ∧ ¬ (r0 ≠ 0 ∧ ¬ (r0 < 0 ↔ y < 0))), ⟨¬ (r0 ≠ 0 ∧ ¬ (r0 < 0 ↔ y < 0)), pk_le r 0 (fun c => ?_) (fun c => ⟨c4, ?_⟩), fun w => Or.inr ⟨rfl, w⟩⟩, fun w hw => ⟨fun c => ⟨c4, ?_⟩, fun c => ?_⟩⟩
      · rw [← hother]; exact fun w => w.1 (by omega)
      · rw [s18, sg_le]
        refine ⟨fun w => (w = 0 ∧ ¬ y < 0) ∨ (w = 1 ∧ y < 0), ⟨fun d => Or.inl ⟨rfl, by omega⟩, fun d => Or.inr ⟨rfl, by omega⟩⟩, fun w hw => ?_⟩
        rw [← hother]
        rcases hq with ⟨rfl, d⟩ | ⟨rfl, d⟩ <;> rcases hw with ⟨rfl, e⟩ | ⟨rfl, e⟩
        · exact ⟨fun f => absurd f (by decide), fun _ => Or.inl ⟨rfl, by omega, fun g => e (g.mp d)⟩⟩
        · exact ⟨fun _ g => g.2 ⟨fun _ => e, fun _ => d⟩, fun f => absurd rfl f⟩
        · exact ⟨fun _ g => g.2 ⟨fun f => absurd f d, fun f => absurd f e⟩, fun f => absurd rfl f⟩
        · exact ⟨fun f => absurd f (by decide), fun _ => Or.inl ⟨rfl, by omega, fun g => d (g.mpr e)⟩⟩
      · have hno : ¬ (r0 ≠ 0 ∧ ¬ (r0 < 0 ↔ y < 0)) := by
          rcases hw with d | d
          · exact absurd (d.1.symm.trans c) (by decide)
          · exact d.2
        rw [if_neg hno] at hrv
        subst hrv
        rw [s18]
        refine s_M_endF hK h e18 g18 c1 (by decide) rfl (by omega) a18.v (fun d => ?_) hfv (k0 hy)
        congr 1
        have q2 := sg3 rr
        have : (rr < 0 ↔ y < 0) := Classical.not_not.mp (fun f => hno ⟨d, f⟩)
        omega
      · have hyes : r0 ≠ 0 ∧ ¬ (r0 < 0 ↔ y < 0) := by
          rcases hw with d | d
          · exact d.2
          · exact absurd d.1 c
        rw [if_pos hyes] at hrv
        subst hrv
        refine s_M_less rfl rfl b18.v a18.v hr8 (by omega) (by omega) (by omega) (by omega) (by decide) (by decide) (by decide) (fun A21 r21 f21 hr21 a21 => ⟨c4, ?_⟩)
        have g21 := g18.trans (frM_A (F := F18) (i := 56) hK (by decide) f21)
        rw [hsy A21 g21.2.2]
        refine s_M_endF hK h e18 g21 c1 (by decide) rfl (by omega) (m := r21) ?_ (fun d => ?_) hfv (k0 hy)
        · rw [show (r0 + y).natAbs = M - r0.natAbs by omega]; exact a21.v
        · congr 1
          have q2 := sg3 (r0 + y)
          omega
    · subst zt
      rw [dn_succ]
      have hhalf := half E t
      refine md_mulmod hK (Or.inl rfl) (by omega) (by decide) (by omega) (by omega) (by omega) a18 a18 b18 hM (fun r' uq' A' f' a' hr' => ?_)
      rw [← Nat.mul_mod, ← Nat.pow_add, ← Nat.two_mul] at a'
      have b' : aU A' (K 58) u8 M := b18.cong (f' 58 (by decide) (by decide) (by decide) (by decide) (by decide))
      have d' : aU A' (K 61) u7 E := d18.cong (f' 61 (by decide) (by decide) (by decide) (by decide) (by decide))
      have t' : aU A' (K 62) ub (X % M) := t18.cong (f' 62 (by decide) (by decide) (by decide) (by decide) (by decide))
      have e' : gm_up F18 (K 49) 12 (nI uq') (K 49) 0 = 0 := by rw [up_ne _ _ (by decide)]; exact e18
      have g' : frM K F A (gm_up F18 (K 49) 12 (nI uq')) A' := (g18.trans (frM_F (F := F18) (A := A18) (s := 12) (nI uq') hK (by decide))).trans ⟨fun _ _ => rfl, rfl, fun i hi => f' i (by omega) (by omega) (by omega) (by omega) (by omega)⟩
      refine s_M_isBit (k := t) rfl rfl d' (by omega) (by decide) (by omega) ?_
      have hb2 : E / 2 ^ t % 2 < 2 := Nat.mod_lt _ (by decide)
      refine (pk_eq (E / 2 ^ t % 2) 0 (fun d => ?_) (fun d => ?_)).symm
      · rw [d, Nat.add_zero] at hhalf
        rintro _ rfl
        refine ⟨⟨r', t, rfl, dn_next t, by omega, e', g', hr', by rw [hhalf]; exact a', b', d', t'⟩, ?_⟩
        dsimp only
        rw [dn_next, dn_mu t (by omega), nI_toInt (by omega)]; omega
      · have d1 : E / 2 ^ t % 2 = 1 := by
          generalize E / 2 ^ t % 2 = q at *
          omega
        rw [d1] at hhalf
        refine md_mulmod hK (Or.inr rfl) (by omega) (by decide) (by omega) (by omega) (by omega) a' t' b' hM (fun r2 uq2 A2 f2 a2 hr2 => ?_)
        rw [← Nat.mul_mod, ← Nat.pow_succ] at a2
        rintro _ rfl
        refine ⟨⟨r2, t, rfl, dn_next t, by omega, by rw [up_ne _ _ (by decide)]; exact e', (g'.trans (frM_F (F := gm_up F18 (K 49) 12 (nI uq')) (A := A') (s := 12) (nI uq2) hK (by decide))).trans ⟨fun _ _ => rfl, rfl, fun i hi => f2 i (by omega) (by omega) (by omega) (by omega) (by omega)⟩, hr2, by rw [hhalf]; exact a2, b'.cong (f2 58 (by decide) (by decide) (by decide) (by decide) (by decide)), d'.cong (f2 61 (by decide) (by decide) (by decide) (by decide) (by decide)), t'.cong (f2 62 (by decide) (by decide) (by decide) (by decide) (by decide))⟩, ?_⟩
        dsimp only
        rw [dn_next, dn_mu t (by omega), nI_toInt (by omega)]; omega
end M15
