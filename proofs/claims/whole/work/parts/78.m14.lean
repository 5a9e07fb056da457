theorem md_cpy {A : gm_M} {s t u ns nt : Nat} {R : gm_M → Prop} (hst : s ≠ t) (hs : u ≤ ns) (ht : u ≤ nt) (hns : ns ≤ 9000) (hnt : nt ≤ 9000) (hR : ∀ A', (∀ b, b ≠ t → A' b = A b) → (∀ j, j < u → A' t j = A s j) → R A') : ∃ (I : Int32 → gm_M → Prop) (μ : Int32 → gm_M → Nat), I (0 : Int32) A ∧ ∀ (x : Int32) (A' : gm_M), I x A' →
    ((nI u ≤ x → R A') ∧ (¬ nI u ≤ x →
      (vp_in x ns) ∧
      (vp_in x nt) ∧ ∀ A_25 : gm_M, A_25 = gm_up A' t x.toNatClampNeg (A' s x.toNatClampNeg) →
      ∀ x26 : Int32, x26 = x + (1 : Int32) →
      I x26 A_25 ∧ μ x26 A_25 < μ x A')) := by
  refine ⟨fun x A' => ∃ i, x = nI i ∧ i ≤ u ∧ (∀ b, b ≠ t → A' b = A b) ∧ ∀ j, j < i → A' t j = A s j, fun x _ => u - x.toNatClampNeg, ⟨0, rfl, Nat.zero_le _, fun _ _ => rfl, fun j hj => absurd hj (Nat.not_lt_zero _)⟩, ?_⟩
  rintro _ A' ⟨i, rfl, hi, f, d⟩
  refine pk_le u i (fun c => ?_) (fun c => ⟨pk_in i ns (by omega), pk_in i nt (by omega), ?_⟩)
  · have : i = u := by omega
    subst this
    exact hR A' f d
  · rw [nI_clamp (by omega), f s hst]
    rintro _ rfl _ rfl
    refine ⟨⟨i + 1, nI_s i, by omega, fun b hb => by rw [gm_off hb, f b hb], fun j hj => ?_⟩, ?_⟩
    · by_cases e : j = i
      · subst e; exact up_at _ _ _ _
      · rw [up_ne _ _ e]; exact d j (by omega)
    · dsimp only
      rw [nI_s, nI_clamp (by omega), nI_clamp (by omega)]; omega
theorem sg_pow {x : Int} (hx : x ≠ 0) (N : Nat) : (x ^ N).sign = if x < 0 ∧ N % 2 = 1 then -1 else 1 := by
  induction N with
  | zero => rw [Int.pow_zero, if_neg (fun z => absurd z.2 (by decide))]; rfl
  | succ N ih =>
    rw [Int.pow_succ, Int.sign_mul, ih]
    rcases sg3 x with a | a | a
    · rw [a.1]
      by_cases c : N % 2 = 1
      · rw [if_pos ⟨a.2, c⟩, if_neg (fun z => by have := z.2; omega)]; rfl
      · rw [if_neg (fun z => c z.2), if_pos ⟨a.2, by omega⟩]; rfl
    · exact absurd a.2 hx
    · rw [a.1, if_neg (fun z => by have := z.1; omega), if_neg (fun z => by have := z.1; omega)]; rfl
section M14
variable {F A : gm_M} {K : Nat → Nat} {n : Nat} {tx : Nat → Nat} {v : Nat → Int} {p p1 p2 p3 p4 p5 : Int32}
theorem one_V (A : gm_M) (l : Nat) : aU (gm_up A l 0 1) l 1 1 := ⟨fun k hk => by
    have : k = 0 := by omega
    subst this
    rw [show dg (gm_up A l 0 1) l 0 = 1 from dg_of (up_at _ _ _ _) (by decide), up_at]
    exact ⟨rfl, by decide⟩, fun t ht => by
    have : t = 0 := by omega
    subst this
    rw [show dg (gm_up A l 0 1) l 0 = 1 from dg_of (up_at _ _ _ _) (by decide)]
    decide, by
    simp only [ev, Nat.pow_zero, Nat.mul_one, Nat.zero_add]
    exact dg_of (up_at _ _ _ _) (by decide)⟩
set_option maxHeartbeats 1000000 in
theorem s_M_power (hK : kinj K) (h : MS K F A v n tx) {post : Int32 → gm_M → gm_M → Prop} (h1 : ¬ okP p1 p2 p3 → ∀ r F' A', F' (K 49) 0 = 1 → frR K F A F' A' → MS K F' A' v n tx → post r F' A') (h2 : okP p1 p2 p3 → ¬ fit (v p2.toNatClampNeg ^ p3.toNatClampNeg) → ∀ r F' A', F' (K 49) 0 = 2 → frR K F A F' A' → MS K F' A' v n tx → post r F' A') (h0 : okP p1 p2 p3 → fit (v p2.toNatClampNeg ^ p3.toNatClampNeg) → ∀ F' A', F' (K 49) 0 = 0 → frR K F A F' A' → MS K F' A' (vu v p1.toNatClampNeg (v p2.toNatClampNeg ^ p3.toNatClampNeg)) n tx → post (nI (bl (v p2.toNatClampNeg ^ p3.toNatClampNeg).natAbs)) F' A') : vc_M_power K p1 p2 p3 F A post := by
  unfold vc_M_power
  rintro _ rfl
  have m1 := h.scr (frM_1 hK)
  refine s_M_isReg (fun r hr => ⟨fun q => (q = 0 ∧ okP p1 p2 p3) ∨ (q = 1 ∧ ¬ okP p1 p2 p3), ⟨¬ okP p1 p2 p3, ?_, fun z => Or.inr ⟨rfl, z⟩⟩, fun q hq => s_M_gate err0 (by decide) hq (fun ok => ?_) (fun c => h1 c 0 _ _ (up_at _ _ _ _) (frM_2 hK 1).r (h.scr (frM_2 hK 1)))⟩)
  · rcases hr with ⟨rfl, c1⟩ | ⟨rfl, c1⟩
    · refine ⟨fun z => absurd z (by decide), fun _ => s_M_isReg (fun r hr => ?_)⟩
      rcases hr with ⟨rfl, c2⟩ | ⟨rfl, c2⟩
      · exact ⟨fun z => absurd z (by decide), fun _ => pz_le 0 p3.toInt (fun c3 => Or.inl ⟨rfl, c1, c2, c3⟩) (fun c3 z => by have := z.2.2; omega)⟩
      · exact ⟨fun _ z => c2 z.2.1, fun z => absurd rfl z⟩
    · exact ⟨fun _ z => c1 z.1, fun z => absurd rfl z⟩
  · have k2 := h2 ok
    have k0 := h0 ok
    clear h1 h2 h0
    obtain ⟨c1, c2, c3⟩ := ok
    have w2 := vp_lt c2
    obtain ⟨N, hN, ep⟩ := nI_of (x := p3) (by rw [Int32.lt_iff_toInt_lt]; exact Int.not_lt.mpr c3)
    have ec : p3.toNatClampNeg = N := by rw [ep, nI_clamp hN]
    rw [ec] at k2 k0
    subst ep
    refine s_M_load hK (m1.1 _ w2) c2 (by decide) (by decide) (by decide) (fun A5 u5 f5 a5 hu5 => ?_)
    have g5 := (frM_1 (F := F) (A := A) hK).trans (frM_A (F := gm_up F (K 49) 0 0) (i := 54) hK (by decide) f5)
    have s5 := ((h.scr g5).1 _ w2).sg
    have hfx : fit (v p2.toNatClampNeg) := by obtain ⟨c, _, _, _, _, _, _, h7⟩ := h.1 _ w2; exact h7
    generalize v p2.toNatClampNeg = x at *
    refine s_M_bits rfl a5 (by omega) (by decide) ⟨c2, ?_⟩
    have hbl : bl x.natAbs ≤ 2048 := bl_le_iff.mpr hfx
    rw [s5, sg_le, show nI N &&& (1 : Int32) = nI (N % 2) from pk_andN (by omega) 1 (by decide)]
    refine ⟨fun q => (q = -1 ∧ (x < 0 ∧ N % 2 = 1)) ∨ (q = 1 ∧ ¬ (x < 0 ∧ N % 2 = 1)), ⟨¬ (x < 0 ∧ N % 2 = 1), ⟨fun c => by omega, fun c => (pk_eq (N % 2) 1 (fun d => Or.inl ⟨rfl, by omega, d⟩) (fun d z => d z.2)).symm⟩, fun z => Or.inr ⟨rfl, z⟩⟩, fun q hq => ⟨pk_in 0 9000 (by decide), ?_⟩⟩
    rw [show (0 : Int32).toNatClampNeg = 0 from rfl]
    rintro _ rfl
    have hsN : x ≠ 0 → q = iZ (x ^ N).sign := fun hx => by
      rw [sg_pow hx]
      rcases hq with ⟨rfl, z⟩ | ⟨rfl, z⟩
      · rw [if_pos z]; rfl
      · rw [if_neg z]; rfl
    have one := one_V A5 (K 56)
    have e56 : ∀ b, b ≠ K 56 → gm_up A5 (K 56) 0 1 b = A5 b := fun b hb => gm_off hb
    have g8 := g5.trans (frM_A (F := gm_up F (K 49) 0 0) (i := 56) hK (by decide) e56)
    have a8 : aU (gm_up A5 (K 56) 0 1) (K 54) u5 x.natAbs := a5.cong (e56 _ (kne hK (by decide) (by decide) (by decide)))
    generalize gm_up A5 (K 56) 0 1 = A8 at *
    refine ⟨N = 0 ∨ bl x.natAbs < 2, pk_eq N 0 (fun c => Or.inl c) (fun hN0 => pk_le 2 (bl x.natAbs) (fun hb2 => ?_) (fun c => Or.inr c)), fun hJ => ?_⟩
    · have hx0 : x.natAbs ≠ 0 := fun z => by rw [z, bl_0] at hb2; omega
      have hml : (bl x.natAbs - 1) * N ≤ 2048 * 2147483648 := Nat.mul_le_mul (by omega) (by omega)
      rw [nI_m1 (by omega), nI_l (n := bl x.natAbs - 1) (by omega), nI_l (n := N) (by omega), lN_mul]
      refine ⟨fun y => (y = 0 ∧ (bl x.natAbs - 1) * N ≤ 2048) ∨ (y = 1 ∧ ¬ (bl x.natAbs - 1) * N ≤ 2048), pl_le ((bl x.natAbs - 1) * N) 2048 (fun z => Or.inl ⟨rfl, z⟩) (fun z => Or.inr ⟨rfl, Nat.not_le.mpr z⟩), fun y hy => s_M_gate err0 (by decide) hy (fun hle => ?_) (fun hgt => ?_)⟩
      · have hrb : ∀ k r, k ≤ N → ∀ A', aU A' (K 56) r (x.natAbs ^ k) → r ≤ 300 := fun k r hk A' ha => by
          have q1 : x.natAbs ^ k < 2 ^ (4097) := by
            have q2 : x.natAbs ^ k ≤ (2 ^ bl x.natAbs) ^ k := Nat.pow_le_pow_left (Nat.le_of_lt (bl_lt _)) k
            rw [← Nat.pow_mul] at q2
            refine Nat.lt_of_le_of_lt q2 (Nat.pow_lt_pow_right (by decide) ?_)
            have q3 : bl x.natAbs * k ≤ (2 * (bl x.natAbs - 1)) * N := Nat.mul_le_mul (by omega) hk
            rw [Nat.mul_assoc] at q3
            omega
          have := ha.le q1
          omega
        refine ⟨fun a b A19 => ∃ k r, a = nI r ∧ b = nI k ∧ k ≤ N ∧ (∀ b, b ≠ K 56 → b ≠ K 57 → A19 b = A8 b) ∧ aU A19 (K 56) r (x.natAbs ^ k), fun _ b _ => N - b.toNatClampNeg, ⟨0, 1, rfl, rfl, Nat.zero_le _, fun _ _ _ => rfl, by rw [Nat.pow_zero]; exact one⟩, ?_⟩
        rintro _ _ A19 ⟨k, r, rfl, rfl, hk, f19, a19⟩
        have hr300 := hrb k r hk A19 a19
        refine pk_le N k (fun e => ?_) (fun e => ?_)
        · have : k = N := by omega
          subst this
          have g19 := g8.trans (show frM K (gm_up F (K 49) 0 0) A8 (gm_up F (K 49) 0 0) A19 from ⟨fun _ _ => rfl, rfl, fun i hi => f19 _ (kne hK (by omega) (by omega) (by omega)) (kne hK (by omega) (by omega) (by omega))⟩)
          exact s_M_endB' hK h err0 g19 c1 (by decide) rfl (by omega) (by rw [Int.natAbs_pow]; exact a19.v) (fun _ => hsN (by omega)) k2 k0
        · have a194 : aU A19 (K 54) u5 x.natAbs := a8.cong (f19 _ (kne hK (by decide) (by decide) (by decide)) (kne hK (by decide) (by decide) (by decide)))
          refine s_M_times rfl rfl a19.v a194.v (kne hK (by decide) (by decide) (by decide)) (kne hK (by decide) (by decide) (by decide)) (by omega) (by omega) (by omega) (by decide) (by decide) (by decide) (fun A22 r22 f22 hr22 a22 => ?_)
          rw [← Nat.pow_succ] at a22
          refine md_cpy (kne hK (by decide) (by decide) (by decide)) (by omega) (by omega) (by decide) (by decide) (fun A23 f23 d23 => ?_)
          rintro _ rfl
          refine ⟨⟨k + 1, r22, rfl, nI_s k, by omega, fun b b6 b7 => by rw [f23 b b6, f22 b b7, f19 b b6 b7], a22.congr d23⟩, ?_⟩
          dsimp only
          rw [nI_s, nI_clamp (by omega), nI_clamp (by omega)]; omega
      · refine k2 (fun hf => ?_) 0 _ _ (up_at _ _ _ _) (g8.trans (frM_F (F := gm_up F (K 49) 0 0) (A := A8) (s := 0) 2 hK (by decide))).r (h.scr (g8.trans (frM_F (F := gm_up F (K 49) 0 0) (A := A8) (s := 0) 2 hK (by decide))))
        unfold fit at hf
        rw [Int.natAbs_pow] at hf
        have q1 : (2 ^ (bl x.natAbs - 1)) ^ N ≤ x.natAbs ^ N := Nat.pow_le_pow_left (bl_le hx0) N
        rw [← Nat.pow_mul] at q1
        have q2 : 2 ^ ((bl x.natAbs - 1) * N) < 2 ^ bN := Nat.lt_of_le_of_lt q1 hf
        have q3 : (bl x.natAbs - 1) * N < bN := (Nat.pow_lt_pow_iff_right (by decide : 1 < 2)).mp q2
        exact hgt (Nat.le_of_lt q3)
    · refine ⟨fun y => (x ^ N ≠ 0 → y = iZ (x ^ N).sign), (pk_eq N 0 (fun c _ => ?_) (fun c z => ?_)).symm, fun y hy => ?_⟩
      · rw [c, Int.pow_zero]; rfl
      · refine hsN (fun z0 => z ?_)
        rw [z0]
        obtain ⟨M, rfl⟩ : ∃ M, N = M + 1 := ⟨N - 1, by omega⟩
        rw [Int.pow_succ, Int.mul_zero]
      · refine pk_eq N 0 (fun c => ?_) (fun c => (pk_eq (bl x.natAbs) 1 (fun d => ?_) (fun d => ?_)).symm)
        · exact s_M_endN (m := 1) hK h err0 g8 c1 (by decide) rfl (by decide) (by rw [c, Int.pow_zero]; exact one.v) hy k2 k0
        · refine s_M_endN (m := 1) hK h err0 g8 c1 (by decide) rfl (by decide) ?_ hy k2 k0
          have hx1 : x.natAbs = 1 := by
            have q1 := bl_lt x.natAbs
            rw [d] at q1
            have q2 : x.natAbs ≠ 0 := fun z => by rw [z, bl_0] at d; omega
            omega
          rw [Int.natAbs_pow, hx1, Nat.one_pow]; exact one.v
        · refine s_M_endN (m := 0) hK h err0 g8 c1 (by decide) rfl (by decide) ?_ hy k2 k0
          have hx0 : x.natAbs = 0 := by
            have q1 := bl_lt x.natAbs
            rw [show bl x.natAbs = 0 by omega] at q1
            omega
          rw [Int.natAbs_pow, hx0, Nat.zero_pow (by omega)]
          exact ⟨fun k hk => absurd hk (Nat.not_lt_zero _), rfl⟩
end M14
