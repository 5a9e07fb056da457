theorem l_mk48 {L D : Nat} (hL : L < 2 ^ 48) (hD : D < 65536) : j_lshl (lN L) (16 : Int32) ||| lN D = lN (L * 65536 + D) := by
  rw [show j_lshl (lN L) (16 : Int32) = lN (L * 2 ^ 16) from jl_shl L 16 (by decide), l_or (a := L * 2 ^ 16) (b := D) (by omega) (by omega), or_add (k := 16) (by omega)]
theorem lN_eq64 {a b : Nat} (ha : a < 2 ^ 64) (hb : b < 2 ^ 64) : lN a = lN b ↔ a = b := by
  constructor
  · intro h
    have := congrArg (fun x : Int64 => x.toBitVec.toNat) h
    have this : (lN a).toBitVec.toNat = (lN b).toBitVec.toNat := this
    rw [lN_tn ha, lN_tn hb] at this
    exact this
  · intro h; rw [h]
section M7
variable {F A : gm_M} {K : Nat → Nat} {n : Nat} {tx : Nat → Nat} {v : Nat → Int} {a1 n1 u1 v1 : Nat} {p p1 p2 p3 p4 p5 : Int32}
theorem s_M_gate {C : Prop} {REST POST : gm_M → Prop} {q code : Int32} (he : F (K 49) 0 = 0) (hc : code ≠ 0) (hv : (q = 0 ∧ C) ∨ (q = 1 ∧ ¬ C)) (h0 : C → REST F) (h1 : ¬ C → POST (gm_up F (K 49) 0 code)) : vc_M_fails K q code F A (fun r4 F4 => ((r4 = (0) → REST F4) ∧ (¬ r4 = (0) → POST F4))) := by
  refine s_M_fails he hc (fun c => ⟨fun _ => h0 ?_, fun z => absurd rfl z⟩) (fun c => ⟨fun z => absurd z (by decide), fun _ => h1 ?_⟩)
  · rcases hv with z | z
    · exact z.2
    · exact absurd (z.1.symm.trans c) (by decide)
  · rcases hv with z | z
    · exact absurd z.1 c
    · exact z.2
theorem err0 : gm_up F (K 49) 0 0 (K 49) 0 = 0 := up_at _ _ _ _
/-- the start of a call that needs one register -/
theorem s_M_reg1 {REST POST : gm_M → Prop} (h0 : vp_in p 16 → REST (gm_up F (K 49) 0 0)) (h1 : ¬ vp_in p 16 → POST (gm_up (gm_up F (K 49) 0 0) (K 49) 0 1)) : ∀ F_1 : gm_M, F_1 = gm_up F (K 49) 0 (0 : Int32) → vc_M_isRegister p F_1 A (fun (r_2 : Int32) =>
    ∃ (J_18 : Int32 → Prop), (((¬ r_2 = (0) → J_18 (0 : Int32)) ∧ (r_2 = (0) → J_18 (1 : Int32)))) ∧ ((∀ (v0_3 : Int32), J_18 v0_3 →
      vc_M_fails K v0_3 (1 : Int32) F_1 A (fun (r_4 : Int32) (F_4 : gm_M) => ((r_4 = (0) → REST F_4) ∧ (¬ r_4 = (0) → POST F_4)))))) := by
  rintro _ rfl
  refine s_M_isReg (fun r hr => ⟨fun q => (q = 0 ∧ vp_in p 16) ∨ (q = 1 ∧ ¬ vp_in p 16), ?_, fun q hq => s_M_gate err0 (by decide) hq h0 h1⟩)
  rcases hr with ⟨rfl, c⟩ | ⟨rfl, c⟩
  · exact ⟨fun _ => Or.inl ⟨rfl, c⟩, fun z => absurd z (by decide)⟩
  · exact ⟨fun z => absurd rfl z, fun _ => Or.inr ⟨rfl, c⟩⟩
theorem frM_1 (hK : kinj K) : frM K F A (gm_up F (K 49) 0 0) A := frM_F _ hK (by decide)
theorem frM_2 (hK : kinj K) (x : Int32) : frM K F A (gm_up (gm_up F (K 49) 0 0) (K 49) 0 x) A := (frM_F _ hK (by decide)).trans (frM_F _ hK (by decide))
theorem s_M_set {q : Int64} (hK : kinj K) (h : MS K F A v n tx) {post : Int32 → gm_M → gm_M → Prop} (h1 : ¬ vp_in p 16 → ∀ r F' A', F' (K 49) 0 = 1 → frR K F A F' A' → MS K F' A' v n tx → post r F' A') (h0 : vp_in p 16 → ∀ F' A', F' (K 49) 0 = 0 → frR K F A F' A' → MS K F' A' (vu v p.toNatClampNeg q.toInt) n tx → post (nI (bl (v p.toNatClampNeg).natAbs)) F' A') : vc_M_set K p q F A post := by
  unfold vc_M_set
  refine s_M_reg1 (fun c => ?_) (fun c => h1 c 0 _ _ (up_at _ _ _ _) (frM_2 hK 1).r (h.scr (frM_2 hK 1)))
  have hw := vp_lt c
  have m1 := h.scr (frM_1 hK)
  refine s_M_size0 hK (m1.1 _ hw) c (fun A5 f5 => ?_)
  have g5 := (frM_1 (F := F) (A := A) hK).trans (frM_A (F := gm_up F (K 49) 0 0) (i := 59) hK (by decide) f5)
  have hz := lZ_rng q
  have hqs := lZ_self q
  generalize hx : q.toInt = x at *
  generalize ha : x.natAbs = a
  have ha64 : a < 2 ^ 64 := by omega
  refine ⟨fun y => y = lN a, ?_, ?_⟩
  · rw [Int64.le_iff_toInt_le, hx]
    refine ⟨fun z => ?_, fun z => ?_⟩
    · have z : 0 ≤ x := z
      rw [← hqs, lZ_lN]; congr 1; omega
    · have z : ¬ 0 ≤ x := z
      rw [← hqs, lZ_neg, lZ_lN]; congr 1; omega
  rintro _ rfl
  refine ⟨fun y z A7 => ∃ k, y = nI k ∧ z = lN (a / 65536 ^ k) ∧ (∀ b, b ≠ K 54 → A7 b = A5 b) ∧ (∀ j, j < k → A7 (K 54) j = nI (a / 65536 ^ j % 65536)) ∧ k ≤ 4, fun y _ _ => 4 - y.toNatClampNeg, ⟨0, rfl, by rw [Nat.pow_zero, Nat.div_one], fun _ _ => rfl, fun j hj => absurd hj (Nat.not_lt_zero _), by decide⟩, ?_⟩
  rintro _ _ A7 ⟨k, rfl, rfl, f7, d7, hk⟩
  have hle : a / 65536 ^ k ≤ a := Nat.div_le_self _ _
  have hpp : 0 < 65536 ^ k := Nat.pow_pos (by decide)
  have hsp : (lN (a / 65536 ^ k) = 0 ↔ a / 65536 ^ k = 0) := lN_eq64 (b := 0) (by omega) (by decide)
  rw [hsp]
  refine ⟨fun c0 => ?_, fun c0 => ?_⟩
  · have hlt : a < 65536 ^ k := by
      rcases Nat.lt_or_ge a (65536 ^ k) with d | d
      · exact d
      · have := Nat.div_pos d hpp; rw [c0] at this; exact absurd this (Nat.lt_irrefl 0)
    have hd7 : ∀ j, j < k → dg A7 (K 54) j = a / 65536 ^ j % 65536 := fun j hj => dg_of (d7 j hj) (Nat.lt_trans (Nat.mod_lt _ (by decide)) (by decide))
    have hV : aV A7 (K 54) k x.natAbs := ⟨fun j hj => by rw [hd7 j hj]; exact ⟨d7 j hj, Nat.mod_lt _ (by decide)⟩, by rw [ev_congr hd7, ev_all, Nat.mod_eq_of_lt hlt, ha]⟩
    have g7 := g5.trans (frM_A (F := gm_up F (K 49) 0 0) (i := 54) hK (by decide) f7)
    have hfit : fit x := by rw [← hx]; exact fit_long q
    have go : ∀ s : Int32, (x ≠ 0 → s = iZ x.sign) → vc_M_keep K p s (K 54) 9000 (nI k) 9 (gm_up F (K 49) 0 0) A7 (fun (r_8 : Int32) (F_8 : gm_M) (A_8 : gm_M) => post (nI (bl (v p.toNatClampNeg).natAbs)) F_8 A_8) := fun s hs =>
      s_M_keep hK (h.scr g7) c err0 (by decide) rfl (by omega) (by decide) hV hs (by decide) (fun _ A8 r8 m8 => h0 c _ A8 err0 (g7.r.trans r8) m8) (fun z => absurd hfit z)
    rw [Int64.le_iff_toInt_le, hx]
    refine ⟨fun z => go 1 (fun y => ?_), fun z => go (-1) (fun y => ?_)⟩
    · have z : 0 ≤ x := z
      rw [Int.sign_eq_one_of_pos (by omega)]; rfl
    · have z : ¬ 0 ≤ x := z
      rw [Int.sign_eq_neg_one_of_neg (by omega)]; rfl
  · have hk4 : k < 4 := by
      rcases Nat.lt_or_ge k 4 with d | d
      · exact d
      · exfalso
        have : k = 4 := by omega
        subst this
        omega
    rintro _ rfl
    refine ⟨pk_in k 9000 (by omega), ?_⟩
    rw [nI_clamp (by omega), l_m16, lN_i, show j_lushr (lN (a / 65536 ^ k)) (16 : Int32) = lN (a / 65536 ^ k / 65536) from jl_ushr 16 (by omega) (by decide)]
    rintro _ rfl _ rfl
    refine ⟨⟨k + 1, nI_s k, by rw [div_pow_succ], fun b hb => by rw [gm_off hb, f7 b hb], fun j hj => ?_, hk4⟩, ?_⟩
    · by_cases e : j = k
      · subst e; exact up_at _ _ _ _
      · rw [up_ne _ _ e]; exact d7 j (by omega)
    · dsimp only
      rw [nI_s, nI_clamp (by omega), nI_clamp (by omega)]; omega
theorem s_M_letter (hK : kinj K) (h : MS K F A v n tx) {post : Int32 → gm_M → Prop} (h1 : ¬ vp_in p n → ∀ r F', F' (K 49) 0 = 1 → frR K F A F' A → MS K F' A v n tx → post r F') (h0 : vp_in p n → ∀ F', F' (K 49) 0 = 0 → frR K F A F' A → MS K F' A v n tx → post (nI (tx p.toNatClampNeg)) F') : vc_M_letter K p F A post := by
  unfold vc_M_letter
  rintro _ rfl
  have m1 := h.scr (frM_1 hK)
  have hn := h.2.1
  have e1 : (gm_up F (K 49) 0 0 (K 49) 1 - (1 : Int32)).toInt = (n : Int) - 1 := by
    rw [m1.2.2.1, iZ_nI, show (1 : Int32) = iZ 1 from rfl, iZ_sub, iZ_t (by omega) (by omega)]
  refine s_M_in 0 ((n : Int) - 1) (fun r hr => ?_) rfl e1
  rcases hr with ⟨rfl, c⟩ | ⟨rfl, c⟩
  · have hin : vp_in p n := vp_in_iff.mpr ⟨c.1, by omega⟩
    refine ⟨fun _ => s_M_fails err0 (by decide) (fun _ => ⟨fun _ => ⟨vp_in_iff.mpr ⟨c.1, by omega⟩, ?_⟩, fun z => absurd rfl z⟩) (fun z => absurd rfl z), fun z => absurd z (by decide)⟩
    rw [(h.2.2.2 _ (vp_lt hin)).1]
    exact h0 hin _ err0 (frM_1 hK).r m1
  · have hin : ¬ vp_in p n := fun z => c (by rw [vp_in_iff] at z; omega)
    exact ⟨fun z => absurd rfl z, fun _ => s_M_fails err0 (by decide) (fun z => absurd z (by decide)) (fun _ => ⟨fun z => absurd z (by decide), fun _ => h1 hin 0 _ (up_at _ _ _ _) (frM_2 hK 1).r (h.scr (frM_2 hK 1))⟩)⟩
theorem s_M_size (hK : kinj K) (h : MS K F A v n tx) {post : Int32 → gm_M → gm_M → Prop} (h1 : ¬ vp_in p 16 → ∀ r F' A', F' (K 49) 0 = 1 → frR K F A F' A' → MS K F' A' v n tx → post r F' A') (h0 : vp_in p 16 → ∀ F' A', F' (K 49) 0 = 0 → frR K F A F' A' → MS K F' A' v n tx → post (nI (bl (v p.toNatClampNeg).natAbs)) F' A') : vc_M_size K p F A post := by
  unfold vc_M_size
  rintro _ rfl
  have m1 := h.scr (frM_1 hK)
  refine s_M_isReg (fun r hr => ?_)
  rcases hr with ⟨rfl, c⟩ | ⟨rfl, c⟩
  · refine ⟨fun _ => s_M_fails err0 (by decide) (fun _ => ⟨fun _ => ?_, fun z => absurd rfl z⟩) (fun z => absurd rfl z), fun z => absurd z (by decide)⟩
    refine s_M_size0 hK (m1.1 _ (vp_lt c)) c (fun A5 f5 => ?_)
    have g5 := (frM_1 (F := F) (A := A) hK).trans (frM_A (F := gm_up F (K 49) 0 0) (i := 59) hK (by decide) f5)
    exact h0 c _ _ err0 g5.r (h.scr g5)
  · exact ⟨fun z => absurd rfl z, fun _ => s_M_fails err0 (by decide) (fun z => absurd z (by decide)) (fun _ => ⟨fun z => absurd z (by decide), fun _ => h1 c 0 _ _ (up_at _ _ _ _) (frM_2 hK 1).r (h.scr (frM_2 hK 1))⟩)⟩
theorem s_M_low64 {c w : Nat} (hp : p = nI c) (h : aU A (K 54) c w) (hc : c ≤ 9000) {post : Int64 → Prop} (hr : post (lN w)) : vc_M_low64 K p F A post := by
  subst hp
  unfold vc_M_low64
  refine ⟨fun x y => ∃ z, y = dn z ∧ z ≤ 4 ∧ x = lN (w / 65536 ^ z % 65536 ^ (4 - z)), fun _ y => (y.toInt + 1).toNat, ⟨4, rfl, Nat.le_refl _, by rw [Nat.sub_self, Nat.pow_zero, Nat.mod_one]; rfl⟩, ?_⟩
  rintro _ _ ⟨z, rfl, hz, rfl⟩
  refine dn_br z (by omega) (fun e => ?_) (fun t e => ?_)
  · subst e
    rw [Nat.pow_zero, Nat.div_one]
    rw [show lN (w % 65536 ^ (4 - 0)) = lN w from lN_inj' (by omega)]
    exact hr
  · subst e
    rw [dn_succ]
    have hd := h.v.dig t
    have hdl := dz_lt16 (i := t) h.1
    have hstep : w / 65536 ^ t % 65536 ^ (4 - t) = w / 65536 ^ (t + 1) % 65536 ^ (4 - (t + 1)) * 65536 + dz A (K 54) c t := by
      rw [← hd, show 4 - t = (4 - (t + 1)) + 1 by omega, Nat.pow_succ, Nat.mul_comm, Nat.mod_mul, div_pow_succ, Nat.add_comm, Nat.mul_comm]
    have hL : w / 65536 ^ (t + 1) % 65536 ^ (4 - (t + 1)) < 2 ^ 48 := by
      refine Nat.lt_of_lt_of_le (Nat.mod_lt _ (Nat.pow_pos (by decide))) ?_
      rw [pow16]
      exact Nat.pow_le_pow_right (by decide) (by omega)
    have go : ∀ D : Int64, D = lN (dz A (K 54) c t) → ∀ x2_2 : Int64, x2_2 = ((j_lshl (lN (w / 65536 ^ (t + 1) % 65536 ^ (4 - (t + 1)))) (16 : Int32)) ||| D) → ∀ x4_3 : Int32, x4_3 = nI t + (-1 : Int32) → (∃ z, x4_3 = dn z ∧ z ≤ 4 ∧ x2_2 = lN (w / 65536 ^ z % 65536 ^ (4 - z))) ∧ (x4_3.toInt + 1).toNat < ((nI t).toInt + 1).toNat := by
      rintro _ rfl _ rfl _ rfl
      refine ⟨⟨t, dn_next t, by omega, ?_⟩, ?_⟩
      · rw [l_mk48 hL hdl, hstep]
      · rw [dn_next, dn_mu t (by omega), nI_toInt (by omega)]; omega
    refine pk_le c t (fun d => go 0 ?_) (fun d => ⟨pk_in t 9000 (by omega), go _ ?_⟩)
    · unfold dz; rw [if_neg (by omega)]; rfl
    · have r := h.1 t d
      rw [nI_clamp (by omega), r.1, nI_l (by have := r.2; omega)]
      unfold dz; rw [if_pos d]
theorem sg_r {x : Int} (hx : A (K 52) p.toNatClampNeg = iZ x.sign) {P : Int64 → Prop} {w : Int64} (hw : w = lZ (x.natAbs : Int)) (h : P (lZ x)) : (((0) ≤ (A (K 52) p.toNatClampNeg) → P w) ∧ (¬ (0) ≤ (A (K 52) p.toNatClampNeg) → P (-w))) := by
  subst hw
  rw [hx, sg_le]
  refine ⟨fun c => ?_, fun c => ?_⟩
  · rw [show ((x.natAbs : Nat) : Int) = x by omega]; exact h
  · rw [lZ_neg, show -((x.natAbs : Nat) : Int) = x by omega]; exact h
theorem mU.sg {x : Int} {w : Nat} (h : mU K A w x) : A (K 52) w = iZ x.sign := by
  obtain ⟨c, h1, h2, h3, h4, h5, h6, h7⟩ := h
  exact h6
theorem s_M_low (hK : kinj K) (h : MS K F A v n tx) {post : Int64 → gm_M → gm_M → Prop} (h1 : ¬ vp_in p 16 → ∀ r F' A', F' (K 49) 0 = 1 → frR K F A F' A' → MS K F' A' v n tx → post r F' A') (h0 : vp_in p 16 → ∀ F' A', F' (K 49) 0 = 0 → frR K F A F' A' → MS K F' A' v n tx → post (lZ (v p.toNatClampNeg)) F' A') : vc_M_low K p F A post := by
  unfold vc_M_low
  refine s_M_reg1 (fun c => ?_) (fun c => h1 c 0 _ _ (up_at _ _ _ _) (frM_2 hK 1).r (h.scr (frM_2 hK 1)))
  have hw := vp_lt c
  have m1 := h.scr (frM_1 hK)
  refine s_M_load hK (m1.1 _ hw) c (by decide) (by decide) (by decide) (fun A5 c5 f5 a5 hc5 => ?_)
  have g5 := (frM_1 (F := F) (A := A) hK).trans (frM_A (F := gm_up F (K 49) 0 0) (i := 54) hK (by decide) f5)
  have m5 := h.scr g5
  refine s_M_low64 rfl a5 (by omega) ⟨c, ?_⟩
  exact sg_r (P := fun y => post y (gm_up F (K 49) 0 0) A5) (m5.1 _ hw).sg (lZ_lN _) (h0 c _ _ err0 g5.r m5)
theorem s_M_small (hK : kinj K) (h : MS K F A v n tx) {post : Int64 → gm_M → gm_M → Prop} (h1 : ¬ vp_in p 16 → ∀ r F' A', F' (K 49) 0 = 1 → frR K F A F' A' → MS K F' A' v n tx → post r F' A') (h2 : vp_in p 16 → ¬ fitL (v p.toNatClampNeg) → ∀ r F' A', F' (K 49) 0 = 2 → frR K F A F' A' → MS K F' A' v n tx → post r F' A') (h0 : vp_in p 16 → fitL (v p.toNatClampNeg) → ∀ F' A', F' (K 49) 0 = 0 → frR K F A F' A' → MS K F' A' v n tx → post (lZ (v p.toNatClampNeg)) F' A') : vc_M_small K p F A post := by
  unfold vc_M_small
  refine s_M_reg1 (fun c => ?_) (fun c => h1 c 0 _ _ (up_at _ _ _ _) (frM_2 hK 1).r (h.scr (frM_2 hK 1)))
  have hw := vp_lt c
  have m1 := h.scr (frM_1 hK)
  refine s_M_load hK (m1.1 _ hw) c (by decide) (by decide) (by decide) (fun A5 c5 f5 a5 hc5 => ?_)
  have g5 := (frM_1 (F := F) (A := A) hK).trans (frM_A (F := gm_up F (K 49) 0 0) (i := 54) hK (by decide) f5)
  have m5 := h.scr g5
  have hsg := (m5.1 _ hw).sg
  refine s_M_low64 rfl a5 (by omega) ?_
  refine s_M_bits rfl a5 (by omega) (by decide) ?_
  have hbl : bl (v p.toNatClampNeg).natAbs ≤ 16 * c5 := bl_le_iff.mpr (by rw [← pow16]; exact a5.lt)
  have hb63 : bl (v p.toNatClampNeg).natAbs ≤ 63 ↔ (v p.toNatClampNeg).natAbs < 2 ^ 63 := bl_le_iff
  have hb64 : bl (v p.toNatClampNeg).natAbs ≤ 64 ↔ (v p.toNatClampNeg).natAbs < 2 ^ 64 := bl_le_iff
  generalize hX : v p.toNatClampNeg = x at *
  have fin : ∀ q : Int32, (q = 1 ∧ fitL x) ∨ (q = 0 ∧ ¬ fitL x) → ∃ (J_104 : Int32 → Prop), (
                    ((¬ q = (0) →
                      J_104 (0 : Int32)
                    ) ∧ (q = (0) →
                      J_104 (1 : Int32)
                    ))
                  ) ∧ ((∀ (v0_9 : Int32), J_104 v0_9 →
                    vc_M_fails K v0_9 (2 : Int32) (gm_up F (K 49) 0 0) A5 (fun (r_10 : Int32) (F_10 : gm_M) =>
                      ((r_10 = (0) →
                        (vp_in p 16) ∧
                        (((0) ≤ (A5 (K 52) p.toNatClampNeg) →
                          post (lN x.natAbs) F_10 A5
                        ) ∧ (¬ (0) ≤ (A5 (K 52) p.toNatClampNeg) →
                          post (-(lN x.natAbs)) F_10 A5
                        ))
                      ) ∧ (¬ r_10 = (0) →
                        post (0 : Int64) F_10 A5
                      ))
                    )
                  )) := by
    intro q hq
    refine ⟨fun y => (y = 0 ∧ fitL x) ∨ (y = 1 ∧ ¬ fitL x), ?_, fun y hy => ?_⟩
    · rcases hq with ⟨rfl, d⟩ | ⟨rfl, d⟩
      · exact ⟨fun _ => Or.inl ⟨rfl, d⟩, fun z => absurd z (by decide)⟩
      · exact ⟨fun z => absurd rfl z, fun _ => Or.inr ⟨rfl, d⟩⟩
    · refine s_M_gate (C := fitL x) (REST := fun F_10 => (vp_in p 16) ∧ (((0) ≤ (A5 (K 52) p.toNatClampNeg) → post (lN x.natAbs) F_10 A5) ∧ (¬ (0) ≤ (A5 (K 52) p.toNatClampNeg) → post (-(lN x.natAbs)) F_10 A5))) (POST := fun F_10 => post 0 F_10 A5) err0 (by decide) hy (fun d => ⟨c, ?_⟩) (fun d => ?_)
      · exact sg_r (P := fun y => post y (gm_up F (K 49) 0 0) A5) hsg (lZ_lN _) (h0 c d _ _ err0 g5.r m5)
      · have g6 := g5.trans (frM_F (F := gm_up F (K 49) 0 0) (A := A5) (s := 0) 2 hK (by decide))
        exact h2 c d 0 _ _ (up_at _ _ _ _) g6.r (h.scr g6)
  refine ⟨fun q => (q = 1 ∧ fitL x) ∨ (q = 0 ∧ ¬ fitL x), ⟨fitL x, ?_, fun z => Or.inl ⟨rfl, z⟩⟩, fin⟩
  unfold fitL
  refine pk_lt (bl x.natAbs) 64 (fun d => by omega) (fun d => ?_)
  refine s_M_bits rfl a5 (by omega) (by decide) ?_
  refine ⟨¬ fitL x, ?_, fun z => Or.inr ⟨rfl, z⟩⟩
  unfold fitL
  refine (pk_eq (bl x.natAbs) 64 (fun d2 => ?_) (fun d2 => by omega)).symm
  refine ⟨c, ?_⟩
  rw [hsg, sg_le]
  refine ⟨fun d3 => by omega, fun d3 => ?_⟩
  have e : lN x.natAbs = (-9223372036854775808 : Int64) ↔ x.natAbs = 9223372036854775808 := lN_eq64 (b := 9223372036854775808) (by omega) (by decide)
  rw [e]
  exact ⟨fun d4 => by omega, fun d4 => by omega⟩
theorem s_M_compare (hK : kinj K) (h : MS K F A v n tx) {post : Int32 → gm_M → gm_M → Prop} (h1 : ¬ (vp_in p1 16 ∧ vp_in p2 16) → ∀ r F' A', F' (K 49) 0 = 1 → frR K F A F' A' → MS K F' A' v n tx → post r F' A') (h0 : vp_in p1 16 → vp_in p2 16 → ∀ F' A', F' (K 49) 0 = 0 → frR K F A F' A' → MS K F' A' v n tx → post (iZ (cmpZ (v p1.toNatClampNeg) (v p2.toNatClampNeg))) F' A') : vc_M_compare K p1 p2 F A post := by
  unfold vc_M_compare
  rintro _ rfl
  have m1 := h.scr (frM_1 hK)
  refine s_M_isReg (fun r hr => ⟨fun q => (q = 0 ∧ (vp_in p1 16 ∧ vp_in p2 16)) ∨ (q = 1 ∧ ¬ (vp_in p1 16 ∧ vp_in p2 16)), ⟨¬ (vp_in p1 16 ∧ vp_in p2 16), ?_, fun z => Or.inr ⟨rfl, z⟩⟩, fun q hq => s_M_gate err0 (by decide) hq (fun c => ⟨c.1, c.2, ?_⟩) (fun c => h1 c 0 _ _ (up_at _ _ _ _) (frM_2 hK 1).r (h.scr (frM_2 hK 1)))⟩)
  · rcases hr with ⟨rfl, c⟩ | ⟨rfl, c⟩
    · refine ⟨fun z => absurd z (by decide), fun _ => s_M_isReg (fun r hr => ?_)⟩
      rcases hr with ⟨rfl, d⟩ | ⟨rfl, d⟩
      · exact ⟨fun _ => Or.inl ⟨rfl, c, d⟩, fun z => absurd z (by decide)⟩
      · exact ⟨fun z => absurd rfl z, fun _ z => d z.2⟩
    · exact ⟨fun _ z => c z.1, fun z => absurd rfl z⟩
  · have w1 := vp_lt c.1
    have w2 := vp_lt c.2
    have s1 := (h.1 _ w1).sg
    have s2 := (h.1 _ w2).sg
    have h0 := h0 c.1 c.2
    rw [s1, s2]
    have eqs : ∀ x y : Int, (iZ x.sign = iZ y.sign ↔ x.sign = y.sign) ∧ (iZ x.sign ≤ iZ y.sign ↔ x.sign ≤ y.sign) := fun x y => by
      rcases sg3 x with a | a | a <;> rcases sg3 y with b | b | b <;> rw [a.1, b.1] <;> decide
    rw [(eqs _ _).1]
    refine ⟨fun e => ?_, fun e => ⟨c.1, c.2, ?_⟩⟩
    · refine s_M_load hK (m1.1 _ w1) c.1 (by decide) (by decide) (by decide) (fun A5 c5 f5 a5 hc5 => ?_)
      have g5 := (frM_1 (F := F) (A := A) hK).trans (frM_A (F := gm_up F (K 49) 0 0) (i := 54) hK (by decide) f5)
      refine s_M_load hK ((h.scr g5).1 _ w2) c.2 (by decide) (by decide) (by decide) (fun A6 c6 f6 a6 hc6 => ⟨c.1, ?_⟩)
      have g6 := g5.trans (frM_A (F := gm_up F (K 49) 0 0) (i := 55) hK (by decide) f6)
      have m6 := h.scr g6
      refine s_M_compared rfl rfl (a5.cong (f6 _ (kne hK (by decide) (by decide) (by decide)))) a6 (by omega) (by omega) (by decide) (by decide) ?_
      rw [(m6.1 _ w1).sg, iZ_mul]
      have := h0 _ _ err0 g6.r m6
      have ec : (v p1.toNatClampNeg).sign * cmpN (v p1.toNatClampNeg).natAbs (v p2.toNatClampNeg).natAbs = cmpZ (v p1.toNatClampNeg) (v p2.toNatClampNeg) := by
        generalize v p1.toNatClampNeg = x at *
        generalize v p2.toNatClampNeg = y at *
        unfold cmpN cmpZ
        rcases sg3 x with a | a | a <;> rcases sg3 y with b | b | b
        · rw [a.1]
          by_cases q : x < y
          · rw [if_pos q, if_neg (by omega), if_neg (by omega)]; rfl
          · by_cases q2 : x = y
            · rw [if_neg q, if_pos q2, if_neg (by omega), if_pos (by omega)]; rfl
            · rw [if_neg q, if_neg q2, if_pos (by omega)]; rfl
        · omega
        · omega
        · omega
        · rw [a.1, Int.zero_mul, if_neg (by omega), if_pos (by omega)]
        · omega
        · omega
        · omega
        · rw [a.1]
          by_cases q : x < y
          · rw [if_pos q, if_pos (by omega)]; rfl
          · by_cases q2 : x = y
            · rw [if_neg q, if_pos q2, if_neg (by omega), if_pos (by omega)]; rfl
            · rw [if_neg q, if_neg q2, if_neg (by omega), if_neg (by omega)]; rfl
      rw [ec]; exact this
    · rw [(eqs _ _).2]
      have := h0 _ _ err0 (frM_1 hK).r m1
      have l1 := sg3 (v p1.toNatClampNeg)
      have l2 := sg3 (v p2.toNatClampNeg)
      generalize v p1.toNatClampNeg = x at *
      generalize v p2.toNatClampNeg = y at *
      unfold cmpZ at this
      refine ⟨fun q => ?_, fun q => ?_⟩
      · rw [if_neg (by omega), if_neg (by omega)] at this; exact this
      · rw [if_pos (by omega)] at this; exact this
end M7
