theorem sg3 (x : Int) : x.sign = -1 ∧ x < 0 ∨ x.sign = 0 ∧ x = 0 ∨ x.sign = 1 ∧ 0 < x := by
  rcases Int.lt_trichotomy x 0 with h | h | h
  · exact Or.inl ⟨Int.sign_eq_neg_one_of_neg h, h⟩
  · exact Or.inr (Or.inl ⟨by rw [h]; rfl, h⟩)
  · exact Or.inr (Or.inr ⟨Int.sign_eq_one_of_pos h, h⟩)
theorem sg_0 {x : Int} : iZ x.sign = 0 ↔ x = 0 := by
  rcases sg3 x with h | h | h
  · rw [h.1]; exact ⟨fun z => absurd z (by decide), fun z => by omega⟩
  · rw [h.1]; exact ⟨fun _ => h.2, fun _ => rfl⟩
  · rw [h.1]; exact ⟨fun z => absurd z (by decide), fun z => by omega⟩
theorem sg_le {x : Int} : 0 ≤ iZ x.sign ↔ 0 ≤ x := by
  rcases sg3 x with h | h | h
  · rw [h.1]; exact ⟨fun z => absurd z (by decide), fun z => by omega⟩
  · rw [h.1]; exact ⟨fun _ => by omega, fun _ => by decide⟩
  · rw [h.1]; exact ⟨fun _ => by omega, fun _ => by decide⟩
theorem sg_lt {x : Int} : iZ x.sign < 0 ↔ x < 0 := by
  rcases sg3 x with h | h | h
  · rw [h.1]; exact ⟨fun _ => h.2, fun _ => by decide⟩
  · rw [h.1]; exact ⟨fun z => absurd z (by decide), fun z => by omega⟩
  · rw [h.1]; exact ⟨fun z => absurd z (by decide), fun z => by omega⟩
def rv (b n : Nat) (tx : Nat → Nat) : Int := if hm n tx = 1 then -(lv b n tx : Int) else (lv b n tx : Int)
theorem rv_abs (b n : Nat) (tx : Nat → Nat) : (rv b n tx).natAbs = lv b n tx := by
  unfold rv; split
  · rw [Int.natAbs_neg, Int.natAbs_natCast]
  · rw [Int.natAbs_natCast]
def okR (p q : Int32) (n : Nat) (tx : Nat → Nat) : Prop := vp_in p 16 ∧ isB q ∧ isNum q.toNatClampNeg n tx
def wk (k : Nat) (x y : Int) : Int := if k = 0 then x + y else if k = 1 then x - y else x * y
def shv (x by_ : Int) : Int := if 0 < by_ then x * 2 ^ by_.toNat else x / 2 ^ (-by_).toNat
theorem bl_mul2 {v : Nat} (k : Nat) (h : v ≠ 0) : bl (v * 2 ^ k) = bl v + k := by
  have h1 := bl_le h
  have h2 := bl_lt v
  have h3 := bl_pos h
  have hp : 0 < 2 ^ k := Nat.two_pow_pos k
  refine bl_eq (Nat.mul_ne_zero h (by omega)) ?_ ?_
  · rw [show bl v + k - 1 = (bl v - 1) + k by omega, Nat.pow_add]
    exact Nat.mul_le_mul_right _ h1
  · rw [Nat.pow_add]
    exact Nat.mul_lt_mul_of_pos_right h2 hp
section K2
variable {F A : gm_M} {K : Nat → Nat} {n : Nat} {tx : Nat → Nat} {v : Nat → Int} {p p1 p2 p3 p4 p5 : Int32}
theorem s_K_isReg {post : Int32 → Prop} (h : ∀ r, (r = 1 ∧ vp_in p 16) ∨ (r = 0 ∧ ¬ vp_in p 16) → post r) : vc_K_isRegister p F A post := s_K_isRegister (fun c => h 1 (Or.inl ⟨rfl, c⟩)) (fun c => h 0 (Or.inr ⟨rfl, c⟩))
theorem s_K_read (hK : kinj K) (h : CS K F A v n tx) {post : Int32 → gm_M → gm_M → Prop} {pe : Nat → gm_M → gm_M → Prop} (h1 : ¬ okR p1 p2 n tx → ∀ F' A', frC K F A F' A' → CS K F' A' v 0 tx → pe 1 F' A') (h2 : okR p1 p2 n tx → ¬ fit (rv p2.toNatClampNeg n tx) → ∀ F' A', frC K F A F' A' → CS K F' A' v 0 tx → pe 3 F' A') (h0 : okR p1 p2 n tx → fit (rv p2.toNatClampNeg n tx) → ∀ F' A', frC K F A F' A' → CS K F' A' (vu v p1.toNatClampNeg (rv p2.toNatClampNeg n tx)) 0 tx → post (nI (bl (rv p2.toNatClampNeg n tx).natAbs)) F' A') : vc_K_read K p1 p2 F A post pe := by
  unfold vc_K_read
  refine s_K_isReg (fun r_1 hr => ⟨fun w => w = 1 ∧ okR p1 p2 n tx ∨ w = 0 ∧ ¬ okR p1 p2 n tx, ⟨¬ okR p1 p2 n tx, ?_, fun z => Or.inr ⟨rfl, z⟩⟩, ?_⟩)
  · rcases hr with ⟨rfl, c⟩ | ⟨rfl, c⟩
    · refine ⟨fun z => absurd z (by decide), fun _ => ?_⟩
      refine s_K_isBase (fun d => ⟨fun z => absurd z (by decide), fun _ => ?_⟩) (fun d => ⟨fun _ z => d z.2.1, fun z => absurd rfl z⟩)
      obtain ⟨e1, e2, e3⟩ := isB_eq d
      exact s_T_areNumber h.2 e1 (by omega) (fun e => ⟨fun z => absurd z (by decide), fun _ => Or.inl ⟨rfl, c, d, e⟩⟩) (fun e => ⟨fun _ z => e z.2.2, fun z => absurd rfl z⟩)
    · exact ⟨fun _ z => c z.1, fun z => absurd rfl z⟩
  intro w hw
  refine ⟨fun F3 A3 => frS K F A F3 A3 ∧ (w ≠ 0 → ∃ M, (M = lv p2.toNatClampNeg n tx ∨ (2 ^ bN ≤ M ∧ M ≤ lv p2.toNatClampNeg n tx)) ∧ wR F3 A3 (K 43) (K 44) 135 (if hm n tx = 1 then -(M : Int) else (M : Int))), ?_, ?_⟩
  · refine ⟨fun z => ⟨frS.rf, fun y => absurd z y⟩, fun z => ?_⟩
    have ok : okR p1 p2 n tx := by
      rcases hw with y | y
      · exact y.2
      · exact absurd y.1 z
    obtain ⟨e1, e2, e3⟩ := isB_eq ok.2.1
    refine s_T_writeTo (m := 67) rfl h.2 (kne hK (by decide) (by decide) (by decide)) (kne hK (by decide) (by decide) (by decide)) e1 ⟨e2, e3⟩ ok.2.2 rfl (fun F7 A7 M f1 f2 f3 => ⟨f1.scr hK (by decide) (by decide), fun _ => ⟨M, ?_, f3⟩⟩)
    rcases f2 with y | y
    · exact Or.inl y
    · refine Or.inr ⟨?_, y.2⟩
      refine Nat.le_trans ?_ y.1
      rw [pow31]
      exact Nat.pow_le_pow_right (by decide) (by decide)
  · rintro F3 A3 ⟨f3, hM⟩ _ rfl
    have g4 : frT K F3 A3 (gm_up F3 (K 2) 1 0) A3 := ⟨fun b hb => gm_off hb, fun _ _ => rfl⟩
    have c4 : CS K (gm_up F3 (K 2) 1 0) A3 v 0 tx := (h.scr f3).line hK g4 ⟨Nat.zero_le _, up_at _ _ _ _, fun k hk => absurd hk (Nat.not_lt_zero _)⟩
    have r4 := f3.c.trans (g4.c hK)
    refine ⟨fun z => ?_, fun z => ?_⟩
    · have ok : okR p1 p2 n tx := by
        rcases hw with y | y
        · exact y.2
        · exact absurd y.1 z
      obtain ⟨M, hM, hwR⟩ := hM z
      have hwR : wR (gm_up F3 (K 2) 1 0) A3 (K 43) (K (43 + 1)) 135 (if hm n tx = 1 then -(M : Int) else (M : Int)) := hwR.congr (gm_off (kne hK (by decide) (by decide) (by decide))) rfl
      have habs : (if hm n tx = 1 then -(M : Int) else (M : Int)).natAbs = M := by
        split
        · rw [Int.natAbs_neg, Int.natAbs_natCast]
        · rw [Int.natAbs_natCast]
      refine s_K_keep (s := 43) hK (by decide) c4 hwR ok.1 (fun c F5 A5 f5 c5 => ?_) (fun c => h2 ok ?_ _ _ r4 c4)
      · have e : M = lv p2.toNatClampNeg n tx := by
          rcases hM with y | y
          · exact y
          · unfold fit at c
            rw [habs] at c
            omega
        have e2 : (if hm n tx = 1 then -(M : Int) else (M : Int)) = rv p2.toNatClampNeg n tx := by rw [e]; rfl
        have hw16 := vp_lt ok.1
        rw [e2] at c5 c hwR
        obtain ⟨u, hu⟩ := hwR.1
        refine s_W_countBits (hu.congr (f5.1 _ (kne hK (by omega) (by omega) (by omega))) (f5.2 _ (kne hK (by omega) (by omega) (by omega)))) (by decide) ?_
        exact h0 ok c F5 A5 (r4.trans (f5.c hK (by omega) (by omega))) c5
      · intro z2
        unfold fit at c z2
        rw [habs] at c
        rw [rv_abs] at z2
        rcases hM with y | y
        · rw [y] at c; exact c z2
        · omega
    · refine h1 ?_ _ _ r4 c4
      rcases hw with y | y
      · exact absurd z (by rw [y.1]; decide)
      · exact y.2
theorem s_K_show (hK : kinj K) (h : CS K F A v n tx) {post : Int32 → gm_M → gm_M → Prop} {pe : Nat → gm_M → gm_M → Prop} (h1 : ¬ (vp_in p1 16 ∧ isB p2) → pe 1 F A) (h0 : vp_in p1 16 → isB p2 → ∀ L F' A', ndP p2.toNatClampNeg (v p1.toNatClampNeg).natAbs L → frC K F A F' A' → CS K F' A' v (L + sn (v p1.toNatClampNeg)) (sx p2.toNatClampNeg (v p1.toNatClampNeg) L) → post (nI (L + sn (v p1.toNatClampNeg))) F' A') : vc_K_show K p1 p2 F A post pe := by
  unfold vc_K_show
  refine s_K_needRegister (fun c => ?_) (fun c => h1 (fun z => c z.1))
  refine s_K_isBase (fun d => ⟨fun _ => ⟨c, ?_⟩, fun z => absurd z (by decide)⟩) (fun d => ⟨fun z => absurd rfl z, fun _ => h1 (fun z => d z.2)⟩)
  have hw := vp_lt c
  obtain ⟨u, hu1, hu, hb⟩ := h.reg hw
  obtain ⟨e1, e2, e3⟩ := isB_eq d
  refine s_W_takeCopy (kne hK (by omega) (by omega) (by omega)) (kne hK (by omega) (by omega) (by omega)) hu hb (by omega) (by decide) (fun F4 A4 f4 g4 => ?_)
  refine s_T_takeNumber (N := bN) rfl (kne hK (by decide) (by decide) (by decide)) (kne hK (by decide) (by decide) (by decide)) e1 ⟨e2, e3⟩ rfl g4 (h.1 _ hw).2 (fun F5 A5 L f5 f6 hL hl => ?_)
  rw [hl.2.1]
  have c4 := h.scr (f4.scr hK (by decide) (by decide))
  refine h0 c d L F5 A5 hL ((f4.c hK (by decide) (by decide)).trans (fun i i1 i2 => ⟨f5 _ (kne hK (by omega) (by omega) (by omega)) (kne hK (by omega) (by omega) (by omega)), f6 _ (kne hK (by omega) (by omega) (by omega)) (kne hK (by omega) (by omega) (by omega))⟩)) ⟨fun w hw => ⟨(c4.1 w hw).1.congr (f5 _ (kne hK (by omega) (by omega) (by omega)) (kne hK (by omega) (by omega) (by omega))) (f6 _ (kne hK (by omega) (by omega) (by omega)) (kne hK (by omega) (by omega) (by omega))), (c4.1 w hw).2⟩, hl⟩
def ok4 (p1 p2 p3 p4 : Int32) : Prop := vp_in p1 3 ∧ vp_in p2 16 ∧ vp_in p3 16 ∧ vp_in p4 16
/-- the end of a call: the outcome is kept, its sign answered -/
theorem s_K_end {F1 A1 : gm_M} {x : Int} (hK : kinj K) (h : CS K F A v n tx) (f : fr F A F1 A1 (K 43) (K 44)) (hx : wR F1 A1 (K 43) (K 44) 135 x) (hp : vp_in p 16) {post : Int32 → gm_M → gm_M → Prop} {pe : Nat → gm_M → gm_M → Prop} (h2 : ¬ fit x → ∀ F' A', frC K F A F' A' → CS K F' A' v n tx → pe 3 F' A') (h0 : fit x → ∀ F' A', frC K F A F' A' → CS K F' A' (vu v p.toNatClampNeg x) n tx → wR F' A' (K 43) (K 44) 135 x → post (iZ x.sign) F' A') : vc_K_keep K (K 43) (K 44) 135 p F1 A1 (fun F_6 A_6 => vc_W_sign (K 43) (K 44) (135) F_6 A_6 (fun (r_7 : Int32) => post r_7 F_6 A_6)) pe := by
  have hw := vp_lt hp
  have c1 := h.scr (f.scr hK (by decide) (by decide))
  have r1 := f.c hK (by decide) (by decide)
  refine s_K_keep (s := 43) hK (by decide) c1 hx hp (fun c F5 A5 f5 c5 => ?_) (fun c => h2 c _ _ r1 c1)
  have hx5 : wR F5 A5 (K 43) (K 44) 135 x := hx.congr (f5.1 _ (kne hK (by omega) (by omega) (by omega))) (f5.2 _ (kne hK (by omega) (by omega) (by omega)))
  exact s_W_sign hx5 (by decide) (h0 c F5 A5 (r1.trans (f5.c hK (by omega) (by omega))) c5 hx5)
theorem s_K_endB {F1 A1 : gm_M} {x : Int} (hK : kinj K) (h : CS K F A v n tx) (f : fr F A F1 A1 (K 43) (K 44)) (hx : wR F1 A1 (K 43) (K 44) 135 x) (hp : vp_in p 16) {post : Int32 → gm_M → gm_M → Prop} {pe : Nat → gm_M → gm_M → Prop} (h2 : ¬ fit x → ∀ F' A', frC K F A F' A' → CS K F' A' v n tx → pe 3 F' A') (h0 : fit x → ∀ F' A', frC K F A F' A' → CS K F' A' (vu v p.toNatClampNeg x) n tx → post (nI (bl x.natAbs)) F' A') : vc_K_keep K (K 43) (K 44) 135 p F1 A1 (fun F_6 A_6 => vc_W_countBits (K 43) (K 44) (135) F_6 A_6 (fun (r_7 : Int32) => post r_7 F_6 A_6)) pe := by
  have hw := vp_lt hp
  have c1 := h.scr (f.scr hK (by decide) (by decide))
  have r1 := f.c hK (by decide) (by decide)
  refine s_K_keep (s := 43) hK (by decide) c1 hx hp (fun c F5 A5 f5 c5 => ?_) (fun c => h2 c _ _ r1 c1)
  have hx5 : wR F5 A5 (K 43) (K 44) 135 x := hx.congr (f5.1 _ (kne hK (by omega) (by omega) (by omega))) (f5.2 _ (kne hK (by omega) (by omega) (by omega)))
  obtain ⟨u, hu⟩ := hx5.1
  exact s_W_countBits hu (by decide) (h0 c F5 A5 (r1.trans (f5.c hK (by omega) (by omega))) c5)
theorem sb_y {y : Int} : sb y = 1 ↔ y < 0 := by
  unfold sb; split
  · exact ⟨fun _ => ‹_›, fun _ => rfl⟩
  · exact ⟨fun h => absurd h (by decide), fun h => absurd h ‹_›⟩
theorem s_K_work (hK : kinj K) (h : CS K F A v n tx) {post : Int32 → gm_M → gm_M → Prop} {pe : Nat → gm_M → gm_M → Prop} (h1 : ¬ ok4 p1 p2 p3 p4 → pe 1 F A) (h2 : ok4 p1 p2 p3 p4 → ¬ fit (wk p1.toNatClampNeg (v p3.toNatClampNeg) (v p4.toNatClampNeg)) → ∀ F' A', frC K F A F' A' → CS K F' A' v n tx → pe 3 F' A') (h0 : ok4 p1 p2 p3 p4 → fit (wk p1.toNatClampNeg (v p3.toNatClampNeg) (v p4.toNatClampNeg)) → ∀ F' A', frC K F A F' A' → CS K F' A' (vu v p2.toNatClampNeg (wk p1.toNatClampNeg (v p3.toNatClampNeg) (v p4.toNatClampNeg))) n tx → post (iZ (wk p1.toNatClampNeg (v p3.toNatClampNeg) (v p4.toNatClampNeg)).sign) F' A') : vc_K_work K p1 p2 p3 p4 F A post pe := by
  unfold vc_K_work
  refine s_K_needKind (fun c1 => s_K_needRegisters (fun c2 c3 c4 => ⟨c3, c4, ?_⟩) (fun z => h1 (fun y => z y.2))) (fun z => h1 (fun y => z y.1))
  have ok : ok4 p1 p2 p3 p4 := ⟨c1, c2, c3, c4⟩
  have w3 := vp_lt c3
  have w4 := vp_lt c4
  have e1 := vp_eq c1 (by decide)
  have l1 := vp_lt c1
  obtain ⟨u, hu1, hu, hb⟩ := h.reg w3
  obtain ⟨t, ht1, ht, hc⟩ := h.reg w4
  generalize hk : p1.toNatClampNeg = k at *
  generalize v p3.toNatClampNeg = x at *
  generalize v p4.toNatClampNeg = y at *
  subst e1
  refine (pk_eq k 0 (fun k0 => ?_) (fun k0 => ?_)).symm
  · have e : wk k x y = x + y := if_pos k0
    rw [e] at h2 h0
    rw [hc]
    exact s_W_takeSum hu hb ht (sb01 y) (fun _ => sb_y) (by omega) (by decide) (by decide) (by decide) (fun F' A' f1 f2 => s_K_end hK h f1 f2 c2 (h2 ok) (fun z F' A' g1 g2 _ => h0 ok z F' A' g1 g2))
  · refine (pk_eq k 1 (fun k1 => ?_) (fun k1 => ?_)).symm
    · have e : wk k x y = x + -y := by unfold wk; rw [if_neg k0, if_pos k1]; omega
      rw [e] at h2 h0
      refine ⟨fun q => (q = 0 ∨ q = 1) ∧ (q = 1 ↔ ¬ y < 0), ?_, ?_⟩
      · rw [hc]
        exact ⟨fun z => ⟨Or.inl rfl, fun q => absurd q (by decide), fun q => absurd ((sb_ne y).mp z) q⟩, fun z => ⟨Or.inr rfl, fun _ q => absurd z ((sb_ne y).mpr q), fun _ => rfl⟩⟩
      · rintro q ⟨q1, q2⟩
        exact s_W_takeSum hu hb (by rw [Int.natAbs_neg]; exact ht) q1 (fun hy => by rw [q2]; omega) (by omega) (by decide) (by decide) (by decide) (fun F' A' f1 f2 => s_K_end hK h f1 f2 c2 (h2 ok) (fun z F' A' g1 g2 _ => h0 ok z F' A' g1 g2))
    · have e : wk k x y = x * y := by unfold wk; rw [if_neg k0, if_neg k1]
      rw [e] at h2 h0
      exact s_W_takeProduct hu hb ht hc (kne hK (by omega) (by omega) (by omega)) (kne hK (by omega) (by omega) (by omega)) (kne hK (by omega) (by omega) (by omega)) (kne hK (by omega) (by omega) (by omega)) (by omega) (by decide) (by decide) (by decide) (fun F' A' f1 f2 => s_K_end hK h f1 f2 c2 (h2 ok) (fun z F' A' g1 g2 _ => h0 ok z F' A' g1 g2))
theorem s_K_bits (hK : kinj K) (h : CS K F A v n tx) {post : Int32 → gm_M → gm_M → Prop} {pe : Nat → gm_M → gm_M → Prop} (h1 : ¬ ok4 p1 p2 p3 p4 → pe 1 F A) (h2 : ok4 p1 p2 p3 p4 → ¬ fit (bop bN p1.toNatClampNeg (v p3.toNatClampNeg) (v p4.toNatClampNeg)) → ∀ F' A', frC K F A F' A' → CS K F' A' v n tx → pe 3 F' A') (h0 : ok4 p1 p2 p3 p4 → fit (bop bN p1.toNatClampNeg (v p3.toNatClampNeg) (v p4.toNatClampNeg)) → ∀ F' A', frC K F A F' A' → CS K F' A' (vu v p2.toNatClampNeg (bop bN p1.toNatClampNeg (v p3.toNatClampNeg) (v p4.toNatClampNeg))) n tx → post (iZ (bop bN p1.toNatClampNeg (v p3.toNatClampNeg) (v p4.toNatClampNeg)).sign) F' A') : vc_K_bits K p1 p2 p3 p4 F A post pe := by
  unfold vc_K_bits
  refine s_K_needKind (fun c1 => s_K_needRegisters (fun c2 c3 c4 => ⟨c3, c4, ?_⟩) (fun z => h1 (fun y => z y.2))) (fun z => h1 (fun y => z y.1))
  have ok : ok4 p1 p2 p3 p4 := ⟨c1, c2, c3, c4⟩
  have w3 := vp_lt c3
  have w4 := vp_lt c4
  have l1 := vp_lt c1
  obtain ⟨u, hu1, hu, hb⟩ := h.reg w3
  obtain ⟨t, ht1, ht, hc⟩ := h.reg w4
  exact s_W_takeBits (N := bN) (m := 67) rfl (by decide) hu hb ht hc (kne hK (by omega) (by omega) (by omega)) (kne hK (by omega) (by omega) (by omega)) (kne hK (by omega) (by omega) (by omega)) (kne hK (by omega) (by omega) (by omega)) (vp_eq c1 (by decide)) (by omega) hu1 ht1 (h.1 _ w3).2 (h.1 _ w4).2 (by decide) (by decide) (by decide) (by decide) (fun F' A' f1 f2 => s_K_end hK h f1 f2 c2 (h2 ok) (fun z F' A' g1 g2 _ => h0 ok z F' A' g1 g2))
def okS (p1 p2 p3 : Int32) : Prop := vp_in p1 16 ∧ vp_in p2 16 ∧ -4000 ≤ p3.toInt ∧ p3.toInt ≤ 4000
theorem s_K_shift (hK : kinj K) (h : CS K F A v n tx) {post : Int32 → gm_M → gm_M → Prop} {pe : Nat → gm_M → gm_M → Prop} (h1 : ¬ okS p1 p2 p3 → pe 1 F A) (h2 : okS p1 p2 p3 → ¬ fit (shv (v p2.toNatClampNeg) p3.toInt) → ∀ F' A', frC K F A F' A' → CS K F' A' v n tx → pe 3 F' A') (h0 : okS p1 p2 p3 → fit (shv (v p2.toNatClampNeg) p3.toInt) → ∀ F' A', frC K F A F' A' → CS K F' A' (vu v p1.toNatClampNeg (shv (v p2.toNatClampNeg) p3.toInt)) n tx → post (nI (bl (shv (v p2.toNatClampNeg) p3.toInt).natAbs)) F' A') : vc_K_shift K p1 p2 p3 F A post pe := by
  unfold vc_K_shift
  refine s_K_needRegister (fun c1 => s_K_needRegister (fun c2 => ?_) (fun z => h1 (fun y => z y.2.1))) (fun z => h1 (fun y => z y.1))
  refine pz_lt p3.toInt (-4000) (fun d => h1 (fun y => by have := y.2.2.1; omega)) (fun d1 => pz_le p3.toInt 4000 (fun d2 => ⟨c2, ?_⟩) (fun d => h1 (fun y => by have := y.2.2.2; omega)))
  have ok : okS p1 p2 p3 := ⟨c1, c2, d1, d2⟩
  have w2 := vp_lt c2
  obtain ⟨u, hu1, hu, hb⟩ := h.reg w2
  have hfx := (h.1 _ w2).2
  have ep := iZ_self p3
  generalize p3.toInt = z at *
  generalize v p2.toNatClampNeg = x at *
  refine pz_le z 0 (fun c => ?_) (fun c => ?_) (by rw [← ep]; exact iZ_t (by omega) (by omega))
  · have e : shv x z = x / 2 ^ (-z).toNat := if_neg (by omega)
    rw [e] at h2 h0
    refine s_W_takeLowered (k := (-z).toNat) hu hb (kne hK (by omega) (by omega) (by omega)) (kne hK (by omega) (by omega) (by omega)) ?_ (by omega) (by omega) (by decide) (by decide) (fun F' A' f1 f2 => s_K_endB hK h f1 f2 c1 (h2 ok) (h0 ok))
    rw [← ep, iZ_neg, iZ_nI, Int.toNat_of_nonneg (by omega)]
  · have e : shv x z = x * 2 ^ z.toNat := if_pos c
    rw [e] at h2 h0
    have ep2 : p3 = nI z.toNat := by rw [← ep, iZ_nI, Int.toNat_of_nonneg (by omega)]
    refine s_W_sign (x := x) ⟨⟨u, hu⟩, hb⟩ (by decide) ?_
    have hbl : bl x.natAbs ≤ 2048 := bl_le_iff.mpr hfx
    refine ⟨x = 0 ∨ bl x.natAbs + z.toNat ≤ 2048, ⟨fun y => ?_, fun y => ?_⟩, fun hj => ?_⟩
    · exact Or.inl (sg_0.mp y)
    · have hx0 : x ≠ 0 := fun q => y (by rw [q]; rfl)
      refine s_W_countBits hu (by decide) ?_
      rw [ep2, nI_add]
      refine pk_le (bl x.natAbs + z.toNat) 2048 (fun q => Or.inr q) (fun q => h2 ok (fun f => ?_) _ _ frC.rf h)
      unfold fit at f
      rw [Int.natAbs_mul, Int.natAbs_pow] at f
      have f := bl_le_iff.mpr f
      rw [show (2 : Int).natAbs = 2 from rfl, bl_mul2 _ (by omega)] at f
      have : bN = 2048 := rfl
      omega
    · refine s_W_takeRaised (k := z.toNat) hu hb (kne hK (by omega) (by omega) (by omega)) (kne hK (by omega) (by omega) (by omega)) ep2 (by omega) ?_ (by decide) (by decide) (fun F' A' f1 f2 => s_K_endB hK h f1 f2 c1 (h2 ok) (h0 ok))
      have q := hu.le (bl_lt x.natAbs)
      rcases hj with j | j
      · have : u = 0 := hu.pos.mpr (by omega)
        omega
      · omega
end K2
