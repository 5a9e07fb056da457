/-! the reference's state -/
def mU (K : Nat → Nat) (A : gm_M) (w : Nat) (x : Int) : Prop := ∃ c, c ≤ 128 ∧ A (K 51) w = nI c ∧ ve A (K 50) (129 * w) c ∧ (∀ t, c = t + 1 → dg A (K 50) (129 * w + t) ≠ 0) ∧ we A (K 50) (129 * w) c = x.natAbs ∧ A (K 52) w = iZ x.sign ∧ fit x
def MS (K : Nat → Nat) (F A : gm_M) (v : Nat → Int) (n : Nat) (tx : Nat → Nat) : Prop := (∀ w, w < 16 → mU K A w (v w)) ∧ n ≤ 2100 ∧ F (K 49) 1 = nI n ∧ ∀ k, k < n → A (K 53) k = nI (tx k) ∧ 32 ≤ tx k ∧ tx k ≤ 126
def frM (K : Nat → Nat) (F A F' A' : gm_M) : Prop := (∀ i, i < 49 → F' (K i) = F (K i)) ∧ F' (K 49) 1 = F (K 49) 1 ∧ ∀ i, i < 54 → A' (K i) = A (K i)
def frR (K : Nat → Nat) (F A F' A' : gm_M) : Prop := ∀ i, i < 49 → F' (K i) = F (K i) ∧ A' (K i) = A (K i)
theorem frM.r {K : Nat → Nat} {F A F' A' : gm_M} (h : frM K F A F' A') : frR K F A F' A' := fun i hi => ⟨h.1 i hi, h.2.2 i (by omega)⟩
theorem frM.rf {K : Nat → Nat} {F A : gm_M} : frM K F A F A := ⟨fun _ _ => rfl, rfl, fun _ _ => rfl⟩
theorem frM.trans {K : Nat → Nat} {F A F' A' F'' A'' : gm_M} (h : frM K F A F' A') (h' : frM K F' A' F'' A'') : frM K F A F'' A'' := ⟨fun i hi => (h'.1 i hi).trans (h.1 i hi), h'.2.1.trans h.2.1, fun i hi => (h'.2.2 i hi).trans (h.2.2 i hi)⟩
theorem frR.trans {K : Nat → Nat} {F A F' A' F'' A'' : gm_M} (h : frR K F A F' A') (h' : frR K F' A' F'' A'') : frR K F A F'' A'' := fun i hi => ⟨(h' i hi).1.trans (h i hi).1, (h' i hi).2.trans (h i hi).2⟩
theorem frM_A {K : Nat → Nat} {F A A' : gm_M} {i : Nat} (hK : kinj K) (hi : 54 ≤ i ∧ i < 64) (h : ∀ b, b ≠ K i → A' b = A b) : frM K F A F A' := ⟨fun _ _ => rfl, rfl, fun j hj => h _ (kne hK (by omega) (by omega) (by omega))⟩
theorem frM_F {K : Nat → Nat} {F A : gm_M} {s : Nat} (x : Int32) (hK : kinj K) (hs : s ≠ 1) : frM K F A (gm_up F (K 49) s x) A := ⟨fun i hi => gm_off (kne hK (by omega) (by omega) (by omega)), up_ne _ _ (fun e => hs e.symm), fun _ _ => rfl⟩
theorem mU.congr {K : Nat → Nat} {A A' : gm_M} {w : Nat} {x : Int} (h : mU K A w x) (h50 : ∀ k, k < 129 → A' (K 50) (129 * w + k) = A (K 50) (129 * w + k)) (h51 : A' (K 51) w = A (K 51) w) (h52 : A' (K 52) w = A (K 52) w) : mU K A' w x := by
  obtain ⟨c, h1, h2, h3, h4, h5, h6, h7⟩ := h
  refine ⟨c, h1, by rw [h51]; exact h2, fun k hk => ?_, fun t ht => ?_, ?_, by rw [h52]; exact h6, h7⟩
  · rw [dg_congr (h50 k (by omega)), h50 k (by omega)]; exact h3 k hk
  · rw [dg_congr (h50 t (by omega))]; exact h4 t ht
  · rw [← h5]; exact ev_congr (fun k hk => dg_congr (h50 k (by omega)))
theorem MS.scr {K : Nat → Nat} {F A F' A' : gm_M} {v : Nat → Int} {n : Nat} {tx : Nat → Nat} (h : MS K F A v n tx) (f : frM K F A F' A') : MS K F' A' v n tx :=
  ⟨fun w hw => (h.1 w hw).congr (fun k _ => by rw [f.2.2 50 (by decide)]) (by rw [f.2.2 51 (by decide)]) (by rw [f.2.2 52 (by decide)]), h.2.1, by rw [f.2.1]; exact h.2.2.1, fun k hk => by rw [f.2.2 53 (by decide)]; exact h.2.2.2 k hk⟩
theorem MS.c {K : Nat → Nat} {F A F' A' : gm_M} {v : Nat → Int} {n : Nat} {tx : Nat → Nat} (h : MS K F A v n tx) (f : frC K F A F' A') : MS K F' A' v n tx :=
  ⟨fun w hw => (h.1 w hw).congr (fun k _ => by rw [(f 50 (by decide) (by decide)).2]) (by rw [(f 51 (by decide) (by decide)).2]) (by rw [(f 52 (by decide) (by decide)).2]), h.2.1, by rw [(f 49 (by decide) (by decide)).1]; exact h.2.2.1, fun k hk => by rw [(f 53 (by decide) (by decide)).2]; exact h.2.2.2 k hk⟩
theorem CS.r {K : Nat → Nat} {F A F' A' : gm_M} {v : Nat → Int} {n : Nat} {tx : Nat → Nat} (h : CS K F A v n tx) (f : frR K F A F' A') : CS K F' A' v n tx :=
  ⟨fun w hw => ⟨(h.1 w hw).1.congr (f _ (by omega)).1 (f _ (by omega)).2, (h.1 w hw).2⟩, h.2.congr (f 2 (by decide)).1 (f 3 (by decide)).2⟩
theorem dg_cong2 {A A' : gm_M} {l l' k k' : Nat} (e : A' l' k' = A l k) : dg A' l' k' = dg A l k := by unfold dg; rw [e]
theorem bl_ev16 {d : Nat → Nat} {t : Nat} (h : ∀ k, k < t + 1 → d k < 65536) (ht : d t ≠ 0) : bl (ev 65536 d (t + 1)) = 16 * t + bl (d t) := by
  have h1 : ev 65536 d t < 65536 ^ t := ev_lt (fun k hk => h k (by omega))
  have h2 := bl_le ht
  have h3 := bl_lt (d t)
  have h4 := bl_pos ht
  have hp : 0 < 65536 ^ t := Nat.pow_pos (by decide)
  have e1 : ev 65536 d (t + 1) = ev 65536 d t + d t * 65536 ^ t := rfl
  refine bl_eq ?_ ?_ ?_
  · have := Nat.mul_le_mul_right (65536 ^ t) (show 1 ≤ d t by omega)
    omega
  · rw [show 16 * t + bl (d t) - 1 = (bl (d t) - 1) + 16 * t by omega, Nat.pow_add, ← pow16]
    have := Nat.mul_le_mul_right (65536 ^ t) h2
    omega
  · rw [Nat.add_comm (16 * t), Nat.pow_add, ← pow16]
    have := Nat.mul_le_mul_right (65536 ^ t) (show d t + 1 ≤ 2 ^ bl (d t) from h3)
    rw [Nat.add_mul] at this
    omega
section M6
variable {F A : gm_M} {K : Nat → Nat} {n : Nat} {tx : Nat → Nat} {v : Nat → Int} {a1 n1 u1 v1 : Nat} {p p1 p2 p3 p4 p5 : Int32}
theorem s_M_in (lo hi : Int) {post : Int32 → Prop} (h : ∀ r, (r = 1 ∧ lo ≤ p1.toInt ∧ p1.toInt ≤ hi) ∨ (r = 0 ∧ ¬ (lo ≤ p1.toInt ∧ p1.toInt ≤ hi)) → post r) (h2 : p2.toInt = lo := by rfl) (h3 : p3.toInt = hi := by rfl) : vc_M_in p1 p2 p3 F A post := by
  unfold vc_M_in
  exact pz_lt p1.toInt lo (fun c => h 0 (Or.inr ⟨rfl, by omega⟩)) (fun c => pz_lt hi p1.toInt (fun d => h 0 (Or.inr ⟨rfl, by omega⟩)) (fun d => h 1 (Or.inl ⟨rfl, c, d⟩)) h3 rfl) rfl h2
theorem s_M_isReg {post : Int32 → Prop} (h : ∀ r, (r = 1 ∧ vp_in p 16) ∨ (r = 0 ∧ ¬ vp_in p 16) → post r) : vc_M_isRegister p F A post := by
  unfold vc_M_isRegister
  refine s_M_in 0 15 (fun r hr => ?_)
  rcases hr with ⟨rfl, c⟩ | ⟨rfl, c⟩
  · exact ⟨Or.inr rfl, h 1 (Or.inl ⟨rfl, vp_in_iff.mpr ⟨c.1, by omega⟩⟩)⟩
  · exact ⟨Or.inl rfl, h 0 (Or.inr ⟨rfl, fun z => c (by rw [vp_in_iff] at z; omega)⟩)⟩
theorem s_M_fails {post : Int32 → gm_M → Prop} (he : F (K 49) 0 = 0) (hp : p2 ≠ 0) (h0 : p1 = 0 → post 0 F) (h1 : p1 ≠ 0 → post 1 (gm_up F (K 49) 0 p2)) : vc_M_fails K p1 p2 F A post := by
  unfold vc_M_fails
  refine ⟨fun c => ⟨fun _ => h0 c, fun z => absurd he z⟩, fun c => ⟨fun z => absurd he z, fun _ => ?_⟩⟩
  rintro _ rfl
  exact ⟨fun z => absurd ((up_at F (K 49) 0 p2).symm.trans z) hp, fun _ => h1 c⟩
theorem s_M_bits {u w : Nat} (hp : p2 = nI u) (h : aU A a1 u w) (hu : u ≤ n1) (hn : n1 ≤ 9000) {post : Int32 → Prop} (hr : post (nI (bl w))) : vc_M_bits a1 n1 p2 F A post := by
  subst hp
  unfold vc_M_bits
  refine (pk_eq u 0 (fun e => ?_) (fun e => ?_)).symm
  · rw [h.pos.mp e] at hr; exact hr
  · obtain ⟨t, rfl⟩ : ∃ t, u = t + 1 := ⟨u - 1, by omega⟩
    have hb : bl w = 16 * t + bl (dg A a1 t) := by
      rw [← h.2.2]; exact bl_ev16 (fun k hk => (h.1 k hk).2) (h.2.1 t rfl)
    have r := h.1 t (by omega)
    have hd0 := h.2.1 t rfl
    have hl := r.2
    rw [nI_m1 (by omega), Nat.add_sub_cancel, show (16 : Int32) * nI t = nI (16 * t) from pk_mul 16 t]
    rintro _ rfl
    refine ⟨pk_in t n1 (by omega), ?_⟩
    rw [nI_clamp (by omega), r.1]
    rintro _ rfl
    generalize dg A a1 t = d at *
    refine ⟨fun x y => ∃ k, x = nI (16 * t + k) ∧ y = nI (d / 2 ^ k) ∧ (k = 0 ∨ d / 2 ^ (k - 1) ≠ 0), fun _ y => y.toNatClampNeg, ⟨0, rfl, by rw [Nat.pow_zero, Nat.div_one], Or.inl rfl⟩, ?_⟩
    rintro _ _ ⟨k, rfl, rfl, hk⟩
    have hdl : d / 2 ^ k ≤ d := Nat.div_le_self _ _
    refine pk_eq (d / 2 ^ k) 0 (fun c => ?_) (fun c => ?_)
    · have hk2 : bl d = k := by
        refine bl_eq hd0 ?_ ?_
        · rcases hk with z | z
          · subst z; rw [Nat.pow_zero, Nat.div_one] at c; exact absurd c hd0
          · rcases Nat.lt_or_ge d (2 ^ (k - 1)) with y | y
            · exact absurd (Nat.div_eq_of_lt y) z
            · exact y
        · rcases Nat.lt_or_ge d (2 ^ k) with y | y
          · exact y
          · have := Nat.div_pos y (Nat.two_pow_pos k)
            rw [c] at this; exact absurd this (Nat.lt_irrefl 0)
      rw [hb, hk2] at hr; exact hr
    · rw [show j_iushr (nI (d / 2 ^ k)) (1 : Int32) = nI (d / 2 ^ k / 2) from ji_ushr 1 (by omega) (by decide)]
      rintro _ rfl _ rfl
      refine ⟨⟨k + 1, nI_s (16 * t + k), by rw [div_pow_succ], Or.inr c⟩, ?_⟩
      dsimp only
      have hpos : 0 < d / 2 ^ k := Nat.pos_of_ne_zero c
      generalize d / 2 ^ k = y at *
      rw [nI_clamp (by omega), nI_clamp (by omega)]; omega
theorem s_M_load {x : Int} (hK : kinj K) (h : mU K A p.toNatClampNeg x) (hp : vp_in p 16) {i n2 : Nat} (hi : 54 ≤ i ∧ i < 64) (hn2 : 129 ≤ n2) (hn : n2 ≤ 9000) {post : Int32 → gm_M → Prop} (hr : ∀ A' c, (∀ b, b ≠ K i → A' b = A b) → aU A' (K i) c x.natAbs → c ≤ 128 → post (nI c) A') : vc_M_load K p (K i) n2 F A post := by
  obtain ⟨c, h1, h2, h3, h4, h5, h6, h7⟩ := h
  have hw := vp_lt hp
  have hpe := vp_eq hp (by decide)
  generalize p.toNatClampNeg = w at *
  subst hpe
  unfold vc_M_load
  refine ⟨fun y A1 => ∃ k, y = nI k ∧ k ≤ c ∧ (∀ b, b ≠ K i → A1 b = A b) ∧ ∀ j, j < k → A1 (K i) j = A (K 50) (129 * w + j), fun y _ => c - y.toNatClampNeg, ⟨0, rfl, Nat.zero_le _, fun _ _ => rfl, fun j hj => absurd hj (Nat.not_lt_zero _)⟩, ?_⟩
  rintro _ A1 ⟨k, rfl, hk, f1, f2⟩
  refine ⟨hp, ?_⟩
  rw [nI_clamp (by omega), f1 (K 51) (kne hK (by omega) (by omega) (by omega)), h2]
  refine pk_le c k (fun d => ⟨hp, ?_⟩) (fun d => ?_)
  · have : k = c := by omega
    subst this
    exact hr A1 k f1 ⟨fun j hj => by rw [dg_cong2 (f2 j hj), f2 j hj]; exact h3 j hj, fun t ht => by rw [dg_cong2 (f2 t (by omega))]; exact h4 t ht, by rw [← h5]; exact ev_congr (fun j hj => dg_cong2 (f2 j hj))⟩ h1
  · rw [show (129 : Int32) * nI w = nI (129 * w) from pk_mul 129 w, nI_add]
    refine ⟨pk_in (129 * w + k) 2064 (by omega), pk_in k n2 (by omega), ?_⟩
    rw [nI_clamp (by omega), nI_clamp (by omega), f1 (K 50) (kne hK (by omega) (by omega) (by omega))]
    rintro _ rfl _ rfl
    refine ⟨⟨k + 1, nI_s k, by omega, fun b hb => by rw [gm_off hb, f1 b hb], fun j hj => ?_⟩, ?_⟩
    · by_cases e : j = k
      · subst e; exact up_at _ _ _ _
      · rw [up_ne _ _ e]; exact f2 j (by omega)
    · dsimp only
      rw [nI_s, nI_clamp (by omega), nI_clamp (by omega)]; omega
theorem s_M_size0 {x : Int} (hK : kinj K) (h : mU K A p.toNatClampNeg x) (hp : vp_in p 16) {post : Int32 → gm_M → Prop} (hr : ∀ A', (∀ b, b ≠ K 59 → A' b = A b) → post (nI (bl x.natAbs)) A') : vc_M_size0 K p F A post := by
  unfold vc_M_size0
  exact s_M_load hK h hp (by decide) (by decide) (by decide) (fun A' c f1 f2 f3 => s_M_bits rfl f2 (by omega) (by decide) (hr A' f1))
theorem s_M_keepX {x : Int} {m n3 i : Nat} (hK : kinj K) (h : MS K F A v n tx) (hp : vp_in p1 16) (he : F (K 49) 0 = 0) (hi : 54 ≤ i ∧ i < 64) (hp4 : p4 = nI m) (hm : m ≤ n3) (hn3 : n3 ≤ 9000) (hV : aV A (K i) m x.natAbs) (hs : x ≠ 0 → p2 = iZ x.sign) (hp5 : p5 ≠ 0) {post : Int32 → gm_M → gm_M → Prop} (h1 : fit x → ∀ A', (∀ b, b ≠ K 50 → b ≠ K 51 → b ≠ K 52 → A' b = A b) → MS K F A' (vu v p1.toNatClampNeg x) n tx → post 1 F A') (h0 : ¬ fit x → post 0 (gm_up F (K 49) 0 p5) A) : vc_M_keep K p1 p2 (K i) n3 p4 p5 F A post := by
  have hw := vp_lt hp
  have hpe := vp_eq hp (by decide)
  unfold vc_M_keep
  refine s_M_trim hp4 hm hn3 hV (fun u hu hau => ?_)
  refine s_M_bits rfl hau (by omega) hn3 ?_
  have hbl : bl x.natAbs ≤ 16 * u := bl_le_iff.mpr (by rw [← pow16]; exact hau.lt)
  refine ⟨fun y => (y = 0 ∧ fit x) ∨ (y = 1 ∧ ¬ fit x), pk_le (bl x.natAbs) 2048 (fun c => Or.inl ⟨rfl, bl_le_iff.mp c⟩) (fun c => Or.inr ⟨rfl, fun z => by have : bl x.natAbs ≤ 2048 := bl_le_iff.mpr z; omega⟩), ?_⟩
  intro y hy
  refine s_M_fails he hp5 (fun c => ⟨fun _ => ?_, fun z => absurd rfl z⟩) (fun c => ⟨fun z => absurd z (by decide), fun _ => ?_⟩)
  · have hf : fit x := by
      rcases hy with z | z
      · exact z.2
      · exact absurd (z.1.symm.trans c) (by decide)
    have hu128 : u ≤ 128 := by
      have := hau.le hf
      have e : bN = 2048 := rfl
      omega
    generalize p1.toNatClampNeg = w at *
    subst hpe
    refine ⟨fun y A5 => ∃ k, y = nI k ∧ k ≤ u ∧ (∀ b, b ≠ K 50 → A5 b = A b) ∧ (∀ j, j < k → A5 (K 50) (129 * w + j) = A (K i) j) ∧ (∀ j, j < 129 * w ∨ 129 * w + k ≤ j → A5 (K 50) j = A (K 50) j), fun y _ => u - y.toNatClampNeg, ⟨0, rfl, Nat.zero_le _, fun _ _ => rfl, fun j hj => absurd hj (Nat.not_lt_zero _), fun _ _ => rfl⟩, ?_⟩
    rintro _ A5 ⟨k, rfl, hk, f1, f2, f3⟩
    refine pk_le u k (fun d => ⟨hp, ?_⟩) (fun d => ?_)
    · have : k = u := by omega
      subst this
      rintro _ rfl
      have fin : ∀ q : Int32, q = iZ x.sign → post 1 F (gm_up (gm_up A5 (K 51) w (nI k)) (K 52) w q) := by
        rintro _ rfl
        have e5051 := kne hK (show 50 ≠ 51 by decide) (by decide) (by decide)
        have e5052 := kne hK (show 50 ≠ 52 by decide) (by decide) (by decide)
        have e5152 := kne hK (show 51 ≠ 52 by decide) (by decide) (by decide)
        have q50 : gm_up (gm_up A5 (K 51) w (nI k)) (K 52) w (iZ x.sign) (K 50) = A5 (K 50) := by rw [gm_off e5052, gm_off e5051]
        have qof : ∀ b, b ≠ K 50 → b ≠ K 51 → b ≠ K 52 → gm_up (gm_up A5 (K 51) w (nI k)) (K 52) w (iZ x.sign) b = A b := fun b b0 b1 b2 => by rw [gm_off b2, gm_off b1, f1 b b0]
        refine h1 hf _ qof ⟨fun w' hw' => ?_, h.2.1, h.2.2.1, fun k hk => by rw [qof _ (kne hK (by omega) (by omega) (by omega)) (kne hK (by omega) (by omega) (by omega)) (kne hK (by omega) (by omega) (by omega))]; exact h.2.2.2 k hk⟩
        by_cases e : w' = w
        · subst e
          rw [vu_at]
          have rd : ∀ j, j < k → gm_up (gm_up A5 (K 51) w' (nI k)) (K 52) w' (iZ x.sign) (K 50) (129 * w' + j) = A (K i) j := fun j hj => by rw [q50]; exact f2 j hj
          refine ⟨k, hu128, ?_, fun j hj => ?_, fun t ht => ?_, ?_, up_at _ _ _ _, hf⟩
          · rw [gm_off e5152]; exact up_at _ _ _ _
          · rw [dg_cong2 (rd j hj), rd j hj]; exact hau.1 j hj
          · rw [dg_cong2 (rd t (by omega))]; exact hau.2.1 t ht
          · rw [← hau.2.2]; exact ev_congr (fun j hj => dg_cong2 (rd j hj))
        · rw [vu_ne _ _ e]
          refine (h.1 w' hw').congr (fun j hj => ?_) ?_ ?_
          · rw [q50, f3 _ (by omega)]
          · rw [gm_off e5152, up_ne _ _ e, f1 _ e5051.symm]
          · rw [up_ne _ _ e, gm_off e5152.symm, f1 _ e5052.symm]
      refine (pk_eq k 0 (fun z => ?_) (fun z => ?_)).symm
      · refine ⟨hp, ?_⟩
        rintro _ rfl
        have : x = 0 := by have := hau.pos.mp z; omega
        exact fin 0 (by rw [this]; rfl)
      · refine ⟨hp, ?_⟩
        rintro _ rfl
        exact fin p2 (hs (fun y => z (hau.pos.mpr (by omega))))
    · rw [show (129 : Int32) * nI w = nI (129 * w) from pk_mul 129 w, nI_add]
      refine ⟨pk_in k n3 (by omega), pk_in (129 * w + k) 2064 (by omega), ?_⟩
      rw [nI_clamp (by omega), nI_clamp (by omega), f1 (K i) (kne hK (by omega) (by omega) (by omega))]
      rintro _ rfl _ rfl
      refine ⟨⟨k + 1, nI_s k, by omega, fun b hb => by rw [gm_off hb, f1 b hb], fun j hj => ?_, fun j hj => ?_⟩, ?_⟩
      · by_cases e : j = k
        · subst e; exact up_at _ _ _ _
        · rw [up_ne _ _ (by omega)]; exact f2 j (by omega)
      · rw [up_ne _ _ (by omega)]; exact f3 j (by omega)
      · dsimp only
        rw [nI_s, nI_clamp (by omega), nI_clamp (by omega)]; omega
  · refine h0 ?_
    rcases hy with z | z
    · exact absurd z.1 c
    · exact z.2
theorem frR_keep {A' : gm_M} (hK : kinj K) (f : ∀ b, b ≠ K 50 → b ≠ K 51 → b ≠ K 52 → A' b = A b) : frR K F A F A' := fun j hj => ⟨rfl, f _ (kne hK (by omega) (by omega) (by omega)) (kne hK (by omega) (by omega) (by omega)) (kne hK (by omega) (by omega) (by omega))⟩
theorem s_M_keep {x : Int} {m n3 i : Nat} (hK : kinj K) (h : MS K F A v n tx) (hp : vp_in p1 16) (he : F (K 49) 0 = 0) (hi : 54 ≤ i ∧ i < 64) (hp4 : p4 = nI m) (hm : m ≤ n3) (hn3 : n3 ≤ 9000) (hV : aV A (K i) m x.natAbs) (hs : x ≠ 0 → p2 = iZ x.sign) (hp5 : p5 ≠ 0) {post : Int32 → gm_M → gm_M → Prop} (h1 : fit x → ∀ A', frR K F A F A' → MS K F A' (vu v p1.toNatClampNeg x) n tx → post 1 F A') (h0 : ¬ fit x → post 0 (gm_up F (K 49) 0 p5) A) : vc_M_keep K p1 p2 (K i) n3 p4 p5 F A post := s_M_keepX hK h hp he hi hp4 hm hn3 hV hs hp5 (fun c A' f m' => h1 c A' (frR_keep hK f) m') h0
end M6
