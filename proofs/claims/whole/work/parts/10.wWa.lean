variable {l : Launch} {D : va_G} {cI cB cJ cW : ClassId} {Λ : gs_L} {L : Nat → Nat → Int64}
abbrev rm_W_sign : Room := { frames := 0, cells := 0, slots := 0, locals := 0 }
set_option maxHeartbeats 4000000 in
set_option maxRecDepth 100000 in
theorem w_W_sign (hlo : gs_D Λ) (a0 l0 n0 : Nat) (h0 : gW cI Λ a0 l0 n0) (F A : gm_M) (post : Int32 → Prop) (h : vc_W_sign a0 l0 n0 F A post) : Met l y_W_sign (.code y_W_sign b_W_sign 1 (some .int) :: gw_WS) rm_W_sign (va_Pc [.ref a0] (gw_P D cI cB cJ cW Λ L F A)) (gw_Qi D cI cB cJ cW Λ L (fun r F2 A2 => F = F2 ∧ A = A2 ∧ post r)) 0 0 (gw_A Λ) := by
  refine Met.ofW (cc := b_W_sign) (maxL := 1) (ret := (some .int)) (by decide) rfl ?_
  intro p e s m args below meth c s₁ B hml hv
  obtain ⟨hargs, hP, hK⟩ := hv
  have hx := B.exec
  have hb := B.bytes
  have hr := B.returns
  have hlocks := B.notSynchronized
  have htw : ∀ w ∈ gw_WS, w.before args s = true := fun w h9 => atoms_spec (ws := .code y_W_sign b_W_sign 1 (some .int) :: gw_WS) B.pre w (List.mem_cons_of_mem _ h9)
  have hown : s.vm.findClass R_W = some m.cls := findClass_of_methodNamed B.named
  have hS : va_S (gw_A Λ) s.heap s.heap [] := va_S.rf
  refine W.eq (g2 := entryFrame m ([.ref a0] : List Value).toArray 1) (by rw [hargs]) ?_
  have hl := lv_entry ([.ref a0]) (n := 1) (Nat.le_of_ble_eq_true rfl)
  rw [lg_entry_eq]
  generalize (lg_sl ([.ref a0]) ++ List.replicate (1 - (lg_sl ([.ref a0])).length) Slot.unset).toArray = ls at hl ⊢
  have hl : lv_has ls 1 [(0, .ref a0)] := hl
  generalize hQe : MQ below (gw_Qi D cI cB cJ cW Λ L (fun r F2 A2 => F = F2 ∧ A = A2 ∧ post r)) args s 0 0 (gw_A Λ) = Q
  unfold vc_W_sign at h
  refine lv_aload_n hx hb d_W_sign_0 rfl (lv_at hl 0 rfl) ?_
  refine gs_get (v := .int (F a0 1)) hx hb htw i_W hown hK hP h0.1 rfl 1 (by decide) (htw _ mm_35) rfl d_W_sign_1 ?_
  refine lv_if_ne (tgt := 11) hx hb d_W_sign_4 (by decide) (fun c_4 => ?_) (fun c_4 => ?_)
  · have h := h.1 c_4
    refine lv_aload_n hx hb d_W_sign_11 rfl (lv_at hl 0 rfl) ?_
    refine gs_get (v := .int (F a0 2)) hx hb htw i_W hown hK hP h0.1 rfl 2 (by decide) (htw _ mm_39) rfl d_W_sign_12 ?_
    refine lv_if_eq (tgt := 22) hx hb d_W_sign_15 (by decide) (fun c_15 => ?_) (fun c_15 => ?_)
    · have h := h.1 c_15
      refine lv_iconst (v := (1 : Int32)) hx hb d_W_sign_22 (by decide) ?_
      rw [← hQe]
      exact gw_iret hx hb hr hlocks hP hK hS ⟨rfl, rfl, h⟩ d_W_sign_23
    · have h := h.2 c_15
      refine lv_iconst (v := (-1 : Int32)) hx hb d_W_sign_18 (by decide) ?_
      refine lv_goto (tgt := 23) hx hb d_W_sign_19 (by decide) ?_
      rw [← hQe]
      exact gw_iret hx hb hr hlocks hP hK hS ⟨rfl, rfl, h⟩ d_W_sign_23
  · have h := h.2 c_4
    refine lv_iconst (v := (0 : Int32)) hx hb d_W_sign_7 (by decide) ?_
    refine lv_goto (tgt := 23) hx hb d_W_sign_8 (by decide) ?_
    rw [← hQe]
    exact gw_iret hx hb hr hlocks hP hK hS ⟨rfl, rfl, h⟩ d_W_sign_23
abbrev rm_W_limbAt : Room := { frames := 0, cells := 0, slots := 0, locals := 0 }
set_option maxHeartbeats 4000000 in
set_option maxRecDepth 100000 in
theorem w_W_limbAt (hlo : gs_D Λ) (a0 l0 n0 : Nat) (p1 : Int32) (h0 : gW cI Λ a0 l0 n0) (F A : gm_M) (post : Int32 → Prop) (h : vc_W_limbAt a0 l0 n0 p1 F A post) : Met l y_W_limbAt (.code y_W_limbAt b_W_limbAt 2 (some .int) :: gw_WS) rm_W_limbAt (va_Pc [.ref a0, .int p1] (gw_P D cI cB cJ cW Λ L F A)) (gw_Qi D cI cB cJ cW Λ L (fun r F2 A2 => F = F2 ∧ A = A2 ∧ post r)) 0 0 (gw_A Λ) := by
  refine Met.ofW (cc := b_W_limbAt) (maxL := 2) (ret := (some .int)) (by decide) rfl ?_
  intro p e s m args below meth c s₁ B hml hv
  obtain ⟨hargs, hP, hK⟩ := hv
  have hx := B.exec
  have hb := B.bytes
  have hr := B.returns
  have hlocks := B.notSynchronized
  have htw : ∀ w ∈ gw_WS, w.before args s = true := fun w h9 => atoms_spec (ws := .code y_W_limbAt b_W_limbAt 2 (some .int) :: gw_WS) B.pre w (List.mem_cons_of_mem _ h9)
  have hown : s.vm.findClass R_W = some m.cls := findClass_of_methodNamed B.named
  have hS : va_S (gw_A Λ) s.heap s.heap [] := va_S.rf
  refine W.eq (g2 := entryFrame m ([.ref a0, .int p1] : List Value).toArray 2) (by rw [hargs]) ?_
  have hl := lv_entry ([.ref a0, .int p1]) (n := 2) (Nat.le_of_ble_eq_true rfl)
  rw [lg_entry_eq]
  generalize (lg_sl ([.ref a0, .int p1]) ++ List.replicate (2 - (lg_sl ([.ref a0, .int p1])).length) Slot.unset).toArray = ls at hl ⊢
  have hl : lv_has ls 2 [(0, .ref a0), (1, .int p1)] := hl
  generalize hQe : MQ below (gw_Qi D cI cB cJ cW Λ L (fun r F2 A2 => F = F2 ∧ A = A2 ∧ post r)) args s 0 0 (gw_A Λ) = Q
  unfold vc_W_limbAt at h
  refine lv_iload_n hx hb d_W_limbAt_0 rfl (lv_at hl 1 rfl) ?_
  refine lv_aload_n hx hb d_W_limbAt_1 rfl (lv_at hl 0 rfl) ?_
  refine gs_get (v := .int (F a0 1)) hx hb htw i_W hown hK hP h0.1 rfl 1 (by decide) (htw _ mm_35) rfl d_W_limbAt_2 ?_
  refine lv_icmp_ge (tgt := 17) hx hb d_W_limbAt_5 (by decide) (fun c_5 => ?_) (fun c_5 => ?_)
  · have h := h.1 c_5
    refine lv_iconst (v := (0 : Int32)) hx hb d_W_limbAt_17 (by decide) ?_
    rw [← hQe]
    exact gw_iret hx hb hr hlocks hP hK hS ⟨rfl, rfl, h⟩ d_W_limbAt_18
  · have h := h.2 c_5
    refine lv_aload_n hx hb d_W_limbAt_8 rfl (lv_at hl 0 rfl) ?_
    refine gs_get (v := .ref l0) hx hb htw i_W hown hK hP h0.1 rfl 0 (by decide) (htw _ mm_33) rfl d_W_limbAt_9 ?_
    refine lv_iload_n hx hb d_W_limbAt_12 rfl (lv_at hl 1 rfl) ?_
    obtain ⟨hin, h⟩ := h
    refine gs_ild hx hb hK hP h0.2 hin d_W_limbAt_13 ?_
    refine lv_goto (tgt := 18) hx hb d_W_limbAt_14 (by decide) ?_
    rw [← hQe]
    exact gw_iret hx hb hr hlocks hP hK hS ⟨rfl, rfl, h⟩ d_W_limbAt_18
abbrev rm_W_bitsIn : Room := { frames := 0, cells := 0, slots := 0, locals := 0 }
set_option maxHeartbeats 4000000 in
set_option maxRecDepth 100000 in
theorem w_W_bitsIn (hlo : gs_D Λ) (p1 : Int32) (F A : gm_M) (post : Int32 → Prop) (h : vc_W_bitsIn p1 F A post) : Met l y_W_bitsIn (.code y_W_bitsIn b_W_bitsIn 2 (some .int) :: gw_WS) rm_W_bitsIn (va_Pc [.int p1] (gw_P D cI cB cJ cW Λ L F A)) (gw_Qi D cI cB cJ cW Λ L (fun r F2 A2 => F = F2 ∧ A = A2 ∧ post r)) 0 0 (gw_A Λ) := by
  refine Met.ofW (cc := b_W_bitsIn) (maxL := 2) (ret := (some .int)) (by decide) rfl ?_
  intro p e s m args below meth c s₁ B hml hv
  obtain ⟨hargs, hP, hK⟩ := hv
  have hx := B.exec
  have hb := B.bytes
  have hr := B.returns
  have hlocks := B.notSynchronized
  have htw : ∀ w ∈ gw_WS, w.before args s = true := fun w h9 => atoms_spec (ws := .code y_W_bitsIn b_W_bitsIn 2 (some .int) :: gw_WS) B.pre w (List.mem_cons_of_mem _ h9)
  have hown : s.vm.findClass R_W = some m.cls := findClass_of_methodNamed B.named
  have hS : va_S (gw_A Λ) s.heap s.heap [] := va_S.rf
  refine W.eq (g2 := entryFrame m ([.int p1] : List Value).toArray 2) (by rw [hargs]) ?_
  have hl := lv_entry ([.int p1]) (n := 2) (Nat.le_of_ble_eq_true rfl)
  rw [lg_entry_eq]
  generalize (lg_sl ([.int p1]) ++ List.replicate (2 - (lg_sl ([.int p1])).length) Slot.unset).toArray = ls at hl ⊢
  have hl : lv_has ls 2 [(0, .int p1)] := hl
  generalize hQe : MQ below (gw_Qi D cI cB cJ cW Λ L (fun r F2 A2 => F = F2 ∧ A = A2 ∧ post r)) args s 0 0 (gw_A Λ) = Q
  unfold vc_W_bitsIn at h
  refine lv_iconst (v := (0 : Int32)) hx hb d_W_bitsIn_0 (by decide) ?_
  refine lv_istore_n (lv' := [(1, .int (0 : Int32)), (0, .int p1)]) hx hb d_W_bitsIn_1 rfl hl (by decide) rfl (fun ls hl => ?_)
  obtain ⟨I_2, μ_2, h0_2, hs_2⟩ := h
  have loop_2 : ∀ (N : Nat) (x1_1 : Int32) (H : Heap) (locs : List Loc) (ls : Array Slot), μ_2 x1_1 < N → I_2 x1_1 → va_P D gcls (gs_ws Λ F A L) H → va_S (gw_A Λ) s.heap H locs → lv_has ls 2 [(0, .int p1), (1, .int x1_1)] → W p l e rm_W_bitsIn s m args below meth c H locs 0 0 Q (F0 m 2 ls []) := by
    intro N
    induction N with
    | zero => intro x1_1 H locs ls hμ; exact absurd hμ (Nat.not_lt_zero _)
    | succ N ih_2 =>
      intro x1_1 H locs ls hμ_2 hI hP hS hl
      have h := hs_2 x1_1 hI
      refine lv_iload_n hx hb d_W_bitsIn_2 rfl (lv_at hl 1 rfl) ?_
      refine lv_bipush (v := (31 : Int32)) hx hb d_W_bitsIn_3 (by decide) ?_
      refine lv_icmp_ge (tgt := 20) hx hb d_W_bitsIn_5 (by decide) (fun c_5 => ?_) (fun c_5 => ?_)
      · have h := h.1 c_5
        refine lv_iload_n hx hb d_W_bitsIn_20 rfl (lv_at hl 1 rfl) ?_
        rw [← hQe]
        exact gw_iret hx hb hr hlocks hP hK hS ⟨rfl, rfl, h⟩ d_W_bitsIn_21
      · have h := h.2 c_5
        refine lv_iload_n hx hb d_W_bitsIn_8 rfl (lv_at hl 0 rfl) ?_
        refine lv_iload_n hx hb d_W_bitsIn_9 rfl (lv_at hl 1 rfl) ?_
        refine lv_iushr (v := (j_iushr p1 x1_1)) hx hb d_W_bitsIn_10 rfl ?_
        refine lv_if_eq (tgt := 20) hx hb d_W_bitsIn_11 (by decide) (fun c_11 => ?_) (fun c_11 => ?_)
        · have h := h.1 c_11
          refine lv_iload_n hx hb d_W_bitsIn_20 rfl (lv_at hl 1 rfl) ?_
          rw [← hQe]
          exact gw_iret hx hb hr hlocks hP hK hS ⟨rfl, rfl, h⟩ d_W_bitsIn_21
        · have h := h.2 c_11
          obtain ⟨x1_2, ex1_2⟩ : ∃ y : Int32, y = x1_1 + (1 : Int32) := ⟨_, rfl⟩
          have h := h x1_2 ex1_2
          refine lv_iinc (v := x1_2) (lv' := [(1, .int x1_2), (0, .int p1)]) hx hb d_W_bitsIn_14 hl (k := 1) rfl (by rw [ex1_2]; rfl) (by decide) rfl (fun ls hl => ?_)
          refine lv_goto (tgt := 2) hx hb d_W_bitsIn_17 (by decide) ?_
          exact ih_2 x1_2 _ _ _ (Nat.lt_of_lt_of_le h.2 (Nat.le_of_lt_succ hμ_2)) h.1 hP hS (lv_sub hl [1, 0] rfl)
  exact loop_2 (μ_2 (0 : Int32) + 1) (0 : Int32) _ _ _ (Nat.lt_succ_self _) h0_2 hP hS (lv_sub hl [1, 0] rfl)
abbrev rm_W_countBits : Room := { frames := 1, cells := 0, slots := 0, locals := 21 }
set_option maxHeartbeats 4000000 in
set_option maxRecDepth 100000 in
theorem w_W_countBits (hlo : gs_D Λ) (a0 l0 n0 : Nat) (h0 : gW cI Λ a0 l0 n0) (F A : gm_M) (post : Int32 → Prop) (h : vc_W_countBits a0 l0 n0 F A post) : Met l y_W_countBits (.code y_W_countBits b_W_countBits 1 (some .int) :: gw_WS) rm_W_countBits (va_Pc [.ref a0] (gw_P D cI cB cJ cW Λ L F A)) (gw_Qi D cI cB cJ cW Λ L (fun r F2 A2 => F = F2 ∧ A = A2 ∧ post r)) 0 0 (gw_A Λ) := by
  refine Met.ofW (cc := b_W_countBits) (maxL := 1) (ret := (some .int)) (by decide) rfl ?_
  intro p e s m args below meth c s₁ B hml hv
  obtain ⟨hargs, hP, hK⟩ := hv
  have hx := B.exec
  have hb := B.bytes
  have hr := B.returns
  have hlocks := B.notSynchronized
  have htw : ∀ w ∈ gw_WS, w.before args s = true := fun w h9 => atoms_spec (ws := .code y_W_countBits b_W_countBits 1 (some .int) :: gw_WS) B.pre w (List.mem_cons_of_mem _ h9)
  have hown : s.vm.findClass R_W = some m.cls := findClass_of_methodNamed B.named
  have hS : va_S (gw_A Λ) s.heap s.heap [] := va_S.rf
  refine W.eq (g2 := entryFrame m ([.ref a0] : List Value).toArray 1) (by rw [hargs]) ?_
  have hl := lv_entry ([.ref a0]) (n := 1) (Nat.le_of_ble_eq_true rfl)
  rw [lg_entry_eq]
  generalize (lg_sl ([.ref a0]) ++ List.replicate (1 - (lg_sl ([.ref a0])).length) Slot.unset).toArray = ls at hl ⊢
  have hl : lv_has ls 1 [(0, .ref a0)] := hl
  generalize hQe : MQ below (gw_Qi D cI cB cJ cW Λ L (fun r F2 A2 => F = F2 ∧ A = A2 ∧ post r)) args s 0 0 (gw_A Λ) = Q
  unfold vc_W_countBits at h
  refine lv_aload_n hx hb d_W_countBits_0 rfl (lv_at hl 0 rfl) ?_
  refine gs_get (v := .int (F a0 1)) hx hb htw i_W hown hK hP h0.1 rfl 1 (by decide) (htw _ mm_35) rfl d_W_countBits_1 ?_
  refine lv_if_ne (tgt := 11) hx hb d_W_countBits_4 (by decide) (fun c_4 => ?_) (fun c_4 => ?_)
  · have h := h.1 c_4
    refine lv_aload_n hx hb d_W_countBits_11 rfl (lv_at hl 0 rfl) ?_
    refine gs_get (v := .int (F a0 1)) hx hb htw i_W hown hK hP h0.1 rfl 1 (by decide) (htw _ mm_35) rfl d_W_countBits_12 ?_
    refine lv_iconst (v := (1 : Int32)) hx hb d_W_countBits_15 (by decide) ?_
    refine lv_isub hx hb d_W_countBits_16 ?_
    refine lv_bipush (v := (31 : Int32)) hx hb d_W_countBits_17 (by decide) ?_
    refine lv_imul hx hb d_W_countBits_19 ?_
    refine lv_aload_n hx hb d_W_countBits_20 rfl (lv_at hl 0 rfl) ?_
    refine gs_get (v := .ref l0) hx hb htw i_W hown hK hP h0.1 rfl 0 (by decide) (htw _ mm_33) rfl d_W_countBits_21 ?_
    refine lv_aload_n hx hb d_W_countBits_24 rfl (lv_at hl 0 rfl) ?_
    refine gs_get (v := .int (F a0 1)) hx hb htw i_W hown hK hP h0.1 rfl 1 (by decide) (htw _ mm_35) rfl d_W_countBits_25 ?_
    refine lv_iconst (v := (1 : Int32)) hx hb d_W_countBits_28 (by decide) ?_
    refine lv_isub hx hb d_W_countBits_29 ?_
    obtain ⟨hin, h⟩ := h
    refine gs_ild hx hb hK hP h0.2 hin d_W_countBits_30 ?_
    refine gw_goi (gw_runS (As := [.int (A l0 ((F a0 1) - (1 : Int32)).toNatClampNeg)]) (rest := [.int (((F a0 1) - (1 : Int32)) * (31 : Int32))]) hx hb hml hown htw hK hP hS hl.1 (w_W_bitsIn hlo (A l0 ((F a0 1) - (1 : Int32)).toNatClampNeg) F A _ h) k_W_bitsIn mm_193 ⟨Nat.le_of_ble_eq_true rfl, Nat.le_of_ble_eq_true rfl⟩ rfl rfl rfl rfl (Nat.le_of_ble_eq_true rfl) d_W_countBits_31) hS (fun r_1 F_1 A_1 H locs hw hP hS => ?_)
    obtain ⟨rfl, hw⟩ := hw
    obtain ⟨rfl, hw⟩ := hw
    have h := hw
    refine lv_iadd hx hb d_W_countBits_34 ?_
    rw [← hQe]
    exact gw_iret hx hb hr hlocks hP hK hS ⟨rfl, rfl, h⟩ d_W_countBits_35
  · have h := h.2 c_4
    refine lv_iconst (v := (0 : Int32)) hx hb d_W_countBits_7 (by decide) ?_
    refine lv_goto (tgt := 35) hx hb d_W_countBits_8 (by decide) ?_
    rw [← hQe]
    exact gw_iret hx hb hr hlocks hP hK hS ⟨rfl, rfl, h⟩ d_W_countBits_35
abbrev rm_W_hasBit : Room := { frames := 1, cells := 0, slots := 0, locals := 21 }
set_option maxHeartbeats 4000000 in
set_option maxRecDepth 100000 in
theorem w_W_hasBit (hlo : gs_D Λ) (a0 l0 n0 : Nat) (p1 : Int32) (h0 : gW cI Λ a0 l0 n0) (F A : gm_M) (post : Int32 → Prop) (h : vc_W_hasBit a0 l0 n0 p1 F A post) : Met l y_W_hasBit (.code y_W_hasBit b_W_hasBit 2 (some .boolean) :: gw_WS) rm_W_hasBit (va_Pc [.ref a0, .int p1] (gw_P D cI cB cJ cW Λ L F A)) (gw_Qi D cI cB cJ cW Λ L (fun r F2 A2 => F = F2 ∧ A = A2 ∧ post r)) 0 0 (gw_A Λ) := by
  refine Met.ofW (cc := b_W_hasBit) (maxL := 2) (ret := (some .boolean)) (by decide) rfl ?_
  intro p e s m args below meth c s₁ B hml hv
  obtain ⟨hargs, hP, hK⟩ := hv
  have hx := B.exec
  have hb := B.bytes
  have hr := B.returns
  have hlocks := B.notSynchronized
  have htw : ∀ w ∈ gw_WS, w.before args s = true := fun w h9 => atoms_spec (ws := .code y_W_hasBit b_W_hasBit 2 (some .boolean) :: gw_WS) B.pre w (List.mem_cons_of_mem _ h9)
  have hown : s.vm.findClass R_W = some m.cls := findClass_of_methodNamed B.named
  have hS : va_S (gw_A Λ) s.heap s.heap [] := va_S.rf
  refine W.eq (g2 := entryFrame m ([.ref a0, .int p1] : List Value).toArray 2) (by rw [hargs]) ?_
  have hl := lv_entry ([.ref a0, .int p1]) (n := 2) (Nat.le_of_ble_eq_true rfl)
  rw [lg_entry_eq]
  generalize (lg_sl ([.ref a0, .int p1]) ++ List.replicate (2 - (lg_sl ([.ref a0, .int p1])).length) Slot.unset).toArray = ls at hl ⊢
  have hl : lv_has ls 2 [(0, .ref a0), (1, .int p1)] := hl
  generalize hQe : MQ below (gw_Qi D cI cB cJ cW Λ L (fun r F2 A2 => F = F2 ∧ A = A2 ∧ post r)) args s 0 0 (gw_A Λ) = Q
  unfold vc_W_hasBit at h
  refine lv_aload_n hx hb d_W_hasBit_0 rfl (lv_at hl 0 rfl) ?_
  refine lv_iload_n hx hb d_W_hasBit_1 rfl (lv_at hl 1 rfl) ?_
  refine lv_bipush (v := (31 : Int32)) hx hb d_W_hasBit_2 (by decide) ?_
  refine lv_idiv hx hb d_W_hasBit_4 (by decide) ?_
  refine gw_goi (gw_runV (As := [.int (p1 / (31 : Int32))]) (rest := []) hx hb hml hown htw hK hP hS hl.1 (w_W_limbAt hlo a0 l0 n0 (p1 / (31 : Int32)) ⟨h0.1, h0.2⟩ F A _ h) k_W_limbAt mm_416 ⟨Nat.le_of_ble_eq_true rfl, Nat.le_of_ble_eq_true rfl⟩ rfl rfl h0.1 rfl rfl rfl (Nat.le_of_ble_eq_true rfl) d_W_hasBit_5) hS (fun r_1 F_1 A_1 H locs hw hP hS => ?_)
  obtain ⟨rfl, hw⟩ := hw
  obtain ⟨rfl, hw⟩ := hw
  have h := hw
  refine lv_iload_n hx hb d_W_hasBit_8 rfl (lv_at hl 1 rfl) ?_
  refine lv_bipush (v := (31 : Int32)) hx hb d_W_hasBit_9 (by decide) ?_
  refine lv_irem hx hb d_W_hasBit_11 (by decide) ?_
  refine lv_iushr (v := (j_iushr r_1 (p1 - p1 / (31 : Int32) * (31 : Int32)))) hx hb d_W_hasBit_12 rfl ?_
  refine lv_iconst (v := (1 : Int32)) hx hb d_W_hasBit_13 (by decide) ?_
  refine lv_iand hx hb d_W_hasBit_14 ?_
  refine lv_iconst (v := (1 : Int32)) hx hb d_W_hasBit_15 (by decide) ?_
  refine lv_icmp_ne (tgt := 23) hx hb d_W_hasBit_16 (by decide) (fun c_16 => ?_) (fun c_16 => ?_)
  · have h := h.1 c_16
    refine lv_iconst (v := (0 : Int32)) hx hb d_W_hasBit_23 (by decide) ?_
    rw [← hQe]
    exact gw_zret hx hb hr hlocks hP hK hS (by decide) ⟨rfl, rfl, h⟩ d_W_hasBit_24
  · have h := h.2 c_16
    refine lv_iconst (v := (1 : Int32)) hx hb d_W_hasBit_19 (by decide) ?_
    refine lv_goto (tgt := 24) hx hb d_W_hasBit_20 (by decide) ?_
    rw [← hQe]
    exact gw_zret hx hb hr hlocks hP hK hS (by decide) ⟨rfl, rfl, h⟩ d_W_hasBit_24
abbrev rm_W_setBelow : Room := { frames := 0, cells := 0, slots := 0, locals := 0 }
set_option maxHeartbeats 4000000 in
set_option maxRecDepth 100000 in
theorem w_W_setBelow (hlo : gs_D Λ) (a0 l0 n0 : Nat) (p1 : Int32) (h0 : gW cI Λ a0 l0 n0) (F A : gm_M) (post : gm_M → Prop) (h : vc_W_setBelow a0 l0 n0 p1 F A post) : Met l y_W_setBelow (.code y_W_setBelow b_W_setBelow 2 none :: gw_WS) rm_W_setBelow (va_Pc [.ref a0, .int p1] (gw_P D cI cB cJ cW Λ L F A)) (gw_Qv D cI cB cJ cW Λ L (fun F2 A2 => A = A2 ∧ post F2)) 0 0 (gw_A Λ) := by
  refine Met.ofW (cc := b_W_setBelow) (maxL := 2) (ret := none) (by decide) rfl ?_
  intro p e s m args below meth c s₁ B hml hv
  obtain ⟨hargs, hP, hK⟩ := hv
  have hx := B.exec
  have hb := B.bytes
  have hr := B.returns
  have hlocks := B.notSynchronized
  have htw : ∀ w ∈ gw_WS, w.before args s = true := fun w h9 => atoms_spec (ws := .code y_W_setBelow b_W_setBelow 2 none :: gw_WS) B.pre w (List.mem_cons_of_mem _ h9)
  have hown : s.vm.findClass R_W = some m.cls := findClass_of_methodNamed B.named
  have hS : va_S (gw_A Λ) s.heap s.heap [] := va_S.rf
  refine W.eq (g2 := entryFrame m ([.ref a0, .int p1] : List Value).toArray 2) (by rw [hargs]) ?_
  have hl := lv_entry ([.ref a0, .int p1]) (n := 2) (Nat.le_of_ble_eq_true rfl)
  rw [lg_entry_eq]
  generalize (lg_sl ([.ref a0, .int p1]) ++ List.replicate (2 - (lg_sl ([.ref a0, .int p1])).length) Slot.unset).toArray = ls at hl ⊢
  have hl : lv_has ls 2 [(0, .ref a0), (1, .int p1)] := hl
  generalize hQe : MQ below (gw_Qv D cI cB cJ cW Λ L (fun F2 A2 => A = A2 ∧ post F2)) args s 0 0 (gw_A Λ) = Q
  unfold vc_W_setBelow at h
  refine lv_aload_n hx hb d_W_setBelow_0 rfl (lv_at hl 0 rfl) ?_
  refine lv_iload_n hx hb d_W_setBelow_1 rfl (lv_at hl 1 rfl) ?_
  refine lv_if_eq (tgt := 16) hx hb d_W_setBelow_2 (by decide) (fun c_2 => ?_) (fun c_2 => ?_)
  · have h := h.1 c_2
    refine lv_iconst (v := (0 : Int32)) hx hb d_W_setBelow_16 (by decide) ?_
    refine gs_put (ty := .boolean) hx hb htw i_W tf_W tf_W_ok n_W hown hK hlo hP hS h0.1 rfl 2 (by decide) rfl (htw _ mm_39) rfl (by decide +kernel) rfl rfl d_W_setBelow_17 (fun F_1 eF_1 H locs hP hS => ?_)
    have h := h F_1 eF_1
    rw [← hQe]
    exact gw_vret hx hb hr hlocks hP hK hS ⟨rfl, h⟩ d_W_setBelow_20
  · have h := h.2 c_2
    refine lv_aload_n hx hb d_W_setBelow_5 rfl (lv_at hl 0 rfl) ?_
    refine gs_get (v := .int (F a0 1)) hx hb htw i_W hown hK hP h0.1 rfl 1 (by decide) (htw _ mm_35) rfl d_W_setBelow_6 ?_
    refine lv_if_le (tgt := 16) hx hb d_W_setBelow_9 (by decide) (fun c_9 => ?_) (fun c_9 => ?_)
    · have h := h.1 c_9
      refine lv_iconst (v := (0 : Int32)) hx hb d_W_setBelow_16 (by decide) ?_
      refine gs_put (ty := .boolean) hx hb htw i_W tf_W tf_W_ok n_W hown hK hlo hP hS h0.1 rfl 2 (by decide) rfl (htw _ mm_39) rfl (by decide +kernel) rfl rfl d_W_setBelow_17 (fun F_2 eF_2 H locs hP hS => ?_)
      have h := h F_2 eF_2
      rw [← hQe]
      exact gw_vret hx hb hr hlocks hP hK hS ⟨rfl, h⟩ d_W_setBelow_20
    · have h := h.2 c_9
      refine lv_iconst (v := (1 : Int32)) hx hb d_W_setBelow_12 (by decide) ?_
      refine lv_goto (tgt := 17) hx hb d_W_setBelow_13 (by decide) ?_
      refine gs_put (ty := .boolean) hx hb htw i_W tf_W tf_W_ok n_W hown hK hlo hP hS h0.1 rfl 2 (by decide) rfl (htw _ mm_39) rfl (by decide +kernel) rfl rfl d_W_setBelow_17 (fun F_3 eF_3 H locs hP hS => ?_)
      have h := h F_3 eF_3
      rw [← hQe]
      exact gw_vret hx hb hr hlocks hP hK hS ⟨rfl, h⟩ d_W_setBelow_20
abbrev rm_W_trim : Room := { frames := 1, cells := 0, slots := 0, locals := 21 }
set_option maxHeartbeats 4000000 in
set_option maxRecDepth 100000 in
theorem w_W_trim (hlo : gs_D Λ) (a0 l0 n0 : Nat) (p1 : Int32) (h0 : gW cI Λ a0 l0 n0) (F A : gm_M) (post : gm_M → Prop) (h : vc_W_trim a0 l0 n0 p1 F A post) : Met l y_W_trim (.code y_W_trim b_W_trim 2 none :: gw_WS) rm_W_trim (va_Pc [.ref a0, .int p1] (gw_P D cI cB cJ cW Λ L F A)) (gw_Qv D cI cB cJ cW Λ L (fun F2 A2 => A = A2 ∧ post F2)) 0 0 (gw_A Λ) := by
  refine Met.ofW (cc := b_W_trim) (maxL := 2) (ret := none) (by decide) rfl ?_
  intro p e s m args below meth c s₁ B hml hv
  obtain ⟨hargs, hP, hK⟩ := hv
  have hx := B.exec
  have hb := B.bytes
  have hr := B.returns
  have hlocks := B.notSynchronized
  have htw : ∀ w ∈ gw_WS, w.before args s = true := fun w h9 => atoms_spec (ws := .code y_W_trim b_W_trim 2 none :: gw_WS) B.pre w (List.mem_cons_of_mem _ h9)
  have hown : s.vm.findClass R_W = some m.cls := findClass_of_methodNamed B.named
  have hS : va_S (gw_A Λ) s.heap s.heap [] := va_S.rf
  refine W.eq (g2 := entryFrame m ([.ref a0, .int p1] : List Value).toArray 2) (by rw [hargs]) ?_
  have hl := lv_entry ([.ref a0, .int p1]) (n := 2) (Nat.le_of_ble_eq_true rfl)
  rw [lg_entry_eq]
  generalize (lg_sl ([.ref a0, .int p1]) ++ List.replicate (2 - (lg_sl ([.ref a0, .int p1])).length) Slot.unset).toArray = ls at hl ⊢
  have hl : lv_has ls 2 [(0, .ref a0), (1, .int p1)] := hl
  generalize hQe : MQ below (gw_Qv D cI cB cJ cW Λ L (fun F2 A2 => A = A2 ∧ post F2)) args s 0 0 (gw_A Λ) = Q
  unfold vc_W_trim at h
  refine lv_aload_n hx hb d_W_trim_0 rfl (lv_at hl 0 rfl) ?_
  refine lv_iload_n hx hb d_W_trim_1 rfl (lv_at hl 1 rfl) ?_
  refine gs_put (ty := .int) hx hb htw i_W tf_W tf_W_ok n_W hown hK hlo hP hS h0.1 rfl 1 (by decide) rfl (htw _ mm_35) rfl (by decide +kernel) rfl rfl d_W_trim_2 (fun F_1 eF_1 H locs hP hS => ?_)
  have h := h F_1 eF_1
  obtain ⟨I_5, μ_5, h0_5, hs_5⟩ := h
  have loop_5 : ∀ (N : Nat) (F_2 : gm_M) (H : Heap) (locs : List Loc) (ls : Array Slot), μ_5 F_2 < N → I_5 F_2 → va_P D gcls (gs_ws Λ F_2 A L) H → va_S (gw_A Λ) s.heap H locs → lv_has ls 2 [(0, .ref a0)] → W p l e rm_W_trim s m args below meth c H locs 0 0 Q (F0 m 5 ls []) := by
    intro N
    induction N with
    | zero => intro F_2 H locs ls hμ; exact absurd hμ (Nat.not_lt_zero _)
    | succ N ih_5 =>
      intro F_2 H locs ls hμ_5 hI hP hS hl
      have h := hs_5 F_2 hI
      refine lv_aload_n hx hb d_W_trim_5 rfl (lv_at hl 0 rfl) ?_
      refine gs_get (v := .int (F_2 a0 1)) hx hb htw i_W hown hK hP h0.1 rfl 1 (by decide) (htw _ mm_35) rfl d_W_trim_6 ?_
      refine lv_if_le (tgt := 39) hx hb d_W_trim_9 (by decide) (fun c_9 => ?_) (fun c_9 => ?_)
      · have h := h.1 c_9
        refine lv_aload_n hx hb d_W_trim_39 rfl (lv_at hl 0 rfl) ?_
        refine lv_aload_n hx hb d_W_trim_40 rfl (lv_at hl 0 rfl) ?_
        refine gs_get (v := .int (F_2 a0 2)) hx hb htw i_W hown hK hP h0.1 rfl 2 (by decide) (htw _ mm_39) rfl d_W_trim_41 ?_
        refine gw_gov (gw_runV (As := [.int (F_2 a0 2)]) (rest := []) hx hb hml hown htw hK hP hS hl.1 (w_W_setBelow hlo a0 l0 n0 (F_2 a0 2) ⟨h0.1, h0.2⟩ F_2 A _ h) k_W_setBelow mm_205 ⟨Nat.le_of_ble_eq_true rfl, Nat.le_of_ble_eq_true rfl⟩ rfl rfl h0.1 rfl rfl rfl (Nat.le_of_ble_eq_true rfl) d_W_trim_44) hS (fun F_3 A_3 H locs hw hP hS => ?_)
        obtain ⟨rfl, hw⟩ := hw
        have h := hw
        rw [← hQe]
        exact gw_vret hx hb hr hlocks hP hK hS ⟨rfl, h⟩ d_W_trim_47
      · have h := h.2 c_9
        refine lv_aload_n hx hb d_W_trim_12 rfl (lv_at hl 0 rfl) ?_
        refine gs_get (v := .ref l0) hx hb htw i_W hown hK hP h0.1 rfl 0 (by decide) (htw _ mm_33) rfl d_W_trim_13 ?_
        refine lv_aload_n hx hb d_W_trim_16 rfl (lv_at hl 0 rfl) ?_
        refine gs_get (v := .int (F_2 a0 1)) hx hb htw i_W hown hK hP h0.1 rfl 1 (by decide) (htw _ mm_35) rfl d_W_trim_17 ?_
        refine lv_iconst (v := (1 : Int32)) hx hb d_W_trim_20 (by decide) ?_
        refine lv_isub hx hb d_W_trim_21 ?_
        obtain ⟨hin, h⟩ := h
        refine gs_ild hx hb hK hP h0.2 hin d_W_trim_22 ?_
        refine lv_if_ne (tgt := 39) hx hb d_W_trim_23 (by decide) (fun c_23 => ?_) (fun c_23 => ?_)
        · have h := h.1 c_23
          refine lv_aload_n hx hb d_W_trim_39 rfl (lv_at hl 0 rfl) ?_
          refine lv_aload_n hx hb d_W_trim_40 rfl (lv_at hl 0 rfl) ?_
          refine gs_get (v := .int (F_2 a0 2)) hx hb htw i_W hown hK hP h0.1 rfl 2 (by decide) (htw _ mm_39) rfl d_W_trim_41 ?_
          refine gw_gov (gw_runV (As := [.int (F_2 a0 2)]) (rest := []) hx hb hml hown htw hK hP hS hl.1 (w_W_setBelow hlo a0 l0 n0 (F_2 a0 2) ⟨h0.1, h0.2⟩ F_2 A _ h) k_W_setBelow mm_205 ⟨Nat.le_of_ble_eq_true rfl, Nat.le_of_ble_eq_true rfl⟩ rfl rfl h0.1 rfl rfl rfl (Nat.le_of_ble_eq_true rfl) d_W_trim_44) hS (fun F_4 A_4 H locs hw hP hS => ?_)
          obtain ⟨rfl, hw⟩ := hw
          have h := hw
          rw [← hQe]
          exact gw_vret hx hb hr hlocks hP hK hS ⟨rfl, h⟩ d_W_trim_47
        · have h := h.2 c_23
          refine lv_aload_n hx hb d_W_trim_26 rfl (lv_at hl 0 rfl) ?_
          refine lv_dup hx hb d_W_trim_27 rfl ?_
          refine gs_get (v := .int (F_2 a0 1)) hx hb htw i_W hown hK hP h0.1 rfl 1 (by decide) (htw _ mm_35) rfl d_W_trim_28 ?_
          refine lv_iconst (v := (1 : Int32)) hx hb d_W_trim_31 (by decide) ?_
          refine lv_isub hx hb d_W_trim_32 ?_
          refine gs_put (ty := .int) hx hb htw i_W tf_W tf_W_ok n_W hown hK hlo hP hS h0.1 rfl 1 (by decide) rfl (htw _ mm_35) rfl (by decide +kernel) rfl rfl d_W_trim_33 (fun F_5 eF_5 H locs hP hS => ?_)
          have h := h F_5 eF_5
          refine lv_goto (tgt := 5) hx hb d_W_trim_36 (by decide) ?_
          exact ih_5 F_5 _ _ _ (Nat.lt_of_lt_of_le h.2 (Nat.le_of_lt_succ hμ_5)) h.1 hP hS hl
  exact loop_5 (μ_5 F_1 + 1) F_1 _ _ _ (Nat.lt_succ_self _) h0_5 hP hS (lv_sub hl [0] rfl)
abbrev rm_W_takeLong : Room := { frames := 2, cells := 0, slots := 0, locals := 42 }
set_option maxHeartbeats 4000000 in
set_option maxRecDepth 100000 in
theorem w_W_takeLong (hlo : gs_D Λ) (a0 l0 n0 : Nat) (p1 : Int64) (h0 : gW cI Λ a0 l0 n0) (F A : gm_M) (post : gm_M → gm_M → Prop) (h : vc_W_takeLong a0 l0 n0 p1 F A post) : Met l y_W_takeLong (.code y_W_takeLong b_W_takeLong 5 none :: gw_WS) rm_W_takeLong (va_Pc [.ref a0, .long p1] (gw_P D cI cB cJ cW Λ L F A)) (gw_Qv D cI cB cJ cW Λ L (fun F2 A2 => post F2 A2)) 0 0 (gw_A Λ) := by
  refine Met.ofW (cc := b_W_takeLong) (maxL := 5) (ret := none) (by decide) rfl ?_
  intro p e s m args below meth c s₁ B hml hv
  obtain ⟨hargs, hP, hK⟩ := hv
  have hx := B.exec
  have hb := B.bytes
  have hr := B.returns
  have hlocks := B.notSynchronized
  have htw : ∀ w ∈ gw_WS, w.before args s = true := fun w h9 => atoms_spec (ws := .code y_W_takeLong b_W_takeLong 5 none :: gw_WS) B.pre w (List.mem_cons_of_mem _ h9)
  have hown : s.vm.findClass R_W = some m.cls := findClass_of_methodNamed B.named
  have hS : va_S (gw_A Λ) s.heap s.heap [] := va_S.rf
  refine W.eq (g2 := entryFrame m ([.ref a0, .long p1] : List Value).toArray 5) (by rw [hargs]) ?_
  have hl := lv_entry ([.ref a0, .long p1]) (n := 5) (Nat.le_of_ble_eq_true rfl)
  rw [lg_entry_eq]
  generalize (lg_sl ([.ref a0, .long p1]) ++ List.replicate (5 - (lg_sl ([.ref a0, .long p1])).length) Slot.unset).toArray = ls at hl ⊢
  have hl : lv_has ls 5 [(0, .ref a0), (1, .long p1)] := hl
  generalize hQe : MQ below (gw_Qv D cI cB cJ cW Λ L (fun F2 A2 => post F2 A2)) args s 0 0 (gw_A Λ) = Q
  unfold vc_W_takeLong at h
  refine lv_lload_n hx hb d_W_takeLong_0 rfl (lv_at hl 1 rfl) ?_
  refine lv_lconst (v := (0 : Int64)) hx hb d_W_takeLong_1 (by decide) ?_
  obtain ⟨J_12, h, hj_12⟩ := h
  have join_12 : ∀ (v0_1 : Int64) (H : Heap) (locs : List Loc) (ls : Array Slot), J_12 v0_1 → va_P D gcls (gs_ws Λ F A L) H → va_S (gw_A Λ) s.heap H locs → lv_has ls 5 [(0, .ref a0), (1, .long p1)] → W p l e rm_W_takeLong s m args below meth c H locs 0 0 Q (F0 m 12 ls [.long v0_1]) := by
    intro v0_1 H locs ls hJ hP hS hl
    have h := hj_12 v0_1 hJ
    refine lv_lstore_n (lv' := [(3, .long v0_1), (0, .ref a0), (1, .long p1)]) hx hb d_W_takeLong_12 rfl hl (by decide) rfl (fun ls hl => ?_)
    refine lv_aload_n hx hb d_W_takeLong_13 rfl (lv_at hl 1 rfl) ?_
    refine gs_get (v := .ref l0) hx hb htw i_W hown hK hP h0.1 rfl 0 (by decide) (htw _ mm_33) rfl d_W_takeLong_14 ?_
    refine lv_iconst (v := (0 : Int32)) hx hb d_W_takeLong_17 (by decide) ?_
    refine lv_lload_n hx hb d_W_takeLong_18 rfl (lv_at hl 0 rfl) ?_
    refine lv_ldc2 (v := (2147483647 : Int64)) hx hb hown (htw _ mm_200) d_W_takeLong_19 ?_
    refine lv_land hx hb d_W_takeLong_22 ?_
    refine lv_l2i (v := ((v0_1 &&& (2147483647 : Int64)).toInt32)) hx hb d_W_takeLong_23 (by rfl) ?_
    obtain ⟨hin, h⟩ := h
    refine gs_ist hx hb hK hlo hP hS h0.2 hin d_W_takeLong_24 (fun A_2 eA_2 H locs hP hS => ?_)
    have h := h A_2 eA_2
    refine lv_aload_n hx hb d_W_takeLong_25 rfl (lv_at hl 1 rfl) ?_
    refine gs_get (v := .ref l0) hx hb htw i_W hown hK hP h0.1 rfl 0 (by decide) (htw _ mm_33) rfl d_W_takeLong_26 ?_
    refine lv_iconst (v := (1 : Int32)) hx hb d_W_takeLong_29 (by decide) ?_
    refine lv_lload_n hx hb d_W_takeLong_30 rfl (lv_at hl 0 rfl) ?_
    refine lv_bipush (v := (31 : Int32)) hx hb d_W_takeLong_31 (by decide) ?_
    refine lv_lushr (v := (j_lushr v0_1 (31 : Int32))) hx hb d_W_takeLong_33 rfl ?_
    refine lv_ldc2 (v := (2147483647 : Int64)) hx hb hown (htw _ mm_200) d_W_takeLong_34 ?_
    refine lv_land hx hb d_W_takeLong_37 ?_
    refine lv_l2i (v := (((j_lushr v0_1 (31 : Int32)) &&& (2147483647 : Int64)).toInt32)) hx hb d_W_takeLong_38 (by rfl) ?_
    obtain ⟨hin, h⟩ := h
    refine gs_ist hx hb hK hlo hP hS h0.2 hin d_W_takeLong_39 (fun A_3 eA_3 H locs hP hS => ?_)
    have h := h A_3 eA_3
    refine lv_aload_n hx hb d_W_takeLong_40 rfl (lv_at hl 1 rfl) ?_
    refine gs_get (v := .ref l0) hx hb htw i_W hown hK hP h0.1 rfl 0 (by decide) (htw _ mm_33) rfl d_W_takeLong_41 ?_
    refine lv_iconst (v := (2 : Int32)) hx hb d_W_takeLong_44 (by decide) ?_
    refine lv_lload_n hx hb d_W_takeLong_45 rfl (lv_at hl 0 rfl) ?_
    refine lv_bipush (v := (62 : Int32)) hx hb d_W_takeLong_46 (by decide) ?_
    refine lv_lushr (v := (j_lushr v0_1 (62 : Int32))) hx hb d_W_takeLong_48 rfl ?_
    refine lv_l2i (v := ((j_lushr v0_1 (62 : Int32)).toInt32)) hx hb d_W_takeLong_49 (by rfl) ?_
    obtain ⟨hin, h⟩ := h
    refine gs_ist hx hb hK hlo hP hS h0.2 hin d_W_takeLong_50 (fun A_4 eA_4 H locs hP hS => ?_)
    have h := h A_4 eA_4
    refine lv_aload_n hx hb d_W_takeLong_51 rfl (lv_at hl 1 rfl) ?_
    refine lv_lload_n hx hb d_W_takeLong_52 rfl (lv_at hl 2 rfl) ?_
    refine lv_lconst (v := (0 : Int64)) hx hb d_W_takeLong_53 (by decide) ?_
    refine gl_ge (tgt := 62) hx hb d_W_takeLong_54 d_W_takeLong_55 (by decide) (fun c_55 => ?_) (fun c_55 => ?_)
    · have h := h.1 c_55
      refine lv_iconst (v := (0 : Int32)) hx hb d_W_takeLong_62 (by decide) ?_
      refine gs_put (ty := .boolean) hx hb htw i_W tf_W tf_W_ok n_W hown hK hlo hP hS h0.1 rfl 2 (by decide) rfl (htw _ mm_39) rfl (by decide +kernel) rfl rfl d_W_takeLong_63 (fun F_5 eF_5 H locs hP hS => ?_)
      have h := h F_5 eF_5
      refine lv_aload_n hx hb d_W_takeLong_66 rfl (lv_at hl 1 rfl) ?_
      refine lv_iconst (v := (3 : Int32)) hx hb d_W_takeLong_67 (by decide) ?_
      refine gw_gov (gw_runV (As := [.int (3 : Int32)]) (rest := []) hx hb hml hown htw hK hP hS hl.1 (w_W_trim hlo a0 l0 n0 (3 : Int32) ⟨h0.1, h0.2⟩ F_5 A_4 _ h) k_W_trim mm_201 ⟨Nat.le_of_ble_eq_true rfl, Nat.le_of_ble_eq_true rfl⟩ rfl rfl h0.1 rfl rfl rfl (Nat.le_of_ble_eq_true rfl) d_W_takeLong_68) hS (fun F_6 A_6 H locs hw hP hS => ?_)
      obtain ⟨rfl, hw⟩ := hw
      have h := hw
      rw [← hQe]
      exact gw_vret hx hb hr hlocks hP hK hS h d_W_takeLong_71
    · have h := h.2 c_55
      refine lv_iconst (v := (1 : Int32)) hx hb d_W_takeLong_58 (by decide) ?_
      refine lv_goto (tgt := 63) hx hb d_W_takeLong_59 (by decide) ?_
      refine gs_put (ty := .boolean) hx hb htw i_W tf_W tf_W_ok n_W hown hK hlo hP hS h0.1 rfl 2 (by decide) rfl (htw _ mm_39) rfl (by decide +kernel) rfl rfl d_W_takeLong_63 (fun F_7 eF_7 H locs hP hS => ?_)
      have h := h F_7 eF_7
      refine lv_aload_n hx hb d_W_takeLong_66 rfl (lv_at hl 1 rfl) ?_
      refine lv_iconst (v := (3 : Int32)) hx hb d_W_takeLong_67 (by decide) ?_
      refine gw_gov (gw_runV (As := [.int (3 : Int32)]) (rest := []) hx hb hml hown htw hK hP hS hl.1 (w_W_trim hlo a0 l0 n0 (3 : Int32) ⟨h0.1, h0.2⟩ F_7 A_4 _ h) k_W_trim mm_201 ⟨Nat.le_of_ble_eq_true rfl, Nat.le_of_ble_eq_true rfl⟩ rfl rfl h0.1 rfl rfl rfl (Nat.le_of_ble_eq_true rfl) d_W_takeLong_68) hS (fun F_8 A_8 H locs hw hP hS => ?_)
      obtain ⟨rfl, hw⟩ := hw
      have h := hw
      rw [← hQe]
      exact gw_vret hx hb hr hlocks hP hK hS h d_W_takeLong_71
  refine gl_ge (tgt := 11) hx hb d_W_takeLong_2 d_W_takeLong_3 (by decide) (fun c_3 => ?_) (fun c_3 => ?_)
  · have h := h.1 c_3
    refine lv_lload_n hx hb d_W_takeLong_11 rfl (lv_at hl 1 rfl) ?_
    exact join_12 p1 _ _ _ h hP hS hl
  · have h := h.2 c_3
    refine lv_lload_n hx hb d_W_takeLong_6 rfl (lv_at hl 1 rfl) ?_
    refine lv_lneg hx hb d_W_takeLong_7 ?_
    refine lv_goto (tgt := 12) hx hb d_W_takeLong_8 (by decide) ?_
    exact join_12 (-p1) _ _ _ h hP hS hl
abbrev rm_W_takeCopy : Room := { frames := 1, cells := 0, slots := 0, locals := 60 }
set_option maxHeartbeats 4000000 in
set_option maxRecDepth 100000 in
theorem w_W_takeCopy (hlo : gs_D Λ) (a0 l0 n0 : Nat) (a1 l1 n1 : Nat) (h0 : gW cI Λ a0 l0 n0) (h1 : gW cI Λ a1 l1 n1) (F A : gm_M) (post : gm_M → gm_M → Prop) (h : vc_W_takeCopy a0 l0 n0 a1 l1 n1 F A post) : Met l y_W_takeCopy (.code y_W_takeCopy b_W_takeCopy 2 none :: gw_WS) rm_W_takeCopy (va_Pc [.ref a0, .ref a1] (gw_P D cI cB cJ cW Λ L F A)) (gw_Qv D cI cB cJ cW Λ L (fun F2 A2 => post F2 A2)) 0 0 (gw_A Λ) := by
  refine Met.ofW (cc := b_W_takeCopy) (maxL := 2) (ret := none) (by decide) rfl ?_
  intro p e s m args below meth c s₁ B hml hv
  obtain ⟨hargs, hP, hK⟩ := hv
  have hx := B.exec
  have hb := B.bytes
  have hr := B.returns
  have hlocks := B.notSynchronized
  have htw : ∀ w ∈ gw_WS, w.before args s = true := fun w h9 => atoms_spec (ws := .code y_W_takeCopy b_W_takeCopy 2 none :: gw_WS) B.pre w (List.mem_cons_of_mem _ h9)
  have hown : s.vm.findClass R_W = some m.cls := findClass_of_methodNamed B.named
  have hS : va_S (gw_A Λ) s.heap s.heap [] := va_S.rf
  refine W.eq (g2 := entryFrame m ([.ref a0, .ref a1] : List Value).toArray 2) (by rw [hargs]) ?_
  have hl := lv_entry ([.ref a0, .ref a1]) (n := 2) (Nat.le_of_ble_eq_true rfl)
  rw [lg_entry_eq]
  generalize (lg_sl ([.ref a0, .ref a1]) ++ List.replicate (2 - (lg_sl ([.ref a0, .ref a1])).length) Slot.unset).toArray = ls at hl ⊢
  have hl : lv_has ls 2 [(0, .ref a0), (1, .ref a1)] := hl
  generalize hQe : MQ below (gw_Qv D cI cB cJ cW Λ L (fun F2 A2 => post F2 A2)) args s 0 0 (gw_A Λ) = Q
  unfold vc_W_takeCopy at h
  refine lv_aload_n hx hb d_W_takeCopy_0 rfl (lv_at hl 1 rfl) ?_
  refine gs_get (v := .ref l1) hx hb htw i_W hown hK hP h1.1 rfl 0 (by decide) (htw _ mm_33) rfl d_W_takeCopy_1 ?_
  refine lv_iconst (v := (0 : Int32)) hx hb d_W_takeCopy_4 (by decide) ?_
  refine lv_aload_n hx hb d_W_takeCopy_5 rfl (lv_at hl 0 rfl) ?_
  refine gs_get (v := .ref l0) hx hb htw i_W hown hK hP h0.1 rfl 0 (by decide) (htw _ mm_33) rfl d_W_takeCopy_6 ?_
  refine lv_iconst (v := (0 : Int32)) hx hb d_W_takeCopy_9 (by decide) ?_
  refine lv_aload_n hx hb d_W_takeCopy_10 rfl (lv_at hl 1 rfl) ?_
  refine gs_get (v := .int (F a1 1)) hx hb htw i_W hown hK hP h1.1 rfl 1 (by decide) (htw _ mm_35) rfl d_W_takeCopy_11 ?_
  obtain ⟨hc0, hc1, hc2, h⟩ := h
  refine gs_copy hx hb (by rw [hml, hl.1]) hown (htw _ mm_309) (htw _ mc_native) (htw _ mc_static) (htw _ mc_ini) hK hlo hP hS h1.2 h0.2 hc0 hc1 hc2 (Nat.le_of_ble_eq_true rfl) (Nat.le_of_ble_eq_true rfl) d_W_takeCopy_14 (fun A_1 eA_1 H locs hP hS => ?_)
  have h := h A_1 eA_1
  refine lv_aload_n hx hb d_W_takeCopy_17 rfl (lv_at hl 0 rfl) ?_
  refine lv_aload_n hx hb d_W_takeCopy_18 rfl (lv_at hl 1 rfl) ?_
  refine gs_get (v := .int (F a1 1)) hx hb htw i_W hown hK hP h1.1 rfl 1 (by decide) (htw _ mm_35) rfl d_W_takeCopy_19 ?_
  refine gs_put (ty := .int) hx hb htw i_W tf_W tf_W_ok n_W hown hK hlo hP hS h0.1 rfl 1 (by decide) rfl (htw _ mm_35) rfl (by decide +kernel) rfl rfl d_W_takeCopy_22 (fun F_2 eF_2 H locs hP hS => ?_)
  have h := h F_2 eF_2
  refine lv_aload_n hx hb d_W_takeCopy_25 rfl (lv_at hl 0 rfl) ?_
  refine lv_aload_n hx hb d_W_takeCopy_26 rfl (lv_at hl 1 rfl) ?_
  refine gs_get (v := .int (F_2 a1 2)) hx hb htw i_W hown hK hP h1.1 rfl 2 (by decide) (htw _ mm_39) rfl d_W_takeCopy_27 ?_
  obtain ⟨hz, h⟩ := h
  refine gs_put (ty := .boolean) hx hb htw i_W tf_W tf_W_ok n_W hown hK hlo hP hS h0.1 rfl 2 (by decide) rfl (htw _ mm_39) rfl (by decide +kernel) (gz_n hz) (gz_f hz) d_W_takeCopy_30 (fun F_3 eF_3 H locs hP hS => ?_)
  have h := h F_3 eF_3
  rw [← hQe]
  exact gw_vret hx hb hr hlocks hP hK hS h d_W_takeCopy_33
abbrev rm_W_lowestBits : Room := { frames := 1, cells := 0, slots := 0, locals := 21 }
set_option maxHeartbeats 4000000 in
set_option maxRecDepth 100000 in
theorem w_W_lowestBits (hlo : gs_D Λ) (a0 l0 n0 : Nat) (h0 : gW cI Λ a0 l0 n0) (F A : gm_M) (post : Int64 → Prop) (h : vc_W_lowestBits a0 l0 n0 F A post) : Met l y_W_lowestBits (.code y_W_lowestBits b_W_lowestBits 3 (some .long) :: gw_WS) rm_W_lowestBits (va_Pc [.ref a0] (gw_P D cI cB cJ cW Λ L F A)) (gw_Ql D cI cB cJ cW Λ L (fun r F2 A2 => F = F2 ∧ A = A2 ∧ post r)) 0 0 (gw_A Λ) := by
  refine Met.ofW (cc := b_W_lowestBits) (maxL := 3) (ret := (some .long)) (by decide) rfl ?_
  intro p e s m args below meth c s₁ B hml hv
  obtain ⟨hargs, hP, hK⟩ := hv
  have hx := B.exec
  have hb := B.bytes
  have hr := B.returns
  have hlocks := B.notSynchronized
  have htw : ∀ w ∈ gw_WS, w.before args s = true := fun w h9 => atoms_spec (ws := .code y_W_lowestBits b_W_lowestBits 3 (some .long) :: gw_WS) B.pre w (List.mem_cons_of_mem _ h9)
  have hown : s.vm.findClass R_W = some m.cls := findClass_of_methodNamed B.named
  have hS : va_S (gw_A Λ) s.heap s.heap [] := va_S.rf
  refine W.eq (g2 := entryFrame m ([.ref a0] : List Value).toArray 3) (by rw [hargs]) ?_
  have hl := lv_entry ([.ref a0]) (n := 3) (Nat.le_of_ble_eq_true rfl)
  rw [lg_entry_eq]
  generalize (lg_sl ([.ref a0]) ++ List.replicate (3 - (lg_sl ([.ref a0])).length) Slot.unset).toArray = ls at hl ⊢
  have hl : lv_has ls 3 [(0, .ref a0)] := hl
  generalize hQe : MQ below (gw_Ql D cI cB cJ cW Λ L (fun r F2 A2 => F = F2 ∧ A = A2 ∧ post r)) args s 0 0 (gw_A Λ) = Q
  unfold vc_W_lowestBits at h
  refine lv_aload_n hx hb d_W_lowestBits_0 rfl (lv_at hl 0 rfl) ?_
  refine lv_iconst (v := (0 : Int32)) hx hb d_W_lowestBits_1 (by decide) ?_
  refine gw_goi (gw_runV (As := [.int (0 : Int32)]) (rest := []) hx hb hml hown htw hK hP hS hl.1 (w_W_limbAt hlo a0 l0 n0 (0 : Int32) ⟨h0.1, h0.2⟩ F A _ h) k_W_limbAt mm_416 ⟨Nat.le_of_ble_eq_true rfl, Nat.le_of_ble_eq_true rfl⟩ rfl rfl h0.1 rfl rfl rfl (Nat.le_of_ble_eq_true rfl) d_W_lowestBits_2) hS (fun r_1 F_1 A_1 H locs hw hP hS => ?_)
  obtain ⟨rfl, hw⟩ := hw
  obtain ⟨rfl, hw⟩ := hw
  have h := hw
  refine lv_i2l (v := (r_1.toInt64)) hx hb d_W_lowestBits_5 (by rfl) ?_
  refine lv_aload_n hx hb d_W_lowestBits_6 rfl (lv_at hl 0 rfl) ?_
  refine lv_iconst (v := (1 : Int32)) hx hb d_W_lowestBits_7 (by decide) ?_
  refine gw_goi (gw_runV (As := [.int (1 : Int32)]) (rest := [.long (r_1.toInt64)]) hx hb hml hown htw hK hP hS hl.1 (w_W_limbAt hlo a0 l0 n0 (1 : Int32) ⟨h0.1, h0.2⟩ F A _ h) k_W_limbAt mm_416 ⟨Nat.le_of_ble_eq_true rfl, Nat.le_of_ble_eq_true rfl⟩ rfl rfl h0.1 rfl rfl rfl (Nat.le_of_ble_eq_true rfl) d_W_lowestBits_8) hS (fun r_2 F_2 A_2 H locs hw hP hS => ?_)
  obtain ⟨rfl, hw⟩ := hw
  obtain ⟨rfl, hw⟩ := hw
  have h := hw
  refine lv_i2l (v := (r_2.toInt64)) hx hb d_W_lowestBits_11 (by rfl) ?_
  refine lv_bipush (v := (31 : Int32)) hx hb d_W_lowestBits_12 (by decide) ?_
  refine lv_lshl (v := (j_lshl (r_2.toInt64) (31 : Int32))) hx hb d_W_lowestBits_14 rfl ?_
  refine lv_lor hx hb d_W_lowestBits_15 ?_
  refine lv_aload_n hx hb d_W_lowestBits_16 rfl (lv_at hl 0 rfl) ?_
  refine lv_iconst (v := (2 : Int32)) hx hb d_W_lowestBits_17 (by decide) ?_
  refine gw_goi (gw_runV (As := [.int (2 : Int32)]) (rest := [.long ((r_1.toInt64) ||| (j_lshl (r_2.toInt64) (31 : Int32)))]) hx hb hml hown htw hK hP hS hl.1 (w_W_limbAt hlo a0 l0 n0 (2 : Int32) ⟨h0.1, h0.2⟩ F A _ h) k_W_limbAt mm_416 ⟨Nat.le_of_ble_eq_true rfl, Nat.le_of_ble_eq_true rfl⟩ rfl rfl h0.1 rfl rfl rfl (Nat.le_of_ble_eq_true rfl) d_W_lowestBits_18) hS (fun r_3 F_3 A_3 H locs hw hP hS => ?_)
  obtain ⟨rfl, hw⟩ := hw
  obtain ⟨rfl, hw⟩ := hw
  have h := hw
  refine lv_i2l (v := (r_3.toInt64)) hx hb d_W_lowestBits_21 (by rfl) ?_
  refine lv_bipush (v := (62 : Int32)) hx hb d_W_lowestBits_22 (by decide) ?_
  refine lv_lshl (v := (j_lshl (r_3.toInt64) (62 : Int32))) hx hb d_W_lowestBits_24 rfl ?_
  refine lv_lor hx hb d_W_lowestBits_25 ?_
  refine lv_topl (fun x1_4 ex1_4 => ?_)
  have h := h x1_4 ex1_4
  refine lv_lstore_n (lv' := [(1, .long x1_4), (0, .ref a0)]) hx hb d_W_lowestBits_26 rfl hl (by decide) rfl (fun ls hl => ?_)
  refine lv_aload_n hx hb d_W_lowestBits_27 rfl (lv_at hl 1 rfl) ?_
  refine gs_get (v := .int (F a0 2)) hx hb htw i_W hown hK hP h0.1 rfl 2 (by decide) (htw _ mm_39) rfl d_W_lowestBits_28 ?_
  refine lv_if_eq (tgt := 39) hx hb d_W_lowestBits_31 (by decide) (fun c_31 => ?_) (fun c_31 => ?_)
  · have h := h.1 c_31
    refine lv_lload_n hx hb d_W_lowestBits_39 rfl (lv_at hl 0 rfl) ?_
    rw [← hQe]
    exact gw_lret hx hb hr hlocks hP hK hS ⟨rfl, rfl, h⟩ d_W_lowestBits_40
  · have h := h.2 c_31
    refine lv_lload_n hx hb d_W_lowestBits_34 rfl (lv_at hl 0 rfl) ?_
    refine lv_lneg hx hb d_W_lowestBits_35 ?_
    refine lv_goto (tgt := 40) hx hb d_W_lowestBits_36 (by decide) ?_
    rw [← hQe]
    exact gw_lret hx hb hr hlocks hP hK hS ⟨rfl, rfl, h⟩ d_W_lowestBits_40
abbrev rm_W_fitsLong : Room := { frames := 2, cells := 0, slots := 0, locals := 43 }
set_option maxHeartbeats 4000000 in
set_option maxRecDepth 100000 in
theorem w_W_fitsLong (hlo : gs_D Λ) (a0 l0 n0 : Nat) (h0 : gW cI Λ a0 l0 n0) (F A : gm_M) (post : Int32 → Prop) (h : vc_W_fitsLong a0 l0 n0 F A post) : Met l y_W_fitsLong (.code y_W_fitsLong b_W_fitsLong 1 (some .boolean) :: gw_WS) rm_W_fitsLong (va_Pc [.ref a0] (gw_P D cI cB cJ cW Λ L F A)) (gw_Qi D cI cB cJ cW Λ L (fun r F2 A2 => F = F2 ∧ A = A2 ∧ post r)) 0 0 (gw_A Λ) := by
  refine Met.ofW (cc := b_W_fitsLong) (maxL := 1) (ret := (some .boolean)) (by decide) rfl ?_
  intro p e s m args below meth c s₁ B hml hv
  obtain ⟨hargs, hP, hK⟩ := hv
  have hx := B.exec
  have hb := B.bytes
  have hr := B.returns
  have hlocks := B.notSynchronized
  have htw : ∀ w ∈ gw_WS, w.before args s = true := fun w h9 => atoms_spec (ws := .code y_W_fitsLong b_W_fitsLong 1 (some .boolean) :: gw_WS) B.pre w (List.mem_cons_of_mem _ h9)
  have hown : s.vm.findClass R_W = some m.cls := findClass_of_methodNamed B.named
  have hS : va_S (gw_A Λ) s.heap s.heap [] := va_S.rf
  refine W.eq (g2 := entryFrame m ([.ref a0] : List Value).toArray 1) (by rw [hargs]) ?_
  have hl := lv_entry ([.ref a0]) (n := 1) (Nat.le_of_ble_eq_true rfl)
  rw [lg_entry_eq]
  generalize (lg_sl ([.ref a0]) ++ List.replicate (1 - (lg_sl ([.ref a0])).length) Slot.unset).toArray = ls at hl ⊢
  have hl : lv_has ls 1 [(0, .ref a0)] := hl
  generalize hQe : MQ below (gw_Qi D cI cB cJ cW Λ L (fun r F2 A2 => F = F2 ∧ A = A2 ∧ post r)) args s 0 0 (gw_A Λ) = Q
  unfold vc_W_fitsLong at h
  refine lv_aload_n hx hb d_W_fitsLong_0 rfl (lv_at hl 0 rfl) ?_
  refine gw_goi (gw_runV (As := []) (rest := []) hx hb hml hown htw hK hP hS hl.1 (w_W_countBits hlo a0 l0 n0 ⟨h0.1, h0.2⟩ F A _ h) k_W_countBits mm_603 ⟨Nat.le_of_ble_eq_true rfl, Nat.le_of_ble_eq_true rfl⟩ rfl rfl h0.1 rfl rfl rfl (Nat.le_of_ble_eq_true rfl) d_W_fitsLong_1) hS (fun r_1 F_1 A_1 H locs hw hP hS => ?_)
  obtain ⟨rfl, hw⟩ := hw
  obtain ⟨rfl, hw⟩ := hw
  have h := hw
  refine lv_bipush (v := (64 : Int32)) hx hb d_W_fitsLong_4 (by decide) ?_
  refine lv_icmp_lt (tgt := 34) hx hb d_W_fitsLong_6 (by decide) (fun c_6 => ?_) (fun c_6 => ?_)
  · have h := h.1 c_6
    refine lv_iconst (v := (1 : Int32)) hx hb d_W_fitsLong_34 (by decide) ?_
    refine lv_goto (tgt := 39) hx hb d_W_fitsLong_35 (by decide) ?_
    rw [← hQe]
    exact gw_zret hx hb hr hlocks hP hK hS (by decide) ⟨rfl, rfl, h⟩ d_W_fitsLong_39
  · have h := h.2 c_6
    refine lv_aload_n hx hb d_W_fitsLong_9 rfl (lv_at hl 0 rfl) ?_
    refine gs_get (v := .int (F a0 2)) hx hb htw i_W hown hK hP h0.1 rfl 2 (by decide) (htw _ mm_39) rfl d_W_fitsLong_10 ?_
    refine lv_if_eq (tgt := 38) hx hb d_W_fitsLong_13 (by decide) (fun c_13 => ?_) (fun c_13 => ?_)
    · have h := h.1 c_13
      refine lv_iconst (v := (0 : Int32)) hx hb d_W_fitsLong_38 (by decide) ?_
      rw [← hQe]
      exact gw_zret hx hb hr hlocks hP hK hS (by decide) ⟨rfl, rfl, h⟩ d_W_fitsLong_39
    · have h := h.2 c_13
      refine lv_aload_n hx hb d_W_fitsLong_16 rfl (lv_at hl 0 rfl) ?_
      refine gw_goi (gw_runV (As := []) (rest := []) hx hb hml hown htw hK hP hS hl.1 (w_W_countBits hlo a0 l0 n0 ⟨h0.1, h0.2⟩ F A _ h) k_W_countBits mm_603 ⟨Nat.le_of_ble_eq_true rfl, Nat.le_of_ble_eq_true rfl⟩ rfl rfl h0.1 rfl rfl rfl (Nat.le_of_ble_eq_true rfl) d_W_fitsLong_17) hS (fun r_2 F_2 A_2 H locs hw hP hS => ?_)
      obtain ⟨rfl, hw⟩ := hw
      obtain ⟨rfl, hw⟩ := hw
      have h := hw
      refine lv_bipush (v := (64 : Int32)) hx hb d_W_fitsLong_20 (by decide) ?_
      refine lv_icmp_ne (tgt := 38) hx hb d_W_fitsLong_22 (by decide) (fun c_22 => ?_) (fun c_22 => ?_)
      · have h := h.1 c_22
        refine lv_iconst (v := (0 : Int32)) hx hb d_W_fitsLong_38 (by decide) ?_
        rw [← hQe]
        exact gw_zret hx hb hr hlocks hP hK hS (by decide) ⟨rfl, rfl, h⟩ d_W_fitsLong_39
      · have h := h.2 c_22
        refine lv_aload_n hx hb d_W_fitsLong_25 rfl (lv_at hl 0 rfl) ?_
        refine gw_gol (gw_runV (As := []) (rest := []) hx hb hml hown htw hK hP hS hl.1 (w_W_lowestBits hlo a0 l0 n0 ⟨h0.1, h0.2⟩ F A _ h) k_W_lowestBits mm_604 ⟨Nat.le_of_ble_eq_true rfl, Nat.le_of_ble_eq_true rfl⟩ rfl rfl h0.1 rfl rfl rfl (Nat.le_of_ble_eq_true rfl) d_W_fitsLong_26) hS (fun r_3 F_3 A_3 H locs hw hP hS => ?_)
        obtain ⟨rfl, hw⟩ := hw
        obtain ⟨rfl, hw⟩ := hw
        have h := hw
        refine lv_lconst (v := (0 : Int64)) hx hb d_W_fitsLong_29 (by decide) ?_
        refine gl_ge (tgt := 38) hx hb d_W_fitsLong_30 d_W_fitsLong_31 (by decide) (fun c_31 => ?_) (fun c_31 => ?_)
        · have h := h.1 c_31
          refine lv_iconst (v := (0 : Int32)) hx hb d_W_fitsLong_38 (by decide) ?_
          rw [← hQe]
          exact gw_zret hx hb hr hlocks hP hK hS (by decide) ⟨rfl, rfl, h⟩ d_W_fitsLong_39
        · have h := h.2 c_31
          refine lv_iconst (v := (1 : Int32)) hx hb d_W_fitsLong_34 (by decide) ?_
          refine lv_goto (tgt := 39) hx hb d_W_fitsLong_35 (by decide) ?_
          rw [← hQe]
          exact gw_zret hx hb hr hlocks hP hK hS (by decide) ⟨rfl, rfl, h⟩ d_W_fitsLong_39
abbrev rm_W_foldedBits : Room := { frames := 0, cells := 0, slots := 0, locals := 0 }
set_option maxHeartbeats 4000000 in
set_option maxRecDepth 100000 in
theorem w_W_foldedBits (hlo : gs_D Λ) (a0 l0 n0 : Nat) (h0 : gW cI Λ a0 l0 n0) (F A : gm_M) (post : Int64 → Prop) (h : vc_W_foldedBits a0 l0 n0 F A post) : Met l y_W_foldedBits (.code y_W_foldedBits b_W_foldedBits 6 (some .long) :: gw_WS) rm_W_foldedBits (va_Pc [.ref a0] (gw_P D cI cB cJ cW Λ L F A)) (gw_Ql D cI cB cJ cW Λ L (fun r F2 A2 => F = F2 ∧ A = A2 ∧ post r)) 0 0 (gw_A Λ) := by
  refine Met.ofW (cc := b_W_foldedBits) (maxL := 6) (ret := (some .long)) (by decide) rfl ?_
  intro p e s m args below meth c s₁ B hml hv
  obtain ⟨hargs, hP, hK⟩ := hv
  have hx := B.exec
  have hb := B.bytes
  have hr := B.returns
  have hlocks := B.notSynchronized
  have htw : ∀ w ∈ gw_WS, w.before args s = true := fun w h9 => atoms_spec (ws := .code y_W_foldedBits b_W_foldedBits 6 (some .long) :: gw_WS) B.pre w (List.mem_cons_of_mem _ h9)
  have hown : s.vm.findClass R_W = some m.cls := findClass_of_methodNamed B.named
  have hS : va_S (gw_A Λ) s.heap s.heap [] := va_S.rf
  refine W.eq (g2 := entryFrame m ([.ref a0] : List Value).toArray 6) (by rw [hargs]) ?_
  have hl := lv_entry ([.ref a0]) (n := 6) (Nat.le_of_ble_eq_true rfl)
  rw [lg_entry_eq]
  generalize (lg_sl ([.ref a0]) ++ List.replicate (6 - (lg_sl ([.ref a0])).length) Slot.unset).toArray = ls at hl ⊢
  have hl : lv_has ls 6 [(0, .ref a0)] := hl
  generalize hQe : MQ below (gw_Ql D cI cB cJ cW Λ L (fun r F2 A2 => F = F2 ∧ A = A2 ∧ post r)) args s 0 0 (gw_A Λ) = Q
  unfold vc_W_foldedBits at h
  refine lv_ldc2 (v := (2305843009213693951 : Int64)) hx hb hown (htw _ mm_628) d_W_foldedBits_0 ?_
  refine lv_lstore_n (lv' := [(1, .long (2305843009213693951 : Int64)), (0, .ref a0)]) hx hb d_W_foldedBits_3 rfl hl (by decide) rfl (fun ls hl => ?_)
  refine lv_lconst (v := (0 : Int64)) hx hb d_W_foldedBits_4 (by decide) ?_
  refine lv_lstore_n (lv' := [(3, .long (0 : Int64)), (1, .long (2305843009213693951 : Int64)), (0, .ref a0)]) hx hb d_W_foldedBits_5 rfl hl (by decide) rfl (fun ls hl => ?_)
  refine lv_aload_n hx hb d_W_foldedBits_6 rfl (lv_at hl 2 rfl) ?_
  refine gs_get (v := .int (F a0 1)) hx hb htw i_W hown hK hP h0.1 rfl 1 (by decide) (htw _ mm_35) rfl d_W_foldedBits_7 ?_
  refine lv_iconst (v := (1 : Int32)) hx hb d_W_foldedBits_10 (by decide) ?_
  refine lv_isub hx hb d_W_foldedBits_11 ?_
  refine lv_topi (fun x5_1 ex5_1 => ?_)
  have h := h x5_1 ex5_1
  refine lv_istore (lv' := [(5, .int x5_1), (3, .long (0 : Int64)), (1, .long (2305843009213693951 : Int64)), (0, .ref a0)]) hx hb d_W_foldedBits_12 hl (by decide) rfl (fun ls hl => ?_)
  obtain ⟨I_14, μ_14, h0_14, hs_14⟩ := h
  have loop_14 : ∀ (N : Nat) (x3_2 : Int64) (x5_2 : Int32) (H : Heap) (locs : List Loc) (ls : Array Slot), μ_14 x3_2 x5_2 < N → I_14 x3_2 x5_2 → va_P D gcls (gs_ws Λ F A L) H → va_S (gw_A Λ) s.heap H locs → lv_has ls 6 [(0, .ref a0), (1, .long (2305843009213693951 : Int64)), (3, .long x3_2), (5, .int x5_2)] → W p l e rm_W_foldedBits s m args below meth c H locs 0 0 Q (F0 m 14 ls []) := by
    intro N
    induction N with
    | zero => intro x3_2 x5_2 H locs ls hμ; exact absurd hμ (Nat.not_lt_zero _)
    | succ N ih_14 =>
      intro x3_2 x5_2 H locs ls hμ_14 hI hP hS hl
      have h := hs_14 x3_2 x5_2 hI
      refine lv_iload hx hb d_W_foldedBits_14 (lv_at hl 3 rfl) ?_
      refine lv_if_lt (tgt := 58) hx hb d_W_foldedBits_16 (by decide) (fun c_16 => ?_) (fun c_16 => ?_)
      · have h := h.1 c_16
        refine lv_aload_n hx hb d_W_foldedBits_58 rfl (lv_at hl 0 rfl) ?_
        refine gs_get (v := .int (F a0 2)) hx hb htw i_W hown hK hP h0.1 rfl 2 (by decide) (htw _ mm_39) rfl d_W_foldedBits_59 ?_
        refine lv_if_eq (tgt := 70) hx hb d_W_foldedBits_62 (by decide) (fun c_62 => ?_) (fun c_62 => ?_)
        · have h := h.1 c_62
          refine lv_lload_n hx hb d_W_foldedBits_70 rfl (lv_at hl 2 rfl) ?_
          rw [← hQe]
          exact gw_lret hx hb hr hlocks hP hK hS ⟨rfl, rfl, h⟩ d_W_foldedBits_71
        · have h := h.2 c_62
          refine lv_lload_n hx hb d_W_foldedBits_65 rfl (lv_at hl 2 rfl) ?_
          refine lv_lneg hx hb d_W_foldedBits_66 ?_
          refine lv_goto (tgt := 71) hx hb d_W_foldedBits_67 (by decide) ?_
          rw [← hQe]
          exact gw_lret hx hb hr hlocks hP hK hS ⟨rfl, rfl, h⟩ d_W_foldedBits_71
      · have h := h.2 c_16
        refine lv_lload_n hx hb d_W_foldedBits_19 rfl (lv_at hl 2 rfl) ?_
        refine lv_bipush (v := (31 : Int32)) hx hb d_W_foldedBits_20 (by decide) ?_
        refine lv_lshl (v := (j_lshl x3_2 (31 : Int32))) hx hb d_W_foldedBits_22 rfl ?_
        refine lv_lload_n hx hb d_W_foldedBits_23 rfl (lv_at hl 1 rfl) ?_
        refine lv_land hx hb d_W_foldedBits_24 ?_
        refine lv_lload_n hx hb d_W_foldedBits_25 rfl (lv_at hl 2 rfl) ?_
        refine lv_bipush (v := (30 : Int32)) hx hb d_W_foldedBits_26 (by decide) ?_
        refine lv_lushr (v := (j_lushr x3_2 (30 : Int32))) hx hb d_W_foldedBits_28 rfl ?_
        refine lv_lor hx hb d_W_foldedBits_29 ?_
        refine lv_topl (fun x3_3 ex3_3 => ?_)
        have h := h x3_3 ex3_3
        refine lv_lstore_n (lv' := [(3, .long x3_3), (0, .ref a0), (1, .long (2305843009213693951 : Int64)), (5, .int x5_2)]) hx hb d_W_foldedBits_30 rfl hl (by decide) rfl (fun ls hl => ?_)
        refine lv_lload_n hx hb d_W_foldedBits_31 rfl (lv_at hl 0 rfl) ?_
        refine lv_aload_n hx hb d_W_foldedBits_32 rfl (lv_at hl 1 rfl) ?_
        refine gs_get (v := .ref l0) hx hb htw i_W hown hK hP h0.1 rfl 0 (by decide) (htw _ mm_33) rfl d_W_foldedBits_33 ?_
        refine lv_iload hx hb d_W_foldedBits_36 (lv_at hl 3 rfl) ?_
        obtain ⟨hin, h⟩ := h
        refine gs_ild hx hb hK hP h0.2 hin d_W_foldedBits_38 ?_
        refine lv_i2l (v := ((A l0 x5_2.toNatClampNeg).toInt64)) hx hb d_W_foldedBits_39 (by rfl) ?_
        refine lv_ladd hx hb d_W_foldedBits_40 ?_
        refine lv_topl (fun x3_4 ex3_4 => ?_)
        have h := h x3_4 ex3_4
        refine lv_lstore_n (lv' := [(3, .long x3_4), (0, .ref a0), (1, .long (2305843009213693951 : Int64)), (5, .int x5_2)]) hx hb d_W_foldedBits_41 rfl hl (by decide) rfl (fun ls hl => ?_)
        refine lv_lload_n hx hb d_W_foldedBits_42 rfl (lv_at hl 0 rfl) ?_
        refine lv_lload_n hx hb d_W_foldedBits_43 rfl (lv_at hl 2 rfl) ?_
        refine gl_lt (tgt := 52) hx hb d_W_foldedBits_44 d_W_foldedBits_45 (by decide) (fun c_45 => ?_) (fun c_45 => ?_)
        · have h := h.1 c_45
          obtain ⟨x5_5, ex5_5⟩ : ∃ y : Int32, y = x5_2 + (-1 : Int32) := ⟨_, rfl⟩
          have h := h x5_5 ex5_5
          refine lv_iinc (v := x5_5) (lv' := [(5, .int x5_5), (3, .long x3_4), (0, .ref a0), (1, .long (2305843009213693951 : Int64))]) hx hb d_W_foldedBits_52 hl (k := 3) rfl (by rw [ex5_5]; rfl) (by decide) rfl (fun ls hl => ?_)
          refine lv_goto (tgt := 14) hx hb d_W_foldedBits_55 (by decide) ?_
          exact ih_14 x3_4 x5_5 _ _ _ (Nat.lt_of_lt_of_le h.2 (Nat.le_of_lt_succ hμ_14)) h.1 hP hS (lv_sub hl [2, 3, 1, 0] rfl)
        · have h := h.2 c_45
          refine lv_lload_n hx hb d_W_foldedBits_48 rfl (lv_at hl 0 rfl) ?_
          refine lv_lload_n hx hb d_W_foldedBits_49 rfl (lv_at hl 2 rfl) ?_
          refine lv_lsub hx hb d_W_foldedBits_50 ?_
          refine lv_topl (fun x3_6 ex3_6 => ?_)
          have h := h x3_6 ex3_6
          refine lv_lstore_n (lv' := [(3, .long x3_6), (0, .ref a0), (1, .long (2305843009213693951 : Int64)), (5, .int x5_2)]) hx hb d_W_foldedBits_51 rfl hl (by decide) rfl (fun ls hl => ?_)
          obtain ⟨x5_7, ex5_7⟩ : ∃ y : Int32, y = x5_2 + (-1 : Int32) := ⟨_, rfl⟩
          have h := h x5_7 ex5_7
          refine lv_iinc (v := x5_7) (lv' := [(5, .int x5_7), (3, .long x3_6), (0, .ref a0), (1, .long (2305843009213693951 : Int64))]) hx hb d_W_foldedBits_52 hl (k := 3) rfl (by rw [ex5_7]; rfl) (by decide) rfl (fun ls hl => ?_)
          refine lv_goto (tgt := 14) hx hb d_W_foldedBits_55 (by decide) ?_
          exact ih_14 x3_6 x5_7 _ _ _ (Nat.lt_of_lt_of_le h.2 (Nat.le_of_lt_succ hμ_14)) h.1 hP hS (lv_sub hl [2, 3, 1, 0] rfl)
  exact loop_14 (μ_14 (0 : Int64) x5_1 + 1) (0 : Int64) x5_1 _ _ _ (Nat.lt_succ_self _) h0_14 hP hS (lv_sub hl [3, 2, 1, 0] rfl)
