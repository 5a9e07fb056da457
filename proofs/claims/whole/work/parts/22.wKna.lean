variable {l : Launch} {D : va_G} {cI cB cJ cW : ClassId} {Λ : gs_L} {L : Nat → Nat → Int64}
abbrev rm_K_needRegister : Room := { frames := 6, cells := 1, slots := 6, locals := 82 }
set_option maxHeartbeats 4000000 in
set_option maxRecDepth 100000 in
theorem w_K_needRegister (hfl : l.stackTraces = false) (hlo : gs_D Λ) (p1 : Int32) (F A : gm_M) (post : Prop) (pe : Nat → gm_M → gm_M → Prop) (h : vc_K_needRegister p1 F A post pe) : MetX l y_K_needRegister (.code y_K_needRegister b_K_needRegister 1 none :: gw_WS) rm_K_needRegister (va_Pc [.int p1] (gw_PN D cI cB cJ cW Λ L F A)) (gx_Qv D cI cB cJ cW Λ L (fun F2 A2 => F = F2 ∧ A = A2 ∧ post) pe) (gw_A Λ) := by
  refine MetX.ofW (cc := b_K_needRegister) (maxL := 1) (ret := none) (by decide) rfl ?_
  intro p e s m args below meth c s₁ B hml hv
  obtain ⟨hargs, ⟨hP, hK⟩, hN⟩ := hv
  have hx := B.exec
  have hb := B.bytes
  have hr := B.returns
  have hlocks := B.notSynchronized
  have htw : ∀ w ∈ gw_WS, w.before args s = true := fun w h9 => atoms_spec (ws := .code y_K_needRegister b_K_needRegister 1 none :: gw_WS) B.pre w (List.mem_cons_of_mem _ h9)
  have hP0 := hP
  have hnh := B.noHandlers (atoms_spec (ws := .code y_K_needRegister b_K_needRegister 1 none :: gw_WS) B.pre _ List.mem_cons_self)
  have hown : s.vm.findClass R_K = some m.cls := findClass_of_methodNamed B.named
  have hS : va_S (gw_A Λ) s.heap s.heap [] := va_S.rf
  refine W.eq (g2 := entryFrame m ([.int p1] : List Value).toArray 1) (by rw [hargs]) ?_
  have hl := lv_entry ([.int p1]) (n := 1) (Nat.le_of_ble_eq_true rfl)
  rw [lg_entry_eq]
  generalize (lg_sl ([.int p1]) ++ List.replicate (1 - (lg_sl ([.int p1])).length) Slot.unset).toArray = ls at hl ⊢
  have hl : lv_has ls 1 [(0, .int p1)] := hl
  generalize hQe : MQX below (gx_Qv D cI cB cJ cW Λ L (fun F2 A2 => F = F2 ∧ A = A2 ∧ post) pe) args s (gw_A Λ) = Q
  unfold vc_K_needRegister at h
  refine lv_iload_n hx hb d_K_needRegister_0 rfl (lv_at hl 0 rfl) ?_
  refine gw_goi (gw_runS (As := [.int p1]) (rest := []) hx hb hml hown htw hK hP hS hl.1 (w_K_isRegister hlo p1 F A _ h) k_K_isRegister mm_119 ⟨Nat.le_of_ble_eq_true rfl, Nat.le_of_ble_eq_true rfl⟩ rfl rfl rfl rfl (Nat.le_of_ble_eq_true rfl) d_K_needRegister_1) hS (fun r_1 F_1 A_1 H locs hw hP hS => ?_)
  obtain ⟨rfl, hw⟩ := hw
  obtain ⟨rfl, hw⟩ := hw
  have h := hw
  refine lv_if_ne (tgt := 17) hx hb d_K_needRegister_4 (by decide) (fun c_4 => ?_) (fun c_4 => ?_)
  · have h := h.1 c_4
    rw [← hQe]
    exact gx_vret hx hb hr hlocks hP hK hS ⟨rfl, rfl, h⟩ d_K_needRegister_17
  · have h := h.2 c_4
    rw [← hQe]
    exact gx_throw (tx := "no such register") hx hb hml hown htw hfl hN hnh hlocks hP0 hP hK hS hl.1 1 gx_at1 (by decide) ⟨Nat.le_of_ble_eq_true rfl, Nat.le_of_ble_eq_true rfl, Nat.le_of_ble_eq_true rfl, Nat.le_of_ble_eq_true rfl⟩ d_K_needRegister_7 d_K_needRegister_10 d_K_needRegister_11 d_K_needRegister_13 d_K_needRegister_16 h
abbrev rm_K_set : Room := { frames := 7, cells := 1, slots := 6, locals := 102 }
set_option maxHeartbeats 4000000 in
set_option maxRecDepth 100000 in
theorem w_K_set (hfl : l.stackTraces = false) (hlo : gs_D Λ) (K : Nat → Nat) (p1 : Int32) (p2 : Int64) (hΛ : gK cI cB cW Λ K) (F A : gm_M) (post : Int32 → gm_M → gm_M → Prop) (pe : Nat → gm_M → gm_M → Prop) (h : vc_K_set K p1 p2 F A post pe) : MetX l y_K_set (.code y_K_set b_K_set 5 (some .int) :: gw_WS) rm_K_set (va_Pc [.ref (K 0), .int p1, .long p2] (gw_PN D cI cB cJ cW Λ L F A)) (gx_Qi D cI cB cJ cW Λ L (fun r F2 A2 => post r F2 A2) pe) (gw_A Λ) := by
  refine MetX.ofW (cc := b_K_set) (maxL := 5) (ret := (some .int)) (by decide) rfl ?_
  intro p e s m args below meth c s₁ B hml hv
  obtain ⟨hargs, ⟨hP, hK⟩, hN⟩ := hv
  have hx := B.exec
  have hb := B.bytes
  have hr := B.returns
  have hlocks := B.notSynchronized
  have htw : ∀ w ∈ gw_WS, w.before args s = true := fun w h9 => atoms_spec (ws := .code y_K_set b_K_set 5 (some .int) :: gw_WS) B.pre w (List.mem_cons_of_mem _ h9)
  have hP0 := hP
  have hnh := B.noHandlers (atoms_spec (ws := .code y_K_set b_K_set 5 (some .int) :: gw_WS) B.pre _ List.mem_cons_self)
  have hown : s.vm.findClass R_K = some m.cls := findClass_of_methodNamed B.named
  have hS : va_S (gw_A Λ) s.heap s.heap [] := va_S.rf
  refine W.eq (g2 := entryFrame m ([.ref (K 0), .int p1, .long p2] : List Value).toArray 5) (by rw [hargs]) ?_
  have hl := lv_entry ([.ref (K 0), .int p1, .long p2]) (n := 5) (Nat.le_of_ble_eq_true rfl)
  rw [lg_entry_eq]
  generalize (lg_sl ([.ref (K 0), .int p1, .long p2]) ++ List.replicate (5 - (lg_sl ([.ref (K 0), .int p1, .long p2])).length) Slot.unset).toArray = ls at hl ⊢
  have hl : lv_has ls 5 [(0, .ref (K 0)), (1, .int p1), (2, .long p2)] := hl
  generalize hQe : MQX below (gx_Qi D cI cB cJ cW Λ L (fun r F2 A2 => post r F2 A2) pe) args s (gw_A Λ) = Q
  unfold vc_K_set at h
  refine lv_iload_n hx hb d_K_set_0 rfl (lv_at hl 1 rfl) ?_
  refine gx_gov (gx_runS (As := [.int p1]) (rest := []) hx hb hml hown htw gx_blind (gx_pre hP hK hS hN) hl.1 (w_K_needRegister hfl hlo p1 F A _ _ h) k_K_needRegister mm_116 ⟨Nat.le_of_ble_eq_true rfl, Nat.le_of_ble_eq_true rfl⟩ (Nat.le_of_ble_eq_true rfl) (Nat.le_of_ble_eq_true rfl) rfl rfl (Nat.le_of_ble_eq_true rfl) d_K_set_1) hS (fun F_1 A_1 H locs hw hP hS => ?_) (fun x_1 k_1 F_1 A_1 H locs hw hP hS => ?_)
  · obtain ⟨rfl, hw⟩ := hw
    obtain ⟨rfl, hw⟩ := hw
    have h := hw
    refine lv_aload_n hx hb d_K_set_4 rfl (lv_at hl 0 rfl) ?_
    refine gs_get (v := .ref (K 1)) hx hb htw i_K hown hK hP (gK_0 hΛ) rfl 0 (by decide) (htw _ mm_89) rfl d_K_set_5 ?_
    refine lv_iload_n hx hb d_K_set_8 rfl (lv_at hl 1 rfl) ?_
    obtain ⟨hin_2, h⟩ := h
    refine gs_ald hx hb hK hP (gK_1 hΛ) hin_2 d_K_set_9 ?_
    refine gw_goi (gw_runV (As := []) (rest := []) hx hb hml hown htw hK hP hS hl.1 (w_W_countBits hlo (K (7 + 2 * p1.toNatClampNeg)) (K (8 + 2 * p1.toNatClampNeg)) (67) ⟨(gK_r hΛ hin_2).1, (gK_r hΛ hin_2).2⟩ F A _ h) k_W_countBits mm_189 ⟨Nat.le_of_ble_eq_true rfl, Nat.le_of_ble_eq_true rfl⟩ rfl rfl (gK_r hΛ hin_2).1 rfl rfl rfl (Nat.le_of_ble_eq_true rfl) d_K_set_10) hS (fun r_3 F_3 A_3 H locs hw hP hS => ?_)
    obtain ⟨rfl, hw⟩ := hw
    obtain ⟨rfl, hw⟩ := hw
    have h := hw
    refine lv_istore (lv' := [(4, .int r_3), (0, .ref (K 0)), (1, .int p1), (2, .long p2)]) hx hb d_K_set_13 hl (by decide) rfl (fun ls hl => ?_)
    refine lv_aload_n hx hb d_K_set_15 rfl (lv_at hl 1 rfl) ?_
    refine gs_get (v := .ref (K 1)) hx hb htw i_K hown hK hP (gK_0 hΛ) rfl 0 (by decide) (htw _ mm_89) rfl d_K_set_16 ?_
    refine lv_iload_n hx hb d_K_set_19 rfl (lv_at hl 2 rfl) ?_
    obtain ⟨hin_4, h⟩ := h
    refine gs_ald hx hb hK hP (gK_1 hΛ) hin_4 d_K_set_20 ?_
    refine lv_lload_n hx hb d_K_set_21 rfl (lv_at hl 3 rfl) ?_
    refine gw_gov (gw_runV (As := [.long p2]) (rest := []) hx hb hml hown htw hK hP hS hl.1 (w_W_takeLong hlo (K (7 + 2 * p1.toNatClampNeg)) (K (8 + 2 * p1.toNatClampNeg)) (67) p2 ⟨(gK_r hΛ hin_4).1, (gK_r hΛ hin_4).2⟩ F A _ h) k_W_takeLong mm_196 ⟨Nat.le_of_ble_eq_true rfl, Nat.le_of_ble_eq_true rfl⟩ rfl rfl (gK_r hΛ hin_4).1 rfl rfl rfl (Nat.le_of_ble_eq_true rfl) d_K_set_22) hS (fun F_5 A_5 H locs hw hP hS => ?_)
    have h := hw
    refine lv_iload hx hb d_K_set_25 (lv_at hl 0 rfl) ?_
    rw [← hQe]
    exact gx_iret hx hb hr hlocks hP hK hS h d_K_set_27
  · rw [← hQe]
    exact gx_out hnh hlocks hP hK hS hw
abbrev rm_K_line : Room := { frames := 6, cells := 1, slots := 6, locals := 82 }
set_option maxHeartbeats 4000000 in
set_option maxRecDepth 100000 in
theorem w_K_line (hfl : l.stackTraces = false) (hlo : gs_D Λ) (K : Nat → Nat) (p1 : Int64) (hΛ : gK cI cB cW Λ K) (F A : gm_M) (post : Int32 → gm_M → gm_M → Prop) (pe : Nat → gm_M → gm_M → Prop) (h : vc_K_line K p1 F A post pe) : MetX l y_K_line (.code y_K_line b_K_line 4 (some .int) :: gw_WS) rm_K_line (va_Pc [.ref (K 0), .long p1] (gw_PN D cI cB cJ cW Λ L F A)) (gx_Qi D cI cB cJ cW Λ L (fun r F2 A2 => post r F2 A2) pe) (gw_A Λ) := by
  refine MetX.ofW (cc := b_K_line) (maxL := 4) (ret := (some .int)) (by decide) rfl ?_
  intro p e s m args below meth c s₁ B hml hv
  obtain ⟨hargs, ⟨hP, hK⟩, hN⟩ := hv
  have hx := B.exec
  have hb := B.bytes
  have hr := B.returns
  have hlocks := B.notSynchronized
  have htw : ∀ w ∈ gw_WS, w.before args s = true := fun w h9 => atoms_spec (ws := .code y_K_line b_K_line 4 (some .int) :: gw_WS) B.pre w (List.mem_cons_of_mem _ h9)
  have hP0 := hP
  have hnh := B.noHandlers (atoms_spec (ws := .code y_K_line b_K_line 4 (some .int) :: gw_WS) B.pre _ List.mem_cons_self)
  have hown : s.vm.findClass R_K = some m.cls := findClass_of_methodNamed B.named
  have hS : va_S (gw_A Λ) s.heap s.heap [] := va_S.rf
  refine W.eq (g2 := entryFrame m ([.ref (K 0), .long p1] : List Value).toArray 4) (by rw [hargs]) ?_
  have hl := lv_entry ([.ref (K 0), .long p1]) (n := 4) (Nat.le_of_ble_eq_true rfl)
  rw [lg_entry_eq]
  generalize (lg_sl ([.ref (K 0), .long p1]) ++ List.replicate (4 - (lg_sl ([.ref (K 0), .long p1])).length) Slot.unset).toArray = ls at hl ⊢
  have hl : lv_has ls 4 [(0, .ref (K 0)), (1, .long p1)] := hl
  generalize hQe : MQX below (gx_Qi D cI cB cJ cW Λ L (fun r F2 A2 => post r F2 A2) pe) args s (gw_A Λ) = Q
  unfold vc_K_line at h
  refine lv_lload_n hx hb d_K_line_0 rfl (lv_at hl 1 rfl) ?_
  refine gw_goi (gw_runS (As := [.long p1]) (rest := []) hx hb hml hown htw hK hP hS hl.1 (w_T_countIn hlo p1 F A _ h) k_T_countIn mm_217 ⟨Nat.le_of_ble_eq_true rfl, Nat.le_of_ble_eq_true rfl⟩ rfl rfl rfl rfl (Nat.le_of_ble_eq_true rfl) d_K_line_1) hS (fun r_1 F_1 A_1 H locs hw hP hS => ?_)
  obtain ⟨rfl, hw⟩ := hw
  obtain ⟨rfl, hw⟩ := hw
  have h := hw
  refine lv_istore_n (lv' := [(3, .int r_1), (0, .ref (K 0)), (1, .long p1)]) hx hb d_K_line_4 rfl hl (by decide) rfl (fun ls hl => ?_)
  refine lv_iload_n hx hb d_K_line_5 rfl (lv_at hl 0 rfl) ?_
  refine lv_if_ne (tgt := 19) hx hb d_K_line_6 (by decide) (fun c_6 => ?_) (fun c_6 => ?_)
  · have h := h.1 c_6
    refine lv_aload_n hx hb d_K_line_19 rfl (lv_at hl 1 rfl) ?_
    refine gs_get (v := .ref (K 2)) hx hb htw i_K hown hK hP (gK_0 hΛ) rfl 1 (by decide) (htw _ mm_90) rfl d_K_line_20 ?_
    refine gs_get (v := .int (F (K 2) 1)) hx hb htw i_T hown hK hP (gK_2 hΛ) rfl 1 (by decide) (htw _ mm_58) rfl d_K_line_23 ?_
    refine lv_iload_n hx hb d_K_line_26 rfl (lv_at hl 0 rfl) ?_
    refine lv_iadd hx hb d_K_line_27 ?_
    refine lv_sipush (v := (2100 : Int32)) hx hb d_K_line_28 (by decide) ?_
    refine lv_icmp_le (tgt := 44) hx hb d_K_line_31 (by decide) (fun c_31 => ?_) (fun c_31 => ?_)
    · have h := h.1 c_31
      refine lv_aload_n hx hb d_K_line_44 rfl (lv_at hl 1 rfl) ?_
      refine gs_get (v := .ref (K 2)) hx hb htw i_K hown hK hP (gK_0 hΛ) rfl 1 (by decide) (htw _ mm_90) rfl d_K_line_45 ?_
      refine lv_lload_n hx hb d_K_line_48 rfl (lv_at hl 2 rfl) ?_
      refine lv_iload_n hx hb d_K_line_49 rfl (lv_at hl 0 rfl) ?_
      refine gw_gov (gw_runV (As := [.long p1, .int r_1]) (rest := []) hx hb hml hown htw hK hP hS hl.1 (w_T_append hlo K p1 r_1 hΛ F A _ h) k_T_append mm_240 ⟨Nat.le_of_ble_eq_true rfl, Nat.le_of_ble_eq_true rfl⟩ rfl rfl (gK_2 hΛ) rfl rfl rfl (Nat.le_of_ble_eq_true rfl) d_K_line_50) hS (fun F_2 A_2 H locs hw hP hS => ?_)
      have h := hw
      refine lv_aload_n hx hb d_K_line_53 rfl (lv_at hl 1 rfl) ?_
      refine gs_get (v := .ref (K 2)) hx hb htw i_K hown hK hP (gK_0 hΛ) rfl 1 (by decide) (htw _ mm_90) rfl d_K_line_54 ?_
      refine gs_get (v := .int (F_2 (K 2) 1)) hx hb htw i_T hown hK hP (gK_2 hΛ) rfl 1 (by decide) (htw _ mm_58) rfl d_K_line_57 ?_
      rw [← hQe]
      exact gx_iret hx hb hr hlocks hP hK hS h d_K_line_60
    · have h := h.2 c_31
      rw [← hQe]
      exact gx_throw (tx := "the line would be too long") hx hb hml hown htw hfl hN hnh hlocks hP0 hP hK hS hl.1 2 gx_at2 (by decide) ⟨Nat.le_of_ble_eq_true rfl, Nat.le_of_ble_eq_true rfl, Nat.le_of_ble_eq_true rfl, Nat.le_of_ble_eq_true rfl⟩ d_K_line_34 d_K_line_37 d_K_line_38 d_K_line_40 d_K_line_43 h
  · have h := h.2 c_6
    rw [← hQe]
    exact gx_throw (tx := "no letters, or one that is not 32..126") hx hb hml hown htw hfl hN hnh hlocks hP0 hP hK hS hl.1 1 gx_at1 (by decide) ⟨Nat.le_of_ble_eq_true rfl, Nat.le_of_ble_eq_true rfl, Nat.le_of_ble_eq_true rfl, Nat.le_of_ble_eq_true rfl⟩ d_K_line_9 d_K_line_12 d_K_line_13 d_K_line_15 d_K_line_18 h
abbrev rm_K_needFit : Room := { frames := 6, cells := 1, slots := 6, locals := 82 }
set_option maxHeartbeats 4000000 in
set_option maxRecDepth 100000 in
theorem w_K_needFit (hfl : l.stackTraces = false) (hlo : gs_D Λ) (a1 l1 n1 : Nat) (h1 : gW cI Λ a1 l1 n1) (F A : gm_M) (post : Prop) (pe : Nat → gm_M → gm_M → Prop) (h : vc_K_needFit a1 l1 n1 F A post pe) : MetX l y_K_needFit (.code y_K_needFit b_K_needFit 1 none :: gw_WS) rm_K_needFit (va_Pc [.ref a1] (gw_PN D cI cB cJ cW Λ L F A)) (gx_Qv D cI cB cJ cW Λ L (fun F2 A2 => F = F2 ∧ A = A2 ∧ post) pe) (gw_A Λ) := by
  refine MetX.ofW (cc := b_K_needFit) (maxL := 1) (ret := none) (by decide) rfl ?_
  intro p e s m args below meth c s₁ B hml hv
  obtain ⟨hargs, ⟨hP, hK⟩, hN⟩ := hv
  have hx := B.exec
  have hb := B.bytes
  have hr := B.returns
  have hlocks := B.notSynchronized
  have htw : ∀ w ∈ gw_WS, w.before args s = true := fun w h9 => atoms_spec (ws := .code y_K_needFit b_K_needFit 1 none :: gw_WS) B.pre w (List.mem_cons_of_mem _ h9)
  have hP0 := hP
  have hnh := B.noHandlers (atoms_spec (ws := .code y_K_needFit b_K_needFit 1 none :: gw_WS) B.pre _ List.mem_cons_self)
  have hown : s.vm.findClass R_K = some m.cls := findClass_of_methodNamed B.named
  have hS : va_S (gw_A Λ) s.heap s.heap [] := va_S.rf
  refine W.eq (g2 := entryFrame m ([.ref a1] : List Value).toArray 1) (by rw [hargs]) ?_
  have hl := lv_entry ([.ref a1]) (n := 1) (Nat.le_of_ble_eq_true rfl)
  rw [lg_entry_eq]
  generalize (lg_sl ([.ref a1]) ++ List.replicate (1 - (lg_sl ([.ref a1])).length) Slot.unset).toArray = ls at hl ⊢
  have hl : lv_has ls 1 [(0, .ref a1)] := hl
  generalize hQe : MQX below (gx_Qv D cI cB cJ cW Λ L (fun F2 A2 => F = F2 ∧ A = A2 ∧ post) pe) args s (gw_A Λ) = Q
  unfold vc_K_needFit at h
  refine lv_aload_n hx hb d_K_needFit_0 rfl (lv_at hl 0 rfl) ?_
  refine gw_goi (gw_runV (As := []) (rest := []) hx hb hml hown htw hK hP hS hl.1 (w_W_countBits hlo a1 l1 n1 ⟨h1.1, h1.2⟩ F A _ h) k_W_countBits mm_189 ⟨Nat.le_of_ble_eq_true rfl, Nat.le_of_ble_eq_true rfl⟩ rfl rfl h1.1 rfl rfl rfl (Nat.le_of_ble_eq_true rfl) d_K_needFit_1) hS (fun r_1 F_1 A_1 H locs hw hP hS => ?_)
  obtain ⟨rfl, hw⟩ := hw
  obtain ⟨rfl, hw⟩ := hw
  have h := hw
  refine lv_sipush (v := (2048 : Int32)) hx hb d_K_needFit_4 (by decide) ?_
  refine lv_icmp_le (tgt := 20) hx hb d_K_needFit_7 (by decide) (fun c_7 => ?_) (fun c_7 => ?_)
  · have h := h.1 c_7
    rw [← hQe]
    exact gx_vret hx hb hr hlocks hP hK hS ⟨rfl, rfl, h⟩ d_K_needFit_20
  · have h := h.2 c_7
    rw [← hQe]
    exact gx_throw (tx := "too many bits") hx hb hml hown htw hfl hN hnh hlocks hP0 hP hK hS hl.1 3 gx_at3 (by decide) ⟨Nat.le_of_ble_eq_true rfl, Nat.le_of_ble_eq_true rfl, Nat.le_of_ble_eq_true rfl, Nat.le_of_ble_eq_true rfl⟩ d_K_needFit_10 d_K_needFit_13 d_K_needFit_14 d_K_needFit_16 d_K_needFit_19 h
abbrev rm_K_keep : Room := { frames := 7, cells := 1, slots := 6, locals := 102 }
set_option maxHeartbeats 4000000 in
set_option maxRecDepth 100000 in
theorem w_K_keep (hfl : l.stackTraces = false) (hlo : gs_D Λ) (K : Nat → Nat) (a1 l1 n1 : Nat) (p2 : Int32) (hΛ : gK cI cB cW Λ K) (h1 : gW cI Λ a1 l1 n1) (F A : gm_M) (post : gm_M → gm_M → Prop) (pe : Nat → gm_M → gm_M → Prop) (h : vc_K_keep K a1 l1 n1 p2 F A post pe) : MetX l y_K_keep (.code y_K_keep b_K_keep 3 none :: gw_WS) rm_K_keep (va_Pc [.ref (K 0), .ref a1, .int p2] (gw_PN D cI cB cJ cW Λ L F A)) (gx_Qv D cI cB cJ cW Λ L (fun F2 A2 => post F2 A2) pe) (gw_A Λ) := by
  refine MetX.ofW (cc := b_K_keep) (maxL := 3) (ret := none) (by decide) rfl ?_
  intro p e s m args below meth c s₁ B hml hv
  obtain ⟨hargs, ⟨hP, hK⟩, hN⟩ := hv
  have hx := B.exec
  have hb := B.bytes
  have hr := B.returns
  have hlocks := B.notSynchronized
  have htw : ∀ w ∈ gw_WS, w.before args s = true := fun w h9 => atoms_spec (ws := .code y_K_keep b_K_keep 3 none :: gw_WS) B.pre w (List.mem_cons_of_mem _ h9)
  have hP0 := hP
  have hnh := B.noHandlers (atoms_spec (ws := .code y_K_keep b_K_keep 3 none :: gw_WS) B.pre _ List.mem_cons_self)
  have hown : s.vm.findClass R_K = some m.cls := findClass_of_methodNamed B.named
  have hS : va_S (gw_A Λ) s.heap s.heap [] := va_S.rf
  refine W.eq (g2 := entryFrame m ([.ref (K 0), .ref a1, .int p2] : List Value).toArray 3) (by rw [hargs]) ?_
  have hl := lv_entry ([.ref (K 0), .ref a1, .int p2]) (n := 3) (Nat.le_of_ble_eq_true rfl)
  rw [lg_entry_eq]
  generalize (lg_sl ([.ref (K 0), .ref a1, .int p2]) ++ List.replicate (3 - (lg_sl ([.ref (K 0), .ref a1, .int p2])).length) Slot.unset).toArray = ls at hl ⊢
  have hl : lv_has ls 3 [(0, .ref (K 0)), (1, .ref a1), (2, .int p2)] := hl
  generalize hQe : MQX below (gx_Qv D cI cB cJ cW Λ L (fun F2 A2 => post F2 A2) pe) args s (gw_A Λ) = Q
  unfold vc_K_keep at h
  refine lv_aload_n hx hb d_K_keep_0 rfl (lv_at hl 1 rfl) ?_
  refine gx_gov (gx_runS (As := [.ref a1]) (rest := []) hx hb hml hown htw gx_blind (gx_pre hP hK hS hN) hl.1 (w_K_needFit hfl hlo a1 l1 n1 ⟨h1.1, h1.2⟩ F A _ _ h) k_K_needFit mm_286 ⟨Nat.le_of_ble_eq_true rfl, Nat.le_of_ble_eq_true rfl⟩ (Nat.le_of_ble_eq_true rfl) (Nat.le_of_ble_eq_true rfl) rfl rfl (Nat.le_of_ble_eq_true rfl) d_K_keep_1) hS (fun F_1 A_1 H locs hw hP hS => ?_) (fun x_1 k_1 F_1 A_1 H locs hw hP hS => ?_)
  · obtain ⟨rfl, hw⟩ := hw
    obtain ⟨rfl, hw⟩ := hw
    have h := hw
    refine lv_aload_n hx hb d_K_keep_4 rfl (lv_at hl 0 rfl) ?_
    refine gs_get (v := .ref (K 1)) hx hb htw i_K hown hK hP (gK_0 hΛ) rfl 0 (by decide) (htw _ mm_89) rfl d_K_keep_5 ?_
    refine lv_iload_n hx hb d_K_keep_8 rfl (lv_at hl 2 rfl) ?_
    obtain ⟨hin_2, h⟩ := h
    refine gs_ald hx hb hK hP (gK_1 hΛ) hin_2 d_K_keep_9 ?_
    refine lv_aload_n hx hb d_K_keep_10 rfl (lv_at hl 1 rfl) ?_
    refine gw_gov (gw_runV (As := [.ref a1]) (rest := []) hx hb hml hown htw hK hP hS hl.1 (w_W_takeCopy hlo (K (7 + 2 * p2.toNatClampNeg)) (K (8 + 2 * p2.toNatClampNeg)) (67) a1 l1 n1 ⟨(gK_r hΛ hin_2).1, (gK_r hΛ hin_2).2⟩ ⟨h1.1, h1.2⟩ F A _ h) k_W_takeCopy mm_305 ⟨Nat.le_of_ble_eq_true rfl, Nat.le_of_ble_eq_true rfl⟩ rfl rfl (gK_r hΛ hin_2).1 rfl rfl rfl (Nat.le_of_ble_eq_true rfl) d_K_keep_11) hS (fun F_3 A_3 H locs hw hP hS => ?_)
    have h := hw
    rw [← hQe]
    exact gx_vret hx hb hr hlocks hP hK hS h d_K_keep_14
  · rw [← hQe]
    exact gx_out hnh hlocks hP hK hS hw
abbrev rm_K_read : Room := { frames := 8, cells := 1, slots := 6, locals := 124 }
set_option maxHeartbeats 4000000 in
set_option maxRecDepth 100000 in
theorem w_K_read (hfl : l.stackTraces = false) (hlo : gs_D Λ) (K : Nat → Nat) (p1 : Int32) (p2 : Int32) (hΛ : gK cI cB cW Λ K) (F A : gm_M) (post : Int32 → gm_M → gm_M → Prop) (pe : Nat → gm_M → gm_M → Prop) (h : vc_K_read K p1 p2 F A post pe) : MetX l y_K_read (.code y_K_read b_K_read 4 (some .int) :: gw_WS) rm_K_read (va_Pc [.ref (K 0), .int p1, .int p2] (gw_PN D cI cB cJ cW Λ L F A)) (gx_Qi D cI cB cJ cW Λ L (fun r F2 A2 => post r F2 A2) pe) (gw_A Λ) := by
  refine MetX.ofW (cc := b_K_read) (maxL := 4) (ret := (some .int)) (by decide) rfl ?_
  intro p e s m args below meth c s₁ B hml hv
  obtain ⟨hargs, ⟨hP, hK⟩, hN⟩ := hv
  have hx := B.exec
  have hb := B.bytes
  have hr := B.returns
  have hlocks := B.notSynchronized
  have htw : ∀ w ∈ gw_WS, w.before args s = true := fun w h9 => atoms_spec (ws := .code y_K_read b_K_read 4 (some .int) :: gw_WS) B.pre w (List.mem_cons_of_mem _ h9)
  have hP0 := hP
  have hnh := B.noHandlers (atoms_spec (ws := .code y_K_read b_K_read 4 (some .int) :: gw_WS) B.pre _ List.mem_cons_self)
  have hown : s.vm.findClass R_K = some m.cls := findClass_of_methodNamed B.named
  have hS : va_S (gw_A Λ) s.heap s.heap [] := va_S.rf
  refine W.eq (g2 := entryFrame m ([.ref (K 0), .int p1, .int p2] : List Value).toArray 4) (by rw [hargs]) ?_
  have hl := lv_entry ([.ref (K 0), .int p1, .int p2]) (n := 4) (Nat.le_of_ble_eq_true rfl)
  rw [lg_entry_eq]
  generalize (lg_sl ([.ref (K 0), .int p1, .int p2]) ++ List.replicate (4 - (lg_sl ([.ref (K 0), .int p1, .int p2])).length) Slot.unset).toArray = ls at hl ⊢
  have hl : lv_has ls 4 [(0, .ref (K 0)), (1, .int p1), (2, .int p2)] := hl
  generalize hQe : MQX below (gx_Qi D cI cB cJ cW Λ L (fun r F2 A2 => post r F2 A2) pe) args s (gw_A Λ) = Q
  unfold vc_K_read at h
  refine lv_iload_n hx hb d_K_read_0 rfl (lv_at hl 1 rfl) ?_
  refine gw_goi (gw_runS (As := [.int p1]) (rest := []) hx hb hml hown htw hK hP hS hl.1 (w_K_isRegister hlo p1 F A _ h) k_K_isRegister mm_119 ⟨Nat.le_of_ble_eq_true rfl, Nat.le_of_ble_eq_true rfl⟩ rfl rfl rfl rfl (Nat.le_of_ble_eq_true rfl) d_K_read_1) hS (fun r_1 F_1 A_1 H locs hw hP hS => ?_)
  obtain ⟨rfl, hw⟩ := hw
  obtain ⟨rfl, hw⟩ := hw
  have h := hw
  obtain ⟨J_30, h, hj_30⟩ := h
  have join_30 : ∀ (v0_2 : Int32) (H : Heap) (locs : List Loc) (ls : Array Slot), J_30 v0_2 → va_P D gcls (gs_ws Λ F A L) H → va_S (gw_A Λ) s.heap H locs → lv_has ls 4 [(0, .ref (K 0)), (1, .int p1), (2, .int p2)] → W p l e rm_K_read s m args below meth c H locs 0 0 Q (F0 m 30 ls [.int v0_2]) := by
    intro v0_2 H locs ls hJ hP hS hl
    have h := hj_30 v0_2 hJ
    refine lv_istore_n (lv' := [(3, .int v0_2), (0, .ref (K 0)), (1, .int p1), (2, .int p2)]) hx hb d_K_read_30 rfl hl (by decide) rfl (fun ls hl => ?_)
    refine lv_iload_n hx hb d_K_read_31 rfl (lv_at hl 0 rfl) ?_
    obtain ⟨J_47, h, hj_47⟩ := h
    have join_47 : ∀ (F_3 : gm_M) (A_3 : gm_M) (H : Heap) (locs : List Loc) (ls : Array Slot), J_47 F_3 A_3 → va_P D gcls (gs_ws Λ F_3 A_3 L) H → va_S (gw_A Λ) s.heap H locs → lv_has ls 4 [(0, .ref (K 0)), (1, .int p1), (3, .int v0_2)] → W p l e rm_K_read s m args below meth c H locs 0 0 Q (F0 m 47 ls []) := by
      intro F_3 A_3 H locs ls hJ hP hS hl
      have h := hj_47 F_3 A_3 hJ
      refine lv_aload_n hx hb d_K_read_47 rfl (lv_at hl 0 rfl) ?_
      refine gs_get (v := .ref (K 2)) hx hb htw i_K hown hK hP (gK_0 hΛ) rfl 1 (by decide) (htw _ mm_90) rfl d_K_read_48 ?_
      refine lv_iconst (v := (0 : Int32)) hx hb d_K_read_51 (by decide) ?_
      refine gs_put (ty := .int) hx hb htw i_T tf_T tf_T_ok n_T hown hK hlo hP hS (gK_2 hΛ) rfl 1 (by decide) rfl (htw _ mm_58) rfl (by decide +kernel) rfl rfl d_K_read_52 (fun F_4 eF_4 H locs hP hS => ?_)
      have h := h F_4 eF_4
      refine lv_iload_n hx hb d_K_read_55 rfl (lv_at hl 2 rfl) ?_
      refine lv_if_ne (tgt := 69) hx hb d_K_read_56 (by decide) (fun c_56 => ?_) (fun c_56 => ?_)
      · have h := h.1 c_56
        refine lv_aload_n hx hb d_K_read_69 rfl (lv_at hl 0 rfl) ?_
        refine lv_aload_n hx hb d_K_read_70 rfl (lv_at hl 0 rfl) ?_
        refine gs_get (v := .ref (K 43)) hx hb htw i_K hown hK hP (gK_0 hΛ) rfl 3 (by decide) (htw _ mm_92) rfl d_K_read_71 ?_
        refine lv_iload_n hx hb d_K_read_74 rfl (lv_at hl 1 rfl) ?_
        refine gx_gov (gx_runV (As := [.ref (K 43), .int p1]) (rest := []) hx hb hml hown htw gx_blind (gx_pre hP hK hS hN) hK hP hl.1 (w_K_keep hfl hlo K (K 43) (K 44) (135) p1 hΛ ⟨(gK_w18 hΛ).1, (gK_w18 hΛ).2⟩ F_4 A_3 _ _ h) k_K_keep mm_282 ⟨Nat.le_of_ble_eq_true rfl, Nat.le_of_ble_eq_true rfl⟩ (Nat.le_of_ble_eq_true rfl) (Nat.le_of_ble_eq_true rfl) (gK_0 hΛ) rfl rfl rfl (Nat.le_of_ble_eq_true rfl) d_K_read_75) hS (fun F_5 A_5 H locs hw hP hS => ?_) (fun x_5 k_5 F_5 A_5 H locs hw hP hS => ?_)
        · have h := hw
          refine lv_aload_n hx hb d_K_read_78 rfl (lv_at hl 0 rfl) ?_
          refine gs_get (v := .ref (K 43)) hx hb htw i_K hown hK hP (gK_0 hΛ) rfl 3 (by decide) (htw _ mm_92) rfl d_K_read_79 ?_
          refine gw_goi (gw_runV (As := []) (rest := []) hx hb hml hown htw hK hP hS hl.1 (w_W_countBits hlo (K 43) (K 44) (135) ⟨(gK_w18 hΛ).1, (gK_w18 hΛ).2⟩ F_5 A_5 _ h) k_W_countBits mm_189 ⟨Nat.le_of_ble_eq_true rfl, Nat.le_of_ble_eq_true rfl⟩ rfl rfl (gK_w18 hΛ).1 rfl rfl rfl (Nat.le_of_ble_eq_true rfl) d_K_read_82) hS (fun r_6 F_6 A_6 H locs hw hP hS => ?_)
          obtain ⟨rfl, hw⟩ := hw
          obtain ⟨rfl, hw⟩ := hw
          have h := hw
          rw [← hQe]
          exact gx_iret hx hb hr hlocks hP hK hS h d_K_read_85
        · rw [← hQe]
          exact gx_out hnh hlocks hP hK hS hw
      · have h := h.2 c_56
        rw [← hQe]
        exact gx_throw (tx := "no such register or base, or no number") hx hb hml hown htw hfl hN hnh hlocks hP0 hP hK hS hl.1 1 gx_at1 (by decide) ⟨Nat.le_of_ble_eq_true rfl, Nat.le_of_ble_eq_true rfl, Nat.le_of_ble_eq_true rfl, Nat.le_of_ble_eq_true rfl⟩ d_K_read_59 d_K_read_62 d_K_read_63 d_K_read_65 d_K_read_68 h
    refine lv_if_eq (tgt := 47) hx hb d_K_read_32 (by decide) (fun c_32 => ?_) (fun c_32 => ?_)
    · have h := h.1 c_32
      exact join_47 F A _ _ _ h hP hS (lv_sub hl [1, 2, 0] rfl)
    · have h := h.2 c_32
      refine lv_aload_n hx hb d_K_read_35 rfl (lv_at hl 1 rfl) ?_
      refine gs_get (v := .ref (K 2)) hx hb htw i_K hown hK hP (gK_0 hΛ) rfl 1 (by decide) (htw _ mm_90) rfl d_K_read_36 ?_
      refine lv_aload_n hx hb d_K_read_39 rfl (lv_at hl 1 rfl) ?_
      refine gs_get (v := .ref (K 43)) hx hb htw i_K hown hK hP (gK_0 hΛ) rfl 3 (by decide) (htw _ mm_92) rfl d_K_read_40 ?_
      refine lv_iload_n hx hb d_K_read_43 rfl (lv_at hl 3 rfl) ?_
      refine gw_gov (gw_runV (As := [.ref (K 43), .int p2]) (rest := []) hx hb hml hown htw hK hP hS hl.1 (w_T_writeTo hlo K (K 43) (K 44) (135) p2 hΛ ⟨(gK_w18 hΛ).1, (gK_w18 hΛ).2⟩ F A _ h) k_T_writeTo mm_270 ⟨Nat.le_of_ble_eq_true rfl, Nat.le_of_ble_eq_true rfl⟩ rfl rfl (gK_2 hΛ) rfl rfl rfl (Nat.le_of_ble_eq_true rfl) d_K_read_44) hS (fun F_7 A_7 H locs hw hP hS => ?_)
      have h := hw
      exact join_47 F_7 A_7 _ _ _ h hP hS (lv_sub hl [1, 2, 0] rfl)
  obtain ⟨J_29, h, hj_29⟩ := h
  have join_29 : ∀  (H : Heap) (locs : List Loc) (ls : Array Slot), J_29 → va_P D gcls (gs_ws Λ F A L) H → va_S (gw_A Λ) s.heap H locs → lv_has ls 4 [(0, .ref (K 0)), (1, .int p1), (2, .int p2)] → W p l e rm_K_read s m args below meth c H locs 0 0 Q (F0 m 29 ls []) := by
    intro  H locs ls hJ hP hS hl
    have h := hj_29  hJ
    refine lv_iconst (v := (0 : Int32)) hx hb d_K_read_29 (by decide) ?_
    exact join_30 (0 : Int32) _ _ _ h hP hS hl
  refine lv_if_eq (tgt := 29) hx hb d_K_read_4 (by decide) (fun c_4 => ?_) (fun c_4 => ?_)
  · have h := h.1 c_4
    exact join_29 _ _ _ h hP hS hl
  · have h := h.2 c_4
    refine lv_iload_n hx hb d_K_read_7 rfl (lv_at hl 2 rfl) ?_
    refine gw_goi (gw_runS (As := [.int p2]) (rest := []) hx hb hml hown htw hK hP hS hl.1 (w_K_isBase hlo p2 F A _ h) k_K_isBase mm_256 ⟨Nat.le_of_ble_eq_true rfl, Nat.le_of_ble_eq_true rfl⟩ rfl rfl rfl rfl (Nat.le_of_ble_eq_true rfl) d_K_read_8) hS (fun r_9 F_9 A_9 H locs hw hP hS => ?_)
    obtain ⟨rfl, hw⟩ := hw
    obtain ⟨rfl, hw⟩ := hw
    have h := hw
    refine lv_if_eq (tgt := 29) hx hb d_K_read_11 (by decide) (fun c_11 => ?_) (fun c_11 => ?_)
    · have h := h.1 c_11
      exact join_29 _ _ _ h hP hS hl
    · have h := h.2 c_11
      refine lv_aload_n hx hb d_K_read_14 rfl (lv_at hl 0 rfl) ?_
      refine gs_get (v := .ref (K 2)) hx hb htw i_K hown hK hP (gK_0 hΛ) rfl 1 (by decide) (htw _ mm_90) rfl d_K_read_15 ?_
      refine lv_iload_n hx hb d_K_read_18 rfl (lv_at hl 2 rfl) ?_
      refine gw_goi (gw_runV (As := [.int p2]) (rest := []) hx hb hml hown htw hK hP hS hl.1 (w_T_areNumber hlo K p2 hΛ F A _ h) k_T_areNumber mm_259 ⟨Nat.le_of_ble_eq_true rfl, Nat.le_of_ble_eq_true rfl⟩ rfl rfl (gK_2 hΛ) rfl rfl rfl (Nat.le_of_ble_eq_true rfl) d_K_read_19) hS (fun r_10 F_10 A_10 H locs hw hP hS => ?_)
      obtain ⟨rfl, hw⟩ := hw
      obtain ⟨rfl, hw⟩ := hw
      have h := hw
      refine lv_if_eq (tgt := 29) hx hb d_K_read_22 (by decide) (fun c_22 => ?_) (fun c_22 => ?_)
      · have h := h.1 c_22
        exact join_29 _ _ _ h hP hS hl
      · have h := h.2 c_22
        refine lv_iconst (v := (1 : Int32)) hx hb d_K_read_25 (by decide) ?_
        refine lv_goto (tgt := 30) hx hb d_K_read_26 (by decide) ?_
        exact join_30 (1 : Int32) _ _ _ h hP hS hl
abbrev rm_K_show : Room := { frames := 7, cells := 1, slots := 6, locals := 137 }
set_option maxHeartbeats 4000000 in
set_option maxRecDepth 100000 in
theorem w_K_show (hfl : l.stackTraces = false) (hlo : gs_D Λ) (K : Nat → Nat) (p1 : Int32) (p2 : Int32) (hΛ : gK cI cB cW Λ K) (F A : gm_M) (post : Int32 → gm_M → gm_M → Prop) (pe : Nat → gm_M → gm_M → Prop) (h : vc_K_show K p1 p2 F A post pe) : MetX l y_K_show (.code y_K_show b_K_show 3 (some .int) :: gw_WS) rm_K_show (va_Pc [.ref (K 0), .int p1, .int p2] (gw_PN D cI cB cJ cW Λ L F A)) (gx_Qi D cI cB cJ cW Λ L (fun r F2 A2 => post r F2 A2) pe) (gw_A Λ) := by
  refine MetX.ofW (cc := b_K_show) (maxL := 3) (ret := (some .int)) (by decide) rfl ?_
  intro p e s m args below meth c s₁ B hml hv
  obtain ⟨hargs, ⟨hP, hK⟩, hN⟩ := hv
  have hx := B.exec
  have hb := B.bytes
  have hr := B.returns
  have hlocks := B.notSynchronized
  have htw : ∀ w ∈ gw_WS, w.before args s = true := fun w h9 => atoms_spec (ws := .code y_K_show b_K_show 3 (some .int) :: gw_WS) B.pre w (List.mem_cons_of_mem _ h9)
  have hP0 := hP
  have hnh := B.noHandlers (atoms_spec (ws := .code y_K_show b_K_show 3 (some .int) :: gw_WS) B.pre _ List.mem_cons_self)
  have hown : s.vm.findClass R_K = some m.cls := findClass_of_methodNamed B.named
  have hS : va_S (gw_A Λ) s.heap s.heap [] := va_S.rf
  refine W.eq (g2 := entryFrame m ([.ref (K 0), .int p1, .int p2] : List Value).toArray 3) (by rw [hargs]) ?_
  have hl := lv_entry ([.ref (K 0), .int p1, .int p2]) (n := 3) (Nat.le_of_ble_eq_true rfl)
  rw [lg_entry_eq]
  generalize (lg_sl ([.ref (K 0), .int p1, .int p2]) ++ List.replicate (3 - (lg_sl ([.ref (K 0), .int p1, .int p2])).length) Slot.unset).toArray = ls at hl ⊢
  have hl : lv_has ls 3 [(0, .ref (K 0)), (1, .int p1), (2, .int p2)] := hl
  generalize hQe : MQX below (gx_Qi D cI cB cJ cW Λ L (fun r F2 A2 => post r F2 A2) pe) args s (gw_A Λ) = Q
  unfold vc_K_show at h
  refine lv_iload_n hx hb d_K_show_0 rfl (lv_at hl 1 rfl) ?_
  refine gx_gov (gx_runS (As := [.int p1]) (rest := []) hx hb hml hown htw gx_blind (gx_pre hP hK hS hN) hl.1 (w_K_needRegister hfl hlo p1 F A _ _ h) k_K_needRegister mm_116 ⟨Nat.le_of_ble_eq_true rfl, Nat.le_of_ble_eq_true rfl⟩ (Nat.le_of_ble_eq_true rfl) (Nat.le_of_ble_eq_true rfl) rfl rfl (Nat.le_of_ble_eq_true rfl) d_K_show_1) hS (fun F_1 A_1 H locs hw hP hS => ?_) (fun x_1 k_1 F_1 A_1 H locs hw hP hS => ?_)
  · obtain ⟨rfl, hw⟩ := hw
    obtain ⟨rfl, hw⟩ := hw
    have h := hw
    refine lv_iload_n hx hb d_K_show_4 rfl (lv_at hl 2 rfl) ?_
    refine gw_goi (gw_runS (As := [.int p2]) (rest := []) hx hb hml hown htw hK hP hS hl.1 (w_K_isBase hlo p2 F A _ h) k_K_isBase mm_256 ⟨Nat.le_of_ble_eq_true rfl, Nat.le_of_ble_eq_true rfl⟩ rfl rfl rfl rfl (Nat.le_of_ble_eq_true rfl) d_K_show_5) hS (fun r_2 F_2 A_2 H locs hw hP hS => ?_)
    obtain ⟨rfl, hw⟩ := hw
    obtain ⟨rfl, hw⟩ := hw
    have h := hw
    refine lv_if_ne (tgt := 21) hx hb d_K_show_8 (by decide) (fun c_8 => ?_) (fun c_8 => ?_)
    · have h := h.1 c_8
      refine lv_aload_n hx hb d_K_show_21 rfl (lv_at hl 0 rfl) ?_
      refine gs_get (v := .ref (K 43)) hx hb htw i_K hown hK hP (gK_0 hΛ) rfl 3 (by decide) (htw _ mm_92) rfl d_K_show_22 ?_
      refine lv_aload_n hx hb d_K_show_25 rfl (lv_at hl 0 rfl) ?_
      refine gs_get (v := .ref (K 1)) hx hb htw i_K hown hK hP (gK_0 hΛ) rfl 0 (by decide) (htw _ mm_89) rfl d_K_show_26 ?_
      refine lv_iload_n hx hb d_K_show_29 rfl (lv_at hl 1 rfl) ?_
      obtain ⟨hin_3, h⟩ := h
      refine gs_ald hx hb hK hP (gK_1 hΛ) hin_3 d_K_show_30 ?_
      refine gw_gov (gw_runV (As := [.ref (K (7 + 2 * p1.toNatClampNeg))]) (rest := []) hx hb hml hown htw hK hP hS hl.1 (w_W_takeCopy hlo (K 43) (K 44) (135) (K (7 + 2 * p1.toNatClampNeg)) (K (8 + 2 * p1.toNatClampNeg)) (67) ⟨(gK_w18 hΛ).1, (gK_w18 hΛ).2⟩ ⟨(gK_r hΛ hin_3).1, (gK_r hΛ hin_3).2⟩ F A _ h) k_W_takeCopy mm_305 ⟨Nat.le_of_ble_eq_true rfl, Nat.le_of_ble_eq_true rfl⟩ rfl rfl (gK_w18 hΛ).1 rfl rfl rfl (Nat.le_of_ble_eq_true rfl) d_K_show_31) hS (fun F_4 A_4 H locs hw hP hS => ?_)
      have h := hw
      refine lv_aload_n hx hb d_K_show_34 rfl (lv_at hl 0 rfl) ?_
      refine gs_get (v := .ref (K 2)) hx hb htw i_K hown hK hP (gK_0 hΛ) rfl 1 (by decide) (htw _ mm_90) rfl d_K_show_35 ?_
      refine lv_aload_n hx hb d_K_show_38 rfl (lv_at hl 0 rfl) ?_
      refine gs_get (v := .ref (K 43)) hx hb htw i_K hown hK hP (gK_0 hΛ) rfl 3 (by decide) (htw _ mm_92) rfl d_K_show_39 ?_
      refine lv_iload_n hx hb d_K_show_42 rfl (lv_at hl 2 rfl) ?_
      refine gw_gov (gn_runV (As := [.ref (K 43), .int p2]) (rest := []) hx hb hml hown htw gx_blind (gx_pre hP hK hS hN) hK hP hl.1 (w_T_takeNumber hlo K (K 43) (K 44) (135) p2 hΛ ⟨(gK_w18 hΛ).1, (gK_w18 hΛ).2⟩ F_4 A_4 _ h) k_T_takeNumber mm_320 ⟨Nat.le_of_ble_eq_true rfl, Nat.le_of_ble_eq_true rfl⟩ rfl rfl (gK_2 hΛ) rfl rfl rfl (Nat.le_of_ble_eq_true rfl) d_K_show_43) hS (fun F_5 A_5 H locs hw hP hS => ?_)
      have h := hw
      refine lv_aload_n hx hb d_K_show_46 rfl (lv_at hl 0 rfl) ?_
      refine gs_get (v := .ref (K 2)) hx hb htw i_K hown hK hP (gK_0 hΛ) rfl 1 (by decide) (htw _ mm_90) rfl d_K_show_47 ?_
      refine gs_get (v := .int (F_5 (K 2) 1)) hx hb htw i_T hown hK hP (gK_2 hΛ) rfl 1 (by decide) (htw _ mm_58) rfl d_K_show_50 ?_
      rw [← hQe]
      exact gx_iret hx hb hr hlocks hP hK hS h d_K_show_53
    · have h := h.2 c_8
      rw [← hQe]
      exact gx_throw (tx := "no such base") hx hb hml hown htw hfl hN hnh hlocks hP0 hP hK hS hl.1 1 gx_at1 (by decide) ⟨Nat.le_of_ble_eq_true rfl, Nat.le_of_ble_eq_true rfl, Nat.le_of_ble_eq_true rfl, Nat.le_of_ble_eq_true rfl⟩ d_K_show_11 d_K_show_14 d_K_show_15 d_K_show_17 d_K_show_20 h
  · rw [← hQe]
    exact gx_out hnh hlocks hP hK hS hw
abbrev rm_K_letter : Room := { frames := 6, cells := 1, slots := 6, locals := 82 }
set_option maxHeartbeats 4000000 in
set_option maxRecDepth 100000 in
theorem w_K_letter (hfl : l.stackTraces = false) (hlo : gs_D Λ) (K : Nat → Nat) (p1 : Int32) (hΛ : gK cI cB cW Λ K) (F A : gm_M) (post : Int32 → Prop) (pe : Nat → gm_M → gm_M → Prop) (h : vc_K_letter K p1 F A post pe) : MetX l y_K_letter (.code y_K_letter b_K_letter 2 (some .int) :: gw_WS) rm_K_letter (va_Pc [.ref (K 0), .int p1] (gw_PN D cI cB cJ cW Λ L F A)) (gx_Qi D cI cB cJ cW Λ L (fun r F2 A2 => F = F2 ∧ A = A2 ∧ post r) pe) (gw_A Λ) := by
  refine MetX.ofW (cc := b_K_letter) (maxL := 2) (ret := (some .int)) (by decide) rfl ?_
  intro p e s m args below meth c s₁ B hml hv
  obtain ⟨hargs, ⟨hP, hK⟩, hN⟩ := hv
  have hx := B.exec
  have hb := B.bytes
  have hr := B.returns
  have hlocks := B.notSynchronized
  have htw : ∀ w ∈ gw_WS, w.before args s = true := fun w h9 => atoms_spec (ws := .code y_K_letter b_K_letter 2 (some .int) :: gw_WS) B.pre w (List.mem_cons_of_mem _ h9)
  have hP0 := hP
  have hnh := B.noHandlers (atoms_spec (ws := .code y_K_letter b_K_letter 2 (some .int) :: gw_WS) B.pre _ List.mem_cons_self)
  have hown : s.vm.findClass R_K = some m.cls := findClass_of_methodNamed B.named
  have hS : va_S (gw_A Λ) s.heap s.heap [] := va_S.rf
  refine W.eq (g2 := entryFrame m ([.ref (K 0), .int p1] : List Value).toArray 2) (by rw [hargs]) ?_
  have hl := lv_entry ([.ref (K 0), .int p1]) (n := 2) (Nat.le_of_ble_eq_true rfl)
  rw [lg_entry_eq]
  generalize (lg_sl ([.ref (K 0), .int p1]) ++ List.replicate (2 - (lg_sl ([.ref (K 0), .int p1])).length) Slot.unset).toArray = ls at hl ⊢
  have hl : lv_has ls 2 [(0, .ref (K 0)), (1, .int p1)] := hl
  generalize hQe : MQX below (gx_Qi D cI cB cJ cW Λ L (fun r F2 A2 => F = F2 ∧ A = A2 ∧ post r) pe) args s (gw_A Λ) = Q
  unfold vc_K_letter at h
  refine lv_iload_n hx hb d_K_letter_0 rfl (lv_at hl 1 rfl) ?_
  refine lv_if_lt (tgt := 15) hx hb d_K_letter_1 (by decide) (fun c_1 => ?_) (fun c_1 => ?_)
  · have h := h.1 c_1
    rw [← hQe]
    exact gx_throw (tx := "no such letter") hx hb hml hown htw hfl hN hnh hlocks hP0 hP hK hS hl.1 2 gx_at2 (by decide) ⟨Nat.le_of_ble_eq_true rfl, Nat.le_of_ble_eq_true rfl, Nat.le_of_ble_eq_true rfl, Nat.le_of_ble_eq_true rfl⟩ d_K_letter_15 d_K_letter_18 d_K_letter_19 d_K_letter_21 d_K_letter_24 h
  · have h := h.2 c_1
    refine lv_iload_n hx hb d_K_letter_4 rfl (lv_at hl 1 rfl) ?_
    refine lv_aload_n hx hb d_K_letter_5 rfl (lv_at hl 0 rfl) ?_
    refine gs_get (v := .ref (K 2)) hx hb htw i_K hown hK hP (gK_0 hΛ) rfl 1 (by decide) (htw _ mm_90) rfl d_K_letter_6 ?_
    refine gs_get (v := .int (F (K 2) 1)) hx hb htw i_T hown hK hP (gK_2 hΛ) rfl 1 (by decide) (htw _ mm_58) rfl d_K_letter_9 ?_
    refine lv_icmp_lt (tgt := 25) hx hb d_K_letter_12 (by decide) (fun c_12 => ?_) (fun c_12 => ?_)
    · have h := h.1 c_12
      refine lv_aload_n hx hb d_K_letter_25 rfl (lv_at hl 0 rfl) ?_
      refine gs_get (v := .ref (K 2)) hx hb htw i_K hown hK hP (gK_0 hΛ) rfl 1 (by decide) (htw _ mm_90) rfl d_K_letter_26 ?_
      refine gs_get (v := .ref (K 3)) hx hb htw i_T hown hK hP (gK_2 hΛ) rfl 0 (by decide) (htw _ mm_57) rfl d_K_letter_29 ?_
      refine lv_iload_n hx hb d_K_letter_32 rfl (lv_at hl 1 rfl) ?_
      obtain ⟨hin, h⟩ := h
      refine gs_bld hx hb hK hP (gK_3 hΛ) hin d_K_letter_33 ?_
      rw [← hQe]
      exact gx_iret hx hb hr hlocks hP hK hS ⟨rfl, rfl, h⟩ d_K_letter_34
    · have h := h.2 c_12
      rw [← hQe]
      exact gx_throw (tx := "no such letter") hx hb hml hown htw hfl hN hnh hlocks hP0 hP hK hS hl.1 2 gx_at2 (by decide) ⟨Nat.le_of_ble_eq_true rfl, Nat.le_of_ble_eq_true rfl, Nat.le_of_ble_eq_true rfl, Nat.le_of_ble_eq_true rfl⟩ d_K_letter_15 d_K_letter_18 d_K_letter_19 d_K_letter_21 d_K_letter_24 h
abbrev rm_K_needKind : Room := { frames := 6, cells := 1, slots := 6, locals := 82 }
set_option maxHeartbeats 4000000 in
set_option maxRecDepth 100000 in
theorem w_K_needKind (hfl : l.stackTraces = false) (hlo : gs_D Λ) (p1 : Int32) (F A : gm_M) (post : Prop) (pe : Nat → gm_M → gm_M → Prop) (h : vc_K_needKind p1 F A post pe) : MetX l y_K_needKind (.code y_K_needKind b_K_needKind 1 none :: gw_WS) rm_K_needKind (va_Pc [.int p1] (gw_PN D cI cB cJ cW Λ L F A)) (gx_Qv D cI cB cJ cW Λ L (fun F2 A2 => F = F2 ∧ A = A2 ∧ post) pe) (gw_A Λ) := by
  refine MetX.ofW (cc := b_K_needKind) (maxL := 1) (ret := none) (by decide) rfl ?_
  intro p e s m args below meth c s₁ B hml hv
  obtain ⟨hargs, ⟨hP, hK⟩, hN⟩ := hv
  have hx := B.exec
  have hb := B.bytes
  have hr := B.returns
  have hlocks := B.notSynchronized
  have htw : ∀ w ∈ gw_WS, w.before args s = true := fun w h9 => atoms_spec (ws := .code y_K_needKind b_K_needKind 1 none :: gw_WS) B.pre w (List.mem_cons_of_mem _ h9)
  have hP0 := hP
  have hnh := B.noHandlers (atoms_spec (ws := .code y_K_needKind b_K_needKind 1 none :: gw_WS) B.pre _ List.mem_cons_self)
  have hown : s.vm.findClass R_K = some m.cls := findClass_of_methodNamed B.named
  have hS : va_S (gw_A Λ) s.heap s.heap [] := va_S.rf
  refine W.eq (g2 := entryFrame m ([.int p1] : List Value).toArray 1) (by rw [hargs]) ?_
  have hl := lv_entry ([.int p1]) (n := 1) (Nat.le_of_ble_eq_true rfl)
  rw [lg_entry_eq]
  generalize (lg_sl ([.int p1]) ++ List.replicate (1 - (lg_sl ([.int p1])).length) Slot.unset).toArray = ls at hl ⊢
  have hl : lv_has ls 1 [(0, .int p1)] := hl
  generalize hQe : MQX below (gx_Qv D cI cB cJ cW Λ L (fun F2 A2 => F = F2 ∧ A = A2 ∧ post) pe) args s (gw_A Λ) = Q
  unfold vc_K_needKind at h
  refine lv_iload_n hx hb d_K_needKind_0 rfl (lv_at hl 0 rfl) ?_
  refine lv_if_lt (tgt := 9) hx hb d_K_needKind_1 (by decide) (fun c_1 => ?_) (fun c_1 => ?_)
  · have h := h.1 c_1
    rw [← hQe]
    exact gx_throw (tx := "no such kind of work") hx hb hml hown htw hfl hN hnh hlocks hP0 hP hK hS hl.1 1 gx_at1 (by decide) ⟨Nat.le_of_ble_eq_true rfl, Nat.le_of_ble_eq_true rfl, Nat.le_of_ble_eq_true rfl, Nat.le_of_ble_eq_true rfl⟩ d_K_needKind_9 d_K_needKind_12 d_K_needKind_13 d_K_needKind_15 d_K_needKind_18 h
  · have h := h.2 c_1
    refine lv_iload_n hx hb d_K_needKind_4 rfl (lv_at hl 0 rfl) ?_
    refine lv_iconst (v := (2 : Int32)) hx hb d_K_needKind_5 (by decide) ?_
    refine lv_icmp_le (tgt := 19) hx hb d_K_needKind_6 (by decide) (fun c_6 => ?_) (fun c_6 => ?_)
    · have h := h.1 c_6
      rw [← hQe]
      exact gx_vret hx hb hr hlocks hP hK hS ⟨rfl, rfl, h⟩ d_K_needKind_19
    · have h := h.2 c_6
      rw [← hQe]
      exact gx_throw (tx := "no such kind of work") hx hb hml hown htw hfl hN hnh hlocks hP0 hP hK hS hl.1 1 gx_at1 (by decide) ⟨Nat.le_of_ble_eq_true rfl, Nat.le_of_ble_eq_true rfl, Nat.le_of_ble_eq_true rfl, Nat.le_of_ble_eq_true rfl⟩ d_K_needKind_9 d_K_needKind_12 d_K_needKind_13 d_K_needKind_15 d_K_needKind_18 h
abbrev rm_K_needRegisters : Room := { frames := 7, cells := 1, slots := 6, locals := 102 }
set_option maxHeartbeats 4000000 in
set_option maxRecDepth 100000 in
theorem w_K_needRegisters (hfl : l.stackTraces = false) (hlo : gs_D Λ) (p1 : Int32) (p2 : Int32) (p3 : Int32) (F A : gm_M) (post : Prop) (pe : Nat → gm_M → gm_M → Prop) (h : vc_K_needRegisters p1 p2 p3 F A post pe) : MetX l y_K_needRegisters (.code y_K_needRegisters b_K_needRegisters 3 none :: gw_WS) rm_K_needRegisters (va_Pc [.int p1, .int p2, .int p3] (gw_PN D cI cB cJ cW Λ L F A)) (gx_Qv D cI cB cJ cW Λ L (fun F2 A2 => F = F2 ∧ A = A2 ∧ post) pe) (gw_A Λ) := by
  refine MetX.ofW (cc := b_K_needRegisters) (maxL := 3) (ret := none) (by decide) rfl ?_
  intro p e s m args below meth c s₁ B hml hv
  obtain ⟨hargs, ⟨hP, hK⟩, hN⟩ := hv
  have hx := B.exec
  have hb := B.bytes
  have hr := B.returns
  have hlocks := B.notSynchronized
  have htw : ∀ w ∈ gw_WS, w.before args s = true := fun w h9 => atoms_spec (ws := .code y_K_needRegisters b_K_needRegisters 3 none :: gw_WS) B.pre w (List.mem_cons_of_mem _ h9)
  have hP0 := hP
  have hnh := B.noHandlers (atoms_spec (ws := .code y_K_needRegisters b_K_needRegisters 3 none :: gw_WS) B.pre _ List.mem_cons_self)
  have hown : s.vm.findClass R_K = some m.cls := findClass_of_methodNamed B.named
  have hS : va_S (gw_A Λ) s.heap s.heap [] := va_S.rf
  refine W.eq (g2 := entryFrame m ([.int p1, .int p2, .int p3] : List Value).toArray 3) (by rw [hargs]) ?_
  have hl := lv_entry ([.int p1, .int p2, .int p3]) (n := 3) (Nat.le_of_ble_eq_true rfl)
  rw [lg_entry_eq]
  generalize (lg_sl ([.int p1, .int p2, .int p3]) ++ List.replicate (3 - (lg_sl ([.int p1, .int p2, .int p3])).length) Slot.unset).toArray = ls at hl ⊢
  have hl : lv_has ls 3 [(0, .int p1), (1, .int p2), (2, .int p3)] := hl
  generalize hQe : MQX below (gx_Qv D cI cB cJ cW Λ L (fun F2 A2 => F = F2 ∧ A = A2 ∧ post) pe) args s (gw_A Λ) = Q
  unfold vc_K_needRegisters at h
  refine lv_iload_n hx hb d_K_needRegisters_0 rfl (lv_at hl 0 rfl) ?_
  refine gx_gov (gx_runS (As := [.int p1]) (rest := []) hx hb hml hown htw gx_blind (gx_pre hP hK hS hN) hl.1 (w_K_needRegister hfl hlo p1 F A _ _ h) k_K_needRegister mm_116 ⟨Nat.le_of_ble_eq_true rfl, Nat.le_of_ble_eq_true rfl⟩ (Nat.le_of_ble_eq_true rfl) (Nat.le_of_ble_eq_true rfl) rfl rfl (Nat.le_of_ble_eq_true rfl) d_K_needRegisters_1) hS (fun F_1 A_1 H locs hw hP hS => ?_) (fun x_1 k_1 F_1 A_1 H locs hw hP hS => ?_)
  · obtain ⟨rfl, hw⟩ := hw
    obtain ⟨rfl, hw⟩ := hw
    have h := hw
    refine lv_iload_n hx hb d_K_needRegisters_4 rfl (lv_at hl 1 rfl) ?_
    refine gx_gov (gx_runS (As := [.int p2]) (rest := []) hx hb hml hown htw gx_blind (gx_pre hP hK hS hN) hl.1 (w_K_needRegister hfl hlo p2 F A _ _ h) k_K_needRegister mm_116 ⟨Nat.le_of_ble_eq_true rfl, Nat.le_of_ble_eq_true rfl⟩ (Nat.le_of_ble_eq_true rfl) (Nat.le_of_ble_eq_true rfl) rfl rfl (Nat.le_of_ble_eq_true rfl) d_K_needRegisters_5) hS (fun F_2 A_2 H locs hw hP hS => ?_) (fun x_2 k_2 F_2 A_2 H locs hw hP hS => ?_)
    · obtain ⟨rfl, hw⟩ := hw
      obtain ⟨rfl, hw⟩ := hw
      have h := hw
      refine lv_iload_n hx hb d_K_needRegisters_8 rfl (lv_at hl 2 rfl) ?_
      refine gx_gov (gx_runS (As := [.int p3]) (rest := []) hx hb hml hown htw gx_blind (gx_pre hP hK hS hN) hl.1 (w_K_needRegister hfl hlo p3 F A _ _ h) k_K_needRegister mm_116 ⟨Nat.le_of_ble_eq_true rfl, Nat.le_of_ble_eq_true rfl⟩ (Nat.le_of_ble_eq_true rfl) (Nat.le_of_ble_eq_true rfl) rfl rfl (Nat.le_of_ble_eq_true rfl) d_K_needRegisters_9) hS (fun F_3 A_3 H locs hw hP hS => ?_) (fun x_3 k_3 F_3 A_3 H locs hw hP hS => ?_)
      · obtain ⟨rfl, hw⟩ := hw
        obtain ⟨rfl, hw⟩ := hw
        have h := hw
        rw [← hQe]
        exact gx_vret hx hb hr hlocks hP hK hS ⟨rfl, rfl, h⟩ d_K_needRegisters_12
      · rw [← hQe]
        exact gx_out hnh hlocks hP hK hS hw
    · rw [← hQe]
      exact gx_out hnh hlocks hP hK hS hw
  · rw [← hQe]
    exact gx_out hnh hlocks hP hK hS hw
abbrev rm_K_work : Room := { frames := 8, cells := 1, slots := 6, locals := 124 }
set_option maxHeartbeats 4000000 in
set_option maxRecDepth 100000 in
theorem w_K_work (hfl : l.stackTraces = false) (hlo : gs_D Λ) (K : Nat → Nat) (p1 : Int32) (p2 : Int32) (p3 : Int32) (p4 : Int32) (hΛ : gK cI cB cW Λ K) (F A : gm_M) (post : Int32 → gm_M → gm_M → Prop) (pe : Nat → gm_M → gm_M → Prop) (h : vc_K_work K p1 p2 p3 p4 F A post pe) : MetX l y_K_work (.code y_K_work b_K_work 7 (some .int) :: gw_WS) rm_K_work (va_Pc [.ref (K 0), .int p1, .int p2, .int p3, .int p4] (gw_PN D cI cB cJ cW Λ L F A)) (gx_Qi D cI cB cJ cW Λ L (fun r F2 A2 => post r F2 A2) pe) (gw_A Λ) := by
  refine MetX.ofW (cc := b_K_work) (maxL := 7) (ret := (some .int)) (by decide) rfl ?_
  intro p e s m args below meth c s₁ B hml hv
  obtain ⟨hargs, ⟨hP, hK⟩, hN⟩ := hv
  have hx := B.exec
  have hb := B.bytes
  have hr := B.returns
  have hlocks := B.notSynchronized
  have htw : ∀ w ∈ gw_WS, w.before args s = true := fun w h9 => atoms_spec (ws := .code y_K_work b_K_work 7 (some .int) :: gw_WS) B.pre w (List.mem_cons_of_mem _ h9)
  have hP0 := hP
  have hnh := B.noHandlers (atoms_spec (ws := .code y_K_work b_K_work 7 (some .int) :: gw_WS) B.pre _ List.mem_cons_self)
  have hown : s.vm.findClass R_K = some m.cls := findClass_of_methodNamed B.named
  have hS : va_S (gw_A Λ) s.heap s.heap [] := va_S.rf
  refine W.eq (g2 := entryFrame m ([.ref (K 0), .int p1, .int p2, .int p3, .int p4] : List Value).toArray 7) (by rw [hargs]) ?_
  have hl := lv_entry ([.ref (K 0), .int p1, .int p2, .int p3, .int p4]) (n := 7) (Nat.le_of_ble_eq_true rfl)
  rw [lg_entry_eq]
  generalize (lg_sl ([.ref (K 0), .int p1, .int p2, .int p3, .int p4]) ++ List.replicate (7 - (lg_sl ([.ref (K 0), .int p1, .int p2, .int p3, .int p4])).length) Slot.unset).toArray = ls at hl ⊢
  have hl : lv_has ls 7 [(0, .ref (K 0)), (1, .int p1), (2, .int p2), (3, .int p3), (4, .int p4)] := hl
  generalize hQe : MQX below (gx_Qi D cI cB cJ cW Λ L (fun r F2 A2 => post r F2 A2) pe) args s (gw_A Λ) = Q
  unfold vc_K_work at h
  refine lv_iload_n hx hb d_K_work_0 rfl (lv_at hl 1 rfl) ?_
  refine gx_gov (gx_runS (As := [.int p1]) (rest := []) hx hb hml hown htw gx_blind (gx_pre hP hK hS hN) hl.1 (w_K_needKind hfl hlo p1 F A _ _ h) k_K_needKind mm_398 ⟨Nat.le_of_ble_eq_true rfl, Nat.le_of_ble_eq_true rfl⟩ (Nat.le_of_ble_eq_true rfl) (Nat.le_of_ble_eq_true rfl) rfl rfl (Nat.le_of_ble_eq_true rfl) d_K_work_1) hS (fun F_1 A_1 H locs hw hP hS => ?_) (fun x_1 k_1 F_1 A_1 H locs hw hP hS => ?_)
  · obtain ⟨rfl, hw⟩ := hw
    obtain ⟨rfl, hw⟩ := hw
    have h := hw
    refine lv_iload_n hx hb d_K_work_4 rfl (lv_at hl 2 rfl) ?_
    refine lv_iload_n hx hb d_K_work_5 rfl (lv_at hl 3 rfl) ?_
    refine lv_iload hx hb d_K_work_6 (lv_at hl 4 rfl) ?_
    refine gx_gov (gx_runS (As := [.int p2, .int p3, .int p4]) (rest := []) hx hb hml hown htw gx_blind (gx_pre hP hK hS hN) hl.1 (w_K_needRegisters hfl hlo p2 p3 p4 F A _ _ h) k_K_needRegisters mm_402 ⟨Nat.le_of_ble_eq_true rfl, Nat.le_of_ble_eq_true rfl⟩ (Nat.le_of_ble_eq_true rfl) (Nat.le_of_ble_eq_true rfl) rfl rfl (Nat.le_of_ble_eq_true rfl) d_K_work_8) hS (fun F_2 A_2 H locs hw hP hS => ?_) (fun x_2 k_2 F_2 A_2 H locs hw hP hS => ?_)
    · obtain ⟨rfl, hw⟩ := hw
      obtain ⟨rfl, hw⟩ := hw
      have h := hw
      refine lv_aload_n hx hb d_K_work_11 rfl (lv_at hl 0 rfl) ?_
      refine gs_get (v := .ref (K 1)) hx hb htw i_K hown hK hP (gK_0 hΛ) rfl 0 (by decide) (htw _ mm_89) rfl d_K_work_12 ?_
      refine lv_iload_n hx hb d_K_work_15 rfl (lv_at hl 3 rfl) ?_
      obtain ⟨hin_3, h⟩ := h
      refine gs_ald hx hb hK hP (gK_1 hΛ) hin_3 d_K_work_16 ?_
      refine lv_astore (lv' := [(5, .ref (K (7 + 2 * p3.toNatClampNeg))), (0, .ref (K 0)), (1, .int p1), (2, .int p2), (3, .int p3), (4, .int p4)]) hx hb d_K_work_17 hl (by decide) rfl (fun ls hl => ?_)
      refine lv_aload_n hx hb d_K_work_19 rfl (lv_at hl 1 rfl) ?_
      refine gs_get (v := .ref (K 1)) hx hb htw i_K hown hK hP (gK_0 hΛ) rfl 0 (by decide) (htw _ mm_89) rfl d_K_work_20 ?_
      refine lv_iload hx hb d_K_work_23 (lv_at hl 5 rfl) ?_
      obtain ⟨hin_4, h⟩ := h
      refine gs_ald hx hb hK hP (gK_1 hΛ) hin_4 d_K_work_25 ?_
      refine lv_astore (lv' := [(6, .ref (K (7 + 2 * p4.toNatClampNeg))), (5, .ref (K (7 + 2 * p3.toNatClampNeg))), (0, .ref (K 0)), (1, .int p1), (2, .int p2), (3, .int p3), (4, .int p4)]) hx hb d_K_work_26 hl (by decide) rfl (fun ls hl => ?_)
      refine lv_iload_n hx hb d_K_work_28 rfl (lv_at hl 3 rfl) ?_
      refine lv_if_ne (tgt := 51) hx hb d_K_work_29 (by decide) (fun c_29 => ?_) (fun c_29 => ?_)
      · have h := h.1 c_29
        refine lv_iload_n hx hb d_K_work_51 rfl (lv_at hl 3 rfl) ?_
        refine lv_iconst (v := (1 : Int32)) hx hb d_K_work_52 (by decide) ?_
        refine lv_icmp_ne (tgt := 83) hx hb d_K_work_53 (by decide) (fun c_53 => ?_) (fun c_53 => ?_)
        · have h := h.1 c_53
          refine lv_aload_n hx hb d_K_work_83 rfl (lv_at hl 2 rfl) ?_
          refine gs_get (v := .ref (K 43)) hx hb htw i_K hown hK hP (gK_0 hΛ) rfl 3 (by decide) (htw _ mm_92) rfl d_K_work_84 ?_
          refine lv_aload hx hb d_K_work_87 (lv_at hl 1 rfl) ?_
          refine lv_aload hx hb d_K_work_89 (lv_at hl 0 rfl) ?_
          refine gw_gov (gw_runV (As := [.ref (K (7 + 2 * p3.toNatClampNeg)), .ref (K (7 + 2 * p4.toNatClampNeg))]) (rest := []) hx hb hml hown htw hK hP hS hl.1 (w_W_takeProduct hlo (K 43) (K 44) (135) (K (7 + 2 * p3.toNatClampNeg)) (K (8 + 2 * p3.toNatClampNeg)) (67) (K (7 + 2 * p4.toNatClampNeg)) (K (8 + 2 * p4.toNatClampNeg)) (67) ⟨(gK_w18 hΛ).1, (gK_w18 hΛ).2⟩ ⟨(gK_r hΛ hin_3).1, (gK_r hΛ hin_3).2⟩ ⟨(gK_r hΛ hin_4).1, (gK_r hΛ hin_4).2⟩ F A _ h) k_W_takeProduct mm_429 ⟨Nat.le_of_ble_eq_true rfl, Nat.le_of_ble_eq_true rfl⟩ rfl rfl (gK_w18 hΛ).1 rfl rfl rfl (Nat.le_of_ble_eq_true rfl) d_K_work_91) hS (fun F_5 A_5 H locs hw hP hS => ?_)
          have h := hw
          refine lv_aload_n hx hb d_K_work_94 rfl (lv_at hl 2 rfl) ?_
          refine lv_aload_n hx hb d_K_work_95 rfl (lv_at hl 2 rfl) ?_
          refine gs_get (v := .ref (K 43)) hx hb htw i_K hown hK hP (gK_0 hΛ) rfl 3 (by decide) (htw _ mm_92) rfl d_K_work_96 ?_
          refine lv_iload_n hx hb d_K_work_99 rfl (lv_at hl 4 rfl) ?_
          refine gx_gov (gx_runV (As := [.ref (K 43), .int p2]) (rest := []) hx hb hml hown htw gx_blind (gx_pre hP hK hS hN) hK hP hl.1 (w_K_keep hfl hlo K (K 43) (K 44) (135) p2 hΛ ⟨(gK_w18 hΛ).1, (gK_w18 hΛ).2⟩ F_5 A_5 _ _ h) k_K_keep mm_282 ⟨Nat.le_of_ble_eq_true rfl, Nat.le_of_ble_eq_true rfl⟩ (Nat.le_of_ble_eq_true rfl) (Nat.le_of_ble_eq_true rfl) (gK_0 hΛ) rfl rfl rfl (Nat.le_of_ble_eq_true rfl) d_K_work_100) hS (fun F_6 A_6 H locs hw hP hS => ?_) (fun x_6 k_6 F_6 A_6 H locs hw hP hS => ?_)
          · have h := hw
            refine lv_aload_n hx hb d_K_work_103 rfl (lv_at hl 2 rfl) ?_
            refine gs_get (v := .ref (K 43)) hx hb htw i_K hown hK hP (gK_0 hΛ) rfl 3 (by decide) (htw _ mm_92) rfl d_K_work_104 ?_
            refine gw_goi (gw_runV (As := []) (rest := []) hx hb hml hown htw hK hP hS hl.1 (w_W_sign hlo (K 43) (K 44) (135) ⟨(gK_w18 hΛ).1, (gK_w18 hΛ).2⟩ F_6 A_6 _ h) k_W_sign mm_437 ⟨Nat.le_of_ble_eq_true rfl, Nat.le_of_ble_eq_true rfl⟩ rfl rfl (gK_w18 hΛ).1 rfl rfl rfl (Nat.le_of_ble_eq_true rfl) d_K_work_107) hS (fun r_7 F_7 A_7 H locs hw hP hS => ?_)
            obtain ⟨rfl, hw⟩ := hw
            obtain ⟨rfl, hw⟩ := hw
            have h := hw
            rw [← hQe]
            exact gx_iret hx hb hr hlocks hP hK hS h d_K_work_110
          · rw [← hQe]
            exact gx_out hnh hlocks hP hK hS hw
        · have h := h.2 c_53
          refine lv_aload_n hx hb d_K_work_56 rfl (lv_at hl 2 rfl) ?_
          refine gs_get (v := .ref (K 43)) hx hb htw i_K hown hK hP (gK_0 hΛ) rfl 3 (by decide) (htw _ mm_92) rfl d_K_work_57 ?_
          refine lv_aload hx hb d_K_work_60 (lv_at hl 1 rfl) ?_
          refine lv_aload hx hb d_K_work_62 (lv_at hl 0 rfl) ?_
          refine lv_aload hx hb d_K_work_64 (lv_at hl 0 rfl) ?_
          refine gs_get (v := .int (F (K (7 + 2 * p4.toNatClampNeg)) 2)) hx hb htw i_W hown hK hP (gK_r hΛ hin_4).1 rfl 2 (by decide) (htw _ mm_40) rfl d_K_work_66 ?_
          obtain ⟨J_77, h, hj_77⟩ := h
          have join_77 : ∀ (v0_8 : Int32) (H : Heap) (locs : List Loc) (ls : Array Slot), J_77 v0_8 → va_P D gcls (gs_ws Λ F A L) H → va_S (gw_A Λ) s.heap H locs → lv_has ls 7 [(0, .ref (K 0)), (2, .int p2)] → W p l e rm_K_work s m args below meth c H locs 0 0 Q (F0 m 77 ls [.int v0_8, .ref (K (7 + 2 * p4.toNatClampNeg)), .ref (K (7 + 2 * p3.toNatClampNeg)), .ref (K 43)]) := by
            intro v0_8 H locs ls hJ hP hS hl
            have h := hj_77 v0_8 hJ
            refine gw_gov (gw_runV (As := [.ref (K (7 + 2 * p3.toNatClampNeg)), .ref (K (7 + 2 * p4.toNatClampNeg)), .int v0_8]) (rest := []) hx hb hml hown htw hK hP hS hl.1 (w_W_takeSum hlo (K 43) (K 44) (135) (K (7 + 2 * p3.toNatClampNeg)) (K (8 + 2 * p3.toNatClampNeg)) (67) (K (7 + 2 * p4.toNatClampNeg)) (K (8 + 2 * p4.toNatClampNeg)) (67) v0_8 ⟨(gK_w18 hΛ).1, (gK_w18 hΛ).2⟩ ⟨(gK_r hΛ hin_3).1, (gK_r hΛ hin_3).2⟩ ⟨(gK_r hΛ hin_4).1, (gK_r hΛ hin_4).2⟩ F A _ h) k_W_takeSum mm_405 ⟨Nat.le_of_ble_eq_true rfl, Nat.le_of_ble_eq_true rfl⟩ rfl rfl (gK_w18 hΛ).1 rfl rfl rfl (Nat.le_of_ble_eq_true rfl) d_K_work_77) hS (fun F_9 A_9 H locs hw hP hS => ?_)
            have h := hw
            refine lv_goto (tgt := 94) hx hb d_K_work_80 (by decide) ?_
            refine lv_aload_n hx hb d_K_work_94 rfl (lv_at hl 0 rfl) ?_
            refine lv_aload_n hx hb d_K_work_95 rfl (lv_at hl 0 rfl) ?_
            refine gs_get (v := .ref (K 43)) hx hb htw i_K hown hK hP (gK_0 hΛ) rfl 3 (by decide) (htw _ mm_92) rfl d_K_work_96 ?_
            refine lv_iload_n hx hb d_K_work_99 rfl (lv_at hl 1 rfl) ?_
            refine gx_gov (gx_runV (As := [.ref (K 43), .int p2]) (rest := []) hx hb hml hown htw gx_blind (gx_pre hP hK hS hN) hK hP hl.1 (w_K_keep hfl hlo K (K 43) (K 44) (135) p2 hΛ ⟨(gK_w18 hΛ).1, (gK_w18 hΛ).2⟩ F_9 A_9 _ _ h) k_K_keep mm_282 ⟨Nat.le_of_ble_eq_true rfl, Nat.le_of_ble_eq_true rfl⟩ (Nat.le_of_ble_eq_true rfl) (Nat.le_of_ble_eq_true rfl) (gK_0 hΛ) rfl rfl rfl (Nat.le_of_ble_eq_true rfl) d_K_work_100) hS (fun F_10 A_10 H locs hw hP hS => ?_) (fun x_10 k_10 F_10 A_10 H locs hw hP hS => ?_)
            · have h := hw
              refine lv_aload_n hx hb d_K_work_103 rfl (lv_at hl 0 rfl) ?_
              refine gs_get (v := .ref (K 43)) hx hb htw i_K hown hK hP (gK_0 hΛ) rfl 3 (by decide) (htw _ mm_92) rfl d_K_work_104 ?_
              refine gw_goi (gw_runV (As := []) (rest := []) hx hb hml hown htw hK hP hS hl.1 (w_W_sign hlo (K 43) (K 44) (135) ⟨(gK_w18 hΛ).1, (gK_w18 hΛ).2⟩ F_10 A_10 _ h) k_W_sign mm_437 ⟨Nat.le_of_ble_eq_true rfl, Nat.le_of_ble_eq_true rfl⟩ rfl rfl (gK_w18 hΛ).1 rfl rfl rfl (Nat.le_of_ble_eq_true rfl) d_K_work_107) hS (fun r_11 F_11 A_11 H locs hw hP hS => ?_)
              obtain ⟨rfl, hw⟩ := hw
              obtain ⟨rfl, hw⟩ := hw
              have h := hw
              rw [← hQe]
              exact gx_iret hx hb hr hlocks hP hK hS h d_K_work_110
            · rw [← hQe]
              exact gx_out hnh hlocks hP hK hS hw
          refine lv_if_ne (tgt := 76) hx hb d_K_work_69 (by decide) (fun c_69 => ?_) (fun c_69 => ?_)
          · have h := h.1 c_69
            refine lv_iconst (v := (0 : Int32)) hx hb d_K_work_76 (by decide) ?_
            exact join_77 (0 : Int32) _ _ _ h hP hS (lv_sub hl [2, 4] rfl)
          · have h := h.2 c_69
            refine lv_iconst (v := (1 : Int32)) hx hb d_K_work_72 (by decide) ?_
            refine lv_goto (tgt := 77) hx hb d_K_work_73 (by decide) ?_
            exact join_77 (1 : Int32) _ _ _ h hP hS (lv_sub hl [2, 4] rfl)
      · have h := h.2 c_29
        refine lv_aload_n hx hb d_K_work_32 rfl (lv_at hl 2 rfl) ?_
        refine gs_get (v := .ref (K 43)) hx hb htw i_K hown hK hP (gK_0 hΛ) rfl 3 (by decide) (htw _ mm_92) rfl d_K_work_33 ?_
        refine lv_aload hx hb d_K_work_36 (lv_at hl 1 rfl) ?_
        refine lv_aload hx hb d_K_work_38 (lv_at hl 0 rfl) ?_
        refine lv_aload hx hb d_K_work_40 (lv_at hl 0 rfl) ?_
        refine gs_get (v := .int (F (K (7 + 2 * p4.toNatClampNeg)) 2)) hx hb htw i_W hown hK hP (gK_r hΛ hin_4).1 rfl 2 (by decide) (htw _ mm_40) rfl d_K_work_42 ?_
        refine gw_gov (gw_runV (As := [.ref (K (7 + 2 * p3.toNatClampNeg)), .ref (K (7 + 2 * p4.toNatClampNeg)), .int (F (K (7 + 2 * p4.toNatClampNeg)) 2)]) (rest := []) hx hb hml hown htw hK hP hS hl.1 (w_W_takeSum hlo (K 43) (K 44) (135) (K (7 + 2 * p3.toNatClampNeg)) (K (8 + 2 * p3.toNatClampNeg)) (67) (K (7 + 2 * p4.toNatClampNeg)) (K (8 + 2 * p4.toNatClampNeg)) (67) (F (K (7 + 2 * p4.toNatClampNeg)) 2) ⟨(gK_w18 hΛ).1, (gK_w18 hΛ).2⟩ ⟨(gK_r hΛ hin_3).1, (gK_r hΛ hin_3).2⟩ ⟨(gK_r hΛ hin_4).1, (gK_r hΛ hin_4).2⟩ F A _ h) k_W_takeSum mm_405 ⟨Nat.le_of_ble_eq_true rfl, Nat.le_of_ble_eq_true rfl⟩ rfl rfl (gK_w18 hΛ).1 rfl rfl rfl (Nat.le_of_ble_eq_true rfl) d_K_work_45) hS (fun F_12 A_12 H locs hw hP hS => ?_)
        have h := hw
        refine lv_goto (tgt := 94) hx hb d_K_work_48 (by decide) ?_
        refine lv_aload_n hx hb d_K_work_94 rfl (lv_at hl 2 rfl) ?_
        refine lv_aload_n hx hb d_K_work_95 rfl (lv_at hl 2 rfl) ?_
        refine gs_get (v := .ref (K 43)) hx hb htw i_K hown hK hP (gK_0 hΛ) rfl 3 (by decide) (htw _ mm_92) rfl d_K_work_96 ?_
        refine lv_iload_n hx hb d_K_work_99 rfl (lv_at hl 4 rfl) ?_
        refine gx_gov (gx_runV (As := [.ref (K 43), .int p2]) (rest := []) hx hb hml hown htw gx_blind (gx_pre hP hK hS hN) hK hP hl.1 (w_K_keep hfl hlo K (K 43) (K 44) (135) p2 hΛ ⟨(gK_w18 hΛ).1, (gK_w18 hΛ).2⟩ F_12 A_12 _ _ h) k_K_keep mm_282 ⟨Nat.le_of_ble_eq_true rfl, Nat.le_of_ble_eq_true rfl⟩ (Nat.le_of_ble_eq_true rfl) (Nat.le_of_ble_eq_true rfl) (gK_0 hΛ) rfl rfl rfl (Nat.le_of_ble_eq_true rfl) d_K_work_100) hS (fun F_13 A_13 H locs hw hP hS => ?_) (fun x_13 k_13 F_13 A_13 H locs hw hP hS => ?_)
        · have h := hw
          refine lv_aload_n hx hb d_K_work_103 rfl (lv_at hl 2 rfl) ?_
          refine gs_get (v := .ref (K 43)) hx hb htw i_K hown hK hP (gK_0 hΛ) rfl 3 (by decide) (htw _ mm_92) rfl d_K_work_104 ?_
          refine gw_goi (gw_runV (As := []) (rest := []) hx hb hml hown htw hK hP hS hl.1 (w_W_sign hlo (K 43) (K 44) (135) ⟨(gK_w18 hΛ).1, (gK_w18 hΛ).2⟩ F_13 A_13 _ h) k_W_sign mm_437 ⟨Nat.le_of_ble_eq_true rfl, Nat.le_of_ble_eq_true rfl⟩ rfl rfl (gK_w18 hΛ).1 rfl rfl rfl (Nat.le_of_ble_eq_true rfl) d_K_work_107) hS (fun r_14 F_14 A_14 H locs hw hP hS => ?_)
          obtain ⟨rfl, hw⟩ := hw
          obtain ⟨rfl, hw⟩ := hw
          have h := hw
          rw [← hQe]
          exact gx_iret hx hb hr hlocks hP hK hS h d_K_work_110
        · rw [← hQe]
          exact gx_out hnh hlocks hP hK hS hw
    · rw [← hQe]
      exact gx_out hnh hlocks hP hK hS hw
  · rw [← hQe]
    exact gx_out hnh hlocks hP hK hS hw
