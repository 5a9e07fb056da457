variable {l : Launch} {D : va_G} {cI cB cJ cW : ClassId} {Λ : gs_L} {L : Nat → Nat → Int64}
abbrev rm_K_residue : Room := { frames := 8, cells := 1, slots := 6, locals := 190 }
set_option maxHeartbeats 4000000 in
set_option maxRecDepth 100000 in
theorem w_K_residue (hfl : l.stackTraces = false) (hlo : gs_D Λ) (K : Nat → Nat) (p1 : Int32) (p2 : Int32) (p3 : Int32) (p4 : Int32) (hΛ : gK cI cB cW Λ K) (F A : gm_M) (post : Int32 → gm_M → gm_M → Prop) (pe : Nat → gm_M → gm_M → Prop) (h : vc_K_residue K p1 p2 p3 p4 F A post pe) : MetX l y_K_residue (.code y_K_residue b_K_residue 5 (some .int) :: gw_WS) rm_K_residue (va_Pc [.ref (K 0), .int p1, .int p2, .int p3, .int p4] (gw_PN D cI cB cJ cW Λ L F A)) (gx_Qi D cI cB cJ cW Λ L (fun r F2 A2 => post r F2 A2) pe) (gw_A Λ) := by
  refine MetX.ofW (cc := b_K_residue) (maxL := 5) (ret := (some .int)) (by decide) rfl ?_
  intro p e s m args below meth c s₁ B hml hv
  obtain ⟨hargs, ⟨hP, hK⟩, hN⟩ := hv
  have hx := B.exec
  have hb := B.bytes
  have hr := B.returns
  have hlocks := B.notSynchronized
  have htw : ∀ w ∈ gw_WS, w.before args s = true := fun w h9 => atoms_spec (ws := .code y_K_residue b_K_residue 5 (some .int) :: gw_WS) B.pre w (List.mem_cons_of_mem _ h9)
  have hP0 := hP
  have hnh := B.noHandlers (atoms_spec (ws := .code y_K_residue b_K_residue 5 (some .int) :: gw_WS) B.pre _ List.mem_cons_self)
  have hown : s.vm.findClass R_K = some m.cls := findClass_of_methodNamed B.named
  have hS : va_S (gw_A Λ) s.heap s.heap [] := va_S.rf
  refine W.eq (g2 := entryFrame m ([.ref (K 0), .int p1, .int p2, .int p3, .int p4] : List Value).toArray 5) (by rw [hargs]) ?_
  have hl := lv_entry ([.ref (K 0), .int p1, .int p2, .int p3, .int p4]) (n := 5) (Nat.le_of_ble_eq_true rfl)
  rw [lg_entry_eq]
  generalize (lg_sl ([.ref (K 0), .int p1, .int p2, .int p3, .int p4]) ++ List.replicate (5 - (lg_sl ([.ref (K 0), .int p1, .int p2, .int p3, .int p4])).length) Slot.unset).toArray = ls at hl ⊢
  have hl : lv_has ls 5 [(0, .ref (K 0)), (1, .int p1), (2, .int p2), (3, .int p3), (4, .int p4)] := hl
  generalize hQe : MQX below (gx_Qi D cI cB cJ cW Λ L (fun r F2 A2 => post r F2 A2) pe) args s (gw_A Λ) = Q
  unfold vc_K_residue at h
  refine lv_iload_n hx hb d_K_residue_0 rfl (lv_at hl 1 rfl) ?_
  refine lv_iload_n hx hb d_K_residue_1 rfl (lv_at hl 2 rfl) ?_
  refine lv_iload_n hx hb d_K_residue_2 rfl (lv_at hl 3 rfl) ?_
  refine gx_gov (gx_runS (As := [.int p1, .int p2, .int p3]) (rest := []) hx hb hml hown htw gx_blind (gx_pre hP hK hS hN) hl.1 (w_K_needRegisters hfl hlo p1 p2 p3 F A _ _ h) k_K_needRegisters mm_402 ⟨Nat.le_of_ble_eq_true rfl, Nat.le_of_ble_eq_true rfl⟩ (Nat.le_of_ble_eq_true rfl) (Nat.le_of_ble_eq_true rfl) rfl rfl (Nat.le_of_ble_eq_true rfl) d_K_residue_3) hS (fun F_1 A_1 H locs hw hP hS => ?_) (fun x_1 k_1 F_1 A_1 H locs hw hP hS => ?_)
  · obtain ⟨rfl, hw⟩ := hw
    obtain ⟨rfl, hw⟩ := hw
    have h := hw
    refine lv_iload hx hb d_K_residue_6 (lv_at hl 4 rfl) ?_
    refine gx_gov (gx_runS (As := [.int p4]) (rest := []) hx hb hml hown htw gx_blind (gx_pre hP hK hS hN) hl.1 (w_K_needRegister hfl hlo p4 F A _ _ h) k_K_needRegister mm_116 ⟨Nat.le_of_ble_eq_true rfl, Nat.le_of_ble_eq_true rfl⟩ (Nat.le_of_ble_eq_true rfl) (Nat.le_of_ble_eq_true rfl) rfl rfl (Nat.le_of_ble_eq_true rfl) d_K_residue_8) hS (fun F_2 A_2 H locs hw hP hS => ?_) (fun x_2 k_2 F_2 A_2 H locs hw hP hS => ?_)
    · obtain ⟨rfl, hw⟩ := hw
      obtain ⟨rfl, hw⟩ := hw
      have h := hw
      refine lv_aload_n hx hb d_K_residue_11 rfl (lv_at hl 0 rfl) ?_
      refine gs_get (v := .ref (K 1)) hx hb htw i_K hown hK hP (gK_0 hΛ) rfl 0 (by decide) (htw _ mm_89) rfl d_K_residue_12 ?_
      refine lv_iload_n hx hb d_K_residue_15 rfl (lv_at hl 3 rfl) ?_
      obtain ⟨hin_3, h⟩ := h
      refine gs_ald hx hb hK hP (gK_1 hΛ) hin_3 d_K_residue_16 ?_
      refine gw_goi (gw_runV (As := []) (rest := []) hx hb hml hown htw hK hP hS hl.1 (w_W_sign hlo (K (7 + 2 * p3.toNatClampNeg)) (K (8 + 2 * p3.toNatClampNeg)) (67) ⟨(gK_r hΛ hin_3).1, (gK_r hΛ hin_3).2⟩ F A _ h) k_W_sign mm_437 ⟨Nat.le_of_ble_eq_true rfl, Nat.le_of_ble_eq_true rfl⟩ rfl rfl (gK_r hΛ hin_3).1 rfl rfl rfl (Nat.le_of_ble_eq_true rfl) d_K_residue_17) hS (fun r_4 F_4 A_4 H locs hw hP hS => ?_)
      obtain ⟨rfl, hw⟩ := hw
      obtain ⟨rfl, hw⟩ := hw
      have h := hw
      refine lv_if_ge (tgt := 33) hx hb d_K_residue_20 (by decide) (fun c_20 => ?_) (fun c_20 => ?_)
      · have h := h.1 c_20
        refine lv_aload_n hx hb d_K_residue_33 rfl (lv_at hl 0 rfl) ?_
        refine gs_get (v := .ref (K 1)) hx hb htw i_K hown hK hP (gK_0 hΛ) rfl 0 (by decide) (htw _ mm_89) rfl d_K_residue_34 ?_
        refine lv_iload hx hb d_K_residue_37 (lv_at hl 4 rfl) ?_
        obtain ⟨hin_5, h⟩ := h
        refine gs_ald hx hb hK hP (gK_1 hΛ) hin_5 d_K_residue_39 ?_
        refine gw_goi (gw_runV (As := []) (rest := []) hx hb hml hown htw hK hP hS hl.1 (w_W_sign hlo (K (7 + 2 * p4.toNatClampNeg)) (K (8 + 2 * p4.toNatClampNeg)) (67) ⟨(gK_r hΛ hin_5).1, (gK_r hΛ hin_5).2⟩ F A _ h) k_W_sign mm_437 ⟨Nat.le_of_ble_eq_true rfl, Nat.le_of_ble_eq_true rfl⟩ rfl rfl (gK_r hΛ hin_5).1 rfl rfl rfl (Nat.le_of_ble_eq_true rfl) d_K_residue_40) hS (fun r_6 F_6 A_6 H locs hw hP hS => ?_)
        obtain ⟨rfl, hw⟩ := hw
        obtain ⟨rfl, hw⟩ := hw
        have h := hw
        refine lv_if_ne (tgt := 56) hx hb d_K_residue_43 (by decide) (fun c_43 => ?_) (fun c_43 => ?_)
        · have h := h.1 c_43
          refine lv_aload_n hx hb d_K_residue_56 rfl (lv_at hl 0 rfl) ?_
          refine lv_aload_n hx hb d_K_residue_57 rfl (lv_at hl 0 rfl) ?_
          refine gs_get (v := .ref (K 1)) hx hb htw i_K hown hK hP (gK_0 hΛ) rfl 0 (by decide) (htw _ mm_89) rfl d_K_residue_58 ?_
          refine lv_iload_n hx hb d_K_residue_61 rfl (lv_at hl 2 rfl) ?_
          obtain ⟨hin_7, h⟩ := h
          refine gs_ald hx hb hK hP (gK_1 hΛ) hin_7 d_K_residue_62 ?_
          refine lv_aload_n hx hb d_K_residue_63 rfl (lv_at hl 0 rfl) ?_
          refine gs_get (v := .ref (K 1)) hx hb htw i_K hown hK hP (gK_0 hΛ) rfl 0 (by decide) (htw _ mm_89) rfl d_K_residue_64 ?_
          refine lv_iload_n hx hb d_K_residue_67 rfl (lv_at hl 3 rfl) ?_
          obtain ⟨hin_8, h⟩ := h
          refine gs_ald hx hb hK hP (gK_1 hΛ) hin_8 d_K_residue_68 ?_
          refine lv_aload_n hx hb d_K_residue_69 rfl (lv_at hl 0 rfl) ?_
          refine gs_get (v := .ref (K 1)) hx hb htw i_K hown hK hP (gK_0 hΛ) rfl 0 (by decide) (htw _ mm_89) rfl d_K_residue_70 ?_
          refine lv_iload hx hb d_K_residue_73 (lv_at hl 4 rfl) ?_
          obtain ⟨hin_9, h⟩ := h
          refine gs_ald hx hb hK hP (gK_1 hΛ) hin_9 d_K_residue_75 ?_
          refine gw_gov (gw_runV (As := [.ref (K (7 + 2 * p2.toNatClampNeg)), .ref (K (7 + 2 * p3.toNatClampNeg)), .ref (K (7 + 2 * p4.toNatClampNeg))]) (rest := []) hx hb hml hown htw hK hP hS hl.1 (w_K_raiseWithin hlo K (K (7 + 2 * p2.toNatClampNeg)) (K (8 + 2 * p2.toNatClampNeg)) (67) (K (7 + 2 * p3.toNatClampNeg)) (K (8 + 2 * p3.toNatClampNeg)) (67) (K (7 + 2 * p4.toNatClampNeg)) (K (8 + 2 * p4.toNatClampNeg)) (67) hΛ ⟨(gK_r hΛ hin_7).1, (gK_r hΛ hin_7).2⟩ ⟨(gK_r hΛ hin_8).1, (gK_r hΛ hin_8).2⟩ ⟨(gK_r hΛ hin_9).1, (gK_r hΛ hin_9).2⟩ F A _ h) k_K_raiseWithin mm_566 ⟨Nat.le_of_ble_eq_true rfl, Nat.le_of_ble_eq_true rfl⟩ rfl rfl (gK_0 hΛ) rfl rfl rfl (Nat.le_of_ble_eq_true rfl) d_K_residue_76) hS (fun F_10 A_10 H locs hw hP hS => ?_)
          have h := hw
          refine lv_aload_n hx hb d_K_residue_79 rfl (lv_at hl 0 rfl) ?_
          refine gs_get (v := .ref (K 43)) hx hb htw i_K hown hK hP (gK_0 hΛ) rfl 3 (by decide) (htw _ mm_92) rfl d_K_residue_80 ?_
          refine lv_aload_n hx hb d_K_residue_83 rfl (lv_at hl 0 rfl) ?_
          refine gs_get (v := .ref (K 1)) hx hb htw i_K hown hK hP (gK_0 hΛ) rfl 0 (by decide) (htw _ mm_89) rfl d_K_residue_84 ?_
          refine lv_iload_n hx hb d_K_residue_87 rfl (lv_at hl 2 rfl) ?_
          obtain ⟨hin_11, h⟩ := h
          refine gs_ald hx hb hK hP (gK_1 hΛ) hin_11 d_K_residue_88 ?_
          refine gs_get (v := .int (F_10 (K (7 + 2 * p2.toNatClampNeg)) 2)) hx hb htw i_W hown hK hP (gK_r hΛ hin_11).1 rfl 2 (by decide) (htw _ mm_40) rfl d_K_residue_89 ?_
          obtain ⟨J_113, h, hj_113⟩ := h
          have join_113 : ∀ (v0_12 : Int32) (H : Heap) (locs : List Loc) (ls : Array Slot), J_113 v0_12 → va_P D gcls (gs_ws Λ F_10 A_10 L) H → va_S (gw_A Λ) s.heap H locs → lv_has ls 5 [(0, .ref (K 0)), (1, .int p1), (4, .int p4)] → W p l e rm_K_residue s m args below meth c H locs 0 0 Q (F0 m 113 ls [.int v0_12, .ref (K 43)]) := by
            intro v0_12 H locs ls hJ hP hS hl
            have h := hj_113 v0_12 hJ
            refine gw_gov (gw_runV (As := [.int v0_12]) (rest := []) hx hb hml hown htw hK hP hS hl.1 (w_W_setBelow hlo (K 43) (K 44) (135) v0_12 ⟨(gK_w18 hΛ).1, (gK_w18 hΛ).2⟩ F_10 A_10 _ h) k_W_setBelow mm_579 ⟨Nat.le_of_ble_eq_true rfl, Nat.le_of_ble_eq_true rfl⟩ rfl rfl (gK_w18 hΛ).1 rfl rfl rfl (Nat.le_of_ble_eq_true rfl) d_K_residue_113) hS (fun F_13 A_13 H locs hw hP hS => ?_)
            obtain ⟨rfl, hw⟩ := hw
            have h := hw
            refine lv_aload_n hx hb d_K_residue_116 rfl (lv_at hl 0 rfl) ?_
            refine gs_get (v := .ref (K 43)) hx hb htw i_K hown hK hP (gK_0 hΛ) rfl 3 (by decide) (htw _ mm_92) rfl d_K_residue_117 ?_
            refine gw_goi (gw_runV (As := []) (rest := []) hx hb hml hown htw hK hP hS hl.1 (w_W_sign hlo (K 43) (K 44) (135) ⟨(gK_w18 hΛ).1, (gK_w18 hΛ).2⟩ F_13 A_10 _ h) k_W_sign mm_437 ⟨Nat.le_of_ble_eq_true rfl, Nat.le_of_ble_eq_true rfl⟩ rfl rfl (gK_w18 hΛ).1 rfl rfl rfl (Nat.le_of_ble_eq_true rfl) d_K_residue_120) hS (fun r_14 F_14 A_14 H locs hw hP hS => ?_)
            obtain ⟨rfl, hw⟩ := hw
            obtain ⟨rfl, hw⟩ := hw
            have h := hw
            refine lv_aload_n hx hb d_K_residue_123 rfl (lv_at hl 0 rfl) ?_
            refine gs_get (v := .ref (K 1)) hx hb htw i_K hown hK hP (gK_0 hΛ) rfl 0 (by decide) (htw _ mm_89) rfl d_K_residue_124 ?_
            refine lv_iload hx hb d_K_residue_127 (lv_at hl 2 rfl) ?_
            obtain ⟨hin_15, h⟩ := h
            refine gs_ald hx hb hK hP (gK_1 hΛ) hin_15 d_K_residue_129 ?_
            refine gw_goi (gw_runV (As := []) (rest := [.int r_14]) hx hb hml hown htw hK hP hS hl.1 (w_W_sign hlo (K (7 + 2 * p4.toNatClampNeg)) (K (8 + 2 * p4.toNatClampNeg)) (67) ⟨(gK_r hΛ hin_15).1, (gK_r hΛ hin_15).2⟩ F_13 A_10 _ h) k_W_sign mm_437 ⟨Nat.le_of_ble_eq_true rfl, Nat.le_of_ble_eq_true rfl⟩ rfl rfl (gK_r hΛ hin_15).1 rfl rfl rfl (Nat.le_of_ble_eq_true rfl) d_K_residue_130) hS (fun r_16 F_16 A_16 H locs hw hP hS => ?_)
            obtain ⟨rfl, hw⟩ := hw
            obtain ⟨rfl, hw⟩ := hw
            have h := hw
            refine lv_imul hx hb d_K_residue_133 ?_
            refine lv_if_ge (tgt := 165) hx hb d_K_residue_134 (by decide) (fun c_134 => ?_) (fun c_134 => ?_)
            · have h := h.1 c_134
              refine lv_aload_n hx hb d_K_residue_165 rfl (lv_at hl 0 rfl) ?_
              refine lv_aload_n hx hb d_K_residue_166 rfl (lv_at hl 0 rfl) ?_
              refine gs_get (v := .ref (K 43)) hx hb htw i_K hown hK hP (gK_0 hΛ) rfl 3 (by decide) (htw _ mm_92) rfl d_K_residue_167 ?_
              refine lv_iload_n hx hb d_K_residue_170 rfl (lv_at hl 1 rfl) ?_
              refine gx_gov (gx_runV (As := [.ref (K 43), .int p1]) (rest := []) hx hb hml hown htw gx_blind (gx_pre hP hK hS hN) hK hP hl.1 (w_K_keep hfl hlo K (K 43) (K 44) (135) p1 hΛ ⟨(gK_w18 hΛ).1, (gK_w18 hΛ).2⟩ F_13 A_10 _ _ h) k_K_keep mm_282 ⟨Nat.le_of_ble_eq_true rfl, Nat.le_of_ble_eq_true rfl⟩ (Nat.le_of_ble_eq_true rfl) (Nat.le_of_ble_eq_true rfl) (gK_0 hΛ) rfl rfl rfl (Nat.le_of_ble_eq_true rfl) d_K_residue_171) hS (fun F_17 A_17 H locs hw hP hS => ?_) (fun x_17 k_17 F_17 A_17 H locs hw hP hS => ?_)
              · have h := hw
                refine lv_aload_n hx hb d_K_residue_174 rfl (lv_at hl 0 rfl) ?_
                refine gs_get (v := .ref (K 43)) hx hb htw i_K hown hK hP (gK_0 hΛ) rfl 3 (by decide) (htw _ mm_92) rfl d_K_residue_175 ?_
                refine gw_goi (gw_runV (As := []) (rest := []) hx hb hml hown htw hK hP hS hl.1 (w_W_sign hlo (K 43) (K 44) (135) ⟨(gK_w18 hΛ).1, (gK_w18 hΛ).2⟩ F_17 A_17 _ h) k_W_sign mm_437 ⟨Nat.le_of_ble_eq_true rfl, Nat.le_of_ble_eq_true rfl⟩ rfl rfl (gK_w18 hΛ).1 rfl rfl rfl (Nat.le_of_ble_eq_true rfl) d_K_residue_178) hS (fun r_18 F_18 A_18 H locs hw hP hS => ?_)
                obtain ⟨rfl, hw⟩ := hw
                obtain ⟨rfl, hw⟩ := hw
                have h := hw
                rw [← hQe]
                exact gx_iret hx hb hr hlocks hP hK hS h d_K_residue_181
              · rw [← hQe]
                exact gx_out hnh hlocks hP hK hS hw
            · have h := h.2 c_134
              refine lv_aload_n hx hb d_K_residue_137 rfl (lv_at hl 0 rfl) ?_
              refine gs_get (v := .ref (K 43)) hx hb htw i_K hown hK hP (gK_0 hΛ) rfl 3 (by decide) (htw _ mm_92) rfl d_K_residue_138 ?_
              refine lv_aload_n hx hb d_K_residue_141 rfl (lv_at hl 0 rfl) ?_
              refine gs_get (v := .ref (K 43)) hx hb htw i_K hown hK hP (gK_0 hΛ) rfl 3 (by decide) (htw _ mm_92) rfl d_K_residue_142 ?_
              refine lv_aload_n hx hb d_K_residue_145 rfl (lv_at hl 0 rfl) ?_
              refine gs_get (v := .ref (K 1)) hx hb htw i_K hown hK hP (gK_0 hΛ) rfl 0 (by decide) (htw _ mm_89) rfl d_K_residue_146 ?_
              refine lv_iload hx hb d_K_residue_149 (lv_at hl 2 rfl) ?_
              obtain ⟨hin_19, h⟩ := h
              refine gs_ald hx hb hK hP (gK_1 hΛ) hin_19 d_K_residue_151 ?_
              refine lv_aload_n hx hb d_K_residue_152 rfl (lv_at hl 0 rfl) ?_
              refine gs_get (v := .ref (K 1)) hx hb htw i_K hown hK hP (gK_0 hΛ) rfl 0 (by decide) (htw _ mm_89) rfl d_K_residue_153 ?_
              refine lv_iload hx hb d_K_residue_156 (lv_at hl 2 rfl) ?_
              obtain ⟨hin_20, h⟩ := h
              refine gs_ald hx hb hK hP (gK_1 hΛ) hin_20 d_K_residue_158 ?_
              refine gs_get (v := .int (F_13 (K (7 + 2 * p4.toNatClampNeg)) 2)) hx hb htw i_W hown hK hP (gK_r hΛ hin_20).1 rfl 2 (by decide) (htw _ mm_40) rfl d_K_residue_159 ?_
              refine gw_gov (gw_runV (As := [.ref (K 43), .ref (K (7 + 2 * p4.toNatClampNeg)), .int (F_13 (K (7 + 2 * p4.toNatClampNeg)) 2)]) (rest := []) hx hb hml hown htw hK hP hS hl.1 (w_W_takeSum hlo (K 43) (K 44) (135) (K 43) (K 44) (135) (K (7 + 2 * p4.toNatClampNeg)) (K (8 + 2 * p4.toNatClampNeg)) (67) (F_13 (K (7 + 2 * p4.toNatClampNeg)) 2) ⟨(gK_w18 hΛ).1, (gK_w18 hΛ).2⟩ ⟨(gK_w18 hΛ).1, (gK_w18 hΛ).2⟩ ⟨(gK_r hΛ hin_19).1, (gK_r hΛ hin_19).2⟩ F_13 A_10 _ h) k_W_takeSum mm_405 ⟨Nat.le_of_ble_eq_true rfl, Nat.le_of_ble_eq_true rfl⟩ rfl rfl (gK_w18 hΛ).1 rfl rfl rfl (Nat.le_of_ble_eq_true rfl) d_K_residue_162) hS (fun F_21 A_21 H locs hw hP hS => ?_)
              have h := hw
              refine lv_aload_n hx hb d_K_residue_165 rfl (lv_at hl 0 rfl) ?_
              refine lv_aload_n hx hb d_K_residue_166 rfl (lv_at hl 0 rfl) ?_
              refine gs_get (v := .ref (K 43)) hx hb htw i_K hown hK hP (gK_0 hΛ) rfl 3 (by decide) (htw _ mm_92) rfl d_K_residue_167 ?_
              refine lv_iload_n hx hb d_K_residue_170 rfl (lv_at hl 1 rfl) ?_
              refine gx_gov (gx_runV (As := [.ref (K 43), .int p1]) (rest := []) hx hb hml hown htw gx_blind (gx_pre hP hK hS hN) hK hP hl.1 (w_K_keep hfl hlo K (K 43) (K 44) (135) p1 hΛ ⟨(gK_w18 hΛ).1, (gK_w18 hΛ).2⟩ F_21 A_21 _ _ h) k_K_keep mm_282 ⟨Nat.le_of_ble_eq_true rfl, Nat.le_of_ble_eq_true rfl⟩ (Nat.le_of_ble_eq_true rfl) (Nat.le_of_ble_eq_true rfl) (gK_0 hΛ) rfl rfl rfl (Nat.le_of_ble_eq_true rfl) d_K_residue_171) hS (fun F_22 A_22 H locs hw hP hS => ?_) (fun x_22 k_22 F_22 A_22 H locs hw hP hS => ?_)
              · have h := hw
                refine lv_aload_n hx hb d_K_residue_174 rfl (lv_at hl 0 rfl) ?_
                refine gs_get (v := .ref (K 43)) hx hb htw i_K hown hK hP (gK_0 hΛ) rfl 3 (by decide) (htw _ mm_92) rfl d_K_residue_175 ?_
                refine gw_goi (gw_runV (As := []) (rest := []) hx hb hml hown htw hK hP hS hl.1 (w_W_sign hlo (K 43) (K 44) (135) ⟨(gK_w18 hΛ).1, (gK_w18 hΛ).2⟩ F_22 A_22 _ h) k_W_sign mm_437 ⟨Nat.le_of_ble_eq_true rfl, Nat.le_of_ble_eq_true rfl⟩ rfl rfl (gK_w18 hΛ).1 rfl rfl rfl (Nat.le_of_ble_eq_true rfl) d_K_residue_178) hS (fun r_23 F_23 A_23 H locs hw hP hS => ?_)
                obtain ⟨rfl, hw⟩ := hw
                obtain ⟨rfl, hw⟩ := hw
                have h := hw
                rw [← hQe]
                exact gx_iret hx hb hr hlocks hP hK hS h d_K_residue_181
              · rw [← hQe]
                exact gx_out hnh hlocks hP hK hS hw
          obtain ⟨J_112, h, hj_112⟩ := h
          have join_112 : ∀  (H : Heap) (locs : List Loc) (ls : Array Slot), J_112 → va_P D gcls (gs_ws Λ F_10 A_10 L) H → va_S (gw_A Λ) s.heap H locs → lv_has ls 5 [(0, .ref (K 0)), (1, .int p1), (4, .int p4)] → W p l e rm_K_residue s m args below meth c H locs 0 0 Q (F0 m 112 ls [.ref (K 43)]) := by
            intro  H locs ls hJ hP hS hl
            have h := hj_112  hJ
            refine lv_iconst (v := (0 : Int32)) hx hb d_K_residue_112 (by decide) ?_
            exact join_113 (0 : Int32) _ _ _ h hP hS hl
          refine lv_if_eq (tgt := 112) hx hb d_K_residue_92 (by decide) (fun c_92 => ?_) (fun c_92 => ?_)
          · have h := h.1 c_92
            exact join_112 _ _ _ h hP hS (lv_sub hl [0, 1, 4] rfl)
          · have h := h.2 c_92
            refine lv_aload_n hx hb d_K_residue_95 rfl (lv_at hl 0 rfl) ?_
            refine gs_get (v := .ref (K 1)) hx hb htw i_K hown hK hP (gK_0 hΛ) rfl 0 (by decide) (htw _ mm_89) rfl d_K_residue_96 ?_
            refine lv_iload_n hx hb d_K_residue_99 rfl (lv_at hl 3 rfl) ?_
            obtain ⟨hin_25, h⟩ := h
            refine gs_ald hx hb hK hP (gK_1 hΛ) hin_25 d_K_residue_100 ?_
            refine lv_iconst (v := (0 : Int32)) hx hb d_K_residue_101 (by decide) ?_
            refine gw_goi (gw_runV (As := [.int (0 : Int32)]) (rest := [.ref (K 43)]) hx hb hml hown htw hK hP hS hl.1 (w_W_hasBit hlo (K (7 + 2 * p3.toNatClampNeg)) (K (8 + 2 * p3.toNatClampNeg)) (67) (0 : Int32) ⟨(gK_r hΛ hin_25).1, (gK_r hΛ hin_25).2⟩ F_10 A_10 _ h) k_W_hasBit mm_575 ⟨Nat.le_of_ble_eq_true rfl, Nat.le_of_ble_eq_true rfl⟩ rfl rfl (gK_r hΛ hin_25).1 rfl rfl rfl (Nat.le_of_ble_eq_true rfl) d_K_residue_102) hS (fun r_26 F_26 A_26 H locs hw hP hS => ?_)
            obtain ⟨rfl, hw⟩ := hw
            obtain ⟨rfl, hw⟩ := hw
            have h := hw
            refine lv_if_eq (tgt := 112) hx hb d_K_residue_105 (by decide) (fun c_105 => ?_) (fun c_105 => ?_)
            · have h := h.1 c_105
              exact join_112 _ _ _ h hP hS (lv_sub hl [0, 1, 4] rfl)
            · have h := h.2 c_105
              refine lv_iconst (v := (1 : Int32)) hx hb d_K_residue_108 (by decide) ?_
              refine lv_goto (tgt := 113) hx hb d_K_residue_109 (by decide) ?_
              exact join_113 (1 : Int32) _ _ _ h hP hS (lv_sub hl [0, 1, 4] rfl)
        · have h := h.2 c_43
          rw [← hQe]
          exact gx_throw (tx := "divided by 0") hx hb hml hown htw hfl hN hnh hlocks hP0 hP hK hS hl.1 3 gx_at3 (by decide) ⟨Nat.le_of_ble_eq_true rfl, Nat.le_of_ble_eq_true rfl, Nat.le_of_ble_eq_true rfl, Nat.le_of_ble_eq_true rfl⟩ d_K_residue_46 d_K_residue_49 d_K_residue_50 d_K_residue_52 d_K_residue_55 h
      · have h := h.2 c_20
        rw [← hQe]
        exact gx_throw (tx := "a power below 0") hx hb hml hown htw hfl hN hnh hlocks hP0 hP hK hS hl.1 1 gx_at1 (by decide) ⟨Nat.le_of_ble_eq_true rfl, Nat.le_of_ble_eq_true rfl, Nat.le_of_ble_eq_true rfl, Nat.le_of_ble_eq_true rfl⟩ d_K_residue_23 d_K_residue_26 d_K_residue_27 d_K_residue_29 d_K_residue_32 h
    · rw [← hQe]
      exact gx_out hnh hlocks hP hK hS hw
  · rw [← hQe]
    exact gx_out hnh hlocks hP hK hS hw
abbrev rm_K_compare : Room := { frames := 7, cells := 1, slots := 6, locals := 102 }
set_option maxHeartbeats 4000000 in
set_option maxRecDepth 100000 in
theorem w_K_compare (hfl : l.stackTraces = false) (hlo : gs_D Λ) (K : Nat → Nat) (p1 : Int32) (p2 : Int32) (hΛ : gK cI cB cW Λ K) (F A : gm_M) (post : Int32 → Prop) (pe : Nat → gm_M → gm_M → Prop) (h : vc_K_compare K p1 p2 F A post pe) : MetX l y_K_compare (.code y_K_compare b_K_compare 3 (some .int) :: gw_WS) rm_K_compare (va_Pc [.ref (K 0), .int p1, .int p2] (gw_PN D cI cB cJ cW Λ L F A)) (gx_Qi D cI cB cJ cW Λ L (fun r F2 A2 => F = F2 ∧ A = A2 ∧ post r) pe) (gw_A Λ) := by
  refine MetX.ofW (cc := b_K_compare) (maxL := 3) (ret := (some .int)) (by decide) rfl ?_
  intro p e s m args below meth c s₁ B hml hv
  obtain ⟨hargs, ⟨hP, hK⟩, hN⟩ := hv
  have hx := B.exec
  have hb := B.bytes
  have hr := B.returns
  have hlocks := B.notSynchronized
  have htw : ∀ w ∈ gw_WS, w.before args s = true := fun w h9 => atoms_spec (ws := .code y_K_compare b_K_compare 3 (some .int) :: gw_WS) B.pre w (List.mem_cons_of_mem _ h9)
  have hP0 := hP
  have hnh := B.noHandlers (atoms_spec (ws := .code y_K_compare b_K_compare 3 (some .int) :: gw_WS) B.pre _ List.mem_cons_self)
  have hown : s.vm.findClass R_K = some m.cls := findClass_of_methodNamed B.named
  have hS : va_S (gw_A Λ) s.heap s.heap [] := va_S.rf
  refine W.eq (g2 := entryFrame m ([.ref (K 0), .int p1, .int p2] : List Value).toArray 3) (by rw [hargs]) ?_
  have hl := lv_entry ([.ref (K 0), .int p1, .int p2]) (n := 3) (Nat.le_of_ble_eq_true rfl)
  rw [lg_entry_eq]
  generalize (lg_sl ([.ref (K 0), .int p1, .int p2]) ++ List.replicate (3 - (lg_sl ([.ref (K 0), .int p1, .int p2])).length) Slot.unset).toArray = ls at hl ⊢
  have hl : lv_has ls 3 [(0, .ref (K 0)), (1, .int p1), (2, .int p2)] := hl
  generalize hQe : MQX below (gx_Qi D cI cB cJ cW Λ L (fun r F2 A2 => F = F2 ∧ A = A2 ∧ post r) pe) args s (gw_A Λ) = Q
  unfold vc_K_compare at h
  refine lv_iload_n hx hb d_K_compare_0 rfl (lv_at hl 1 rfl) ?_
  refine gx_gov (gx_runS (As := [.int p1]) (rest := []) hx hb hml hown htw gx_blind (gx_pre hP hK hS hN) hl.1 (w_K_needRegister hfl hlo p1 F A _ _ h) k_K_needRegister mm_116 ⟨Nat.le_of_ble_eq_true rfl, Nat.le_of_ble_eq_true rfl⟩ (Nat.le_of_ble_eq_true rfl) (Nat.le_of_ble_eq_true rfl) rfl rfl (Nat.le_of_ble_eq_true rfl) d_K_compare_1) hS (fun F_1 A_1 H locs hw hP hS => ?_) (fun x_1 k_1 F_1 A_1 H locs hw hP hS => ?_)
  · obtain ⟨rfl, hw⟩ := hw
    obtain ⟨rfl, hw⟩ := hw
    have h := hw
    refine lv_iload_n hx hb d_K_compare_4 rfl (lv_at hl 2 rfl) ?_
    refine gx_gov (gx_runS (As := [.int p2]) (rest := []) hx hb hml hown htw gx_blind (gx_pre hP hK hS hN) hl.1 (w_K_needRegister hfl hlo p2 F A _ _ h) k_K_needRegister mm_116 ⟨Nat.le_of_ble_eq_true rfl, Nat.le_of_ble_eq_true rfl⟩ (Nat.le_of_ble_eq_true rfl) (Nat.le_of_ble_eq_true rfl) rfl rfl (Nat.le_of_ble_eq_true rfl) d_K_compare_5) hS (fun F_2 A_2 H locs hw hP hS => ?_) (fun x_2 k_2 F_2 A_2 H locs hw hP hS => ?_)
    · obtain ⟨rfl, hw⟩ := hw
      obtain ⟨rfl, hw⟩ := hw
      have h := hw
      refine lv_aload_n hx hb d_K_compare_8 rfl (lv_at hl 0 rfl) ?_
      refine gs_get (v := .ref (K 1)) hx hb htw i_K hown hK hP (gK_0 hΛ) rfl 0 (by decide) (htw _ mm_89) rfl d_K_compare_9 ?_
      refine lv_iload_n hx hb d_K_compare_12 rfl (lv_at hl 1 rfl) ?_
      obtain ⟨hin_3, h⟩ := h
      refine gs_ald hx hb hK hP (gK_1 hΛ) hin_3 d_K_compare_13 ?_
      refine lv_aload_n hx hb d_K_compare_14 rfl (lv_at hl 0 rfl) ?_
      refine gs_get (v := .ref (K 1)) hx hb htw i_K hown hK hP (gK_0 hΛ) rfl 0 (by decide) (htw _ mm_89) rfl d_K_compare_15 ?_
      refine lv_iload_n hx hb d_K_compare_18 rfl (lv_at hl 2 rfl) ?_
      obtain ⟨hin_4, h⟩ := h
      refine gs_ald hx hb hK hP (gK_1 hΛ) hin_4 d_K_compare_19 ?_
      refine gw_goi (gw_runV (As := [.ref (K (7 + 2 * p2.toNatClampNeg))]) (rest := []) hx hb hml hown htw hK hP hS hl.1 (w_W_orderTo hlo (K (7 + 2 * p1.toNatClampNeg)) (K (8 + 2 * p1.toNatClampNeg)) (67) (K (7 + 2 * p2.toNatClampNeg)) (K (8 + 2 * p2.toNatClampNeg)) (67) ⟨(gK_r hΛ hin_3).1, (gK_r hΛ hin_3).2⟩ ⟨(gK_r hΛ hin_4).1, (gK_r hΛ hin_4).2⟩ F A _ h) k_W_orderTo mm_587 ⟨Nat.le_of_ble_eq_true rfl, Nat.le_of_ble_eq_true rfl⟩ rfl rfl (gK_r hΛ hin_3).1 rfl rfl rfl (Nat.le_of_ble_eq_true rfl) d_K_compare_20) hS (fun r_5 F_5 A_5 H locs hw hP hS => ?_)
      obtain ⟨rfl, hw⟩ := hw
      obtain ⟨rfl, hw⟩ := hw
      have h := hw
      rw [← hQe]
      exact gx_iret hx hb hr hlocks hP hK hS ⟨rfl, rfl, h⟩ d_K_compare_23
    · rw [← hQe]
      exact gx_out hnh hlocks hP hK hS hw
  · rw [← hQe]
    exact gx_out hnh hlocks hP hK hS hw
abbrev rm_K_small : Room := { frames := 7, cells := 1, slots := 6, locals := 102 }
set_option maxHeartbeats 4000000 in
set_option maxRecDepth 100000 in
theorem w_K_small (hfl : l.stackTraces = false) (hlo : gs_D Λ) (K : Nat → Nat) (p1 : Int32) (hΛ : gK cI cB cW Λ K) (F A : gm_M) (post : Int64 → Prop) (pe : Nat → gm_M → gm_M → Prop) (h : vc_K_small K p1 F A post pe) : MetX l y_K_small (.code y_K_small b_K_small 2 (some .long) :: gw_WS) rm_K_small (va_Pc [.ref (K 0), .int p1] (gw_PN D cI cB cJ cW Λ L F A)) (gx_Ql D cI cB cJ cW Λ L (fun r F2 A2 => F = F2 ∧ A = A2 ∧ post r) pe) (gw_A Λ) := by
  refine MetX.ofW (cc := b_K_small) (maxL := 2) (ret := (some .long)) (by decide) rfl ?_
  intro p e s m args below meth c s₁ B hml hv
  obtain ⟨hargs, ⟨hP, hK⟩, hN⟩ := hv
  have hx := B.exec
  have hb := B.bytes
  have hr := B.returns
  have hlocks := B.notSynchronized
  have htw : ∀ w ∈ gw_WS, w.before args s = true := fun w h9 => atoms_spec (ws := .code y_K_small b_K_small 2 (some .long) :: gw_WS) B.pre w (List.mem_cons_of_mem _ h9)
  have hP0 := hP
  have hnh := B.noHandlers (atoms_spec (ws := .code y_K_small b_K_small 2 (some .long) :: gw_WS) B.pre _ List.mem_cons_self)
  have hown : s.vm.findClass R_K = some m.cls := findClass_of_methodNamed B.named
  have hS : va_S (gw_A Λ) s.heap s.heap [] := va_S.rf
  refine W.eq (g2 := entryFrame m ([.ref (K 0), .int p1] : List Value).toArray 2) (by rw [hargs]) ?_
  have hl := lv_entry ([.ref (K 0), .int p1]) (n := 2) (Nat.le_of_ble_eq_true rfl)
  rw [lg_entry_eq]
  generalize (lg_sl ([.ref (K 0), .int p1]) ++ List.replicate (2 - (lg_sl ([.ref (K 0), .int p1])).length) Slot.unset).toArray = ls at hl ⊢
  have hl : lv_has ls 2 [(0, .ref (K 0)), (1, .int p1)] := hl
  generalize hQe : MQX below (gx_Ql D cI cB cJ cW Λ L (fun r F2 A2 => F = F2 ∧ A = A2 ∧ post r) pe) args s (gw_A Λ) = Q
  unfold vc_K_small at h
  refine lv_iload_n hx hb d_K_small_0 rfl (lv_at hl 1 rfl) ?_
  refine gx_gov (gx_runS (As := [.int p1]) (rest := []) hx hb hml hown htw gx_blind (gx_pre hP hK hS hN) hl.1 (w_K_needRegister hfl hlo p1 F A _ _ h) k_K_needRegister mm_116 ⟨Nat.le_of_ble_eq_true rfl, Nat.le_of_ble_eq_true rfl⟩ (Nat.le_of_ble_eq_true rfl) (Nat.le_of_ble_eq_true rfl) rfl rfl (Nat.le_of_ble_eq_true rfl) d_K_small_1) hS (fun F_1 A_1 H locs hw hP hS => ?_) (fun x_1 k_1 F_1 A_1 H locs hw hP hS => ?_)
  · obtain ⟨rfl, hw⟩ := hw
    obtain ⟨rfl, hw⟩ := hw
    have h := hw
    refine lv_aload_n hx hb d_K_small_4 rfl (lv_at hl 0 rfl) ?_
    refine gs_get (v := .ref (K 1)) hx hb htw i_K hown hK hP (gK_0 hΛ) rfl 0 (by decide) (htw _ mm_89) rfl d_K_small_5 ?_
    refine lv_iload_n hx hb d_K_small_8 rfl (lv_at hl 1 rfl) ?_
    obtain ⟨hin_2, h⟩ := h
    refine gs_ald hx hb hK hP (gK_1 hΛ) hin_2 d_K_small_9 ?_
    refine gw_goi (gw_runV (As := []) (rest := []) hx hb hml hown htw hK hP hS hl.1 (w_W_fitsLong hlo (K (7 + 2 * p1.toNatClampNeg)) (K (8 + 2 * p1.toNatClampNeg)) (67) ⟨(gK_r hΛ hin_2).1, (gK_r hΛ hin_2).2⟩ F A _ h) k_W_fitsLong mm_599 ⟨Nat.le_of_ble_eq_true rfl, Nat.le_of_ble_eq_true rfl⟩ rfl rfl (gK_r hΛ hin_2).1 rfl rfl rfl (Nat.le_of_ble_eq_true rfl) d_K_small_10) hS (fun r_3 F_3 A_3 H locs hw hP hS => ?_)
    obtain ⟨rfl, hw⟩ := hw
    obtain ⟨rfl, hw⟩ := hw
    have h := hw
    refine lv_if_ne (tgt := 26) hx hb d_K_small_13 (by decide) (fun c_13 => ?_) (fun c_13 => ?_)
    · have h := h.1 c_13
      refine lv_aload_n hx hb d_K_small_26 rfl (lv_at hl 0 rfl) ?_
      refine gs_get (v := .ref (K 1)) hx hb htw i_K hown hK hP (gK_0 hΛ) rfl 0 (by decide) (htw _ mm_89) rfl d_K_small_27 ?_
      refine lv_iload_n hx hb d_K_small_30 rfl (lv_at hl 1 rfl) ?_
      obtain ⟨hin_4, h⟩ := h
      refine gs_ald hx hb hK hP (gK_1 hΛ) hin_4 d_K_small_31 ?_
      refine gw_gol (gw_runV (As := []) (rest := []) hx hb hml hown htw hK hP hS hl.1 (w_W_lowestBits hlo (K (7 + 2 * p1.toNatClampNeg)) (K (8 + 2 * p1.toNatClampNeg)) (67) ⟨(gK_r hΛ hin_4).1, (gK_r hΛ hin_4).2⟩ F A _ h) k_W_lowestBits mm_609 ⟨Nat.le_of_ble_eq_true rfl, Nat.le_of_ble_eq_true rfl⟩ rfl rfl (gK_r hΛ hin_4).1 rfl rfl rfl (Nat.le_of_ble_eq_true rfl) d_K_small_32) hS (fun r_5 F_5 A_5 H locs hw hP hS => ?_)
      obtain ⟨rfl, hw⟩ := hw
      obtain ⟨rfl, hw⟩ := hw
      have h := hw
      rw [← hQe]
      exact gx_lret hx hb hr hlocks hP hK hS ⟨rfl, rfl, h⟩ d_K_small_35
    · have h := h.2 c_13
      rw [← hQe]
      exact gx_throw (tx := "too many bits for a long") hx hb hml hown htw hfl hN hnh hlocks hP0 hP hK hS hl.1 3 gx_at3 (by decide) ⟨Nat.le_of_ble_eq_true rfl, Nat.le_of_ble_eq_true rfl, Nat.le_of_ble_eq_true rfl, Nat.le_of_ble_eq_true rfl⟩ d_K_small_16 d_K_small_19 d_K_small_20 d_K_small_22 d_K_small_25 h
  · rw [← hQe]
    exact gx_out hnh hlocks hP hK hS hw
abbrev rm_K_low : Room := { frames := 7, cells := 1, slots := 6, locals := 102 }
set_option maxHeartbeats 4000000 in
set_option maxRecDepth 100000 in
theorem w_K_low (hfl : l.stackTraces = false) (hlo : gs_D Λ) (K : Nat → Nat) (p1 : Int32) (hΛ : gK cI cB cW Λ K) (F A : gm_M) (post : Int64 → Prop) (pe : Nat → gm_M → gm_M → Prop) (h : vc_K_low K p1 F A post pe) : MetX l y_K_low (.code y_K_low b_K_low 2 (some .long) :: gw_WS) rm_K_low (va_Pc [.ref (K 0), .int p1] (gw_PN D cI cB cJ cW Λ L F A)) (gx_Ql D cI cB cJ cW Λ L (fun r F2 A2 => F = F2 ∧ A = A2 ∧ post r) pe) (gw_A Λ) := by
  refine MetX.ofW (cc := b_K_low) (maxL := 2) (ret := (some .long)) (by decide) rfl ?_
  intro p e s m args below meth c s₁ B hml hv
  obtain ⟨hargs, ⟨hP, hK⟩, hN⟩ := hv
  have hx := B.exec
  have hb := B.bytes
  have hr := B.returns
  have hlocks := B.notSynchronized
  have htw : ∀ w ∈ gw_WS, w.before args s = true := fun w h9 => atoms_spec (ws := .code y_K_low b_K_low 2 (some .long) :: gw_WS) B.pre w (List.mem_cons_of_mem _ h9)
  have hP0 := hP
  have hnh := B.noHandlers (atoms_spec (ws := .code y_K_low b_K_low 2 (some .long) :: gw_WS) B.pre _ List.mem_cons_self)
  have hown : s.vm.findClass R_K = some m.cls := findClass_of_methodNamed B.named
  have hS : va_S (gw_A Λ) s.heap s.heap [] := va_S.rf
  refine W.eq (g2 := entryFrame m ([.ref (K 0), .int p1] : List Value).toArray 2) (by rw [hargs]) ?_
  have hl := lv_entry ([.ref (K 0), .int p1]) (n := 2) (Nat.le_of_ble_eq_true rfl)
  rw [lg_entry_eq]
  generalize (lg_sl ([.ref (K 0), .int p1]) ++ List.replicate (2 - (lg_sl ([.ref (K 0), .int p1])).length) Slot.unset).toArray = ls at hl ⊢
  have hl : lv_has ls 2 [(0, .ref (K 0)), (1, .int p1)] := hl
  generalize hQe : MQX below (gx_Ql D cI cB cJ cW Λ L (fun r F2 A2 => F = F2 ∧ A = A2 ∧ post r) pe) args s (gw_A Λ) = Q
  unfold vc_K_low at h
  refine lv_iload_n hx hb d_K_low_0 rfl (lv_at hl 1 rfl) ?_
  refine gx_gov (gx_runS (As := [.int p1]) (rest := []) hx hb hml hown htw gx_blind (gx_pre hP hK hS hN) hl.1 (w_K_needRegister hfl hlo p1 F A _ _ h) k_K_needRegister mm_116 ⟨Nat.le_of_ble_eq_true rfl, Nat.le_of_ble_eq_true rfl⟩ (Nat.le_of_ble_eq_true rfl) (Nat.le_of_ble_eq_true rfl) rfl rfl (Nat.le_of_ble_eq_true rfl) d_K_low_1) hS (fun F_1 A_1 H locs hw hP hS => ?_) (fun x_1 k_1 F_1 A_1 H locs hw hP hS => ?_)
  · obtain ⟨rfl, hw⟩ := hw
    obtain ⟨rfl, hw⟩ := hw
    have h := hw
    refine lv_aload_n hx hb d_K_low_4 rfl (lv_at hl 0 rfl) ?_
    refine gs_get (v := .ref (K 1)) hx hb htw i_K hown hK hP (gK_0 hΛ) rfl 0 (by decide) (htw _ mm_89) rfl d_K_low_5 ?_
    refine lv_iload_n hx hb d_K_low_8 rfl (lv_at hl 1 rfl) ?_
    obtain ⟨hin_2, h⟩ := h
    refine gs_ald hx hb hK hP (gK_1 hΛ) hin_2 d_K_low_9 ?_
    refine gw_gol (gw_runV (As := []) (rest := []) hx hb hml hown htw hK hP hS hl.1 (w_W_lowestBits hlo (K (7 + 2 * p1.toNatClampNeg)) (K (8 + 2 * p1.toNatClampNeg)) (67) ⟨(gK_r hΛ hin_2).1, (gK_r hΛ hin_2).2⟩ F A _ h) k_W_lowestBits mm_609 ⟨Nat.le_of_ble_eq_true rfl, Nat.le_of_ble_eq_true rfl⟩ rfl rfl (gK_r hΛ hin_2).1 rfl rfl rfl (Nat.le_of_ble_eq_true rfl) d_K_low_10) hS (fun r_3 F_3 A_3 H locs hw hP hS => ?_)
    obtain ⟨rfl, hw⟩ := hw
    obtain ⟨rfl, hw⟩ := hw
    have h := hw
    rw [← hQe]
    exact gx_lret hx hb hr hlocks hP hK hS ⟨rfl, rfl, h⟩ d_K_low_13
  · rw [← hQe]
    exact gx_out hnh hlocks hP hK hS hw
abbrev rm_K_folded : Room := { frames := 7, cells := 1, slots := 6, locals := 102 }
set_option maxHeartbeats 4000000 in
set_option maxRecDepth 100000 in
theorem w_K_folded (hfl : l.stackTraces = false) (hlo : gs_D Λ) (K : Nat → Nat) (p1 : Int32) (hΛ : gK cI cB cW Λ K) (F A : gm_M) (post : Int64 → Prop) (pe : Nat → gm_M → gm_M → Prop) (h : vc_K_folded K p1 F A post pe) : MetX l y_K_folded (.code y_K_folded b_K_folded 2 (some .long) :: gw_WS) rm_K_folded (va_Pc [.ref (K 0), .int p1] (gw_PN D cI cB cJ cW Λ L F A)) (gx_Ql D cI cB cJ cW Λ L (fun r F2 A2 => F = F2 ∧ A = A2 ∧ post r) pe) (gw_A Λ) := by
  refine MetX.ofW (cc := b_K_folded) (maxL := 2) (ret := (some .long)) (by decide) rfl ?_
  intro p e s m args below meth c s₁ B hml hv
  obtain ⟨hargs, ⟨hP, hK⟩, hN⟩ := hv
  have hx := B.exec
  have hb := B.bytes
  have hr := B.returns
  have hlocks := B.notSynchronized
  have htw : ∀ w ∈ gw_WS, w.before args s = true := fun w h9 => atoms_spec (ws := .code y_K_folded b_K_folded 2 (some .long) :: gw_WS) B.pre w (List.mem_cons_of_mem _ h9)
  have hP0 := hP
  have hnh := B.noHandlers (atoms_spec (ws := .code y_K_folded b_K_folded 2 (some .long) :: gw_WS) B.pre _ List.mem_cons_self)
  have hown : s.vm.findClass R_K = some m.cls := findClass_of_methodNamed B.named
  have hS : va_S (gw_A Λ) s.heap s.heap [] := va_S.rf
  refine W.eq (g2 := entryFrame m ([.ref (K 0), .int p1] : List Value).toArray 2) (by rw [hargs]) ?_
  have hl := lv_entry ([.ref (K 0), .int p1]) (n := 2) (Nat.le_of_ble_eq_true rfl)
  rw [lg_entry_eq]
  generalize (lg_sl ([.ref (K 0), .int p1]) ++ List.replicate (2 - (lg_sl ([.ref (K 0), .int p1])).length) Slot.unset).toArray = ls at hl ⊢
  have hl : lv_has ls 2 [(0, .ref (K 0)), (1, .int p1)] := hl
  generalize hQe : MQX below (gx_Ql D cI cB cJ cW Λ L (fun r F2 A2 => F = F2 ∧ A = A2 ∧ post r) pe) args s (gw_A Λ) = Q
  unfold vc_K_folded at h
  refine lv_iload_n hx hb d_K_folded_0 rfl (lv_at hl 1 rfl) ?_
  refine gx_gov (gx_runS (As := [.int p1]) (rest := []) hx hb hml hown htw gx_blind (gx_pre hP hK hS hN) hl.1 (w_K_needRegister hfl hlo p1 F A _ _ h) k_K_needRegister mm_116 ⟨Nat.le_of_ble_eq_true rfl, Nat.le_of_ble_eq_true rfl⟩ (Nat.le_of_ble_eq_true rfl) (Nat.le_of_ble_eq_true rfl) rfl rfl (Nat.le_of_ble_eq_true rfl) d_K_folded_1) hS (fun F_1 A_1 H locs hw hP hS => ?_) (fun x_1 k_1 F_1 A_1 H locs hw hP hS => ?_)
  · obtain ⟨rfl, hw⟩ := hw
    obtain ⟨rfl, hw⟩ := hw
    have h := hw
    refine lv_aload_n hx hb d_K_folded_4 rfl (lv_at hl 0 rfl) ?_
    refine gs_get (v := .ref (K 1)) hx hb htw i_K hown hK hP (gK_0 hΛ) rfl 0 (by decide) (htw _ mm_89) rfl d_K_folded_5 ?_
    refine lv_iload_n hx hb d_K_folded_8 rfl (lv_at hl 1 rfl) ?_
    obtain ⟨hin_2, h⟩ := h
    refine gs_ald hx hb hK hP (gK_1 hΛ) hin_2 d_K_folded_9 ?_
    refine gw_gol (gw_runV (As := []) (rest := []) hx hb hml hown htw hK hP hS hl.1 (w_W_foldedBits hlo (K (7 + 2 * p1.toNatClampNeg)) (K (8 + 2 * p1.toNatClampNeg)) (67) ⟨(gK_r hΛ hin_2).1, (gK_r hΛ hin_2).2⟩ F A _ h) k_W_foldedBits mm_624 ⟨Nat.le_of_ble_eq_true rfl, Nat.le_of_ble_eq_true rfl⟩ rfl rfl (gK_r hΛ hin_2).1 rfl rfl rfl (Nat.le_of_ble_eq_true rfl) d_K_folded_10) hS (fun r_3 F_3 A_3 H locs hw hP hS => ?_)
    obtain ⟨rfl, hw⟩ := hw
    obtain ⟨rfl, hw⟩ := hw
    have h := hw
    rw [← hQe]
    exact gx_lret hx hb hr hlocks hP hK hS ⟨rfl, rfl, h⟩ d_K_folded_13
  · rw [← hQe]
    exact gx_out hnh hlocks hP hK hS hw
abbrev rm_K_size : Room := { frames := 7, cells := 1, slots := 6, locals := 102 }
set_option maxHeartbeats 4000000 in
set_option maxRecDepth 100000 in
theorem w_K_size (hfl : l.stackTraces = false) (hlo : gs_D Λ) (K : Nat → Nat) (p1 : Int32) (hΛ : gK cI cB cW Λ K) (F A : gm_M) (post : Int32 → Prop) (pe : Nat → gm_M → gm_M → Prop) (h : vc_K_size K p1 F A post pe) : MetX l y_K_size (.code y_K_size b_K_size 2 (some .int) :: gw_WS) rm_K_size (va_Pc [.ref (K 0), .int p1] (gw_PN D cI cB cJ cW Λ L F A)) (gx_Qi D cI cB cJ cW Λ L (fun r F2 A2 => F = F2 ∧ A = A2 ∧ post r) pe) (gw_A Λ) := by
  refine MetX.ofW (cc := b_K_size) (maxL := 2) (ret := (some .int)) (by decide) rfl ?_
  intro p e s m args below meth c s₁ B hml hv
  obtain ⟨hargs, ⟨hP, hK⟩, hN⟩ := hv
  have hx := B.exec
  have hb := B.bytes
  have hr := B.returns
  have hlocks := B.notSynchronized
  have htw : ∀ w ∈ gw_WS, w.before args s = true := fun w h9 => atoms_spec (ws := .code y_K_size b_K_size 2 (some .int) :: gw_WS) B.pre w (List.mem_cons_of_mem _ h9)
  have hP0 := hP
  have hnh := B.noHandlers (atoms_spec (ws := .code y_K_size b_K_size 2 (some .int) :: gw_WS) B.pre _ List.mem_cons_self)
  have hown : s.vm.findClass R_K = some m.cls := findClass_of_methodNamed B.named
  have hS : va_S (gw_A Λ) s.heap s.heap [] := va_S.rf
  refine W.eq (g2 := entryFrame m ([.ref (K 0), .int p1] : List Value).toArray 2) (by rw [hargs]) ?_
  have hl := lv_entry ([.ref (K 0), .int p1]) (n := 2) (Nat.le_of_ble_eq_true rfl)
  rw [lg_entry_eq]
  generalize (lg_sl ([.ref (K 0), .int p1]) ++ List.replicate (2 - (lg_sl ([.ref (K 0), .int p1])).length) Slot.unset).toArray = ls at hl ⊢
  have hl : lv_has ls 2 [(0, .ref (K 0)), (1, .int p1)] := hl
  generalize hQe : MQX below (gx_Qi D cI cB cJ cW Λ L (fun r F2 A2 => F = F2 ∧ A = A2 ∧ post r) pe) args s (gw_A Λ) = Q
  unfold vc_K_size at h
  refine lv_iload_n hx hb d_K_size_0 rfl (lv_at hl 1 rfl) ?_
  refine gx_gov (gx_runS (As := [.int p1]) (rest := []) hx hb hml hown htw gx_blind (gx_pre hP hK hS hN) hl.1 (w_K_needRegister hfl hlo p1 F A _ _ h) k_K_needRegister mm_116 ⟨Nat.le_of_ble_eq_true rfl, Nat.le_of_ble_eq_true rfl⟩ (Nat.le_of_ble_eq_true rfl) (Nat.le_of_ble_eq_true rfl) rfl rfl (Nat.le_of_ble_eq_true rfl) d_K_size_1) hS (fun F_1 A_1 H locs hw hP hS => ?_) (fun x_1 k_1 F_1 A_1 H locs hw hP hS => ?_)
  · obtain ⟨rfl, hw⟩ := hw
    obtain ⟨rfl, hw⟩ := hw
    have h := hw
    refine lv_aload_n hx hb d_K_size_4 rfl (lv_at hl 0 rfl) ?_
    refine gs_get (v := .ref (K 1)) hx hb htw i_K hown hK hP (gK_0 hΛ) rfl 0 (by decide) (htw _ mm_89) rfl d_K_size_5 ?_
    refine lv_iload_n hx hb d_K_size_8 rfl (lv_at hl 1 rfl) ?_
    obtain ⟨hin_2, h⟩ := h
    refine gs_ald hx hb hK hP (gK_1 hΛ) hin_2 d_K_size_9 ?_
    refine gw_goi (gw_runV (As := []) (rest := []) hx hb hml hown htw hK hP hS hl.1 (w_W_countBits hlo (K (7 + 2 * p1.toNatClampNeg)) (K (8 + 2 * p1.toNatClampNeg)) (67) ⟨(gK_r hΛ hin_2).1, (gK_r hΛ hin_2).2⟩ F A _ h) k_W_countBits mm_189 ⟨Nat.le_of_ble_eq_true rfl, Nat.le_of_ble_eq_true rfl⟩ rfl rfl (gK_r hΛ hin_2).1 rfl rfl rfl (Nat.le_of_ble_eq_true rfl) d_K_size_10) hS (fun r_3 F_3 A_3 H locs hw hP hS => ?_)
    obtain ⟨rfl, hw⟩ := hw
    obtain ⟨rfl, hw⟩ := hw
    have h := hw
    rw [← hQe]
    exact gx_iret hx hb hr hlocks hP hK hS ⟨rfl, rfl, h⟩ d_K_size_13
  · rw [← hQe]
    exact gx_out hnh hlocks hP hK hS hw
