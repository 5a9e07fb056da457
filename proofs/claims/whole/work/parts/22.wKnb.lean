variable {l : Launch} {D : va_G} {cI cB cJ cW : ClassId} {Λ : gs_L} {L : Nat → Nat → Int64}
abbrev rm_K_divide : Room := { frames := 8, cells := 1, slots := 6, locals := 167 }
set_option maxHeartbeats 4000000 in
set_option maxRecDepth 100000 in
theorem w_K_divide (hfl : l.stackTraces = false) (hlo : gs_D Λ) (K : Nat → Nat) (p1 : Int32) (p2 : Int32) (p3 : Int32) (p4 : Int32) (p5 : Int32) (hΛ : gK cI cB cW Λ K) (F A : gm_M) (post : Int32 → gm_M → gm_M → Prop) (pe : Nat → gm_M → gm_M → Prop) (h : vc_K_divide K p1 p2 p3 p4 p5 F A post pe) : MetX l y_K_divide (.code y_K_divide b_K_divide 7 (some .int) :: gw_WS) rm_K_divide (va_Pc [.ref (K 0), .int p1, .int p2, .int p3, .int p4, .int p5] (gw_PN D cI cB cJ cW Λ L F A)) (gx_Qi D cI cB cJ cW Λ L (fun r F2 A2 => post r F2 A2) pe) (gw_A Λ) := by
  refine MetX.ofW (cc := b_K_divide) (maxL := 7) (ret := (some .int)) (by decide) rfl ?_
  intro p e s m args below meth c s₁ B hml hv
  obtain ⟨hargs, ⟨hP, hK⟩, hN⟩ := hv
  have hx := B.exec
  have hb := B.bytes
  have hr := B.returns
  have hlocks := B.notSynchronized
  have htw : ∀ w ∈ gw_WS, w.before args s = true := fun w h9 => atoms_spec (ws := .code y_K_divide b_K_divide 7 (some .int) :: gw_WS) B.pre w (List.mem_cons_of_mem _ h9)
  have hP0 := hP
  have hnh := B.noHandlers (atoms_spec (ws := .code y_K_divide b_K_divide 7 (some .int) :: gw_WS) B.pre _ List.mem_cons_self)
  have hown : s.vm.findClass R_K = some m.cls := findClass_of_methodNamed B.named
  have hS : va_S (gw_A Λ) s.heap s.heap [] := va_S.rf
  refine W.eq (g2 := entryFrame m ([.ref (K 0), .int p1, .int p2, .int p3, .int p4, .int p5] : List Value).toArray 7) (by rw [hargs]) ?_
  have hl := lv_entry ([.ref (K 0), .int p1, .int p2, .int p3, .int p4, .int p5]) (n := 7) (Nat.le_of_ble_eq_true rfl)
  rw [lg_entry_eq]
  generalize (lg_sl ([.ref (K 0), .int p1, .int p2, .int p3, .int p4, .int p5]) ++ List.replicate (7 - (lg_sl ([.ref (K 0), .int p1, .int p2, .int p3, .int p4, .int p5])).length) Slot.unset).toArray = ls at hl ⊢
  have hl : lv_has ls 7 [(0, .ref (K 0)), (1, .int p1), (2, .int p2), (3, .int p3), (4, .int p4), (5, .int p5)] := hl
  generalize hQe : MQX below (gx_Qi D cI cB cJ cW Λ L (fun r F2 A2 => post r F2 A2) pe) args s (gw_A Λ) = Q
  unfold vc_K_divide at h
  refine lv_iload_n hx hb d_K_divide_0 rfl (lv_at hl 2 rfl) ?_
  refine lv_iload hx hb d_K_divide_1 (lv_at hl 4 rfl) ?_
  refine lv_iload hx hb d_K_divide_3 (lv_at hl 5 rfl) ?_
  refine gx_gov (gx_runS (As := [.int p2, .int p4, .int p5]) (rest := []) hx hb hml hown htw gx_blind (gx_pre hP hK hS hN) hl.1 (w_K_needRegisters hfl hlo p2 p4 p5 F A _ _ h) k_K_needRegisters mm_402 ⟨Nat.le_of_ble_eq_true rfl, Nat.le_of_ble_eq_true rfl⟩ (Nat.le_of_ble_eq_true rfl) (Nat.le_of_ble_eq_true rfl) rfl rfl (Nat.le_of_ble_eq_true rfl) d_K_divide_5) hS (fun F_1 A_1 H locs hw hP hS => ?_) (fun x_1 k_1 F_1 A_1 H locs hw hP hS => ?_)
  · obtain ⟨rfl, hw⟩ := hw
    obtain ⟨rfl, hw⟩ := hw
    have h := hw
    refine lv_iload_n hx hb d_K_divide_8 rfl (lv_at hl 3 rfl) ?_
    refine gx_gov (gx_runS (As := [.int p3]) (rest := []) hx hb hml hown htw gx_blind (gx_pre hP hK hS hN) hl.1 (w_K_needRegister hfl hlo p3 F A _ _ h) k_K_needRegister mm_116 ⟨Nat.le_of_ble_eq_true rfl, Nat.le_of_ble_eq_true rfl⟩ (Nat.le_of_ble_eq_true rfl) (Nat.le_of_ble_eq_true rfl) rfl rfl (Nat.le_of_ble_eq_true rfl) d_K_divide_9) hS (fun F_2 A_2 H locs hw hP hS => ?_) (fun x_2 k_2 F_2 A_2 H locs hw hP hS => ?_)
    · obtain ⟨rfl, hw⟩ := hw
      obtain ⟨rfl, hw⟩ := hw
      have h := hw
      refine lv_iload_n hx hb d_K_divide_12 rfl (lv_at hl 2 rfl) ?_
      refine lv_iload_n hx hb d_K_divide_13 rfl (lv_at hl 3 rfl) ?_
      refine lv_icmp_ne (tgt := 27) hx hb d_K_divide_14 (by decide) (fun c_14 => ?_) (fun c_14 => ?_)
      · have h := h.1 c_14
        refine lv_aload_n hx hb d_K_divide_27 rfl (lv_at hl 0 rfl) ?_
        refine gs_get (v := .ref (K 1)) hx hb htw i_K hown hK hP (gK_0 hΛ) rfl 0 (by decide) (htw _ mm_89) rfl d_K_divide_28 ?_
        refine lv_iload hx hb d_K_divide_31 (lv_at hl 5 rfl) ?_
        obtain ⟨hin_3, h⟩ := h
        refine gs_ald hx hb hK hP (gK_1 hΛ) hin_3 d_K_divide_33 ?_
        refine lv_astore (lv' := [(6, .ref (K (7 + 2 * p5.toNatClampNeg))), (0, .ref (K 0)), (1, .int p1), (2, .int p2), (3, .int p3), (4, .int p4), (5, .int p5)]) hx hb d_K_divide_34 hl (by decide) rfl (fun ls hl => ?_)
        refine lv_aload hx hb d_K_divide_36 (lv_at hl 0 rfl) ?_
        refine gw_goi (gw_runV (As := []) (rest := []) hx hb hml hown htw hK hP hS hl.1 (w_W_sign hlo (K (7 + 2 * p5.toNatClampNeg)) (K (8 + 2 * p5.toNatClampNeg)) (67) ⟨(gK_r hΛ hin_3).1, (gK_r hΛ hin_3).2⟩ F A _ h) k_W_sign mm_437 ⟨Nat.le_of_ble_eq_true rfl, Nat.le_of_ble_eq_true rfl⟩ rfl rfl (gK_r hΛ hin_3).1 rfl rfl rfl (Nat.le_of_ble_eq_true rfl) d_K_divide_38) hS (fun r_4 F_4 A_4 H locs hw hP hS => ?_)
        obtain ⟨rfl, hw⟩ := hw
        obtain ⟨rfl, hw⟩ := hw
        have h := hw
        refine lv_if_ne (tgt := 54) hx hb d_K_divide_41 (by decide) (fun c_41 => ?_) (fun c_41 => ?_)
        · have h := h.1 c_41
          refine lv_aload_n hx hb d_K_divide_54 rfl (lv_at hl 1 rfl) ?_
          refine gs_get (v := .ref (K 4)) hx hb htw i_K hown hK hP (gK_0 hΛ) rfl 2 (by decide) (htw _ mm_91) rfl d_K_divide_55 ?_
          refine lv_aload_n hx hb d_K_divide_58 rfl (lv_at hl 1 rfl) ?_
          refine gs_get (v := .ref (K 1)) hx hb htw i_K hown hK hP (gK_0 hΛ) rfl 0 (by decide) (htw _ mm_89) rfl d_K_divide_59 ?_
          refine lv_iload hx hb d_K_divide_62 (lv_at hl 5 rfl) ?_
          obtain ⟨hin_5, h⟩ := h
          refine gs_ald hx hb hK hP (gK_1 hΛ) hin_5 d_K_divide_64 ?_
          refine lv_aload hx hb d_K_divide_65 (lv_at hl 0 rfl) ?_
          refine gw_gov (gw_runV (As := [.ref (K (7 + 2 * p4.toNatClampNeg)), .ref (K (7 + 2 * p5.toNatClampNeg))]) (rest := []) hx hb hml hown htw hK hP hS hl.1 (w_D_cutSigned hlo K (K (7 + 2 * p4.toNatClampNeg)) (K (8 + 2 * p4.toNatClampNeg)) (67) (K (7 + 2 * p5.toNatClampNeg)) (K (8 + 2 * p5.toNatClampNeg)) (67) hΛ ⟨(gK_r hΛ hin_5).1, (gK_r hΛ hin_5).2⟩ ⟨(gK_r hΛ hin_3).1, (gK_r hΛ hin_3).2⟩ F A _ h) k_D_cutSigned mm_450 ⟨Nat.le_of_ble_eq_true rfl, Nat.le_of_ble_eq_true rfl⟩ rfl rfl (gK_4 hΛ) rfl rfl rfl (Nat.le_of_ble_eq_true rfl) d_K_divide_67) hS (fun F_6 A_6 H locs hw hP hS => ?_)
          have h := hw
          refine lv_iload_n hx hb d_K_divide_70 rfl (lv_at hl 2 rfl) ?_
          obtain ⟨J_83, h, hj_83⟩ := h
          have join_83 : ∀ (F_7 : gm_M) (A_7 : gm_M) (H : Heap) (locs : List Loc) (ls : Array Slot), J_83 F_7 A_7 → va_P D gcls (gs_ws Λ F_7 A_7 L) H → va_S (gw_A Λ) s.heap H locs → lv_has ls 7 [(0, .ref (K 0)), (2, .int p2), (3, .int p3)] → W p l e rm_K_divide s m args below meth c H locs 0 0 Q (F0 m 83 ls []) := by
            intro F_7 A_7 H locs ls hJ hP hS hl
            have h := hj_83 F_7 A_7 hJ
            refine lv_aload_n hx hb d_K_divide_83 rfl (lv_at hl 0 rfl) ?_
            refine lv_aload_n hx hb d_K_divide_84 rfl (lv_at hl 0 rfl) ?_
            refine gs_get (v := .ref (K 4)) hx hb htw i_K hown hK hP (gK_0 hΛ) rfl 2 (by decide) (htw _ mm_91) rfl d_K_divide_85 ?_
            refine gs_get (v := .ref (K 39)) hx hb htw i_D hown hK hP (gK_4 hΛ) rfl 0 (by decide) (htw _ mm_75) rfl d_K_divide_88 ?_
            refine lv_iload_n hx hb d_K_divide_91 rfl (lv_at hl 1 rfl) ?_
            refine gx_gov (gx_runV (As := [.ref (K 39), .int p2]) (rest := []) hx hb hml hown htw gx_blind (gx_pre hP hK hS hN) hK hP hl.1 (w_K_keep hfl hlo K (K 39) (K 40) (135) p2 hΛ ⟨(gK_w16 hΛ).1, (gK_w16 hΛ).2⟩ F_7 A_7 _ _ h) k_K_keep mm_282 ⟨Nat.le_of_ble_eq_true rfl, Nat.le_of_ble_eq_true rfl⟩ (Nat.le_of_ble_eq_true rfl) (Nat.le_of_ble_eq_true rfl) (gK_0 hΛ) rfl rfl rfl (Nat.le_of_ble_eq_true rfl) d_K_divide_92) hS (fun F_8 A_8 H locs hw hP hS => ?_) (fun x_8 k_8 F_8 A_8 H locs hw hP hS => ?_)
            · have h := hw
              refine lv_aload_n hx hb d_K_divide_95 rfl (lv_at hl 0 rfl) ?_
              refine lv_aload_n hx hb d_K_divide_96 rfl (lv_at hl 0 rfl) ?_
              refine gs_get (v := .ref (K 4)) hx hb htw i_K hown hK hP (gK_0 hΛ) rfl 2 (by decide) (htw _ mm_91) rfl d_K_divide_97 ?_
              refine gs_get (v := .ref (K 41)) hx hb htw i_D hown hK hP (gK_4 hΛ) rfl 1 (by decide) (htw _ mm_77) rfl d_K_divide_100 ?_
              refine lv_iload_n hx hb d_K_divide_103 rfl (lv_at hl 2 rfl) ?_
              refine gx_gov (gx_runV (As := [.ref (K 41), .int p3]) (rest := []) hx hb hml hown htw gx_blind (gx_pre hP hK hS hN) hK hP hl.1 (w_K_keep hfl hlo K (K 41) (K 42) (135) p3 hΛ ⟨(gK_w17 hΛ).1, (gK_w17 hΛ).2⟩ F_8 A_8 _ _ h) k_K_keep mm_282 ⟨Nat.le_of_ble_eq_true rfl, Nat.le_of_ble_eq_true rfl⟩ (Nat.le_of_ble_eq_true rfl) (Nat.le_of_ble_eq_true rfl) (gK_0 hΛ) rfl rfl rfl (Nat.le_of_ble_eq_true rfl) d_K_divide_104) hS (fun F_9 A_9 H locs hw hP hS => ?_) (fun x_9 k_9 F_9 A_9 H locs hw hP hS => ?_)
              · have h := hw
                refine lv_aload_n hx hb d_K_divide_107 rfl (lv_at hl 0 rfl) ?_
                refine gs_get (v := .ref (K 4)) hx hb htw i_K hown hK hP (gK_0 hΛ) rfl 2 (by decide) (htw _ mm_91) rfl d_K_divide_108 ?_
                refine gs_get (v := .ref (K 41)) hx hb htw i_D hown hK hP (gK_4 hΛ) rfl 1 (by decide) (htw _ mm_77) rfl d_K_divide_111 ?_
                refine gw_goi (gw_runV (As := []) (rest := []) hx hb hml hown htw hK hP hS hl.1 (w_W_sign hlo (K 41) (K 42) (135) ⟨(gK_w17 hΛ).1, (gK_w17 hΛ).2⟩ F_9 A_9 _ h) k_W_sign mm_437 ⟨Nat.le_of_ble_eq_true rfl, Nat.le_of_ble_eq_true rfl⟩ rfl rfl (gK_w17 hΛ).1 rfl rfl rfl (Nat.le_of_ble_eq_true rfl) d_K_divide_114) hS (fun r_10 F_10 A_10 H locs hw hP hS => ?_)
                obtain ⟨rfl, hw⟩ := hw
                obtain ⟨rfl, hw⟩ := hw
                have h := hw
                rw [← hQe]
                exact gx_iret hx hb hr hlocks hP hK hS h d_K_divide_117
              · rw [← hQe]
                exact gx_out hnh hlocks hP hK hS hw
            · rw [← hQe]
              exact gx_out hnh hlocks hP hK hS hw
          refine lv_if_eq (tgt := 83) hx hb d_K_divide_71 (by decide) (fun c_71 => ?_) (fun c_71 => ?_)
          · have h := h.1 c_71
            exact join_83 F_6 A_6 _ _ _ h hP hS (lv_sub hl [1, 3, 4] rfl)
          · have h := h.2 c_71
            refine lv_aload_n hx hb d_K_divide_74 rfl (lv_at hl 1 rfl) ?_
            refine gs_get (v := .ref (K 4)) hx hb htw i_K hown hK hP (gK_0 hΛ) rfl 2 (by decide) (htw _ mm_91) rfl d_K_divide_75 ?_
            refine lv_aload hx hb d_K_divide_78 (lv_at hl 0 rfl) ?_
            refine gw_gov (gw_runV (As := [.ref (K (7 + 2 * p5.toNatClampNeg))]) (rest := []) hx hb hml hown htw hK hP hS hl.1 (w_D_roundDown hlo K (K (7 + 2 * p5.toNatClampNeg)) (K (8 + 2 * p5.toNatClampNeg)) (67) hΛ ⟨(gK_r hΛ hin_3).1, (gK_r hΛ hin_3).2⟩ F_6 A_6 _ h) k_D_roundDown mm_492 ⟨Nat.le_of_ble_eq_true rfl, Nat.le_of_ble_eq_true rfl⟩ rfl rfl (gK_4 hΛ) rfl rfl rfl (Nat.le_of_ble_eq_true rfl) d_K_divide_80) hS (fun F_11 A_11 H locs hw hP hS => ?_)
            have h := hw
            exact join_83 F_11 A_11 _ _ _ h hP hS (lv_sub hl [1, 3, 4] rfl)
        · have h := h.2 c_41
          rw [← hQe]
          exact gx_throw (tx := "divided by 0") hx hb hml hown htw hfl hN hnh hlocks hP0 hP hK hS hl.1 3 gx_at3 (by decide) ⟨Nat.le_of_ble_eq_true rfl, Nat.le_of_ble_eq_true rfl, Nat.le_of_ble_eq_true rfl, Nat.le_of_ble_eq_true rfl⟩ d_K_divide_44 d_K_divide_47 d_K_divide_48 d_K_divide_50 d_K_divide_53 h
      · have h := h.2 c_14
        rw [← hQe]
        exact gx_throw (tx := "two results for one register") hx hb hml hown htw hfl hN hnh hlocks hP0 hP hK hS hl.1 1 gx_at1 (by decide) ⟨Nat.le_of_ble_eq_true rfl, Nat.le_of_ble_eq_true rfl, Nat.le_of_ble_eq_true rfl, Nat.le_of_ble_eq_true rfl⟩ d_K_divide_17 d_K_divide_20 d_K_divide_21 d_K_divide_23 d_K_divide_26 h
    · rw [← hQe]
      exact gx_out hnh hlocks hP hK hS hw
  · rw [← hQe]
    exact gx_out hnh hlocks hP hK hS hw
abbrev rm_K_shift : Room := { frames := 8, cells := 1, slots := 6, locals := 124 }
set_option maxHeartbeats 4000000 in
set_option maxRecDepth 100000 in
theorem w_K_shift (hfl : l.stackTraces = false) (hlo : gs_D Λ) (K : Nat → Nat) (p1 : Int32) (p2 : Int32) (p3 : Int32) (hΛ : gK cI cB cW Λ K) (F A : gm_M) (post : Int32 → gm_M → gm_M → Prop) (pe : Nat → gm_M → gm_M → Prop) (h : vc_K_shift K p1 p2 p3 F A post pe) : MetX l y_K_shift (.code y_K_shift b_K_shift 5 (some .int) :: gw_WS) rm_K_shift (va_Pc [.ref (K 0), .int p1, .int p2, .int p3] (gw_PN D cI cB cJ cW Λ L F A)) (gx_Qi D cI cB cJ cW Λ L (fun r F2 A2 => post r F2 A2) pe) (gw_A Λ) := by
  refine MetX.ofW (cc := b_K_shift) (maxL := 5) (ret := (some .int)) (by decide) rfl ?_
  intro p e s m args below meth c s₁ B hml hv
  obtain ⟨hargs, ⟨hP, hK⟩, hN⟩ := hv
  have hx := B.exec
  have hb := B.bytes
  have hr := B.returns
  have hlocks := B.notSynchronized
  have htw : ∀ w ∈ gw_WS, w.before args s = true := fun w h9 => atoms_spec (ws := .code y_K_shift b_K_shift 5 (some .int) :: gw_WS) B.pre w (List.mem_cons_of_mem _ h9)
  have hP0 := hP
  have hnh := B.noHandlers (atoms_spec (ws := .code y_K_shift b_K_shift 5 (some .int) :: gw_WS) B.pre _ List.mem_cons_self)
  have hown : s.vm.findClass R_K = some m.cls := findClass_of_methodNamed B.named
  have hS : va_S (gw_A Λ) s.heap s.heap [] := va_S.rf
  refine W.eq (g2 := entryFrame m ([.ref (K 0), .int p1, .int p2, .int p3] : List Value).toArray 5) (by rw [hargs]) ?_
  have hl := lv_entry ([.ref (K 0), .int p1, .int p2, .int p3]) (n := 5) (Nat.le_of_ble_eq_true rfl)
  rw [lg_entry_eq]
  generalize (lg_sl ([.ref (K 0), .int p1, .int p2, .int p3]) ++ List.replicate (5 - (lg_sl ([.ref (K 0), .int p1, .int p2, .int p3])).length) Slot.unset).toArray = ls at hl ⊢
  have hl : lv_has ls 5 [(0, .ref (K 0)), (1, .int p1), (2, .int p2), (3, .int p3)] := hl
  generalize hQe : MQX below (gx_Qi D cI cB cJ cW Λ L (fun r F2 A2 => post r F2 A2) pe) args s (gw_A Λ) = Q
  unfold vc_K_shift at h
  refine lv_iload_n hx hb d_K_shift_0 rfl (lv_at hl 1 rfl) ?_
  refine gx_gov (gx_runS (As := [.int p1]) (rest := []) hx hb hml hown htw gx_blind (gx_pre hP hK hS hN) hl.1 (w_K_needRegister hfl hlo p1 F A _ _ h) k_K_needRegister mm_116 ⟨Nat.le_of_ble_eq_true rfl, Nat.le_of_ble_eq_true rfl⟩ (Nat.le_of_ble_eq_true rfl) (Nat.le_of_ble_eq_true rfl) rfl rfl (Nat.le_of_ble_eq_true rfl) d_K_shift_1) hS (fun F_1 A_1 H locs hw hP hS => ?_) (fun x_1 k_1 F_1 A_1 H locs hw hP hS => ?_)
  · obtain ⟨rfl, hw⟩ := hw
    obtain ⟨rfl, hw⟩ := hw
    have h := hw
    refine lv_iload_n hx hb d_K_shift_4 rfl (lv_at hl 2 rfl) ?_
    refine gx_gov (gx_runS (As := [.int p2]) (rest := []) hx hb hml hown htw gx_blind (gx_pre hP hK hS hN) hl.1 (w_K_needRegister hfl hlo p2 F A _ _ h) k_K_needRegister mm_116 ⟨Nat.le_of_ble_eq_true rfl, Nat.le_of_ble_eq_true rfl⟩ (Nat.le_of_ble_eq_true rfl) (Nat.le_of_ble_eq_true rfl) rfl rfl (Nat.le_of_ble_eq_true rfl) d_K_shift_5) hS (fun F_2 A_2 H locs hw hP hS => ?_) (fun x_2 k_2 F_2 A_2 H locs hw hP hS => ?_)
    · obtain ⟨rfl, hw⟩ := hw
      obtain ⟨rfl, hw⟩ := hw
      have h := hw
      refine lv_iload_n hx hb d_K_shift_8 rfl (lv_at hl 3 rfl) ?_
      refine lv_sipush (v := (-4000 : Int32)) hx hb d_K_shift_9 (by decide) ?_
      refine lv_icmp_lt (tgt := 22) hx hb d_K_shift_12 (by decide) (fun c_12 => ?_) (fun c_12 => ?_)
      · have h := h.1 c_12
        rw [← hQe]
        exact gx_throw (tx := "shifted too far") hx hb hml hown htw hfl hN hnh hlocks hP0 hP hK hS hl.1 1 gx_at1 (by decide) ⟨Nat.le_of_ble_eq_true rfl, Nat.le_of_ble_eq_true rfl, Nat.le_of_ble_eq_true rfl, Nat.le_of_ble_eq_true rfl⟩ d_K_shift_22 d_K_shift_25 d_K_shift_26 d_K_shift_28 d_K_shift_31 h
      · have h := h.2 c_12
        refine lv_iload_n hx hb d_K_shift_15 rfl (lv_at hl 3 rfl) ?_
        refine lv_sipush (v := (4000 : Int32)) hx hb d_K_shift_16 (by decide) ?_
        refine lv_icmp_le (tgt := 32) hx hb d_K_shift_19 (by decide) (fun c_19 => ?_) (fun c_19 => ?_)
        · have h := h.1 c_19
          refine lv_aload_n hx hb d_K_shift_32 rfl (lv_at hl 0 rfl) ?_
          refine gs_get (v := .ref (K 1)) hx hb htw i_K hown hK hP (gK_0 hΛ) rfl 0 (by decide) (htw _ mm_89) rfl d_K_shift_33 ?_
          refine lv_iload_n hx hb d_K_shift_36 rfl (lv_at hl 2 rfl) ?_
          obtain ⟨hin_3, h⟩ := h
          refine gs_ald hx hb hK hP (gK_1 hΛ) hin_3 d_K_shift_37 ?_
          refine lv_astore (lv' := [(4, .ref (K (7 + 2 * p2.toNatClampNeg))), (0, .ref (K 0)), (1, .int p1), (2, .int p2), (3, .int p3)]) hx hb d_K_shift_38 hl (by decide) rfl (fun ls hl => ?_)
          refine lv_iload_n hx hb d_K_shift_40 rfl (lv_at hl 4 rfl) ?_
          refine lv_if_le (tgt := 88) hx hb d_K_shift_41 (by decide) (fun c_41 => ?_) (fun c_41 => ?_)
          · have h := h.1 c_41
            refine lv_aload_n hx hb d_K_shift_88 rfl (lv_at hl 1 rfl) ?_
            refine gs_get (v := .ref (K 43)) hx hb htw i_K hown hK hP (gK_0 hΛ) rfl 3 (by decide) (htw _ mm_92) rfl d_K_shift_89 ?_
            refine lv_aload hx hb d_K_shift_92 (lv_at hl 0 rfl) ?_
            refine lv_iload_n hx hb d_K_shift_94 rfl (lv_at hl 4 rfl) ?_
            refine lv_ineg hx hb d_K_shift_95 ?_
            refine gw_gov (gw_runV (As := [.ref (K (7 + 2 * p2.toNatClampNeg)), .int (-p3)]) (rest := []) hx hb hml hown htw hK hP hS hl.1 (w_W_takeLowered hlo (K 43) (K 44) (135) (K (7 + 2 * p2.toNatClampNeg)) (K (8 + 2 * p2.toNatClampNeg)) (67) (-p3) ⟨(gK_w18 hΛ).1, (gK_w18 hΛ).2⟩ ⟨(gK_r hΛ hin_3).1, (gK_r hΛ hin_3).2⟩ F A _ h) k_W_takeLowered mm_516 ⟨Nat.le_of_ble_eq_true rfl, Nat.le_of_ble_eq_true rfl⟩ rfl rfl (gK_w18 hΛ).1 rfl rfl rfl (Nat.le_of_ble_eq_true rfl) d_K_shift_96) hS (fun F_4 A_4 H locs hw hP hS => ?_)
            have h := hw
            refine lv_aload_n hx hb d_K_shift_99 rfl (lv_at hl 1 rfl) ?_
            refine lv_aload_n hx hb d_K_shift_100 rfl (lv_at hl 1 rfl) ?_
            refine gs_get (v := .ref (K 43)) hx hb htw i_K hown hK hP (gK_0 hΛ) rfl 3 (by decide) (htw _ mm_92) rfl d_K_shift_101 ?_
            refine lv_iload_n hx hb d_K_shift_104 rfl (lv_at hl 2 rfl) ?_
            refine gx_gov (gx_runV (As := [.ref (K 43), .int p1]) (rest := []) hx hb hml hown htw gx_blind (gx_pre hP hK hS hN) hK hP hl.1 (w_K_keep hfl hlo K (K 43) (K 44) (135) p1 hΛ ⟨(gK_w18 hΛ).1, (gK_w18 hΛ).2⟩ F_4 A_4 _ _ h) k_K_keep mm_282 ⟨Nat.le_of_ble_eq_true rfl, Nat.le_of_ble_eq_true rfl⟩ (Nat.le_of_ble_eq_true rfl) (Nat.le_of_ble_eq_true rfl) (gK_0 hΛ) rfl rfl rfl (Nat.le_of_ble_eq_true rfl) d_K_shift_105) hS (fun F_5 A_5 H locs hw hP hS => ?_) (fun x_5 k_5 F_5 A_5 H locs hw hP hS => ?_)
            · have h := hw
              refine lv_aload_n hx hb d_K_shift_108 rfl (lv_at hl 1 rfl) ?_
              refine gs_get (v := .ref (K 43)) hx hb htw i_K hown hK hP (gK_0 hΛ) rfl 3 (by decide) (htw _ mm_92) rfl d_K_shift_109 ?_
              refine gw_goi (gw_runV (As := []) (rest := []) hx hb hml hown htw hK hP hS hl.1 (w_W_countBits hlo (K 43) (K 44) (135) ⟨(gK_w18 hΛ).1, (gK_w18 hΛ).2⟩ F_5 A_5 _ h) k_W_countBits mm_189 ⟨Nat.le_of_ble_eq_true rfl, Nat.le_of_ble_eq_true rfl⟩ rfl rfl (gK_w18 hΛ).1 rfl rfl rfl (Nat.le_of_ble_eq_true rfl) d_K_shift_112) hS (fun r_6 F_6 A_6 H locs hw hP hS => ?_)
              obtain ⟨rfl, hw⟩ := hw
              obtain ⟨rfl, hw⟩ := hw
              have h := hw
              rw [← hQe]
              exact gx_iret hx hb hr hlocks hP hK hS h d_K_shift_115
            · rw [← hQe]
              exact gx_out hnh hlocks hP hK hS hw
          · have h := h.2 c_41
            refine lv_aload hx hb d_K_shift_44 (lv_at hl 0 rfl) ?_
            refine gw_goi (gw_runV (As := []) (rest := []) hx hb hml hown htw hK hP hS hl.1 (w_W_sign hlo (K (7 + 2 * p2.toNatClampNeg)) (K (8 + 2 * p2.toNatClampNeg)) (67) ⟨(gK_r hΛ hin_3).1, (gK_r hΛ hin_3).2⟩ F A _ h) k_W_sign mm_437 ⟨Nat.le_of_ble_eq_true rfl, Nat.le_of_ble_eq_true rfl⟩ rfl rfl (gK_r hΛ hin_3).1 rfl rfl rfl (Nat.le_of_ble_eq_true rfl) d_K_shift_46) hS (fun r_7 F_7 A_7 H locs hw hP hS => ?_)
            obtain ⟨rfl, hw⟩ := hw
            obtain ⟨rfl, hw⟩ := hw
            have h := hw
            obtain ⟨J_75, h, hj_75⟩ := h
            have join_75 : ∀  (H : Heap) (locs : List Loc) (ls : Array Slot), J_75 → va_P D gcls (gs_ws Λ F A L) H → va_S (gw_A Λ) s.heap H locs → lv_has ls 5 [(0, .ref (K 0)), (1, .int p1), (3, .int p3), (4, .ref (K (7 + 2 * p2.toNatClampNeg)))] → W p l e rm_K_shift s m args below meth c H locs 0 0 Q (F0 m 75 ls []) := by
              intro  H locs ls hJ hP hS hl
              have h := hj_75  hJ
              refine lv_aload_n hx hb d_K_shift_75 rfl (lv_at hl 0 rfl) ?_
              refine gs_get (v := .ref (K 43)) hx hb htw i_K hown hK hP (gK_0 hΛ) rfl 3 (by decide) (htw _ mm_92) rfl d_K_shift_76 ?_
              refine lv_aload hx hb d_K_shift_79 (lv_at hl 3 rfl) ?_
              refine lv_iload_n hx hb d_K_shift_81 rfl (lv_at hl 2 rfl) ?_
              refine gw_gov (gw_runV (As := [.ref (K (7 + 2 * p2.toNatClampNeg)), .int p3]) (rest := []) hx hb hml hown htw hK hP hS hl.1 (w_W_takeRaised hlo (K 43) (K 44) (135) (K (7 + 2 * p2.toNatClampNeg)) (K (8 + 2 * p2.toNatClampNeg)) (67) p3 ⟨(gK_w18 hΛ).1, (gK_w18 hΛ).2⟩ ⟨(gK_r hΛ hin_3).1, (gK_r hΛ hin_3).2⟩ F A _ h) k_W_takeRaised mm_511 ⟨Nat.le_of_ble_eq_true rfl, Nat.le_of_ble_eq_true rfl⟩ rfl rfl (gK_w18 hΛ).1 rfl rfl rfl (Nat.le_of_ble_eq_true rfl) d_K_shift_82) hS (fun F_9 A_9 H locs hw hP hS => ?_)
              have h := hw
              refine lv_goto (tgt := 99) hx hb d_K_shift_85 (by decide) ?_
              refine lv_aload_n hx hb d_K_shift_99 rfl (lv_at hl 0 rfl) ?_
              refine lv_aload_n hx hb d_K_shift_100 rfl (lv_at hl 0 rfl) ?_
              refine gs_get (v := .ref (K 43)) hx hb htw i_K hown hK hP (gK_0 hΛ) rfl 3 (by decide) (htw _ mm_92) rfl d_K_shift_101 ?_
              refine lv_iload_n hx hb d_K_shift_104 rfl (lv_at hl 1 rfl) ?_
              refine gx_gov (gx_runV (As := [.ref (K 43), .int p1]) (rest := []) hx hb hml hown htw gx_blind (gx_pre hP hK hS hN) hK hP hl.1 (w_K_keep hfl hlo K (K 43) (K 44) (135) p1 hΛ ⟨(gK_w18 hΛ).1, (gK_w18 hΛ).2⟩ F_9 A_9 _ _ h) k_K_keep mm_282 ⟨Nat.le_of_ble_eq_true rfl, Nat.le_of_ble_eq_true rfl⟩ (Nat.le_of_ble_eq_true rfl) (Nat.le_of_ble_eq_true rfl) (gK_0 hΛ) rfl rfl rfl (Nat.le_of_ble_eq_true rfl) d_K_shift_105) hS (fun F_10 A_10 H locs hw hP hS => ?_) (fun x_10 k_10 F_10 A_10 H locs hw hP hS => ?_)
              · have h := hw
                refine lv_aload_n hx hb d_K_shift_108 rfl (lv_at hl 0 rfl) ?_
                refine gs_get (v := .ref (K 43)) hx hb htw i_K hown hK hP (gK_0 hΛ) rfl 3 (by decide) (htw _ mm_92) rfl d_K_shift_109 ?_
                refine gw_goi (gw_runV (As := []) (rest := []) hx hb hml hown htw hK hP hS hl.1 (w_W_countBits hlo (K 43) (K 44) (135) ⟨(gK_w18 hΛ).1, (gK_w18 hΛ).2⟩ F_10 A_10 _ h) k_W_countBits mm_189 ⟨Nat.le_of_ble_eq_true rfl, Nat.le_of_ble_eq_true rfl⟩ rfl rfl (gK_w18 hΛ).1 rfl rfl rfl (Nat.le_of_ble_eq_true rfl) d_K_shift_112) hS (fun r_11 F_11 A_11 H locs hw hP hS => ?_)
                obtain ⟨rfl, hw⟩ := hw
                obtain ⟨rfl, hw⟩ := hw
                have h := hw
                rw [← hQe]
                exact gx_iret hx hb hr hlocks hP hK hS h d_K_shift_115
              · rw [← hQe]
                exact gx_out hnh hlocks hP hK hS hw
            refine lv_if_eq (tgt := 75) hx hb d_K_shift_49 (by decide) (fun c_49 => ?_) (fun c_49 => ?_)
            · have h := h.1 c_49
              exact join_75 _ _ _ h hP hS (lv_sub hl [1, 2, 4, 0] rfl)
            · have h := h.2 c_49
              refine lv_aload hx hb d_K_shift_52 (lv_at hl 0 rfl) ?_
              refine gw_goi (gw_runV (As := []) (rest := []) hx hb hml hown htw hK hP hS hl.1 (w_W_countBits hlo (K (7 + 2 * p2.toNatClampNeg)) (K (8 + 2 * p2.toNatClampNeg)) (67) ⟨(gK_r hΛ hin_3).1, (gK_r hΛ hin_3).2⟩ F A _ h) k_W_countBits mm_189 ⟨Nat.le_of_ble_eq_true rfl, Nat.le_of_ble_eq_true rfl⟩ rfl rfl (gK_r hΛ hin_3).1 rfl rfl rfl (Nat.le_of_ble_eq_true rfl) d_K_shift_54) hS (fun r_12 F_12 A_12 H locs hw hP hS => ?_)
              obtain ⟨rfl, hw⟩ := hw
              obtain ⟨rfl, hw⟩ := hw
              have h := hw
              refine lv_iload_n hx hb d_K_shift_57 rfl (lv_at hl 4 rfl) ?_
              refine lv_iadd hx hb d_K_shift_58 ?_
              refine lv_sipush (v := (2048 : Int32)) hx hb d_K_shift_59 (by decide) ?_
              refine lv_icmp_le (tgt := 75) hx hb d_K_shift_62 (by decide) (fun c_62 => ?_) (fun c_62 => ?_)
              · have h := h.1 c_62
                exact join_75 _ _ _ h hP hS (lv_sub hl [1, 2, 4, 0] rfl)
              · have h := h.2 c_62
                rw [← hQe]
                exact gx_throw (tx := "too many bits") hx hb hml hown htw hfl hN hnh hlocks hP0 hP hK hS hl.1 3 gx_at3 (by decide) ⟨Nat.le_of_ble_eq_true rfl, Nat.le_of_ble_eq_true rfl, Nat.le_of_ble_eq_true rfl, Nat.le_of_ble_eq_true rfl⟩ d_K_shift_65 d_K_shift_68 d_K_shift_69 d_K_shift_71 d_K_shift_74 h
        · have h := h.2 c_19
          rw [← hQe]
          exact gx_throw (tx := "shifted too far") hx hb hml hown htw hfl hN hnh hlocks hP0 hP hK hS hl.1 1 gx_at1 (by decide) ⟨Nat.le_of_ble_eq_true rfl, Nat.le_of_ble_eq_true rfl, Nat.le_of_ble_eq_true rfl, Nat.le_of_ble_eq_true rfl⟩ d_K_shift_22 d_K_shift_25 d_K_shift_26 d_K_shift_28 d_K_shift_31 h
    · rw [← hQe]
      exact gx_out hnh hlocks hP hK hS hw
  · rw [← hQe]
    exact gx_out hnh hlocks hP hK hS hw
abbrev rm_K_bits : Room := { frames := 8, cells := 1, slots := 6, locals := 124 }
set_option maxHeartbeats 4000000 in
set_option maxRecDepth 100000 in
theorem w_K_bits (hfl : l.stackTraces = false) (hlo : gs_D Λ) (K : Nat → Nat) (p1 : Int32) (p2 : Int32) (p3 : Int32) (p4 : Int32) (hΛ : gK cI cB cW Λ K) (F A : gm_M) (post : Int32 → gm_M → gm_M → Prop) (pe : Nat → gm_M → gm_M → Prop) (h : vc_K_bits K p1 p2 p3 p4 F A post pe) : MetX l y_K_bits (.code y_K_bits b_K_bits 5 (some .int) :: gw_WS) rm_K_bits (va_Pc [.ref (K 0), .int p1, .int p2, .int p3, .int p4] (gw_PN D cI cB cJ cW Λ L F A)) (gx_Qi D cI cB cJ cW Λ L (fun r F2 A2 => post r F2 A2) pe) (gw_A Λ) := by
  refine MetX.ofW (cc := b_K_bits) (maxL := 5) (ret := (some .int)) (by decide) rfl ?_
  intro p e s m args below meth c s₁ B hml hv
  obtain ⟨hargs, ⟨hP, hK⟩, hN⟩ := hv
  have hx := B.exec
  have hb := B.bytes
  have hr := B.returns
  have hlocks := B.notSynchronized
  have htw : ∀ w ∈ gw_WS, w.before args s = true := fun w h9 => atoms_spec (ws := .code y_K_bits b_K_bits 5 (some .int) :: gw_WS) B.pre w (List.mem_cons_of_mem _ h9)
  have hP0 := hP
  have hnh := B.noHandlers (atoms_spec (ws := .code y_K_bits b_K_bits 5 (some .int) :: gw_WS) B.pre _ List.mem_cons_self)
  have hown : s.vm.findClass R_K = some m.cls := findClass_of_methodNamed B.named
  have hS : va_S (gw_A Λ) s.heap s.heap [] := va_S.rf
  refine W.eq (g2 := entryFrame m ([.ref (K 0), .int p1, .int p2, .int p3, .int p4] : List Value).toArray 5) (by rw [hargs]) ?_
  have hl := lv_entry ([.ref (K 0), .int p1, .int p2, .int p3, .int p4]) (n := 5) (Nat.le_of_ble_eq_true rfl)
  rw [lg_entry_eq]
  generalize (lg_sl ([.ref (K 0), .int p1, .int p2, .int p3, .int p4]) ++ List.replicate (5 - (lg_sl ([.ref (K 0), .int p1, .int p2, .int p3, .int p4])).length) Slot.unset).toArray = ls at hl ⊢
  have hl : lv_has ls 5 [(0, .ref (K 0)), (1, .int p1), (2, .int p2), (3, .int p3), (4, .int p4)] := hl
  generalize hQe : MQX below (gx_Qi D cI cB cJ cW Λ L (fun r F2 A2 => post r F2 A2) pe) args s (gw_A Λ) = Q
  unfold vc_K_bits at h
  refine lv_iload_n hx hb d_K_bits_0 rfl (lv_at hl 1 rfl) ?_
  refine gx_gov (gx_runS (As := [.int p1]) (rest := []) hx hb hml hown htw gx_blind (gx_pre hP hK hS hN) hl.1 (w_K_needKind hfl hlo p1 F A _ _ h) k_K_needKind mm_398 ⟨Nat.le_of_ble_eq_true rfl, Nat.le_of_ble_eq_true rfl⟩ (Nat.le_of_ble_eq_true rfl) (Nat.le_of_ble_eq_true rfl) rfl rfl (Nat.le_of_ble_eq_true rfl) d_K_bits_1) hS (fun F_1 A_1 H locs hw hP hS => ?_) (fun x_1 k_1 F_1 A_1 H locs hw hP hS => ?_)
  · obtain ⟨rfl, hw⟩ := hw
    obtain ⟨rfl, hw⟩ := hw
    have h := hw
    refine lv_iload_n hx hb d_K_bits_4 rfl (lv_at hl 2 rfl) ?_
    refine lv_iload_n hx hb d_K_bits_5 rfl (lv_at hl 3 rfl) ?_
    refine lv_iload hx hb d_K_bits_6 (lv_at hl 4 rfl) ?_
    refine gx_gov (gx_runS (As := [.int p2, .int p3, .int p4]) (rest := []) hx hb hml hown htw gx_blind (gx_pre hP hK hS hN) hl.1 (w_K_needRegisters hfl hlo p2 p3 p4 F A _ _ h) k_K_needRegisters mm_402 ⟨Nat.le_of_ble_eq_true rfl, Nat.le_of_ble_eq_true rfl⟩ (Nat.le_of_ble_eq_true rfl) (Nat.le_of_ble_eq_true rfl) rfl rfl (Nat.le_of_ble_eq_true rfl) d_K_bits_8) hS (fun F_2 A_2 H locs hw hP hS => ?_) (fun x_2 k_2 F_2 A_2 H locs hw hP hS => ?_)
    · obtain ⟨rfl, hw⟩ := hw
      obtain ⟨rfl, hw⟩ := hw
      have h := hw
      refine lv_aload_n hx hb d_K_bits_11 rfl (lv_at hl 0 rfl) ?_
      refine gs_get (v := .ref (K 43)) hx hb htw i_K hown hK hP (gK_0 hΛ) rfl 3 (by decide) (htw _ mm_92) rfl d_K_bits_12 ?_
      refine lv_iload_n hx hb d_K_bits_15 rfl (lv_at hl 1 rfl) ?_
      refine lv_aload_n hx hb d_K_bits_16 rfl (lv_at hl 0 rfl) ?_
      refine gs_get (v := .ref (K 1)) hx hb htw i_K hown hK hP (gK_0 hΛ) rfl 0 (by decide) (htw _ mm_89) rfl d_K_bits_17 ?_
      refine lv_iload_n hx hb d_K_bits_20 rfl (lv_at hl 3 rfl) ?_
      obtain ⟨hin_3, h⟩ := h
      refine gs_ald hx hb hK hP (gK_1 hΛ) hin_3 d_K_bits_21 ?_
      refine lv_aload_n hx hb d_K_bits_22 rfl (lv_at hl 0 rfl) ?_
      refine gs_get (v := .ref (K 1)) hx hb htw i_K hown hK hP (gK_0 hΛ) rfl 0 (by decide) (htw _ mm_89) rfl d_K_bits_23 ?_
      refine lv_iload hx hb d_K_bits_26 (lv_at hl 4 rfl) ?_
      obtain ⟨hin_4, h⟩ := h
      refine gs_ald hx hb hK hP (gK_1 hΛ) hin_4 d_K_bits_28 ?_
      refine gw_gov (gw_runV (As := [.int p1, .ref (K (7 + 2 * p3.toNatClampNeg)), .ref (K (7 + 2 * p4.toNatClampNeg))]) (rest := []) hx hb hml hown htw hK hP hS hl.1 (w_W_takeBits hlo (K 43) (K 44) (135) p1 (K (7 + 2 * p3.toNatClampNeg)) (K (8 + 2 * p3.toNatClampNeg)) (67) (K (7 + 2 * p4.toNatClampNeg)) (K (8 + 2 * p4.toNatClampNeg)) (67) ⟨(gK_w18 hΛ).1, (gK_w18 hΛ).2⟩ ⟨(gK_r hΛ hin_3).1, (gK_r hΛ hin_3).2⟩ ⟨(gK_r hΛ hin_4).1, (gK_r hΛ hin_4).2⟩ F A _ h) k_W_takeBits mm_536 ⟨Nat.le_of_ble_eq_true rfl, Nat.le_of_ble_eq_true rfl⟩ rfl rfl (gK_w18 hΛ).1 rfl rfl rfl (Nat.le_of_ble_eq_true rfl) d_K_bits_29) hS (fun F_5 A_5 H locs hw hP hS => ?_)
      have h := hw
      refine lv_aload_n hx hb d_K_bits_32 rfl (lv_at hl 0 rfl) ?_
      refine lv_aload_n hx hb d_K_bits_33 rfl (lv_at hl 0 rfl) ?_
      refine gs_get (v := .ref (K 43)) hx hb htw i_K hown hK hP (gK_0 hΛ) rfl 3 (by decide) (htw _ mm_92) rfl d_K_bits_34 ?_
      refine lv_iload_n hx hb d_K_bits_37 rfl (lv_at hl 2 rfl) ?_
      refine gx_gov (gx_runV (As := [.ref (K 43), .int p2]) (rest := []) hx hb hml hown htw gx_blind (gx_pre hP hK hS hN) hK hP hl.1 (w_K_keep hfl hlo K (K 43) (K 44) (135) p2 hΛ ⟨(gK_w18 hΛ).1, (gK_w18 hΛ).2⟩ F_5 A_5 _ _ h) k_K_keep mm_282 ⟨Nat.le_of_ble_eq_true rfl, Nat.le_of_ble_eq_true rfl⟩ (Nat.le_of_ble_eq_true rfl) (Nat.le_of_ble_eq_true rfl) (gK_0 hΛ) rfl rfl rfl (Nat.le_of_ble_eq_true rfl) d_K_bits_38) hS (fun F_6 A_6 H locs hw hP hS => ?_) (fun x_6 k_6 F_6 A_6 H locs hw hP hS => ?_)
      · have h := hw
        refine lv_aload_n hx hb d_K_bits_41 rfl (lv_at hl 0 rfl) ?_
        refine gs_get (v := .ref (K 43)) hx hb htw i_K hown hK hP (gK_0 hΛ) rfl 3 (by decide) (htw _ mm_92) rfl d_K_bits_42 ?_
        refine gw_goi (gw_runV (As := []) (rest := []) hx hb hml hown htw hK hP hS hl.1 (w_W_sign hlo (K 43) (K 44) (135) ⟨(gK_w18 hΛ).1, (gK_w18 hΛ).2⟩ F_6 A_6 _ h) k_W_sign mm_437 ⟨Nat.le_of_ble_eq_true rfl, Nat.le_of_ble_eq_true rfl⟩ rfl rfl (gK_w18 hΛ).1 rfl rfl rfl (Nat.le_of_ble_eq_true rfl) d_K_bits_45) hS (fun r_7 F_7 A_7 H locs hw hP hS => ?_)
        obtain ⟨rfl, hw⟩ := hw
        obtain ⟨rfl, hw⟩ := hw
        have h := hw
        rw [← hQe]
        exact gx_iret hx hb hr hlocks hP hK hS h d_K_bits_48
      · rw [← hQe]
        exact gx_out hnh hlocks hP hK hS hw
    · rw [← hQe]
      exact gx_out hnh hlocks hP hK hS hw
  · rw [← hQe]
    exact gx_out hnh hlocks hP hK hS hw
abbrev rm_K_multiplyOutcome : Room := { frames := 7, cells := 1, slots := 6, locals := 102 }
set_option maxHeartbeats 4000000 in
set_option maxRecDepth 100000 in
theorem w_K_multiplyOutcome (hfl : l.stackTraces = false) (hlo : gs_D Λ) (K : Nat → Nat) (a1 l1 n1 : Nat) (hΛ : gK cI cB cW Λ K) (h1 : gW cI Λ a1 l1 n1) (F A : gm_M) (post : gm_M → gm_M → Prop) (pe : Nat → gm_M → gm_M → Prop) (h : vc_K_multiplyOutcome K a1 l1 n1 F A post pe) : MetX l y_K_multiplyOutcome (.code y_K_multiplyOutcome b_K_multiplyOutcome 2 none :: gw_WS) rm_K_multiplyOutcome (va_Pc [.ref (K 0), .ref a1] (gw_PN D cI cB cJ cW Λ L F A)) (gx_Qv D cI cB cJ cW Λ L (fun F2 A2 => post F2 A2) pe) (gw_A Λ) := by
  refine MetX.ofW (cc := b_K_multiplyOutcome) (maxL := 2) (ret := none) (by decide) rfl ?_
  intro p e s m args below meth c s₁ B hml hv
  obtain ⟨hargs, ⟨hP, hK⟩, hN⟩ := hv
  have hx := B.exec
  have hb := B.bytes
  have hr := B.returns
  have hlocks := B.notSynchronized
  have htw : ∀ w ∈ gw_WS, w.before args s = true := fun w h9 => atoms_spec (ws := .code y_K_multiplyOutcome b_K_multiplyOutcome 2 none :: gw_WS) B.pre w (List.mem_cons_of_mem _ h9)
  have hP0 := hP
  have hnh := B.noHandlers (atoms_spec (ws := .code y_K_multiplyOutcome b_K_multiplyOutcome 2 none :: gw_WS) B.pre _ List.mem_cons_self)
  have hown : s.vm.findClass R_K = some m.cls := findClass_of_methodNamed B.named
  have hS : va_S (gw_A Λ) s.heap s.heap [] := va_S.rf
  refine W.eq (g2 := entryFrame m ([.ref (K 0), .ref a1] : List Value).toArray 2) (by rw [hargs]) ?_
  have hl := lv_entry ([.ref (K 0), .ref a1]) (n := 2) (Nat.le_of_ble_eq_true rfl)
  rw [lg_entry_eq]
  generalize (lg_sl ([.ref (K 0), .ref a1]) ++ List.replicate (2 - (lg_sl ([.ref (K 0), .ref a1])).length) Slot.unset).toArray = ls at hl ⊢
  have hl : lv_has ls 2 [(0, .ref (K 0)), (1, .ref a1)] := hl
  generalize hQe : MQX below (gx_Qv D cI cB cJ cW Λ L (fun F2 A2 => post F2 A2) pe) args s (gw_A Λ) = Q
  unfold vc_K_multiplyOutcome at h
  refine lv_aload_n hx hb d_K_multiplyOutcome_0 rfl (lv_at hl 0 rfl) ?_
  refine gs_get (v := .ref (K 45)) hx hb htw i_K hown hK hP (gK_0 hΛ) rfl 4 (by decide) (htw _ mm_93) rfl d_K_multiplyOutcome_1 ?_
  refine lv_aload_n hx hb d_K_multiplyOutcome_4 rfl (lv_at hl 0 rfl) ?_
  refine gs_get (v := .ref (K 43)) hx hb htw i_K hown hK hP (gK_0 hΛ) rfl 3 (by decide) (htw _ mm_92) rfl d_K_multiplyOutcome_5 ?_
  refine lv_aload_n hx hb d_K_multiplyOutcome_8 rfl (lv_at hl 1 rfl) ?_
  refine gw_gov (gw_runV (As := [.ref (K 43), .ref a1]) (rest := []) hx hb hml hown htw hK hP hS hl.1 (w_W_takeProduct hlo (K 45) (K 46) (135) (K 43) (K 44) (135) a1 l1 n1 ⟨(gK_w19 hΛ).1, (gK_w19 hΛ).2⟩ ⟨(gK_w18 hΛ).1, (gK_w18 hΛ).2⟩ ⟨h1.1, h1.2⟩ F A _ h) k_W_takeProduct mm_429 ⟨Nat.le_of_ble_eq_true rfl, Nat.le_of_ble_eq_true rfl⟩ rfl rfl (gK_w19 hΛ).1 rfl rfl rfl (Nat.le_of_ble_eq_true rfl) d_K_multiplyOutcome_9) hS (fun F_1 A_1 H locs hw hP hS => ?_)
  have h := hw
  refine lv_aload_n hx hb d_K_multiplyOutcome_12 rfl (lv_at hl 0 rfl) ?_
  refine gs_get (v := .ref (K 45)) hx hb htw i_K hown hK hP (gK_0 hΛ) rfl 4 (by decide) (htw _ mm_93) rfl d_K_multiplyOutcome_13 ?_
  refine gx_gov (gx_runS (As := [.ref (K 45)]) (rest := []) hx hb hml hown htw gx_blind (gx_pre hP hK hS hN) hl.1 (w_K_needFit hfl hlo (K 45) (K 46) (135) ⟨(gK_w19 hΛ).1, (gK_w19 hΛ).2⟩ F_1 A_1 _ _ h) k_K_needFit mm_286 ⟨Nat.le_of_ble_eq_true rfl, Nat.le_of_ble_eq_true rfl⟩ (Nat.le_of_ble_eq_true rfl) (Nat.le_of_ble_eq_true rfl) rfl rfl (Nat.le_of_ble_eq_true rfl) d_K_multiplyOutcome_16) hS (fun F_2 A_2 H locs hw hP hS => ?_) (fun x_2 k_2 F_2 A_2 H locs hw hP hS => ?_)
  · obtain ⟨rfl, hw⟩ := hw
    obtain ⟨rfl, hw⟩ := hw
    have h := hw
    refine lv_aload_n hx hb d_K_multiplyOutcome_19 rfl (lv_at hl 0 rfl) ?_
    refine gs_get (v := .ref (K 43)) hx hb htw i_K hown hK hP (gK_0 hΛ) rfl 3 (by decide) (htw _ mm_92) rfl d_K_multiplyOutcome_20 ?_
    refine lv_aload_n hx hb d_K_multiplyOutcome_23 rfl (lv_at hl 0 rfl) ?_
    refine gs_get (v := .ref (K 45)) hx hb htw i_K hown hK hP (gK_0 hΛ) rfl 4 (by decide) (htw _ mm_93) rfl d_K_multiplyOutcome_24 ?_
    refine gw_gov (gw_runV (As := [.ref (K 45)]) (rest := []) hx hb hml hown htw hK hP hS hl.1 (w_W_takeCopy hlo (K 43) (K 44) (135) (K 45) (K 46) (135) ⟨(gK_w18 hΛ).1, (gK_w18 hΛ).2⟩ ⟨(gK_w19 hΛ).1, (gK_w19 hΛ).2⟩ F_1 A_1 _ h) k_W_takeCopy mm_305 ⟨Nat.le_of_ble_eq_true rfl, Nat.le_of_ble_eq_true rfl⟩ rfl rfl (gK_w18 hΛ).1 rfl rfl rfl (Nat.le_of_ble_eq_true rfl) d_K_multiplyOutcome_27) hS (fun F_3 A_3 H locs hw hP hS => ?_)
    have h := hw
    rw [← hQe]
    exact gx_vret hx hb hr hlocks hP hK hS h d_K_multiplyOutcome_30
  · rw [← hQe]
    exact gx_out hnh hlocks hP hK hS hw
abbrev rm_K_power : Room := { frames := 8, cells := 1, slots := 6, locals := 124 }
set_option maxHeartbeats 4000000 in
set_option maxRecDepth 100000 in
theorem w_K_power (hfl : l.stackTraces = false) (hlo : gs_D Λ) (K : Nat → Nat) (p1 : Int32) (p2 : Int32) (p3 : Int32) (hΛ : gK cI cB cW Λ K) (F A : gm_M) (post : Int32 → gm_M → gm_M → Prop) (pe : Nat → gm_M → gm_M → Prop) (h : vc_K_power K p1 p2 p3 F A post pe) : MetX l y_K_power (.code y_K_power b_K_power 5 (some .int) :: gw_WS) rm_K_power (va_Pc [.ref (K 0), .int p1, .int p2, .int p3] (gw_PN D cI cB cJ cW Λ L F A)) (gx_Qi D cI cB cJ cW Λ L (fun r F2 A2 => post r F2 A2) pe) (gw_A Λ) := by
  refine MetX.ofW (cc := b_K_power) (maxL := 5) (ret := (some .int)) (by decide) rfl ?_
  intro p e s m args below meth c s₁ B hml hv
  obtain ⟨hargs, ⟨hP, hK⟩, hN⟩ := hv
  have hx := B.exec
  have hb := B.bytes
  have hr := B.returns
  have hlocks := B.notSynchronized
  have htw : ∀ w ∈ gw_WS, w.before args s = true := fun w h9 => atoms_spec (ws := .code y_K_power b_K_power 5 (some .int) :: gw_WS) B.pre w (List.mem_cons_of_mem _ h9)
  have hP0 := hP
  have hnh := B.noHandlers (atoms_spec (ws := .code y_K_power b_K_power 5 (some .int) :: gw_WS) B.pre _ List.mem_cons_self)
  have hown : s.vm.findClass R_K = some m.cls := findClass_of_methodNamed B.named
  have hS : va_S (gw_A Λ) s.heap s.heap [] := va_S.rf
  refine W.eq (g2 := entryFrame m ([.ref (K 0), .int p1, .int p2, .int p3] : List Value).toArray 5) (by rw [hargs]) ?_
  have hl := lv_entry ([.ref (K 0), .int p1, .int p2, .int p3]) (n := 5) (Nat.le_of_ble_eq_true rfl)
  rw [lg_entry_eq]
  generalize (lg_sl ([.ref (K 0), .int p1, .int p2, .int p3]) ++ List.replicate (5 - (lg_sl ([.ref (K 0), .int p1, .int p2, .int p3])).length) Slot.unset).toArray = ls at hl ⊢
  have hl : lv_has ls 5 [(0, .ref (K 0)), (1, .int p1), (2, .int p2), (3, .int p3)] := hl
  generalize hQe : MQX below (gx_Qi D cI cB cJ cW Λ L (fun r F2 A2 => post r F2 A2) pe) args s (gw_A Λ) = Q
  unfold vc_K_power at h
  refine lv_iload_n hx hb d_K_power_0 rfl (lv_at hl 1 rfl) ?_
  refine gx_gov (gx_runS (As := [.int p1]) (rest := []) hx hb hml hown htw gx_blind (gx_pre hP hK hS hN) hl.1 (w_K_needRegister hfl hlo p1 F A _ _ h) k_K_needRegister mm_116 ⟨Nat.le_of_ble_eq_true rfl, Nat.le_of_ble_eq_true rfl⟩ (Nat.le_of_ble_eq_true rfl) (Nat.le_of_ble_eq_true rfl) rfl rfl (Nat.le_of_ble_eq_true rfl) d_K_power_1) hS (fun F_1 A_1 H locs hw hP hS => ?_) (fun x_1 k_1 F_1 A_1 H locs hw hP hS => ?_)
  · obtain ⟨rfl, hw⟩ := hw
    obtain ⟨rfl, hw⟩ := hw
    have h := hw
    refine lv_iload_n hx hb d_K_power_4 rfl (lv_at hl 2 rfl) ?_
    refine gx_gov (gx_runS (As := [.int p2]) (rest := []) hx hb hml hown htw gx_blind (gx_pre hP hK hS hN) hl.1 (w_K_needRegister hfl hlo p2 F A _ _ h) k_K_needRegister mm_116 ⟨Nat.le_of_ble_eq_true rfl, Nat.le_of_ble_eq_true rfl⟩ (Nat.le_of_ble_eq_true rfl) (Nat.le_of_ble_eq_true rfl) rfl rfl (Nat.le_of_ble_eq_true rfl) d_K_power_5) hS (fun F_2 A_2 H locs hw hP hS => ?_) (fun x_2 k_2 F_2 A_2 H locs hw hP hS => ?_)
    · obtain ⟨rfl, hw⟩ := hw
      obtain ⟨rfl, hw⟩ := hw
      have h := hw
      refine lv_iload_n hx hb d_K_power_8 rfl (lv_at hl 3 rfl) ?_
      refine lv_if_ge (tgt := 22) hx hb d_K_power_9 (by decide) (fun c_9 => ?_) (fun c_9 => ?_)
      · have h := h.1 c_9
        refine lv_aload_n hx hb d_K_power_22 rfl (lv_at hl 0 rfl) ?_
        refine gs_get (v := .ref (K 43)) hx hb htw i_K hown hK hP (gK_0 hΛ) rfl 3 (by decide) (htw _ mm_92) rfl d_K_power_23 ?_
        refine lv_lconst (v := (1 : Int64)) hx hb d_K_power_26 (by decide) ?_
        refine gw_gov (gw_runV (As := [.long (1 : Int64)]) (rest := []) hx hb hml hown htw hK hP hS hl.1 (w_W_takeLong hlo (K 43) (K 44) (135) (1 : Int64) ⟨(gK_w18 hΛ).1, (gK_w18 hΛ).2⟩ F A _ h) k_W_takeLong mm_196 ⟨Nat.le_of_ble_eq_true rfl, Nat.le_of_ble_eq_true rfl⟩ rfl rfl (gK_w18 hΛ).1 rfl rfl rfl (Nat.le_of_ble_eq_true rfl) d_K_power_27) hS (fun F_3 A_3 H locs hw hP hS => ?_)
        have h := hw
        refine lv_bipush (v := (30 : Int32)) hx hb d_K_power_30 (by decide) ?_
        refine lv_istore (lv' := [(4, .int (30 : Int32)), (0, .ref (K 0)), (1, .int p1), (2, .int p2), (3, .int p3)]) hx hb d_K_power_32 hl (by decide) rfl (fun ls hl => ?_)
        obtain ⟨I_34, μ_34, h0_34, hs_34⟩ := h
        have loop_34 : ∀ (N : Nat) (x4_4 : Int32) (F_4 : gm_M) (A_4 : gm_M) (H : Heap) (locs : List Loc) (ls : Array Slot), μ_34 x4_4 F_4 A_4 < N → I_34 x4_4 F_4 A_4 → va_P D gcls (gs_ws Λ F_4 A_4 L) H → va_S (gw_A Λ) s.heap H locs → lv_has ls 5 [(0, .ref (K 0)), (1, .int p1), (2, .int p2), (3, .int p3), (4, .int x4_4)] → W p l e rm_K_power s m args below meth c H locs 0 0 Q (F0 m 34 ls []) := by
          intro N
          induction N with
          | zero => intro x4_4 F_4 A_4 H locs ls hμ; exact absurd hμ (Nat.not_lt_zero _)
          | succ N ih_34 =>
            intro x4_4 F_4 A_4 H locs ls hμ_34 hI hP hS hl
            have h := hs_34 x4_4 F_4 A_4 hI
            refine lv_iload hx hb d_K_power_34 (lv_at hl 4 rfl) ?_
            refine lv_if_lt (tgt := 73) hx hb d_K_power_36 (by decide) (fun c_36 => ?_) (fun c_36 => ?_)
            · have h := h.1 c_36
              refine lv_aload_n hx hb d_K_power_73 rfl (lv_at hl 0 rfl) ?_
              refine lv_aload_n hx hb d_K_power_74 rfl (lv_at hl 0 rfl) ?_
              refine gs_get (v := .ref (K 43)) hx hb htw i_K hown hK hP (gK_0 hΛ) rfl 3 (by decide) (htw _ mm_92) rfl d_K_power_75 ?_
              refine lv_iload_n hx hb d_K_power_78 rfl (lv_at hl 1 rfl) ?_
              refine gx_gov (gx_runV (As := [.ref (K 43), .int p1]) (rest := []) hx hb hml hown htw gx_blind (gx_pre hP hK hS hN) hK hP hl.1 (w_K_keep hfl hlo K (K 43) (K 44) (135) p1 hΛ ⟨(gK_w18 hΛ).1, (gK_w18 hΛ).2⟩ F_4 A_4 _ _ h) k_K_keep mm_282 ⟨Nat.le_of_ble_eq_true rfl, Nat.le_of_ble_eq_true rfl⟩ (Nat.le_of_ble_eq_true rfl) (Nat.le_of_ble_eq_true rfl) (gK_0 hΛ) rfl rfl rfl (Nat.le_of_ble_eq_true rfl) d_K_power_79) hS (fun F_5 A_5 H locs hw hP hS => ?_) (fun x_5 k_5 F_5 A_5 H locs hw hP hS => ?_)
              · have h := hw
                refine lv_aload_n hx hb d_K_power_82 rfl (lv_at hl 0 rfl) ?_
                refine gs_get (v := .ref (K 43)) hx hb htw i_K hown hK hP (gK_0 hΛ) rfl 3 (by decide) (htw _ mm_92) rfl d_K_power_83 ?_
                refine gw_goi (gw_runV (As := []) (rest := []) hx hb hml hown htw hK hP hS hl.1 (w_W_countBits hlo (K 43) (K 44) (135) ⟨(gK_w18 hΛ).1, (gK_w18 hΛ).2⟩ F_5 A_5 _ h) k_W_countBits mm_189 ⟨Nat.le_of_ble_eq_true rfl, Nat.le_of_ble_eq_true rfl⟩ rfl rfl (gK_w18 hΛ).1 rfl rfl rfl (Nat.le_of_ble_eq_true rfl) d_K_power_86) hS (fun r_6 F_6 A_6 H locs hw hP hS => ?_)
                obtain ⟨rfl, hw⟩ := hw
                obtain ⟨rfl, hw⟩ := hw
                have h := hw
                rw [← hQe]
                exact gx_iret hx hb hr hlocks hP hK hS h d_K_power_89
              · rw [← hQe]
                exact gx_out hnh hlocks hP hK hS hw
            · have h := h.2 c_36
              refine lv_aload_n hx hb d_K_power_39 rfl (lv_at hl 0 rfl) ?_
              refine lv_aload_n hx hb d_K_power_40 rfl (lv_at hl 0 rfl) ?_
              refine gs_get (v := .ref (K 43)) hx hb htw i_K hown hK hP (gK_0 hΛ) rfl 3 (by decide) (htw _ mm_92) rfl d_K_power_41 ?_
              refine gx_gov (gx_runV (As := [.ref (K 43)]) (rest := []) hx hb hml hown htw gx_blind (gx_pre hP hK hS hN) hK hP hl.1 (w_K_multiplyOutcome hfl hlo K (K 43) (K 44) (135) hΛ ⟨(gK_w18 hΛ).1, (gK_w18 hΛ).2⟩ F_4 A_4 _ _ h) k_K_multiplyOutcome mm_555 ⟨Nat.le_of_ble_eq_true rfl, Nat.le_of_ble_eq_true rfl⟩ (Nat.le_of_ble_eq_true rfl) (Nat.le_of_ble_eq_true rfl) (gK_0 hΛ) rfl rfl rfl (Nat.le_of_ble_eq_true rfl) d_K_power_44) hS (fun F_7 A_7 H locs hw hP hS => ?_) (fun x_7 k_7 F_7 A_7 H locs hw hP hS => ?_)
              · have h := hw
                refine lv_iload_n hx hb d_K_power_47 rfl (lv_at hl 3 rfl) ?_
                refine lv_iload hx hb d_K_power_48 (lv_at hl 4 rfl) ?_
                refine lv_iushr (v := (j_iushr p3 x4_4)) hx hb d_K_power_50 rfl ?_
                refine lv_iconst (v := (1 : Int32)) hx hb d_K_power_51 (by decide) ?_
                refine lv_iand hx hb d_K_power_52 ?_
                refine lv_iconst (v := (1 : Int32)) hx hb d_K_power_53 (by decide) ?_
                refine lv_icmp_ne (tgt := 67) hx hb d_K_power_54 (by decide) (fun c_54 => ?_) (fun c_54 => ?_)
                · have h := h.1 c_54
                  obtain ⟨x4_8, ex4_8⟩ : ∃ y : Int32, y = x4_4 + (-1 : Int32) := ⟨_, rfl⟩
                  have h := h x4_8 ex4_8
                  refine lv_iinc (v := x4_8) (lv' := [(4, .int x4_8), (0, .ref (K 0)), (1, .int p1), (2, .int p2), (3, .int p3)]) hx hb d_K_power_67 hl (k := 4) rfl (by rw [ex4_8]; rfl) (by decide) rfl (fun ls hl => ?_)
                  refine lv_goto (tgt := 34) hx hb d_K_power_70 (by decide) ?_
                  exact ih_34 x4_8 F_7 A_7 _ _ _ (Nat.lt_of_lt_of_le h.2 (Nat.le_of_lt_succ hμ_34)) h.1 hP hS (lv_sub hl [1, 2, 3, 4, 0] rfl)
                · have h := h.2 c_54
                  refine lv_aload_n hx hb d_K_power_57 rfl (lv_at hl 0 rfl) ?_
                  refine lv_aload_n hx hb d_K_power_58 rfl (lv_at hl 0 rfl) ?_
                  refine gs_get (v := .ref (K 1)) hx hb htw i_K hown hK hP (gK_0 hΛ) rfl 0 (by decide) (htw _ mm_89) rfl d_K_power_59 ?_
                  refine lv_iload_n hx hb d_K_power_62 rfl (lv_at hl 2 rfl) ?_
                  obtain ⟨hin_9, h⟩ := h
                  refine gs_ald hx hb hK hP (gK_1 hΛ) hin_9 d_K_power_63 ?_
                  refine gx_gov (gx_runV (As := [.ref (K (7 + 2 * p2.toNatClampNeg))]) (rest := []) hx hb hml hown htw gx_blind (gx_pre hP hK hS hN) hK hP hl.1 (w_K_multiplyOutcome hfl hlo K (K (7 + 2 * p2.toNatClampNeg)) (K (8 + 2 * p2.toNatClampNeg)) (67) hΛ ⟨(gK_r hΛ hin_9).1, (gK_r hΛ hin_9).2⟩ F_7 A_7 _ _ h) k_K_multiplyOutcome mm_555 ⟨Nat.le_of_ble_eq_true rfl, Nat.le_of_ble_eq_true rfl⟩ (Nat.le_of_ble_eq_true rfl) (Nat.le_of_ble_eq_true rfl) (gK_0 hΛ) rfl rfl rfl (Nat.le_of_ble_eq_true rfl) d_K_power_64) hS (fun F_10 A_10 H locs hw hP hS => ?_) (fun x_10 k_10 F_10 A_10 H locs hw hP hS => ?_)
                  · have h := hw
                    obtain ⟨x4_11, ex4_11⟩ : ∃ y : Int32, y = x4_4 + (-1 : Int32) := ⟨_, rfl⟩
                    have h := h x4_11 ex4_11
                    refine lv_iinc (v := x4_11) (lv' := [(4, .int x4_11), (0, .ref (K 0)), (1, .int p1), (2, .int p2), (3, .int p3)]) hx hb d_K_power_67 hl (k := 4) rfl (by rw [ex4_11]; rfl) (by decide) rfl (fun ls hl => ?_)
                    refine lv_goto (tgt := 34) hx hb d_K_power_70 (by decide) ?_
                    exact ih_34 x4_11 F_10 A_10 _ _ _ (Nat.lt_of_lt_of_le h.2 (Nat.le_of_lt_succ hμ_34)) h.1 hP hS (lv_sub hl [1, 2, 3, 4, 0] rfl)
                  · rw [← hQe]
                    exact gx_out hnh hlocks hP hK hS hw
              · rw [← hQe]
                exact gx_out hnh hlocks hP hK hS hw
        exact loop_34 (μ_34 (30 : Int32) F_3 A_3 + 1) (30 : Int32) F_3 A_3 _ _ _ (Nat.lt_succ_self _) h0_34 hP hS (lv_sub hl [1, 2, 3, 4, 0] rfl)
      · have h := h.2 c_9
        rw [← hQe]
        exact gx_throw (tx := "a power below 0") hx hb hml hown htw hfl hN hnh hlocks hP0 hP hK hS hl.1 1 gx_at1 (by decide) ⟨Nat.le_of_ble_eq_true rfl, Nat.le_of_ble_eq_true rfl, Nat.le_of_ble_eq_true rfl, Nat.le_of_ble_eq_true rfl⟩ d_K_power_12 d_K_power_15 d_K_power_16 d_K_power_18 d_K_power_21 h
    · rw [← hQe]
      exact gx_out hnh hlocks hP hK hS hw
  · rw [← hQe]
    exact gx_out hnh hlocks hP hK hS hw
