variable {l : Launch} {D : va_G} {cI cB cJ cW : ClassId} {Λ : gs_L} {L : Nat → Nat → Int64}
abbrev rm_D_cutSigned : Room := { frames := 4, cells := 0, slots := 0, locals := 145 }
set_option maxHeartbeats 4000000 in
set_option maxRecDepth 100000 in
theorem w_D_cutSigned (hlo : gs_D Λ) (K : Nat → Nat) (a1 l1 n1 : Nat) (a2 l2 n2 : Nat) (hΛ : gK cI cB cW Λ K) (h1 : gW cI Λ a1 l1 n1) (h2 : gW cI Λ a2 l2 n2) (F A : gm_M) (post : gm_M → gm_M → Prop) (h : vc_D_cutSigned K a1 l1 n1 a2 l2 n2 F A post) : Met l y_D_cutSigned (.code y_D_cutSigned b_D_cutSigned 3 none :: gw_WS) rm_D_cutSigned (va_Pc [.ref (K 4), .ref a1, .ref a2] (gw_P D cI cB cJ cW Λ L F A)) (gw_Qv D cI cB cJ cW Λ L (fun F2 A2 => post F2 A2)) 0 0 (gw_A Λ) := by
  refine Met.ofW (cc := b_D_cutSigned) (maxL := 3) (ret := none) (by decide) rfl ?_
  intro p e s m args below meth c s₁ B hml hv
  obtain ⟨hargs, hP, hK⟩ := hv
  have hx := B.exec
  have hb := B.bytes
  have hr := B.returns
  have hlocks := B.notSynchronized
  have htw : ∀ w ∈ gw_WS, w.before args s = true := fun w h9 => atoms_spec (ws := .code y_D_cutSigned b_D_cutSigned 3 none :: gw_WS) B.pre w (List.mem_cons_of_mem _ h9)
  have hown : s.vm.findClass R_D = some m.cls := findClass_of_methodNamed B.named
  have hS : va_S (gw_A Λ) s.heap s.heap [] := va_S.rf
  refine W.eq (g2 := entryFrame m ([.ref (K 4), .ref a1, .ref a2] : List Value).toArray 3) (by rw [hargs]) ?_
  have hl := lv_entry ([.ref (K 4), .ref a1, .ref a2]) (n := 3) (Nat.le_of_ble_eq_true rfl)
  rw [lg_entry_eq]
  generalize (lg_sl ([.ref (K 4), .ref a1, .ref a2]) ++ List.replicate (3 - (lg_sl ([.ref (K 4), .ref a1, .ref a2])).length) Slot.unset).toArray = ls at hl ⊢
  have hl : lv_has ls 3 [(0, .ref (K 4)), (1, .ref a1), (2, .ref a2)] := hl
  generalize hQe : MQ below (gw_Qv D cI cB cJ cW Λ L (fun F2 A2 => post F2 A2)) args s 0 0 (gw_A Λ) = Q
  unfold vc_D_cutSigned at h
  refine lv_aload_n hx hb d_D_cutSigned_0 rfl (lv_at hl 0 rfl) ?_
  refine lv_aload_n hx hb d_D_cutSigned_1 rfl (lv_at hl 1 rfl) ?_
  refine lv_aload_n hx hb d_D_cutSigned_2 rfl (lv_at hl 2 rfl) ?_
  refine gw_gov (gw_runV (As := [.ref a1, .ref a2]) (rest := []) hx hb hml hown htw hK hP hS hl.1 (w_D_cut hlo K a1 l1 n1 a2 l2 n2 hΛ ⟨h1.1, h1.2⟩ ⟨h2.1, h2.2⟩ F A _ h) k_D_cut mm_454 ⟨Nat.le_of_ble_eq_true rfl, Nat.le_of_ble_eq_true rfl⟩ rfl rfl (gK_4 hΛ) rfl rfl rfl (Nat.le_of_ble_eq_true rfl) d_D_cutSigned_3) hS (fun F_1 A_1 H locs hw hP hS => ?_)
  have h := hw
  refine lv_aload_n hx hb d_D_cutSigned_6 rfl (lv_at hl 0 rfl) ?_
  refine gs_get (v := .ref (K 39)) hx hb htw i_D hown hK hP (gK_4 hΛ) rfl 0 (by decide) (htw _ mm_74) rfl d_D_cutSigned_7 ?_
  refine lv_aload_n hx hb d_D_cutSigned_10 rfl (lv_at hl 1 rfl) ?_
  refine gs_get (v := .int (F_1 a1 2)) hx hb htw i_W hown hK hP h1.1 rfl 2 (by decide) (htw _ mm_38) rfl d_D_cutSigned_11 ?_
  refine lv_aload_n hx hb d_D_cutSigned_14 rfl (lv_at hl 2 rfl) ?_
  refine gs_get (v := .int (F_1 a2 2)) hx hb htw i_W hown hK hP h2.1 rfl 2 (by decide) (htw _ mm_38) rfl d_D_cutSigned_15 ?_
  refine lv_icmp_eq (tgt := 25) hx hb d_D_cutSigned_18 (by decide) (fun c_18 => ?_) (fun c_18 => ?_)
  · have h := h.1 c_18
    refine lv_iconst (v := (0 : Int32)) hx hb d_D_cutSigned_25 (by decide) ?_
    refine gw_gov (gw_runV (As := [.int (0 : Int32)]) (rest := []) hx hb hml hown htw hK hP hS hl.1 (w_W_setBelow hlo (K 39) (K 40) (135) (0 : Int32) ⟨(gK_w16 hΛ).1, (gK_w16 hΛ).2⟩ F_1 A_1 _ h) k_W_setBelow mm_461 ⟨Nat.le_of_ble_eq_true rfl, Nat.le_of_ble_eq_true rfl⟩ rfl rfl (gK_w16 hΛ).1 rfl rfl rfl (Nat.le_of_ble_eq_true rfl) d_D_cutSigned_26) hS (fun F_2 A_2 H locs hw hP hS => ?_)
    obtain ⟨rfl, hw⟩ := hw
    have h := hw
    refine lv_aload_n hx hb d_D_cutSigned_29 rfl (lv_at hl 0 rfl) ?_
    refine gs_get (v := .ref (K 41)) hx hb htw i_D hown hK hP (gK_4 hΛ) rfl 1 (by decide) (htw _ mm_76) rfl d_D_cutSigned_30 ?_
    refine lv_aload_n hx hb d_D_cutSigned_33 rfl (lv_at hl 1 rfl) ?_
    refine gs_get (v := .int (F_2 a1 2)) hx hb htw i_W hown hK hP h1.1 rfl 2 (by decide) (htw _ mm_38) rfl d_D_cutSigned_34 ?_
    refine gw_gov (gw_runV (As := [.int (F_2 a1 2)]) (rest := []) hx hb hml hown htw hK hP hS hl.1 (w_W_setBelow hlo (K 41) (K 42) (135) (F_2 a1 2) ⟨(gK_w17 hΛ).1, (gK_w17 hΛ).2⟩ F_2 A_1 _ h) k_W_setBelow mm_461 ⟨Nat.le_of_ble_eq_true rfl, Nat.le_of_ble_eq_true rfl⟩ rfl rfl (gK_w17 hΛ).1 rfl rfl rfl (Nat.le_of_ble_eq_true rfl) d_D_cutSigned_37) hS (fun F_3 A_3 H locs hw hP hS => ?_)
    obtain ⟨rfl, hw⟩ := hw
    have h := hw
    rw [← hQe]
    exact gw_vret hx hb hr hlocks hP hK hS h d_D_cutSigned_40
  · have h := h.2 c_18
    refine lv_iconst (v := (1 : Int32)) hx hb d_D_cutSigned_21 (by decide) ?_
    refine lv_goto (tgt := 26) hx hb d_D_cutSigned_22 (by decide) ?_
    refine gw_gov (gw_runV (As := [.int (1 : Int32)]) (rest := []) hx hb hml hown htw hK hP hS hl.1 (w_W_setBelow hlo (K 39) (K 40) (135) (1 : Int32) ⟨(gK_w16 hΛ).1, (gK_w16 hΛ).2⟩ F_1 A_1 _ h) k_W_setBelow mm_461 ⟨Nat.le_of_ble_eq_true rfl, Nat.le_of_ble_eq_true rfl⟩ rfl rfl (gK_w16 hΛ).1 rfl rfl rfl (Nat.le_of_ble_eq_true rfl) d_D_cutSigned_26) hS (fun F_4 A_4 H locs hw hP hS => ?_)
    obtain ⟨rfl, hw⟩ := hw
    have h := hw
    refine lv_aload_n hx hb d_D_cutSigned_29 rfl (lv_at hl 0 rfl) ?_
    refine gs_get (v := .ref (K 41)) hx hb htw i_D hown hK hP (gK_4 hΛ) rfl 1 (by decide) (htw _ mm_76) rfl d_D_cutSigned_30 ?_
    refine lv_aload_n hx hb d_D_cutSigned_33 rfl (lv_at hl 1 rfl) ?_
    refine gs_get (v := .int (F_4 a1 2)) hx hb htw i_W hown hK hP h1.1 rfl 2 (by decide) (htw _ mm_38) rfl d_D_cutSigned_34 ?_
    refine gw_gov (gw_runV (As := [.int (F_4 a1 2)]) (rest := []) hx hb hml hown htw hK hP hS hl.1 (w_W_setBelow hlo (K 41) (K 42) (135) (F_4 a1 2) ⟨(gK_w17 hΛ).1, (gK_w17 hΛ).2⟩ F_4 A_1 _ h) k_W_setBelow mm_461 ⟨Nat.le_of_ble_eq_true rfl, Nat.le_of_ble_eq_true rfl⟩ rfl rfl (gK_w17 hΛ).1 rfl rfl rfl (Nat.le_of_ble_eq_true rfl) d_D_cutSigned_37) hS (fun F_5 A_5 H locs hw hP hS => ?_)
    obtain ⟨rfl, hw⟩ := hw
    have h := hw
    rw [← hQe]
    exact gw_vret hx hb hr hlocks hP hK hS h d_D_cutSigned_40
abbrev rm_D_roundDown : Room := { frames := 4, cells := 0, slots := 0, locals := 112 }
set_option maxHeartbeats 4000000 in
set_option maxRecDepth 100000 in
theorem w_D_roundDown (hlo : gs_D Λ) (K : Nat → Nat) (a1 l1 n1 : Nat) (hΛ : gK cI cB cW Λ K) (h1 : gW cI Λ a1 l1 n1) (F A : gm_M) (post : gm_M → gm_M → Prop) (h : vc_D_roundDown K a1 l1 n1 F A post) : Met l y_D_roundDown (.code y_D_roundDown b_D_roundDown 2 none :: gw_WS) rm_D_roundDown (va_Pc [.ref (K 4), .ref a1] (gw_P D cI cB cJ cW Λ L F A)) (gw_Qv D cI cB cJ cW Λ L (fun F2 A2 => post F2 A2)) 0 0 (gw_A Λ) := by
  refine Met.ofW (cc := b_D_roundDown) (maxL := 2) (ret := none) (by decide) rfl ?_
  intro p e s m args below meth c s₁ B hml hv
  obtain ⟨hargs, hP, hK⟩ := hv
  have hx := B.exec
  have hb := B.bytes
  have hr := B.returns
  have hlocks := B.notSynchronized
  have htw : ∀ w ∈ gw_WS, w.before args s = true := fun w h9 => atoms_spec (ws := .code y_D_roundDown b_D_roundDown 2 none :: gw_WS) B.pre w (List.mem_cons_of_mem _ h9)
  have hown : s.vm.findClass R_D = some m.cls := findClass_of_methodNamed B.named
  have hS : va_S (gw_A Λ) s.heap s.heap [] := va_S.rf
  refine W.eq (g2 := entryFrame m ([.ref (K 4), .ref a1] : List Value).toArray 2) (by rw [hargs]) ?_
  have hl := lv_entry ([.ref (K 4), .ref a1]) (n := 2) (Nat.le_of_ble_eq_true rfl)
  rw [lg_entry_eq]
  generalize (lg_sl ([.ref (K 4), .ref a1]) ++ List.replicate (2 - (lg_sl ([.ref (K 4), .ref a1])).length) Slot.unset).toArray = ls at hl ⊢
  have hl : lv_has ls 2 [(0, .ref (K 4)), (1, .ref a1)] := hl
  generalize hQe : MQ below (gw_Qv D cI cB cJ cW Λ L (fun F2 A2 => post F2 A2)) args s 0 0 (gw_A Λ) = Q
  unfold vc_D_roundDown at h
  refine lv_aload_n hx hb d_D_roundDown_0 rfl (lv_at hl 0 rfl) ?_
  refine gs_get (v := .ref (K 41)) hx hb htw i_D hown hK hP (gK_4 hΛ) rfl 1 (by decide) (htw _ mm_76) rfl d_D_roundDown_1 ?_
  refine gw_goi (gw_runV (As := []) (rest := []) hx hb hml hown htw hK hP hS hl.1 (w_W_sign hlo (K 41) (K 42) (135) ⟨(gK_w17 hΛ).1, (gK_w17 hΛ).2⟩ F A _ h) k_W_sign mm_496 ⟨Nat.le_of_ble_eq_true rfl, Nat.le_of_ble_eq_true rfl⟩ rfl rfl (gK_w17 hΛ).1 rfl rfl rfl (Nat.le_of_ble_eq_true rfl) d_D_roundDown_4) hS (fun r_1 F_1 A_1 H locs hw hP hS => ?_)
  obtain ⟨rfl, hw⟩ := hw
  obtain ⟨rfl, hw⟩ := hw
  have h := hw
  refine lv_aload_n hx hb d_D_roundDown_7 rfl (lv_at hl 1 rfl) ?_
  refine gw_goi (gw_runV (As := []) (rest := [.int r_1]) hx hb hml hown htw hK hP hS hl.1 (w_W_sign hlo a1 l1 n1 ⟨h1.1, h1.2⟩ F A _ h) k_W_sign mm_496 ⟨Nat.le_of_ble_eq_true rfl, Nat.le_of_ble_eq_true rfl⟩ rfl rfl h1.1 rfl rfl rfl (Nat.le_of_ble_eq_true rfl) d_D_roundDown_8) hS (fun r_2 F_2 A_2 H locs hw hP hS => ?_)
  obtain ⟨rfl, hw⟩ := hw
  obtain ⟨rfl, hw⟩ := hw
  have h := hw
  refine lv_imul hx hb d_D_roundDown_11 ?_
  refine lv_if_ge (tgt := 46) hx hb d_D_roundDown_12 (by decide) (fun c_12 => ?_) (fun c_12 => ?_)
  · have h := h.1 c_12
    rw [← hQe]
    exact gw_vret hx hb hr hlocks hP hK hS h d_D_roundDown_46
  · have h := h.2 c_12
    refine lv_aload_n hx hb d_D_roundDown_15 rfl (lv_at hl 0 rfl) ?_
    refine gs_get (v := .ref (K 41)) hx hb htw i_D hown hK hP (gK_4 hΛ) rfl 1 (by decide) (htw _ mm_76) rfl d_D_roundDown_16 ?_
    refine lv_aload_n hx hb d_D_roundDown_19 rfl (lv_at hl 0 rfl) ?_
    refine gs_get (v := .ref (K 41)) hx hb htw i_D hown hK hP (gK_4 hΛ) rfl 1 (by decide) (htw _ mm_76) rfl d_D_roundDown_20 ?_
    refine lv_aload_n hx hb d_D_roundDown_23 rfl (lv_at hl 1 rfl) ?_
    refine lv_aload_n hx hb d_D_roundDown_24 rfl (lv_at hl 1 rfl) ?_
    refine gs_get (v := .int (F a1 2)) hx hb htw i_W hown hK hP h1.1 rfl 2 (by decide) (htw _ mm_38) rfl d_D_roundDown_25 ?_
    refine gw_gov (gw_runV (As := [.ref (K 41), .ref a1, .int (F a1 2)]) (rest := []) hx hb hml hown htw hK hP hS hl.1 (w_W_takeSum hlo (K 41) (K 42) (135) (K 41) (K 42) (135) a1 l1 n1 (F a1 2) ⟨(gK_w17 hΛ).1, (gK_w17 hΛ).2⟩ ⟨(gK_w17 hΛ).1, (gK_w17 hΛ).2⟩ ⟨h1.1, h1.2⟩ F A _ h) k_W_takeSum mm_497 ⟨Nat.le_of_ble_eq_true rfl, Nat.le_of_ble_eq_true rfl⟩ rfl rfl (gK_w17 hΛ).1 rfl rfl rfl (Nat.le_of_ble_eq_true rfl) d_D_roundDown_28) hS (fun F_3 A_3 H locs hw hP hS => ?_)
    have h := hw
    refine lv_aload_n hx hb d_D_roundDown_31 rfl (lv_at hl 0 rfl) ?_
    refine gs_get (v := .ref (K 39)) hx hb htw i_D hown hK hP (gK_4 hΛ) rfl 0 (by decide) (htw _ mm_74) rfl d_D_roundDown_32 ?_
    refine gw_gov (gw_runV (As := []) (rest := []) hx hb hml hown htw hK hP hS hl.1 (w_W_growByOne hlo (K 39) (K 40) (135) ⟨(gK_w16 hΛ).1, (gK_w16 hΛ).2⟩ F_3 A_3 _ h) k_W_growByOne mm_498 ⟨Nat.le_of_ble_eq_true rfl, Nat.le_of_ble_eq_true rfl⟩ rfl rfl (gK_w16 hΛ).1 rfl rfl rfl (Nat.le_of_ble_eq_true rfl) d_D_roundDown_35) hS (fun F_4 A_4 H locs hw hP hS => ?_)
    have h := hw
    refine lv_aload_n hx hb d_D_roundDown_38 rfl (lv_at hl 0 rfl) ?_
    refine gs_get (v := .ref (K 39)) hx hb htw i_D hown hK hP (gK_4 hΛ) rfl 0 (by decide) (htw _ mm_74) rfl d_D_roundDown_39 ?_
    refine lv_iconst (v := (1 : Int32)) hx hb d_D_roundDown_42 (by decide) ?_
    refine gw_gov (gw_runV (As := [.int (1 : Int32)]) (rest := []) hx hb hml hown htw hK hP hS hl.1 (w_W_setBelow hlo (K 39) (K 40) (135) (1 : Int32) ⟨(gK_w16 hΛ).1, (gK_w16 hΛ).2⟩ F_4 A_4 _ h) k_W_setBelow mm_461 ⟨Nat.le_of_ble_eq_true rfl, Nat.le_of_ble_eq_true rfl⟩ rfl rfl (gK_w16 hΛ).1 rfl rfl rfl (Nat.le_of_ble_eq_true rfl) d_D_roundDown_43) hS (fun F_5 A_5 H locs hw hP hS => ?_)
    obtain ⟨rfl, hw⟩ := hw
    have h := hw
    rw [← hQe]
    exact gw_vret hx hb hr hlocks hP hK hS h d_D_roundDown_46
