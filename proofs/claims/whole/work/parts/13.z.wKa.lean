variable {l : Launch} {D : va_G} {cI cB cJ cW : ClassId} {Λ : gs_L} {L : Nat → Nat → Int64}
abbrev rm_K_isRegister : Room := { frames := 0, cells := 0, slots := 0, locals := 0 }
set_option maxHeartbeats 4000000 in
set_option maxRecDepth 100000 in
theorem w_K_isRegister (hlo : gs_D Λ) (p1 : Int32) (F A : gm_M) (post : Int32 → Prop) (h : vc_K_isRegister p1 F A post) : Met l y_K_isRegister (.code y_K_isRegister b_K_isRegister 1 (some .boolean) :: gw_WS) rm_K_isRegister (va_Pc [.int p1] (gw_P D cI cB cJ cW Λ L F A)) (gw_Qi D cI cB cJ cW Λ L (fun r F2 A2 => F = F2 ∧ A = A2 ∧ post r)) 0 0 (gw_A Λ) := by
  refine Met.ofW (cc := b_K_isRegister) (maxL := 1) (ret := (some .boolean)) (by decide) rfl ?_
  intro p e s m args below meth c s₁ B hml hv
  obtain ⟨hargs, hP, hK⟩ := hv
  have hx := B.exec
  have hb := B.bytes
  have hr := B.returns
  have hlocks := B.notSynchronized
  have htw : ∀ w ∈ gw_WS, w.before args s = true := fun w h9 => atoms_spec (ws := .code y_K_isRegister b_K_isRegister 1 (some .boolean) :: gw_WS) B.pre w (List.mem_cons_of_mem _ h9)
  have hown : s.vm.findClass R_K = some m.cls := findClass_of_methodNamed B.named
  have hS : va_S (gw_A Λ) s.heap s.heap [] := va_S.rf
  refine W.eq (g2 := entryFrame m ([.int p1] : List Value).toArray 1) (by rw [hargs]) ?_
  have hl := lv_entry ([.int p1]) (n := 1) (Nat.le_of_ble_eq_true rfl)
  rw [lg_entry_eq]
  generalize (lg_sl ([.int p1]) ++ List.replicate (1 - (lg_sl ([.int p1])).length) Slot.unset).toArray = ls at hl ⊢
  have hl : lv_has ls 1 [(0, .int p1)] := hl
  generalize hQe : MQ below (gw_Qi D cI cB cJ cW Λ L (fun r F2 A2 => F = F2 ∧ A = A2 ∧ post r)) args s 0 0 (gw_A Λ) = Q
  unfold vc_K_isRegister at h
  refine lv_iload_n hx hb d_K_isRegister_0 rfl (lv_at hl 0 rfl) ?_
  refine lv_if_lt (tgt := 14) hx hb d_K_isRegister_1 (by decide) (fun c_1 => ?_) (fun c_1 => ?_)
  · have h := h.1 c_1
    refine lv_iconst (v := (0 : Int32)) hx hb d_K_isRegister_14 (by decide) ?_
    rw [← hQe]
    exact gw_zret hx hb hr hlocks hP hK hS (by decide) ⟨rfl, rfl, h⟩ d_K_isRegister_15
  · have h := h.2 c_1
    refine lv_iload_n hx hb d_K_isRegister_4 rfl (lv_at hl 0 rfl) ?_
    refine lv_bipush (v := (16 : Int32)) hx hb d_K_isRegister_5 (by decide) ?_
    refine lv_icmp_ge (tgt := 14) hx hb d_K_isRegister_7 (by decide) (fun c_7 => ?_) (fun c_7 => ?_)
    · have h := h.1 c_7
      refine lv_iconst (v := (0 : Int32)) hx hb d_K_isRegister_14 (by decide) ?_
      rw [← hQe]
      exact gw_zret hx hb hr hlocks hP hK hS (by decide) ⟨rfl, rfl, h⟩ d_K_isRegister_15
    · have h := h.2 c_7
      refine lv_iconst (v := (1 : Int32)) hx hb d_K_isRegister_10 (by decide) ?_
      refine lv_goto (tgt := 15) hx hb d_K_isRegister_11 (by decide) ?_
      rw [← hQe]
      exact gw_zret hx hb hr hlocks hP hK hS (by decide) ⟨rfl, rfl, h⟩ d_K_isRegister_15
abbrev rm_K_isBase : Room := { frames := 0, cells := 0, slots := 0, locals := 0 }
set_option maxHeartbeats 4000000 in
set_option maxRecDepth 100000 in
theorem w_K_isBase (hlo : gs_D Λ) (p1 : Int32) (F A : gm_M) (post : Int32 → Prop) (h : vc_K_isBase p1 F A post) : Met l y_K_isBase (.code y_K_isBase b_K_isBase 1 (some .boolean) :: gw_WS) rm_K_isBase (va_Pc [.int p1] (gw_P D cI cB cJ cW Λ L F A)) (gw_Qi D cI cB cJ cW Λ L (fun r F2 A2 => F = F2 ∧ A = A2 ∧ post r)) 0 0 (gw_A Λ) := by
  refine Met.ofW (cc := b_K_isBase) (maxL := 1) (ret := (some .boolean)) (by decide) rfl ?_
  intro p e s m args below meth c s₁ B hml hv
  obtain ⟨hargs, hP, hK⟩ := hv
  have hx := B.exec
  have hb := B.bytes
  have hr := B.returns
  have hlocks := B.notSynchronized
  have htw : ∀ w ∈ gw_WS, w.before args s = true := fun w h9 => atoms_spec (ws := .code y_K_isBase b_K_isBase 1 (some .boolean) :: gw_WS) B.pre w (List.mem_cons_of_mem _ h9)
  have hown : s.vm.findClass R_K = some m.cls := findClass_of_methodNamed B.named
  have hS : va_S (gw_A Λ) s.heap s.heap [] := va_S.rf
  refine W.eq (g2 := entryFrame m ([.int p1] : List Value).toArray 1) (by rw [hargs]) ?_
  have hl := lv_entry ([.int p1]) (n := 1) (Nat.le_of_ble_eq_true rfl)
  rw [lg_entry_eq]
  generalize (lg_sl ([.int p1]) ++ List.replicate (1 - (lg_sl ([.int p1])).length) Slot.unset).toArray = ls at hl ⊢
  have hl : lv_has ls 1 [(0, .int p1)] := hl
  generalize hQe : MQ below (gw_Qi D cI cB cJ cW Λ L (fun r F2 A2 => F = F2 ∧ A = A2 ∧ post r)) args s 0 0 (gw_A Λ) = Q
  unfold vc_K_isBase at h
  refine lv_iload_n hx hb d_K_isBase_0 rfl (lv_at hl 0 rfl) ?_
  refine lv_iconst (v := (2 : Int32)) hx hb d_K_isBase_1 (by decide) ?_
  refine lv_icmp_lt (tgt := 15) hx hb d_K_isBase_2 (by decide) (fun c_2 => ?_) (fun c_2 => ?_)
  · have h := h.1 c_2
    refine lv_iconst (v := (0 : Int32)) hx hb d_K_isBase_15 (by decide) ?_
    rw [← hQe]
    exact gw_zret hx hb hr hlocks hP hK hS (by decide) ⟨rfl, rfl, h⟩ d_K_isBase_16
  · have h := h.2 c_2
    refine lv_iload_n hx hb d_K_isBase_5 rfl (lv_at hl 0 rfl) ?_
    refine lv_bipush (v := (36 : Int32)) hx hb d_K_isBase_6 (by decide) ?_
    refine lv_icmp_gt (tgt := 15) hx hb d_K_isBase_8 (by decide) (fun c_8 => ?_) (fun c_8 => ?_)
    · have h := h.1 c_8
      refine lv_iconst (v := (0 : Int32)) hx hb d_K_isBase_15 (by decide) ?_
      rw [← hQe]
      exact gw_zret hx hb hr hlocks hP hK hS (by decide) ⟨rfl, rfl, h⟩ d_K_isBase_16
    · have h := h.2 c_8
      refine lv_iconst (v := (1 : Int32)) hx hb d_K_isBase_11 (by decide) ?_
      refine lv_goto (tgt := 16) hx hb d_K_isBase_12 (by decide) ?_
      rw [← hQe]
      exact gw_zret hx hb hr hlocks hP hK hS (by decide) ⟨rfl, rfl, h⟩ d_K_isBase_16
abbrev rm_K_reduceProduct : Room := { frames := 4, cells := 0, slots := 0, locals := 145 }
set_option maxHeartbeats 4000000 in
set_option maxRecDepth 100000 in
theorem w_K_reduceProduct (hlo : gs_D Λ) (K : Nat → Nat) (a1 l1 n1 : Nat) (hΛ : gK cI cB cW Λ K) (h1 : gW cI Λ a1 l1 n1) (F A : gm_M) (post : gm_M → gm_M → Prop) (h : vc_K_reduceProduct K a1 l1 n1 F A post) : Met l y_K_reduceProduct (.code y_K_reduceProduct b_K_reduceProduct 2 none :: gw_WS) rm_K_reduceProduct (va_Pc [.ref (K 0), .ref a1] (gw_P D cI cB cJ cW Λ L F A)) (gw_Qv D cI cB cJ cW Λ L (fun F2 A2 => post F2 A2)) 0 0 (gw_A Λ) := by
  refine Met.ofW (cc := b_K_reduceProduct) (maxL := 2) (ret := none) (by decide) rfl ?_
  intro p e s m args below meth c s₁ B hml hv
  obtain ⟨hargs, hP, hK⟩ := hv
  have hx := B.exec
  have hb := B.bytes
  have hr := B.returns
  have hlocks := B.notSynchronized
  have htw : ∀ w ∈ gw_WS, w.before args s = true := fun w h9 => atoms_spec (ws := .code y_K_reduceProduct b_K_reduceProduct 2 none :: gw_WS) B.pre w (List.mem_cons_of_mem _ h9)
  have hown : s.vm.findClass R_K = some m.cls := findClass_of_methodNamed B.named
  have hS : va_S (gw_A Λ) s.heap s.heap [] := va_S.rf
  refine W.eq (g2 := entryFrame m ([.ref (K 0), .ref a1] : List Value).toArray 2) (by rw [hargs]) ?_
  have hl := lv_entry ([.ref (K 0), .ref a1]) (n := 2) (Nat.le_of_ble_eq_true rfl)
  rw [lg_entry_eq]
  generalize (lg_sl ([.ref (K 0), .ref a1]) ++ List.replicate (2 - (lg_sl ([.ref (K 0), .ref a1])).length) Slot.unset).toArray = ls at hl ⊢
  have hl : lv_has ls 2 [(0, .ref (K 0)), (1, .ref a1)] := hl
  generalize hQe : MQ below (gw_Qv D cI cB cJ cW Λ L (fun F2 A2 => post F2 A2)) args s 0 0 (gw_A Λ) = Q
  unfold vc_K_reduceProduct at h
  refine lv_aload_n hx hb d_K_reduceProduct_0 rfl (lv_at hl 0 rfl) ?_
  refine gs_get (v := .ref (K 4)) hx hb htw i_K hown hK hP (gK_0 hΛ) rfl 2 (by decide) (htw _ mm_91) rfl d_K_reduceProduct_1 ?_
  refine lv_aload_n hx hb d_K_reduceProduct_4 rfl (lv_at hl 0 rfl) ?_
  refine gs_get (v := .ref (K 45)) hx hb htw i_K hown hK hP (gK_0 hΛ) rfl 4 (by decide) (htw _ mm_93) rfl d_K_reduceProduct_5 ?_
  refine lv_aload_n hx hb d_K_reduceProduct_8 rfl (lv_at hl 1 rfl) ?_
  refine gw_gov (gw_runV (As := [.ref (K 45), .ref a1]) (rest := []) hx hb hml hown htw hK hP hS hl.1 (w_D_cut hlo K (K 45) (K 46) (135) a1 l1 n1 hΛ ⟨(gK_w19 hΛ).1, (gK_w19 hΛ).2⟩ ⟨h1.1, h1.2⟩ F A _ h) k_D_cut mm_570 ⟨Nat.le_of_ble_eq_true rfl, Nat.le_of_ble_eq_true rfl⟩ rfl rfl (gK_4 hΛ) rfl rfl rfl (Nat.le_of_ble_eq_true rfl) d_K_reduceProduct_9) hS (fun F_1 A_1 H locs hw hP hS => ?_)
  have h := hw
  refine lv_aload_n hx hb d_K_reduceProduct_12 rfl (lv_at hl 0 rfl) ?_
  refine gs_get (v := .ref (K 43)) hx hb htw i_K hown hK hP (gK_0 hΛ) rfl 3 (by decide) (htw _ mm_92) rfl d_K_reduceProduct_13 ?_
  refine lv_aload_n hx hb d_K_reduceProduct_16 rfl (lv_at hl 0 rfl) ?_
  refine gs_get (v := .ref (K 4)) hx hb htw i_K hown hK hP (gK_0 hΛ) rfl 2 (by decide) (htw _ mm_91) rfl d_K_reduceProduct_17 ?_
  refine gs_get (v := .ref (K 41)) hx hb htw i_D hown hK hP (gK_4 hΛ) rfl 1 (by decide) (htw _ mm_77) rfl d_K_reduceProduct_20 ?_
  refine gw_gov (gw_runV (As := [.ref (K 41)]) (rest := []) hx hb hml hown htw hK hP hS hl.1 (w_W_takeCopy hlo (K 43) (K 44) (135) (K 41) (K 42) (135) ⟨(gK_w18 hΛ).1, (gK_w18 hΛ).2⟩ ⟨(gK_w17 hΛ).1, (gK_w17 hΛ).2⟩ F_1 A_1 _ h) k_W_takeCopy mm_305 ⟨Nat.le_of_ble_eq_true rfl, Nat.le_of_ble_eq_true rfl⟩ rfl rfl (gK_w18 hΛ).1 rfl rfl rfl (Nat.le_of_ble_eq_true rfl) d_K_reduceProduct_23) hS (fun F_2 A_2 H locs hw hP hS => ?_)
  have h := hw
  rw [← hQe]
  exact gw_vret hx hb hr hlocks hP hK hS h d_K_reduceProduct_26
abbrev rm_K_raiseWithin : Room := { frames := 5, cells := 0, slots := 0, locals := 166 }
set_option maxHeartbeats 4000000 in
set_option maxRecDepth 100000 in
theorem w_K_raiseWithin (hlo : gs_D Λ) (K : Nat → Nat) (a1 l1 n1 : Nat) (a2 l2 n2 : Nat) (a3 l3 n3 : Nat) (hΛ : gK cI cB cW Λ K) (h1 : gW cI Λ a1 l1 n1) (h2 : gW cI Λ a2 l2 n2) (h3 : gW cI Λ a3 l3 n3) (F A : gm_M) (post : gm_M → gm_M → Prop) (h : vc_K_raiseWithin K a1 l1 n1 a2 l2 n2 a3 l3 n3 F A post) : Met l y_K_raiseWithin (.code y_K_raiseWithin b_K_raiseWithin 5 none :: gw_WS) rm_K_raiseWithin (va_Pc [.ref (K 0), .ref a1, .ref a2, .ref a3] (gw_P D cI cB cJ cW Λ L F A)) (gw_Qv D cI cB cJ cW Λ L (fun F2 A2 => post F2 A2)) 0 0 (gw_A Λ) := by
  refine Met.ofW (cc := b_K_raiseWithin) (maxL := 5) (ret := none) (by decide) rfl ?_
  intro p e s m args below meth c s₁ B hml hv
  obtain ⟨hargs, hP, hK⟩ := hv
  have hx := B.exec
  have hb := B.bytes
  have hr := B.returns
  have hlocks := B.notSynchronized
  have htw : ∀ w ∈ gw_WS, w.before args s = true := fun w h9 => atoms_spec (ws := .code y_K_raiseWithin b_K_raiseWithin 5 none :: gw_WS) B.pre w (List.mem_cons_of_mem _ h9)
  have hown : s.vm.findClass R_K = some m.cls := findClass_of_methodNamed B.named
  have hS : va_S (gw_A Λ) s.heap s.heap [] := va_S.rf
  refine W.eq (g2 := entryFrame m ([.ref (K 0), .ref a1, .ref a2, .ref a3] : List Value).toArray 5) (by rw [hargs]) ?_
  have hl := lv_entry ([.ref (K 0), .ref a1, .ref a2, .ref a3]) (n := 5) (Nat.le_of_ble_eq_true rfl)
  rw [lg_entry_eq]
  generalize (lg_sl ([.ref (K 0), .ref a1, .ref a2, .ref a3]) ++ List.replicate (5 - (lg_sl ([.ref (K 0), .ref a1, .ref a2, .ref a3])).length) Slot.unset).toArray = ls at hl ⊢
  have hl : lv_has ls 5 [(0, .ref (K 0)), (1, .ref a1), (2, .ref a2), (3, .ref a3)] := hl
  generalize hQe : MQ below (gw_Qv D cI cB cJ cW Λ L (fun F2 A2 => post F2 A2)) args s 0 0 (gw_A Λ) = Q
  unfold vc_K_raiseWithin at h
  refine lv_aload_n hx hb d_K_raiseWithin_0 rfl (lv_at hl 0 rfl) ?_
  refine gs_get (v := .ref (K 4)) hx hb htw i_K hown hK hP (gK_0 hΛ) rfl 2 (by decide) (htw _ mm_91) rfl d_K_raiseWithin_1 ?_
  refine lv_aload_n hx hb d_K_raiseWithin_4 rfl (lv_at hl 1 rfl) ?_
  refine lv_aload_n hx hb d_K_raiseWithin_5 rfl (lv_at hl 3 rfl) ?_
  refine gw_gov (gw_runV (As := [.ref a1, .ref a3]) (rest := []) hx hb hml hown htw hK hP hS hl.1 (w_D_cut hlo K a1 l1 n1 a3 l3 n3 hΛ ⟨h1.1, h1.2⟩ ⟨h3.1, h3.2⟩ F A _ h) k_D_cut mm_570 ⟨Nat.le_of_ble_eq_true rfl, Nat.le_of_ble_eq_true rfl⟩ rfl rfl (gK_4 hΛ) rfl rfl rfl (Nat.le_of_ble_eq_true rfl) d_K_raiseWithin_6) hS (fun F_1 A_1 H locs hw hP hS => ?_)
  have h := hw
  refine lv_aload_n hx hb d_K_raiseWithin_9 rfl (lv_at hl 0 rfl) ?_
  refine gs_get (v := .ref (K 47)) hx hb htw i_K hown hK hP (gK_0 hΛ) rfl 5 (by decide) (htw _ mm_94) rfl d_K_raiseWithin_10 ?_
  refine lv_aload_n hx hb d_K_raiseWithin_13 rfl (lv_at hl 0 rfl) ?_
  refine gs_get (v := .ref (K 4)) hx hb htw i_K hown hK hP (gK_0 hΛ) rfl 2 (by decide) (htw _ mm_91) rfl d_K_raiseWithin_14 ?_
  refine gs_get (v := .ref (K 41)) hx hb htw i_D hown hK hP (gK_4 hΛ) rfl 1 (by decide) (htw _ mm_77) rfl d_K_raiseWithin_17 ?_
  refine gw_gov (gw_runV (As := [.ref (K 41)]) (rest := []) hx hb hml hown htw hK hP hS hl.1 (w_W_takeCopy hlo (K 47) (K 48) (67) (K 41) (K 42) (135) ⟨(gK_w20 hΛ).1, (gK_w20 hΛ).2⟩ ⟨(gK_w17 hΛ).1, (gK_w17 hΛ).2⟩ F_1 A_1 _ h) k_W_takeCopy mm_305 ⟨Nat.le_of_ble_eq_true rfl, Nat.le_of_ble_eq_true rfl⟩ rfl rfl (gK_w20 hΛ).1 rfl rfl rfl (Nat.le_of_ble_eq_true rfl) d_K_raiseWithin_20) hS (fun F_2 A_2 H locs hw hP hS => ?_)
  have h := hw
  refine lv_aload_n hx hb d_K_raiseWithin_23 rfl (lv_at hl 0 rfl) ?_
  refine gs_get (v := .ref (K 45)) hx hb htw i_K hown hK hP (gK_0 hΛ) rfl 4 (by decide) (htw _ mm_93) rfl d_K_raiseWithin_24 ?_
  refine lv_lconst (v := (1 : Int64)) hx hb d_K_raiseWithin_27 (by decide) ?_
  refine gw_gov (gw_runV (As := [.long (1 : Int64)]) (rest := []) hx hb hml hown htw hK hP hS hl.1 (w_W_takeLong hlo (K 45) (K 46) (135) (1 : Int64) ⟨(gK_w19 hΛ).1, (gK_w19 hΛ).2⟩ F_2 A_2 _ h) k_W_takeLong mm_196 ⟨Nat.le_of_ble_eq_true rfl, Nat.le_of_ble_eq_true rfl⟩ rfl rfl (gK_w19 hΛ).1 rfl rfl rfl (Nat.le_of_ble_eq_true rfl) d_K_raiseWithin_28) hS (fun F_3 A_3 H locs hw hP hS => ?_)
  have h := hw
  refine lv_aload_n hx hb d_K_raiseWithin_31 rfl (lv_at hl 0 rfl) ?_
  refine lv_aload_n hx hb d_K_raiseWithin_32 rfl (lv_at hl 3 rfl) ?_
  refine gw_gov (gw_runV (As := [.ref a3]) (rest := []) hx hb hml hown htw hK hP hS hl.1 (w_K_reduceProduct hlo K a3 l3 n3 hΛ ⟨h3.1, h3.2⟩ F_3 A_3 _ h) k_K_reduceProduct mm_571 ⟨Nat.le_of_ble_eq_true rfl, Nat.le_of_ble_eq_true rfl⟩ rfl rfl (gK_0 hΛ) rfl rfl rfl (Nat.le_of_ble_eq_true rfl) d_K_raiseWithin_33) hS (fun F_4 A_4 H locs hw hP hS => ?_)
  have h := hw
  refine lv_aload_n hx hb d_K_raiseWithin_36 rfl (lv_at hl 2 rfl) ?_
  refine gw_goi (gw_runV (As := []) (rest := []) hx hb hml hown htw hK hP hS hl.1 (w_W_countBits hlo a2 l2 n2 ⟨h2.1, h2.2⟩ F_4 A_4 _ h) k_W_countBits mm_189 ⟨Nat.le_of_ble_eq_true rfl, Nat.le_of_ble_eq_true rfl⟩ rfl rfl h2.1 rfl rfl rfl (Nat.le_of_ble_eq_true rfl) d_K_raiseWithin_37) hS (fun r_5 F_5 A_5 H locs hw hP hS => ?_)
  obtain ⟨rfl, hw⟩ := hw
  obtain ⟨rfl, hw⟩ := hw
  have h := hw
  refine lv_iconst (v := (1 : Int32)) hx hb d_K_raiseWithin_40 (by decide) ?_
  refine lv_isub hx hb d_K_raiseWithin_41 ?_
  refine lv_topi (fun x4_6 ex4_6 => ?_)
  have h := h x4_6 ex4_6
  refine lv_istore (lv' := [(4, .int x4_6), (0, .ref (K 0)), (1, .ref a1), (2, .ref a2), (3, .ref a3)]) hx hb d_K_raiseWithin_42 hl (by decide) rfl (fun ls hl => ?_)
  obtain ⟨I_44, μ_44, h0_44, hs_44⟩ := h
  have loop_44 : ∀ (N : Nat) (x4_7 : Int32) (F_7 : gm_M) (A_7 : gm_M) (H : Heap) (locs : List Loc) (ls : Array Slot), μ_44 x4_7 F_7 A_7 < N → I_44 x4_7 F_7 A_7 → va_P D gcls (gs_ws Λ F_7 A_7 L) H → va_S (gw_A Λ) s.heap H locs → lv_has ls 5 [(0, .ref (K 0)), (2, .ref a2), (3, .ref a3), (4, .int x4_7)] → W p l e rm_K_raiseWithin s m args below meth c H locs 0 0 Q (F0 m 44 ls []) := by
    intro N
    induction N with
    | zero => intro x4_7 F_7 A_7 H locs ls hμ; exact absurd hμ (Nat.not_lt_zero _)
    | succ N ih_44 =>
      intro x4_7 F_7 A_7 H locs ls hμ_44 hI hP hS hl
      have h := hs_44 x4_7 F_7 A_7 hI
      refine lv_iload hx hb d_K_raiseWithin_44 (lv_at hl 3 rfl) ?_
      refine lv_if_lt (tgt := 104) hx hb d_K_raiseWithin_46 (by decide) (fun c_46 => ?_) (fun c_46 => ?_)
      · have h := h.1 c_46
        rw [← hQe]
        exact gw_vret hx hb hr hlocks hP hK hS h d_K_raiseWithin_104
      · have h := h.2 c_46
        refine lv_aload_n hx hb d_K_raiseWithin_49 rfl (lv_at hl 0 rfl) ?_
        refine gs_get (v := .ref (K 45)) hx hb htw i_K hown hK hP (gK_0 hΛ) rfl 4 (by decide) (htw _ mm_93) rfl d_K_raiseWithin_50 ?_
        refine lv_aload_n hx hb d_K_raiseWithin_53 rfl (lv_at hl 0 rfl) ?_
        refine gs_get (v := .ref (K 43)) hx hb htw i_K hown hK hP (gK_0 hΛ) rfl 3 (by decide) (htw _ mm_92) rfl d_K_raiseWithin_54 ?_
        refine lv_aload_n hx hb d_K_raiseWithin_57 rfl (lv_at hl 0 rfl) ?_
        refine gs_get (v := .ref (K 43)) hx hb htw i_K hown hK hP (gK_0 hΛ) rfl 3 (by decide) (htw _ mm_92) rfl d_K_raiseWithin_58 ?_
        refine gw_gov (gw_runV (As := [.ref (K 43), .ref (K 43)]) (rest := []) hx hb hml hown htw hK hP hS hl.1 (w_W_takeProduct hlo (K 45) (K 46) (135) (K 43) (K 44) (135) (K 43) (K 44) (135) ⟨(gK_w19 hΛ).1, (gK_w19 hΛ).2⟩ ⟨(gK_w18 hΛ).1, (gK_w18 hΛ).2⟩ ⟨(gK_w18 hΛ).1, (gK_w18 hΛ).2⟩ F_7 A_7 _ h) k_W_takeProduct mm_429 ⟨Nat.le_of_ble_eq_true rfl, Nat.le_of_ble_eq_true rfl⟩ rfl rfl (gK_w19 hΛ).1 rfl rfl rfl (Nat.le_of_ble_eq_true rfl) d_K_raiseWithin_61) hS (fun F_8 A_8 H locs hw hP hS => ?_)
        have h := hw
        refine lv_aload_n hx hb d_K_raiseWithin_64 rfl (lv_at hl 0 rfl) ?_
        refine lv_aload_n hx hb d_K_raiseWithin_65 rfl (lv_at hl 2 rfl) ?_
        refine gw_gov (gw_runV (As := [.ref a3]) (rest := []) hx hb hml hown htw hK hP hS hl.1 (w_K_reduceProduct hlo K a3 l3 n3 hΛ ⟨h3.1, h3.2⟩ F_8 A_8 _ h) k_K_reduceProduct mm_571 ⟨Nat.le_of_ble_eq_true rfl, Nat.le_of_ble_eq_true rfl⟩ rfl rfl (gK_0 hΛ) rfl rfl rfl (Nat.le_of_ble_eq_true rfl) d_K_raiseWithin_66) hS (fun F_9 A_9 H locs hw hP hS => ?_)
        have h := hw
        refine lv_aload_n hx hb d_K_raiseWithin_69 rfl (lv_at hl 1 rfl) ?_
        refine lv_iload hx hb d_K_raiseWithin_70 (lv_at hl 3 rfl) ?_
        refine gw_goi (gw_runV (As := [.int x4_7]) (rest := []) hx hb hml hown htw hK hP hS hl.1 (w_W_hasBit hlo a2 l2 n2 x4_7 ⟨h2.1, h2.2⟩ F_9 A_9 _ h) k_W_hasBit mm_575 ⟨Nat.le_of_ble_eq_true rfl, Nat.le_of_ble_eq_true rfl⟩ rfl rfl h2.1 rfl rfl rfl (Nat.le_of_ble_eq_true rfl) d_K_raiseWithin_72) hS (fun r_10 F_10 A_10 H locs hw hP hS => ?_)
        obtain ⟨rfl, hw⟩ := hw
        obtain ⟨rfl, hw⟩ := hw
        have h := hw
        refine lv_if_eq (tgt := 98) hx hb d_K_raiseWithin_75 (by decide) (fun c_75 => ?_) (fun c_75 => ?_)
        · have h := h.1 c_75
          obtain ⟨x4_11, ex4_11⟩ : ∃ y : Int32, y = x4_7 + (-1 : Int32) := ⟨_, rfl⟩
          have h := h x4_11 ex4_11
          refine lv_iinc (v := x4_11) (lv' := [(4, .int x4_11), (0, .ref (K 0)), (2, .ref a2), (3, .ref a3)]) hx hb d_K_raiseWithin_98 hl (k := 3) rfl (by rw [ex4_11]; rfl) (by decide) rfl (fun ls hl => ?_)
          refine lv_goto (tgt := 44) hx hb d_K_raiseWithin_101 (by decide) ?_
          exact ih_44 x4_11 F_9 A_9 _ _ _ (Nat.lt_of_lt_of_le h.2 (Nat.le_of_lt_succ hμ_44)) h.1 hP hS (lv_sub hl [1, 2, 3, 0] rfl)
        · have h := h.2 c_75
          refine lv_aload_n hx hb d_K_raiseWithin_78 rfl (lv_at hl 0 rfl) ?_
          refine gs_get (v := .ref (K 45)) hx hb htw i_K hown hK hP (gK_0 hΛ) rfl 4 (by decide) (htw _ mm_93) rfl d_K_raiseWithin_79 ?_
          refine lv_aload_n hx hb d_K_raiseWithin_82 rfl (lv_at hl 0 rfl) ?_
          refine gs_get (v := .ref (K 43)) hx hb htw i_K hown hK hP (gK_0 hΛ) rfl 3 (by decide) (htw _ mm_92) rfl d_K_raiseWithin_83 ?_
          refine lv_aload_n hx hb d_K_raiseWithin_86 rfl (lv_at hl 0 rfl) ?_
          refine gs_get (v := .ref (K 47)) hx hb htw i_K hown hK hP (gK_0 hΛ) rfl 5 (by decide) (htw _ mm_94) rfl d_K_raiseWithin_87 ?_
          refine gw_gov (gw_runV (As := [.ref (K 43), .ref (K 47)]) (rest := []) hx hb hml hown htw hK hP hS hl.1 (w_W_takeProduct hlo (K 45) (K 46) (135) (K 43) (K 44) (135) (K 47) (K 48) (67) ⟨(gK_w19 hΛ).1, (gK_w19 hΛ).2⟩ ⟨(gK_w18 hΛ).1, (gK_w18 hΛ).2⟩ ⟨(gK_w20 hΛ).1, (gK_w20 hΛ).2⟩ F_9 A_9 _ h) k_W_takeProduct mm_429 ⟨Nat.le_of_ble_eq_true rfl, Nat.le_of_ble_eq_true rfl⟩ rfl rfl (gK_w19 hΛ).1 rfl rfl rfl (Nat.le_of_ble_eq_true rfl) d_K_raiseWithin_90) hS (fun F_12 A_12 H locs hw hP hS => ?_)
          have h := hw
          refine lv_aload_n hx hb d_K_raiseWithin_93 rfl (lv_at hl 0 rfl) ?_
          refine lv_aload_n hx hb d_K_raiseWithin_94 rfl (lv_at hl 2 rfl) ?_
          refine gw_gov (gw_runV (As := [.ref a3]) (rest := []) hx hb hml hown htw hK hP hS hl.1 (w_K_reduceProduct hlo K a3 l3 n3 hΛ ⟨h3.1, h3.2⟩ F_12 A_12 _ h) k_K_reduceProduct mm_571 ⟨Nat.le_of_ble_eq_true rfl, Nat.le_of_ble_eq_true rfl⟩ rfl rfl (gK_0 hΛ) rfl rfl rfl (Nat.le_of_ble_eq_true rfl) d_K_raiseWithin_95) hS (fun F_13 A_13 H locs hw hP hS => ?_)
          have h := hw
          obtain ⟨x4_14, ex4_14⟩ : ∃ y : Int32, y = x4_7 + (-1 : Int32) := ⟨_, rfl⟩
          have h := h x4_14 ex4_14
          refine lv_iinc (v := x4_14) (lv' := [(4, .int x4_14), (0, .ref (K 0)), (2, .ref a2), (3, .ref a3)]) hx hb d_K_raiseWithin_98 hl (k := 3) rfl (by rw [ex4_14]; rfl) (by decide) rfl (fun ls hl => ?_)
          refine lv_goto (tgt := 44) hx hb d_K_raiseWithin_101 (by decide) ?_
          exact ih_44 x4_14 F_13 A_13 _ _ _ (Nat.lt_of_lt_of_le h.2 (Nat.le_of_lt_succ hμ_44)) h.1 hP hS (lv_sub hl [1, 2, 3, 0] rfl)
  exact loop_44 (μ_44 x4_6 F_4 A_4 + 1) x4_6 F_4 A_4 _ _ _ (Nat.lt_succ_self _) h0_44 hP hS (lv_sub hl [1, 3, 4, 0] rfl)
