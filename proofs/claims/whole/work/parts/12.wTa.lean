variable {l : Launch} {D : va_G} {cI cB cJ cW : ClassId} {Λ : gs_L} {L : Nat → Nat → Int64}
abbrev rm_T_octetOf : Room := { frames := 0, cells := 0, slots := 0, locals := 0 }
set_option maxHeartbeats 4000000 in
set_option maxRecDepth 100000 in
theorem w_T_octetOf (hlo : gs_D Λ) (p1 : Int64) (p2 : Int32) (F A : gm_M) (post : Int32 → Prop) (h : vc_T_octetOf p1 p2 F A post) : Met l y_T_octetOf (.code y_T_octetOf b_T_octetOf 3 (some .int) :: gw_WS) rm_T_octetOf (va_Pc [.long p1, .int p2] (gw_P D cI cB cJ cW Λ L F A)) (gw_Qi D cI cB cJ cW Λ L (fun r F2 A2 => F = F2 ∧ A = A2 ∧ post r)) 0 0 (gw_A Λ) := by
  refine Met.ofW (cc := b_T_octetOf) (maxL := 3) (ret := (some .int)) (by decide) rfl ?_
  intro p e s m args below meth c s₁ B hml hv
  obtain ⟨hargs, hP, hK⟩ := hv
  have hx := B.exec
  have hb := B.bytes
  have hr := B.returns
  have hlocks := B.notSynchronized
  have htw : ∀ w ∈ gw_WS, w.before args s = true := fun w h9 => atoms_spec (ws := .code y_T_octetOf b_T_octetOf 3 (some .int) :: gw_WS) B.pre w (List.mem_cons_of_mem _ h9)
  have hown : s.vm.findClass R_T = some m.cls := findClass_of_methodNamed B.named
  have hS : va_S (gw_A Λ) s.heap s.heap [] := va_S.rf
  refine W.eq (g2 := entryFrame m ([.long p1, .int p2] : List Value).toArray 3) (by rw [hargs]) ?_
  have hl := lv_entry ([.long p1, .int p2]) (n := 3) (Nat.le_of_ble_eq_true rfl)
  rw [lg_entry_eq]
  generalize (lg_sl ([.long p1, .int p2]) ++ List.replicate (3 - (lg_sl ([.long p1, .int p2])).length) Slot.unset).toArray = ls at hl ⊢
  have hl : lv_has ls 3 [(0, .long p1), (2, .int p2)] := hl
  generalize hQe : MQ below (gw_Qi D cI cB cJ cW Λ L (fun r F2 A2 => F = F2 ∧ A = A2 ∧ post r)) args s 0 0 (gw_A Λ) = Q
  unfold vc_T_octetOf at h
  refine lv_lload_n hx hb d_T_octetOf_0 rfl (lv_at hl 0 rfl) ?_
  refine lv_bipush (v := (8 : Int32)) hx hb d_T_octetOf_1 (by decide) ?_
  refine lv_iload_n hx hb d_T_octetOf_3 rfl (lv_at hl 1 rfl) ?_
  refine lv_imul hx hb d_T_octetOf_4 ?_
  refine lv_lushr (v := (j_lushr p1 ((8 : Int32) * p2))) hx hb d_T_octetOf_5 rfl ?_
  refine lv_l2i (v := ((j_lushr p1 ((8 : Int32) * p2)).toInt32)) hx hb d_T_octetOf_6 (by rfl) ?_
  refine lv_sipush (v := (255 : Int32)) hx hb d_T_octetOf_7 (by decide) ?_
  refine lv_iand hx hb d_T_octetOf_10 ?_
  rw [← hQe]
  exact gw_iret hx hb hr hlocks hP hK hS ⟨rfl, rfl, h⟩ d_T_octetOf_11
abbrev rm_T_countIn : Room := { frames := 1, cells := 0, slots := 0, locals := 22 }
set_option maxHeartbeats 4000000 in
set_option maxRecDepth 100000 in
theorem w_T_countIn (hlo : gs_D Λ) (p1 : Int64) (F A : gm_M) (post : Int32 → Prop) (h : vc_T_countIn p1 F A post) : Met l y_T_countIn (.code y_T_countIn b_T_countIn 4 (some .int) :: gw_WS) rm_T_countIn (va_Pc [.long p1] (gw_P D cI cB cJ cW Λ L F A)) (gw_Qi D cI cB cJ cW Λ L (fun r F2 A2 => F = F2 ∧ A = A2 ∧ post r)) 0 0 (gw_A Λ) := by
  refine Met.ofW (cc := b_T_countIn) (maxL := 4) (ret := (some .int)) (by decide) rfl ?_
  intro p e s m args below meth c s₁ B hml hv
  obtain ⟨hargs, hP, hK⟩ := hv
  have hx := B.exec
  have hb := B.bytes
  have hr := B.returns
  have hlocks := B.notSynchronized
  have htw : ∀ w ∈ gw_WS, w.before args s = true := fun w h9 => atoms_spec (ws := .code y_T_countIn b_T_countIn 4 (some .int) :: gw_WS) B.pre w (List.mem_cons_of_mem _ h9)
  have hown : s.vm.findClass R_T = some m.cls := findClass_of_methodNamed B.named
  have hS : va_S (gw_A Λ) s.heap s.heap [] := va_S.rf
  refine W.eq (g2 := entryFrame m ([.long p1] : List Value).toArray 4) (by rw [hargs]) ?_
  have hl := lv_entry ([.long p1]) (n := 4) (Nat.le_of_ble_eq_true rfl)
  rw [lg_entry_eq]
  generalize (lg_sl ([.long p1]) ++ List.replicate (4 - (lg_sl ([.long p1])).length) Slot.unset).toArray = ls at hl ⊢
  have hl : lv_has ls 4 [(0, .long p1)] := hl
  generalize hQe : MQ below (gw_Qi D cI cB cJ cW Λ L (fun r F2 A2 => F = F2 ∧ A = A2 ∧ post r)) args s 0 0 (gw_A Λ) = Q
  unfold vc_T_countIn at h
  refine lv_iconst (v := (0 : Int32)) hx hb d_T_countIn_0 (by decide) ?_
  refine lv_istore_n (lv' := [(2, .int (0 : Int32)), (0, .long p1)]) hx hb d_T_countIn_1 rfl hl (by decide) rfl (fun ls hl => ?_)
  obtain ⟨I_2, μ_2, h0_2, hs_2⟩ := h
  have loop_2 : ∀ (N : Nat) (x2_1 : Int32) (H : Heap) (locs : List Loc) (ls : Array Slot), μ_2 x2_1 < N → I_2 x2_1 → va_P D gcls (gs_ws Λ F A L) H → va_S (gw_A Λ) s.heap H locs → lv_has ls 4 [(0, .long p1), (2, .int x2_1)] → W p l e rm_T_countIn s m args below meth c H locs 0 0 Q (F0 m 2 ls []) := by
    intro N
    induction N with
    | zero => intro x2_1 H locs ls hμ; exact absurd hμ (Nat.not_lt_zero _)
    | succ N ih_2 =>
      intro x2_1 H locs ls hμ_2 hI hP hS hl
      have h := hs_2 x2_1 hI
      refine lv_iload_n hx hb d_T_countIn_2 rfl (lv_at hl 1 rfl) ?_
      refine lv_bipush (v := (8 : Int32)) hx hb d_T_countIn_3 (by decide) ?_
      refine lv_icmp_ge (tgt := 40) hx hb d_T_countIn_5 (by decide) (fun c_5 => ?_) (fun c_5 => ?_)
      · have h := h.1 c_5
        refine lv_bipush (v := (8 : Int32)) hx hb d_T_countIn_40 (by decide) ?_
        rw [← hQe]
        exact gw_iret hx hb hr hlocks hP hK hS ⟨rfl, rfl, h⟩ d_T_countIn_42
      · have h := h.2 c_5
        refine lv_lload_n hx hb d_T_countIn_8 rfl (lv_at hl 0 rfl) ?_
        refine lv_iload_n hx hb d_T_countIn_9 rfl (lv_at hl 1 rfl) ?_
        refine gw_goi (gw_runS (As := [.long p1, .int x2_1]) (rest := []) hx hb hml hown htw hK hP hS hl.1 (w_T_octetOf hlo p1 x2_1 F A _ h) k_T_octetOf mm_220 ⟨Nat.le_of_ble_eq_true rfl, Nat.le_of_ble_eq_true rfl⟩ rfl rfl rfl rfl (Nat.le_of_ble_eq_true rfl) d_T_countIn_10) hS (fun r_2 F_2 A_2 H locs hw hP hS => ?_)
        obtain ⟨rfl, hw⟩ := hw
        obtain ⟨rfl, hw⟩ := hw
        have h := hw
        refine lv_istore_n (lv' := [(3, .int r_2), (0, .long p1), (2, .int x2_1)]) hx hb d_T_countIn_13 rfl hl (by decide) rfl (fun ls hl => ?_)
        refine lv_iload_n hx hb d_T_countIn_14 rfl (lv_at hl 0 rfl) ?_
        refine lv_if_ne (tgt := 20) hx hb d_T_countIn_15 (by decide) (fun c_15 => ?_) (fun c_15 => ?_)
        · have h := h.1 c_15
          refine lv_iload_n hx hb d_T_countIn_20 rfl (lv_at hl 0 rfl) ?_
          refine lv_bipush (v := (32 : Int32)) hx hb d_T_countIn_21 (by decide) ?_
          refine lv_icmp_lt (tgt := 32) hx hb d_T_countIn_23 (by decide) (fun c_23 => ?_) (fun c_23 => ?_)
          · have h := h.1 c_23
            refine lv_iconst (v := (0 : Int32)) hx hb d_T_countIn_32 (by decide) ?_
            rw [← hQe]
            exact gw_iret hx hb hr hlocks hP hK hS ⟨rfl, rfl, h⟩ d_T_countIn_33
          · have h := h.2 c_23
            refine lv_iload_n hx hb d_T_countIn_26 rfl (lv_at hl 0 rfl) ?_
            refine lv_bipush (v := (126 : Int32)) hx hb d_T_countIn_27 (by decide) ?_
            refine lv_icmp_le (tgt := 34) hx hb d_T_countIn_29 (by decide) (fun c_29 => ?_) (fun c_29 => ?_)
            · have h := h.1 c_29
              obtain ⟨x2_3, ex2_3⟩ : ∃ y : Int32, y = x2_1 + (1 : Int32) := ⟨_, rfl⟩
              have h := h x2_3 ex2_3
              refine lv_iinc (v := x2_3) (lv' := [(2, .int x2_3), (3, .int r_2), (0, .long p1)]) hx hb d_T_countIn_34 hl (k := 2) rfl (by rw [ex2_3]; rfl) (by decide) rfl (fun ls hl => ?_)
              refine lv_goto (tgt := 2) hx hb d_T_countIn_37 (by decide) ?_
              exact ih_2 x2_3 _ _ _ (Nat.lt_of_lt_of_le h.2 (Nat.le_of_lt_succ hμ_2)) h.1 hP hS (lv_sub hl [2, 0] rfl)
            · have h := h.2 c_29
              refine lv_iconst (v := (0 : Int32)) hx hb d_T_countIn_32 (by decide) ?_
              rw [← hQe]
              exact gw_iret hx hb hr hlocks hP hK hS ⟨rfl, rfl, h⟩ d_T_countIn_33
        · have h := h.2 c_15
          refine lv_iload_n hx hb d_T_countIn_18 rfl (lv_at hl 2 rfl) ?_
          rw [← hQe]
          exact gw_iret hx hb hr hlocks hP hK hS ⟨rfl, rfl, h⟩ d_T_countIn_19
  exact loop_2 (μ_2 (0 : Int32) + 1) (0 : Int32) _ _ _ (Nat.lt_succ_self _) h0_2 hP hS (lv_sub hl [1, 0] rfl)
abbrev rm_T_put : Room := { frames := 0, cells := 0, slots := 0, locals := 0 }
set_option maxHeartbeats 4000000 in
set_option maxRecDepth 100000 in
theorem w_T_put (hlo : gs_D Λ) (K : Nat → Nat) (p1 : Int32) (hΛ : gK cI cB cW Λ K) (F A : gm_M) (post : gm_M → gm_M → Prop) (h : vc_T_put K p1 F A post) : Met l y_T_put (.code y_T_put b_T_put 2 none :: gw_WS) rm_T_put (va_Pc [.ref (K 2), .int p1] (gw_P D cI cB cJ cW Λ L F A)) (gw_Qv D cI cB cJ cW Λ L (fun F2 A2 => post F2 A2)) 0 0 (gw_A Λ) := by
  refine Met.ofW (cc := b_T_put) (maxL := 2) (ret := none) (by decide) rfl ?_
  intro p e s m args below meth c s₁ B hml hv
  obtain ⟨hargs, hP, hK⟩ := hv
  have hx := B.exec
  have hb := B.bytes
  have hr := B.returns
  have hlocks := B.notSynchronized
  have htw : ∀ w ∈ gw_WS, w.before args s = true := fun w h9 => atoms_spec (ws := .code y_T_put b_T_put 2 none :: gw_WS) B.pre w (List.mem_cons_of_mem _ h9)
  have hown : s.vm.findClass R_T = some m.cls := findClass_of_methodNamed B.named
  have hS : va_S (gw_A Λ) s.heap s.heap [] := va_S.rf
  refine W.eq (g2 := entryFrame m ([.ref (K 2), .int p1] : List Value).toArray 2) (by rw [hargs]) ?_
  have hl := lv_entry ([.ref (K 2), .int p1]) (n := 2) (Nat.le_of_ble_eq_true rfl)
  rw [lg_entry_eq]
  generalize (lg_sl ([.ref (K 2), .int p1]) ++ List.replicate (2 - (lg_sl ([.ref (K 2), .int p1])).length) Slot.unset).toArray = ls at hl ⊢
  have hl : lv_has ls 2 [(0, .ref (K 2)), (1, .int p1)] := hl
  generalize hQe : MQ below (gw_Qv D cI cB cJ cW Λ L (fun F2 A2 => post F2 A2)) args s 0 0 (gw_A Λ) = Q
  unfold vc_T_put at h
  refine lv_aload_n hx hb d_T_put_0 rfl (lv_at hl 0 rfl) ?_
  refine gs_get (v := .int (F (K 2) 1)) hx hb htw i_T hown hK hP (gK_2 hΛ) rfl 1 (by decide) (htw _ mm_59) rfl d_T_put_1 ?_
  refine lv_sipush (v := (2100 : Int32)) hx hb d_T_put_4 (by decide) ?_
  refine lv_icmp_ge (tgt := 31) hx hb d_T_put_7 (by decide) (fun c_7 => ?_) (fun c_7 => ?_)
  · have h := h.1 c_7
    rw [← hQe]
    exact gw_vret hx hb hr hlocks hP hK hS h d_T_put_31
  · have h := h.2 c_7
    refine lv_aload_n hx hb d_T_put_10 rfl (lv_at hl 0 rfl) ?_
    refine gs_get (v := .ref (K 3)) hx hb htw i_T hown hK hP (gK_2 hΛ) rfl 0 (by decide) (htw _ mm_56) rfl d_T_put_11 ?_
    refine lv_aload_n hx hb d_T_put_14 rfl (lv_at hl 0 rfl) ?_
    refine gs_get (v := .int (F (K 2) 1)) hx hb htw i_T hown hK hP (gK_2 hΛ) rfl 1 (by decide) (htw _ mm_59) rfl d_T_put_15 ?_
    refine lv_iload_n hx hb d_T_put_18 rfl (lv_at hl 1 rfl) ?_
    refine lv_i2b (v := (p1.toInt8.toInt32)) hx hb d_T_put_19 (by rfl) ?_
    obtain ⟨hin, h⟩ := h
    refine gs_bst hx hb hK hlo hP hS (gK_3 hΛ) hin d_T_put_20 (fun A_1 eA_1 H locs hP hS => ?_)
    have h := h A_1 eA_1
    refine lv_aload_n hx hb d_T_put_21 rfl (lv_at hl 0 rfl) ?_
    refine lv_dup hx hb d_T_put_22 rfl ?_
    refine gs_get (v := .int (F (K 2) 1)) hx hb htw i_T hown hK hP (gK_2 hΛ) rfl 1 (by decide) (htw _ mm_59) rfl d_T_put_23 ?_
    refine lv_iconst (v := (1 : Int32)) hx hb d_T_put_26 (by decide) ?_
    refine lv_iadd hx hb d_T_put_27 ?_
    refine gs_put (ty := .int) hx hb htw i_T tf_T tf_T_ok n_T hown hK hlo hP hS (gK_2 hΛ) rfl 1 (by decide) rfl (htw _ mm_59) rfl (by decide +kernel) rfl rfl d_T_put_28 (fun F_2 eF_2 H locs hP hS => ?_)
    have h := h F_2 eF_2
    rw [← hQe]
    exact gw_vret hx hb hr hlocks hP hK hS h d_T_put_31
abbrev rm_T_append : Room := { frames := 1, cells := 0, slots := 0, locals := 22 }
set_option maxHeartbeats 4000000 in
set_option maxRecDepth 100000 in
theorem w_T_append (hlo : gs_D Λ) (K : Nat → Nat) (p1 : Int64) (p2 : Int32) (hΛ : gK cI cB cW Λ K) (F A : gm_M) (post : gm_M → gm_M → Prop) (h : vc_T_append K p1 p2 F A post) : Met l y_T_append (.code y_T_append b_T_append 5 none :: gw_WS) rm_T_append (va_Pc [.ref (K 2), .long p1, .int p2] (gw_P D cI cB cJ cW Λ L F A)) (gw_Qv D cI cB cJ cW Λ L (fun F2 A2 => post F2 A2)) 0 0 (gw_A Λ) := by
  refine Met.ofW (cc := b_T_append) (maxL := 5) (ret := none) (by decide) rfl ?_
  intro p e s m args below meth c s₁ B hml hv
  obtain ⟨hargs, hP, hK⟩ := hv
  have hx := B.exec
  have hb := B.bytes
  have hr := B.returns
  have hlocks := B.notSynchronized
  have htw : ∀ w ∈ gw_WS, w.before args s = true := fun w h9 => atoms_spec (ws := .code y_T_append b_T_append 5 none :: gw_WS) B.pre w (List.mem_cons_of_mem _ h9)
  have hown : s.vm.findClass R_T = some m.cls := findClass_of_methodNamed B.named
  have hS : va_S (gw_A Λ) s.heap s.heap [] := va_S.rf
  refine W.eq (g2 := entryFrame m ([.ref (K 2), .long p1, .int p2] : List Value).toArray 5) (by rw [hargs]) ?_
  have hl := lv_entry ([.ref (K 2), .long p1, .int p2]) (n := 5) (Nat.le_of_ble_eq_true rfl)
  rw [lg_entry_eq]
  generalize (lg_sl ([.ref (K 2), .long p1, .int p2]) ++ List.replicate (5 - (lg_sl ([.ref (K 2), .long p1, .int p2])).length) Slot.unset).toArray = ls at hl ⊢
  have hl : lv_has ls 5 [(0, .ref (K 2)), (1, .long p1), (3, .int p2)] := hl
  generalize hQe : MQ below (gw_Qv D cI cB cJ cW Λ L (fun F2 A2 => post F2 A2)) args s 0 0 (gw_A Λ) = Q
  unfold vc_T_append at h
  refine lv_iconst (v := (0 : Int32)) hx hb d_T_append_0 (by decide) ?_
  refine lv_istore (lv' := [(4, .int (0 : Int32)), (0, .ref (K 2)), (1, .long p1), (3, .int p2)]) hx hb d_T_append_1 hl (by decide) rfl (fun ls hl => ?_)
  obtain ⟨I_3, μ_3, h0_3, hs_3⟩ := h
  have loop_3 : ∀ (N : Nat) (x4_1 : Int32) (F_1 : gm_M) (A_1 : gm_M) (H : Heap) (locs : List Loc) (ls : Array Slot), μ_3 x4_1 F_1 A_1 < N → I_3 x4_1 F_1 A_1 → va_P D gcls (gs_ws Λ F_1 A_1 L) H → va_S (gw_A Λ) s.heap H locs → lv_has ls 5 [(0, .ref (K 2)), (1, .long p1), (3, .int p2), (4, .int x4_1)] → W p l e rm_T_append s m args below meth c H locs 0 0 Q (F0 m 3 ls []) := by
    intro N
    induction N with
    | zero => intro x4_1 F_1 A_1 H locs ls hμ; exact absurd hμ (Nat.not_lt_zero _)
    | succ N ih_3 =>
      intro x4_1 F_1 A_1 H locs ls hμ_3 hI hP hS hl
      have h := hs_3 x4_1 F_1 A_1 hI
      refine lv_iload hx hb d_T_append_3 (lv_at hl 3 rfl) ?_
      refine lv_iload_n hx hb d_T_append_5 rfl (lv_at hl 2 rfl) ?_
      refine lv_icmp_ge (tgt := 25) hx hb d_T_append_6 (by decide) (fun c_6 => ?_) (fun c_6 => ?_)
      · have h := h.1 c_6
        rw [← hQe]
        exact gw_vret hx hb hr hlocks hP hK hS h d_T_append_25
      · have h := h.2 c_6
        refine lv_aload_n hx hb d_T_append_9 rfl (lv_at hl 0 rfl) ?_
        refine lv_lload_n hx hb d_T_append_10 rfl (lv_at hl 1 rfl) ?_
        refine lv_iload hx hb d_T_append_11 (lv_at hl 3 rfl) ?_
        refine gw_goi (gw_runS (As := [.long p1, .int x4_1]) (rest := [.ref (K 2)]) hx hb hml hown htw hK hP hS hl.1 (w_T_octetOf hlo p1 x4_1 F_1 A_1 _ h) k_T_octetOf mm_220 ⟨Nat.le_of_ble_eq_true rfl, Nat.le_of_ble_eq_true rfl⟩ rfl rfl rfl rfl (Nat.le_of_ble_eq_true rfl) d_T_append_13) hS (fun r_2 F_2 A_2 H locs hw hP hS => ?_)
        obtain ⟨rfl, hw⟩ := hw
        obtain ⟨rfl, hw⟩ := hw
        have h := hw
        refine gw_gov (gw_runV (As := [.int r_2]) (rest := []) hx hb hml hown htw hK hP hS hl.1 (w_T_put hlo K r_2 hΛ F_1 A_1 _ h) k_T_put mm_244 ⟨Nat.le_of_ble_eq_true rfl, Nat.le_of_ble_eq_true rfl⟩ rfl rfl (gK_2 hΛ) rfl rfl rfl (Nat.le_of_ble_eq_true rfl) d_T_append_16) hS (fun F_3 A_3 H locs hw hP hS => ?_)
        have h := hw
        obtain ⟨x4_4, ex4_4⟩ : ∃ y : Int32, y = x4_1 + (1 : Int32) := ⟨_, rfl⟩
        have h := h x4_4 ex4_4
        refine lv_iinc (v := x4_4) (lv' := [(4, .int x4_4), (0, .ref (K 2)), (1, .long p1), (3, .int p2)]) hx hb d_T_append_19 hl (k := 3) rfl (by rw [ex4_4]; rfl) (by decide) rfl (fun ls hl => ?_)
        refine lv_goto (tgt := 3) hx hb d_T_append_22 (by decide) ?_
        exact ih_3 x4_4 F_3 A_3 _ _ _ (Nat.lt_of_lt_of_le h.2 (Nat.le_of_lt_succ hμ_3)) h.1 hP hS (lv_sub hl [1, 2, 3, 0] rfl)
  exact loop_3 (μ_3 (0 : Int32) F A + 1) (0 : Int32) F A _ _ _ (Nat.lt_succ_self _) h0_3 hP hS (lv_sub hl [1, 2, 3, 0] rfl)
abbrev rm_T_haveMinus : Room := { frames := 0, cells := 0, slots := 0, locals := 0 }
set_option maxHeartbeats 4000000 in
set_option maxRecDepth 100000 in
theorem w_T_haveMinus (hlo : gs_D Λ) (K : Nat → Nat) (hΛ : gK cI cB cW Λ K) (F A : gm_M) (post : Int32 → Prop) (h : vc_T_haveMinus K F A post) : Met l y_T_haveMinus (.code y_T_haveMinus b_T_haveMinus 1 (some .boolean) :: gw_WS) rm_T_haveMinus (va_Pc [.ref (K 2)] (gw_P D cI cB cJ cW Λ L F A)) (gw_Qi D cI cB cJ cW Λ L (fun r F2 A2 => F = F2 ∧ A = A2 ∧ post r)) 0 0 (gw_A Λ) := by
  refine Met.ofW (cc := b_T_haveMinus) (maxL := 1) (ret := (some .boolean)) (by decide) rfl ?_
  intro p e s m args below meth c s₁ B hml hv
  obtain ⟨hargs, hP, hK⟩ := hv
  have hx := B.exec
  have hb := B.bytes
  have hr := B.returns
  have hlocks := B.notSynchronized
  have htw : ∀ w ∈ gw_WS, w.before args s = true := fun w h9 => atoms_spec (ws := .code y_T_haveMinus b_T_haveMinus 1 (some .boolean) :: gw_WS) B.pre w (List.mem_cons_of_mem _ h9)
  have hown : s.vm.findClass R_T = some m.cls := findClass_of_methodNamed B.named
  have hS : va_S (gw_A Λ) s.heap s.heap [] := va_S.rf
  refine W.eq (g2 := entryFrame m ([.ref (K 2)] : List Value).toArray 1) (by rw [hargs]) ?_
  have hl := lv_entry ([.ref (K 2)]) (n := 1) (Nat.le_of_ble_eq_true rfl)
  rw [lg_entry_eq]
  generalize (lg_sl ([.ref (K 2)]) ++ List.replicate (1 - (lg_sl ([.ref (K 2)])).length) Slot.unset).toArray = ls at hl ⊢
  have hl : lv_has ls 1 [(0, .ref (K 2))] := hl
  generalize hQe : MQ below (gw_Qi D cI cB cJ cW Λ L (fun r F2 A2 => F = F2 ∧ A = A2 ∧ post r)) args s 0 0 (gw_A Λ) = Q
  unfold vc_T_haveMinus at h
  refine lv_aload_n hx hb d_T_haveMinus_0 rfl (lv_at hl 0 rfl) ?_
  refine gs_get (v := .int (F (K 2) 1)) hx hb htw i_T hown hK hP (gK_2 hΛ) rfl 1 (by decide) (htw _ mm_59) rfl d_T_haveMinus_1 ?_
  refine lv_if_le (tgt := 22) hx hb d_T_haveMinus_4 (by decide) (fun c_4 => ?_) (fun c_4 => ?_)
  · have h := h.1 c_4
    refine lv_iconst (v := (0 : Int32)) hx hb d_T_haveMinus_22 (by decide) ?_
    rw [← hQe]
    exact gw_zret hx hb hr hlocks hP hK hS (by decide) ⟨rfl, rfl, h⟩ d_T_haveMinus_23
  · have h := h.2 c_4
    refine lv_aload_n hx hb d_T_haveMinus_7 rfl (lv_at hl 0 rfl) ?_
    refine gs_get (v := .ref (K 3)) hx hb htw i_T hown hK hP (gK_2 hΛ) rfl 0 (by decide) (htw _ mm_56) rfl d_T_haveMinus_8 ?_
    refine lv_iconst (v := (0 : Int32)) hx hb d_T_haveMinus_11 (by decide) ?_
    obtain ⟨hin, h⟩ := h
    refine gs_bld hx hb hK hP (gK_3 hΛ) hin d_T_haveMinus_12 ?_
    refine lv_bipush (v := (45 : Int32)) hx hb d_T_haveMinus_13 (by decide) ?_
    refine lv_icmp_ne (tgt := 22) hx hb d_T_haveMinus_15 (by decide) (fun c_15 => ?_) (fun c_15 => ?_)
    · have h := h.1 c_15
      refine lv_iconst (v := (0 : Int32)) hx hb d_T_haveMinus_22 (by decide) ?_
      rw [← hQe]
      exact gw_zret hx hb hr hlocks hP hK hS (by decide) ⟨rfl, rfl, h⟩ d_T_haveMinus_23
    · have h := h.2 c_15
      refine lv_iconst (v := (1 : Int32)) hx hb d_T_haveMinus_18 (by decide) ?_
      refine lv_goto (tgt := 23) hx hb d_T_haveMinus_19 (by decide) ?_
      rw [← hQe]
      exact gw_zret hx hb hr hlocks hP hK hS (by decide) ⟨rfl, rfl, h⟩ d_T_haveMinus_23
abbrev rm_T_digitOf : Room := { frames := 0, cells := 0, slots := 0, locals := 0 }
set_option maxHeartbeats 4000000 in
set_option maxRecDepth 100000 in
theorem w_T_digitOf (hlo : gs_D Λ) (p1 : Int32) (F A : gm_M) (post : Int32 → Prop) (h : vc_T_digitOf p1 F A post) : Met l y_T_digitOf (.code y_T_digitOf b_T_digitOf 1 (some .int) :: gw_WS) rm_T_digitOf (va_Pc [.int p1] (gw_P D cI cB cJ cW Λ L F A)) (gw_Qi D cI cB cJ cW Λ L (fun r F2 A2 => F = F2 ∧ A = A2 ∧ post r)) 0 0 (gw_A Λ) := by
  refine Met.ofW (cc := b_T_digitOf) (maxL := 1) (ret := (some .int)) (by decide) rfl ?_
  intro p e s m args below meth c s₁ B hml hv
  obtain ⟨hargs, hP, hK⟩ := hv
  have hx := B.exec
  have hb := B.bytes
  have hr := B.returns
  have hlocks := B.notSynchronized
  have htw : ∀ w ∈ gw_WS, w.before args s = true := fun w h9 => atoms_spec (ws := .code y_T_digitOf b_T_digitOf 1 (some .int) :: gw_WS) B.pre w (List.mem_cons_of_mem _ h9)
  have hown : s.vm.findClass R_T = some m.cls := findClass_of_methodNamed B.named
  have hS : va_S (gw_A Λ) s.heap s.heap [] := va_S.rf
  refine W.eq (g2 := entryFrame m ([.int p1] : List Value).toArray 1) (by rw [hargs]) ?_
  have hl := lv_entry ([.int p1]) (n := 1) (Nat.le_of_ble_eq_true rfl)
  rw [lg_entry_eq]
  generalize (lg_sl ([.int p1]) ++ List.replicate (1 - (lg_sl ([.int p1])).length) Slot.unset).toArray = ls at hl ⊢
  have hl : lv_has ls 1 [(0, .int p1)] := hl
  generalize hQe : MQ below (gw_Qi D cI cB cJ cW Λ L (fun r F2 A2 => F = F2 ∧ A = A2 ∧ post r)) args s 0 0 (gw_A Λ) = Q
  unfold vc_T_digitOf at h
  refine lv_iload_n hx hb d_T_digitOf_0 rfl (lv_at hl 0 rfl) ?_
  refine lv_bipush (v := (48 : Int32)) hx hb d_T_digitOf_1 (by decide) ?_
  obtain ⟨J_17, h, hj_17⟩ := h
  have join_17 : ∀  (H : Heap) (locs : List Loc) (ls : Array Slot), J_17 → va_P D gcls (gs_ws Λ F A L) H → va_S (gw_A Λ) s.heap H locs → lv_has ls 1 [(0, .int p1)] → W p l e rm_T_digitOf s m args below meth c H locs 0 0 Q (F0 m 17 ls []) := by
    intro  H locs ls hJ hP hS hl
    have h := hj_17  hJ
    refine lv_iload_n hx hb d_T_digitOf_17 rfl (lv_at hl 0 rfl) ?_
    refine lv_bipush (v := (97 : Int32)) hx hb d_T_digitOf_18 (by decide) ?_
    obtain ⟨J_37, h, hj_37⟩ := h
    have join_37 : ∀  (H : Heap) (locs : List Loc) (ls : Array Slot), J_37 → va_P D gcls (gs_ws Λ F A L) H → va_S (gw_A Λ) s.heap H locs → lv_has ls 1 [(0, .int p1)] → W p l e rm_T_digitOf s m args below meth c H locs 0 0 Q (F0 m 37 ls []) := by
      intro  H locs ls hJ hP hS hl
      have h := hj_37  hJ
      refine lv_iload_n hx hb d_T_digitOf_37 rfl (lv_at hl 0 rfl) ?_
      refine lv_bipush (v := (65 : Int32)) hx hb d_T_digitOf_38 (by decide) ?_
      refine lv_icmp_lt (tgt := 57) hx hb d_T_digitOf_40 (by decide) (fun c_40 => ?_) (fun c_40 => ?_)
      · have h := h.1 c_40
        refine lv_bipush (v := (36 : Int32)) hx hb d_T_digitOf_57 (by decide) ?_
        rw [← hQe]
        exact gw_iret hx hb hr hlocks hP hK hS ⟨rfl, rfl, h⟩ d_T_digitOf_59
      · have h := h.2 c_40
        refine lv_iload_n hx hb d_T_digitOf_43 rfl (lv_at hl 0 rfl) ?_
        refine lv_bipush (v := (90 : Int32)) hx hb d_T_digitOf_44 (by decide) ?_
        refine lv_icmp_gt (tgt := 57) hx hb d_T_digitOf_46 (by decide) (fun c_46 => ?_) (fun c_46 => ?_)
        · have h := h.1 c_46
          refine lv_bipush (v := (36 : Int32)) hx hb d_T_digitOf_57 (by decide) ?_
          rw [← hQe]
          exact gw_iret hx hb hr hlocks hP hK hS ⟨rfl, rfl, h⟩ d_T_digitOf_59
        · have h := h.2 c_46
          refine lv_iload_n hx hb d_T_digitOf_49 rfl (lv_at hl 0 rfl) ?_
          refine lv_bipush (v := (65 : Int32)) hx hb d_T_digitOf_50 (by decide) ?_
          refine lv_isub hx hb d_T_digitOf_52 ?_
          refine lv_bipush (v := (10 : Int32)) hx hb d_T_digitOf_53 (by decide) ?_
          refine lv_iadd hx hb d_T_digitOf_55 ?_
          rw [← hQe]
          exact gw_iret hx hb hr hlocks hP hK hS ⟨rfl, rfl, h⟩ d_T_digitOf_56
    refine lv_icmp_lt (tgt := 37) hx hb d_T_digitOf_20 (by decide) (fun c_20 => ?_) (fun c_20 => ?_)
    · have h := h.1 c_20
      exact join_37 _ _ _ h hP hS hl
    · have h := h.2 c_20
      refine lv_iload_n hx hb d_T_digitOf_23 rfl (lv_at hl 0 rfl) ?_
      refine lv_bipush (v := (122 : Int32)) hx hb d_T_digitOf_24 (by decide) ?_
      refine lv_icmp_gt (tgt := 37) hx hb d_T_digitOf_26 (by decide) (fun c_26 => ?_) (fun c_26 => ?_)
      · have h := h.1 c_26
        exact join_37 _ _ _ h hP hS hl
      · have h := h.2 c_26
        refine lv_iload_n hx hb d_T_digitOf_29 rfl (lv_at hl 0 rfl) ?_
        refine lv_bipush (v := (97 : Int32)) hx hb d_T_digitOf_30 (by decide) ?_
        refine lv_isub hx hb d_T_digitOf_32 ?_
        refine lv_bipush (v := (10 : Int32)) hx hb d_T_digitOf_33 (by decide) ?_
        refine lv_iadd hx hb d_T_digitOf_35 ?_
        rw [← hQe]
        exact gw_iret hx hb hr hlocks hP hK hS ⟨rfl, rfl, h⟩ d_T_digitOf_36
  refine lv_icmp_lt (tgt := 17) hx hb d_T_digitOf_3 (by decide) (fun c_3 => ?_) (fun c_3 => ?_)
  · have h := h.1 c_3
    exact join_17 _ _ _ h hP hS hl
  · have h := h.2 c_3
    refine lv_iload_n hx hb d_T_digitOf_6 rfl (lv_at hl 0 rfl) ?_
    refine lv_bipush (v := (57 : Int32)) hx hb d_T_digitOf_7 (by decide) ?_
    refine lv_icmp_gt (tgt := 17) hx hb d_T_digitOf_9 (by decide) (fun c_9 => ?_) (fun c_9 => ?_)
    · have h := h.1 c_9
      exact join_17 _ _ _ h hP hS hl
    · have h := h.2 c_9
      refine lv_iload_n hx hb d_T_digitOf_12 rfl (lv_at hl 0 rfl) ?_
      refine lv_bipush (v := (48 : Int32)) hx hb d_T_digitOf_13 (by decide) ?_
      refine lv_isub hx hb d_T_digitOf_15 ?_
      rw [← hQe]
      exact gw_iret hx hb hr hlocks hP hK hS ⟨rfl, rfl, h⟩ d_T_digitOf_16
abbrev rm_T_areNumber : Room := { frames := 1, cells := 0, slots := 0, locals := 20 }
set_option maxHeartbeats 4000000 in
set_option maxRecDepth 100000 in
theorem w_T_areNumber (hlo : gs_D Λ) (K : Nat → Nat) (p1 : Int32) (hΛ : gK cI cB cW Λ K) (F A : gm_M) (post : Int32 → Prop) (h : vc_T_areNumber K p1 F A post) : Met l y_T_areNumber (.code y_T_areNumber b_T_areNumber 4 (some .boolean) :: gw_WS) rm_T_areNumber (va_Pc [.ref (K 2), .int p1] (gw_P D cI cB cJ cW Λ L F A)) (gw_Qi D cI cB cJ cW Λ L (fun r F2 A2 => F = F2 ∧ A = A2 ∧ post r)) 0 0 (gw_A Λ) := by
  refine Met.ofW (cc := b_T_areNumber) (maxL := 4) (ret := (some .boolean)) (by decide) rfl ?_
  intro p e s m args below meth c s₁ B hml hv
  obtain ⟨hargs, hP, hK⟩ := hv
  have hx := B.exec
  have hb := B.bytes
  have hr := B.returns
  have hlocks := B.notSynchronized
  have htw : ∀ w ∈ gw_WS, w.before args s = true := fun w h9 => atoms_spec (ws := .code y_T_areNumber b_T_areNumber 4 (some .boolean) :: gw_WS) B.pre w (List.mem_cons_of_mem _ h9)
  have hown : s.vm.findClass R_T = some m.cls := findClass_of_methodNamed B.named
  have hS : va_S (gw_A Λ) s.heap s.heap [] := va_S.rf
  refine W.eq (g2 := entryFrame m ([.ref (K 2), .int p1] : List Value).toArray 4) (by rw [hargs]) ?_
  have hl := lv_entry ([.ref (K 2), .int p1]) (n := 4) (Nat.le_of_ble_eq_true rfl)
  rw [lg_entry_eq]
  generalize (lg_sl ([.ref (K 2), .int p1]) ++ List.replicate (4 - (lg_sl ([.ref (K 2), .int p1])).length) Slot.unset).toArray = ls at hl ⊢
  have hl : lv_has ls 4 [(0, .ref (K 2)), (1, .int p1)] := hl
  generalize hQe : MQ below (gw_Qi D cI cB cJ cW Λ L (fun r F2 A2 => F = F2 ∧ A = A2 ∧ post r)) args s 0 0 (gw_A Λ) = Q
  unfold vc_T_areNumber at h
  refine lv_aload_n hx hb d_T_areNumber_0 rfl (lv_at hl 0 rfl) ?_
  refine gw_goi (gw_runV (As := []) (rest := []) hx hb hml hown htw hK hP hS hl.1 (w_T_haveMinus hlo K hΛ F A _ h) k_T_haveMinus mm_263 ⟨Nat.le_of_ble_eq_true rfl, Nat.le_of_ble_eq_true rfl⟩ rfl rfl (gK_2 hΛ) rfl rfl rfl (Nat.le_of_ble_eq_true rfl) d_T_areNumber_1) hS (fun r_1 F_1 A_1 H locs hw hP hS => ?_)
  obtain ⟨rfl, hw⟩ := hw
  obtain ⟨rfl, hw⟩ := hw
  have h := hw
  obtain ⟨J_12, h, hj_12⟩ := h
  have join_12 : ∀ (v0_2 : Int32) (H : Heap) (locs : List Loc) (ls : Array Slot), J_12 v0_2 → va_P D gcls (gs_ws Λ F A L) H → va_S (gw_A Λ) s.heap H locs → lv_has ls 4 [(0, .ref (K 2)), (1, .int p1)] → W p l e rm_T_areNumber s m args below meth c H locs 0 0 Q (F0 m 12 ls [.int v0_2]) := by
    intro v0_2 H locs ls hJ hP hS hl
    have h := hj_12 v0_2 hJ
    refine lv_istore_n (lv' := [(2, .int v0_2), (0, .ref (K 2)), (1, .int p1)]) hx hb d_T_areNumber_12 rfl hl (by decide) rfl (fun ls hl => ?_)
    refine lv_iload_n hx hb d_T_areNumber_13 rfl (lv_at hl 0 rfl) ?_
    refine lv_istore_n (lv' := [(3, .int v0_2), (2, .int v0_2), (0, .ref (K 2)), (1, .int p1)]) hx hb d_T_areNumber_14 rfl hl (by decide) rfl (fun ls hl => ?_)
    obtain ⟨I_15, μ_15, h0_15, hs_15⟩ := h
    have loop_15 : ∀ (N : Nat) (x3_3 : Int32) (H : Heap) (locs : List Loc) (ls : Array Slot), μ_15 x3_3 < N → I_15 x3_3 → va_P D gcls (gs_ws Λ F A L) H → va_S (gw_A Λ) s.heap H locs → lv_has ls 4 [(0, .ref (K 2)), (1, .int p1), (2, .int v0_2), (3, .int x3_3)] → W p l e rm_T_areNumber s m args below meth c H locs 0 0 Q (F0 m 15 ls []) := by
      intro N
      induction N with
      | zero => intro x3_3 H locs ls hμ; exact absurd hμ (Nat.not_lt_zero _)
      | succ N ih_15 =>
        intro x3_3 H locs ls hμ_15 hI hP hS hl
        have h := hs_15 x3_3 hI
        refine lv_iload_n hx hb d_T_areNumber_15 rfl (lv_at hl 3 rfl) ?_
        refine lv_aload_n hx hb d_T_areNumber_16 rfl (lv_at hl 0 rfl) ?_
        refine gs_get (v := .int (F (K 2) 1)) hx hb htw i_T hown hK hP (gK_2 hΛ) rfl 1 (by decide) (htw _ mm_59) rfl d_T_areNumber_17 ?_
        refine lv_icmp_ge (tgt := 44) hx hb d_T_areNumber_20 (by decide) (fun c_20 => ?_) (fun c_20 => ?_)
        · have h := h.1 c_20
          refine lv_iload_n hx hb d_T_areNumber_44 rfl (lv_at hl 2 rfl) ?_
          refine lv_aload_n hx hb d_T_areNumber_45 rfl (lv_at hl 0 rfl) ?_
          refine gs_get (v := .int (F (K 2) 1)) hx hb htw i_T hown hK hP (gK_2 hΛ) rfl 1 (by decide) (htw _ mm_59) rfl d_T_areNumber_46 ?_
          refine lv_icmp_ge (tgt := 56) hx hb d_T_areNumber_49 (by decide) (fun c_49 => ?_) (fun c_49 => ?_)
          · have h := h.1 c_49
            refine lv_iconst (v := (0 : Int32)) hx hb d_T_areNumber_56 (by decide) ?_
            rw [← hQe]
            exact gw_zret hx hb hr hlocks hP hK hS (by decide) ⟨rfl, rfl, h⟩ d_T_areNumber_57
          · have h := h.2 c_49
            refine lv_iconst (v := (1 : Int32)) hx hb d_T_areNumber_52 (by decide) ?_
            refine lv_goto (tgt := 57) hx hb d_T_areNumber_53 (by decide) ?_
            rw [← hQe]
            exact gw_zret hx hb hr hlocks hP hK hS (by decide) ⟨rfl, rfl, h⟩ d_T_areNumber_57
        · have h := h.2 c_20
          refine lv_aload_n hx hb d_T_areNumber_23 rfl (lv_at hl 0 rfl) ?_
          refine gs_get (v := .ref (K 3)) hx hb htw i_T hown hK hP (gK_2 hΛ) rfl 0 (by decide) (htw _ mm_56) rfl d_T_areNumber_24 ?_
          refine lv_iload_n hx hb d_T_areNumber_27 rfl (lv_at hl 3 rfl) ?_
          obtain ⟨hin, h⟩ := h
          refine gs_bld hx hb hK hP (gK_3 hΛ) hin d_T_areNumber_28 ?_
          refine gw_goi (gw_runS (As := [.int (A (K 3) x3_3.toNatClampNeg)]) (rest := []) hx hb hml hown htw hK hP hS hl.1 (w_T_digitOf hlo (A (K 3) x3_3.toNatClampNeg) F A _ h) k_T_digitOf mm_267 ⟨Nat.le_of_ble_eq_true rfl, Nat.le_of_ble_eq_true rfl⟩ rfl rfl rfl rfl (Nat.le_of_ble_eq_true rfl) d_T_areNumber_29) hS (fun r_4 F_4 A_4 H locs hw hP hS => ?_)
          obtain ⟨rfl, hw⟩ := hw
          obtain ⟨rfl, hw⟩ := hw
          have h := hw
          refine lv_iload_n hx hb d_T_areNumber_32 rfl (lv_at hl 1 rfl) ?_
          refine lv_icmp_lt (tgt := 38) hx hb d_T_areNumber_33 (by decide) (fun c_33 => ?_) (fun c_33 => ?_)
          · have h := h.1 c_33
            obtain ⟨x3_5, ex3_5⟩ : ∃ y : Int32, y = x3_3 + (1 : Int32) := ⟨_, rfl⟩
            have h := h x3_5 ex3_5
            refine lv_iinc (v := x3_5) (lv' := [(3, .int x3_5), (0, .ref (K 2)), (1, .int p1), (2, .int v0_2)]) hx hb d_T_areNumber_38 hl (k := 3) rfl (by rw [ex3_5]; rfl) (by decide) rfl (fun ls hl => ?_)
            refine lv_goto (tgt := 15) hx hb d_T_areNumber_41 (by decide) ?_
            exact ih_15 x3_5 _ _ _ (Nat.lt_of_lt_of_le h.2 (Nat.le_of_lt_succ hμ_15)) h.1 hP hS (lv_sub hl [1, 2, 3, 0] rfl)
          · have h := h.2 c_33
            refine lv_iconst (v := (0 : Int32)) hx hb d_T_areNumber_36 (by decide) ?_
            rw [← hQe]
            exact gw_zret hx hb hr hlocks hP hK hS (by decide) ⟨rfl, rfl, h⟩ d_T_areNumber_37
    exact loop_15 (μ_15 v0_2 + 1) v0_2 _ _ _ (Nat.lt_succ_self _) h0_15 hP hS (lv_sub hl [2, 3, 1, 0] rfl)
  refine lv_if_eq (tgt := 11) hx hb d_T_areNumber_4 (by decide) (fun c_4 => ?_) (fun c_4 => ?_)
  · have h := h.1 c_4
    refine lv_iconst (v := (0 : Int32)) hx hb d_T_areNumber_11 (by decide) ?_
    exact join_12 (0 : Int32) _ _ _ h hP hS hl
  · have h := h.2 c_4
    refine lv_iconst (v := (1 : Int32)) hx hb d_T_areNumber_7 (by decide) ?_
    refine lv_goto (tgt := 12) hx hb d_T_areNumber_8 (by decide) ?_
    exact join_12 (1 : Int32) _ _ _ h hP hS hl
abbrev rm_T_writeTo : Room := { frames := 3, cells := 0, slots := 0, locals := 71 }
set_option maxHeartbeats 4000000 in
set_option maxRecDepth 100000 in
theorem w_T_writeTo (hlo : gs_D Λ) (K : Nat → Nat) (a1 l1 n1 : Nat) (p2 : Int32) (hΛ : gK cI cB cW Λ K) (h1 : gW cI Λ a1 l1 n1) (F A : gm_M) (post : gm_M → gm_M → Prop) (h : vc_T_writeTo K a1 l1 n1 p2 F A post) : Met l y_T_writeTo (.code y_T_writeTo b_T_writeTo 8 none :: gw_WS) rm_T_writeTo (va_Pc [.ref (K 2), .ref a1, .int p2] (gw_P D cI cB cJ cW Λ L F A)) (gw_Qv D cI cB cJ cW Λ L (fun F2 A2 => post F2 A2)) 0 0 (gw_A Λ) := by
  refine Met.ofW (cc := b_T_writeTo) (maxL := 8) (ret := none) (by decide) rfl ?_
  intro p e s m args below meth c s₁ B hml hv
  obtain ⟨hargs, hP, hK⟩ := hv
  have hx := B.exec
  have hb := B.bytes
  have hr := B.returns
  have hlocks := B.notSynchronized
  have htw : ∀ w ∈ gw_WS, w.before args s = true := fun w h9 => atoms_spec (ws := .code y_T_writeTo b_T_writeTo 8 none :: gw_WS) B.pre w (List.mem_cons_of_mem _ h9)
  have hown : s.vm.findClass R_T = some m.cls := findClass_of_methodNamed B.named
  have hS : va_S (gw_A Λ) s.heap s.heap [] := va_S.rf
  refine W.eq (g2 := entryFrame m ([.ref (K 2), .ref a1, .int p2] : List Value).toArray 8) (by rw [hargs]) ?_
  have hl := lv_entry ([.ref (K 2), .ref a1, .int p2]) (n := 8) (Nat.le_of_ble_eq_true rfl)
  rw [lg_entry_eq]
  generalize (lg_sl ([.ref (K 2), .ref a1, .int p2]) ++ List.replicate (8 - (lg_sl ([.ref (K 2), .ref a1, .int p2])).length) Slot.unset).toArray = ls at hl ⊢
  have hl : lv_has ls 8 [(0, .ref (K 2)), (1, .ref a1), (2, .int p2)] := hl
  generalize hQe : MQ below (gw_Qv D cI cB cJ cW Λ L (fun F2 A2 => post F2 A2)) args s 0 0 (gw_A Λ) = Q
  unfold vc_T_writeTo at h
  refine lv_aload_n hx hb d_T_writeTo_0 rfl (lv_at hl 1 rfl) ?_
  refine lv_lconst (v := (0 : Int64)) hx hb d_T_writeTo_1 (by decide) ?_
  refine gw_gov (gw_runV (As := [.long (0 : Int64)]) (rest := []) hx hb hml hown htw hK hP hS hl.1 (w_W_takeLong hlo a1 l1 n1 (0 : Int64) ⟨h1.1, h1.2⟩ F A _ h) k_W_takeLong mm_274 ⟨Nat.le_of_ble_eq_true rfl, Nat.le_of_ble_eq_true rfl⟩ rfl rfl h1.1 rfl rfl rfl (Nat.le_of_ble_eq_true rfl) d_T_writeTo_2) hS (fun F_1 A_1 H locs hw hP hS => ?_)
  have h := hw
  refine lv_lconst (v := (1 : Int64)) hx hb d_T_writeTo_5 (by decide) ?_
  refine lv_lstore_n (lv' := [(3, .long (1 : Int64)), (0, .ref (K 2)), (1, .ref a1), (2, .int p2)]) hx hb d_T_writeTo_6 rfl hl (by decide) rfl (fun ls hl => ?_)
  refine lv_lconst (v := (0 : Int64)) hx hb d_T_writeTo_7 (by decide) ?_
  refine lv_lstore (lv' := [(5, .long (0 : Int64)), (3, .long (1 : Int64)), (0, .ref (K 2)), (1, .ref a1), (2, .int p2)]) hx hb d_T_writeTo_8 hl (by decide) rfl (fun ls hl => ?_)
  refine lv_aload_n hx hb d_T_writeTo_10 rfl (lv_at hl 2 rfl) ?_
  refine gw_goi (gw_runV (As := []) (rest := []) hx hb hml hown htw hK hP hS hl.1 (w_T_haveMinus hlo K hΛ F_1 A_1 _ h) k_T_haveMinus mm_263 ⟨Nat.le_of_ble_eq_true rfl, Nat.le_of_ble_eq_true rfl⟩ rfl rfl (gK_2 hΛ) rfl rfl rfl (Nat.le_of_ble_eq_true rfl) d_T_writeTo_11) hS (fun r_2 F_2 A_2 H locs hw hP hS => ?_)
  obtain ⟨rfl, hw⟩ := hw
  obtain ⟨rfl, hw⟩ := hw
  have h := hw
  obtain ⟨J_22, h, hj_22⟩ := h
  have join_22 : ∀ (v0_3 : Int32) (H : Heap) (locs : List Loc) (ls : Array Slot), J_22 v0_3 → va_P D gcls (gs_ws Λ F_1 A_1 L) H → va_S (gw_A Λ) s.heap H locs → lv_has ls 8 [(0, .ref (K 2)), (1, .ref a1), (2, .int p2), (3, .long (1 : Int64)), (5, .long (0 : Int64))] → W p l e rm_T_writeTo s m args below meth c H locs 0 0 Q (F0 m 22 ls [.int v0_3]) := by
    intro v0_3 H locs ls hJ hP hS hl
    have h := hj_22 v0_3 hJ
    refine lv_istore (lv' := [(7, .int v0_3), (0, .ref (K 2)), (1, .ref a1), (2, .int p2), (3, .long (1 : Int64)), (5, .long (0 : Int64))]) hx hb d_T_writeTo_22 hl (by decide) rfl (fun ls hl => ?_)
    obtain ⟨I_24, μ_24, h0_24, hs_24⟩ := h
    have loop_24 : ∀ (N : Nat) (x3_4 : Int64) (x5_4 : Int64) (x7_4 : Int32) (F_4 : gm_M) (A_4 : gm_M) (H : Heap) (locs : List Loc) (ls : Array Slot), μ_24 x3_4 x5_4 x7_4 F_4 A_4 < N → I_24 x3_4 x5_4 x7_4 F_4 A_4 → va_P D gcls (gs_ws Λ F_4 A_4 L) H → va_S (gw_A Λ) s.heap H locs → lv_has ls 8 [(0, .ref (K 2)), (1, .ref a1), (2, .int p2), (3, .long x3_4), (5, .long x5_4), (7, .int x7_4)] → W p l e rm_T_writeTo s m args below meth c H locs 0 0 Q (F0 m 24 ls []) := by
      intro N
      induction N with
      | zero => intro x3_4 x5_4 x7_4 F_4 A_4 H locs ls hμ; exact absurd hμ (Nat.not_lt_zero _)
      | succ N ih_24 =>
        intro x3_4 x5_4 x7_4 F_4 A_4 H locs ls hμ_24 hI hP hS hl
        have h := hs_24 x3_4 x5_4 x7_4 F_4 A_4 hI
        refine lv_iload hx hb d_T_writeTo_24 (lv_at hl 5 rfl) ?_
        refine lv_aload_n hx hb d_T_writeTo_26 rfl (lv_at hl 0 rfl) ?_
        refine gs_get (v := .int (F_4 (K 2) 1)) hx hb htw i_T hown hK hP (gK_2 hΛ) rfl 1 (by decide) (htw _ mm_59) rfl d_T_writeTo_27 ?_
        refine lv_icmp_ge (tgt := 106) hx hb d_T_writeTo_30 (by decide) (fun c_30 => ?_) (fun c_30 => ?_)
        · have h := h.1 c_30
          refine lv_aload_n hx hb d_T_writeTo_106 rfl (lv_at hl 1 rfl) ?_
          refine lv_aload_n hx hb d_T_writeTo_107 rfl (lv_at hl 0 rfl) ?_
          refine gw_goi (gw_runV (As := []) (rest := [.ref a1]) hx hb hml hown htw hK hP hS hl.1 (w_T_haveMinus hlo K hΛ F_4 A_4 _ h) k_T_haveMinus mm_263 ⟨Nat.le_of_ble_eq_true rfl, Nat.le_of_ble_eq_true rfl⟩ rfl rfl (gK_2 hΛ) rfl rfl rfl (Nat.le_of_ble_eq_true rfl) d_T_writeTo_108) hS (fun r_5 F_5 A_5 H locs hw hP hS => ?_)
          obtain ⟨rfl, hw⟩ := hw
          obtain ⟨rfl, hw⟩ := hw
          have h := hw
          refine gw_gov (gw_runV (As := [.int r_5]) (rest := []) hx hb hml hown htw hK hP hS hl.1 (w_W_setBelow hlo a1 l1 n1 r_5 ⟨h1.1, h1.2⟩ F_4 A_4 _ h) k_W_setBelow mm_280 ⟨Nat.le_of_ble_eq_true rfl, Nat.le_of_ble_eq_true rfl⟩ rfl rfl h1.1 rfl rfl rfl (Nat.le_of_ble_eq_true rfl) d_T_writeTo_111) hS (fun F_6 A_6 H locs hw hP hS => ?_)
          obtain ⟨rfl, hw⟩ := hw
          have h := hw
          rw [← hQe]
          exact gw_vret hx hb hr hlocks hP hK hS h d_T_writeTo_114
        · have h := h.2 c_30
          refine lv_aload_n hx hb d_T_writeTo_33 rfl (lv_at hl 1 rfl) ?_
          refine gs_get (v := .int (F_4 a1 1)) hx hb htw i_W hown hK hP h1.1 rfl 1 (by decide) (htw _ mm_37) rfl d_T_writeTo_34 ?_
          refine lv_bipush (v := (67 : Int32)) hx hb d_T_writeTo_37 (by decide) ?_
          refine lv_icmp_gt (tgt := 106) hx hb d_T_writeTo_39 (by decide) (fun c_39 => ?_) (fun c_39 => ?_)
          · have h := h.1 c_39
            refine lv_aload_n hx hb d_T_writeTo_106 rfl (lv_at hl 1 rfl) ?_
            refine lv_aload_n hx hb d_T_writeTo_107 rfl (lv_at hl 0 rfl) ?_
            refine gw_goi (gw_runV (As := []) (rest := [.ref a1]) hx hb hml hown htw hK hP hS hl.1 (w_T_haveMinus hlo K hΛ F_4 A_4 _ h) k_T_haveMinus mm_263 ⟨Nat.le_of_ble_eq_true rfl, Nat.le_of_ble_eq_true rfl⟩ rfl rfl (gK_2 hΛ) rfl rfl rfl (Nat.le_of_ble_eq_true rfl) d_T_writeTo_108) hS (fun r_7 F_7 A_7 H locs hw hP hS => ?_)
            obtain ⟨rfl, hw⟩ := hw
            obtain ⟨rfl, hw⟩ := hw
            have h := hw
            refine gw_gov (gw_runV (As := [.int r_7]) (rest := []) hx hb hml hown htw hK hP hS hl.1 (w_W_setBelow hlo a1 l1 n1 r_7 ⟨h1.1, h1.2⟩ F_4 A_4 _ h) k_W_setBelow mm_280 ⟨Nat.le_of_ble_eq_true rfl, Nat.le_of_ble_eq_true rfl⟩ rfl rfl h1.1 rfl rfl rfl (Nat.le_of_ble_eq_true rfl) d_T_writeTo_111) hS (fun F_8 A_8 H locs hw hP hS => ?_)
            obtain ⟨rfl, hw⟩ := hw
            have h := hw
            rw [← hQe]
            exact gw_vret hx hb hr hlocks hP hK hS h d_T_writeTo_114
          · have h := h.2 c_39
            refine lv_lload_n hx hb d_T_writeTo_42 rfl (lv_at hl 3 rfl) ?_
            refine lv_iload_n hx hb d_T_writeTo_43 rfl (lv_at hl 2 rfl) ?_
            refine lv_i2l (v := (p2.toInt64)) hx hb d_T_writeTo_44 (by rfl) ?_
            refine lv_lmul hx hb d_T_writeTo_45 ?_
            refine lv_topl (fun x3_9 ex3_9 => ?_)
            have h := h x3_9 ex3_9
            refine lv_lstore_n (lv' := [(3, .long x3_9), (0, .ref (K 2)), (1, .ref a1), (2, .int p2), (5, .long x5_4), (7, .int x7_4)]) hx hb d_T_writeTo_46 rfl hl (by decide) rfl (fun ls hl => ?_)
            refine lv_lload hx hb d_T_writeTo_47 (lv_at hl 4 rfl) ?_
            refine lv_iload_n hx hb d_T_writeTo_49 rfl (lv_at hl 3 rfl) ?_
            refine lv_i2l (v := (p2.toInt64)) hx hb d_T_writeTo_50 (by rfl) ?_
            refine lv_lmul hx hb d_T_writeTo_51 ?_
            refine lv_aload_n hx hb d_T_writeTo_52 rfl (lv_at hl 1 rfl) ?_
            refine gs_get (v := .ref (K 3)) hx hb htw i_T hown hK hP (gK_2 hΛ) rfl 0 (by decide) (htw _ mm_56) rfl d_T_writeTo_53 ?_
            refine lv_iload hx hb d_T_writeTo_56 (lv_at hl 5 rfl) ?_
            obtain ⟨hin, h⟩ := h
            refine gs_bld hx hb hK hP (gK_3 hΛ) hin d_T_writeTo_58 ?_
            refine gw_goi (gw_runS (As := [.int (A_4 (K 3) x7_4.toNatClampNeg)]) (rest := [.long (x5_4 * (p2.toInt64))]) hx hb hml hown htw hK hP hS hl.1 (w_T_digitOf hlo (A_4 (K 3) x7_4.toNatClampNeg) F_4 A_4 _ h) k_T_digitOf mm_267 ⟨Nat.le_of_ble_eq_true rfl, Nat.le_of_ble_eq_true rfl⟩ rfl rfl rfl rfl (Nat.le_of_ble_eq_true rfl) d_T_writeTo_59) hS (fun r_10 F_10 A_10 H locs hw hP hS => ?_)
            obtain ⟨rfl, hw⟩ := hw
            obtain ⟨rfl, hw⟩ := hw
            have h := hw
            refine lv_i2l (v := (r_10.toInt64)) hx hb d_T_writeTo_62 (by rfl) ?_
            refine lv_ladd hx hb d_T_writeTo_63 ?_
            refine lv_topl (fun x5_11 ex5_11 => ?_)
            have h := h x5_11 ex5_11
            refine lv_lstore (lv' := [(5, .long x5_11), (3, .long x3_9), (0, .ref (K 2)), (1, .ref a1), (2, .int p2), (7, .int x7_4)]) hx hb d_T_writeTo_64 hl (by decide) rfl (fun ls hl => ?_)
            refine lv_lload_n hx hb d_T_writeTo_66 rfl (lv_at hl 1 rfl) ?_
            refine lv_iload_n hx hb d_T_writeTo_67 rfl (lv_at hl 4 rfl) ?_
            refine lv_i2l (v := (p2.toInt64)) hx hb d_T_writeTo_68 (by rfl) ?_
            refine lv_lmul hx hb d_T_writeTo_69 ?_
            refine lv_ldc2 (v := (2147483647 : Int64)) hx hb hown (htw _ mm_275) d_T_writeTo_70 ?_
            refine gl_gt (tgt := 88) hx hb d_T_writeTo_73 d_T_writeTo_74 (by decide) (fun c_74 => ?_) (fun c_74 => ?_)
            · have h := h.1 c_74
              refine lv_aload_n hx hb d_T_writeTo_88 rfl (lv_at hl 3 rfl) ?_
              refine lv_lload_n hx hb d_T_writeTo_89 rfl (lv_at hl 1 rfl) ?_
              refine lv_lload hx hb d_T_writeTo_90 (lv_at hl 0 rfl) ?_
              refine gw_gov (gw_runV (As := [.long x3_9, .long x5_11]) (rest := []) hx hb hml hown htw hK hP hS hl.1 (w_W_growBy hlo a1 l1 n1 x3_9 x5_11 ⟨h1.1, h1.2⟩ F_4 A_4 _ h) k_W_growBy mm_276 ⟨Nat.le_of_ble_eq_true rfl, Nat.le_of_ble_eq_true rfl⟩ rfl rfl h1.1 rfl rfl rfl (Nat.le_of_ble_eq_true rfl) d_T_writeTo_92) hS (fun F_12 A_12 H locs hw hP hS => ?_)
              have h := hw
              refine lv_lconst (v := (1 : Int64)) hx hb d_T_writeTo_95 (by decide) ?_
              refine lv_lstore_n (lv' := [(3, .long (1 : Int64)), (5, .long x5_11), (0, .ref (K 2)), (1, .ref a1), (2, .int p2), (7, .int x7_4)]) hx hb d_T_writeTo_96 rfl hl (by decide) rfl (fun ls hl => ?_)
              refine lv_lconst (v := (0 : Int64)) hx hb d_T_writeTo_97 (by decide) ?_
              refine lv_lstore (lv' := [(5, .long (0 : Int64)), (3, .long (1 : Int64)), (0, .ref (K 2)), (1, .ref a1), (2, .int p2), (7, .int x7_4)]) hx hb d_T_writeTo_98 hl (by decide) rfl (fun ls hl => ?_)
              obtain ⟨x7_13, ex7_13⟩ : ∃ y : Int32, y = x7_4 + (1 : Int32) := ⟨_, rfl⟩
              have h := h x7_13 ex7_13
              refine lv_iinc (v := x7_13) (lv' := [(7, .int x7_13), (5, .long (0 : Int64)), (3, .long (1 : Int64)), (0, .ref (K 2)), (1, .ref a1), (2, .int p2)]) hx hb d_T_writeTo_100 hl (k := 5) rfl (by rw [ex7_13]; rfl) (by decide) rfl (fun ls hl => ?_)
              refine lv_goto (tgt := 24) hx hb d_T_writeTo_103 (by decide) ?_
              exact ih_24 (1 : Int64) (0 : Int64) x7_13 F_12 A_12 _ _ _ (Nat.lt_of_lt_of_le h.2 (Nat.le_of_lt_succ hμ_24)) h.1 hP hS (lv_sub hl [3, 4, 5, 2, 1, 0] rfl)
            · have h := h.2 c_74
              refine lv_iload hx hb d_T_writeTo_77 (lv_at hl 5 rfl) ?_
              refine lv_aload_n hx hb d_T_writeTo_79 rfl (lv_at hl 2 rfl) ?_
              refine gs_get (v := .int (F_4 (K 2) 1)) hx hb htw i_T hown hK hP (gK_2 hΛ) rfl 1 (by decide) (htw _ mm_59) rfl d_T_writeTo_80 ?_
              refine lv_iconst (v := (1 : Int32)) hx hb d_T_writeTo_83 (by decide) ?_
              refine lv_isub hx hb d_T_writeTo_84 ?_
              refine lv_icmp_ne (tgt := 100) hx hb d_T_writeTo_85 (by decide) (fun c_85 => ?_) (fun c_85 => ?_)
              · have h := h.1 c_85
                obtain ⟨x7_14, ex7_14⟩ : ∃ y : Int32, y = x7_4 + (1 : Int32) := ⟨_, rfl⟩
                have h := h x7_14 ex7_14
                refine lv_iinc (v := x7_14) (lv' := [(7, .int x7_14), (5, .long x5_11), (3, .long x3_9), (0, .ref (K 2)), (1, .ref a1), (2, .int p2)]) hx hb d_T_writeTo_100 hl (k := 5) rfl (by rw [ex7_14]; rfl) (by decide) rfl (fun ls hl => ?_)
                refine lv_goto (tgt := 24) hx hb d_T_writeTo_103 (by decide) ?_
                exact ih_24 x3_9 x5_11 x7_14 F_4 A_4 _ _ _ (Nat.lt_of_lt_of_le h.2 (Nat.le_of_lt_succ hμ_24)) h.1 hP hS (lv_sub hl [3, 4, 5, 2, 1, 0] rfl)
              · have h := h.2 c_85
                refine lv_aload_n hx hb d_T_writeTo_88 rfl (lv_at hl 3 rfl) ?_
                refine lv_lload_n hx hb d_T_writeTo_89 rfl (lv_at hl 1 rfl) ?_
                refine lv_lload hx hb d_T_writeTo_90 (lv_at hl 0 rfl) ?_
                refine gw_gov (gw_runV (As := [.long x3_9, .long x5_11]) (rest := []) hx hb hml hown htw hK hP hS hl.1 (w_W_growBy hlo a1 l1 n1 x3_9 x5_11 ⟨h1.1, h1.2⟩ F_4 A_4 _ h) k_W_growBy mm_276 ⟨Nat.le_of_ble_eq_true rfl, Nat.le_of_ble_eq_true rfl⟩ rfl rfl h1.1 rfl rfl rfl (Nat.le_of_ble_eq_true rfl) d_T_writeTo_92) hS (fun F_15 A_15 H locs hw hP hS => ?_)
                have h := hw
                refine lv_lconst (v := (1 : Int64)) hx hb d_T_writeTo_95 (by decide) ?_
                refine lv_lstore_n (lv' := [(3, .long (1 : Int64)), (5, .long x5_11), (0, .ref (K 2)), (1, .ref a1), (2, .int p2), (7, .int x7_4)]) hx hb d_T_writeTo_96 rfl hl (by decide) rfl (fun ls hl => ?_)
                refine lv_lconst (v := (0 : Int64)) hx hb d_T_writeTo_97 (by decide) ?_
                refine lv_lstore (lv' := [(5, .long (0 : Int64)), (3, .long (1 : Int64)), (0, .ref (K 2)), (1, .ref a1), (2, .int p2), (7, .int x7_4)]) hx hb d_T_writeTo_98 hl (by decide) rfl (fun ls hl => ?_)
                obtain ⟨x7_16, ex7_16⟩ : ∃ y : Int32, y = x7_4 + (1 : Int32) := ⟨_, rfl⟩
                have h := h x7_16 ex7_16
                refine lv_iinc (v := x7_16) (lv' := [(7, .int x7_16), (5, .long (0 : Int64)), (3, .long (1 : Int64)), (0, .ref (K 2)), (1, .ref a1), (2, .int p2)]) hx hb d_T_writeTo_100 hl (k := 5) rfl (by rw [ex7_16]; rfl) (by decide) rfl (fun ls hl => ?_)
                refine lv_goto (tgt := 24) hx hb d_T_writeTo_103 (by decide) ?_
                exact ih_24 (1 : Int64) (0 : Int64) x7_16 F_15 A_15 _ _ _ (Nat.lt_of_lt_of_le h.2 (Nat.le_of_lt_succ hμ_24)) h.1 hP hS (lv_sub hl [3, 4, 5, 2, 1, 0] rfl)
    exact loop_24 (μ_24 (1 : Int64) (0 : Int64) v0_3 F_1 A_1 + 1) (1 : Int64) (0 : Int64) v0_3 F_1 A_1 _ _ _ (Nat.lt_succ_self _) h0_24 hP hS (lv_sub hl [1, 2, 3, 4, 5, 0] rfl)
  refine lv_if_eq (tgt := 21) hx hb d_T_writeTo_14 (by decide) (fun c_14 => ?_) (fun c_14 => ?_)
  · have h := h.1 c_14
    refine lv_iconst (v := (0 : Int32)) hx hb d_T_writeTo_21 (by decide) ?_
    exact join_22 (0 : Int32) _ _ _ h hP hS (lv_sub hl [2, 3, 4, 1, 0] rfl)
  · have h := h.2 c_14
    refine lv_iconst (v := (1 : Int32)) hx hb d_T_writeTo_17 (by decide) ?_
    refine lv_goto (tgt := 22) hx hb d_T_writeTo_18 (by decide) ?_
    exact join_22 (1 : Int32) _ _ _ h hP hS (lv_sub hl [2, 3, 4, 1, 0] rfl)
abbrev rm_T_digitsInLimb : Room := { frames := 0, cells := 0, slots := 0, locals := 0 }
set_option maxHeartbeats 4000000 in
set_option maxRecDepth 100000 in
theorem w_T_digitsInLimb (hlo : gs_D Λ) (p1 : Int32) (F A : gm_M) (post : Int32 → Prop) (h : vc_T_digitsInLimb p1 F A post) : Met l y_T_digitsInLimb (.code y_T_digitsInLimb b_T_digitsInLimb 4 (some .int) :: gw_WS) rm_T_digitsInLimb (va_Pc [.int p1] (gw_P D cI cB cJ cW Λ L F A)) (gw_Qi D cI cB cJ cW Λ L (fun r F2 A2 => F = F2 ∧ A = A2 ∧ post r)) 0 0 (gw_A Λ) := by
  refine Met.ofW (cc := b_T_digitsInLimb) (maxL := 4) (ret := (some .int)) (by decide) rfl ?_
  intro p e s m args below meth c s₁ B hml hv
  obtain ⟨hargs, hP, hK⟩ := hv
  have hx := B.exec
  have hb := B.bytes
  have hr := B.returns
  have hlocks := B.notSynchronized
  have htw : ∀ w ∈ gw_WS, w.before args s = true := fun w h9 => atoms_spec (ws := .code y_T_digitsInLimb b_T_digitsInLimb 4 (some .int) :: gw_WS) B.pre w (List.mem_cons_of_mem _ h9)
  have hown : s.vm.findClass R_T = some m.cls := findClass_of_methodNamed B.named
  have hS : va_S (gw_A Λ) s.heap s.heap [] := va_S.rf
  refine W.eq (g2 := entryFrame m ([.int p1] : List Value).toArray 4) (by rw [hargs]) ?_
  have hl := lv_entry ([.int p1]) (n := 4) (Nat.le_of_ble_eq_true rfl)
  rw [lg_entry_eq]
  generalize (lg_sl ([.int p1]) ++ List.replicate (4 - (lg_sl ([.int p1])).length) Slot.unset).toArray = ls at hl ⊢
  have hl : lv_has ls 4 [(0, .int p1)] := hl
  generalize hQe : MQ below (gw_Qi D cI cB cJ cW Λ L (fun r F2 A2 => F = F2 ∧ A = A2 ∧ post r)) args s 0 0 (gw_A Λ) = Q
  unfold vc_T_digitsInLimb at h
  refine lv_iload_n hx hb d_T_digitsInLimb_0 rfl (lv_at hl 0 rfl) ?_
  refine lv_i2l (v := (p1.toInt64)) hx hb d_T_digitsInLimb_1 (by rfl) ?_
  refine lv_topl (fun x1_1 ex1_1 => ?_)
  have h := h x1_1 ex1_1
  refine lv_lstore_n (lv' := [(1, .long x1_1), (0, .int p1)]) hx hb d_T_digitsInLimb_2 rfl hl (by decide) rfl (fun ls hl => ?_)
  refine lv_iconst (v := (1 : Int32)) hx hb d_T_digitsInLimb_3 (by decide) ?_
  refine lv_istore_n (lv' := [(3, .int (1 : Int32)), (1, .long x1_1), (0, .int p1)]) hx hb d_T_digitsInLimb_4 rfl hl (by decide) rfl (fun ls hl => ?_)
  obtain ⟨I_5, μ_5, h0_5, hs_5⟩ := h
  have loop_5 : ∀ (N : Nat) (x1_2 : Int64) (x3_2 : Int32) (H : Heap) (locs : List Loc) (ls : Array Slot), μ_5 x1_2 x3_2 < N → I_5 x1_2 x3_2 → va_P D gcls (gs_ws Λ F A L) H → va_S (gw_A Λ) s.heap H locs → lv_has ls 4 [(0, .int p1), (1, .long x1_2), (3, .int x3_2)] → W p l e rm_T_digitsInLimb s m args below meth c H locs 0 0 Q (F0 m 5 ls []) := by
    intro N
    induction N with
    | zero => intro x1_2 x3_2 H locs ls hμ; exact absurd hμ (Nat.not_lt_zero _)
    | succ N ih_5 =>
      intro x1_2 x3_2 H locs ls hμ_5 hI hP hS hl
      have h := hs_5 x1_2 x3_2 hI
      refine lv_iload_n hx hb d_T_digitsInLimb_5 rfl (lv_at hl 2 rfl) ?_
      refine lv_bipush (v := (31 : Int32)) hx hb d_T_digitsInLimb_6 (by decide) ?_
      refine lv_icmp_ge (tgt := 33) hx hb d_T_digitsInLimb_8 (by decide) (fun c_8 => ?_) (fun c_8 => ?_)
      · have h := h.1 c_8
        refine lv_iload_n hx hb d_T_digitsInLimb_33 rfl (lv_at hl 2 rfl) ?_
        rw [← hQe]
        exact gw_iret hx hb hr hlocks hP hK hS ⟨rfl, rfl, h⟩ d_T_digitsInLimb_34
      · have h := h.2 c_8
        refine lv_lload_n hx hb d_T_digitsInLimb_11 rfl (lv_at hl 1 rfl) ?_
        refine lv_iload_n hx hb d_T_digitsInLimb_12 rfl (lv_at hl 0 rfl) ?_
        refine lv_i2l (v := (p1.toInt64)) hx hb d_T_digitsInLimb_13 (by rfl) ?_
        refine lv_lmul hx hb d_T_digitsInLimb_14 ?_
        refine lv_ldc2 (v := (2147483647 : Int64)) hx hb hown (htw _ mm_275) d_T_digitsInLimb_15 ?_
        refine gl_gt (tgt := 33) hx hb d_T_digitsInLimb_18 d_T_digitsInLimb_19 (by decide) (fun c_19 => ?_) (fun c_19 => ?_)
        · have h := h.1 c_19
          refine lv_iload_n hx hb d_T_digitsInLimb_33 rfl (lv_at hl 2 rfl) ?_
          rw [← hQe]
          exact gw_iret hx hb hr hlocks hP hK hS ⟨rfl, rfl, h⟩ d_T_digitsInLimb_34
        · have h := h.2 c_19
          refine lv_lload_n hx hb d_T_digitsInLimb_22 rfl (lv_at hl 1 rfl) ?_
          refine lv_iload_n hx hb d_T_digitsInLimb_23 rfl (lv_at hl 0 rfl) ?_
          refine lv_i2l (v := (p1.toInt64)) hx hb d_T_digitsInLimb_24 (by rfl) ?_
          refine lv_lmul hx hb d_T_digitsInLimb_25 ?_
          refine lv_topl (fun x1_3 ex1_3 => ?_)
          have h := h x1_3 ex1_3
          refine lv_lstore_n (lv' := [(1, .long x1_3), (0, .int p1), (3, .int x3_2)]) hx hb d_T_digitsInLimb_26 rfl hl (by decide) rfl (fun ls hl => ?_)
          obtain ⟨x3_4, ex3_4⟩ : ∃ y : Int32, y = x3_2 + (1 : Int32) := ⟨_, rfl⟩
          have h := h x3_4 ex3_4
          refine lv_iinc (v := x3_4) (lv' := [(3, .int x3_4), (1, .long x1_3), (0, .int p1)]) hx hb d_T_digitsInLimb_27 hl (k := 2) rfl (by rw [ex3_4]; rfl) (by decide) rfl (fun ls hl => ?_)
          refine lv_goto (tgt := 5) hx hb d_T_digitsInLimb_30 (by decide) ?_
          exact ih_5 x1_3 x3_4 _ _ _ (Nat.lt_of_lt_of_le h.2 (Nat.le_of_lt_succ hμ_5)) h.1 hP hS (lv_sub hl [2, 1, 0] rfl)
  exact loop_5 (μ_5 x1_1 (1 : Int32) + 1) x1_1 (1 : Int32) _ _ _ (Nat.lt_succ_self _) h0_5 hP hS (lv_sub hl [2, 1, 0] rfl)
abbrev rm_T_powerOf : Room := { frames := 0, cells := 0, slots := 0, locals := 0 }
set_option maxHeartbeats 4000000 in
set_option maxRecDepth 100000 in
theorem w_T_powerOf (hlo : gs_D Λ) (p1 : Int32) (p2 : Int32) (F A : gm_M) (post : Int32 → Prop) (h : vc_T_powerOf p1 p2 F A post) : Met l y_T_powerOf (.code y_T_powerOf b_T_powerOf 4 (some .int) :: gw_WS) rm_T_powerOf (va_Pc [.int p1, .int p2] (gw_P D cI cB cJ cW Λ L F A)) (gw_Qi D cI cB cJ cW Λ L (fun r F2 A2 => F = F2 ∧ A = A2 ∧ post r)) 0 0 (gw_A Λ) := by
  refine Met.ofW (cc := b_T_powerOf) (maxL := 4) (ret := (some .int)) (by decide) rfl ?_
  intro p e s m args below meth c s₁ B hml hv
  obtain ⟨hargs, hP, hK⟩ := hv
  have hx := B.exec
  have hb := B.bytes
  have hr := B.returns
  have hlocks := B.notSynchronized
  have htw : ∀ w ∈ gw_WS, w.before args s = true := fun w h9 => atoms_spec (ws := .code y_T_powerOf b_T_powerOf 4 (some .int) :: gw_WS) B.pre w (List.mem_cons_of_mem _ h9)
  have hown : s.vm.findClass R_T = some m.cls := findClass_of_methodNamed B.named
  have hS : va_S (gw_A Λ) s.heap s.heap [] := va_S.rf
  refine W.eq (g2 := entryFrame m ([.int p1, .int p2] : List Value).toArray 4) (by rw [hargs]) ?_
  have hl := lv_entry ([.int p1, .int p2]) (n := 4) (Nat.le_of_ble_eq_true rfl)
  rw [lg_entry_eq]
  generalize (lg_sl ([.int p1, .int p2]) ++ List.replicate (4 - (lg_sl ([.int p1, .int p2])).length) Slot.unset).toArray = ls at hl ⊢
  have hl : lv_has ls 4 [(0, .int p1), (1, .int p2)] := hl
  generalize hQe : MQ below (gw_Qi D cI cB cJ cW Λ L (fun r F2 A2 => F = F2 ∧ A = A2 ∧ post r)) args s 0 0 (gw_A Λ) = Q
  unfold vc_T_powerOf at h
  refine lv_iconst (v := (1 : Int32)) hx hb d_T_powerOf_0 (by decide) ?_
  refine lv_istore_n (lv' := [(2, .int (1 : Int32)), (0, .int p1), (1, .int p2)]) hx hb d_T_powerOf_1 rfl hl (by decide) rfl (fun ls hl => ?_)
  refine lv_iconst (v := (0 : Int32)) hx hb d_T_powerOf_2 (by decide) ?_
  refine lv_istore_n (lv' := [(3, .int (0 : Int32)), (2, .int (1 : Int32)), (0, .int p1), (1, .int p2)]) hx hb d_T_powerOf_3 rfl hl (by decide) rfl (fun ls hl => ?_)
  obtain ⟨I_4, μ_4, h0_4, hs_4⟩ := h
  have loop_4 : ∀ (N : Nat) (x2_1 : Int32) (x3_1 : Int32) (H : Heap) (locs : List Loc) (ls : Array Slot), μ_4 x2_1 x3_1 < N → I_4 x2_1 x3_1 → va_P D gcls (gs_ws Λ F A L) H → va_S (gw_A Λ) s.heap H locs → lv_has ls 4 [(0, .int p1), (1, .int p2), (2, .int x2_1), (3, .int x3_1)] → W p l e rm_T_powerOf s m args below meth c H locs 0 0 Q (F0 m 4 ls []) := by
    intro N
    induction N with
    | zero => intro x2_1 x3_1 H locs ls hμ; exact absurd hμ (Nat.not_lt_zero _)
    | succ N ih_4 =>
      intro x2_1 x3_1 H locs ls hμ_4 hI hP hS hl
      have h := hs_4 x2_1 x3_1 hI
      refine lv_iload_n hx hb d_T_powerOf_4 rfl (lv_at hl 3 rfl) ?_
      refine lv_iload_n hx hb d_T_powerOf_5 rfl (lv_at hl 1 rfl) ?_
      refine lv_icmp_ge (tgt := 19) hx hb d_T_powerOf_6 (by decide) (fun c_6 => ?_) (fun c_6 => ?_)
      · have h := h.1 c_6
        refine lv_iload_n hx hb d_T_powerOf_19 rfl (lv_at hl 2 rfl) ?_
        rw [← hQe]
        exact gw_iret hx hb hr hlocks hP hK hS ⟨rfl, rfl, h⟩ d_T_powerOf_20
      · have h := h.2 c_6
        refine lv_iload_n hx hb d_T_powerOf_9 rfl (lv_at hl 2 rfl) ?_
        refine lv_iload_n hx hb d_T_powerOf_10 rfl (lv_at hl 0 rfl) ?_
        refine lv_imul hx hb d_T_powerOf_11 ?_
        refine lv_topi (fun x2_2 ex2_2 => ?_)
        have h := h x2_2 ex2_2
        refine lv_istore_n (lv' := [(2, .int x2_2), (0, .int p1), (1, .int p2), (3, .int x3_1)]) hx hb d_T_powerOf_12 rfl hl (by decide) rfl (fun ls hl => ?_)
        obtain ⟨x3_3, ex3_3⟩ : ∃ y : Int32, y = x3_1 + (1 : Int32) := ⟨_, rfl⟩
        have h := h x3_3 ex3_3
        refine lv_iinc (v := x3_3) (lv' := [(3, .int x3_3), (2, .int x2_2), (0, .int p1), (1, .int p2)]) hx hb d_T_powerOf_13 hl (k := 3) rfl (by rw [ex3_3]; rfl) (by decide) rfl (fun ls hl => ?_)
        refine lv_goto (tgt := 4) hx hb d_T_powerOf_16 (by decide) ?_
        exact ih_4 x2_2 x3_3 _ _ _ (Nat.lt_of_lt_of_le h.2 (Nat.le_of_lt_succ hμ_4)) h.1 hP hS (lv_sub hl [2, 3, 1, 0] rfl)
  exact loop_4 (μ_4 (1 : Int32) (0 : Int32) + 1) (1 : Int32) (0 : Int32) _ _ _ (Nat.lt_succ_self _) h0_4 hP hS (lv_sub hl [2, 3, 1, 0] rfl)
