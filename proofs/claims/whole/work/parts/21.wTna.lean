variable {l : Launch} {D : va_G} {cI cB cJ cW : ClassId} {Λ : gs_L} {L : Nat → Nat → Int64}
abbrev rm_T_putDigits : Room := { frames := 4, cells := 0, slots := 0, locals := 85 }
set_option maxHeartbeats 4000000 in
set_option maxRecDepth 100000 in
theorem w_T_putDigits (hlo : gs_D Λ) (K : Nat → Nat) (p1 : Int32) (p2 : Int32) (p3 : Int32) (hΛ : gK cI cB cW Λ K) (F A : gm_M) (post : gm_M → gm_M → Prop) (h : vc_T_putDigits K p1 p2 p3 F A post) : Met l y_T_putDigits (.code y_T_putDigits b_T_putDigits 6 none :: gw_WS) rm_T_putDigits (va_Pc [.ref (K 2), .int p1, .int p2, .int p3] (gw_PN D cI cB cJ cW Λ L F A)) (gw_Qv D cI cB cJ cW Λ L (fun F2 A2 => post F2 A2)) 0 0 (gw_A Λ) := by
  refine Met.ofW (cc := b_T_putDigits) (maxL := 6) (ret := none) (by decide) rfl ?_
  intro p e s m args below meth c s₁ B hml hv
  obtain ⟨hargs, ⟨hP, hK⟩, hN⟩ := hv
  have hx := B.exec
  have hb := B.bytes
  have hr := B.returns
  have hlocks := B.notSynchronized
  have htw : ∀ w ∈ gw_WS, w.before args s = true := fun w h9 => atoms_spec (ws := .code y_T_putDigits b_T_putDigits 6 none :: gw_WS) B.pre w (List.mem_cons_of_mem _ h9)
  obtain ⟨qS, vS, hqS, hSq⟩ := hN.2.2.2.2.2
  have hown : s.vm.findClass R_T = some m.cls := findClass_of_methodNamed B.named
  have hS : va_S (gw_A Λ) s.heap s.heap [] := va_S.rf
  refine W.eq (g2 := entryFrame m ([.ref (K 2), .int p1, .int p2, .int p3] : List Value).toArray 6) (by rw [hargs]) ?_
  have hl := lv_entry ([.ref (K 2), .int p1, .int p2, .int p3]) (n := 6) (Nat.le_of_ble_eq_true rfl)
  rw [lg_entry_eq]
  generalize (lg_sl ([.ref (K 2), .int p1, .int p2, .int p3]) ++ List.replicate (6 - (lg_sl ([.ref (K 2), .int p1, .int p2, .int p3])).length) Slot.unset).toArray = ls at hl ⊢
  have hl : lv_has ls 6 [(0, .ref (K 2)), (1, .int p1), (2, .int p2), (3, .int p3)] := hl
  generalize hQe : MQ below (gw_Qv D cI cB cJ cW Λ L (fun F2 A2 => post F2 A2)) args s 0 0 (gw_A Λ) = Q
  unfold vc_T_putDigits at h
  refine lv_iload_n hx hb d_T_putDigits_0 rfl (lv_at hl 1 rfl) ?_
  refine lv_istore (lv' := [(4, .int p1), (0, .ref (K 2)), (1, .int p1), (2, .int p2), (3, .int p3)]) hx hb d_T_putDigits_1 hl (by decide) rfl (fun ls hl => ?_)
  refine lv_iconst (v := (0 : Int32)) hx hb d_T_putDigits_3 (by decide) ?_
  refine lv_istore (lv' := [(5, .int (0 : Int32)), (4, .int p1), (0, .ref (K 2)), (1, .int p1), (2, .int p2), (3, .int p3)]) hx hb d_T_putDigits_4 hl (by decide) rfl (fun ls hl => ?_)
  obtain ⟨I_6, μ_6, h0_6, hs_6⟩ := h
  have loop_6 : ∀ (N : Nat) (x4_1 : Int32) (x5_1 : Int32) (F_1 : gm_M) (A_1 : gm_M) (H : Heap) (locs : List Loc) (ls : Array Slot), μ_6 x4_1 x5_1 F_1 A_1 < N → I_6 x4_1 x5_1 F_1 A_1 → va_P D gcls (gs_ws Λ F_1 A_1 L) H → va_S (gw_A Λ) s.heap H locs → lv_has ls 6 [(0, .ref (K 2)), (2, .int p2), (3, .int p3), (4, .int x4_1), (5, .int x5_1)] → W p l e rm_T_putDigits s m args below meth c H locs 0 0 Q (F0 m 6 ls []) := by
    intro N
    induction N with
    | zero => intro x4_1 x5_1 F_1 A_1 H locs ls hμ; exact absurd hμ (Nat.not_lt_zero _)
    | succ N ih_6 =>
      intro x4_1 x5_1 F_1 A_1 H locs ls hμ_6 hI hP hS hl
      have h := hs_6 x4_1 x5_1 F_1 A_1 hI
      refine lv_iload hx hb d_T_putDigits_6 (lv_at hl 4 rfl) ?_
      refine lv_bipush (v := (31 : Int32)) hx hb d_T_putDigits_8 (by decide) ?_
      refine lv_icmp_ge (tgt := 49) hx hb d_T_putDigits_10 (by decide) (fun c_10 => ?_) (fun c_10 => ?_)
      · have h := h.1 c_10
        rw [← hQe]
        exact gw_vret hx hb hr hlocks hP hK hS h d_T_putDigits_49
      · have h := h.2 c_10
        refine lv_iload hx hb d_T_putDigits_13 (lv_at hl 4 rfl) ?_
        refine lv_iload_n hx hb d_T_putDigits_15 rfl (lv_at hl 2 rfl) ?_
        obtain ⟨J_24, h, hj_24⟩ := h
        have join_24 : ∀  (H : Heap) (locs : List Loc) (ls : Array Slot), J_24 → va_P D gcls (gs_ws Λ F_1 A_1 L) H → va_S (gw_A Λ) s.heap H locs → lv_has ls 6 [(0, .ref (K 2)), (2, .int p2), (3, .int p3), (4, .int x4_1), (5, .int x5_1)] → W p l e rm_T_putDigits s m args below meth c H locs 0 0 Q (F0 m 24 ls []) := by
          intro  H locs ls hJ hP hS hl
          have h := hj_24  hJ
          refine lv_aload_n hx hb d_T_putDigits_24 rfl (lv_at hl 0 rfl) ?_
          refine va_ldcS hx hb hown hqS d_T_putDigits_25 ?_
          refine lv_iload hx hb d_T_putDigits_27 (lv_at hl 3 rfl) ?_
          refine lv_iload_n hx hb d_T_putDigits_29 rfl (lv_at hl 1 rfl) ?_
          obtain ⟨hne, h⟩ := h
          refine lv_irem hx hb d_T_putDigits_30 hne ?_
          obtain ⟨hin, h⟩ := h
          refine gs_charAt hx hb hml hown htw hS hl.1 hSq hin ⟨Nat.le_of_ble_eq_true rfl, Nat.le_of_ble_eq_true rfl⟩ (Nat.le_of_ble_eq_true rfl) d_T_putDigits_31 ?_
          refine gw_gov (gw_runV (As := [.int (gx_dg (x4_1 - x4_1 / p2 * p2).toNatClampNeg)]) (rest := []) hx hb hml hown htw hK hP hS hl.1 (w_T_put hlo K (gx_dg (x4_1 - x4_1 / p2 * p2).toNatClampNeg) hΛ F_1 A_1 _ h) k_T_put mm_244 ⟨Nat.le_of_ble_eq_true rfl, Nat.le_of_ble_eq_true rfl⟩ rfl rfl (gK_2 hΛ) rfl rfl rfl (Nat.le_of_ble_eq_true rfl) d_T_putDigits_34) hS (fun F_3 A_3 H locs hw hP hS => ?_)
          have h := hw
          refine lv_iload hx hb d_T_putDigits_37 (lv_at hl 3 rfl) ?_
          refine lv_iload_n hx hb d_T_putDigits_39 rfl (lv_at hl 1 rfl) ?_
          obtain ⟨hne, h⟩ := h
          refine lv_idiv hx hb d_T_putDigits_40 hne ?_
          refine lv_topi (fun x4_4 ex4_4 => ?_)
          have h := h x4_4 ex4_4
          refine lv_istore (lv' := [(4, .int x4_4), (0, .ref (K 2)), (2, .int p2), (3, .int p3), (5, .int x5_1)]) hx hb d_T_putDigits_41 hl (by decide) rfl (fun ls hl => ?_)
          obtain ⟨x5_5, ex5_5⟩ : ∃ y : Int32, y = x5_1 + (1 : Int32) := ⟨_, rfl⟩
          have h := h x5_5 ex5_5
          refine lv_iinc (v := x5_5) (lv' := [(5, .int x5_5), (4, .int x4_4), (0, .ref (K 2)), (2, .int p2), (3, .int p3)]) hx hb d_T_putDigits_43 hl (k := 4) rfl (by rw [ex5_5]; rfl) (by decide) rfl (fun ls hl => ?_)
          refine lv_goto (tgt := 6) hx hb d_T_putDigits_46 (by decide) ?_
          exact ih_6 x4_4 x5_5 F_3 A_3 _ _ _ (Nat.lt_of_lt_of_le h.2 (Nat.le_of_lt_succ hμ_6)) h.1 hP hS (lv_sub hl [2, 3, 4, 1, 0] rfl)
        refine lv_icmp_lt (tgt := 24) hx hb d_T_putDigits_16 (by decide) (fun c_16 => ?_) (fun c_16 => ?_)
        · have h := h.1 c_16
          exact join_24 _ _ _ h hP hS hl
        · have h := h.2 c_16
          refine lv_iload hx hb d_T_putDigits_19 (lv_at hl 3 rfl) ?_
          refine lv_if_le (tgt := 49) hx hb d_T_putDigits_21 (by decide) (fun c_21 => ?_) (fun c_21 => ?_)
          · have h := h.1 c_21
            rw [← hQe]
            exact gw_vret hx hb hr hlocks hP hK hS h d_T_putDigits_49
          · have h := h.2 c_21
            exact join_24 _ _ _ h hP hS hl
  exact loop_6 (μ_6 p1 (0 : Int32) F A + 1) p1 (0 : Int32) F A _ _ _ (Nat.lt_succ_self _) h0_6 hP hS (lv_sub hl [2, 4, 5, 1, 0] rfl)
abbrev rm_T_takeNumber : Room := { frames := 5, cells := 0, slots := 0, locals := 110 }
set_option maxHeartbeats 4000000 in
set_option maxRecDepth 100000 in
theorem w_T_takeNumber (hlo : gs_D Λ) (K : Nat → Nat) (a1 l1 n1 : Nat) (p2 : Int32) (hΛ : gK cI cB cW Λ K) (h1 : gW cI Λ a1 l1 n1) (F A : gm_M) (post : gm_M → gm_M → Prop) (h : vc_T_takeNumber K a1 l1 n1 p2 F A post) : Met l y_T_takeNumber (.code y_T_takeNumber b_T_takeNumber 8 none :: gw_WS) rm_T_takeNumber (va_Pc [.ref (K 2), .ref a1, .int p2] (gw_PN D cI cB cJ cW Λ L F A)) (gw_Qv D cI cB cJ cW Λ L (fun F2 A2 => post F2 A2)) 0 0 (gw_A Λ) := by
  refine Met.ofW (cc := b_T_takeNumber) (maxL := 8) (ret := none) (by decide) rfl ?_
  intro p e s m args below meth c s₁ B hml hv
  obtain ⟨hargs, ⟨hP, hK⟩, hN⟩ := hv
  have hx := B.exec
  have hb := B.bytes
  have hr := B.returns
  have hlocks := B.notSynchronized
  have htw : ∀ w ∈ gw_WS, w.before args s = true := fun w h9 => atoms_spec (ws := .code y_T_takeNumber b_T_takeNumber 8 none :: gw_WS) B.pre w (List.mem_cons_of_mem _ h9)
  have hown : s.vm.findClass R_T = some m.cls := findClass_of_methodNamed B.named
  have hS : va_S (gw_A Λ) s.heap s.heap [] := va_S.rf
  refine W.eq (g2 := entryFrame m ([.ref (K 2), .ref a1, .int p2] : List Value).toArray 8) (by rw [hargs]) ?_
  have hl := lv_entry ([.ref (K 2), .ref a1, .int p2]) (n := 8) (Nat.le_of_ble_eq_true rfl)
  rw [lg_entry_eq]
  generalize (lg_sl ([.ref (K 2), .ref a1, .int p2]) ++ List.replicate (8 - (lg_sl ([.ref (K 2), .ref a1, .int p2])).length) Slot.unset).toArray = ls at hl ⊢
  have hl : lv_has ls 8 [(0, .ref (K 2)), (1, .ref a1), (2, .int p2)] := hl
  generalize hQe : MQ below (gw_Qv D cI cB cJ cW Λ L (fun F2 A2 => post F2 A2)) args s 0 0 (gw_A Λ) = Q
  unfold vc_T_takeNumber at h
  refine lv_aload_n hx hb d_T_takeNumber_0 rfl (lv_at hl 1 rfl) ?_
  refine gs_get (v := .int (F a1 2)) hx hb htw i_W hown hK hP h1.1 rfl 2 (by decide) (htw _ mm_41) rfl d_T_takeNumber_1 ?_
  refine lv_topi (fun x3_1 ex3_1 => ?_)
  have h := h x3_1 ex3_1
  refine lv_istore_n (lv' := [(3, .int x3_1), (0, .ref (K 2)), (1, .ref a1), (2, .int p2)]) hx hb d_T_takeNumber_4 rfl hl (by decide) rfl (fun ls hl => ?_)
  refine lv_iload_n hx hb d_T_takeNumber_5 rfl (lv_at hl 3 rfl) ?_
  refine gw_goi (gw_runS (As := [.int p2]) (rest := []) hx hb hml hown htw hK hP hS hl.1 (w_T_digitsInLimb hlo p2 F A _ h) k_T_digitsInLimb mm_324 ⟨Nat.le_of_ble_eq_true rfl, Nat.le_of_ble_eq_true rfl⟩ rfl rfl rfl rfl (Nat.le_of_ble_eq_true rfl) d_T_takeNumber_6) hS (fun r_2 F_2 A_2 H locs hw hP hS => ?_)
  obtain ⟨rfl, hw⟩ := hw
  obtain ⟨rfl, hw⟩ := hw
  have h := hw
  refine lv_istore (lv' := [(4, .int r_2), (3, .int x3_1), (0, .ref (K 2)), (1, .ref a1), (2, .int p2)]) hx hb d_T_takeNumber_9 hl (by decide) rfl (fun ls hl => ?_)
  refine lv_iload_n hx hb d_T_takeNumber_11 rfl (lv_at hl 4 rfl) ?_
  refine lv_iload hx hb d_T_takeNumber_12 (lv_at hl 0 rfl) ?_
  refine gw_goi (gw_runS (As := [.int p2, .int r_2]) (rest := []) hx hb hml hown htw hK hP hS hl.1 (w_T_powerOf hlo p2 r_2 F A _ h) k_T_powerOf mm_327 ⟨Nat.le_of_ble_eq_true rfl, Nat.le_of_ble_eq_true rfl⟩ rfl rfl rfl rfl (Nat.le_of_ble_eq_true rfl) d_T_takeNumber_14) hS (fun r_3 F_3 A_3 H locs hw hP hS => ?_)
  obtain ⟨rfl, hw⟩ := hw
  obtain ⟨rfl, hw⟩ := hw
  have h := hw
  refine lv_istore (lv' := [(5, .int r_3), (4, .int r_2), (3, .int x3_1), (0, .ref (K 2)), (1, .ref a1), (2, .int p2)]) hx hb d_T_takeNumber_17 hl (by decide) rfl (fun ls hl => ?_)
  refine lv_aload_n hx hb d_T_takeNumber_19 rfl (lv_at hl 3 rfl) ?_
  refine lv_iconst (v := (0 : Int32)) hx hb d_T_takeNumber_20 (by decide) ?_
  refine gs_put (ty := .int) hx hb htw i_T tf_T tf_T_ok n_T hown hK hlo hP hS (gK_2 hΛ) rfl 1 (by decide) rfl (htw _ mm_59) rfl (by decide +kernel) rfl rfl d_T_takeNumber_21 (fun F_4 eF_4 H locs hP hS => ?_)
  have h := h F_4 eF_4
  refine lv_iconst (v := (0 : Int32)) hx hb d_T_takeNumber_24 (by decide) ?_
  refine lv_istore (lv' := [(6, .int (0 : Int32)), (5, .int r_3), (4, .int r_2), (3, .int x3_1), (0, .ref (K 2)), (1, .ref a1), (2, .int p2)]) hx hb d_T_takeNumber_25 hl (by decide) rfl (fun ls hl => ?_)
  obtain ⟨I_27, μ_27, h0_27, hs_27⟩ := h
  have loop_27 : ∀ (N : Nat) (x6_5 : Int32) (F_5 : gm_M) (A_5 : gm_M) (H : Heap) (locs : List Loc) (ls : Array Slot), μ_27 x6_5 F_5 A_5 < N → I_27 x6_5 F_5 A_5 → va_P D gcls (gs_ws Λ F_5 A_5 L) H → va_S (gw_A Λ) s.heap H locs → lv_has ls 8 [(0, .ref (K 2)), (1, .ref a1), (2, .int p2), (3, .int x3_1), (4, .int r_2), (5, .int r_3), (6, .int x6_5)] → W p l e rm_T_takeNumber s m args below meth c H locs 0 0 Q (F0 m 27 ls []) := by
    intro N
    induction N with
    | zero => intro x6_5 F_5 A_5 H locs ls hμ; exact absurd hμ (Nat.not_lt_zero _)
    | succ N ih_27 =>
      intro x6_5 F_5 A_5 H locs ls hμ_27 hI hP hS hl
      have h := hs_27 x6_5 F_5 A_5 hI
      refine lv_iload hx hb d_T_takeNumber_27 (lv_at hl 6 rfl) ?_
      refine lv_sipush (v := (2100 : Int32)) hx hb d_T_takeNumber_29 (by decide) ?_
      obtain ⟨J_76, h, hj_76⟩ := h
      have join_76 : ∀  (H : Heap) (locs : List Loc) (ls : Array Slot), J_76 → va_P D gcls (gs_ws Λ F_5 A_5 L) H → va_S (gw_A Λ) s.heap H locs → lv_has ls 8 [(0, .ref (K 2)), (3, .int x3_1)] → W p l e rm_T_takeNumber s m args below meth c H locs 0 0 Q (F0 m 76 ls []) := by
        intro  H locs ls hJ hP hS hl
        have h := hj_76  hJ
        refine lv_aload_n hx hb d_T_takeNumber_76 rfl (lv_at hl 0 rfl) ?_
        refine gs_get (v := .int (F_5 (K 2) 1)) hx hb htw i_T hown hK hP (gK_2 hΛ) rfl 1 (by decide) (htw _ mm_59) rfl d_T_takeNumber_77 ?_
        refine lv_if_ne (tgt := 89) hx hb d_T_takeNumber_80 (by decide) (fun c_80 => ?_) (fun c_80 => ?_)
        · have h := h.1 c_80
          refine lv_iload_n hx hb d_T_takeNumber_89 rfl (lv_at hl 1 rfl) ?_
          refine lv_if_eq (tgt := 99) hx hb d_T_takeNumber_90 (by decide) (fun c_90 => ?_) (fun c_90 => ?_)
          · have h := h.1 c_90
            refine lv_aload_n hx hb d_T_takeNumber_99 rfl (lv_at hl 0 rfl) ?_
            refine gw_gov (gw_runV (As := []) (rest := []) hx hb hml hown htw hK hP hS hl.1 (w_T_turnRound hlo K hΛ F_5 A_5 _ h) k_T_turnRound mm_379 ⟨Nat.le_of_ble_eq_true rfl, Nat.le_of_ble_eq_true rfl⟩ rfl rfl (gK_2 hΛ) rfl rfl rfl (Nat.le_of_ble_eq_true rfl) d_T_takeNumber_100) hS (fun F_7 A_7 H locs hw hP hS => ?_)
            obtain ⟨rfl, hw⟩ := hw
            have h := hw
            rw [← hQe]
            exact gw_vret hx hb hr hlocks hP hK hS h d_T_takeNumber_103
          · have h := h.2 c_90
            refine lv_aload_n hx hb d_T_takeNumber_93 rfl (lv_at hl 0 rfl) ?_
            refine lv_bipush (v := (45 : Int32)) hx hb d_T_takeNumber_94 (by decide) ?_
            refine gw_gov (gw_runV (As := [.int (45 : Int32)]) (rest := []) hx hb hml hown htw hK hP hS hl.1 (w_T_put hlo K (45 : Int32) hΛ F_5 A_5 _ h) k_T_put mm_244 ⟨Nat.le_of_ble_eq_true rfl, Nat.le_of_ble_eq_true rfl⟩ rfl rfl (gK_2 hΛ) rfl rfl rfl (Nat.le_of_ble_eq_true rfl) d_T_takeNumber_96) hS (fun F_8 A_8 H locs hw hP hS => ?_)
            have h := hw
            refine lv_aload_n hx hb d_T_takeNumber_99 rfl (lv_at hl 0 rfl) ?_
            refine gw_gov (gw_runV (As := []) (rest := []) hx hb hml hown htw hK hP hS hl.1 (w_T_turnRound hlo K hΛ F_8 A_8 _ h) k_T_turnRound mm_379 ⟨Nat.le_of_ble_eq_true rfl, Nat.le_of_ble_eq_true rfl⟩ rfl rfl (gK_2 hΛ) rfl rfl rfl (Nat.le_of_ble_eq_true rfl) d_T_takeNumber_100) hS (fun F_9 A_9 H locs hw hP hS => ?_)
            obtain ⟨rfl, hw⟩ := hw
            have h := hw
            rw [← hQe]
            exact gw_vret hx hb hr hlocks hP hK hS h d_T_takeNumber_103
        · have h := h.2 c_80
          refine lv_aload_n hx hb d_T_takeNumber_83 rfl (lv_at hl 0 rfl) ?_
          refine lv_bipush (v := (48 : Int32)) hx hb d_T_takeNumber_84 (by decide) ?_
          refine gw_gov (gw_runV (As := [.int (48 : Int32)]) (rest := []) hx hb hml hown htw hK hP hS hl.1 (w_T_put hlo K (48 : Int32) hΛ F_5 A_5 _ h) k_T_put mm_244 ⟨Nat.le_of_ble_eq_true rfl, Nat.le_of_ble_eq_true rfl⟩ rfl rfl (gK_2 hΛ) rfl rfl rfl (Nat.le_of_ble_eq_true rfl) d_T_takeNumber_86) hS (fun F_10 A_10 H locs hw hP hS => ?_)
          have h := hw
          refine lv_iload_n hx hb d_T_takeNumber_89 rfl (lv_at hl 1 rfl) ?_
          refine lv_if_eq (tgt := 99) hx hb d_T_takeNumber_90 (by decide) (fun c_90 => ?_) (fun c_90 => ?_)
          · have h := h.1 c_90
            refine lv_aload_n hx hb d_T_takeNumber_99 rfl (lv_at hl 0 rfl) ?_
            refine gw_gov (gw_runV (As := []) (rest := []) hx hb hml hown htw hK hP hS hl.1 (w_T_turnRound hlo K hΛ F_10 A_10 _ h) k_T_turnRound mm_379 ⟨Nat.le_of_ble_eq_true rfl, Nat.le_of_ble_eq_true rfl⟩ rfl rfl (gK_2 hΛ) rfl rfl rfl (Nat.le_of_ble_eq_true rfl) d_T_takeNumber_100) hS (fun F_11 A_11 H locs hw hP hS => ?_)
            obtain ⟨rfl, hw⟩ := hw
            have h := hw
            rw [← hQe]
            exact gw_vret hx hb hr hlocks hP hK hS h d_T_takeNumber_103
          · have h := h.2 c_90
            refine lv_aload_n hx hb d_T_takeNumber_93 rfl (lv_at hl 0 rfl) ?_
            refine lv_bipush (v := (45 : Int32)) hx hb d_T_takeNumber_94 (by decide) ?_
            refine gw_gov (gw_runV (As := [.int (45 : Int32)]) (rest := []) hx hb hml hown htw hK hP hS hl.1 (w_T_put hlo K (45 : Int32) hΛ F_10 A_10 _ h) k_T_put mm_244 ⟨Nat.le_of_ble_eq_true rfl, Nat.le_of_ble_eq_true rfl⟩ rfl rfl (gK_2 hΛ) rfl rfl rfl (Nat.le_of_ble_eq_true rfl) d_T_takeNumber_96) hS (fun F_12 A_12 H locs hw hP hS => ?_)
            have h := hw
            refine lv_aload_n hx hb d_T_takeNumber_99 rfl (lv_at hl 0 rfl) ?_
            refine gw_gov (gw_runV (As := []) (rest := []) hx hb hml hown htw hK hP hS hl.1 (w_T_turnRound hlo K hΛ F_12 A_12 _ h) k_T_turnRound mm_379 ⟨Nat.le_of_ble_eq_true rfl, Nat.le_of_ble_eq_true rfl⟩ rfl rfl (gK_2 hΛ) rfl rfl rfl (Nat.le_of_ble_eq_true rfl) d_T_takeNumber_100) hS (fun F_13 A_13 H locs hw hP hS => ?_)
            obtain ⟨rfl, hw⟩ := hw
            have h := hw
            rw [← hQe]
            exact gw_vret hx hb hr hlocks hP hK hS h d_T_takeNumber_103
      refine lv_icmp_ge (tgt := 76) hx hb d_T_takeNumber_32 (by decide) (fun c_32 => ?_) (fun c_32 => ?_)
      · have h := h.1 c_32
        exact join_76 _ _ _ h hP hS (lv_sub hl [0, 3] rfl)
      · have h := h.2 c_32
        refine lv_aload_n hx hb d_T_takeNumber_35 rfl (lv_at hl 1 rfl) ?_
        refine gs_get (v := .int (F_5 a1 1)) hx hb htw i_W hown hK hP h1.1 rfl 1 (by decide) (htw _ mm_37) rfl d_T_takeNumber_36 ?_
        refine lv_if_le (tgt := 76) hx hb d_T_takeNumber_39 (by decide) (fun c_39 => ?_) (fun c_39 => ?_)
        · have h := h.1 c_39
          exact join_76 _ _ _ h hP hS (lv_sub hl [0, 3] rfl)
        · have h := h.2 c_39
          refine lv_aload_n hx hb d_T_takeNumber_42 rfl (lv_at hl 1 rfl) ?_
          refine lv_iload hx hb d_T_takeNumber_43 (lv_at hl 5 rfl) ?_
          refine gw_goi (gw_runV (As := [.int r_3]) (rest := []) hx hb hml hown htw hK hP hS hl.1 (w_W_cutBy hlo a1 l1 n1 r_3 ⟨h1.1, h1.2⟩ F_5 A_5 _ h) k_W_cutBy mm_330 ⟨Nat.le_of_ble_eq_true rfl, Nat.le_of_ble_eq_true rfl⟩ rfl rfl h1.1 rfl rfl rfl (Nat.le_of_ble_eq_true rfl) d_T_takeNumber_45) hS (fun r_14 F_14 A_14 H locs hw hP hS => ?_)
          have h := hw
          refine lv_istore (lv' := [(7, .int r_14), (0, .ref (K 2)), (1, .ref a1), (2, .int p2), (3, .int x3_1), (4, .int r_2), (5, .int r_3), (6, .int x6_5)]) hx hb d_T_takeNumber_48 hl (by decide) rfl (fun ls hl => ?_)
          refine lv_aload_n hx hb d_T_takeNumber_50 rfl (lv_at hl 1 rfl) ?_
          refine lv_iload hx hb d_T_takeNumber_51 (lv_at hl 0 rfl) ?_
          refine lv_iload_n hx hb d_T_takeNumber_53 rfl (lv_at hl 3 rfl) ?_
          refine lv_aload_n hx hb d_T_takeNumber_54 rfl (lv_at hl 2 rfl) ?_
          refine gs_get (v := .int (F_14 a1 1)) hx hb htw i_W hown hK hP h1.1 rfl 1 (by decide) (htw _ mm_37) rfl d_T_takeNumber_55 ?_
          refine lv_if_le (tgt := 66) hx hb d_T_takeNumber_58 (by decide) (fun c_58 => ?_) (fun c_58 => ?_)
          · have h := h.1 c_58
            refine lv_iconst (v := (0 : Int32)) hx hb d_T_takeNumber_66 (by decide) ?_
            refine gw_gov (gn_runV (As := [.int r_14, .int p2, .int (0 : Int32)]) (rest := []) hx hb hml hown htw gx_blind (gx_pre hP hK hS hN) hK hP hl.1 (w_T_putDigits hlo K r_14 p2 (0 : Int32) hΛ F_14 A_14 _ h) k_T_putDigits mm_334 ⟨Nat.le_of_ble_eq_true rfl, Nat.le_of_ble_eq_true rfl⟩ rfl rfl (gK_2 hΛ) rfl rfl rfl (Nat.le_of_ble_eq_true rfl) d_T_takeNumber_67) hS (fun F_15 A_15 H locs hw hP hS => ?_)
            have h := hw
            obtain ⟨x6_16, ex6_16⟩ : ∃ y : Int32, y = x6_5 + (1 : Int32) := ⟨_, rfl⟩
            have h := h x6_16 ex6_16
            refine lv_iinc (v := x6_16) (lv' := [(6, .int x6_16), (7, .int r_14), (0, .ref (K 2)), (1, .ref a1), (2, .int p2), (3, .int x3_1), (4, .int r_2), (5, .int r_3)]) hx hb d_T_takeNumber_70 hl (k := 7) rfl (by rw [ex6_16]; rfl) (by decide) rfl (fun ls hl => ?_)
            refine lv_goto (tgt := 27) hx hb d_T_takeNumber_73 (by decide) ?_
            exact ih_27 x6_16 F_15 A_15 _ _ _ (Nat.lt_of_lt_of_le h.2 (Nat.le_of_lt_succ hμ_27)) h.1 hP hS (lv_sub hl [2, 3, 4, 5, 6, 7, 0] rfl)
          · have h := h.2 c_58
            refine lv_iload hx hb d_T_takeNumber_61 (lv_at hl 5 rfl) ?_
            refine lv_goto (tgt := 67) hx hb d_T_takeNumber_63 (by decide) ?_
            refine gw_gov (gn_runV (As := [.int r_14, .int p2, .int r_2]) (rest := []) hx hb hml hown htw gx_blind (gx_pre hP hK hS hN) hK hP hl.1 (w_T_putDigits hlo K r_14 p2 r_2 hΛ F_14 A_14 _ h) k_T_putDigits mm_334 ⟨Nat.le_of_ble_eq_true rfl, Nat.le_of_ble_eq_true rfl⟩ rfl rfl (gK_2 hΛ) rfl rfl rfl (Nat.le_of_ble_eq_true rfl) d_T_takeNumber_67) hS (fun F_17 A_17 H locs hw hP hS => ?_)
            have h := hw
            obtain ⟨x6_18, ex6_18⟩ : ∃ y : Int32, y = x6_5 + (1 : Int32) := ⟨_, rfl⟩
            have h := h x6_18 ex6_18
            refine lv_iinc (v := x6_18) (lv' := [(6, .int x6_18), (7, .int r_14), (0, .ref (K 2)), (1, .ref a1), (2, .int p2), (3, .int x3_1), (4, .int r_2), (5, .int r_3)]) hx hb d_T_takeNumber_70 hl (k := 7) rfl (by rw [ex6_18]; rfl) (by decide) rfl (fun ls hl => ?_)
            refine lv_goto (tgt := 27) hx hb d_T_takeNumber_73 (by decide) ?_
            exact ih_27 x6_18 F_17 A_17 _ _ _ (Nat.lt_of_lt_of_le h.2 (Nat.le_of_lt_succ hμ_27)) h.1 hP hS (lv_sub hl [2, 3, 4, 5, 6, 7, 0] rfl)
  exact loop_27 (μ_27 (0 : Int32) F_4 A + 1) (0 : Int32) F_4 A _ _ _ (Nat.lt_succ_self _) h0_27 hP hS (lv_sub hl [4, 5, 6, 3, 2, 1, 0] rfl)
