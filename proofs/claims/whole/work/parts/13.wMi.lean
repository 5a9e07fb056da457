variable {l : Launch} {D : va_G} {cI cB cJ cW : ClassId} {Λ : gs_L} {L : Nat → Nat → Int64}
abbrev rm_M_residue : Room := { frames := 2, cells := 0, slots := 0, locals := 61 }
set_option maxHeartbeats 4000000 in
set_option maxRecDepth 100000 in
theorem w_M_residue (hlo : gs_D Λ) (K : Nat → Nat) (p1 : Int32) (p2 : Int32) (p3 : Int32) (p4 : Int32) (hΜ : gMd cI Λ K) (F A : gm_M) (post : Int32 → gm_M → gm_M → Prop) (h : vc_M_residue K p1 p2 p3 p4 F A post) : Met l y_M_residue (.code y_M_residue b_M_residue 13 (some .int) :: gw_WS) rm_M_residue (va_Pc [.ref (K 49), .int p1, .int p2, .int p3, .int p4] (gw_P D cI cB cJ cW Λ L F A)) (gw_Qi D cI cB cJ cW Λ L (fun r F2 A2 => post r F2 A2)) 0 0 (gw_A Λ) := by
  refine Met.ofW (cc := b_M_residue) (maxL := 13) (ret := (some .int)) (by decide) rfl ?_
  intro p e s m args below meth c s₁ B hml hv
  obtain ⟨hargs, hP, hK⟩ := hv
  have hx := B.exec
  have hb := B.bytes
  have hr := B.returns
  have hlocks := B.notSynchronized
  have htw : ∀ w ∈ gw_WS, w.before args s = true := fun w h9 => atoms_spec (ws := .code y_M_residue b_M_residue 13 (some .int) :: gw_WS) B.pre w (List.mem_cons_of_mem _ h9)
  have hown : s.vm.findClass R_M = some m.cls := findClass_of_methodNamed B.named
  have hS : va_S (gw_A Λ) s.heap s.heap [] := va_S.rf
  refine W.eq (g2 := entryFrame m ([.ref (K 49), .int p1, .int p2, .int p3, .int p4] : List Value).toArray 13) (by rw [hargs]) ?_
  have hl := lv_entry ([.ref (K 49), .int p1, .int p2, .int p3, .int p4]) (n := 13) (Nat.le_of_ble_eq_true rfl)
  rw [lg_entry_eq]
  generalize (lg_sl ([.ref (K 49), .int p1, .int p2, .int p3, .int p4]) ++ List.replicate (13 - (lg_sl ([.ref (K 49), .int p1, .int p2, .int p3, .int p4])).length) Slot.unset).toArray = ls at hl ⊢
  have hl : lv_has ls 13 [(0, .ref (K 49)), (1, .int p1), (2, .int p2), (3, .int p3), (4, .int p4)] := hl
  generalize hQe : MQ below (gw_Qi D cI cB cJ cW Λ L (fun r F2 A2 => post r F2 A2)) args s 0 0 (gw_A Λ) = Q
  unfold vc_M_residue at h
  refine lv_aload_n hx hb d_M_residue_0 rfl (lv_at hl 0 rfl) ?_
  refine lv_iconst (v := (0 : Int32)) hx hb d_M_residue_1 (by decide) ?_
  refine gs_put (ty := .int) hx hb htw i_M tf_M tf_M_ok n_M hown hK hlo hP hS (gMd_0 hΜ) rfl 0 (by decide) rfl (htw _ mm_642) rfl (by decide +kernel) rfl rfl d_M_residue_2 (fun F_1 eF_1 H locs hP hS => ?_)
  have h := h F_1 eF_1
  refine lv_aload_n hx hb d_M_residue_5 rfl (lv_at hl 0 rfl) ?_
  refine lv_iload_n hx hb d_M_residue_6 rfl (lv_at hl 1 rfl) ?_
  refine gw_goi (gw_runS (As := [.int p1]) (rest := [.ref (K 49)]) hx hb hml hown htw hK hP hS hl.1 (w_M_isRegister hlo p1 F_1 A _ h) k_M_isRegister mm_699 ⟨Nat.le_of_ble_eq_true rfl, Nat.le_of_ble_eq_true rfl⟩ rfl rfl rfl rfl (Nat.le_of_ble_eq_true rfl) d_M_residue_7) hS (fun r_2 F_2 A_2 H locs hw hP hS => ?_)
  obtain ⟨rfl, hw⟩ := hw
  obtain ⟨rfl, hw⟩ := hw
  have h := hw
  obtain ⟨J_49, h, hj_49⟩ := h
  have join_49 : ∀ (v0_3 : Int32) (H : Heap) (locs : List Loc) (ls : Array Slot), J_49 v0_3 → va_P D gcls (gs_ws Λ F_1 A L) H → va_S (gw_A Λ) s.heap H locs → lv_has ls 13 [(0, .ref (K 49)), (1, .int p1), (2, .int p2), (3, .int p3), (4, .int p4)] → W p l e rm_M_residue s m args below meth c H locs 0 0 Q (F0 m 49 ls [.int v0_3, .ref (K 49)]) := by
    intro v0_3 H locs ls hJ hP hS hl
    have h := hj_49 v0_3 hJ
    refine lv_iconst (v := (1 : Int32)) hx hb d_M_residue_49 (by decide) ?_
    refine gw_goi (gw_runV (As := [.int v0_3, .int (1 : Int32)]) (rest := []) hx hb hml hown htw hK hP hS hl.1 (w_M_fails hlo K v0_3 (1 : Int32) hΜ F_1 A _ h) k_M_fails mm_705 ⟨Nat.le_of_ble_eq_true rfl, Nat.le_of_ble_eq_true rfl⟩ rfl rfl (gMd_0 hΜ) rfl rfl rfl (Nat.le_of_ble_eq_true rfl) d_M_residue_50) hS (fun r_4 F_4 A_4 H locs hw hP hS => ?_)
    obtain ⟨rfl, hw⟩ := hw
    have h := hw
    refine lv_if_ne (tgt := 79) hx hb d_M_residue_53 (by decide) (fun c_53 => ?_) (fun c_53 => ?_)
    · have h := h.1 c_53
      refine lv_iconst (v := (0 : Int32)) hx hb d_M_residue_79 (by decide) ?_
      rw [← hQe]
      exact gw_iret hx hb hr hlocks hP hK hS h d_M_residue_80
    · have h := h.2 c_53
      refine lv_aload_n hx hb d_M_residue_56 rfl (lv_at hl 0 rfl) ?_
      refine lv_aload_n hx hb d_M_residue_57 rfl (lv_at hl 0 rfl) ?_
      refine gs_get (v := .ref (K 52)) hx hb htw i_M hown hK hP (gMd_0 hΜ) rfl 4 (by decide) (htw _ mm_646) rfl d_M_residue_58 ?_
      refine lv_iload hx hb d_M_residue_61 (lv_at hl 4 rfl) ?_
      obtain ⟨hin, h⟩ := h
      refine gs_ild hx hb hK hP (gMd_52 hΜ) hin d_M_residue_63 ?_
      obtain ⟨J_72, h, hj_72⟩ := h
      have join_72 : ∀ (v0_5 : Int32) (H : Heap) (locs : List Loc) (ls : Array Slot), J_72 v0_5 → va_P D gcls (gs_ws Λ F_4 A L) H → va_S (gw_A Λ) s.heap H locs → lv_has ls 13 [(0, .ref (K 49)), (1, .int p1), (2, .int p2), (3, .int p3), (4, .int p4)] → W p l e rm_M_residue s m args below meth c H locs 0 0 Q (F0 m 72 ls [.int v0_5, .ref (K 49)]) := by
        intro v0_5 H locs ls hJ hP hS hl
        have h := hj_72 v0_5 hJ
        refine lv_iconst (v := (2 : Int32)) hx hb d_M_residue_72 (by decide) ?_
        refine gw_goi (gw_runV (As := [.int v0_5, .int (2 : Int32)]) (rest := []) hx hb hml hown htw hK hP hS hl.1 (w_M_fails hlo K v0_5 (2 : Int32) hΜ F_4 A _ h) k_M_fails mm_705 ⟨Nat.le_of_ble_eq_true rfl, Nat.le_of_ble_eq_true rfl⟩ rfl rfl (gMd_0 hΜ) rfl rfl rfl (Nat.le_of_ble_eq_true rfl) d_M_residue_73) hS (fun r_6 F_6 A_6 H locs hw hP hS => ?_)
        obtain ⟨rfl, hw⟩ := hw
        have h := hw
        refine lv_if_eq (tgt := 81) hx hb d_M_residue_76 (by decide) (fun c_76 => ?_) (fun c_76 => ?_)
        · have h := h.1 c_76
          refine lv_aload_n hx hb d_M_residue_81 rfl (lv_at hl 0 rfl) ?_
          refine lv_iload_n hx hb d_M_residue_82 rfl (lv_at hl 3 rfl) ?_
          refine lv_aload_n hx hb d_M_residue_83 rfl (lv_at hl 0 rfl) ?_
          refine gs_get (v := .ref (K 59)) hx hb htw i_M hown hK hP (gMd_0 hΜ) rfl 11 (by decide) (htw _ mm_653) rfl d_M_residue_84 ?_
          refine gw_goi (gw_runV (As := [.int p3, .ref (K 59)]) (rest := []) hx hb hml hown htw hK hP hS hl.1 (w_M_load hlo K p3 (K 59) (9000) hΜ (gMd_59 hΜ) F_6 A _ h) k_M_load mm_713 ⟨Nat.le_of_ble_eq_true rfl, Nat.le_of_ble_eq_true rfl⟩ rfl rfl (gMd_0 hΜ) rfl rfl rfl (Nat.le_of_ble_eq_true rfl) d_M_residue_87) hS (fun r_7 F_7 A_7 H locs hw hP hS => ?_)
          obtain ⟨rfl, hw⟩ := hw
          have h := hw
          refine lv_istore (lv' := [(5, .int r_7), (0, .ref (K 49)), (1, .int p1), (2, .int p2), (3, .int p3), (4, .int p4)]) hx hb d_M_residue_90 hl (by decide) rfl (fun ls hl => ?_)
          refine lv_aload_n hx hb d_M_residue_92 rfl (lv_at hl 1 rfl) ?_
          refine lv_iload hx hb d_M_residue_93 (lv_at hl 5 rfl) ?_
          refine lv_aload_n hx hb d_M_residue_95 rfl (lv_at hl 1 rfl) ?_
          refine gs_get (v := .ref (K 58)) hx hb htw i_M hown hK hP (gMd_0 hΜ) rfl 10 (by decide) (htw _ mm_652) rfl d_M_residue_96 ?_
          refine gw_goi (gw_runV (As := [.int p4, .ref (K 58)]) (rest := []) hx hb hml hown htw hK hP hS hl.1 (w_M_load hlo K p4 (K 58) (9000) hΜ (gMd_58 hΜ) F_6 A_7 _ h) k_M_load mm_713 ⟨Nat.le_of_ble_eq_true rfl, Nat.le_of_ble_eq_true rfl⟩ rfl rfl (gMd_0 hΜ) rfl rfl rfl (Nat.le_of_ble_eq_true rfl) d_M_residue_99) hS (fun r_8 F_8 A_8 H locs hw hP hS => ?_)
          obtain ⟨rfl, hw⟩ := hw
          have h := hw
          refine lv_istore (lv' := [(6, .int r_8), (5, .int r_7), (0, .ref (K 49)), (1, .int p1), (2, .int p2), (3, .int p3), (4, .int p4)]) hx hb d_M_residue_102 hl (by decide) rfl (fun ls hl => ?_)
          refine lv_aload_n hx hb d_M_residue_104 rfl (lv_at hl 2 rfl) ?_
          refine lv_iload_n hx hb d_M_residue_105 rfl (lv_at hl 4 rfl) ?_
          refine lv_aload_n hx hb d_M_residue_106 rfl (lv_at hl 2 rfl) ?_
          refine gs_get (v := .ref (K 54)) hx hb htw i_M hown hK hP (gMd_0 hΜ) rfl 6 (by decide) (htw _ mm_648) rfl d_M_residue_107 ?_
          refine gw_goi (gw_runV (As := [.int p2, .ref (K 54)]) (rest := []) hx hb hml hown htw hK hP hS hl.1 (w_M_load hlo K p2 (K 54) (9000) hΜ (gMd_54 hΜ) F_6 A_8 _ h) k_M_load mm_713 ⟨Nat.le_of_ble_eq_true rfl, Nat.le_of_ble_eq_true rfl⟩ rfl rfl (gMd_0 hΜ) rfl rfl rfl (Nat.le_of_ble_eq_true rfl) d_M_residue_110) hS (fun r_9 F_9 A_9 H locs hw hP hS => ?_)
          obtain ⟨rfl, hw⟩ := hw
          have h := hw
          refine lv_istore (lv' := [(7, .int r_9), (6, .int r_8), (5, .int r_7), (0, .ref (K 49)), (1, .int p1), (2, .int p2), (3, .int p3), (4, .int p4)]) hx hb d_M_residue_113 hl (by decide) rfl (fun ls hl => ?_)
          refine lv_iconst (v := (1 : Int32)) hx hb d_M_residue_115 (by decide) ?_
          refine lv_istore (lv' := [(8, .int (1 : Int32)), (7, .int r_9), (6, .int r_8), (5, .int r_7), (0, .ref (K 49)), (1, .int p1), (2, .int p2), (3, .int p3), (4, .int p4)]) hx hb d_M_residue_116 hl (by decide) rfl (fun ls hl => ?_)
          refine lv_aload_n hx hb d_M_residue_118 rfl (lv_at hl 4 rfl) ?_
          refine gs_get (v := .ref (K 59)) hx hb htw i_M hown hK hP (gMd_0 hΜ) rfl 11 (by decide) (htw _ mm_653) rfl d_M_residue_119 ?_
          refine lv_iload hx hb d_M_residue_122 (lv_at hl 3 rfl) ?_
          refine gw_goi (gw_runS (As := [.ref (K 59), .int r_7]) (rest := []) hx hb hml hown htw hK hP hS hl.1 (w_M_bits hlo (K 59) (9000) r_7 (gMd_59 hΜ) F_6 A_9 _ h) k_M_bits mm_717 ⟨Nat.le_of_ble_eq_true rfl, Nat.le_of_ble_eq_true rfl⟩ rfl rfl rfl rfl (Nat.le_of_ble_eq_true rfl) d_M_residue_124) hS (fun r_10 F_10 A_10 H locs hw hP hS => ?_)
          obtain ⟨rfl, hw⟩ := hw
          obtain ⟨rfl, hw⟩ := hw
          have h := hw
          refine lv_istore (lv' := [(9, .int r_10), (8, .int (1 : Int32)), (7, .int r_9), (6, .int r_8), (5, .int r_7), (0, .ref (K 49)), (1, .int p1), (2, .int p2), (3, .int p3), (4, .int p4)]) hx hb d_M_residue_127 hl (by decide) rfl (fun ls hl => ?_)
          refine lv_aload_n hx hb d_M_residue_129 rfl (lv_at hl 5 rfl) ?_
          refine gs_get (v := .ref (K 52)) hx hb htw i_M hown hK hP (gMd_0 hΜ) rfl 4 (by decide) (htw _ mm_646) rfl d_M_residue_130 ?_
          refine lv_iload_n hx hb d_M_residue_133 rfl (lv_at hl 7 rfl) ?_
          obtain ⟨hin, h⟩ := h
          refine gs_ild hx hb hK hP (gMd_52 hΜ) hin d_M_residue_134 ?_
          obtain ⟨J_156, h, hj_156⟩ := h
          have join_156 : ∀ (v0_11 : Int32) (H : Heap) (locs : List Loc) (ls : Array Slot), J_156 v0_11 → va_P D gcls (gs_ws Λ F_6 A_9 L) H → va_S (gw_A Λ) s.heap H locs → lv_has ls 13 [(0, .ref (K 49)), (1, .int p1), (4, .int p4), (5, .int r_7), (6, .int r_8), (7, .int r_9), (9, .int r_10)] → W p l e rm_M_residue s m args below meth c H locs 0 0 Q (F0 m 156 ls [.int v0_11]) := by
            intro v0_11 H locs ls hJ hP hS hl
            have h := hj_156 v0_11 hJ
            refine lv_istore (lv' := [(10, .int v0_11), (0, .ref (K 49)), (1, .int p1), (4, .int p4), (5, .int r_7), (6, .int r_8), (7, .int r_9), (9, .int r_10)]) hx hb d_M_residue_156 hl (by decide) rfl (fun ls hl => ?_)
            refine lv_iconst (v := (0 : Int32)) hx hb d_M_residue_158 (by decide) ?_
            refine lv_istore (lv' := [(11, .int (0 : Int32)), (10, .int v0_11), (0, .ref (K 49)), (1, .int p1), (4, .int p4), (5, .int r_7), (6, .int r_8), (7, .int r_9), (9, .int r_10)]) hx hb d_M_residue_159 hl (by decide) rfl (fun ls hl => ?_)
            obtain ⟨I_161, μ_161, h0_161, hs_161⟩ := h
            have loop_161 : ∀ (N : Nat) (x11_12 : Int32) (A_12 : gm_M) (H : Heap) (locs : List Loc) (ls : Array Slot), μ_161 x11_12 A_12 < N → I_161 x11_12 A_12 → va_P D gcls (gs_ws Λ F_6 A_12 L) H → va_S (gw_A Λ) s.heap H locs → lv_has ls 13 [(0, .ref (K 49)), (1, .int p1), (4, .int p4), (5, .int r_7), (6, .int r_8), (7, .int r_9), (9, .int r_10), (10, .int v0_11), (11, .int x11_12)] → W p l e rm_M_residue s m args below meth c H locs 0 0 Q (F0 m 161 ls []) := by
              intro N
              induction N with
              | zero => intro x11_12 A_12 H locs ls hμ; exact absurd hμ (Nat.not_lt_zero _)
              | succ N ih_161 =>
                intro x11_12 A_12 H locs ls hμ_161 hI hP hS hl
                have h := hs_161 x11_12 A_12 hI
                refine lv_iload hx hb d_M_residue_161 (lv_at hl 8 rfl) ?_
                refine lv_iload hx hb d_M_residue_163 (lv_at hl 3 rfl) ?_
                refine lv_icmp_ge (tgt := 188) hx hb d_M_residue_165 (by decide) (fun c_165 => ?_) (fun c_165 => ?_)
                · have h := h.1 c_165
                  refine lv_aload_n hx hb d_M_residue_188 rfl (lv_at hl 0 rfl) ?_
                  refine lv_aload_n hx hb d_M_residue_189 rfl (lv_at hl 0 rfl) ?_
                  refine gs_get (v := .ref (K 54)) hx hb htw i_M hown hK hP (gMd_0 hΜ) rfl 6 (by decide) (htw _ mm_648) rfl d_M_residue_190 ?_
                  refine lv_iload hx hb d_M_residue_193 (lv_at hl 5 rfl) ?_
                  refine lv_aload_n hx hb d_M_residue_195 rfl (lv_at hl 0 rfl) ?_
                  refine gs_get (v := .ref (K 58)) hx hb htw i_M hown hK hP (gMd_0 hΜ) rfl 10 (by decide) (htw _ mm_652) rfl d_M_residue_196 ?_
                  refine lv_iload hx hb d_M_residue_199 (lv_at hl 4 rfl) ?_
                  refine lv_aload_n hx hb d_M_residue_201 rfl (lv_at hl 0 rfl) ?_
                  refine gs_get (v := .ref (K 56)) hx hb htw i_M hown hK hP (gMd_0 hΜ) rfl 8 (by decide) (htw _ mm_650) rfl d_M_residue_202 ?_
                  refine gw_goi (gw_runV (As := [.ref (K 54), .int r_9, .ref (K 58), .int r_8, .ref (K 56)]) (rest := []) hx hb hml hown htw hK hP hS hl.1 (w_M_divided hlo K (K 54) (9000) r_9 (K 58) (9000) r_8 (K 56) (9000) hΜ (gMd_54 hΜ) (gMd_58 hΜ) (gMd_56 hΜ) F_6 A_12 _ h) k_M_divided mm_772 ⟨Nat.le_of_ble_eq_true rfl, Nat.le_of_ble_eq_true rfl⟩ rfl rfl (gMd_0 hΜ) rfl rfl rfl (Nat.le_of_ble_eq_true rfl) d_M_residue_205) hS (fun r_13 F_13 A_13 H locs hw hP hS => ?_)
                  have h := hw
                  refine lv_istore (lv' := [(7, .int r_13), (0, .ref (K 49)), (1, .int p1), (4, .int p4), (5, .int r_7), (6, .int r_8), (9, .int r_10), (10, .int v0_11), (11, .int x11_12)]) hx hb d_M_residue_208 hl (by decide) rfl (fun ls hl => ?_)
                  refine lv_iconst (v := (0 : Int32)) hx hb d_M_residue_210 (by decide) ?_
                  refine lv_istore (lv' := [(11, .int (0 : Int32)), (7, .int r_13), (0, .ref (K 49)), (1, .int p1), (4, .int p4), (5, .int r_7), (6, .int r_8), (9, .int r_10), (10, .int v0_11)]) hx hb d_M_residue_211 hl (by decide) rfl (fun ls hl => ?_)
                  obtain ⟨I_213, μ_213, h0_213, hs_213⟩ := h
                  have loop_213 : ∀ (N : Nat) (x11_14 : Int32) (A_14 : gm_M) (H : Heap) (locs : List Loc) (ls : Array Slot), μ_213 x11_14 A_14 < N → I_213 x11_14 A_14 → va_P D gcls (gs_ws Λ F_13 A_14 L) H → va_S (gw_A Λ) s.heap H locs → lv_has ls 13 [(0, .ref (K 49)), (1, .int p1), (4, .int p4), (5, .int r_7), (6, .int r_8), (7, .int r_13), (9, .int r_10), (10, .int v0_11), (11, .int x11_14)] → W p l e rm_M_residue s m args below meth c H locs 0 0 Q (F0 m 213 ls []) := by
                    intro N
                    induction N with
                    | zero => intro x11_14 A_14 H locs ls hμ; exact absurd hμ (Nat.not_lt_zero _)
                    | succ N ih_213 =>
                      intro x11_14 A_14 H locs ls hμ_213 hI hP hS hl
                      have h := hs_213 x11_14 A_14 hI
                      refine lv_iload hx hb d_M_residue_213 (lv_at hl 8 rfl) ?_
                      refine lv_iload hx hb d_M_residue_215 (lv_at hl 5 rfl) ?_
                      refine lv_icmp_ge (tgt := 240) hx hb d_M_residue_217 (by decide) (fun c_217 => ?_) (fun c_217 => ?_)
                      · have h := h.1 c_217
                        refine lv_aload_n hx hb d_M_residue_240 rfl (lv_at hl 0 rfl) ?_
                        refine gs_get (v := .ref (K 57)) hx hb htw i_M hown hK hP (gMd_0 hΜ) rfl 9 (by decide) (htw _ mm_651) rfl d_M_residue_241 ?_
                        refine lv_iconst (v := (0 : Int32)) hx hb d_M_residue_244 (by decide) ?_
                        refine lv_iconst (v := (1 : Int32)) hx hb d_M_residue_245 (by decide) ?_
                        obtain ⟨hin, h⟩ := h
                        refine gs_ist hx hb hK hlo hP hS (gMd_57 hΜ) hin d_M_residue_246 (fun A_15 eA_15 H locs hP hS => ?_)
                        have h := h A_15 eA_15
                        refine lv_aload_n hx hb d_M_residue_247 rfl (lv_at hl 0 rfl) ?_
                        refine lv_aload_n hx hb d_M_residue_248 rfl (lv_at hl 0 rfl) ?_
                        refine gs_get (v := .ref (K 57)) hx hb htw i_M hown hK hP (gMd_0 hΜ) rfl 9 (by decide) (htw _ mm_651) rfl d_M_residue_249 ?_
                        refine lv_iconst (v := (1 : Int32)) hx hb d_M_residue_252 (by decide) ?_
                        refine lv_aload_n hx hb d_M_residue_253 rfl (lv_at hl 0 rfl) ?_
                        refine gs_get (v := .ref (K 58)) hx hb htw i_M hown hK hP (gMd_0 hΜ) rfl 10 (by decide) (htw _ mm_652) rfl d_M_residue_254 ?_
                        refine lv_iload hx hb d_M_residue_257 (lv_at hl 4 rfl) ?_
                        refine lv_aload_n hx hb d_M_residue_259 rfl (lv_at hl 0 rfl) ?_
                        refine gs_get (v := .ref (K 56)) hx hb htw i_M hown hK hP (gMd_0 hΜ) rfl 8 (by decide) (htw _ mm_650) rfl d_M_residue_260 ?_
                        refine gw_goi (gw_runV (As := [.ref (K 57), .int (1 : Int32), .ref (K 58), .int r_8, .ref (K 56)]) (rest := []) hx hb hml hown htw hK hP hS hl.1 (w_M_divided hlo K (K 57) (9000) (1 : Int32) (K 58) (9000) r_8 (K 56) (9000) hΜ (gMd_57 hΜ) (gMd_58 hΜ) (gMd_56 hΜ) F_13 A_15 _ h) k_M_divided mm_772 ⟨Nat.le_of_ble_eq_true rfl, Nat.le_of_ble_eq_true rfl⟩ rfl rfl (gMd_0 hΜ) rfl rfl rfl (Nat.le_of_ble_eq_true rfl) d_M_residue_263) hS (fun r_16 F_16 A_16 H locs hw hP hS => ?_)
                        have h := hw
                        refine lv_istore (lv' := [(8, .int r_16), (0, .ref (K 49)), (1, .int p1), (4, .int p4), (5, .int r_7), (6, .int r_8), (7, .int r_13), (9, .int r_10), (10, .int v0_11), (11, .int x11_14)]) hx hb d_M_residue_266 hl (by decide) rfl (fun ls hl => ?_)
                        refine lv_iload hx hb d_M_residue_268 (lv_at hl 7 rfl) ?_
                        refine lv_iconst (v := (1 : Int32)) hx hb d_M_residue_270 (by decide) ?_
                        refine lv_isub hx hb d_M_residue_271 ?_
                        refine lv_topi (fun x11_17 ex11_17 => ?_)
                        have h := h x11_17 ex11_17
                        refine lv_istore (lv' := [(11, .int x11_17), (8, .int r_16), (0, .ref (K 49)), (1, .int p1), (4, .int p4), (5, .int r_7), (6, .int r_8), (7, .int r_13), (9, .int r_10), (10, .int v0_11)]) hx hb d_M_residue_272 hl (by decide) rfl (fun ls hl => ?_)
                        obtain ⟨I_274, μ_274, h0_274, hs_274⟩ := h
                        have loop_274 : ∀ (N : Nat) (x8_18 : Int32) (x11_18 : Int32) (F_18 : gm_M) (A_18 : gm_M) (H : Heap) (locs : List Loc) (ls : Array Slot), μ_274 x8_18 x11_18 F_18 A_18 < N → I_274 x8_18 x11_18 F_18 A_18 → va_P D gcls (gs_ws Λ F_18 A_18 L) H → va_S (gw_A Λ) s.heap H locs → lv_has ls 13 [(0, .ref (K 49)), (1, .int p1), (4, .int p4), (5, .int r_7), (6, .int r_8), (7, .int r_13), (8, .int x8_18), (10, .int v0_11), (11, .int x11_18)] → W p l e rm_M_residue s m args below meth c H locs 0 0 Q (F0 m 274 ls []) := by
                          intro N
                          induction N with
                          | zero => intro x8_18 x11_18 F_18 A_18 H locs ls hμ; exact absurd hμ (Nat.not_lt_zero _)
                          | succ N ih_274 =>
                            intro x8_18 x11_18 F_18 A_18 H locs ls hμ_274 hI hP hS hl
                            have h := hs_274 x8_18 x11_18 F_18 A_18 hI
                            refine lv_iload hx hb d_M_residue_274 (lv_at hl 8 rfl) ?_
                            refine lv_if_lt (tgt := 448) hx hb d_M_residue_276 (by decide) (fun c_276 => ?_) (fun c_276 => ?_)
                            · have h := h.1 c_276
                              refine lv_iload hx hb d_M_residue_448 (lv_at hl 6 rfl) ?_
                              obtain ⟨J_478, h, hj_478⟩ := h
                              have join_478 : ∀ (v0_19 : Int32) (H : Heap) (locs : List Loc) (ls : Array Slot), J_478 v0_19 → va_P D gcls (gs_ws Λ F_18 A_18 L) H → va_S (gw_A Λ) s.heap H locs → lv_has ls 13 [(0, .ref (K 49)), (1, .int p1), (4, .int p4), (6, .int r_8), (8, .int x8_18)] → W p l e rm_M_residue s m args below meth c H locs 0 0 Q (F0 m 478 ls [.int v0_19]) := by
                                intro v0_19 H locs ls hJ hP hS hl
                                have h := hj_478 v0_19 hJ
                                refine lv_istore (lv' := [(11, .int v0_19), (0, .ref (K 49)), (1, .int p1), (4, .int p4), (6, .int r_8), (8, .int x8_18)]) hx hb d_M_residue_478 hl (by decide) rfl (fun ls hl => ?_)
                                refine lv_iload hx hb d_M_residue_480 (lv_at hl 0 rfl) ?_
                                refine lv_if_eq (tgt := 529) hx hb d_M_residue_482 (by decide) (fun c_482 => ?_) (fun c_482 => ?_)
                                · have h := h.1 c_482
                                  refine lv_aload_n hx hb d_M_residue_529 rfl (lv_at hl 1 rfl) ?_
                                  refine lv_iload_n hx hb d_M_residue_530 rfl (lv_at hl 2 rfl) ?_
                                  refine lv_aload_n hx hb d_M_residue_531 rfl (lv_at hl 1 rfl) ?_
                                  refine gs_get (v := .ref (K 52)) hx hb htw i_M hown hK hP (gMd_0 hΜ) rfl 4 (by decide) (htw _ mm_646) rfl d_M_residue_532 ?_
                                  refine lv_iload hx hb d_M_residue_535 (lv_at hl 3 rfl) ?_
                                  obtain ⟨hin, h⟩ := h
                                  refine gs_ild hx hb hK hP (gMd_52 hΜ) hin d_M_residue_537 ?_
                                  refine lv_aload_n hx hb d_M_residue_538 rfl (lv_at hl 1 rfl) ?_
                                  refine gs_get (v := .ref (K 57)) hx hb htw i_M hown hK hP (gMd_0 hΜ) rfl 9 (by decide) (htw _ mm_651) rfl d_M_residue_539 ?_
                                  refine lv_iload hx hb d_M_residue_542 (lv_at hl 5 rfl) ?_
                                  refine lv_iconst (v := (2 : Int32)) hx hb d_M_residue_544 (by decide) ?_
                                  refine gw_goi (gw_runV (As := [.int p1, .int (A_18 (K 52) p4.toNatClampNeg), .ref (K 57), .int x8_18, .int (2 : Int32)]) (rest := []) hx hb hml hown htw hK hP hS hl.1 (w_M_keep hlo K p1 (A_18 (K 52) p4.toNatClampNeg) (K 57) (9000) x8_18 (2 : Int32) hΜ (gMd_57 hΜ) F_18 A_18 _ h) k_M_keep mm_721 ⟨Nat.le_of_ble_eq_true rfl, Nat.le_of_ble_eq_true rfl⟩ rfl rfl (gMd_0 hΜ) rfl rfl rfl (Nat.le_of_ble_eq_true rfl) d_M_residue_545) hS (fun r_20 F_20 A_20 H locs hw hP hS => ?_)
                                  have h := hw
                                  refine lv_pop hx hb d_M_residue_548 rfl ?_
                                  refine lv_aload_n hx hb d_M_residue_549 rfl (lv_at hl 1 rfl) ?_
                                  refine gs_get (v := .ref (K 52)) hx hb htw i_M hown hK hP (gMd_0 hΜ) rfl 4 (by decide) (htw _ mm_646) rfl d_M_residue_550 ?_
                                  refine lv_iload_n hx hb d_M_residue_553 rfl (lv_at hl 2 rfl) ?_
                                  obtain ⟨hin, h⟩ := h
                                  refine gs_ild hx hb hK hP (gMd_52 hΜ) hin d_M_residue_554 ?_
                                  rw [← hQe]
                                  exact gw_iret hx hb hr hlocks hP hK hS h d_M_residue_555
                                · have h := h.2 c_482
                                  refine lv_aload_n hx hb d_M_residue_485 rfl (lv_at hl 1 rfl) ?_
                                  refine gs_get (v := .ref (K 58)) hx hb htw i_M hown hK hP (gMd_0 hΜ) rfl 10 (by decide) (htw _ mm_652) rfl d_M_residue_486 ?_
                                  refine lv_iload hx hb d_M_residue_489 (lv_at hl 4 rfl) ?_
                                  refine lv_aload_n hx hb d_M_residue_491 rfl (lv_at hl 1 rfl) ?_
                                  refine gs_get (v := .ref (K 57)) hx hb htw i_M hown hK hP (gMd_0 hΜ) rfl 9 (by decide) (htw _ mm_651) rfl d_M_residue_492 ?_
                                  refine lv_iload hx hb d_M_residue_495 (lv_at hl 5 rfl) ?_
                                  refine lv_aload_n hx hb d_M_residue_497 rfl (lv_at hl 1 rfl) ?_
                                  refine gs_get (v := .ref (K 56)) hx hb htw i_M hown hK hP (gMd_0 hΜ) rfl 8 (by decide) (htw _ mm_650) rfl d_M_residue_498 ?_
                                  refine gw_goi (gw_runS (As := [.ref (K 58), .int r_8, .ref (K 57), .int x8_18, .ref (K 56)]) (rest := []) hx hb hml hown htw hK hP hS hl.1 (w_M_less hlo (K 58) (9000) r_8 (K 57) (9000) x8_18 (K 56) (9000) (gMd_58 hΜ) (gMd_57 hΜ) (gMd_56 hΜ) F_18 A_18 _ h) k_M_less mm_765 ⟨Nat.le_of_ble_eq_true rfl, Nat.le_of_ble_eq_true rfl⟩ rfl rfl rfl rfl (Nat.le_of_ble_eq_true rfl) d_M_residue_501) hS (fun r_21 F_21 A_21 H locs hw hP hS => ?_)
                                  obtain ⟨rfl, hw⟩ := hw
                                  have h := hw
                                  refine lv_istore (lv' := [(8, .int r_21), (11, .int v0_19), (0, .ref (K 49)), (1, .int p1), (4, .int p4), (6, .int r_8)]) hx hb d_M_residue_504 hl (by decide) rfl (fun ls hl => ?_)
                                  refine lv_aload_n hx hb d_M_residue_506 rfl (lv_at hl 2 rfl) ?_
                                  refine lv_iload_n hx hb d_M_residue_507 rfl (lv_at hl 3 rfl) ?_
                                  refine lv_aload_n hx hb d_M_residue_508 rfl (lv_at hl 2 rfl) ?_
                                  refine gs_get (v := .ref (K 52)) hx hb htw i_M hown hK hP (gMd_0 hΜ) rfl 4 (by decide) (htw _ mm_646) rfl d_M_residue_509 ?_
                                  refine lv_iload hx hb d_M_residue_512 (lv_at hl 4 rfl) ?_
                                  obtain ⟨hin, h⟩ := h
                                  refine gs_ild hx hb hK hP (gMd_52 hΜ) hin d_M_residue_514 ?_
                                  refine lv_aload_n hx hb d_M_residue_515 rfl (lv_at hl 2 rfl) ?_
                                  refine gs_get (v := .ref (K 56)) hx hb htw i_M hown hK hP (gMd_0 hΜ) rfl 8 (by decide) (htw _ mm_650) rfl d_M_residue_516 ?_
                                  refine lv_iload hx hb d_M_residue_519 (lv_at hl 0 rfl) ?_
                                  refine lv_iconst (v := (2 : Int32)) hx hb d_M_residue_521 (by decide) ?_
                                  refine gw_goi (gw_runV (As := [.int p1, .int (A_21 (K 52) p4.toNatClampNeg), .ref (K 56), .int r_21, .int (2 : Int32)]) (rest := []) hx hb hml hown htw hK hP hS hl.1 (w_M_keep hlo K p1 (A_21 (K 52) p4.toNatClampNeg) (K 56) (9000) r_21 (2 : Int32) hΜ (gMd_56 hΜ) F_18 A_21 _ h) k_M_keep mm_721 ⟨Nat.le_of_ble_eq_true rfl, Nat.le_of_ble_eq_true rfl⟩ rfl rfl (gMd_0 hΜ) rfl rfl rfl (Nat.le_of_ble_eq_true rfl) d_M_residue_522) hS (fun r_22 F_22 A_22 H locs hw hP hS => ?_)
                                  have h := hw
                                  refine lv_pop hx hb d_M_residue_525 rfl ?_
                                  refine lv_goto (tgt := 549) hx hb d_M_residue_526 (by decide) ?_
                                  refine lv_aload_n hx hb d_M_residue_549 rfl (lv_at hl 2 rfl) ?_
                                  refine gs_get (v := .ref (K 52)) hx hb htw i_M hown hK hP (gMd_0 hΜ) rfl 4 (by decide) (htw _ mm_646) rfl d_M_residue_550 ?_
                                  refine lv_iload_n hx hb d_M_residue_553 rfl (lv_at hl 3 rfl) ?_
                                  obtain ⟨hin, h⟩ := h
                                  refine gs_ild hx hb hK hP (gMd_52 hΜ) hin d_M_residue_554 ?_
                                  rw [← hQe]
                                  exact gw_iret hx hb hr hlocks hP hK hS h d_M_residue_555
                              obtain ⟨J_477, h, hj_477⟩ := h
                              have join_477 : ∀  (H : Heap) (locs : List Loc) (ls : Array Slot), J_477 → va_P D gcls (gs_ws Λ F_18 A_18 L) H → va_S (gw_A Λ) s.heap H locs → lv_has ls 13 [(0, .ref (K 49)), (1, .int p1), (4, .int p4), (6, .int r_8), (8, .int x8_18)] → W p l e rm_M_residue s m args below meth c H locs 0 0 Q (F0 m 477 ls []) := by
                                intro  H locs ls hJ hP hS hl
                                have h := hj_477  hJ
                                refine lv_iconst (v := (0 : Int32)) hx hb d_M_residue_477 (by decide) ?_
                                exact join_478 (0 : Int32) _ _ _ h hP hS hl
                              refine lv_if_le (tgt := 477) hx hb d_M_residue_450 (by decide) (fun c_450 => ?_) (fun c_450 => ?_)
                              · have h := h.1 c_450
                                exact join_477 _ _ _ h hP hS (lv_sub hl [0, 1, 2, 4, 6] rfl)
                              · have h := h.2 c_450
                                refine lv_iload hx hb d_M_residue_453 (lv_at hl 7 rfl) ?_
                                refine lv_aload_n hx hb d_M_residue_455 rfl (lv_at hl 0 rfl) ?_
                                refine gs_get (v := .ref (K 52)) hx hb htw i_M hown hK hP (gMd_0 hΜ) rfl 4 (by decide) (htw _ mm_646) rfl d_M_residue_456 ?_
                                refine lv_iload hx hb d_M_residue_459 (lv_at hl 2 rfl) ?_
                                obtain ⟨hin, h⟩ := h
                                refine gs_ild hx hb hK hP (gMd_52 hΜ) hin d_M_residue_461 ?_
                                obtain ⟨J_470, h, hj_470⟩ := h
                                have join_470 : ∀ (v0_24 : Int32) (H : Heap) (locs : List Loc) (ls : Array Slot), J_470 v0_24 → va_P D gcls (gs_ws Λ F_18 A_18 L) H → va_S (gw_A Λ) s.heap H locs → lv_has ls 13 [(0, .ref (K 49)), (1, .int p1), (4, .int p4), (6, .int r_8), (8, .int x8_18)] → W p l e rm_M_residue s m args below meth c H locs 0 0 Q (F0 m 470 ls [.int v0_24, .int v0_11]) := by
                                  intro v0_24 H locs ls hJ hP hS hl
                                  have h := hj_470 v0_24 hJ
                                  refine lv_icmp_eq (tgt := 477) hx hb d_M_residue_470 (by decide) (fun c_470 => ?_) (fun c_470 => ?_)
                                  · have h := h.1 c_470
                                    exact join_477 _ _ _ h hP hS hl
                                  · have h := h.2 c_470
                                    refine lv_iconst (v := (1 : Int32)) hx hb d_M_residue_473 (by decide) ?_
                                    refine lv_goto (tgt := 478) hx hb d_M_residue_474 (by decide) ?_
                                    exact join_478 (1 : Int32) _ _ _ h hP hS hl
                                refine lv_if_ge (tgt := 469) hx hb d_M_residue_462 (by decide) (fun c_462 => ?_) (fun c_462 => ?_)
                                · have h := h.1 c_462
                                  refine lv_iconst (v := (0 : Int32)) hx hb d_M_residue_469 (by decide) ?_
                                  exact join_470 (0 : Int32) _ _ _ h hP hS (lv_sub hl [0, 1, 2, 4, 6] rfl)
                                · have h := h.2 c_462
                                  refine lv_iconst (v := (1 : Int32)) hx hb d_M_residue_465 (by decide) ?_
                                  refine lv_goto (tgt := 470) hx hb d_M_residue_466 (by decide) ?_
                                  exact join_470 (1 : Int32) _ _ _ h hP hS (lv_sub hl [0, 1, 2, 4, 6] rfl)
                            · have h := h.2 c_276
                              refine lv_aload_n hx hb d_M_residue_279 rfl (lv_at hl 0 rfl) ?_
                              refine gs_get (v := .ref (K 57)) hx hb htw i_M hown hK hP (gMd_0 hΜ) rfl 9 (by decide) (htw _ mm_651) rfl d_M_residue_280 ?_
                              refine lv_iload hx hb d_M_residue_283 (lv_at hl 6 rfl) ?_
                              refine lv_aload_n hx hb d_M_residue_285 rfl (lv_at hl 0 rfl) ?_
                              refine gs_get (v := .ref (K 57)) hx hb htw i_M hown hK hP (gMd_0 hΜ) rfl 9 (by decide) (htw _ mm_651) rfl d_M_residue_286 ?_
                              refine lv_iload hx hb d_M_residue_289 (lv_at hl 6 rfl) ?_
                              refine lv_aload_n hx hb d_M_residue_291 rfl (lv_at hl 0 rfl) ?_
                              refine gs_get (v := .ref (K 54)) hx hb htw i_M hown hK hP (gMd_0 hΜ) rfl 6 (by decide) (htw _ mm_648) rfl d_M_residue_292 ?_
                              refine gw_goi (gw_runS (As := [.ref (K 57), .int x8_18, .ref (K 57), .int x8_18, .ref (K 54)]) (rest := []) hx hb hml hown htw hK hP hS hl.1 (w_M_times hlo (K 57) (9000) x8_18 (K 57) (9000) x8_18 (K 54) (9000) (gMd_57 hΜ) (gMd_57 hΜ) (gMd_54 hΜ) F_18 A_18 _ h) k_M_times mm_755 ⟨Nat.le_of_ble_eq_true rfl, Nat.le_of_ble_eq_true rfl⟩ rfl rfl rfl rfl (Nat.le_of_ble_eq_true rfl) d_M_residue_295) hS (fun r_25 F_25 A_25 H locs hw hP hS => ?_)
                              obtain ⟨rfl, hw⟩ := hw
                              have h := hw
                              refine lv_istore (lv' := [(8, .int r_25), (0, .ref (K 49)), (1, .int p1), (4, .int p4), (5, .int r_7), (6, .int r_8), (7, .int r_13), (10, .int v0_11), (11, .int x11_18)]) hx hb d_M_residue_298 hl (by decide) rfl (fun ls hl => ?_)
                              refine lv_aload_n hx hb d_M_residue_300 rfl (lv_at hl 1 rfl) ?_
                              refine lv_aload_n hx hb d_M_residue_301 rfl (lv_at hl 1 rfl) ?_
                              refine gs_get (v := .ref (K 54)) hx hb htw i_M hown hK hP (gMd_0 hΜ) rfl 6 (by decide) (htw _ mm_648) rfl d_M_residue_302 ?_
                              refine lv_iload hx hb d_M_residue_305 (lv_at hl 0 rfl) ?_
                              refine lv_aload_n hx hb d_M_residue_307 rfl (lv_at hl 1 rfl) ?_
                              refine gs_get (v := .ref (K 58)) hx hb htw i_M hown hK hP (gMd_0 hΜ) rfl 10 (by decide) (htw _ mm_652) rfl d_M_residue_308 ?_
                              refine lv_iload hx hb d_M_residue_311 (lv_at hl 5 rfl) ?_
                              refine lv_aload_n hx hb d_M_residue_313 rfl (lv_at hl 1 rfl) ?_
                              refine gs_get (v := .ref (K 56)) hx hb htw i_M hown hK hP (gMd_0 hΜ) rfl 8 (by decide) (htw _ mm_650) rfl d_M_residue_314 ?_
                              refine gw_goi (gw_runV (As := [.ref (K 54), .int r_25, .ref (K 58), .int r_8, .ref (K 56)]) (rest := []) hx hb hml hown htw hK hP hS hl.1 (w_M_divided hlo K (K 54) (9000) r_25 (K 58) (9000) r_8 (K 56) (9000) hΜ (gMd_54 hΜ) (gMd_58 hΜ) (gMd_56 hΜ) F_18 A_25 _ h) k_M_divided mm_772 ⟨Nat.le_of_ble_eq_true rfl, Nat.le_of_ble_eq_true rfl⟩ rfl rfl (gMd_0 hΜ) rfl rfl rfl (Nat.le_of_ble_eq_true rfl) d_M_residue_317) hS (fun r_26 F_26 A_26 H locs hw hP hS => ?_)
                              have h := hw
                              refine lv_istore (lv' := [(8, .int r_26), (0, .ref (K 49)), (1, .int p1), (4, .int p4), (5, .int r_7), (6, .int r_8), (7, .int r_13), (10, .int v0_11), (11, .int x11_18)]) hx hb d_M_residue_320 hl (by decide) rfl (fun ls hl => ?_)
                              refine lv_iconst (v := (0 : Int32)) hx hb d_M_residue_322 (by decide) ?_
                              refine lv_istore (lv' := [(12, .int (0 : Int32)), (8, .int r_26), (0, .ref (K 49)), (1, .int p1), (4, .int p4), (5, .int r_7), (6, .int r_8), (7, .int r_13), (10, .int v0_11), (11, .int x11_18)]) hx hb d_M_residue_323 hl (by decide) rfl (fun ls hl => ?_)
                              obtain ⟨I_325, μ_325, h0_325, hs_325⟩ := h
                              have loop_325 : ∀ (N : Nat) (x12_27 : Int32) (A_27 : gm_M) (H : Heap) (locs : List Loc) (ls : Array Slot), μ_325 x12_27 A_27 < N → I_325 x12_27 A_27 → va_P D gcls (gs_ws Λ F_26 A_27 L) H → va_S (gw_A Λ) s.heap H locs → lv_has ls 13 [(0, .ref (K 49)), (1, .int p1), (4, .int p4), (5, .int r_7), (6, .int r_8), (7, .int r_13), (8, .int r_26), (10, .int v0_11), (11, .int x11_18), (12, .int x12_27)] → W p l e rm_M_residue s m args below meth c H locs 0 0 Q (F0 m 325 ls []) := by
                                intro N
                                induction N with
                                | zero => intro x12_27 A_27 H locs ls hμ; exact absurd hμ (Nat.not_lt_zero _)
                                | succ N ih_325 =>
                                  intro x12_27 A_27 H locs ls hμ_325 hI hP hS hl
                                  have h := hs_325 x12_27 A_27 hI
                                  refine lv_iload hx hb d_M_residue_325 (lv_at hl 9 rfl) ?_
                                  refine lv_iload hx hb d_M_residue_327 (lv_at hl 6 rfl) ?_
                                  refine lv_icmp_ge (tgt := 352) hx hb d_M_residue_329 (by decide) (fun c_329 => ?_) (fun c_329 => ?_)
                                  · have h := h.1 c_329
                                    refine lv_aload_n hx hb d_M_residue_352 rfl (lv_at hl 0 rfl) ?_
                                    refine gs_get (v := .ref (K 61)) hx hb htw i_M hown hK hP (gMd_0 hΜ) rfl 14 (by decide) (htw _ mm_656) rfl d_M_residue_353 ?_
                                    refine lv_iload hx hb d_M_residue_356 (lv_at hl 3 rfl) ?_
                                    refine lv_iload hx hb d_M_residue_358 (lv_at hl 8 rfl) ?_
                                    refine gw_goi (gw_runS (As := [.ref (K 61), .int r_7, .int x11_18]) (rest := []) hx hb hml hown htw hK hP hS hl.1 (w_M_isBit hlo (K 61) (129) r_7 x11_18 (gMd_61 hΜ) F_26 A_27 _ h) k_M_isBit mm_784 ⟨Nat.le_of_ble_eq_true rfl, Nat.le_of_ble_eq_true rfl⟩ rfl rfl rfl rfl (Nat.le_of_ble_eq_true rfl) d_M_residue_360) hS (fun r_28 F_28 A_28 H locs hw hP hS => ?_)
                                    obtain ⟨rfl, hw⟩ := hw
                                    obtain ⟨rfl, hw⟩ := hw
                                    have h := hw
                                    refine lv_if_ne (tgt := 369) hx hb d_M_residue_363 (by decide) (fun c_363 => ?_) (fun c_363 => ?_)
                                    · have h := h.1 c_363
                                      refine lv_aload_n hx hb d_M_residue_369 rfl (lv_at hl 0 rfl) ?_
                                      refine gs_get (v := .ref (K 57)) hx hb htw i_M hown hK hP (gMd_0 hΜ) rfl 9 (by decide) (htw _ mm_651) rfl d_M_residue_370 ?_
                                      refine lv_iload hx hb d_M_residue_373 (lv_at hl 6 rfl) ?_
                                      refine lv_aload_n hx hb d_M_residue_375 rfl (lv_at hl 0 rfl) ?_
                                      refine gs_get (v := .ref (K 62)) hx hb htw i_M hown hK hP (gMd_0 hΜ) rfl 15 (by decide) (htw _ mm_657) rfl d_M_residue_376 ?_
                                      refine lv_iload hx hb d_M_residue_379 (lv_at hl 5 rfl) ?_
                                      refine lv_aload_n hx hb d_M_residue_381 rfl (lv_at hl 0 rfl) ?_
                                      refine gs_get (v := .ref (K 54)) hx hb htw i_M hown hK hP (gMd_0 hΜ) rfl 6 (by decide) (htw _ mm_648) rfl d_M_residue_382 ?_
                                      refine gw_goi (gw_runS (As := [.ref (K 57), .int r_26, .ref (K 62), .int r_13, .ref (K 54)]) (rest := []) hx hb hml hown htw hK hP hS hl.1 (w_M_times hlo (K 57) (9000) r_26 (K 62) (129) r_13 (K 54) (9000) (gMd_57 hΜ) (gMd_62 hΜ) (gMd_54 hΜ) F_26 A_27 _ h) k_M_times mm_755 ⟨Nat.le_of_ble_eq_true rfl, Nat.le_of_ble_eq_true rfl⟩ rfl rfl rfl rfl (Nat.le_of_ble_eq_true rfl) d_M_residue_385) hS (fun r_29 F_29 A_29 H locs hw hP hS => ?_)
                                      obtain ⟨rfl, hw⟩ := hw
                                      have h := hw
                                      refine lv_istore (lv' := [(8, .int r_29), (0, .ref (K 49)), (1, .int p1), (4, .int p4), (5, .int r_7), (6, .int r_8), (7, .int r_13), (10, .int v0_11), (11, .int x11_18), (12, .int x12_27)]) hx hb d_M_residue_388 hl (by decide) rfl (fun ls hl => ?_)
                                      refine lv_aload_n hx hb d_M_residue_390 rfl (lv_at hl 1 rfl) ?_
                                      refine lv_aload_n hx hb d_M_residue_391 rfl (lv_at hl 1 rfl) ?_
                                      refine gs_get (v := .ref (K 54)) hx hb htw i_M hown hK hP (gMd_0 hΜ) rfl 6 (by decide) (htw _ mm_648) rfl d_M_residue_392 ?_
                                      refine lv_iload hx hb d_M_residue_395 (lv_at hl 0 rfl) ?_
                                      refine lv_aload_n hx hb d_M_residue_397 rfl (lv_at hl 1 rfl) ?_
                                      refine gs_get (v := .ref (K 58)) hx hb htw i_M hown hK hP (gMd_0 hΜ) rfl 10 (by decide) (htw _ mm_652) rfl d_M_residue_398 ?_
                                      refine lv_iload hx hb d_M_residue_401 (lv_at hl 5 rfl) ?_
                                      refine lv_aload_n hx hb d_M_residue_403 rfl (lv_at hl 1 rfl) ?_
                                      refine gs_get (v := .ref (K 56)) hx hb htw i_M hown hK hP (gMd_0 hΜ) rfl 8 (by decide) (htw _ mm_650) rfl d_M_residue_404 ?_
                                      refine gw_goi (gw_runV (As := [.ref (K 54), .int r_29, .ref (K 58), .int r_8, .ref (K 56)]) (rest := []) hx hb hml hown htw hK hP hS hl.1 (w_M_divided hlo K (K 54) (9000) r_29 (K 58) (9000) r_8 (K 56) (9000) hΜ (gMd_54 hΜ) (gMd_58 hΜ) (gMd_56 hΜ) F_26 A_29 _ h) k_M_divided mm_772 ⟨Nat.le_of_ble_eq_true rfl, Nat.le_of_ble_eq_true rfl⟩ rfl rfl (gMd_0 hΜ) rfl rfl rfl (Nat.le_of_ble_eq_true rfl) d_M_residue_407) hS (fun r_30 F_30 A_30 H locs hw hP hS => ?_)
                                      have h := hw
                                      refine lv_istore (lv' := [(8, .int r_30), (0, .ref (K 49)), (1, .int p1), (4, .int p4), (5, .int r_7), (6, .int r_8), (7, .int r_13), (10, .int v0_11), (11, .int x11_18), (12, .int x12_27)]) hx hb d_M_residue_410 hl (by decide) rfl (fun ls hl => ?_)
                                      refine lv_iconst (v := (0 : Int32)) hx hb d_M_residue_412 (by decide) ?_
                                      refine lv_istore (lv' := [(12, .int (0 : Int32)), (8, .int r_30), (0, .ref (K 49)), (1, .int p1), (4, .int p4), (5, .int r_7), (6, .int r_8), (7, .int r_13), (10, .int v0_11), (11, .int x11_18)]) hx hb d_M_residue_413 hl (by decide) rfl (fun ls hl => ?_)
                                      obtain ⟨I_415, μ_415, h0_415, hs_415⟩ := h
                                      have loop_415 : ∀ (N : Nat) (x12_31 : Int32) (A_31 : gm_M) (H : Heap) (locs : List Loc) (ls : Array Slot), μ_415 x12_31 A_31 < N → I_415 x12_31 A_31 → va_P D gcls (gs_ws Λ F_30 A_31 L) H → va_S (gw_A Λ) s.heap H locs → lv_has ls 13 [(0, .ref (K 49)), (1, .int p1), (4, .int p4), (5, .int r_7), (6, .int r_8), (7, .int r_13), (8, .int r_30), (10, .int v0_11), (11, .int x11_18), (12, .int x12_31)] → W p l e rm_M_residue s m args below meth c H locs 0 0 Q (F0 m 415 ls []) := by
                                        intro N
                                        induction N with
                                        | zero => intro x12_31 A_31 H locs ls hμ; exact absurd hμ (Nat.not_lt_zero _)
                                        | succ N ih_415 =>
                                          intro x12_31 A_31 H locs ls hμ_415 hI hP hS hl
                                          have h := hs_415 x12_31 A_31 hI
                                          refine lv_iload hx hb d_M_residue_415 (lv_at hl 9 rfl) ?_
                                          refine lv_iload hx hb d_M_residue_417 (lv_at hl 6 rfl) ?_
                                          refine lv_icmp_ge (tgt := 442) hx hb d_M_residue_419 (by decide) (fun c_419 => ?_) (fun c_419 => ?_)
                                          · have h := h.1 c_419
                                            obtain ⟨x11_32, ex11_32⟩ : ∃ y : Int32, y = x11_18 + (-1 : Int32) := ⟨_, rfl⟩
                                            have h := h x11_32 ex11_32
                                            refine lv_iinc (v := x11_32) (lv' := [(11, .int x11_32), (0, .ref (K 49)), (1, .int p1), (4, .int p4), (5, .int r_7), (6, .int r_8), (7, .int r_13), (8, .int r_30), (10, .int v0_11), (12, .int x12_31)]) hx hb d_M_residue_442 hl (k := 8) rfl (by rw [ex11_32]; rfl) (by decide) rfl (fun ls hl => ?_)
                                            refine lv_goto (tgt := 274) hx hb d_M_residue_445 (by decide) ?_
                                            exact ih_274 r_30 x11_32 F_30 A_31 _ _ _ (Nat.lt_of_lt_of_le h.2 (Nat.le_of_lt_succ hμ_274)) h.1 hP hS (lv_sub hl [1, 2, 3, 4, 5, 6, 7, 8, 0] rfl)
                                          · have h := h.2 c_419
                                            refine lv_aload_n hx hb d_M_residue_422 rfl (lv_at hl 0 rfl) ?_
                                            refine gs_get (v := .ref (K 57)) hx hb htw i_M hown hK hP (gMd_0 hΜ) rfl 9 (by decide) (htw _ mm_651) rfl d_M_residue_423 ?_
                                            refine lv_iload hx hb d_M_residue_426 (lv_at hl 9 rfl) ?_
                                            refine lv_aload_n hx hb d_M_residue_428 rfl (lv_at hl 0 rfl) ?_
                                            refine gs_get (v := .ref (K 54)) hx hb htw i_M hown hK hP (gMd_0 hΜ) rfl 6 (by decide) (htw _ mm_648) rfl d_M_residue_429 ?_
                                            refine lv_iload hx hb d_M_residue_432 (lv_at hl 9 rfl) ?_
                                            obtain ⟨hin, h⟩ := h
                                            refine gs_ild hx hb hK hP (gMd_54 hΜ) hin d_M_residue_434 ?_
                                            obtain ⟨hin, h⟩ := h
                                            refine gs_ist hx hb hK hlo hP hS (gMd_57 hΜ) hin d_M_residue_435 (fun A_33 eA_33 H locs hP hS => ?_)
                                            have h := h A_33 eA_33
                                            obtain ⟨x12_34, ex12_34⟩ : ∃ y : Int32, y = x12_31 + (1 : Int32) := ⟨_, rfl⟩
                                            have h := h x12_34 ex12_34
                                            refine lv_iinc (v := x12_34) (lv' := [(12, .int x12_34), (0, .ref (K 49)), (1, .int p1), (4, .int p4), (5, .int r_7), (6, .int r_8), (7, .int r_13), (8, .int r_30), (10, .int v0_11), (11, .int x11_18)]) hx hb d_M_residue_436 hl (k := 9) rfl (by rw [ex12_34]; rfl) (by decide) rfl (fun ls hl => ?_)
                                            refine lv_goto (tgt := 415) hx hb d_M_residue_439 (by decide) ?_
                                            exact ih_415 x12_34 A_33 _ _ _ (Nat.lt_of_lt_of_le h.2 (Nat.le_of_lt_succ hμ_415)) h.1 hP hS (lv_sub hl [1, 2, 3, 4, 5, 6, 7, 8, 9, 0] rfl)
                                      exact loop_415 (μ_415 (0 : Int32) A_30 + 1) (0 : Int32) A_30 _ _ _ (Nat.lt_succ_self _) h0_415 hP hS (lv_sub hl [2, 3, 4, 5, 6, 7, 1, 8, 9, 0] rfl)
                                    · have h := h.2 c_363
                                      refine lv_goto (tgt := 442) hx hb d_M_residue_366 (by decide) ?_
                                      obtain ⟨x11_35, ex11_35⟩ : ∃ y : Int32, y = x11_18 + (-1 : Int32) := ⟨_, rfl⟩
                                      have h := h x11_35 ex11_35
                                      refine lv_iinc (v := x11_35) (lv' := [(11, .int x11_35), (0, .ref (K 49)), (1, .int p1), (4, .int p4), (5, .int r_7), (6, .int r_8), (7, .int r_13), (8, .int r_26), (10, .int v0_11), (12, .int x12_27)]) hx hb d_M_residue_442 hl (k := 8) rfl (by rw [ex11_35]; rfl) (by decide) rfl (fun ls hl => ?_)
                                      refine lv_goto (tgt := 274) hx hb d_M_residue_445 (by decide) ?_
                                      exact ih_274 r_26 x11_35 F_26 A_27 _ _ _ (Nat.lt_of_lt_of_le h.2 (Nat.le_of_lt_succ hμ_274)) h.1 hP hS (lv_sub hl [1, 2, 3, 4, 5, 6, 7, 8, 0] rfl)
                                  · have h := h.2 c_329
                                    refine lv_aload_n hx hb d_M_residue_332 rfl (lv_at hl 0 rfl) ?_
                                    refine gs_get (v := .ref (K 57)) hx hb htw i_M hown hK hP (gMd_0 hΜ) rfl 9 (by decide) (htw _ mm_651) rfl d_M_residue_333 ?_
                                    refine lv_iload hx hb d_M_residue_336 (lv_at hl 9 rfl) ?_
                                    refine lv_aload_n hx hb d_M_residue_338 rfl (lv_at hl 0 rfl) ?_
                                    refine gs_get (v := .ref (K 54)) hx hb htw i_M hown hK hP (gMd_0 hΜ) rfl 6 (by decide) (htw _ mm_648) rfl d_M_residue_339 ?_
                                    refine lv_iload hx hb d_M_residue_342 (lv_at hl 9 rfl) ?_
                                    obtain ⟨hin, h⟩ := h
                                    refine gs_ild hx hb hK hP (gMd_54 hΜ) hin d_M_residue_344 ?_
                                    obtain ⟨hin, h⟩ := h
                                    refine gs_ist hx hb hK hlo hP hS (gMd_57 hΜ) hin d_M_residue_345 (fun A_36 eA_36 H locs hP hS => ?_)
                                    have h := h A_36 eA_36
                                    obtain ⟨x12_37, ex12_37⟩ : ∃ y : Int32, y = x12_27 + (1 : Int32) := ⟨_, rfl⟩
                                    have h := h x12_37 ex12_37
                                    refine lv_iinc (v := x12_37) (lv' := [(12, .int x12_37), (0, .ref (K 49)), (1, .int p1), (4, .int p4), (5, .int r_7), (6, .int r_8), (7, .int r_13), (8, .int r_26), (10, .int v0_11), (11, .int x11_18)]) hx hb d_M_residue_346 hl (k := 9) rfl (by rw [ex12_37]; rfl) (by decide) rfl (fun ls hl => ?_)
                                    refine lv_goto (tgt := 325) hx hb d_M_residue_349 (by decide) ?_
                                    exact ih_325 x12_37 A_36 _ _ _ (Nat.lt_of_lt_of_le h.2 (Nat.le_of_lt_succ hμ_325)) h.1 hP hS (lv_sub hl [1, 2, 3, 4, 5, 6, 7, 8, 9, 0] rfl)
                              exact loop_325 (μ_325 (0 : Int32) A_26 + 1) (0 : Int32) A_26 _ _ _ (Nat.lt_succ_self _) h0_325 hP hS (lv_sub hl [2, 3, 4, 5, 6, 7, 1, 8, 9, 0] rfl)
                        exact loop_274 (μ_274 r_16 x11_17 F_16 A_16 + 1) r_16 x11_17 F_16 A_16 _ _ _ (Nat.lt_succ_self _) h0_274 hP hS (lv_sub hl [2, 3, 4, 5, 6, 7, 1, 9, 0] rfl)
                      · have h := h.2 c_217
                        refine lv_aload_n hx hb d_M_residue_220 rfl (lv_at hl 0 rfl) ?_
                        refine gs_get (v := .ref (K 62)) hx hb htw i_M hown hK hP (gMd_0 hΜ) rfl 15 (by decide) (htw _ mm_657) rfl d_M_residue_221 ?_
                        refine lv_iload hx hb d_M_residue_224 (lv_at hl 8 rfl) ?_
                        refine lv_aload_n hx hb d_M_residue_226 rfl (lv_at hl 0 rfl) ?_
                        refine gs_get (v := .ref (K 54)) hx hb htw i_M hown hK hP (gMd_0 hΜ) rfl 6 (by decide) (htw _ mm_648) rfl d_M_residue_227 ?_
                        refine lv_iload hx hb d_M_residue_230 (lv_at hl 8 rfl) ?_
                        obtain ⟨hin, h⟩ := h
                        refine gs_ild hx hb hK hP (gMd_54 hΜ) hin d_M_residue_232 ?_
                        obtain ⟨hin, h⟩ := h
                        refine gs_ist hx hb hK hlo hP hS (gMd_62 hΜ) hin d_M_residue_233 (fun A_38 eA_38 H locs hP hS => ?_)
                        have h := h A_38 eA_38
                        obtain ⟨x11_39, ex11_39⟩ : ∃ y : Int32, y = x11_14 + (1 : Int32) := ⟨_, rfl⟩
                        have h := h x11_39 ex11_39
                        refine lv_iinc (v := x11_39) (lv' := [(11, .int x11_39), (0, .ref (K 49)), (1, .int p1), (4, .int p4), (5, .int r_7), (6, .int r_8), (7, .int r_13), (9, .int r_10), (10, .int v0_11)]) hx hb d_M_residue_234 hl (k := 8) rfl (by rw [ex11_39]; rfl) (by decide) rfl (fun ls hl => ?_)
                        refine lv_goto (tgt := 213) hx hb d_M_residue_237 (by decide) ?_
                        exact ih_213 x11_39 A_38 _ _ _ (Nat.lt_of_lt_of_le h.2 (Nat.le_of_lt_succ hμ_213)) h.1 hP hS (lv_sub hl [1, 2, 3, 4, 5, 6, 7, 8, 0] rfl)
                  exact loop_213 (μ_213 (0 : Int32) A_13 + 1) (0 : Int32) A_13 _ _ _ (Nat.lt_succ_self _) h0_213 hP hS (lv_sub hl [2, 3, 4, 5, 6, 1, 7, 8, 0] rfl)
                · have h := h.2 c_165
                  refine lv_aload_n hx hb d_M_residue_168 rfl (lv_at hl 0 rfl) ?_
                  refine gs_get (v := .ref (K 61)) hx hb htw i_M hown hK hP (gMd_0 hΜ) rfl 14 (by decide) (htw _ mm_656) rfl d_M_residue_169 ?_
                  refine lv_iload hx hb d_M_residue_172 (lv_at hl 8 rfl) ?_
                  refine lv_aload_n hx hb d_M_residue_174 rfl (lv_at hl 0 rfl) ?_
                  refine gs_get (v := .ref (K 59)) hx hb htw i_M hown hK hP (gMd_0 hΜ) rfl 11 (by decide) (htw _ mm_653) rfl d_M_residue_175 ?_
                  refine lv_iload hx hb d_M_residue_178 (lv_at hl 8 rfl) ?_
                  obtain ⟨hin, h⟩ := h
                  refine gs_ild hx hb hK hP (gMd_59 hΜ) hin d_M_residue_180 ?_
                  obtain ⟨hin, h⟩ := h
                  refine gs_ist hx hb hK hlo hP hS (gMd_61 hΜ) hin d_M_residue_181 (fun A_40 eA_40 H locs hP hS => ?_)
                  have h := h A_40 eA_40
                  obtain ⟨x11_41, ex11_41⟩ : ∃ y : Int32, y = x11_12 + (1 : Int32) := ⟨_, rfl⟩
                  have h := h x11_41 ex11_41
                  refine lv_iinc (v := x11_41) (lv' := [(11, .int x11_41), (0, .ref (K 49)), (1, .int p1), (4, .int p4), (5, .int r_7), (6, .int r_8), (7, .int r_9), (9, .int r_10), (10, .int v0_11)]) hx hb d_M_residue_182 hl (k := 8) rfl (by rw [ex11_41]; rfl) (by decide) rfl (fun ls hl => ?_)
                  refine lv_goto (tgt := 161) hx hb d_M_residue_185 (by decide) ?_
                  exact ih_161 x11_41 A_40 _ _ _ (Nat.lt_of_lt_of_le h.2 (Nat.le_of_lt_succ hμ_161)) h.1 hP hS (lv_sub hl [1, 2, 3, 4, 5, 6, 7, 8, 0] rfl)
            exact loop_161 (μ_161 (0 : Int32) A_9 + 1) (0 : Int32) A_9 _ _ _ (Nat.lt_succ_self _) h0_161 hP hS (lv_sub hl [2, 3, 4, 5, 6, 7, 8, 1, 0] rfl)
          obtain ⟨J_155, h, hj_155⟩ := h
          have join_155 : ∀  (H : Heap) (locs : List Loc) (ls : Array Slot), J_155 → va_P D gcls (gs_ws Λ F_6 A_9 L) H → va_S (gw_A Λ) s.heap H locs → lv_has ls 13 [(0, .ref (K 49)), (1, .int p1), (4, .int p4), (5, .int r_7), (6, .int r_8), (7, .int r_9), (9, .int r_10)] → W p l e rm_M_residue s m args below meth c H locs 0 0 Q (F0 m 155 ls []) := by
            intro  H locs ls hJ hP hS hl
            have h := hj_155  hJ
            refine lv_iconst (v := (0 : Int32)) hx hb d_M_residue_155 (by decide) ?_
            exact join_156 (0 : Int32) _ _ _ h hP hS hl
          refine lv_if_ge (tgt := 155) hx hb d_M_residue_135 (by decide) (fun c_135 => ?_) (fun c_135 => ?_)
          · have h := h.1 c_135
            exact join_155 _ _ _ h hP hS (lv_sub hl [5, 6, 9, 4, 3, 2, 0] rfl)
          · have h := h.2 c_135
            refine lv_aload_n hx hb d_M_residue_138 rfl (lv_at hl 5 rfl) ?_
            refine gs_get (v := .ref (K 59)) hx hb htw i_M hown hK hP (gMd_0 hΜ) rfl 11 (by decide) (htw _ mm_653) rfl d_M_residue_139 ?_
            refine lv_iload hx hb d_M_residue_142 (lv_at hl 4 rfl) ?_
            refine lv_iconst (v := (0 : Int32)) hx hb d_M_residue_144 (by decide) ?_
            refine gw_goi (gw_runS (As := [.ref (K 59), .int r_7, .int (0 : Int32)]) (rest := []) hx hb hml hown htw hK hP hS hl.1 (w_M_isBit hlo (K 59) (9000) r_7 (0 : Int32) (gMd_59 hΜ) F_6 A_9 _ h) k_M_isBit mm_784 ⟨Nat.le_of_ble_eq_true rfl, Nat.le_of_ble_eq_true rfl⟩ rfl rfl rfl rfl (Nat.le_of_ble_eq_true rfl) d_M_residue_145) hS (fun r_43 F_43 A_43 H locs hw hP hS => ?_)
            obtain ⟨rfl, hw⟩ := hw
            obtain ⟨rfl, hw⟩ := hw
            have h := hw
            refine lv_if_eq (tgt := 155) hx hb d_M_residue_148 (by decide) (fun c_148 => ?_) (fun c_148 => ?_)
            · have h := h.1 c_148
              exact join_155 _ _ _ h hP hS (lv_sub hl [5, 6, 9, 4, 3, 2, 0] rfl)
            · have h := h.2 c_148
              refine lv_iconst (v := (1 : Int32)) hx hb d_M_residue_151 (by decide) ?_
              refine lv_goto (tgt := 156) hx hb d_M_residue_152 (by decide) ?_
              exact join_156 (1 : Int32) _ _ _ h hP hS (lv_sub hl [5, 6, 9, 4, 3, 2, 0] rfl)
        · have h := h.2 c_76
          refine lv_iconst (v := (0 : Int32)) hx hb d_M_residue_79 (by decide) ?_
          rw [← hQe]
          exact gw_iret hx hb hr hlocks hP hK hS h d_M_residue_80
      refine lv_if_ne (tgt := 71) hx hb d_M_residue_64 (by decide) (fun c_64 => ?_) (fun c_64 => ?_)
      · have h := h.1 c_64
        refine lv_iconst (v := (0 : Int32)) hx hb d_M_residue_71 (by decide) ?_
        exact join_72 (0 : Int32) _ _ _ h hP hS hl
      · have h := h.2 c_64
        refine lv_iconst (v := (1 : Int32)) hx hb d_M_residue_67 (by decide) ?_
        refine lv_goto (tgt := 72) hx hb d_M_residue_68 (by decide) ?_
        exact join_72 (1 : Int32) _ _ _ h hP hS hl
  obtain ⟨J_44, h, hj_44⟩ := h
  have join_44 : ∀  (H : Heap) (locs : List Loc) (ls : Array Slot), J_44 → va_P D gcls (gs_ws Λ F_1 A L) H → va_S (gw_A Λ) s.heap H locs → lv_has ls 13 [(0, .ref (K 49)), (1, .int p1), (2, .int p2), (3, .int p3), (4, .int p4)] → W p l e rm_M_residue s m args below meth c H locs 0 0 Q (F0 m 44 ls [.ref (K 49)]) := by
    intro  H locs ls hJ hP hS hl
    have h := hj_44  hJ
    refine lv_iconst (v := (1 : Int32)) hx hb d_M_residue_44 (by decide) ?_
    refine lv_goto (tgt := 49) hx hb d_M_residue_45 (by decide) ?_
    exact join_49 (1 : Int32) _ _ _ h hP hS hl
  refine lv_if_eq (tgt := 44) hx hb d_M_residue_10 (by decide) (fun c_10 => ?_) (fun c_10 => ?_)
  · have h := h.1 c_10
    exact join_44 _ _ _ h hP hS hl
  · have h := h.2 c_10
    refine lv_iload_n hx hb d_M_residue_13 rfl (lv_at hl 2 rfl) ?_
    refine gw_goi (gw_runS (As := [.int p2]) (rest := [.ref (K 49)]) hx hb hml hown htw hK hP hS hl.1 (w_M_isRegister hlo p2 F_1 A _ h) k_M_isRegister mm_699 ⟨Nat.le_of_ble_eq_true rfl, Nat.le_of_ble_eq_true rfl⟩ rfl rfl rfl rfl (Nat.le_of_ble_eq_true rfl) d_M_residue_14) hS (fun r_45 F_45 A_45 H locs hw hP hS => ?_)
    obtain ⟨rfl, hw⟩ := hw
    obtain ⟨rfl, hw⟩ := hw
    have h := hw
    refine lv_if_eq (tgt := 44) hx hb d_M_residue_17 (by decide) (fun c_17 => ?_) (fun c_17 => ?_)
    · have h := h.1 c_17
      exact join_44 _ _ _ h hP hS hl
    · have h := h.2 c_17
      refine lv_iload_n hx hb d_M_residue_20 rfl (lv_at hl 3 rfl) ?_
      refine gw_goi (gw_runS (As := [.int p3]) (rest := [.ref (K 49)]) hx hb hml hown htw hK hP hS hl.1 (w_M_isRegister hlo p3 F_1 A _ h) k_M_isRegister mm_699 ⟨Nat.le_of_ble_eq_true rfl, Nat.le_of_ble_eq_true rfl⟩ rfl rfl rfl rfl (Nat.le_of_ble_eq_true rfl) d_M_residue_21) hS (fun r_46 F_46 A_46 H locs hw hP hS => ?_)
      obtain ⟨rfl, hw⟩ := hw
      obtain ⟨rfl, hw⟩ := hw
      have h := hw
      refine lv_if_eq (tgt := 44) hx hb d_M_residue_24 (by decide) (fun c_24 => ?_) (fun c_24 => ?_)
      · have h := h.1 c_24
        exact join_44 _ _ _ h hP hS hl
      · have h := h.2 c_24
        refine lv_iload hx hb d_M_residue_27 (lv_at hl 4 rfl) ?_
        refine gw_goi (gw_runS (As := [.int p4]) (rest := [.ref (K 49)]) hx hb hml hown htw hK hP hS hl.1 (w_M_isRegister hlo p4 F_1 A _ h) k_M_isRegister mm_699 ⟨Nat.le_of_ble_eq_true rfl, Nat.le_of_ble_eq_true rfl⟩ rfl rfl rfl rfl (Nat.le_of_ble_eq_true rfl) d_M_residue_29) hS (fun r_47 F_47 A_47 H locs hw hP hS => ?_)
        obtain ⟨rfl, hw⟩ := hw
        obtain ⟨rfl, hw⟩ := hw
        have h := hw
        refine lv_if_eq (tgt := 44) hx hb d_M_residue_32 (by decide) (fun c_32 => ?_) (fun c_32 => ?_)
        · have h := h.1 c_32
          exact join_44 _ _ _ h hP hS hl
        · have h := h.2 c_32
          refine lv_aload_n hx hb d_M_residue_35 rfl (lv_at hl 0 rfl) ?_
          refine gs_get (v := .ref (K 52)) hx hb htw i_M hown hK hP (gMd_0 hΜ) rfl 4 (by decide) (htw _ mm_646) rfl d_M_residue_36 ?_
          refine lv_iload_n hx hb d_M_residue_39 rfl (lv_at hl 3 rfl) ?_
          obtain ⟨hin, h⟩ := h
          refine gs_ild hx hb hK hP (gMd_52 hΜ) hin d_M_residue_40 ?_
          refine lv_if_ge (tgt := 48) hx hb d_M_residue_41 (by decide) (fun c_41 => ?_) (fun c_41 => ?_)
          · have h := h.1 c_41
            refine lv_iconst (v := (0 : Int32)) hx hb d_M_residue_48 (by decide) ?_
            exact join_49 (0 : Int32) _ _ _ h hP hS hl
          · have h := h.2 c_41
            exact join_44 _ _ _ h hP hS hl
