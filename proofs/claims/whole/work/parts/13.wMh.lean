variable {l : Launch} {D : va_G} {cI cB cJ cW : ClassId} {Λ : gs_L} {L : Nat → Nat → Int64}
abbrev rm_M_bits2 : Room := { frames := 2, cells := 0, slots := 0, locals := 50 }
set_option maxHeartbeats 4000000 in
set_option maxRecDepth 100000 in
theorem w_M_bits2 (hlo : gs_D Λ) (K : Nat → Nat) (p1 : Int32) (p2 : Int32) (p3 : Int32) (p4 : Int32) (hΜ : gMd cI Λ K) (F A : gm_M) (post : Int32 → gm_M → gm_M → Prop) (h : vc_M_bits2 K p1 p2 p3 p4 F A post) : Met l y_M_bits2 (.code y_M_bits2 b_M_bits2 9 (some .int) :: gw_WS) rm_M_bits2 (va_Pc [.ref (K 49), .int p1, .int p2, .int p3, .int p4] (gw_P D cI cB cJ cW Λ L F A)) (gw_Qi D cI cB cJ cW Λ L (fun r F2 A2 => post r F2 A2)) 0 0 (gw_A Λ) := by
  refine Met.ofW (cc := b_M_bits2) (maxL := 9) (ret := (some .int)) (by decide) rfl ?_
  intro p e s m args below meth c s₁ B hml hv
  obtain ⟨hargs, hP, hK⟩ := hv
  have hx := B.exec
  have hb := B.bytes
  have hr := B.returns
  have hlocks := B.notSynchronized
  have htw : ∀ w ∈ gw_WS, w.before args s = true := fun w h9 => atoms_spec (ws := .code y_M_bits2 b_M_bits2 9 (some .int) :: gw_WS) B.pre w (List.mem_cons_of_mem _ h9)
  have hown : s.vm.findClass R_M = some m.cls := findClass_of_methodNamed B.named
  have hS : va_S (gw_A Λ) s.heap s.heap [] := va_S.rf
  refine W.eq (g2 := entryFrame m ([.ref (K 49), .int p1, .int p2, .int p3, .int p4] : List Value).toArray 9) (by rw [hargs]) ?_
  have hl := lv_entry ([.ref (K 49), .int p1, .int p2, .int p3, .int p4]) (n := 9) (Nat.le_of_ble_eq_true rfl)
  rw [lg_entry_eq]
  generalize (lg_sl ([.ref (K 49), .int p1, .int p2, .int p3, .int p4]) ++ List.replicate (9 - (lg_sl ([.ref (K 49), .int p1, .int p2, .int p3, .int p4])).length) Slot.unset).toArray = ls at hl ⊢
  have hl : lv_has ls 9 [(0, .ref (K 49)), (1, .int p1), (2, .int p2), (3, .int p3), (4, .int p4)] := hl
  generalize hQe : MQ below (gw_Qi D cI cB cJ cW Λ L (fun r F2 A2 => post r F2 A2)) args s 0 0 (gw_A Λ) = Q
  unfold vc_M_bits2 at h
  refine lv_aload_n hx hb d_M_bits2_0 rfl (lv_at hl 0 rfl) ?_
  refine lv_iconst (v := (0 : Int32)) hx hb d_M_bits2_1 (by decide) ?_
  refine gs_put (ty := .int) hx hb htw i_M tf_M tf_M_ok n_M hown hK hlo hP hS (gMd_0 hΜ) rfl 0 (by decide) rfl (htw _ mm_642) rfl (by decide +kernel) rfl rfl d_M_bits2_2 (fun F_1 eF_1 H locs hP hS => ?_)
  have h := h F_1 eF_1
  refine lv_aload_n hx hb d_M_bits2_5 rfl (lv_at hl 0 rfl) ?_
  refine lv_iload_n hx hb d_M_bits2_6 rfl (lv_at hl 1 rfl) ?_
  refine lv_iconst (v := (0 : Int32)) hx hb d_M_bits2_7 (by decide) ?_
  refine lv_iconst (v := (2 : Int32)) hx hb d_M_bits2_8 (by decide) ?_
  refine gw_goi (gw_runS (As := [.int p1, .int (0 : Int32), .int (2 : Int32)]) (rest := [.ref (K 49)]) hx hb hml hown htw hK hP hS hl.1 (w_M_in hlo p1 (0 : Int32) (2 : Int32) F_1 A _ h) k_M_in mm_702 ⟨Nat.le_of_ble_eq_true rfl, Nat.le_of_ble_eq_true rfl⟩ rfl rfl rfl rfl (Nat.le_of_ble_eq_true rfl) d_M_bits2_9) hS (fun r_2 F_2 A_2 H locs hw hP hS => ?_)
  obtain ⟨rfl, hw⟩ := hw
  obtain ⟨rfl, hw⟩ := hw
  have h := hw
  obtain ⟨J_42, h, hj_42⟩ := h
  have join_42 : ∀ (v0_3 : Int32) (H : Heap) (locs : List Loc) (ls : Array Slot), J_42 v0_3 → va_P D gcls (gs_ws Λ F_1 A L) H → va_S (gw_A Λ) s.heap H locs → lv_has ls 9 [(0, .ref (K 49)), (1, .int p1), (2, .int p2), (3, .int p3), (4, .int p4)] → W p l e rm_M_bits2 s m args below meth c H locs 0 0 Q (F0 m 42 ls [.int v0_3, .ref (K 49)]) := by
    intro v0_3 H locs ls hJ hP hS hl
    have h := hj_42 v0_3 hJ
    refine lv_iconst (v := (1 : Int32)) hx hb d_M_bits2_42 (by decide) ?_
    refine gw_goi (gw_runV (As := [.int v0_3, .int (1 : Int32)]) (rest := []) hx hb hml hown htw hK hP hS hl.1 (w_M_fails hlo K v0_3 (1 : Int32) hΜ F_1 A _ h) k_M_fails mm_705 ⟨Nat.le_of_ble_eq_true rfl, Nat.le_of_ble_eq_true rfl⟩ rfl rfl (gMd_0 hΜ) rfl rfl rfl (Nat.le_of_ble_eq_true rfl) d_M_bits2_43) hS (fun r_4 F_4 A_4 H locs hw hP hS => ?_)
    obtain ⟨rfl, hw⟩ := hw
    have h := hw
    refine lv_if_eq (tgt := 51) hx hb d_M_bits2_46 (by decide) (fun c_46 => ?_) (fun c_46 => ?_)
    · have h := h.1 c_46
      refine lv_aload_n hx hb d_M_bits2_51 rfl (lv_at hl 0 rfl) ?_
      refine lv_iload_n hx hb d_M_bits2_52 rfl (lv_at hl 3 rfl) ?_
      refine lv_aload_n hx hb d_M_bits2_53 rfl (lv_at hl 0 rfl) ?_
      refine gs_get (v := .ref (K 54)) hx hb htw i_M hown hK hP (gMd_0 hΜ) rfl 6 (by decide) (htw _ mm_648) rfl d_M_bits2_54 ?_
      refine gw_goi (gw_runV (As := [.int p3, .ref (K 54)]) (rest := []) hx hb hml hown htw hK hP hS hl.1 (w_M_load hlo K p3 (K 54) (9000) hΜ (gMd_54 hΜ) F_4 A _ h) k_M_load mm_713 ⟨Nat.le_of_ble_eq_true rfl, Nat.le_of_ble_eq_true rfl⟩ rfl rfl (gMd_0 hΜ) rfl rfl rfl (Nat.le_of_ble_eq_true rfl) d_M_bits2_57) hS (fun r_5 F_5 A_5 H locs hw hP hS => ?_)
      obtain ⟨rfl, hw⟩ := hw
      have h := hw
      refine lv_istore (lv' := [(5, .int r_5), (0, .ref (K 49)), (1, .int p1), (2, .int p2), (3, .int p3), (4, .int p4)]) hx hb d_M_bits2_60 hl (by decide) rfl (fun ls hl => ?_)
      refine lv_aload_n hx hb d_M_bits2_62 rfl (lv_at hl 1 rfl) ?_
      refine lv_iload hx hb d_M_bits2_63 (lv_at hl 5 rfl) ?_
      refine lv_aload_n hx hb d_M_bits2_65 rfl (lv_at hl 1 rfl) ?_
      refine gs_get (v := .ref (K 55)) hx hb htw i_M hown hK hP (gMd_0 hΜ) rfl 7 (by decide) (htw _ mm_649) rfl d_M_bits2_66 ?_
      refine gw_goi (gw_runV (As := [.int p4, .ref (K 55)]) (rest := []) hx hb hml hown htw hK hP hS hl.1 (w_M_load hlo K p4 (K 55) (9000) hΜ (gMd_55 hΜ) F_4 A_5 _ h) k_M_load mm_713 ⟨Nat.le_of_ble_eq_true rfl, Nat.le_of_ble_eq_true rfl⟩ rfl rfl (gMd_0 hΜ) rfl rfl rfl (Nat.le_of_ble_eq_true rfl) d_M_bits2_69) hS (fun r_6 F_6 A_6 H locs hw hP hS => ?_)
      obtain ⟨rfl, hw⟩ := hw
      have h := hw
      refine lv_istore (lv' := [(6, .int r_6), (5, .int r_5), (0, .ref (K 49)), (1, .int p1), (2, .int p2), (3, .int p3), (4, .int p4)]) hx hb d_M_bits2_72 hl (by decide) rfl (fun ls hl => ?_)
      refine lv_sipush (v := (131 : Int32)) hx hb d_M_bits2_74 (by decide) ?_
      refine lv_istore (lv' := [(7, .int (131 : Int32)), (6, .int r_6), (5, .int r_5), (0, .ref (K 49)), (1, .int p1), (2, .int p2), (3, .int p3), (4, .int p4)]) hx hb d_M_bits2_77 hl (by decide) rfl (fun ls hl => ?_)
      refine lv_aload_n hx hb d_M_bits2_79 rfl (lv_at hl 3 rfl) ?_
      refine gs_get (v := .ref (K 54)) hx hb htw i_M hown hK hP (gMd_0 hΜ) rfl 6 (by decide) (htw _ mm_648) rfl d_M_bits2_80 ?_
      refine lv_iload hx hb d_M_bits2_83 (lv_at hl 2 rfl) ?_
      refine lv_iload hx hb d_M_bits2_85 (lv_at hl 0 rfl) ?_
      refine lv_aload_n hx hb d_M_bits2_87 rfl (lv_at hl 3 rfl) ?_
      refine gs_get (v := .ref (K 52)) hx hb htw i_M hown hK hP (gMd_0 hΜ) rfl 4 (by decide) (htw _ mm_646) rfl d_M_bits2_88 ?_
      refine lv_iload_n hx hb d_M_bits2_91 rfl (lv_at hl 6 rfl) ?_
      obtain ⟨hin, h⟩ := h
      refine gs_ild hx hb hK hP (gMd_52 hΜ) hin d_M_bits2_92 ?_
      obtain ⟨J_101, h, hj_101⟩ := h
      have join_101 : ∀ (v0_7 : Int32) (H : Heap) (locs : List Loc) (ls : Array Slot), J_101 v0_7 → va_P D gcls (gs_ws Λ F_4 A_6 L) H → va_S (gw_A Λ) s.heap H locs → lv_has ls 9 [(0, .ref (K 49)), (1, .int p1), (2, .int p2), (4, .int p4), (6, .int r_6), (7, .int (131 : Int32))] → W p l e rm_M_bits2 s m args below meth c H locs 0 0 Q (F0 m 101 ls [.int v0_7, .int (131 : Int32), .int r_5, .ref (K 54)]) := by
        intro v0_7 H locs ls hJ hP hS hl
        have h := hj_101 v0_7 hJ
        refine gw_gov (gw_runS (As := [.ref (K 54), .int r_5, .int (131 : Int32), .int v0_7]) (rest := []) hx hb hml hown htw hK hP hS hl.1 (w_M_twos hlo (K 54) (9000) r_5 (131 : Int32) v0_7 (gMd_54 hΜ) F_4 A_6 _ h) k_M_twos mm_791 ⟨Nat.le_of_ble_eq_true rfl, Nat.le_of_ble_eq_true rfl⟩ rfl rfl rfl rfl (Nat.le_of_ble_eq_true rfl) d_M_bits2_101) hS (fun F_8 A_8 H locs hw hP hS => ?_)
        obtain ⟨rfl, hw⟩ := hw
        have h := hw
        refine lv_aload_n hx hb d_M_bits2_104 rfl (lv_at hl 0 rfl) ?_
        refine gs_get (v := .ref (K 55)) hx hb htw i_M hown hK hP (gMd_0 hΜ) rfl 7 (by decide) (htw _ mm_649) rfl d_M_bits2_105 ?_
        refine lv_iload hx hb d_M_bits2_108 (lv_at hl 4 rfl) ?_
        refine lv_iload hx hb d_M_bits2_110 (lv_at hl 5 rfl) ?_
        refine lv_aload_n hx hb d_M_bits2_112 rfl (lv_at hl 0 rfl) ?_
        refine gs_get (v := .ref (K 52)) hx hb htw i_M hown hK hP (gMd_0 hΜ) rfl 4 (by decide) (htw _ mm_646) rfl d_M_bits2_113 ?_
        refine lv_iload hx hb d_M_bits2_116 (lv_at hl 3 rfl) ?_
        obtain ⟨hin, h⟩ := h
        refine gs_ild hx hb hK hP (gMd_52 hΜ) hin d_M_bits2_118 ?_
        obtain ⟨J_127, h, hj_127⟩ := h
        have join_127 : ∀ (v0_9 : Int32) (H : Heap) (locs : List Loc) (ls : Array Slot), J_127 v0_9 → va_P D gcls (gs_ws Λ F_4 A_8 L) H → va_S (gw_A Λ) s.heap H locs → lv_has ls 9 [(0, .ref (K 49)), (1, .int p1), (2, .int p2), (7, .int (131 : Int32))] → W p l e rm_M_bits2 s m args below meth c H locs 0 0 Q (F0 m 127 ls [.int v0_9, .int (131 : Int32), .int r_6, .ref (K 55)]) := by
          intro v0_9 H locs ls hJ hP hS hl
          have h := hj_127 v0_9 hJ
          refine gw_gov (gw_runS (As := [.ref (K 55), .int r_6, .int (131 : Int32), .int v0_9]) (rest := []) hx hb hml hown htw hK hP hS hl.1 (w_M_twos hlo (K 55) (9000) r_6 (131 : Int32) v0_9 (gMd_55 hΜ) F_4 A_8 _ h) k_M_twos mm_791 ⟨Nat.le_of_ble_eq_true rfl, Nat.le_of_ble_eq_true rfl⟩ rfl rfl rfl rfl (Nat.le_of_ble_eq_true rfl) d_M_bits2_127) hS (fun F_10 A_10 H locs hw hP hS => ?_)
          obtain ⟨rfl, hw⟩ := hw
          have h := hw
          refine lv_iconst (v := (0 : Int32)) hx hb d_M_bits2_130 (by decide) ?_
          refine lv_istore (lv' := [(8, .int (0 : Int32)), (0, .ref (K 49)), (1, .int p1), (2, .int p2), (7, .int (131 : Int32))]) hx hb d_M_bits2_131 hl (by decide) rfl (fun ls hl => ?_)
          obtain ⟨I_133, μ_133, h0_133, hs_133⟩ := h
          have loop_133 : ∀ (N : Nat) (x8_11 : Int32) (A_11 : gm_M) (H : Heap) (locs : List Loc) (ls : Array Slot), μ_133 x8_11 A_11 < N → I_133 x8_11 A_11 → va_P D gcls (gs_ws Λ F_4 A_11 L) H → va_S (gw_A Λ) s.heap H locs → lv_has ls 9 [(0, .ref (K 49)), (1, .int p1), (2, .int p2), (7, .int (131 : Int32)), (8, .int x8_11)] → W p l e rm_M_bits2 s m args below meth c H locs 0 0 Q (F0 m 133 ls []) := by
            intro N
            induction N with
            | zero => intro x8_11 A_11 H locs ls hμ; exact absurd hμ (Nat.not_lt_zero _)
            | succ N ih_133 =>
              intro x8_11 A_11 H locs ls hμ_133 hI hP hS hl
              have h := hs_133 x8_11 A_11 hI
              refine lv_iload hx hb d_M_bits2_133 (lv_at hl 4 rfl) ?_
              refine lv_iload hx hb d_M_bits2_135 (lv_at hl 3 rfl) ?_
              refine lv_icmp_ge (tgt := 216) hx hb d_M_bits2_137 (by decide) (fun c_137 => ?_) (fun c_137 => ?_)
              · have h := h.1 c_137
                refine lv_aload_n hx hb d_M_bits2_216 rfl (lv_at hl 0 rfl) ?_
                refine gs_get (v := .ref (K 56)) hx hb htw i_M hown hK hP (gMd_0 hΜ) rfl 8 (by decide) (htw _ mm_650) rfl d_M_bits2_217 ?_
                refine lv_iload hx hb d_M_bits2_220 (lv_at hl 3 rfl) ?_
                refine lv_iconst (v := (1 : Int32)) hx hb d_M_bits2_222 (by decide) ?_
                refine lv_isub hx hb d_M_bits2_223 ?_
                obtain ⟨hin, h⟩ := h
                refine gs_ild hx hb hK hP (gMd_56 hΜ) hin d_M_bits2_224 ?_
                refine lv_ldc (v := (32768 : Int32)) hx hb hown (htw _ mm_776) d_M_bits2_225 ?_
                refine lv_iand hx hb d_M_bits2_227 ?_
                obtain ⟨J_236, h, hj_236⟩ := h
                have join_236 : ∀ (v0_12 : Int32) (H : Heap) (locs : List Loc) (ls : Array Slot), J_236 v0_12 → va_P D gcls (gs_ws Λ F_4 A_11 L) H → va_S (gw_A Λ) s.heap H locs → lv_has ls 9 [(0, .ref (K 49)), (2, .int p2), (7, .int (131 : Int32))] → W p l e rm_M_bits2 s m args below meth c H locs 0 0 Q (F0 m 236 ls [.int v0_12]) := by
                  intro v0_12 H locs ls hJ hP hS hl
                  have h := hj_236 v0_12 hJ
                  refine lv_istore (lv' := [(8, .int v0_12), (0, .ref (K 49)), (2, .int p2), (7, .int (131 : Int32))]) hx hb d_M_bits2_236 hl (by decide) rfl (fun ls hl => ?_)
                  refine lv_aload_n hx hb d_M_bits2_238 rfl (lv_at hl 1 rfl) ?_
                  refine gs_get (v := .ref (K 56)) hx hb htw i_M hown hK hP (gMd_0 hΜ) rfl 8 (by decide) (htw _ mm_650) rfl d_M_bits2_239 ?_
                  refine lv_iload hx hb d_M_bits2_242 (lv_at hl 3 rfl) ?_
                  refine lv_iload hx hb d_M_bits2_244 (lv_at hl 3 rfl) ?_
                  refine lv_iload hx hb d_M_bits2_246 (lv_at hl 0 rfl) ?_
                  refine gw_gov (gw_runS (As := [.ref (K 56), .int (131 : Int32), .int (131 : Int32), .int v0_12]) (rest := []) hx hb hml hown htw hK hP hS hl.1 (w_M_twos hlo (K 56) (9000) (131 : Int32) (131 : Int32) v0_12 (gMd_56 hΜ) F_4 A_11 _ h) k_M_twos mm_791 ⟨Nat.le_of_ble_eq_true rfl, Nat.le_of_ble_eq_true rfl⟩ rfl rfl rfl rfl (Nat.le_of_ble_eq_true rfl) d_M_bits2_248) hS (fun F_13 A_13 H locs hw hP hS => ?_)
                  obtain ⟨rfl, hw⟩ := hw
                  have h := hw
                  refine lv_aload_n hx hb d_M_bits2_251 rfl (lv_at hl 1 rfl) ?_
                  refine lv_iload_n hx hb d_M_bits2_252 rfl (lv_at hl 2 rfl) ?_
                  refine lv_iload hx hb d_M_bits2_253 (lv_at hl 0 rfl) ?_
                  obtain ⟨J_263, h, hj_263⟩ := h
                  have join_263 : ∀ (v0_14 : Int32) (H : Heap) (locs : List Loc) (ls : Array Slot), J_263 v0_14 → va_P D gcls (gs_ws Λ F_4 A_13 L) H → va_S (gw_A Λ) s.heap H locs → lv_has ls 9 [(0, .ref (K 49)), (2, .int p2), (7, .int (131 : Int32))] → W p l e rm_M_bits2 s m args below meth c H locs 0 0 Q (F0 m 263 ls [.int v0_14, .int p2, .ref (K 49)]) := by
                    intro v0_14 H locs ls hJ hP hS hl
                    have h := hj_263 v0_14 hJ
                    refine lv_aload_n hx hb d_M_bits2_263 rfl (lv_at hl 0 rfl) ?_
                    refine gs_get (v := .ref (K 56)) hx hb htw i_M hown hK hP (gMd_0 hΜ) rfl 8 (by decide) (htw _ mm_650) rfl d_M_bits2_264 ?_
                    refine lv_iload hx hb d_M_bits2_267 (lv_at hl 2 rfl) ?_
                    refine lv_iconst (v := (2 : Int32)) hx hb d_M_bits2_269 (by decide) ?_
                    refine gw_goi (gw_runV (As := [.int p2, .int v0_14, .ref (K 56), .int (131 : Int32), .int (2 : Int32)]) (rest := []) hx hb hml hown htw hK hP hS hl.1 (w_M_keep hlo K p2 v0_14 (K 56) (9000) (131 : Int32) (2 : Int32) hΜ (gMd_56 hΜ) F_4 A_13 _ h) k_M_keep mm_721 ⟨Nat.le_of_ble_eq_true rfl, Nat.le_of_ble_eq_true rfl⟩ rfl rfl (gMd_0 hΜ) rfl rfl rfl (Nat.le_of_ble_eq_true rfl) d_M_bits2_270) hS (fun r_15 F_15 A_15 H locs hw hP hS => ?_)
                    have h := hw
                    refine lv_if_eq (tgt := 285) hx hb d_M_bits2_273 (by decide) (fun c_273 => ?_) (fun c_273 => ?_)
                    · have h := h.1 c_273
                      refine lv_iconst (v := (0 : Int32)) hx hb d_M_bits2_285 (by decide) ?_
                      rw [← hQe]
                      exact gw_iret hx hb hr hlocks hP hK hS h d_M_bits2_286
                    · have h := h.2 c_273
                      refine lv_aload_n hx hb d_M_bits2_276 rfl (lv_at hl 0 rfl) ?_
                      refine gs_get (v := .ref (K 52)) hx hb htw i_M hown hK hP (gMd_0 hΜ) rfl 4 (by decide) (htw _ mm_646) rfl d_M_bits2_277 ?_
                      refine lv_iload_n hx hb d_M_bits2_280 rfl (lv_at hl 1 rfl) ?_
                      obtain ⟨hin, h⟩ := h
                      refine gs_ild hx hb hK hP (gMd_52 hΜ) hin d_M_bits2_281 ?_
                      refine lv_goto (tgt := 286) hx hb d_M_bits2_282 (by decide) ?_
                      rw [← hQe]
                      exact gw_iret hx hb hr hlocks hP hK hS h d_M_bits2_286
                  refine lv_if_eq (tgt := 262) hx hb d_M_bits2_255 (by decide) (fun c_255 => ?_) (fun c_255 => ?_)
                  · have h := h.1 c_255
                    refine lv_iconst (v := (1 : Int32)) hx hb d_M_bits2_262 (by decide) ?_
                    exact join_263 (1 : Int32) _ _ _ h hP hS (lv_sub hl [1, 2, 3] rfl)
                  · have h := h.2 c_255
                    refine lv_iconst (v := (-1 : Int32)) hx hb d_M_bits2_258 (by decide) ?_
                    refine lv_goto (tgt := 263) hx hb d_M_bits2_259 (by decide) ?_
                    exact join_263 (-1 : Int32) _ _ _ h hP hS (lv_sub hl [1, 2, 3] rfl)
                refine lv_if_eq (tgt := 235) hx hb d_M_bits2_228 (by decide) (fun c_228 => ?_) (fun c_228 => ?_)
                · have h := h.1 c_228
                  refine lv_iconst (v := (0 : Int32)) hx hb d_M_bits2_235 (by decide) ?_
                  exact join_236 (0 : Int32) _ _ _ h hP hS (lv_sub hl [0, 2, 3] rfl)
                · have h := h.2 c_228
                  refine lv_iconst (v := (1 : Int32)) hx hb d_M_bits2_231 (by decide) ?_
                  refine lv_goto (tgt := 236) hx hb d_M_bits2_232 (by decide) ?_
                  exact join_236 (1 : Int32) _ _ _ h hP hS (lv_sub hl [0, 2, 3] rfl)
              · have h := h.2 c_137
                refine lv_aload_n hx hb d_M_bits2_140 rfl (lv_at hl 0 rfl) ?_
                refine gs_get (v := .ref (K 56)) hx hb htw i_M hown hK hP (gMd_0 hΜ) rfl 8 (by decide) (htw _ mm_650) rfl d_M_bits2_141 ?_
                refine lv_iload hx hb d_M_bits2_144 (lv_at hl 4 rfl) ?_
                refine lv_iload_n hx hb d_M_bits2_146 rfl (lv_at hl 1 rfl) ?_
                refine lv_if_ne (tgt := 168) hx hb d_M_bits2_147 (by decide) (fun c_147 => ?_) (fun c_147 => ?_)
                · have h := h.1 c_147
                  refine lv_iload_n hx hb d_M_bits2_168 rfl (lv_at hl 1 rfl) ?_
                  refine lv_iconst (v := (1 : Int32)) hx hb d_M_bits2_169 (by decide) ?_
                  refine lv_icmp_ne (tgt := 191) hx hb d_M_bits2_170 (by decide) (fun c_170 => ?_) (fun c_170 => ?_)
                  · have h := h.1 c_170
                    refine lv_aload_n hx hb d_M_bits2_191 rfl (lv_at hl 0 rfl) ?_
                    refine gs_get (v := .ref (K 54)) hx hb htw i_M hown hK hP (gMd_0 hΜ) rfl 6 (by decide) (htw _ mm_648) rfl d_M_bits2_192 ?_
                    refine lv_iload hx hb d_M_bits2_195 (lv_at hl 4 rfl) ?_
                    obtain ⟨hin, h⟩ := h
                    refine gs_ild hx hb hK hP (gMd_54 hΜ) hin d_M_bits2_197 ?_
                    refine lv_aload_n hx hb d_M_bits2_198 rfl (lv_at hl 0 rfl) ?_
                    refine gs_get (v := .ref (K 55)) hx hb htw i_M hown hK hP (gMd_0 hΜ) rfl 7 (by decide) (htw _ mm_649) rfl d_M_bits2_199 ?_
                    refine lv_iload hx hb d_M_bits2_202 (lv_at hl 4 rfl) ?_
                    obtain ⟨hin, h⟩ := h
                    refine gs_ild hx hb hK hP (gMd_55 hΜ) hin d_M_bits2_204 ?_
                    refine lv_ixor hx hb d_M_bits2_205 ?_
                    refine lv_ldc (v := (65535 : Int32)) hx hb hown (htw _ mm_761) d_M_bits2_206 ?_
                    refine lv_iand hx hb d_M_bits2_208 ?_
                    obtain ⟨hin, h⟩ := h
                    refine gs_ist hx hb hK hlo hP hS (gMd_56 hΜ) hin d_M_bits2_209 (fun A_16 eA_16 H locs hP hS => ?_)
                    have h := h A_16 eA_16
                    obtain ⟨x8_17, ex8_17⟩ : ∃ y : Int32, y = x8_11 + (1 : Int32) := ⟨_, rfl⟩
                    have h := h x8_17 ex8_17
                    refine lv_iinc (v := x8_17) (lv' := [(8, .int x8_17), (0, .ref (K 49)), (1, .int p1), (2, .int p2), (7, .int (131 : Int32))]) hx hb d_M_bits2_210 hl (k := 4) rfl (by rw [ex8_17]; rfl) (by decide) rfl (fun ls hl => ?_)
                    refine lv_goto (tgt := 133) hx hb d_M_bits2_213 (by decide) ?_
                    exact ih_133 x8_17 A_16 _ _ _ (Nat.lt_of_lt_of_le h.2 (Nat.le_of_lt_succ hμ_133)) h.1 hP hS (lv_sub hl [1, 2, 3, 4, 0] rfl)
                  · have h := h.2 c_170
                    refine lv_aload_n hx hb d_M_bits2_173 rfl (lv_at hl 0 rfl) ?_
                    refine gs_get (v := .ref (K 54)) hx hb htw i_M hown hK hP (gMd_0 hΜ) rfl 6 (by decide) (htw _ mm_648) rfl d_M_bits2_174 ?_
                    refine lv_iload hx hb d_M_bits2_177 (lv_at hl 4 rfl) ?_
                    obtain ⟨hin, h⟩ := h
                    refine gs_ild hx hb hK hP (gMd_54 hΜ) hin d_M_bits2_179 ?_
                    refine lv_aload_n hx hb d_M_bits2_180 rfl (lv_at hl 0 rfl) ?_
                    refine gs_get (v := .ref (K 55)) hx hb htw i_M hown hK hP (gMd_0 hΜ) rfl 7 (by decide) (htw _ mm_649) rfl d_M_bits2_181 ?_
                    refine lv_iload hx hb d_M_bits2_184 (lv_at hl 4 rfl) ?_
                    obtain ⟨hin, h⟩ := h
                    refine gs_ild hx hb hK hP (gMd_55 hΜ) hin d_M_bits2_186 ?_
                    refine lv_ior hx hb d_M_bits2_187 ?_
                    refine lv_goto (tgt := 206) hx hb d_M_bits2_188 (by decide) ?_
                    refine lv_ldc (v := (65535 : Int32)) hx hb hown (htw _ mm_761) d_M_bits2_206 ?_
                    refine lv_iand hx hb d_M_bits2_208 ?_
                    obtain ⟨hin, h⟩ := h
                    refine gs_ist hx hb hK hlo hP hS (gMd_56 hΜ) hin d_M_bits2_209 (fun A_18 eA_18 H locs hP hS => ?_)
                    have h := h A_18 eA_18
                    obtain ⟨x8_19, ex8_19⟩ : ∃ y : Int32, y = x8_11 + (1 : Int32) := ⟨_, rfl⟩
                    have h := h x8_19 ex8_19
                    refine lv_iinc (v := x8_19) (lv' := [(8, .int x8_19), (0, .ref (K 49)), (1, .int p1), (2, .int p2), (7, .int (131 : Int32))]) hx hb d_M_bits2_210 hl (k := 4) rfl (by rw [ex8_19]; rfl) (by decide) rfl (fun ls hl => ?_)
                    refine lv_goto (tgt := 133) hx hb d_M_bits2_213 (by decide) ?_
                    exact ih_133 x8_19 A_18 _ _ _ (Nat.lt_of_lt_of_le h.2 (Nat.le_of_lt_succ hμ_133)) h.1 hP hS (lv_sub hl [1, 2, 3, 4, 0] rfl)
                · have h := h.2 c_147
                  refine lv_aload_n hx hb d_M_bits2_150 rfl (lv_at hl 0 rfl) ?_
                  refine gs_get (v := .ref (K 54)) hx hb htw i_M hown hK hP (gMd_0 hΜ) rfl 6 (by decide) (htw _ mm_648) rfl d_M_bits2_151 ?_
                  refine lv_iload hx hb d_M_bits2_154 (lv_at hl 4 rfl) ?_
                  obtain ⟨hin, h⟩ := h
                  refine gs_ild hx hb hK hP (gMd_54 hΜ) hin d_M_bits2_156 ?_
                  refine lv_aload_n hx hb d_M_bits2_157 rfl (lv_at hl 0 rfl) ?_
                  refine gs_get (v := .ref (K 55)) hx hb htw i_M hown hK hP (gMd_0 hΜ) rfl 7 (by decide) (htw _ mm_649) rfl d_M_bits2_158 ?_
                  refine lv_iload hx hb d_M_bits2_161 (lv_at hl 4 rfl) ?_
                  obtain ⟨hin, h⟩ := h
                  refine gs_ild hx hb hK hP (gMd_55 hΜ) hin d_M_bits2_163 ?_
                  refine lv_iand hx hb d_M_bits2_164 ?_
                  refine lv_goto (tgt := 206) hx hb d_M_bits2_165 (by decide) ?_
                  refine lv_ldc (v := (65535 : Int32)) hx hb hown (htw _ mm_761) d_M_bits2_206 ?_
                  refine lv_iand hx hb d_M_bits2_208 ?_
                  obtain ⟨hin, h⟩ := h
                  refine gs_ist hx hb hK hlo hP hS (gMd_56 hΜ) hin d_M_bits2_209 (fun A_20 eA_20 H locs hP hS => ?_)
                  have h := h A_20 eA_20
                  obtain ⟨x8_21, ex8_21⟩ : ∃ y : Int32, y = x8_11 + (1 : Int32) := ⟨_, rfl⟩
                  have h := h x8_21 ex8_21
                  refine lv_iinc (v := x8_21) (lv' := [(8, .int x8_21), (0, .ref (K 49)), (1, .int p1), (2, .int p2), (7, .int (131 : Int32))]) hx hb d_M_bits2_210 hl (k := 4) rfl (by rw [ex8_21]; rfl) (by decide) rfl (fun ls hl => ?_)
                  refine lv_goto (tgt := 133) hx hb d_M_bits2_213 (by decide) ?_
                  exact ih_133 x8_21 A_20 _ _ _ (Nat.lt_of_lt_of_le h.2 (Nat.le_of_lt_succ hμ_133)) h.1 hP hS (lv_sub hl [1, 2, 3, 4, 0] rfl)
          exact loop_133 (μ_133 (0 : Int32) A_10 + 1) (0 : Int32) A_10 _ _ _ (Nat.lt_succ_self _) h0_133 hP hS (lv_sub hl [1, 2, 3, 4, 0] rfl)
        refine lv_if_ge (tgt := 126) hx hb d_M_bits2_119 (by decide) (fun c_119 => ?_) (fun c_119 => ?_)
        · have h := h.1 c_119
          refine lv_iconst (v := (0 : Int32)) hx hb d_M_bits2_126 (by decide) ?_
          exact join_127 (0 : Int32) _ _ _ h hP hS (lv_sub hl [0, 1, 2, 5] rfl)
        · have h := h.2 c_119
          refine lv_iconst (v := (1 : Int32)) hx hb d_M_bits2_122 (by decide) ?_
          refine lv_goto (tgt := 127) hx hb d_M_bits2_123 (by decide) ?_
          exact join_127 (1 : Int32) _ _ _ h hP hS (lv_sub hl [0, 1, 2, 5] rfl)
      refine lv_if_ge (tgt := 100) hx hb d_M_bits2_93 (by decide) (fun c_93 => ?_) (fun c_93 => ?_)
      · have h := h.1 c_93
        refine lv_iconst (v := (0 : Int32)) hx hb d_M_bits2_100 (by decide) ?_
        exact join_101 (0 : Int32) _ _ _ h hP hS (lv_sub hl [3, 4, 5, 7, 1, 0] rfl)
      · have h := h.2 c_93
        refine lv_iconst (v := (1 : Int32)) hx hb d_M_bits2_96 (by decide) ?_
        refine lv_goto (tgt := 101) hx hb d_M_bits2_97 (by decide) ?_
        exact join_101 (1 : Int32) _ _ _ h hP hS (lv_sub hl [3, 4, 5, 7, 1, 0] rfl)
    · have h := h.2 c_46
      refine lv_iconst (v := (0 : Int32)) hx hb d_M_bits2_49 (by decide) ?_
      rw [← hQe]
      exact gw_iret hx hb hr hlocks hP hK hS h d_M_bits2_50
  obtain ⟨J_37, h, hj_37⟩ := h
  have join_37 : ∀  (H : Heap) (locs : List Loc) (ls : Array Slot), J_37 → va_P D gcls (gs_ws Λ F_1 A L) H → va_S (gw_A Λ) s.heap H locs → lv_has ls 9 [(0, .ref (K 49)), (1, .int p1), (2, .int p2), (3, .int p3), (4, .int p4)] → W p l e rm_M_bits2 s m args below meth c H locs 0 0 Q (F0 m 37 ls [.ref (K 49)]) := by
    intro  H locs ls hJ hP hS hl
    have h := hj_37  hJ
    refine lv_iconst (v := (1 : Int32)) hx hb d_M_bits2_37 (by decide) ?_
    refine lv_goto (tgt := 42) hx hb d_M_bits2_38 (by decide) ?_
    exact join_42 (1 : Int32) _ _ _ h hP hS hl
  refine lv_if_eq (tgt := 37) hx hb d_M_bits2_12 (by decide) (fun c_12 => ?_) (fun c_12 => ?_)
  · have h := h.1 c_12
    exact join_37 _ _ _ h hP hS hl
  · have h := h.2 c_12
    refine lv_iload_n hx hb d_M_bits2_15 rfl (lv_at hl 2 rfl) ?_
    refine gw_goi (gw_runS (As := [.int p2]) (rest := [.ref (K 49)]) hx hb hml hown htw hK hP hS hl.1 (w_M_isRegister hlo p2 F_1 A _ h) k_M_isRegister mm_699 ⟨Nat.le_of_ble_eq_true rfl, Nat.le_of_ble_eq_true rfl⟩ rfl rfl rfl rfl (Nat.le_of_ble_eq_true rfl) d_M_bits2_16) hS (fun r_23 F_23 A_23 H locs hw hP hS => ?_)
    obtain ⟨rfl, hw⟩ := hw
    obtain ⟨rfl, hw⟩ := hw
    have h := hw
    refine lv_if_eq (tgt := 37) hx hb d_M_bits2_19 (by decide) (fun c_19 => ?_) (fun c_19 => ?_)
    · have h := h.1 c_19
      exact join_37 _ _ _ h hP hS hl
    · have h := h.2 c_19
      refine lv_iload_n hx hb d_M_bits2_22 rfl (lv_at hl 3 rfl) ?_
      refine gw_goi (gw_runS (As := [.int p3]) (rest := [.ref (K 49)]) hx hb hml hown htw hK hP hS hl.1 (w_M_isRegister hlo p3 F_1 A _ h) k_M_isRegister mm_699 ⟨Nat.le_of_ble_eq_true rfl, Nat.le_of_ble_eq_true rfl⟩ rfl rfl rfl rfl (Nat.le_of_ble_eq_true rfl) d_M_bits2_23) hS (fun r_24 F_24 A_24 H locs hw hP hS => ?_)
      obtain ⟨rfl, hw⟩ := hw
      obtain ⟨rfl, hw⟩ := hw
      have h := hw
      refine lv_if_eq (tgt := 37) hx hb d_M_bits2_26 (by decide) (fun c_26 => ?_) (fun c_26 => ?_)
      · have h := h.1 c_26
        exact join_37 _ _ _ h hP hS hl
      · have h := h.2 c_26
        refine lv_iload hx hb d_M_bits2_29 (lv_at hl 4 rfl) ?_
        refine gw_goi (gw_runS (As := [.int p4]) (rest := [.ref (K 49)]) hx hb hml hown htw hK hP hS hl.1 (w_M_isRegister hlo p4 F_1 A _ h) k_M_isRegister mm_699 ⟨Nat.le_of_ble_eq_true rfl, Nat.le_of_ble_eq_true rfl⟩ rfl rfl rfl rfl (Nat.le_of_ble_eq_true rfl) d_M_bits2_31) hS (fun r_25 F_25 A_25 H locs hw hP hS => ?_)
        obtain ⟨rfl, hw⟩ := hw
        obtain ⟨rfl, hw⟩ := hw
        have h := hw
        refine lv_if_ne (tgt := 41) hx hb d_M_bits2_34 (by decide) (fun c_34 => ?_) (fun c_34 => ?_)
        · have h := h.1 c_34
          refine lv_iconst (v := (0 : Int32)) hx hb d_M_bits2_41 (by decide) ?_
          exact join_42 (0 : Int32) _ _ _ h hP hS hl
        · have h := h.2 c_34
          exact join_37 _ _ _ h hP hS hl
abbrev rm_M_power : Room := { frames := 2, cells := 0, slots := 0, locals := 50 }
set_option maxHeartbeats 4000000 in
set_option maxRecDepth 100000 in
theorem w_M_power (hlo : gs_D Λ) (K : Nat → Nat) (p1 : Int32) (p2 : Int32) (p3 : Int32) (hΜ : gMd cI Λ K) (F A : gm_M) (post : Int32 → gm_M → gm_M → Prop) (h : vc_M_power K p1 p2 p3 F A post) : Met l y_M_power (.code y_M_power b_M_power 10 (some .int) :: gw_WS) rm_M_power (va_Pc [.ref (K 49), .int p1, .int p2, .int p3] (gw_P D cI cB cJ cW Λ L F A)) (gw_Qi D cI cB cJ cW Λ L (fun r F2 A2 => post r F2 A2)) 0 0 (gw_A Λ) := by
  refine Met.ofW (cc := b_M_power) (maxL := 10) (ret := (some .int)) (by decide) rfl ?_
  intro p e s m args below meth c s₁ B hml hv
  obtain ⟨hargs, hP, hK⟩ := hv
  have hx := B.exec
  have hb := B.bytes
  have hr := B.returns
  have hlocks := B.notSynchronized
  have htw : ∀ w ∈ gw_WS, w.before args s = true := fun w h9 => atoms_spec (ws := .code y_M_power b_M_power 10 (some .int) :: gw_WS) B.pre w (List.mem_cons_of_mem _ h9)
  have hown : s.vm.findClass R_M = some m.cls := findClass_of_methodNamed B.named
  have hS : va_S (gw_A Λ) s.heap s.heap [] := va_S.rf
  refine W.eq (g2 := entryFrame m ([.ref (K 49), .int p1, .int p2, .int p3] : List Value).toArray 10) (by rw [hargs]) ?_
  have hl := lv_entry ([.ref (K 49), .int p1, .int p2, .int p3]) (n := 10) (Nat.le_of_ble_eq_true rfl)
  rw [lg_entry_eq]
  generalize (lg_sl ([.ref (K 49), .int p1, .int p2, .int p3]) ++ List.replicate (10 - (lg_sl ([.ref (K 49), .int p1, .int p2, .int p3])).length) Slot.unset).toArray = ls at hl ⊢
  have hl : lv_has ls 10 [(0, .ref (K 49)), (1, .int p1), (2, .int p2), (3, .int p3)] := hl
  generalize hQe : MQ below (gw_Qi D cI cB cJ cW Λ L (fun r F2 A2 => post r F2 A2)) args s 0 0 (gw_A Λ) = Q
  unfold vc_M_power at h
  refine lv_aload_n hx hb d_M_power_0 rfl (lv_at hl 0 rfl) ?_
  refine lv_iconst (v := (0 : Int32)) hx hb d_M_power_1 (by decide) ?_
  refine gs_put (ty := .int) hx hb htw i_M tf_M tf_M_ok n_M hown hK hlo hP hS (gMd_0 hΜ) rfl 0 (by decide) rfl (htw _ mm_642) rfl (by decide +kernel) rfl rfl d_M_power_2 (fun F_1 eF_1 H locs hP hS => ?_)
  have h := h F_1 eF_1
  refine lv_aload_n hx hb d_M_power_5 rfl (lv_at hl 0 rfl) ?_
  refine lv_iload_n hx hb d_M_power_6 rfl (lv_at hl 1 rfl) ?_
  refine gw_goi (gw_runS (As := [.int p1]) (rest := [.ref (K 49)]) hx hb hml hown htw hK hP hS hl.1 (w_M_isRegister hlo p1 F_1 A _ h) k_M_isRegister mm_699 ⟨Nat.le_of_ble_eq_true rfl, Nat.le_of_ble_eq_true rfl⟩ rfl rfl rfl rfl (Nat.le_of_ble_eq_true rfl) d_M_power_7) hS (fun r_2 F_2 A_2 H locs hw hP hS => ?_)
  obtain ⟨rfl, hw⟩ := hw
  obtain ⟨rfl, hw⟩ := hw
  have h := hw
  obtain ⟨J_29, h, hj_29⟩ := h
  have join_29 : ∀ (v0_3 : Int32) (H : Heap) (locs : List Loc) (ls : Array Slot), J_29 v0_3 → va_P D gcls (gs_ws Λ F_1 A L) H → va_S (gw_A Λ) s.heap H locs → lv_has ls 10 [(0, .ref (K 49)), (1, .int p1), (2, .int p2), (3, .int p3)] → W p l e rm_M_power s m args below meth c H locs 0 0 Q (F0 m 29 ls [.int v0_3, .ref (K 49)]) := by
    intro v0_3 H locs ls hJ hP hS hl
    have h := hj_29 v0_3 hJ
    refine lv_iconst (v := (1 : Int32)) hx hb d_M_power_29 (by decide) ?_
    refine gw_goi (gw_runV (As := [.int v0_3, .int (1 : Int32)]) (rest := []) hx hb hml hown htw hK hP hS hl.1 (w_M_fails hlo K v0_3 (1 : Int32) hΜ F_1 A _ h) k_M_fails mm_705 ⟨Nat.le_of_ble_eq_true rfl, Nat.le_of_ble_eq_true rfl⟩ rfl rfl (gMd_0 hΜ) rfl rfl rfl (Nat.le_of_ble_eq_true rfl) d_M_power_30) hS (fun r_4 F_4 A_4 H locs hw hP hS => ?_)
    obtain ⟨rfl, hw⟩ := hw
    have h := hw
    refine lv_if_eq (tgt := 38) hx hb d_M_power_33 (by decide) (fun c_33 => ?_) (fun c_33 => ?_)
    · have h := h.1 c_33
      refine lv_aload_n hx hb d_M_power_38 rfl (lv_at hl 0 rfl) ?_
      refine lv_iload_n hx hb d_M_power_39 rfl (lv_at hl 2 rfl) ?_
      refine lv_aload_n hx hb d_M_power_40 rfl (lv_at hl 0 rfl) ?_
      refine gs_get (v := .ref (K 54)) hx hb htw i_M hown hK hP (gMd_0 hΜ) rfl 6 (by decide) (htw _ mm_648) rfl d_M_power_41 ?_
      refine gw_goi (gw_runV (As := [.int p2, .ref (K 54)]) (rest := []) hx hb hml hown htw hK hP hS hl.1 (w_M_load hlo K p2 (K 54) (9000) hΜ (gMd_54 hΜ) F_4 A _ h) k_M_load mm_713 ⟨Nat.le_of_ble_eq_true rfl, Nat.le_of_ble_eq_true rfl⟩ rfl rfl (gMd_0 hΜ) rfl rfl rfl (Nat.le_of_ble_eq_true rfl) d_M_power_44) hS (fun r_5 F_5 A_5 H locs hw hP hS => ?_)
      obtain ⟨rfl, hw⟩ := hw
      have h := hw
      refine lv_istore (lv' := [(4, .int r_5), (0, .ref (K 49)), (1, .int p1), (2, .int p2), (3, .int p3)]) hx hb d_M_power_47 hl (by decide) rfl (fun ls hl => ?_)
      refine lv_aload_n hx hb d_M_power_49 rfl (lv_at hl 1 rfl) ?_
      refine gs_get (v := .ref (K 54)) hx hb htw i_M hown hK hP (gMd_0 hΜ) rfl 6 (by decide) (htw _ mm_648) rfl d_M_power_50 ?_
      refine lv_iload hx hb d_M_power_53 (lv_at hl 0 rfl) ?_
      refine gw_goi (gw_runS (As := [.ref (K 54), .int r_5]) (rest := []) hx hb hml hown htw hK hP hS hl.1 (w_M_bits hlo (K 54) (9000) r_5 (gMd_54 hΜ) F_4 A_5 _ h) k_M_bits mm_717 ⟨Nat.le_of_ble_eq_true rfl, Nat.le_of_ble_eq_true rfl⟩ rfl rfl rfl rfl (Nat.le_of_ble_eq_true rfl) d_M_power_55) hS (fun r_6 F_6 A_6 H locs hw hP hS => ?_)
      obtain ⟨rfl, hw⟩ := hw
      obtain ⟨rfl, hw⟩ := hw
      have h := hw
      refine lv_istore (lv' := [(5, .int r_6), (4, .int r_5), (0, .ref (K 49)), (1, .int p1), (2, .int p2), (3, .int p3)]) hx hb d_M_power_58 hl (by decide) rfl (fun ls hl => ?_)
      refine lv_aload_n hx hb d_M_power_60 rfl (lv_at hl 2 rfl) ?_
      refine gs_get (v := .ref (K 52)) hx hb htw i_M hown hK hP (gMd_0 hΜ) rfl 4 (by decide) (htw _ mm_646) rfl d_M_power_61 ?_
      refine lv_iload_n hx hb d_M_power_64 rfl (lv_at hl 4 rfl) ?_
      obtain ⟨hin, h⟩ := h
      refine gs_ild hx hb hK hP (gMd_52 hΜ) hin d_M_power_65 ?_
      obtain ⟨J_81, h, hj_81⟩ := h
      have join_81 : ∀ (v0_7 : Int32) (H : Heap) (locs : List Loc) (ls : Array Slot), J_81 v0_7 → va_P D gcls (gs_ws Λ F_4 A_5 L) H → va_S (gw_A Λ) s.heap H locs → lv_has ls 10 [(0, .ref (K 49)), (1, .int p1), (3, .int p3), (4, .int r_5), (5, .int r_6)] → W p l e rm_M_power s m args below meth c H locs 0 0 Q (F0 m 81 ls [.int v0_7]) := by
        intro v0_7 H locs ls hJ hP hS hl
        have h := hj_81 v0_7 hJ
        refine lv_istore (lv' := [(6, .int v0_7), (0, .ref (K 49)), (1, .int p1), (3, .int p3), (4, .int r_5), (5, .int r_6)]) hx hb d_M_power_81 hl (by decide) rfl (fun ls hl => ?_)
        refine lv_iconst (v := (1 : Int32)) hx hb d_M_power_83 (by decide) ?_
        refine lv_istore (lv' := [(7, .int (1 : Int32)), (6, .int v0_7), (0, .ref (K 49)), (1, .int p1), (3, .int p3), (4, .int r_5), (5, .int r_6)]) hx hb d_M_power_84 hl (by decide) rfl (fun ls hl => ?_)
        refine lv_aload_n hx hb d_M_power_86 rfl (lv_at hl 2 rfl) ?_
        refine gs_get (v := .ref (K 56)) hx hb htw i_M hown hK hP (gMd_0 hΜ) rfl 8 (by decide) (htw _ mm_650) rfl d_M_power_87 ?_
        refine lv_iconst (v := (0 : Int32)) hx hb d_M_power_90 (by decide) ?_
        refine lv_iconst (v := (1 : Int32)) hx hb d_M_power_91 (by decide) ?_
        obtain ⟨hin, h⟩ := h
        refine gs_ist hx hb hK hlo hP hS (gMd_56 hΜ) hin d_M_power_92 (fun A_8 eA_8 H locs hP hS => ?_)
        have h := h A_8 eA_8
        refine lv_iload_n hx hb d_M_power_93 rfl (lv_at hl 4 rfl) ?_
        obtain ⟨J_103, h, hj_103⟩ := h
        have join_103 : ∀  (H : Heap) (locs : List Loc) (ls : Array Slot), J_103 → va_P D gcls (gs_ws Λ F_4 A_8 L) H → va_S (gw_A Λ) s.heap H locs → lv_has ls 10 [(0, .ref (K 49)), (1, .int p1), (3, .int p3), (5, .int r_6), (6, .int v0_7)] → W p l e rm_M_power s m args below meth c H locs 0 0 Q (F0 m 103 ls []) := by
          intro  H locs ls hJ hP hS hl
          have h := hj_103  hJ
          refine lv_aload_n hx hb d_M_power_103 rfl (lv_at hl 0 rfl) ?_
          refine lv_iload_n hx hb d_M_power_104 rfl (lv_at hl 1 rfl) ?_
          refine lv_iload_n hx hb d_M_power_105 rfl (lv_at hl 2 rfl) ?_
          obtain ⟨J_115, h, hj_115⟩ := h
          have join_115 : ∀ (v0_10 : Int32) (H : Heap) (locs : List Loc) (ls : Array Slot), J_115 v0_10 → va_P D gcls (gs_ws Λ F_4 A_8 L) H → va_S (gw_A Λ) s.heap H locs → lv_has ls 10 [(0, .ref (K 49)), (1, .int p1), (3, .int p3), (5, .int r_6)] → W p l e rm_M_power s m args below meth c H locs 0 0 Q (F0 m 115 ls [.int v0_10, .int p1, .ref (K 49)]) := by
            intro v0_10 H locs ls hJ hP hS hl
            have h := hj_115 v0_10 hJ
            refine lv_aload_n hx hb d_M_power_115 rfl (lv_at hl 0 rfl) ?_
            refine gs_get (v := .ref (K 56)) hx hb htw i_M hown hK hP (gMd_0 hΜ) rfl 8 (by decide) (htw _ mm_650) rfl d_M_power_116 ?_
            refine lv_iload_n hx hb d_M_power_119 rfl (lv_at hl 2 rfl) ?_
            refine lv_if_eq (tgt := 129) hx hb d_M_power_120 (by decide) (fun c_120 => ?_) (fun c_120 => ?_)
            · have h := h.1 c_120
              refine lv_iconst (v := (1 : Int32)) hx hb d_M_power_129 (by decide) ?_
              refine lv_goto (tgt := 134) hx hb d_M_power_130 (by decide) ?_
              refine lv_iconst (v := (2 : Int32)) hx hb d_M_power_134 (by decide) ?_
              refine gw_goi (gw_runV (As := [.int p1, .int v0_10, .ref (K 56), .int (1 : Int32), .int (2 : Int32)]) (rest := []) hx hb hml hown htw hK hP hS hl.1 (w_M_keep hlo K p1 v0_10 (K 56) (9000) (1 : Int32) (2 : Int32) hΜ (gMd_56 hΜ) F_4 A_8 _ h) k_M_keep mm_721 ⟨Nat.le_of_ble_eq_true rfl, Nat.le_of_ble_eq_true rfl⟩ rfl rfl (gMd_0 hΜ) rfl rfl rfl (Nat.le_of_ble_eq_true rfl) d_M_power_135) hS (fun r_11 F_11 A_11 H locs hw hP hS => ?_)
              have h := hw
              refine lv_pop hx hb d_M_power_138 rfl ?_
              refine lv_aload_n hx hb d_M_power_139 rfl (lv_at hl 0 rfl) ?_
              refine lv_iload_n hx hb d_M_power_140 rfl (lv_at hl 1 rfl) ?_
              refine gw_goi (gw_runV (As := [.int p1]) (rest := []) hx hb hml hown htw hK hP hS hl.1 (w_M_size0 hlo K p1 hΜ F_11 A_11 _ h) k_M_size0 mm_709 ⟨Nat.le_of_ble_eq_true rfl, Nat.le_of_ble_eq_true rfl⟩ rfl rfl (gMd_0 hΜ) rfl rfl rfl (Nat.le_of_ble_eq_true rfl) d_M_power_141) hS (fun r_12 F_12 A_12 H locs hw hP hS => ?_)
              obtain ⟨rfl, hw⟩ := hw
              have h := hw
              rw [← hQe]
              exact gw_iret hx hb hr hlocks hP hK hS h d_M_power_144
            · have h := h.2 c_120
              refine lv_iload hx hb d_M_power_123 (lv_at hl 3 rfl) ?_
              refine lv_iconst (v := (1 : Int32)) hx hb d_M_power_125 (by decide) ?_
              refine lv_icmp_ne (tgt := 133) hx hb d_M_power_126 (by decide) (fun c_126 => ?_) (fun c_126 => ?_)
              · have h := h.1 c_126
                refine lv_iconst (v := (0 : Int32)) hx hb d_M_power_133 (by decide) ?_
                refine lv_iconst (v := (2 : Int32)) hx hb d_M_power_134 (by decide) ?_
                refine gw_goi (gw_runV (As := [.int p1, .int v0_10, .ref (K 56), .int (0 : Int32), .int (2 : Int32)]) (rest := []) hx hb hml hown htw hK hP hS hl.1 (w_M_keep hlo K p1 v0_10 (K 56) (9000) (0 : Int32) (2 : Int32) hΜ (gMd_56 hΜ) F_4 A_8 _ h) k_M_keep mm_721 ⟨Nat.le_of_ble_eq_true rfl, Nat.le_of_ble_eq_true rfl⟩ rfl rfl (gMd_0 hΜ) rfl rfl rfl (Nat.le_of_ble_eq_true rfl) d_M_power_135) hS (fun r_13 F_13 A_13 H locs hw hP hS => ?_)
                have h := hw
                refine lv_pop hx hb d_M_power_138 rfl ?_
                refine lv_aload_n hx hb d_M_power_139 rfl (lv_at hl 0 rfl) ?_
                refine lv_iload_n hx hb d_M_power_140 rfl (lv_at hl 1 rfl) ?_
                refine gw_goi (gw_runV (As := [.int p1]) (rest := []) hx hb hml hown htw hK hP hS hl.1 (w_M_size0 hlo K p1 hΜ F_13 A_13 _ h) k_M_size0 mm_709 ⟨Nat.le_of_ble_eq_true rfl, Nat.le_of_ble_eq_true rfl⟩ rfl rfl (gMd_0 hΜ) rfl rfl rfl (Nat.le_of_ble_eq_true rfl) d_M_power_141) hS (fun r_14 F_14 A_14 H locs hw hP hS => ?_)
                obtain ⟨rfl, hw⟩ := hw
                have h := hw
                rw [← hQe]
                exact gw_iret hx hb hr hlocks hP hK hS h d_M_power_144
              · have h := h.2 c_126
                refine lv_iconst (v := (1 : Int32)) hx hb d_M_power_129 (by decide) ?_
                refine lv_goto (tgt := 134) hx hb d_M_power_130 (by decide) ?_
                refine lv_iconst (v := (2 : Int32)) hx hb d_M_power_134 (by decide) ?_
                refine gw_goi (gw_runV (As := [.int p1, .int v0_10, .ref (K 56), .int (1 : Int32), .int (2 : Int32)]) (rest := []) hx hb hml hown htw hK hP hS hl.1 (w_M_keep hlo K p1 v0_10 (K 56) (9000) (1 : Int32) (2 : Int32) hΜ (gMd_56 hΜ) F_4 A_8 _ h) k_M_keep mm_721 ⟨Nat.le_of_ble_eq_true rfl, Nat.le_of_ble_eq_true rfl⟩ rfl rfl (gMd_0 hΜ) rfl rfl rfl (Nat.le_of_ble_eq_true rfl) d_M_power_135) hS (fun r_15 F_15 A_15 H locs hw hP hS => ?_)
                have h := hw
                refine lv_pop hx hb d_M_power_138 rfl ?_
                refine lv_aload_n hx hb d_M_power_139 rfl (lv_at hl 0 rfl) ?_
                refine lv_iload_n hx hb d_M_power_140 rfl (lv_at hl 1 rfl) ?_
                refine gw_goi (gw_runV (As := [.int p1]) (rest := []) hx hb hml hown htw hK hP hS hl.1 (w_M_size0 hlo K p1 hΜ F_15 A_15 _ h) k_M_size0 mm_709 ⟨Nat.le_of_ble_eq_true rfl, Nat.le_of_ble_eq_true rfl⟩ rfl rfl (gMd_0 hΜ) rfl rfl rfl (Nat.le_of_ble_eq_true rfl) d_M_power_141) hS (fun r_16 F_16 A_16 H locs hw hP hS => ?_)
                obtain ⟨rfl, hw⟩ := hw
                have h := hw
                rw [← hQe]
                exact gw_iret hx hb hr hlocks hP hK hS h d_M_power_144
          refine lv_if_ne (tgt := 113) hx hb d_M_power_106 (by decide) (fun c_106 => ?_) (fun c_106 => ?_)
          · have h := h.1 c_106
            refine lv_iload hx hb d_M_power_113 (lv_at hl 4 rfl) ?_
            exact join_115 v0_7 _ _ _ h hP hS (lv_sub hl [0, 1, 2, 3] rfl)
          · have h := h.2 c_106
            refine lv_iconst (v := (1 : Int32)) hx hb d_M_power_109 (by decide) ?_
            refine lv_goto (tgt := 115) hx hb d_M_power_110 (by decide) ?_
            exact join_115 (1 : Int32) _ _ _ h hP hS (lv_sub hl [0, 1, 2, 3] rfl)
        refine lv_if_eq (tgt := 103) hx hb d_M_power_94 (by decide) (fun c_94 => ?_) (fun c_94 => ?_)
        · have h := h.1 c_94
          exact join_103 _ _ _ h hP hS (lv_sub hl [2, 3, 4, 6, 1] rfl)
        · have h := h.2 c_94
          refine lv_iload hx hb d_M_power_97 (lv_at hl 6 rfl) ?_
          refine lv_iconst (v := (2 : Int32)) hx hb d_M_power_99 (by decide) ?_
          refine lv_icmp_ge (tgt := 145) hx hb d_M_power_100 (by decide) (fun c_100 => ?_) (fun c_100 => ?_)
          · have h := h.1 c_100
            refine lv_aload_n hx hb d_M_power_145 rfl (lv_at hl 2 rfl) ?_
            refine lv_iload hx hb d_M_power_146 (lv_at hl 6 rfl) ?_
            refine lv_iconst (v := (1 : Int32)) hx hb d_M_power_148 (by decide) ?_
            refine lv_isub hx hb d_M_power_149 ?_
            refine lv_i2l (v := ((r_6 - (1 : Int32)).toInt64)) hx hb d_M_power_150 (by rfl) ?_
            refine lv_iload_n hx hb d_M_power_151 rfl (lv_at hl 4 rfl) ?_
            refine lv_i2l (v := (p3.toInt64)) hx hb d_M_power_152 (by rfl) ?_
            refine lv_lmul hx hb d_M_power_153 ?_
            refine lv_ldc2 (v := (2048 : Int64)) hx hb hown (htw _ mm_798) d_M_power_154 ?_
            obtain ⟨J_166, h, hj_166⟩ := h
            have join_166 : ∀ (v0_17 : Int32) (H : Heap) (locs : List Loc) (ls : Array Slot), J_166 v0_17 → va_P D gcls (gs_ws Λ F_4 A_8 L) H → va_S (gw_A Λ) s.heap H locs → lv_has ls 10 [(0, .ref (K 49)), (1, .int p1), (3, .int p3), (4, .int r_5), (6, .int v0_7), (7, .int (1 : Int32))] → W p l e rm_M_power s m args below meth c H locs 0 0 Q (F0 m 166 ls [.int v0_17, .ref (K 49)]) := by
              intro v0_17 H locs ls hJ hP hS hl
              have h := hj_166 v0_17 hJ
              refine lv_iconst (v := (2 : Int32)) hx hb d_M_power_166 (by decide) ?_
              refine gw_goi (gw_runV (As := [.int v0_17, .int (2 : Int32)]) (rest := []) hx hb hml hown htw hK hP hS hl.1 (w_M_fails hlo K v0_17 (2 : Int32) hΜ F_4 A_8 _ h) k_M_fails mm_705 ⟨Nat.le_of_ble_eq_true rfl, Nat.le_of_ble_eq_true rfl⟩ rfl rfl (gMd_0 hΜ) rfl rfl rfl (Nat.le_of_ble_eq_true rfl) d_M_power_167) hS (fun r_18 F_18 A_18 H locs hw hP hS => ?_)
              obtain ⟨rfl, hw⟩ := hw
              have h := hw
              refine lv_if_eq (tgt := 175) hx hb d_M_power_170 (by decide) (fun c_170 => ?_) (fun c_170 => ?_)
              · have h := h.1 c_170
                refine lv_iconst (v := (0 : Int32)) hx hb d_M_power_175 (by decide) ?_
                refine lv_istore (lv' := [(8, .int (0 : Int32)), (0, .ref (K 49)), (1, .int p1), (3, .int p3), (4, .int r_5), (6, .int v0_7), (7, .int (1 : Int32))]) hx hb d_M_power_176 hl (by decide) rfl (fun ls hl => ?_)
                obtain ⟨I_178, μ_178, h0_178, hs_178⟩ := h
                have loop_178 : ∀ (N : Nat) (x7_19 : Int32) (x8_19 : Int32) (A_19 : gm_M) (H : Heap) (locs : List Loc) (ls : Array Slot), μ_178 x7_19 x8_19 A_19 < N → I_178 x7_19 x8_19 A_19 → va_P D gcls (gs_ws Λ F_18 A_19 L) H → va_S (gw_A Λ) s.heap H locs → lv_has ls 10 [(0, .ref (K 49)), (1, .int p1), (3, .int p3), (4, .int r_5), (6, .int v0_7), (7, .int x7_19), (8, .int x8_19)] → W p l e rm_M_power s m args below meth c H locs 0 0 Q (F0 m 178 ls []) := by
                  intro N
                  induction N with
                  | zero => intro x7_19 x8_19 A_19 H locs ls hμ; exact absurd hμ (Nat.not_lt_zero _)
                  | succ N ih_178 =>
                    intro x7_19 x8_19 A_19 H locs ls hμ_178 hI hP hS hl
                    have h := hs_178 x7_19 x8_19 A_19 hI
                    refine lv_iload hx hb d_M_power_178 (lv_at hl 6 rfl) ?_
                    refine lv_iload_n hx hb d_M_power_180 rfl (lv_at hl 2 rfl) ?_
                    refine lv_icmp_ge (tgt := 241) hx hb d_M_power_181 (by decide) (fun c_181 => ?_) (fun c_181 => ?_)
                    · have h := h.1 c_181
                      refine lv_aload_n hx hb d_M_power_241 rfl (lv_at hl 0 rfl) ?_
                      refine lv_iload_n hx hb d_M_power_242 rfl (lv_at hl 1 rfl) ?_
                      refine lv_iload hx hb d_M_power_243 (lv_at hl 4 rfl) ?_
                      refine lv_aload_n hx hb d_M_power_245 rfl (lv_at hl 0 rfl) ?_
                      refine gs_get (v := .ref (K 56)) hx hb htw i_M hown hK hP (gMd_0 hΜ) rfl 8 (by decide) (htw _ mm_650) rfl d_M_power_246 ?_
                      refine lv_iload hx hb d_M_power_249 (lv_at hl 5 rfl) ?_
                      refine lv_iconst (v := (2 : Int32)) hx hb d_M_power_251 (by decide) ?_
                      refine gw_goi (gw_runV (As := [.int p1, .int v0_7, .ref (K 56), .int x7_19, .int (2 : Int32)]) (rest := []) hx hb hml hown htw hK hP hS hl.1 (w_M_keep hlo K p1 v0_7 (K 56) (9000) x7_19 (2 : Int32) hΜ (gMd_56 hΜ) F_18 A_19 _ h) k_M_keep mm_721 ⟨Nat.le_of_ble_eq_true rfl, Nat.le_of_ble_eq_true rfl⟩ rfl rfl (gMd_0 hΜ) rfl rfl rfl (Nat.le_of_ble_eq_true rfl) d_M_power_252) hS (fun r_20 F_20 A_20 H locs hw hP hS => ?_)
                      have h := hw
                      refine lv_if_eq (tgt := 266) hx hb d_M_power_255 (by decide) (fun c_255 => ?_) (fun c_255 => ?_)
                      · have h := h.1 c_255
                        refine lv_iconst (v := (0 : Int32)) hx hb d_M_power_266 (by decide) ?_
                        rw [← hQe]
                        exact gw_iret hx hb hr hlocks hP hK hS h d_M_power_267
                      · have h := h.2 c_255
                        refine lv_aload_n hx hb d_M_power_258 rfl (lv_at hl 0 rfl) ?_
                        refine lv_iload_n hx hb d_M_power_259 rfl (lv_at hl 1 rfl) ?_
                        refine gw_goi (gw_runV (As := [.int p1]) (rest := []) hx hb hml hown htw hK hP hS hl.1 (w_M_size0 hlo K p1 hΜ F_20 A_20 _ h) k_M_size0 mm_709 ⟨Nat.le_of_ble_eq_true rfl, Nat.le_of_ble_eq_true rfl⟩ rfl rfl (gMd_0 hΜ) rfl rfl rfl (Nat.le_of_ble_eq_true rfl) d_M_power_260) hS (fun r_21 F_21 A_21 H locs hw hP hS => ?_)
                        obtain ⟨rfl, hw⟩ := hw
                        have h := hw
                        refine lv_goto (tgt := 267) hx hb d_M_power_263 (by decide) ?_
                        rw [← hQe]
                        exact gw_iret hx hb hr hlocks hP hK hS h d_M_power_267
                    · have h := h.2 c_181
                      refine lv_aload_n hx hb d_M_power_184 rfl (lv_at hl 0 rfl) ?_
                      refine gs_get (v := .ref (K 56)) hx hb htw i_M hown hK hP (gMd_0 hΜ) rfl 8 (by decide) (htw _ mm_650) rfl d_M_power_185 ?_
                      refine lv_iload hx hb d_M_power_188 (lv_at hl 5 rfl) ?_
                      refine lv_aload_n hx hb d_M_power_190 rfl (lv_at hl 0 rfl) ?_
                      refine gs_get (v := .ref (K 54)) hx hb htw i_M hown hK hP (gMd_0 hΜ) rfl 6 (by decide) (htw _ mm_648) rfl d_M_power_191 ?_
                      refine lv_iload hx hb d_M_power_194 (lv_at hl 3 rfl) ?_
                      refine lv_aload_n hx hb d_M_power_196 rfl (lv_at hl 0 rfl) ?_
                      refine gs_get (v := .ref (K 57)) hx hb htw i_M hown hK hP (gMd_0 hΜ) rfl 9 (by decide) (htw _ mm_651) rfl d_M_power_197 ?_
                      refine gw_goi (gw_runS (As := [.ref (K 56), .int x7_19, .ref (K 54), .int r_5, .ref (K 57)]) (rest := []) hx hb hml hown htw hK hP hS hl.1 (w_M_times hlo (K 56) (9000) x7_19 (K 54) (9000) r_5 (K 57) (9000) (gMd_56 hΜ) (gMd_54 hΜ) (gMd_57 hΜ) F_18 A_19 _ h) k_M_times mm_755 ⟨Nat.le_of_ble_eq_true rfl, Nat.le_of_ble_eq_true rfl⟩ rfl rfl rfl rfl (Nat.le_of_ble_eq_true rfl) d_M_power_200) hS (fun r_22 F_22 A_22 H locs hw hP hS => ?_)
                      obtain ⟨rfl, hw⟩ := hw
                      have h := hw
                      refine lv_istore (lv' := [(7, .int r_22), (0, .ref (K 49)), (1, .int p1), (3, .int p3), (4, .int r_5), (6, .int v0_7), (8, .int x8_19)]) hx hb d_M_power_203 hl (by decide) rfl (fun ls hl => ?_)
                      refine lv_iconst (v := (0 : Int32)) hx hb d_M_power_205 (by decide) ?_
                      refine lv_istore (lv' := [(9, .int (0 : Int32)), (7, .int r_22), (0, .ref (K 49)), (1, .int p1), (3, .int p3), (4, .int r_5), (6, .int v0_7), (8, .int x8_19)]) hx hb d_M_power_206 hl (by decide) rfl (fun ls hl => ?_)
                      obtain ⟨I_208, μ_208, h0_208, hs_208⟩ := h
                      have loop_208 : ∀ (N : Nat) (x9_23 : Int32) (A_23 : gm_M) (H : Heap) (locs : List Loc) (ls : Array Slot), μ_208 x9_23 A_23 < N → I_208 x9_23 A_23 → va_P D gcls (gs_ws Λ F_18 A_23 L) H → va_S (gw_A Λ) s.heap H locs → lv_has ls 10 [(0, .ref (K 49)), (1, .int p1), (3, .int p3), (4, .int r_5), (6, .int v0_7), (7, .int r_22), (8, .int x8_19), (9, .int x9_23)] → W p l e rm_M_power s m args below meth c H locs 0 0 Q (F0 m 208 ls []) := by
                        intro N
                        induction N with
                        | zero => intro x9_23 A_23 H locs ls hμ; exact absurd hμ (Nat.not_lt_zero _)
                        | succ N ih_208 =>
                          intro x9_23 A_23 H locs ls hμ_208 hI hP hS hl
                          have h := hs_208 x9_23 A_23 hI
                          refine lv_iload hx hb d_M_power_208 (lv_at hl 7 rfl) ?_
                          refine lv_iload hx hb d_M_power_210 (lv_at hl 5 rfl) ?_
                          refine lv_icmp_ge (tgt := 235) hx hb d_M_power_212 (by decide) (fun c_212 => ?_) (fun c_212 => ?_)
                          · have h := h.1 c_212
                            obtain ⟨x8_24, ex8_24⟩ : ∃ y : Int32, y = x8_19 + (1 : Int32) := ⟨_, rfl⟩
                            have h := h x8_24 ex8_24
                            refine lv_iinc (v := x8_24) (lv' := [(8, .int x8_24), (0, .ref (K 49)), (1, .int p1), (3, .int p3), (4, .int r_5), (6, .int v0_7), (7, .int r_22), (9, .int x9_23)]) hx hb d_M_power_235 hl (k := 6) rfl (by rw [ex8_24]; rfl) (by decide) rfl (fun ls hl => ?_)
                            refine lv_goto (tgt := 178) hx hb d_M_power_238 (by decide) ?_
                            exact ih_178 r_22 x8_24 A_23 _ _ _ (Nat.lt_of_lt_of_le h.2 (Nat.le_of_lt_succ hμ_178)) h.1 hP hS (lv_sub hl [1, 2, 3, 4, 5, 6, 0] rfl)
                          · have h := h.2 c_212
                            refine lv_aload_n hx hb d_M_power_215 rfl (lv_at hl 0 rfl) ?_
                            refine gs_get (v := .ref (K 56)) hx hb htw i_M hown hK hP (gMd_0 hΜ) rfl 8 (by decide) (htw _ mm_650) rfl d_M_power_216 ?_
                            refine lv_iload hx hb d_M_power_219 (lv_at hl 7 rfl) ?_
                            refine lv_aload_n hx hb d_M_power_221 rfl (lv_at hl 0 rfl) ?_
                            refine gs_get (v := .ref (K 57)) hx hb htw i_M hown hK hP (gMd_0 hΜ) rfl 9 (by decide) (htw _ mm_651) rfl d_M_power_222 ?_
                            refine lv_iload hx hb d_M_power_225 (lv_at hl 7 rfl) ?_
                            obtain ⟨hin, h⟩ := h
                            refine gs_ild hx hb hK hP (gMd_57 hΜ) hin d_M_power_227 ?_
                            obtain ⟨hin, h⟩ := h
                            refine gs_ist hx hb hK hlo hP hS (gMd_56 hΜ) hin d_M_power_228 (fun A_25 eA_25 H locs hP hS => ?_)
                            have h := h A_25 eA_25
                            obtain ⟨x9_26, ex9_26⟩ : ∃ y : Int32, y = x9_23 + (1 : Int32) := ⟨_, rfl⟩
                            have h := h x9_26 ex9_26
                            refine lv_iinc (v := x9_26) (lv' := [(9, .int x9_26), (0, .ref (K 49)), (1, .int p1), (3, .int p3), (4, .int r_5), (6, .int v0_7), (7, .int r_22), (8, .int x8_19)]) hx hb d_M_power_229 hl (k := 7) rfl (by rw [ex9_26]; rfl) (by decide) rfl (fun ls hl => ?_)
                            refine lv_goto (tgt := 208) hx hb d_M_power_232 (by decide) ?_
                            exact ih_208 x9_26 A_25 _ _ _ (Nat.lt_of_lt_of_le h.2 (Nat.le_of_lt_succ hμ_208)) h.1 hP hS (lv_sub hl [1, 2, 3, 4, 5, 6, 7, 0] rfl)
                      exact loop_208 (μ_208 (0 : Int32) A_22 + 1) (0 : Int32) A_22 _ _ _ (Nat.lt_succ_self _) h0_208 hP hS (lv_sub hl [2, 3, 4, 5, 6, 1, 7, 0] rfl)
                exact loop_178 (μ_178 (1 : Int32) (0 : Int32) A_8 + 1) (1 : Int32) (0 : Int32) A_8 _ _ _ (Nat.lt_succ_self _) h0_178 hP hS (lv_sub hl [1, 2, 3, 4, 5, 6, 0] rfl)
              · have h := h.2 c_170
                refine lv_iconst (v := (0 : Int32)) hx hb d_M_power_173 (by decide) ?_
                rw [← hQe]
                exact gw_iret hx hb hr hlocks hP hK hS h d_M_power_174
            refine gl_le (tgt := 165) hx hb d_M_power_157 d_M_power_158 (by decide) (fun c_158 => ?_) (fun c_158 => ?_)
            · have h := h.1 c_158
              refine lv_iconst (v := (0 : Int32)) hx hb d_M_power_165 (by decide) ?_
              exact join_166 (0 : Int32) _ _ _ h hP hS (lv_sub hl [2, 3, 4, 5, 1, 0] rfl)
            · have h := h.2 c_158
              refine lv_iconst (v := (1 : Int32)) hx hb d_M_power_161 (by decide) ?_
              refine lv_goto (tgt := 166) hx hb d_M_power_162 (by decide) ?_
              exact join_166 (1 : Int32) _ _ _ h hP hS (lv_sub hl [2, 3, 4, 5, 1, 0] rfl)
          · have h := h.2 c_100
            exact join_103 _ _ _ h hP hS (lv_sub hl [2, 3, 4, 6, 1] rfl)
      obtain ⟨J_80, h, hj_80⟩ := h
      have join_80 : ∀  (H : Heap) (locs : List Loc) (ls : Array Slot), J_80 → va_P D gcls (gs_ws Λ F_4 A_5 L) H → va_S (gw_A Λ) s.heap H locs → lv_has ls 10 [(0, .ref (K 49)), (1, .int p1), (3, .int p3), (4, .int r_5), (5, .int r_6)] → W p l e rm_M_power s m args below meth c H locs 0 0 Q (F0 m 80 ls []) := by
        intro  H locs ls hJ hP hS hl
        have h := hj_80  hJ
        refine lv_iconst (v := (1 : Int32)) hx hb d_M_power_80 (by decide) ?_
        exact join_81 (1 : Int32) _ _ _ h hP hS hl
      refine lv_if_ge (tgt := 80) hx hb d_M_power_66 (by decide) (fun c_66 => ?_) (fun c_66 => ?_)
      · have h := h.1 c_66
        exact join_80 _ _ _ h hP hS (lv_sub hl [2, 3, 5, 1, 0] rfl)
      · have h := h.2 c_66
        refine lv_iload_n hx hb d_M_power_69 rfl (lv_at hl 5 rfl) ?_
        refine lv_iconst (v := (1 : Int32)) hx hb d_M_power_70 (by decide) ?_
        refine lv_iand hx hb d_M_power_71 ?_
        refine lv_iconst (v := (1 : Int32)) hx hb d_M_power_72 (by decide) ?_
        refine lv_icmp_ne (tgt := 80) hx hb d_M_power_73 (by decide) (fun c_73 => ?_) (fun c_73 => ?_)
        · have h := h.1 c_73
          exact join_80 _ _ _ h hP hS (lv_sub hl [2, 3, 5, 1, 0] rfl)
        · have h := h.2 c_73
          refine lv_iconst (v := (-1 : Int32)) hx hb d_M_power_76 (by decide) ?_
          refine lv_goto (tgt := 81) hx hb d_M_power_77 (by decide) ?_
          exact join_81 (-1 : Int32) _ _ _ h hP hS (lv_sub hl [2, 3, 5, 1, 0] rfl)
    · have h := h.2 c_33
      refine lv_iconst (v := (0 : Int32)) hx hb d_M_power_36 (by decide) ?_
      rw [← hQe]
      exact gw_iret hx hb hr hlocks hP hK hS h d_M_power_37
  obtain ⟨J_24, h, hj_24⟩ := h
  have join_24 : ∀  (H : Heap) (locs : List Loc) (ls : Array Slot), J_24 → va_P D gcls (gs_ws Λ F_1 A L) H → va_S (gw_A Λ) s.heap H locs → lv_has ls 10 [(0, .ref (K 49)), (1, .int p1), (2, .int p2), (3, .int p3)] → W p l e rm_M_power s m args below meth c H locs 0 0 Q (F0 m 24 ls [.ref (K 49)]) := by
    intro  H locs ls hJ hP hS hl
    have h := hj_24  hJ
    refine lv_iconst (v := (1 : Int32)) hx hb d_M_power_24 (by decide) ?_
    refine lv_goto (tgt := 29) hx hb d_M_power_25 (by decide) ?_
    exact join_29 (1 : Int32) _ _ _ h hP hS hl
  refine lv_if_eq (tgt := 24) hx hb d_M_power_10 (by decide) (fun c_10 => ?_) (fun c_10 => ?_)
  · have h := h.1 c_10
    exact join_24 _ _ _ h hP hS hl
  · have h := h.2 c_10
    refine lv_iload_n hx hb d_M_power_13 rfl (lv_at hl 2 rfl) ?_
    refine gw_goi (gw_runS (As := [.int p2]) (rest := [.ref (K 49)]) hx hb hml hown htw hK hP hS hl.1 (w_M_isRegister hlo p2 F_1 A _ h) k_M_isRegister mm_699 ⟨Nat.le_of_ble_eq_true rfl, Nat.le_of_ble_eq_true rfl⟩ rfl rfl rfl rfl (Nat.le_of_ble_eq_true rfl) d_M_power_14) hS (fun r_29 F_29 A_29 H locs hw hP hS => ?_)
    obtain ⟨rfl, hw⟩ := hw
    obtain ⟨rfl, hw⟩ := hw
    have h := hw
    refine lv_if_eq (tgt := 24) hx hb d_M_power_17 (by decide) (fun c_17 => ?_) (fun c_17 => ?_)
    · have h := h.1 c_17
      exact join_24 _ _ _ h hP hS hl
    · have h := h.2 c_17
      refine lv_iload_n hx hb d_M_power_20 rfl (lv_at hl 3 rfl) ?_
      refine lv_if_ge (tgt := 28) hx hb d_M_power_21 (by decide) (fun c_21 => ?_) (fun c_21 => ?_)
      · have h := h.1 c_21
        refine lv_iconst (v := (0 : Int32)) hx hb d_M_power_28 (by decide) ?_
        exact join_29 (0 : Int32) _ _ _ h hP hS hl
      · have h := h.2 c_21
        exact join_24 _ _ _ h hP hS hl
