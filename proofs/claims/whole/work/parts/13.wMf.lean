variable {l : Launch} {D : va_G} {cI cB cJ cW : ClassId} {Λ : gs_L} {L : Nat → Nat → Int64}
abbrev rm_M_work : Room := { frames := 2, cells := 0, slots := 0, locals := 50 }
set_option maxHeartbeats 4000000 in
set_option maxRecDepth 100000 in
theorem w_M_work (hlo : gs_D Λ) (K : Nat → Nat) (p1 : Int32) (p2 : Int32) (p3 : Int32) (p4 : Int32) (hΜ : gMd cI Λ K) (F A : gm_M) (post : Int32 → gm_M → gm_M → Prop) (h : vc_M_work K p1 p2 p3 p4 F A post) : Met l y_M_work (.code y_M_work b_M_work 10 (some .int) :: gw_WS) rm_M_work (va_Pc [.ref (K 49), .int p1, .int p2, .int p3, .int p4] (gw_P D cI cB cJ cW Λ L F A)) (gw_Qi D cI cB cJ cW Λ L (fun r F2 A2 => post r F2 A2)) 0 0 (gw_A Λ) := by
  refine Met.ofW (cc := b_M_work) (maxL := 10) (ret := (some .int)) (by decide) rfl ?_
  intro p e s m args below meth c s₁ B hml hv
  obtain ⟨hargs, hP, hK⟩ := hv
  have hx := B.exec
  have hb := B.bytes
  have hr := B.returns
  have hlocks := B.notSynchronized
  have htw : ∀ w ∈ gw_WS, w.before args s = true := fun w h9 => atoms_spec (ws := .code y_M_work b_M_work 10 (some .int) :: gw_WS) B.pre w (List.mem_cons_of_mem _ h9)
  have hown : s.vm.findClass R_M = some m.cls := findClass_of_methodNamed B.named
  have hS : va_S (gw_A Λ) s.heap s.heap [] := va_S.rf
  refine W.eq (g2 := entryFrame m ([.ref (K 49), .int p1, .int p2, .int p3, .int p4] : List Value).toArray 10) (by rw [hargs]) ?_
  have hl := lv_entry ([.ref (K 49), .int p1, .int p2, .int p3, .int p4]) (n := 10) (Nat.le_of_ble_eq_true rfl)
  rw [lg_entry_eq]
  generalize (lg_sl ([.ref (K 49), .int p1, .int p2, .int p3, .int p4]) ++ List.replicate (10 - (lg_sl ([.ref (K 49), .int p1, .int p2, .int p3, .int p4])).length) Slot.unset).toArray = ls at hl ⊢
  have hl : lv_has ls 10 [(0, .ref (K 49)), (1, .int p1), (2, .int p2), (3, .int p3), (4, .int p4)] := hl
  generalize hQe : MQ below (gw_Qi D cI cB cJ cW Λ L (fun r F2 A2 => post r F2 A2)) args s 0 0 (gw_A Λ) = Q
  unfold vc_M_work at h
  refine lv_aload_n hx hb d_M_work_0 rfl (lv_at hl 0 rfl) ?_
  refine lv_iconst (v := (0 : Int32)) hx hb d_M_work_1 (by decide) ?_
  refine gs_put (ty := .int) hx hb htw i_M tf_M tf_M_ok n_M hown hK hlo hP hS (gMd_0 hΜ) rfl 0 (by decide) rfl (htw _ mm_642) rfl (by decide +kernel) rfl rfl d_M_work_2 (fun F_1 eF_1 H locs hP hS => ?_)
  have h := h F_1 eF_1
  refine lv_aload_n hx hb d_M_work_5 rfl (lv_at hl 0 rfl) ?_
  refine lv_iload_n hx hb d_M_work_6 rfl (lv_at hl 1 rfl) ?_
  refine lv_iconst (v := (0 : Int32)) hx hb d_M_work_7 (by decide) ?_
  refine lv_iconst (v := (2 : Int32)) hx hb d_M_work_8 (by decide) ?_
  refine gw_goi (gw_runS (As := [.int p1, .int (0 : Int32), .int (2 : Int32)]) (rest := [.ref (K 49)]) hx hb hml hown htw hK hP hS hl.1 (w_M_in hlo p1 (0 : Int32) (2 : Int32) F_1 A _ h) k_M_in mm_702 ⟨Nat.le_of_ble_eq_true rfl, Nat.le_of_ble_eq_true rfl⟩ rfl rfl rfl rfl (Nat.le_of_ble_eq_true rfl) d_M_work_9) hS (fun r_2 F_2 A_2 H locs hw hP hS => ?_)
  obtain ⟨rfl, hw⟩ := hw
  obtain ⟨rfl, hw⟩ := hw
  have h := hw
  obtain ⟨J_42, h, hj_42⟩ := h
  have join_42 : ∀ (v0_3 : Int32) (H : Heap) (locs : List Loc) (ls : Array Slot), J_42 v0_3 → va_P D gcls (gs_ws Λ F_1 A L) H → va_S (gw_A Λ) s.heap H locs → lv_has ls 10 [(0, .ref (K 49)), (1, .int p1), (2, .int p2), (3, .int p3), (4, .int p4)] → W p l e rm_M_work s m args below meth c H locs 0 0 Q (F0 m 42 ls [.int v0_3, .ref (K 49)]) := by
    intro v0_3 H locs ls hJ hP hS hl
    have h := hj_42 v0_3 hJ
    refine lv_iconst (v := (1 : Int32)) hx hb d_M_work_42 (by decide) ?_
    refine gw_goi (gw_runV (As := [.int v0_3, .int (1 : Int32)]) (rest := []) hx hb hml hown htw hK hP hS hl.1 (w_M_fails hlo K v0_3 (1 : Int32) hΜ F_1 A _ h) k_M_fails mm_705 ⟨Nat.le_of_ble_eq_true rfl, Nat.le_of_ble_eq_true rfl⟩ rfl rfl (gMd_0 hΜ) rfl rfl rfl (Nat.le_of_ble_eq_true rfl) d_M_work_43) hS (fun r_4 F_4 A_4 H locs hw hP hS => ?_)
    obtain ⟨rfl, hw⟩ := hw
    have h := hw
    refine lv_if_eq (tgt := 51) hx hb d_M_work_46 (by decide) (fun c_46 => ?_) (fun c_46 => ?_)
    · have h := h.1 c_46
      refine lv_aload_n hx hb d_M_work_51 rfl (lv_at hl 0 rfl) ?_
      refine lv_iload_n hx hb d_M_work_52 rfl (lv_at hl 3 rfl) ?_
      refine lv_aload_n hx hb d_M_work_53 rfl (lv_at hl 0 rfl) ?_
      refine gs_get (v := .ref (K 54)) hx hb htw i_M hown hK hP (gMd_0 hΜ) rfl 6 (by decide) (htw _ mm_648) rfl d_M_work_54 ?_
      refine gw_goi (gw_runV (As := [.int p3, .ref (K 54)]) (rest := []) hx hb hml hown htw hK hP hS hl.1 (w_M_load hlo K p3 (K 54) (9000) hΜ (gMd_54 hΜ) F_4 A _ h) k_M_load mm_713 ⟨Nat.le_of_ble_eq_true rfl, Nat.le_of_ble_eq_true rfl⟩ rfl rfl (gMd_0 hΜ) rfl rfl rfl (Nat.le_of_ble_eq_true rfl) d_M_work_57) hS (fun r_5 F_5 A_5 H locs hw hP hS => ?_)
      obtain ⟨rfl, hw⟩ := hw
      have h := hw
      refine lv_istore (lv' := [(5, .int r_5), (0, .ref (K 49)), (1, .int p1), (2, .int p2), (3, .int p3), (4, .int p4)]) hx hb d_M_work_60 hl (by decide) rfl (fun ls hl => ?_)
      refine lv_aload_n hx hb d_M_work_62 rfl (lv_at hl 1 rfl) ?_
      refine lv_iload hx hb d_M_work_63 (lv_at hl 5 rfl) ?_
      refine lv_aload_n hx hb d_M_work_65 rfl (lv_at hl 1 rfl) ?_
      refine gs_get (v := .ref (K 55)) hx hb htw i_M hown hK hP (gMd_0 hΜ) rfl 7 (by decide) (htw _ mm_649) rfl d_M_work_66 ?_
      refine gw_goi (gw_runV (As := [.int p4, .ref (K 55)]) (rest := []) hx hb hml hown htw hK hP hS hl.1 (w_M_load hlo K p4 (K 55) (9000) hΜ (gMd_55 hΜ) F_4 A_5 _ h) k_M_load mm_713 ⟨Nat.le_of_ble_eq_true rfl, Nat.le_of_ble_eq_true rfl⟩ rfl rfl (gMd_0 hΜ) rfl rfl rfl (Nat.le_of_ble_eq_true rfl) d_M_work_69) hS (fun r_6 F_6 A_6 H locs hw hP hS => ?_)
      obtain ⟨rfl, hw⟩ := hw
      have h := hw
      refine lv_istore (lv' := [(6, .int r_6), (5, .int r_5), (0, .ref (K 49)), (1, .int p1), (2, .int p2), (3, .int p3), (4, .int p4)]) hx hb d_M_work_72 hl (by decide) rfl (fun ls hl => ?_)
      refine lv_aload_n hx hb d_M_work_74 rfl (lv_at hl 2 rfl) ?_
      refine gs_get (v := .ref (K 52)) hx hb htw i_M hown hK hP (gMd_0 hΜ) rfl 4 (by decide) (htw _ mm_646) rfl d_M_work_75 ?_
      refine lv_iload_n hx hb d_M_work_78 rfl (lv_at hl 5 rfl) ?_
      obtain ⟨hin, h⟩ := h
      refine gs_ild hx hb hK hP (gMd_52 hΜ) hin d_M_work_79 ?_
      refine lv_topi (fun x7_7 ex7_7 => ?_)
      have h := h x7_7 ex7_7
      refine lv_istore (lv' := [(7, .int x7_7), (6, .int r_6), (5, .int r_5), (0, .ref (K 49)), (1, .int p1), (2, .int p2), (3, .int p3), (4, .int p4)]) hx hb d_M_work_80 hl (by decide) rfl (fun ls hl => ?_)
      refine lv_iload_n hx hb d_M_work_82 rfl (lv_at hl 4 rfl) ?_
      refine lv_iconst (v := (1 : Int32)) hx hb d_M_work_83 (by decide) ?_
      obtain ⟨J_105, h, hj_105⟩ := h
      have join_105 : ∀ (v0_8 : Int32) (H : Heap) (locs : List Loc) (ls : Array Slot), J_105 v0_8 → va_P D gcls (gs_ws Λ F_4 A_6 L) H → va_S (gw_A Λ) s.heap H locs → lv_has ls 10 [(0, .ref (K 49)), (1, .int p1), (2, .int p2), (5, .int r_5), (6, .int r_6), (7, .int x7_7)] → W p l e rm_M_work s m args below meth c H locs 0 0 Q (F0 m 105 ls [.int v0_8]) := by
        intro v0_8 H locs ls hJ hP hS hl
        have h := hj_105 v0_8 hJ
        refine lv_istore (lv' := [(8, .int v0_8), (0, .ref (K 49)), (1, .int p1), (2, .int p2), (5, .int r_5), (6, .int r_6), (7, .int x7_7)]) hx hb d_M_work_105 hl (by decide) rfl (fun ls hl => ?_)
        refine lv_iload_n hx hb d_M_work_107 rfl (lv_at hl 2 rfl) ?_
        refine lv_iconst (v := (2 : Int32)) hx hb d_M_work_108 (by decide) ?_
        refine lv_icmp_ne (tgt := 151) hx hb d_M_work_109 (by decide) (fun c_109 => ?_) (fun c_109 => ?_)
        · have h := h.1 c_109
          refine lv_iload hx hb d_M_work_151 (lv_at hl 6 rfl) ?_
          refine lv_iload hx hb d_M_work_153 (lv_at hl 0 rfl) ?_
          obtain ⟨J_168, h, hj_168⟩ := h
          have join_168 : ∀  (H : Heap) (locs : List Loc) (ls : Array Slot), J_168 → va_P D gcls (gs_ws Λ F_4 A_6 L) H → va_S (gw_A Λ) s.heap H locs → lv_has ls 10 [(0, .ref (K 49)), (2, .int p2), (5, .int r_5), (6, .int r_6), (7, .int x7_7), (8, .int v0_8)] → W p l e rm_M_work s m args below meth c H locs 0 0 Q (F0 m 168 ls []) := by
            intro  H locs ls hJ hP hS hl
            have h := hj_168  hJ
            refine lv_aload_n hx hb d_M_work_168 rfl (lv_at hl 0 rfl) ?_
            refine lv_iload_n hx hb d_M_work_169 rfl (lv_at hl 1 rfl) ?_
            refine lv_iload hx hb d_M_work_170 (lv_at hl 4 rfl) ?_
            obtain ⟨J_182, h, hj_182⟩ := h
            have join_182 : ∀ (v0_10 : Int32) (H : Heap) (locs : List Loc) (ls : Array Slot), J_182 v0_10 → va_P D gcls (gs_ws Λ F_4 A_6 L) H → va_S (gw_A Λ) s.heap H locs → lv_has ls 10 [(0, .ref (K 49)), (2, .int p2), (5, .int r_5), (6, .int r_6)] → W p l e rm_M_work s m args below meth c H locs 0 0 Q (F0 m 182 ls [.int v0_10, .int p2, .ref (K 49)]) := by
              intro v0_10 H locs ls hJ hP hS hl
              have h := hj_182 v0_10 hJ
              refine lv_aload_n hx hb d_M_work_182 rfl (lv_at hl 0 rfl) ?_
              refine gs_get (v := .ref (K 56)) hx hb htw i_M hown hK hP (gMd_0 hΜ) rfl 8 (by decide) (htw _ mm_650) rfl d_M_work_183 ?_
              refine lv_aload_n hx hb d_M_work_186 rfl (lv_at hl 0 rfl) ?_
              refine gs_get (v := .ref (K 54)) hx hb htw i_M hown hK hP (gMd_0 hΜ) rfl 6 (by decide) (htw _ mm_648) rfl d_M_work_187 ?_
              refine lv_iload hx hb d_M_work_190 (lv_at hl 2 rfl) ?_
              refine lv_aload_n hx hb d_M_work_192 rfl (lv_at hl 0 rfl) ?_
              refine gs_get (v := .ref (K 55)) hx hb htw i_M hown hK hP (gMd_0 hΜ) rfl 7 (by decide) (htw _ mm_649) rfl d_M_work_193 ?_
              refine lv_iload hx hb d_M_work_196 (lv_at hl 3 rfl) ?_
              refine lv_aload_n hx hb d_M_work_198 rfl (lv_at hl 0 rfl) ?_
              refine gs_get (v := .ref (K 56)) hx hb htw i_M hown hK hP (gMd_0 hΜ) rfl 8 (by decide) (htw _ mm_650) rfl d_M_work_199 ?_
              refine gw_goi (gw_runS (As := [.ref (K 54), .int r_5, .ref (K 55), .int r_6, .ref (K 56)]) (rest := [.ref (K 56), .int v0_10, .int p2, .ref (K 49)]) hx hb hml hown htw hK hP hS hl.1 (w_M_plus hlo (K 54) (9000) r_5 (K 55) (9000) r_6 (K 56) (9000) (gMd_54 hΜ) (gMd_55 hΜ) (gMd_56 hΜ) F_4 A_6 _ h) k_M_plus mm_758 ⟨Nat.le_of_ble_eq_true rfl, Nat.le_of_ble_eq_true rfl⟩ rfl rfl rfl rfl (Nat.le_of_ble_eq_true rfl) d_M_work_202) hS (fun r_11 F_11 A_11 H locs hw hP hS => ?_)
              obtain ⟨rfl, hw⟩ := hw
              have h := hw
              refine lv_iconst (v := (2 : Int32)) hx hb d_M_work_205 (by decide) ?_
              refine gw_goi (gw_runV (As := [.int p2, .int v0_10, .ref (K 56), .int r_11, .int (2 : Int32)]) (rest := []) hx hb hml hown htw hK hP hS hl.1 (w_M_keep hlo K p2 v0_10 (K 56) (9000) r_11 (2 : Int32) hΜ (gMd_56 hΜ) F_4 A_11 _ h) k_M_keep mm_721 ⟨Nat.le_of_ble_eq_true rfl, Nat.le_of_ble_eq_true rfl⟩ rfl rfl (gMd_0 hΜ) rfl rfl rfl (Nat.le_of_ble_eq_true rfl) d_M_work_206) hS (fun r_12 F_12 A_12 H locs hw hP hS => ?_)
              have h := hw
              refine lv_istore (lv' := [(9, .int r_12), (0, .ref (K 49)), (2, .int p2), (5, .int r_5), (6, .int r_6)]) hx hb d_M_work_209 hl (by decide) rfl (fun ls hl => ?_)
              refine lv_goto (tgt := 301) hx hb d_M_work_211 (by decide) ?_
              refine lv_iload hx hb d_M_work_301 (lv_at hl 0 rfl) ?_
              refine lv_if_eq (tgt := 315) hx hb d_M_work_303 (by decide) (fun c_303 => ?_) (fun c_303 => ?_)
              · have h := h.1 c_303
                refine lv_iconst (v := (0 : Int32)) hx hb d_M_work_315 (by decide) ?_
                rw [← hQe]
                exact gw_iret hx hb hr hlocks hP hK hS h d_M_work_316
              · have h := h.2 c_303
                refine lv_aload_n hx hb d_M_work_306 rfl (lv_at hl 1 rfl) ?_
                refine gs_get (v := .ref (K 52)) hx hb htw i_M hown hK hP (gMd_0 hΜ) rfl 4 (by decide) (htw _ mm_646) rfl d_M_work_307 ?_
                refine lv_iload_n hx hb d_M_work_310 rfl (lv_at hl 2 rfl) ?_
                obtain ⟨hin, h⟩ := h
                refine gs_ild hx hb hK hP (gMd_52 hΜ) hin d_M_work_311 ?_
                refine lv_goto (tgt := 316) hx hb d_M_work_312 (by decide) ?_
                rw [← hQe]
                exact gw_iret hx hb hr hlocks hP hK hS h d_M_work_316
            refine lv_if_eq (tgt := 180) hx hb d_M_work_172 (by decide) (fun c_172 => ?_) (fun c_172 => ?_)
            · have h := h.1 c_172
              refine lv_iload hx hb d_M_work_180 (lv_at hl 5 rfl) ?_
              exact join_182 v0_8 _ _ _ h hP hS (lv_sub hl [0, 1, 2, 3] rfl)
            · have h := h.2 c_172
              refine lv_iload hx hb d_M_work_175 (lv_at hl 4 rfl) ?_
              refine lv_goto (tgt := 182) hx hb d_M_work_177 (by decide) ?_
              exact join_182 x7_7 _ _ _ h hP hS (lv_sub hl [0, 1, 2, 3] rfl)
          refine lv_icmp_eq (tgt := 168) hx hb d_M_work_155 (by decide) (fun c_155 => ?_) (fun c_155 => ?_)
          · have h := h.1 c_155
            exact join_168 _ _ _ h hP hS (lv_sub hl [1, 3, 4, 5, 6, 0] rfl)
          · have h := h.2 c_155
            refine lv_iload hx hb d_M_work_158 (lv_at hl 0 rfl) ?_
            refine lv_if_eq (tgt := 168) hx hb d_M_work_160 (by decide) (fun c_160 => ?_) (fun c_160 => ?_)
            · have h := h.1 c_160
              exact join_168 _ _ _ h hP hS (lv_sub hl [1, 3, 4, 5, 6, 0] rfl)
            · have h := h.2 c_160
              refine lv_iload hx hb d_M_work_163 (lv_at hl 6 rfl) ?_
              refine lv_if_ne (tgt := 214) hx hb d_M_work_165 (by decide) (fun c_165 => ?_) (fun c_165 => ?_)
              · have h := h.1 c_165
                refine lv_aload_n hx hb d_M_work_214 rfl (lv_at hl 1 rfl) ?_
                refine gs_get (v := .ref (K 54)) hx hb htw i_M hown hK hP (gMd_0 hΜ) rfl 6 (by decide) (htw _ mm_648) rfl d_M_work_215 ?_
                refine lv_iload hx hb d_M_work_218 (lv_at hl 4 rfl) ?_
                refine lv_aload_n hx hb d_M_work_220 rfl (lv_at hl 1 rfl) ?_
                refine gs_get (v := .ref (K 55)) hx hb htw i_M hown hK hP (gMd_0 hΜ) rfl 7 (by decide) (htw _ mm_649) rfl d_M_work_221 ?_
                refine lv_iload hx hb d_M_work_224 (lv_at hl 5 rfl) ?_
                refine gw_goi (gw_runS (As := [.ref (K 54), .int r_5, .ref (K 55), .int r_6]) (rest := []) hx hb hml hown htw hK hP hS hl.1 (w_M_compared hlo (K 54) (9000) r_5 (K 55) (9000) r_6 (gMd_54 hΜ) (gMd_55 hΜ) F_4 A_6 _ h) k_M_compared mm_762 ⟨Nat.le_of_ble_eq_true rfl, Nat.le_of_ble_eq_true rfl⟩ rfl rfl rfl rfl (Nat.le_of_ble_eq_true rfl) d_M_work_226) hS (fun r_13 F_13 A_13 H locs hw hP hS => ?_)
                obtain ⟨rfl, hw⟩ := hw
                obtain ⟨rfl, hw⟩ := hw
                have h := hw
                refine lv_if_lt (tgt := 268) hx hb d_M_work_229 (by decide) (fun c_229 => ?_) (fun c_229 => ?_)
                · have h := h.1 c_229
                  refine lv_aload_n hx hb d_M_work_268 rfl (lv_at hl 1 rfl) ?_
                  refine lv_iload_n hx hb d_M_work_269 rfl (lv_at hl 3 rfl) ?_
                  refine lv_iload hx hb d_M_work_270 (lv_at hl 0 rfl) ?_
                  refine lv_aload_n hx hb d_M_work_272 rfl (lv_at hl 1 rfl) ?_
                  refine gs_get (v := .ref (K 56)) hx hb htw i_M hown hK hP (gMd_0 hΜ) rfl 8 (by decide) (htw _ mm_650) rfl d_M_work_273 ?_
                  refine lv_aload_n hx hb d_M_work_276 rfl (lv_at hl 1 rfl) ?_
                  refine gs_get (v := .ref (K 55)) hx hb htw i_M hown hK hP (gMd_0 hΜ) rfl 7 (by decide) (htw _ mm_649) rfl d_M_work_277 ?_
                  refine lv_iload hx hb d_M_work_280 (lv_at hl 5 rfl) ?_
                  refine lv_aload_n hx hb d_M_work_282 rfl (lv_at hl 1 rfl) ?_
                  refine gs_get (v := .ref (K 54)) hx hb htw i_M hown hK hP (gMd_0 hΜ) rfl 6 (by decide) (htw _ mm_648) rfl d_M_work_283 ?_
                  refine lv_iload hx hb d_M_work_286 (lv_at hl 4 rfl) ?_
                  refine lv_aload_n hx hb d_M_work_288 rfl (lv_at hl 1 rfl) ?_
                  refine gs_get (v := .ref (K 56)) hx hb htw i_M hown hK hP (gMd_0 hΜ) rfl 8 (by decide) (htw _ mm_650) rfl d_M_work_289 ?_
                  refine gw_goi (gw_runS (As := [.ref (K 55), .int r_6, .ref (K 54), .int r_5, .ref (K 56)]) (rest := [.ref (K 56), .int v0_8, .int p2, .ref (K 49)]) hx hb hml hown htw hK hP hS hl.1 (w_M_less hlo (K 55) (9000) r_6 (K 54) (9000) r_5 (K 56) (9000) (gMd_55 hΜ) (gMd_54 hΜ) (gMd_56 hΜ) F_4 A_6 _ h) k_M_less mm_765 ⟨Nat.le_of_ble_eq_true rfl, Nat.le_of_ble_eq_true rfl⟩ rfl rfl rfl rfl (Nat.le_of_ble_eq_true rfl) d_M_work_292) hS (fun r_14 F_14 A_14 H locs hw hP hS => ?_)
                  obtain ⟨rfl, hw⟩ := hw
                  have h := hw
                  refine lv_iconst (v := (2 : Int32)) hx hb d_M_work_295 (by decide) ?_
                  refine gw_goi (gw_runV (As := [.int p2, .int v0_8, .ref (K 56), .int r_14, .int (2 : Int32)]) (rest := []) hx hb hml hown htw hK hP hS hl.1 (w_M_keep hlo K p2 v0_8 (K 56) (9000) r_14 (2 : Int32) hΜ (gMd_56 hΜ) F_4 A_14 _ h) k_M_keep mm_721 ⟨Nat.le_of_ble_eq_true rfl, Nat.le_of_ble_eq_true rfl⟩ rfl rfl (gMd_0 hΜ) rfl rfl rfl (Nat.le_of_ble_eq_true rfl) d_M_work_296) hS (fun r_15 F_15 A_15 H locs hw hP hS => ?_)
                  have h := hw
                  refine lv_istore (lv' := [(9, .int r_15), (8, .int v0_8), (0, .ref (K 49)), (1, .int p1), (2, .int p2), (5, .int r_5), (6, .int r_6), (7, .int x7_7)]) hx hb d_M_work_299 hl (by decide) rfl (fun ls hl => ?_)
                  refine lv_iload hx hb d_M_work_301 (lv_at hl 0 rfl) ?_
                  refine lv_if_eq (tgt := 315) hx hb d_M_work_303 (by decide) (fun c_303 => ?_) (fun c_303 => ?_)
                  · have h := h.1 c_303
                    refine lv_iconst (v := (0 : Int32)) hx hb d_M_work_315 (by decide) ?_
                    rw [← hQe]
                    exact gw_iret hx hb hr hlocks hP hK hS h d_M_work_316
                  · have h := h.2 c_303
                    refine lv_aload_n hx hb d_M_work_306 rfl (lv_at hl 2 rfl) ?_
                    refine gs_get (v := .ref (K 52)) hx hb htw i_M hown hK hP (gMd_0 hΜ) rfl 4 (by decide) (htw _ mm_646) rfl d_M_work_307 ?_
                    refine lv_iload_n hx hb d_M_work_310 rfl (lv_at hl 4 rfl) ?_
                    obtain ⟨hin, h⟩ := h
                    refine gs_ild hx hb hK hP (gMd_52 hΜ) hin d_M_work_311 ?_
                    refine lv_goto (tgt := 316) hx hb d_M_work_312 (by decide) ?_
                    rw [← hQe]
                    exact gw_iret hx hb hr hlocks hP hK hS h d_M_work_316
                · have h := h.2 c_229
                  refine lv_aload_n hx hb d_M_work_232 rfl (lv_at hl 1 rfl) ?_
                  refine lv_iload_n hx hb d_M_work_233 rfl (lv_at hl 3 rfl) ?_
                  refine lv_iload hx hb d_M_work_234 (lv_at hl 6 rfl) ?_
                  refine lv_aload_n hx hb d_M_work_236 rfl (lv_at hl 1 rfl) ?_
                  refine gs_get (v := .ref (K 56)) hx hb htw i_M hown hK hP (gMd_0 hΜ) rfl 8 (by decide) (htw _ mm_650) rfl d_M_work_237 ?_
                  refine lv_aload_n hx hb d_M_work_240 rfl (lv_at hl 1 rfl) ?_
                  refine gs_get (v := .ref (K 54)) hx hb htw i_M hown hK hP (gMd_0 hΜ) rfl 6 (by decide) (htw _ mm_648) rfl d_M_work_241 ?_
                  refine lv_iload hx hb d_M_work_244 (lv_at hl 4 rfl) ?_
                  refine lv_aload_n hx hb d_M_work_246 rfl (lv_at hl 1 rfl) ?_
                  refine gs_get (v := .ref (K 55)) hx hb htw i_M hown hK hP (gMd_0 hΜ) rfl 7 (by decide) (htw _ mm_649) rfl d_M_work_247 ?_
                  refine lv_iload hx hb d_M_work_250 (lv_at hl 5 rfl) ?_
                  refine lv_aload_n hx hb d_M_work_252 rfl (lv_at hl 1 rfl) ?_
                  refine gs_get (v := .ref (K 56)) hx hb htw i_M hown hK hP (gMd_0 hΜ) rfl 8 (by decide) (htw _ mm_650) rfl d_M_work_253 ?_
                  refine gw_goi (gw_runS (As := [.ref (K 54), .int r_5, .ref (K 55), .int r_6, .ref (K 56)]) (rest := [.ref (K 56), .int x7_7, .int p2, .ref (K 49)]) hx hb hml hown htw hK hP hS hl.1 (w_M_less hlo (K 54) (9000) r_5 (K 55) (9000) r_6 (K 56) (9000) (gMd_54 hΜ) (gMd_55 hΜ) (gMd_56 hΜ) F_4 A_6 _ h) k_M_less mm_765 ⟨Nat.le_of_ble_eq_true rfl, Nat.le_of_ble_eq_true rfl⟩ rfl rfl rfl rfl (Nat.le_of_ble_eq_true rfl) d_M_work_256) hS (fun r_16 F_16 A_16 H locs hw hP hS => ?_)
                  obtain ⟨rfl, hw⟩ := hw
                  have h := hw
                  refine lv_iconst (v := (2 : Int32)) hx hb d_M_work_259 (by decide) ?_
                  refine gw_goi (gw_runV (As := [.int p2, .int x7_7, .ref (K 56), .int r_16, .int (2 : Int32)]) (rest := []) hx hb hml hown htw hK hP hS hl.1 (w_M_keep hlo K p2 x7_7 (K 56) (9000) r_16 (2 : Int32) hΜ (gMd_56 hΜ) F_4 A_16 _ h) k_M_keep mm_721 ⟨Nat.le_of_ble_eq_true rfl, Nat.le_of_ble_eq_true rfl⟩ rfl rfl (gMd_0 hΜ) rfl rfl rfl (Nat.le_of_ble_eq_true rfl) d_M_work_260) hS (fun r_17 F_17 A_17 H locs hw hP hS => ?_)
                  have h := hw
                  refine lv_istore (lv' := [(9, .int r_17), (8, .int v0_8), (0, .ref (K 49)), (1, .int p1), (2, .int p2), (5, .int r_5), (6, .int r_6), (7, .int x7_7)]) hx hb d_M_work_263 hl (by decide) rfl (fun ls hl => ?_)
                  refine lv_goto (tgt := 301) hx hb d_M_work_265 (by decide) ?_
                  refine lv_iload hx hb d_M_work_301 (lv_at hl 0 rfl) ?_
                  refine lv_if_eq (tgt := 315) hx hb d_M_work_303 (by decide) (fun c_303 => ?_) (fun c_303 => ?_)
                  · have h := h.1 c_303
                    refine lv_iconst (v := (0 : Int32)) hx hb d_M_work_315 (by decide) ?_
                    rw [← hQe]
                    exact gw_iret hx hb hr hlocks hP hK hS h d_M_work_316
                  · have h := h.2 c_303
                    refine lv_aload_n hx hb d_M_work_306 rfl (lv_at hl 2 rfl) ?_
                    refine gs_get (v := .ref (K 52)) hx hb htw i_M hown hK hP (gMd_0 hΜ) rfl 4 (by decide) (htw _ mm_646) rfl d_M_work_307 ?_
                    refine lv_iload_n hx hb d_M_work_310 rfl (lv_at hl 4 rfl) ?_
                    obtain ⟨hin, h⟩ := h
                    refine gs_ild hx hb hK hP (gMd_52 hΜ) hin d_M_work_311 ?_
                    refine lv_goto (tgt := 316) hx hb d_M_work_312 (by decide) ?_
                    rw [← hQe]
                    exact gw_iret hx hb hr hlocks hP hK hS h d_M_work_316
              · have h := h.2 c_165
                exact join_168 _ _ _ h hP hS (lv_sub hl [1, 3, 4, 5, 6, 0] rfl)
        · have h := h.2 c_109
          refine lv_aload_n hx hb d_M_work_112 rfl (lv_at hl 1 rfl) ?_
          refine lv_iload_n hx hb d_M_work_113 rfl (lv_at hl 3 rfl) ?_
          refine lv_iload hx hb d_M_work_114 (lv_at hl 6 rfl) ?_
          refine lv_iload hx hb d_M_work_116 (lv_at hl 0 rfl) ?_
          refine lv_imul hx hb d_M_work_118 ?_
          refine lv_aload_n hx hb d_M_work_119 rfl (lv_at hl 1 rfl) ?_
          refine gs_get (v := .ref (K 56)) hx hb htw i_M hown hK hP (gMd_0 hΜ) rfl 8 (by decide) (htw _ mm_650) rfl d_M_work_120 ?_
          refine lv_aload_n hx hb d_M_work_123 rfl (lv_at hl 1 rfl) ?_
          refine gs_get (v := .ref (K 54)) hx hb htw i_M hown hK hP (gMd_0 hΜ) rfl 6 (by decide) (htw _ mm_648) rfl d_M_work_124 ?_
          refine lv_iload hx hb d_M_work_127 (lv_at hl 4 rfl) ?_
          refine lv_aload_n hx hb d_M_work_129 rfl (lv_at hl 1 rfl) ?_
          refine gs_get (v := .ref (K 55)) hx hb htw i_M hown hK hP (gMd_0 hΜ) rfl 7 (by decide) (htw _ mm_649) rfl d_M_work_130 ?_
          refine lv_iload hx hb d_M_work_133 (lv_at hl 5 rfl) ?_
          refine lv_aload_n hx hb d_M_work_135 rfl (lv_at hl 1 rfl) ?_
          refine gs_get (v := .ref (K 56)) hx hb htw i_M hown hK hP (gMd_0 hΜ) rfl 8 (by decide) (htw _ mm_650) rfl d_M_work_136 ?_
          refine gw_goi (gw_runS (As := [.ref (K 54), .int r_5, .ref (K 55), .int r_6, .ref (K 56)]) (rest := [.ref (K 56), .int (x7_7 * v0_8), .int p2, .ref (K 49)]) hx hb hml hown htw hK hP hS hl.1 (w_M_times hlo (K 54) (9000) r_5 (K 55) (9000) r_6 (K 56) (9000) (gMd_54 hΜ) (gMd_55 hΜ) (gMd_56 hΜ) F_4 A_6 _ h) k_M_times mm_755 ⟨Nat.le_of_ble_eq_true rfl, Nat.le_of_ble_eq_true rfl⟩ rfl rfl rfl rfl (Nat.le_of_ble_eq_true rfl) d_M_work_139) hS (fun r_18 F_18 A_18 H locs hw hP hS => ?_)
          obtain ⟨rfl, hw⟩ := hw
          have h := hw
          refine lv_iconst (v := (2 : Int32)) hx hb d_M_work_142 (by decide) ?_
          refine gw_goi (gw_runV (As := [.int p2, .int (x7_7 * v0_8), .ref (K 56), .int r_18, .int (2 : Int32)]) (rest := []) hx hb hml hown htw hK hP hS hl.1 (w_M_keep hlo K p2 (x7_7 * v0_8) (K 56) (9000) r_18 (2 : Int32) hΜ (gMd_56 hΜ) F_4 A_18 _ h) k_M_keep mm_721 ⟨Nat.le_of_ble_eq_true rfl, Nat.le_of_ble_eq_true rfl⟩ rfl rfl (gMd_0 hΜ) rfl rfl rfl (Nat.le_of_ble_eq_true rfl) d_M_work_143) hS (fun r_19 F_19 A_19 H locs hw hP hS => ?_)
          have h := hw
          refine lv_istore (lv' := [(9, .int r_19), (8, .int v0_8), (0, .ref (K 49)), (1, .int p1), (2, .int p2), (5, .int r_5), (6, .int r_6), (7, .int x7_7)]) hx hb d_M_work_146 hl (by decide) rfl (fun ls hl => ?_)
          refine lv_goto (tgt := 301) hx hb d_M_work_148 (by decide) ?_
          refine lv_iload hx hb d_M_work_301 (lv_at hl 0 rfl) ?_
          refine lv_if_eq (tgt := 315) hx hb d_M_work_303 (by decide) (fun c_303 => ?_) (fun c_303 => ?_)
          · have h := h.1 c_303
            refine lv_iconst (v := (0 : Int32)) hx hb d_M_work_315 (by decide) ?_
            rw [← hQe]
            exact gw_iret hx hb hr hlocks hP hK hS h d_M_work_316
          · have h := h.2 c_303
            refine lv_aload_n hx hb d_M_work_306 rfl (lv_at hl 2 rfl) ?_
            refine gs_get (v := .ref (K 52)) hx hb htw i_M hown hK hP (gMd_0 hΜ) rfl 4 (by decide) (htw _ mm_646) rfl d_M_work_307 ?_
            refine lv_iload_n hx hb d_M_work_310 rfl (lv_at hl 4 rfl) ?_
            obtain ⟨hin, h⟩ := h
            refine gs_ild hx hb hK hP (gMd_52 hΜ) hin d_M_work_311 ?_
            refine lv_goto (tgt := 316) hx hb d_M_work_312 (by decide) ?_
            rw [← hQe]
            exact gw_iret hx hb hr hlocks hP hK hS h d_M_work_316
      refine lv_icmp_ne (tgt := 98) hx hb d_M_work_84 (by decide) (fun c_84 => ?_) (fun c_84 => ?_)
      · have h := h.1 c_84
        refine lv_aload_n hx hb d_M_work_98 rfl (lv_at hl 3 rfl) ?_
        refine gs_get (v := .ref (K 52)) hx hb htw i_M hown hK hP (gMd_0 hΜ) rfl 4 (by decide) (htw _ mm_646) rfl d_M_work_99 ?_
        refine lv_iload hx hb d_M_work_102 (lv_at hl 7 rfl) ?_
        obtain ⟨hin, h⟩ := h
        refine gs_ild hx hb hK hP (gMd_52 hΜ) hin d_M_work_104 ?_
        exact join_105 (A_6 (K 52) p4.toNatClampNeg) _ _ _ h hP hS (lv_sub hl [3, 4, 5, 2, 1, 0] rfl)
      · have h := h.2 c_84
        refine lv_aload_n hx hb d_M_work_87 rfl (lv_at hl 3 rfl) ?_
        refine gs_get (v := .ref (K 52)) hx hb htw i_M hown hK hP (gMd_0 hΜ) rfl 4 (by decide) (htw _ mm_646) rfl d_M_work_88 ?_
        refine lv_iload hx hb d_M_work_91 (lv_at hl 7 rfl) ?_
        obtain ⟨hin, h⟩ := h
        refine gs_ild hx hb hK hP (gMd_52 hΜ) hin d_M_work_93 ?_
        refine lv_ineg hx hb d_M_work_94 ?_
        refine lv_goto (tgt := 105) hx hb d_M_work_95 (by decide) ?_
        exact join_105 (-(A_6 (K 52) p4.toNatClampNeg)) _ _ _ h hP hS (lv_sub hl [3, 4, 5, 2, 1, 0] rfl)
    · have h := h.2 c_46
      refine lv_iconst (v := (0 : Int32)) hx hb d_M_work_49 (by decide) ?_
      rw [← hQe]
      exact gw_iret hx hb hr hlocks hP hK hS h d_M_work_50
  obtain ⟨J_37, h, hj_37⟩ := h
  have join_37 : ∀  (H : Heap) (locs : List Loc) (ls : Array Slot), J_37 → va_P D gcls (gs_ws Λ F_1 A L) H → va_S (gw_A Λ) s.heap H locs → lv_has ls 10 [(0, .ref (K 49)), (1, .int p1), (2, .int p2), (3, .int p3), (4, .int p4)] → W p l e rm_M_work s m args below meth c H locs 0 0 Q (F0 m 37 ls [.ref (K 49)]) := by
    intro  H locs ls hJ hP hS hl
    have h := hj_37  hJ
    refine lv_iconst (v := (1 : Int32)) hx hb d_M_work_37 (by decide) ?_
    refine lv_goto (tgt := 42) hx hb d_M_work_38 (by decide) ?_
    exact join_42 (1 : Int32) _ _ _ h hP hS hl
  refine lv_if_eq (tgt := 37) hx hb d_M_work_12 (by decide) (fun c_12 => ?_) (fun c_12 => ?_)
  · have h := h.1 c_12
    exact join_37 _ _ _ h hP hS hl
  · have h := h.2 c_12
    refine lv_iload_n hx hb d_M_work_15 rfl (lv_at hl 2 rfl) ?_
    refine gw_goi (gw_runS (As := [.int p2]) (rest := [.ref (K 49)]) hx hb hml hown htw hK hP hS hl.1 (w_M_isRegister hlo p2 F_1 A _ h) k_M_isRegister mm_699 ⟨Nat.le_of_ble_eq_true rfl, Nat.le_of_ble_eq_true rfl⟩ rfl rfl rfl rfl (Nat.le_of_ble_eq_true rfl) d_M_work_16) hS (fun r_21 F_21 A_21 H locs hw hP hS => ?_)
    obtain ⟨rfl, hw⟩ := hw
    obtain ⟨rfl, hw⟩ := hw
    have h := hw
    refine lv_if_eq (tgt := 37) hx hb d_M_work_19 (by decide) (fun c_19 => ?_) (fun c_19 => ?_)
    · have h := h.1 c_19
      exact join_37 _ _ _ h hP hS hl
    · have h := h.2 c_19
      refine lv_iload_n hx hb d_M_work_22 rfl (lv_at hl 3 rfl) ?_
      refine gw_goi (gw_runS (As := [.int p3]) (rest := [.ref (K 49)]) hx hb hml hown htw hK hP hS hl.1 (w_M_isRegister hlo p3 F_1 A _ h) k_M_isRegister mm_699 ⟨Nat.le_of_ble_eq_true rfl, Nat.le_of_ble_eq_true rfl⟩ rfl rfl rfl rfl (Nat.le_of_ble_eq_true rfl) d_M_work_23) hS (fun r_22 F_22 A_22 H locs hw hP hS => ?_)
      obtain ⟨rfl, hw⟩ := hw
      obtain ⟨rfl, hw⟩ := hw
      have h := hw
      refine lv_if_eq (tgt := 37) hx hb d_M_work_26 (by decide) (fun c_26 => ?_) (fun c_26 => ?_)
      · have h := h.1 c_26
        exact join_37 _ _ _ h hP hS hl
      · have h := h.2 c_26
        refine lv_iload hx hb d_M_work_29 (lv_at hl 4 rfl) ?_
        refine gw_goi (gw_runS (As := [.int p4]) (rest := [.ref (K 49)]) hx hb hml hown htw hK hP hS hl.1 (w_M_isRegister hlo p4 F_1 A _ h) k_M_isRegister mm_699 ⟨Nat.le_of_ble_eq_true rfl, Nat.le_of_ble_eq_true rfl⟩ rfl rfl rfl rfl (Nat.le_of_ble_eq_true rfl) d_M_work_31) hS (fun r_23 F_23 A_23 H locs hw hP hS => ?_)
        obtain ⟨rfl, hw⟩ := hw
        obtain ⟨rfl, hw⟩ := hw
        have h := hw
        refine lv_if_ne (tgt := 41) hx hb d_M_work_34 (by decide) (fun c_34 => ?_) (fun c_34 => ?_)
        · have h := h.1 c_34
          refine lv_iconst (v := (0 : Int32)) hx hb d_M_work_41 (by decide) ?_
          exact join_42 (0 : Int32) _ _ _ h hP hS hl
        · have h := h.2 c_34
          exact join_37 _ _ _ h hP hS hl
abbrev rm_M_divide : Room := { frames := 2, cells := 0, slots := 0, locals := 61 }
set_option maxHeartbeats 4000000 in
set_option maxRecDepth 100000 in
theorem w_M_divide (hlo : gs_D Λ) (K : Nat → Nat) (p1 : Int32) (p2 : Int32) (p3 : Int32) (p4 : Int32) (p5 : Int32) (hΜ : gMd cI Λ K) (F A : gm_M) (post : Int32 → gm_M → gm_M → Prop) (h : vc_M_divide K p1 p2 p3 p4 p5 F A post) : Met l y_M_divide (.code y_M_divide b_M_divide 11 (some .int) :: gw_WS) rm_M_divide (va_Pc [.ref (K 49), .int p1, .int p2, .int p3, .int p4, .int p5] (gw_P D cI cB cJ cW Λ L F A)) (gw_Qi D cI cB cJ cW Λ L (fun r F2 A2 => post r F2 A2)) 0 0 (gw_A Λ) := by
  refine Met.ofW (cc := b_M_divide) (maxL := 11) (ret := (some .int)) (by decide) rfl ?_
  intro p e s m args below meth c s₁ B hml hv
  obtain ⟨hargs, hP, hK⟩ := hv
  have hx := B.exec
  have hb := B.bytes
  have hr := B.returns
  have hlocks := B.notSynchronized
  have htw : ∀ w ∈ gw_WS, w.before args s = true := fun w h9 => atoms_spec (ws := .code y_M_divide b_M_divide 11 (some .int) :: gw_WS) B.pre w (List.mem_cons_of_mem _ h9)
  have hown : s.vm.findClass R_M = some m.cls := findClass_of_methodNamed B.named
  have hS : va_S (gw_A Λ) s.heap s.heap [] := va_S.rf
  refine W.eq (g2 := entryFrame m ([.ref (K 49), .int p1, .int p2, .int p3, .int p4, .int p5] : List Value).toArray 11) (by rw [hargs]) ?_
  have hl := lv_entry ([.ref (K 49), .int p1, .int p2, .int p3, .int p4, .int p5]) (n := 11) (Nat.le_of_ble_eq_true rfl)
  rw [lg_entry_eq]
  generalize (lg_sl ([.ref (K 49), .int p1, .int p2, .int p3, .int p4, .int p5]) ++ List.replicate (11 - (lg_sl ([.ref (K 49), .int p1, .int p2, .int p3, .int p4, .int p5])).length) Slot.unset).toArray = ls at hl ⊢
  have hl : lv_has ls 11 [(0, .ref (K 49)), (1, .int p1), (2, .int p2), (3, .int p3), (4, .int p4), (5, .int p5)] := hl
  generalize hQe : MQ below (gw_Qi D cI cB cJ cW Λ L (fun r F2 A2 => post r F2 A2)) args s 0 0 (gw_A Λ) = Q
  unfold vc_M_divide at h
  refine lv_aload_n hx hb d_M_divide_0 rfl (lv_at hl 0 rfl) ?_
  refine lv_iconst (v := (0 : Int32)) hx hb d_M_divide_1 (by decide) ?_
  refine gs_put (ty := .int) hx hb htw i_M tf_M tf_M_ok n_M hown hK hlo hP hS (gMd_0 hΜ) rfl 0 (by decide) rfl (htw _ mm_642) rfl (by decide +kernel) rfl rfl d_M_divide_2 (fun F_1 eF_1 H locs hP hS => ?_)
  have h := h F_1 eF_1
  refine lv_aload_n hx hb d_M_divide_5 rfl (lv_at hl 0 rfl) ?_
  refine lv_iload_n hx hb d_M_divide_6 rfl (lv_at hl 2 rfl) ?_
  refine gw_goi (gw_runS (As := [.int p2]) (rest := [.ref (K 49)]) hx hb hml hown htw hK hP hS hl.1 (w_M_isRegister hlo p2 F_1 A _ h) k_M_isRegister mm_699 ⟨Nat.le_of_ble_eq_true rfl, Nat.le_of_ble_eq_true rfl⟩ rfl rfl rfl rfl (Nat.le_of_ble_eq_true rfl) d_M_divide_7) hS (fun r_2 F_2 A_2 H locs hw hP hS => ?_)
  obtain ⟨rfl, hw⟩ := hw
  obtain ⟨rfl, hw⟩ := hw
  have h := hw
  obtain ⟨J_46, h, hj_46⟩ := h
  have join_46 : ∀ (v0_3 : Int32) (H : Heap) (locs : List Loc) (ls : Array Slot), J_46 v0_3 → va_P D gcls (gs_ws Λ F_1 A L) H → va_S (gw_A Λ) s.heap H locs → lv_has ls 11 [(0, .ref (K 49)), (1, .int p1), (2, .int p2), (3, .int p3), (4, .int p4), (5, .int p5)] → W p l e rm_M_divide s m args below meth c H locs 0 0 Q (F0 m 46 ls [.int v0_3, .ref (K 49)]) := by
    intro v0_3 H locs ls hJ hP hS hl
    have h := hj_46 v0_3 hJ
    refine lv_iconst (v := (1 : Int32)) hx hb d_M_divide_46 (by decide) ?_
    refine gw_goi (gw_runV (As := [.int v0_3, .int (1 : Int32)]) (rest := []) hx hb hml hown htw hK hP hS hl.1 (w_M_fails hlo K v0_3 (1 : Int32) hΜ F_1 A _ h) k_M_fails mm_705 ⟨Nat.le_of_ble_eq_true rfl, Nat.le_of_ble_eq_true rfl⟩ rfl rfl (gMd_0 hΜ) rfl rfl rfl (Nat.le_of_ble_eq_true rfl) d_M_divide_47) hS (fun r_4 F_4 A_4 H locs hw hP hS => ?_)
    obtain ⟨rfl, hw⟩ := hw
    have h := hw
    refine lv_if_ne (tgt := 76) hx hb d_M_divide_50 (by decide) (fun c_50 => ?_) (fun c_50 => ?_)
    · have h := h.1 c_50
      refine lv_iconst (v := (0 : Int32)) hx hb d_M_divide_76 (by decide) ?_
      rw [← hQe]
      exact gw_iret hx hb hr hlocks hP hK hS h d_M_divide_77
    · have h := h.2 c_50
      refine lv_aload_n hx hb d_M_divide_53 rfl (lv_at hl 0 rfl) ?_
      refine lv_aload_n hx hb d_M_divide_54 rfl (lv_at hl 0 rfl) ?_
      refine gs_get (v := .ref (K 52)) hx hb htw i_M hown hK hP (gMd_0 hΜ) rfl 4 (by decide) (htw _ mm_646) rfl d_M_divide_55 ?_
      refine lv_iload hx hb d_M_divide_58 (lv_at hl 5 rfl) ?_
      obtain ⟨hin, h⟩ := h
      refine gs_ild hx hb hK hP (gMd_52 hΜ) hin d_M_divide_60 ?_
      obtain ⟨J_69, h, hj_69⟩ := h
      have join_69 : ∀ (v0_5 : Int32) (H : Heap) (locs : List Loc) (ls : Array Slot), J_69 v0_5 → va_P D gcls (gs_ws Λ F_4 A L) H → va_S (gw_A Λ) s.heap H locs → lv_has ls 11 [(0, .ref (K 49)), (1, .int p1), (2, .int p2), (3, .int p3), (4, .int p4), (5, .int p5)] → W p l e rm_M_divide s m args below meth c H locs 0 0 Q (F0 m 69 ls [.int v0_5, .ref (K 49)]) := by
        intro v0_5 H locs ls hJ hP hS hl
        have h := hj_69 v0_5 hJ
        refine lv_iconst (v := (2 : Int32)) hx hb d_M_divide_69 (by decide) ?_
        refine gw_goi (gw_runV (As := [.int v0_5, .int (2 : Int32)]) (rest := []) hx hb hml hown htw hK hP hS hl.1 (w_M_fails hlo K v0_5 (2 : Int32) hΜ F_4 A _ h) k_M_fails mm_705 ⟨Nat.le_of_ble_eq_true rfl, Nat.le_of_ble_eq_true rfl⟩ rfl rfl (gMd_0 hΜ) rfl rfl rfl (Nat.le_of_ble_eq_true rfl) d_M_divide_70) hS (fun r_6 F_6 A_6 H locs hw hP hS => ?_)
        obtain ⟨rfl, hw⟩ := hw
        have h := hw
        refine lv_if_eq (tgt := 78) hx hb d_M_divide_73 (by decide) (fun c_73 => ?_) (fun c_73 => ?_)
        · have h := h.1 c_73
          refine lv_aload_n hx hb d_M_divide_78 rfl (lv_at hl 0 rfl) ?_
          refine lv_iload hx hb d_M_divide_79 (lv_at hl 4 rfl) ?_
          refine lv_aload_n hx hb d_M_divide_81 rfl (lv_at hl 0 rfl) ?_
          refine gs_get (v := .ref (K 54)) hx hb htw i_M hown hK hP (gMd_0 hΜ) rfl 6 (by decide) (htw _ mm_648) rfl d_M_divide_82 ?_
          refine gw_goi (gw_runV (As := [.int p4, .ref (K 54)]) (rest := []) hx hb hml hown htw hK hP hS hl.1 (w_M_load hlo K p4 (K 54) (9000) hΜ (gMd_54 hΜ) F_6 A _ h) k_M_load mm_713 ⟨Nat.le_of_ble_eq_true rfl, Nat.le_of_ble_eq_true rfl⟩ rfl rfl (gMd_0 hΜ) rfl rfl rfl (Nat.le_of_ble_eq_true rfl) d_M_divide_85) hS (fun r_7 F_7 A_7 H locs hw hP hS => ?_)
          obtain ⟨rfl, hw⟩ := hw
          have h := hw
          refine lv_istore (lv' := [(6, .int r_7), (0, .ref (K 49)), (1, .int p1), (2, .int p2), (3, .int p3), (4, .int p4), (5, .int p5)]) hx hb d_M_divide_88 hl (by decide) rfl (fun ls hl => ?_)
          refine lv_aload_n hx hb d_M_divide_90 rfl (lv_at hl 1 rfl) ?_
          refine lv_iload hx hb d_M_divide_91 (lv_at hl 6 rfl) ?_
          refine lv_aload_n hx hb d_M_divide_93 rfl (lv_at hl 1 rfl) ?_
          refine gs_get (v := .ref (K 55)) hx hb htw i_M hown hK hP (gMd_0 hΜ) rfl 7 (by decide) (htw _ mm_649) rfl d_M_divide_94 ?_
          refine gw_goi (gw_runV (As := [.int p5, .ref (K 55)]) (rest := []) hx hb hml hown htw hK hP hS hl.1 (w_M_load hlo K p5 (K 55) (9000) hΜ (gMd_55 hΜ) F_6 A_7 _ h) k_M_load mm_713 ⟨Nat.le_of_ble_eq_true rfl, Nat.le_of_ble_eq_true rfl⟩ rfl rfl (gMd_0 hΜ) rfl rfl rfl (Nat.le_of_ble_eq_true rfl) d_M_divide_97) hS (fun r_8 F_8 A_8 H locs hw hP hS => ?_)
          obtain ⟨rfl, hw⟩ := hw
          have h := hw
          refine lv_istore (lv' := [(7, .int r_8), (6, .int r_7), (0, .ref (K 49)), (1, .int p1), (2, .int p2), (3, .int p3), (4, .int p4), (5, .int p5)]) hx hb d_M_divide_100 hl (by decide) rfl (fun ls hl => ?_)
          refine lv_aload_n hx hb d_M_divide_102 rfl (lv_at hl 2 rfl) ?_
          refine gs_get (v := .ref (K 52)) hx hb htw i_M hown hK hP (gMd_0 hΜ) rfl 4 (by decide) (htw _ mm_646) rfl d_M_divide_103 ?_
          refine lv_iload hx hb d_M_divide_106 (lv_at hl 6 rfl) ?_
          obtain ⟨hin, h⟩ := h
          refine gs_ild hx hb hK hP (gMd_52 hΜ) hin d_M_divide_108 ?_
          refine lv_topi (fun x8_9 ex8_9 => ?_)
          have h := h x8_9 ex8_9
          refine lv_istore (lv' := [(8, .int x8_9), (7, .int r_8), (6, .int r_7), (0, .ref (K 49)), (1, .int p1), (2, .int p2), (3, .int p3), (4, .int p4), (5, .int p5)]) hx hb d_M_divide_109 hl (by decide) rfl (fun ls hl => ?_)
          refine lv_aload_n hx hb d_M_divide_111 rfl (lv_at hl 3 rfl) ?_
          refine gs_get (v := .ref (K 52)) hx hb htw i_M hown hK hP (gMd_0 hΜ) rfl 4 (by decide) (htw _ mm_646) rfl d_M_divide_112 ?_
          refine lv_iload hx hb d_M_divide_115 (lv_at hl 8 rfl) ?_
          obtain ⟨hin, h⟩ := h
          refine gs_ild hx hb hK hP (gMd_52 hΜ) hin d_M_divide_117 ?_
          refine lv_topi (fun x9_10 ex9_10 => ?_)
          have h := h x9_10 ex9_10
          refine lv_istore (lv' := [(9, .int x9_10), (8, .int x8_9), (7, .int r_8), (6, .int r_7), (0, .ref (K 49)), (1, .int p1), (2, .int p2), (3, .int p3), (4, .int p4), (5, .int p5)]) hx hb d_M_divide_118 hl (by decide) rfl (fun ls hl => ?_)
          refine lv_aload_n hx hb d_M_divide_120 rfl (lv_at hl 4 rfl) ?_
          refine lv_aload_n hx hb d_M_divide_121 rfl (lv_at hl 4 rfl) ?_
          refine gs_get (v := .ref (K 54)) hx hb htw i_M hown hK hP (gMd_0 hΜ) rfl 6 (by decide) (htw _ mm_648) rfl d_M_divide_122 ?_
          refine lv_iload hx hb d_M_divide_125 (lv_at hl 3 rfl) ?_
          refine lv_aload_n hx hb d_M_divide_127 rfl (lv_at hl 4 rfl) ?_
          refine gs_get (v := .ref (K 55)) hx hb htw i_M hown hK hP (gMd_0 hΜ) rfl 7 (by decide) (htw _ mm_649) rfl d_M_divide_128 ?_
          refine lv_iload hx hb d_M_divide_131 (lv_at hl 2 rfl) ?_
          refine lv_aload_n hx hb d_M_divide_133 rfl (lv_at hl 4 rfl) ?_
          refine gs_get (v := .ref (K 56)) hx hb htw i_M hown hK hP (gMd_0 hΜ) rfl 8 (by decide) (htw _ mm_650) rfl d_M_divide_134 ?_
          refine gw_goi (gw_runV (As := [.ref (K 54), .int r_7, .ref (K 55), .int r_8, .ref (K 56)]) (rest := []) hx hb hml hown htw hK hP hS hl.1 (w_M_divided hlo K (K 54) (9000) r_7 (K 55) (9000) r_8 (K 56) (9000) hΜ (gMd_54 hΜ) (gMd_55 hΜ) (gMd_56 hΜ) F_6 A_8 _ h) k_M_divided mm_772 ⟨Nat.le_of_ble_eq_true rfl, Nat.le_of_ble_eq_true rfl⟩ rfl rfl (gMd_0 hΜ) rfl rfl rfl (Nat.le_of_ble_eq_true rfl) d_M_divide_137) hS (fun r_11 F_11 A_11 H locs hw hP hS => ?_)
          have h := hw
          refine lv_istore (lv' := [(6, .int r_11), (9, .int x9_10), (8, .int x8_9), (7, .int r_8), (0, .ref (K 49)), (1, .int p1), (2, .int p2), (3, .int p3), (4, .int p4), (5, .int p5)]) hx hb d_M_divide_140 hl (by decide) rfl (fun ls hl => ?_)
          refine lv_aload_n hx hb d_M_divide_142 rfl (lv_at hl 4 rfl) ?_
          refine gs_get (v := .int (F_11 (K 49) 12)) hx hb htw i_M hown hK hP (gMd_0 hΜ) rfl 12 (by decide) (htw _ mm_654) rfl d_M_divide_143 ?_
          refine lv_topi (fun x10_12 ex10_12 => ?_)
          have h := h x10_12 ex10_12
          refine lv_istore (lv' := [(10, .int x10_12), (6, .int r_11), (9, .int x9_10), (8, .int x8_9), (7, .int r_8), (0, .ref (K 49)), (1, .int p1), (2, .int p2), (3, .int p3), (4, .int p4), (5, .int p5)]) hx hb d_M_divide_146 hl (by decide) rfl (fun ls hl => ?_)
          refine lv_iload_n hx hb d_M_divide_148 rfl (lv_at hl 6 rfl) ?_
          obtain ⟨J_278, h, hj_278⟩ := h
          have join_278 : ∀  (H : Heap) (locs : List Loc) (ls : Array Slot), J_278 → va_P D gcls (gs_ws Λ F_11 A_11 L) H → va_S (gw_A Λ) s.heap H locs → lv_has ls 11 [(0, .ref (K 49)), (2, .int p2), (3, .int p3), (6, .int r_11), (8, .int x8_9), (9, .int x9_10), (10, .int x10_12)] → W p l e rm_M_divide s m args below meth c H locs 0 0 Q (F0 m 278 ls []) := by
            intro  H locs ls hJ hP hS hl
            have h := hj_278  hJ
            refine lv_aload_n hx hb d_M_divide_278 rfl (lv_at hl 0 rfl) ?_
            refine lv_iload_n hx hb d_M_divide_279 rfl (lv_at hl 1 rfl) ?_
            refine lv_iload hx hb d_M_divide_280 (lv_at hl 4 rfl) ?_
            refine lv_iload hx hb d_M_divide_282 (lv_at hl 5 rfl) ?_
            refine lv_imul hx hb d_M_divide_284 ?_
            refine lv_aload_n hx hb d_M_divide_285 rfl (lv_at hl 0 rfl) ?_
            refine gs_get (v := .ref (K 56)) hx hb htw i_M hown hK hP (gMd_0 hΜ) rfl 8 (by decide) (htw _ mm_650) rfl d_M_divide_286 ?_
            refine lv_iload hx hb d_M_divide_289 (lv_at hl 6 rfl) ?_
            refine lv_iconst (v := (2 : Int32)) hx hb d_M_divide_291 (by decide) ?_
            refine gw_goi (gw_runV (As := [.int p2, .int (x8_9 * x9_10), .ref (K 56), .int x10_12, .int (2 : Int32)]) (rest := []) hx hb hml hown htw hK hP hS hl.1 (w_M_keep hlo K p2 (x8_9 * x9_10) (K 56) (9000) x10_12 (2 : Int32) hΜ (gMd_56 hΜ) F_11 A_11 _ h) k_M_keep mm_721 ⟨Nat.le_of_ble_eq_true rfl, Nat.le_of_ble_eq_true rfl⟩ rfl rfl (gMd_0 hΜ) rfl rfl rfl (Nat.le_of_ble_eq_true rfl) d_M_divide_292) hS (fun r_14 F_14 A_14 H locs hw hP hS => ?_)
            have h := hw
            refine lv_pop hx hb d_M_divide_295 rfl ?_
            refine lv_aload_n hx hb d_M_divide_296 rfl (lv_at hl 0 rfl) ?_
            refine lv_iload_n hx hb d_M_divide_297 rfl (lv_at hl 2 rfl) ?_
            refine lv_iload hx hb d_M_divide_298 (lv_at hl 4 rfl) ?_
            refine lv_aload_n hx hb d_M_divide_300 rfl (lv_at hl 0 rfl) ?_
            refine gs_get (v := .ref (K 54)) hx hb htw i_M hown hK hP (gMd_0 hΜ) rfl 6 (by decide) (htw _ mm_648) rfl d_M_divide_301 ?_
            refine lv_iload hx hb d_M_divide_304 (lv_at hl 3 rfl) ?_
            refine lv_iconst (v := (2 : Int32)) hx hb d_M_divide_306 (by decide) ?_
            refine gw_goi (gw_runV (As := [.int p3, .int x8_9, .ref (K 54), .int r_11, .int (2 : Int32)]) (rest := []) hx hb hml hown htw hK hP hS hl.1 (w_M_keep hlo K p3 x8_9 (K 54) (9000) r_11 (2 : Int32) hΜ (gMd_54 hΜ) F_14 A_14 _ h) k_M_keep mm_721 ⟨Nat.le_of_ble_eq_true rfl, Nat.le_of_ble_eq_true rfl⟩ rfl rfl (gMd_0 hΜ) rfl rfl rfl (Nat.le_of_ble_eq_true rfl) d_M_divide_307) hS (fun r_15 F_15 A_15 H locs hw hP hS => ?_)
            have h := hw
            refine lv_pop hx hb d_M_divide_310 rfl ?_
            refine lv_aload_n hx hb d_M_divide_311 rfl (lv_at hl 0 rfl) ?_
            refine gs_get (v := .ref (K 52)) hx hb htw i_M hown hK hP (gMd_0 hΜ) rfl 4 (by decide) (htw _ mm_646) rfl d_M_divide_312 ?_
            refine lv_iload_n hx hb d_M_divide_315 rfl (lv_at hl 2 rfl) ?_
            obtain ⟨hin, h⟩ := h
            refine gs_ild hx hb hK hP (gMd_52 hΜ) hin d_M_divide_316 ?_
            rw [← hQe]
            exact gw_iret hx hb hr hlocks hP hK hS h d_M_divide_317
          refine lv_if_eq (tgt := 278) hx hb d_M_divide_149 (by decide) (fun c_149 => ?_) (fun c_149 => ?_)
          · have h := h.1 c_149
            exact join_278 _ _ _ h hP hS (lv_sub hl [5, 7, 8, 1, 3, 2, 0] rfl)
          · have h := h.2 c_149
            refine lv_iload hx hb d_M_divide_152 (lv_at hl 1 rfl) ?_
            refine lv_if_le (tgt := 278) hx hb d_M_divide_154 (by decide) (fun c_154 => ?_) (fun c_154 => ?_)
            · have h := h.1 c_154
              exact join_278 _ _ _ h hP hS (lv_sub hl [5, 7, 8, 1, 3, 2, 0] rfl)
            · have h := h.2 c_154
              refine lv_iload hx hb d_M_divide_157 (lv_at hl 3 rfl) ?_
              refine lv_iload hx hb d_M_divide_159 (lv_at hl 2 rfl) ?_
              refine lv_icmp_eq (tgt := 278) hx hb d_M_divide_161 (by decide) (fun c_161 => ?_) (fun c_161 => ?_)
              · have h := h.1 c_161
                exact join_278 _ _ _ h hP hS (lv_sub hl [5, 7, 8, 1, 3, 2, 0] rfl)
              · have h := h.2 c_161
                refine lv_aload_n hx hb d_M_divide_164 rfl (lv_at hl 5 rfl) ?_
                refine gs_get (v := .ref (K 57)) hx hb htw i_M hown hK hP (gMd_0 hΜ) rfl 9 (by decide) (htw _ mm_651) rfl d_M_divide_165 ?_
                refine lv_iconst (v := (0 : Int32)) hx hb d_M_divide_168 (by decide) ?_
                refine lv_iconst (v := (1 : Int32)) hx hb d_M_divide_169 (by decide) ?_
                obtain ⟨hin, h⟩ := h
                refine gs_ist hx hb hK hlo hP hS (gMd_57 hΜ) hin d_M_divide_170 (fun A_16 eA_16 H locs hP hS => ?_)
                have h := h A_16 eA_16
                refine lv_aload_n hx hb d_M_divide_171 rfl (lv_at hl 5 rfl) ?_
                refine gs_get (v := .ref (K 56)) hx hb htw i_M hown hK hP (gMd_0 hΜ) rfl 8 (by decide) (htw _ mm_650) rfl d_M_divide_172 ?_
                refine lv_iload hx hb d_M_divide_175 (lv_at hl 0 rfl) ?_
                refine lv_aload_n hx hb d_M_divide_177 rfl (lv_at hl 5 rfl) ?_
                refine gs_get (v := .ref (K 57)) hx hb htw i_M hown hK hP (gMd_0 hΜ) rfl 9 (by decide) (htw _ mm_651) rfl d_M_divide_178 ?_
                refine lv_iconst (v := (1 : Int32)) hx hb d_M_divide_181 (by decide) ?_
                refine lv_aload_n hx hb d_M_divide_182 rfl (lv_at hl 5 rfl) ?_
                refine gs_get (v := .ref (K 56)) hx hb htw i_M hown hK hP (gMd_0 hΜ) rfl 8 (by decide) (htw _ mm_650) rfl d_M_divide_183 ?_
                refine gw_goi (gw_runS (As := [.ref (K 56), .int x10_12, .ref (K 57), .int (1 : Int32), .ref (K 56)]) (rest := []) hx hb hml hown htw hK hP hS hl.1 (w_M_plus hlo (K 56) (9000) x10_12 (K 57) (9000) (1 : Int32) (K 56) (9000) (gMd_56 hΜ) (gMd_57 hΜ) (gMd_56 hΜ) F_11 A_16 _ h) k_M_plus mm_758 ⟨Nat.le_of_ble_eq_true rfl, Nat.le_of_ble_eq_true rfl⟩ rfl rfl rfl rfl (Nat.le_of_ble_eq_true rfl) d_M_divide_186) hS (fun r_17 F_17 A_17 H locs hw hP hS => ?_)
                obtain ⟨rfl, hw⟩ := hw
                have h := hw
                refine lv_istore (lv' := [(10, .int r_17), (6, .int r_11), (9, .int x9_10), (8, .int x8_9), (7, .int r_8), (0, .ref (K 49)), (1, .int p1), (2, .int p2), (3, .int p3), (4, .int p4), (5, .int p5)]) hx hb d_M_divide_189 hl (by decide) rfl (fun ls hl => ?_)
                refine lv_aload_n hx hb d_M_divide_191 rfl (lv_at hl 5 rfl) ?_
                refine gs_get (v := .ref (K 55)) hx hb htw i_M hown hK hP (gMd_0 hΜ) rfl 7 (by decide) (htw _ mm_649) rfl d_M_divide_192 ?_
                refine lv_iload hx hb d_M_divide_195 (lv_at hl 4 rfl) ?_
                refine lv_aload_n hx hb d_M_divide_197 rfl (lv_at hl 5 rfl) ?_
                refine gs_get (v := .ref (K 54)) hx hb htw i_M hown hK hP (gMd_0 hΜ) rfl 6 (by decide) (htw _ mm_648) rfl d_M_divide_198 ?_
                refine lv_iload hx hb d_M_divide_201 (lv_at hl 1 rfl) ?_
                refine lv_aload_n hx hb d_M_divide_203 rfl (lv_at hl 5 rfl) ?_
                refine gs_get (v := .ref (K 57)) hx hb htw i_M hown hK hP (gMd_0 hΜ) rfl 9 (by decide) (htw _ mm_651) rfl d_M_divide_204 ?_
                refine gw_goi (gw_runS (As := [.ref (K 55), .int r_8, .ref (K 54), .int r_11, .ref (K 57)]) (rest := []) hx hb hml hown htw hK hP hS hl.1 (w_M_less hlo (K 55) (9000) r_8 (K 54) (9000) r_11 (K 57) (9000) (gMd_55 hΜ) (gMd_54 hΜ) (gMd_57 hΜ) F_11 A_17 _ h) k_M_less mm_765 ⟨Nat.le_of_ble_eq_true rfl, Nat.le_of_ble_eq_true rfl⟩ rfl rfl rfl rfl (Nat.le_of_ble_eq_true rfl) d_M_divide_207) hS (fun r_18 F_18 A_18 H locs hw hP hS => ?_)
                obtain ⟨rfl, hw⟩ := hw
                have h := hw
                refine lv_istore (lv' := [(6, .int r_18), (10, .int r_17), (9, .int x9_10), (8, .int x8_9), (7, .int r_8), (0, .ref (K 49)), (1, .int p1), (2, .int p2), (3, .int p3), (4, .int p4), (5, .int p5)]) hx hb d_M_divide_210 hl (by decide) rfl (fun ls hl => ?_)
                refine lv_aload_n hx hb d_M_divide_212 rfl (lv_at hl 5 rfl) ?_
                refine lv_aload_n hx hb d_M_divide_213 rfl (lv_at hl 5 rfl) ?_
                refine gs_get (v := .ref (K 56)) hx hb htw i_M hown hK hP (gMd_0 hΜ) rfl 8 (by decide) (htw _ mm_650) rfl d_M_divide_214 ?_
                refine lv_iload hx hb d_M_divide_217 (lv_at hl 1 rfl) ?_
                refine gw_goi (gw_runS (As := [.ref (K 56), .int r_17]) (rest := [.ref (K 49)]) hx hb hml hown htw hK hP hS hl.1 (w_M_bits hlo (K 56) (9000) r_17 (gMd_56 hΜ) F_11 A_18 _ h) k_M_bits mm_717 ⟨Nat.le_of_ble_eq_true rfl, Nat.le_of_ble_eq_true rfl⟩ rfl rfl rfl rfl (Nat.le_of_ble_eq_true rfl) d_M_divide_219) hS (fun r_19 F_19 A_19 H locs hw hP hS => ?_)
                obtain ⟨rfl, hw⟩ := hw
                obtain ⟨rfl, hw⟩ := hw
                have h := hw
                refine lv_sipush (v := (2048 : Int32)) hx hb d_M_divide_222 (by decide) ?_
                obtain ⟨J_233, h, hj_233⟩ := h
                have join_233 : ∀ (v0_20 : Int32) (H : Heap) (locs : List Loc) (ls : Array Slot), J_233 v0_20 → va_P D gcls (gs_ws Λ F_11 A_18 L) H → va_S (gw_A Λ) s.heap H locs → lv_has ls 11 [(0, .ref (K 49)), (2, .int p2), (3, .int p3), (6, .int r_18), (8, .int x8_9), (9, .int x9_10), (10, .int r_17)] → W p l e rm_M_divide s m args below meth c H locs 0 0 Q (F0 m 233 ls [.int v0_20, .ref (K 49)]) := by
                  intro v0_20 H locs ls hJ hP hS hl
                  have h := hj_233 v0_20 hJ
                  refine lv_iconst (v := (2 : Int32)) hx hb d_M_divide_233 (by decide) ?_
                  refine gw_goi (gw_runV (As := [.int v0_20, .int (2 : Int32)]) (rest := []) hx hb hml hown htw hK hP hS hl.1 (w_M_fails hlo K v0_20 (2 : Int32) hΜ F_11 A_18 _ h) k_M_fails mm_705 ⟨Nat.le_of_ble_eq_true rfl, Nat.le_of_ble_eq_true rfl⟩ rfl rfl (gMd_0 hΜ) rfl rfl rfl (Nat.le_of_ble_eq_true rfl) d_M_divide_234) hS (fun r_21 F_21 A_21 H locs hw hP hS => ?_)
                  obtain ⟨rfl, hw⟩ := hw
                  have h := hw
                  refine lv_if_eq (tgt := 242) hx hb d_M_divide_237 (by decide) (fun c_237 => ?_) (fun c_237 => ?_)
                  · have h := h.1 c_237
                    refine lv_aload_n hx hb d_M_divide_242 rfl (lv_at hl 0 rfl) ?_
                    refine lv_iload_n hx hb d_M_divide_243 rfl (lv_at hl 1 rfl) ?_
                    refine lv_iload hx hb d_M_divide_244 (lv_at hl 4 rfl) ?_
                    refine lv_iload hx hb d_M_divide_246 (lv_at hl 5 rfl) ?_
                    refine lv_imul hx hb d_M_divide_248 ?_
                    refine lv_aload_n hx hb d_M_divide_249 rfl (lv_at hl 0 rfl) ?_
                    refine gs_get (v := .ref (K 56)) hx hb htw i_M hown hK hP (gMd_0 hΜ) rfl 8 (by decide) (htw _ mm_650) rfl d_M_divide_250 ?_
                    refine lv_iload hx hb d_M_divide_253 (lv_at hl 6 rfl) ?_
                    refine lv_iconst (v := (2 : Int32)) hx hb d_M_divide_255 (by decide) ?_
                    refine gw_goi (gw_runV (As := [.int p2, .int (x8_9 * x9_10), .ref (K 56), .int r_17, .int (2 : Int32)]) (rest := []) hx hb hml hown htw hK hP hS hl.1 (w_M_keep hlo K p2 (x8_9 * x9_10) (K 56) (9000) r_17 (2 : Int32) hΜ (gMd_56 hΜ) F_21 A_18 _ h) k_M_keep mm_721 ⟨Nat.le_of_ble_eq_true rfl, Nat.le_of_ble_eq_true rfl⟩ rfl rfl (gMd_0 hΜ) rfl rfl rfl (Nat.le_of_ble_eq_true rfl) d_M_divide_256) hS (fun r_22 F_22 A_22 H locs hw hP hS => ?_)
                    have h := hw
                    refine lv_pop hx hb d_M_divide_259 rfl ?_
                    refine lv_aload_n hx hb d_M_divide_260 rfl (lv_at hl 0 rfl) ?_
                    refine lv_iload_n hx hb d_M_divide_261 rfl (lv_at hl 2 rfl) ?_
                    refine lv_iload hx hb d_M_divide_262 (lv_at hl 5 rfl) ?_
                    refine lv_aload_n hx hb d_M_divide_264 rfl (lv_at hl 0 rfl) ?_
                    refine gs_get (v := .ref (K 57)) hx hb htw i_M hown hK hP (gMd_0 hΜ) rfl 9 (by decide) (htw _ mm_651) rfl d_M_divide_265 ?_
                    refine lv_iload hx hb d_M_divide_268 (lv_at hl 3 rfl) ?_
                    refine lv_iconst (v := (2 : Int32)) hx hb d_M_divide_270 (by decide) ?_
                    refine gw_goi (gw_runV (As := [.int p3, .int x9_10, .ref (K 57), .int r_18, .int (2 : Int32)]) (rest := []) hx hb hml hown htw hK hP hS hl.1 (w_M_keep hlo K p3 x9_10 (K 57) (9000) r_18 (2 : Int32) hΜ (gMd_57 hΜ) F_22 A_22 _ h) k_M_keep mm_721 ⟨Nat.le_of_ble_eq_true rfl, Nat.le_of_ble_eq_true rfl⟩ rfl rfl (gMd_0 hΜ) rfl rfl rfl (Nat.le_of_ble_eq_true rfl) d_M_divide_271) hS (fun r_23 F_23 A_23 H locs hw hP hS => ?_)
                    have h := hw
                    refine lv_pop hx hb d_M_divide_274 rfl ?_
                    refine lv_goto (tgt := 311) hx hb d_M_divide_275 (by decide) ?_
                    refine lv_aload_n hx hb d_M_divide_311 rfl (lv_at hl 0 rfl) ?_
                    refine gs_get (v := .ref (K 52)) hx hb htw i_M hown hK hP (gMd_0 hΜ) rfl 4 (by decide) (htw _ mm_646) rfl d_M_divide_312 ?_
                    refine lv_iload_n hx hb d_M_divide_315 rfl (lv_at hl 2 rfl) ?_
                    obtain ⟨hin, h⟩ := h
                    refine gs_ild hx hb hK hP (gMd_52 hΜ) hin d_M_divide_316 ?_
                    rw [← hQe]
                    exact gw_iret hx hb hr hlocks hP hK hS h d_M_divide_317
                  · have h := h.2 c_237
                    refine lv_iconst (v := (0 : Int32)) hx hb d_M_divide_240 (by decide) ?_
                    rw [← hQe]
                    exact gw_iret hx hb hr hlocks hP hK hS h d_M_divide_241
                refine lv_icmp_le (tgt := 232) hx hb d_M_divide_225 (by decide) (fun c_225 => ?_) (fun c_225 => ?_)
                · have h := h.1 c_225
                  refine lv_iconst (v := (0 : Int32)) hx hb d_M_divide_232 (by decide) ?_
                  exact join_233 (0 : Int32) _ _ _ h hP hS (lv_sub hl [5, 7, 8, 0, 3, 2, 1] rfl)
                · have h := h.2 c_225
                  refine lv_iconst (v := (1 : Int32)) hx hb d_M_divide_228 (by decide) ?_
                  refine lv_goto (tgt := 233) hx hb d_M_divide_229 (by decide) ?_
                  exact join_233 (1 : Int32) _ _ _ h hP hS (lv_sub hl [5, 7, 8, 0, 3, 2, 1] rfl)
        · have h := h.2 c_73
          refine lv_iconst (v := (0 : Int32)) hx hb d_M_divide_76 (by decide) ?_
          rw [← hQe]
          exact gw_iret hx hb hr hlocks hP hK hS h d_M_divide_77
      refine lv_if_ne (tgt := 68) hx hb d_M_divide_61 (by decide) (fun c_61 => ?_) (fun c_61 => ?_)
      · have h := h.1 c_61
        refine lv_iconst (v := (0 : Int32)) hx hb d_M_divide_68 (by decide) ?_
        exact join_69 (0 : Int32) _ _ _ h hP hS hl
      · have h := h.2 c_61
        refine lv_iconst (v := (1 : Int32)) hx hb d_M_divide_64 (by decide) ?_
        refine lv_goto (tgt := 69) hx hb d_M_divide_65 (by decide) ?_
        exact join_69 (1 : Int32) _ _ _ h hP hS hl
  obtain ⟨J_41, h, hj_41⟩ := h
  have join_41 : ∀  (H : Heap) (locs : List Loc) (ls : Array Slot), J_41 → va_P D gcls (gs_ws Λ F_1 A L) H → va_S (gw_A Λ) s.heap H locs → lv_has ls 11 [(0, .ref (K 49)), (1, .int p1), (2, .int p2), (3, .int p3), (4, .int p4), (5, .int p5)] → W p l e rm_M_divide s m args below meth c H locs 0 0 Q (F0 m 41 ls [.ref (K 49)]) := by
    intro  H locs ls hJ hP hS hl
    have h := hj_41  hJ
    refine lv_iconst (v := (1 : Int32)) hx hb d_M_divide_41 (by decide) ?_
    refine lv_goto (tgt := 46) hx hb d_M_divide_42 (by decide) ?_
    exact join_46 (1 : Int32) _ _ _ h hP hS hl
  refine lv_if_eq (tgt := 41) hx hb d_M_divide_10 (by decide) (fun c_10 => ?_) (fun c_10 => ?_)
  · have h := h.1 c_10
    exact join_41 _ _ _ h hP hS hl
  · have h := h.2 c_10
    refine lv_iload_n hx hb d_M_divide_13 rfl (lv_at hl 3 rfl) ?_
    refine gw_goi (gw_runS (As := [.int p3]) (rest := [.ref (K 49)]) hx hb hml hown htw hK hP hS hl.1 (w_M_isRegister hlo p3 F_1 A _ h) k_M_isRegister mm_699 ⟨Nat.le_of_ble_eq_true rfl, Nat.le_of_ble_eq_true rfl⟩ rfl rfl rfl rfl (Nat.le_of_ble_eq_true rfl) d_M_divide_14) hS (fun r_25 F_25 A_25 H locs hw hP hS => ?_)
    obtain ⟨rfl, hw⟩ := hw
    obtain ⟨rfl, hw⟩ := hw
    have h := hw
    refine lv_if_eq (tgt := 41) hx hb d_M_divide_17 (by decide) (fun c_17 => ?_) (fun c_17 => ?_)
    · have h := h.1 c_17
      exact join_41 _ _ _ h hP hS hl
    · have h := h.2 c_17
      refine lv_iload hx hb d_M_divide_20 (lv_at hl 4 rfl) ?_
      refine gw_goi (gw_runS (As := [.int p4]) (rest := [.ref (K 49)]) hx hb hml hown htw hK hP hS hl.1 (w_M_isRegister hlo p4 F_1 A _ h) k_M_isRegister mm_699 ⟨Nat.le_of_ble_eq_true rfl, Nat.le_of_ble_eq_true rfl⟩ rfl rfl rfl rfl (Nat.le_of_ble_eq_true rfl) d_M_divide_22) hS (fun r_26 F_26 A_26 H locs hw hP hS => ?_)
      obtain ⟨rfl, hw⟩ := hw
      obtain ⟨rfl, hw⟩ := hw
      have h := hw
      refine lv_if_eq (tgt := 41) hx hb d_M_divide_25 (by decide) (fun c_25 => ?_) (fun c_25 => ?_)
      · have h := h.1 c_25
        exact join_41 _ _ _ h hP hS hl
      · have h := h.2 c_25
        refine lv_iload hx hb d_M_divide_28 (lv_at hl 5 rfl) ?_
        refine gw_goi (gw_runS (As := [.int p5]) (rest := [.ref (K 49)]) hx hb hml hown htw hK hP hS hl.1 (w_M_isRegister hlo p5 F_1 A _ h) k_M_isRegister mm_699 ⟨Nat.le_of_ble_eq_true rfl, Nat.le_of_ble_eq_true rfl⟩ rfl rfl rfl rfl (Nat.le_of_ble_eq_true rfl) d_M_divide_30) hS (fun r_27 F_27 A_27 H locs hw hP hS => ?_)
        obtain ⟨rfl, hw⟩ := hw
        obtain ⟨rfl, hw⟩ := hw
        have h := hw
        refine lv_if_eq (tgt := 41) hx hb d_M_divide_33 (by decide) (fun c_33 => ?_) (fun c_33 => ?_)
        · have h := h.1 c_33
          exact join_41 _ _ _ h hP hS hl
        · have h := h.2 c_33
          refine lv_iload_n hx hb d_M_divide_36 rfl (lv_at hl 2 rfl) ?_
          refine lv_iload_n hx hb d_M_divide_37 rfl (lv_at hl 3 rfl) ?_
          refine lv_icmp_ne (tgt := 45) hx hb d_M_divide_38 (by decide) (fun c_38 => ?_) (fun c_38 => ?_)
          · have h := h.1 c_38
            refine lv_iconst (v := (0 : Int32)) hx hb d_M_divide_45 (by decide) ?_
            exact join_46 (0 : Int32) _ _ _ h hP hS hl
          · have h := h.2 c_38
            exact join_41 _ _ _ h hP hS hl
