variable {l : Launch} {D : va_G} {cI cB cJ cW : ClassId} {Λ : gs_L} {L : Nat → Nat → Int64}
abbrev rm_M_shift : Room := { frames := 2, cells := 0, slots := 0, locals := 50 }
set_option maxHeartbeats 4000000 in
set_option maxRecDepth 100000 in
theorem w_M_shift (hlo : gs_D Λ) (K : Nat → Nat) (p1 : Int32) (p2 : Int32) (p3 : Int32) (hΜ : gMd cI Λ K) (F A : gm_M) (post : Int32 → gm_M → gm_M → Prop) (h : vc_M_shift K p1 p2 p3 F A post) : Met l y_M_shift (.code y_M_shift b_M_shift 10 (some .int) :: gw_WS) rm_M_shift (va_Pc [.ref (K 49), .int p1, .int p2, .int p3] (gw_P D cI cB cJ cW Λ L F A)) (gw_Qi D cI cB cJ cW Λ L (fun r F2 A2 => post r F2 A2)) 0 0 (gw_A Λ) := by
  refine Met.ofW (cc := b_M_shift) (maxL := 10) (ret := (some .int)) (by decide) rfl ?_
  intro p e s m args below meth c s₁ B hml hv
  obtain ⟨hargs, hP, hK⟩ := hv
  have hx := B.exec
  have hb := B.bytes
  have hr := B.returns
  have hlocks := B.notSynchronized
  have htw : ∀ w ∈ gw_WS, w.before args s = true := fun w h9 => atoms_spec (ws := .code y_M_shift b_M_shift 10 (some .int) :: gw_WS) B.pre w (List.mem_cons_of_mem _ h9)
  have hown : s.vm.findClass R_M = some m.cls := findClass_of_methodNamed B.named
  have hS : va_S (gw_A Λ) s.heap s.heap [] := va_S.rf
  refine W.eq (g2 := entryFrame m ([.ref (K 49), .int p1, .int p2, .int p3] : List Value).toArray 10) (by rw [hargs]) ?_
  have hl := lv_entry ([.ref (K 49), .int p1, .int p2, .int p3]) (n := 10) (Nat.le_of_ble_eq_true rfl)
  rw [lg_entry_eq]
  generalize (lg_sl ([.ref (K 49), .int p1, .int p2, .int p3]) ++ List.replicate (10 - (lg_sl ([.ref (K 49), .int p1, .int p2, .int p3])).length) Slot.unset).toArray = ls at hl ⊢
  have hl : lv_has ls 10 [(0, .ref (K 49)), (1, .int p1), (2, .int p2), (3, .int p3)] := hl
  generalize hQe : MQ below (gw_Qi D cI cB cJ cW Λ L (fun r F2 A2 => post r F2 A2)) args s 0 0 (gw_A Λ) = Q
  unfold vc_M_shift at h
  refine lv_aload_n hx hb d_M_shift_0 rfl (lv_at hl 0 rfl) ?_
  refine lv_iconst (v := (0 : Int32)) hx hb d_M_shift_1 (by decide) ?_
  refine gs_put (ty := .int) hx hb htw i_M tf_M tf_M_ok n_M hown hK hlo hP hS (gMd_0 hΜ) rfl 0 (by decide) rfl (htw _ mm_642) rfl (by decide +kernel) rfl rfl d_M_shift_2 (fun F_1 eF_1 H locs hP hS => ?_)
  have h := h F_1 eF_1
  refine lv_aload_n hx hb d_M_shift_5 rfl (lv_at hl 0 rfl) ?_
  refine lv_iload_n hx hb d_M_shift_6 rfl (lv_at hl 1 rfl) ?_
  refine gw_goi (gw_runS (As := [.int p1]) (rest := [.ref (K 49)]) hx hb hml hown htw hK hP hS hl.1 (w_M_isRegister hlo p1 F_1 A _ h) k_M_isRegister mm_699 ⟨Nat.le_of_ble_eq_true rfl, Nat.le_of_ble_eq_true rfl⟩ rfl rfl rfl rfl (Nat.le_of_ble_eq_true rfl) d_M_shift_7) hS (fun r_2 F_2 A_2 H locs hw hP hS => ?_)
  obtain ⟨rfl, hw⟩ := hw
  obtain ⟨rfl, hw⟩ := hw
  have h := hw
  obtain ⟨J_38, h, hj_38⟩ := h
  have join_38 : ∀ (v0_3 : Int32) (H : Heap) (locs : List Loc) (ls : Array Slot), J_38 v0_3 → va_P D gcls (gs_ws Λ F_1 A L) H → va_S (gw_A Λ) s.heap H locs → lv_has ls 10 [(0, .ref (K 49)), (1, .int p1), (2, .int p2), (3, .int p3)] → W p l e rm_M_shift s m args below meth c H locs 0 0 Q (F0 m 38 ls [.int v0_3, .ref (K 49)]) := by
    intro v0_3 H locs ls hJ hP hS hl
    have h := hj_38 v0_3 hJ
    refine lv_iconst (v := (1 : Int32)) hx hb d_M_shift_38 (by decide) ?_
    refine gw_goi (gw_runV (As := [.int v0_3, .int (1 : Int32)]) (rest := []) hx hb hml hown htw hK hP hS hl.1 (w_M_fails hlo K v0_3 (1 : Int32) hΜ F_1 A _ h) k_M_fails mm_705 ⟨Nat.le_of_ble_eq_true rfl, Nat.le_of_ble_eq_true rfl⟩ rfl rfl (gMd_0 hΜ) rfl rfl rfl (Nat.le_of_ble_eq_true rfl) d_M_shift_39) hS (fun r_4 F_4 A_4 H locs hw hP hS => ?_)
    obtain ⟨rfl, hw⟩ := hw
    have h := hw
    refine lv_if_eq (tgt := 47) hx hb d_M_shift_42 (by decide) (fun c_42 => ?_) (fun c_42 => ?_)
    · have h := h.1 c_42
      refine lv_aload_n hx hb d_M_shift_47 rfl (lv_at hl 0 rfl) ?_
      refine lv_iload_n hx hb d_M_shift_48 rfl (lv_at hl 2 rfl) ?_
      refine lv_aload_n hx hb d_M_shift_49 rfl (lv_at hl 0 rfl) ?_
      refine gs_get (v := .ref (K 54)) hx hb htw i_M hown hK hP (gMd_0 hΜ) rfl 6 (by decide) (htw _ mm_648) rfl d_M_shift_50 ?_
      refine gw_goi (gw_runV (As := [.int p2, .ref (K 54)]) (rest := []) hx hb hml hown htw hK hP hS hl.1 (w_M_load hlo K p2 (K 54) (9000) hΜ (gMd_54 hΜ) F_4 A _ h) k_M_load mm_713 ⟨Nat.le_of_ble_eq_true rfl, Nat.le_of_ble_eq_true rfl⟩ rfl rfl (gMd_0 hΜ) rfl rfl rfl (Nat.le_of_ble_eq_true rfl) d_M_shift_53) hS (fun r_5 F_5 A_5 H locs hw hP hS => ?_)
      obtain ⟨rfl, hw⟩ := hw
      have h := hw
      refine lv_istore (lv' := [(4, .int r_5), (0, .ref (K 49)), (1, .int p1), (2, .int p2), (3, .int p3)]) hx hb d_M_shift_56 hl (by decide) rfl (fun ls hl => ?_)
      refine lv_iload_n hx hb d_M_shift_58 rfl (lv_at hl 4 rfl) ?_
      refine lv_if_lt (tgt := 105) hx hb d_M_shift_59 (by decide) (fun c_59 => ?_) (fun c_59 => ?_)
      · have h := h.1 c_59
        refine lv_iconst (v := (0 : Int32)) hx hb d_M_shift_105 (by decide) ?_
        refine lv_istore (lv' := [(5, .int (0 : Int32)), (4, .int r_5), (0, .ref (K 49)), (1, .int p1), (2, .int p2), (3, .int p3)]) hx hb d_M_shift_106 hl (by decide) rfl (fun ls hl => ?_)
        refine lv_iconst (v := (0 : Int32)) hx hb d_M_shift_108 (by decide) ?_
        refine lv_istore (lv' := [(6, .int (0 : Int32)), (5, .int (0 : Int32)), (4, .int r_5), (0, .ref (K 49)), (1, .int p1), (2, .int p2), (3, .int p3)]) hx hb d_M_shift_109 hl (by decide) rfl (fun ls hl => ?_)
        refine lv_iconst (v := (0 : Int32)) hx hb d_M_shift_111 (by decide) ?_
        refine lv_istore (lv' := [(7, .int (0 : Int32)), (6, .int (0 : Int32)), (5, .int (0 : Int32)), (4, .int r_5), (0, .ref (K 49)), (1, .int p1), (2, .int p2), (3, .int p3)]) hx hb d_M_shift_112 hl (by decide) rfl (fun ls hl => ?_)
        obtain ⟨I_114, μ_114, h0_114, hs_114⟩ := h
        have loop_114 : ∀ (N : Nat) (x6_6 : Int32) (x7_6 : Int32) (H : Heap) (locs : List Loc) (ls : Array Slot), μ_114 x6_6 x7_6 < N → I_114 x6_6 x7_6 → va_P D gcls (gs_ws Λ F_4 A_5 L) H → va_S (gw_A Λ) s.heap H locs → lv_has ls 10 [(0, .ref (K 49)), (1, .int p1), (2, .int p2), (3, .int p3), (4, .int r_5), (5, .int (0 : Int32)), (6, .int x6_6), (7, .int x7_6)] → W p l e rm_M_shift s m args below meth c H locs 0 0 Q (F0 m 114 ls []) := by
          intro N
          induction N with
          | zero => intro x6_6 x7_6 H locs ls hμ; exact absurd hμ (Nat.not_lt_zero _)
          | succ N ih_114 =>
            intro x6_6 x7_6 H locs ls hμ_114 hI hP hS hl
            have h := hs_114 x6_6 x7_6 hI
            refine lv_iload hx hb d_M_shift_114 (lv_at hl 7 rfl) ?_
            refine lv_iload_n hx hb d_M_shift_116 rfl (lv_at hl 3 rfl) ?_
            refine lv_ineg hx hb d_M_shift_117 ?_
            refine lv_icmp_ge (tgt := 143) hx hb d_M_shift_118 (by decide) (fun c_118 => ?_) (fun c_118 => ?_)
            · have h := h.1 c_118
              refine lv_iconst (v := (0 : Int32)) hx hb d_M_shift_143 (by decide) ?_
              refine lv_istore (lv' := [(7, .int (0 : Int32)), (0, .ref (K 49)), (1, .int p1), (2, .int p2), (3, .int p3), (4, .int r_5), (5, .int (0 : Int32)), (6, .int x6_6)]) hx hb d_M_shift_144 hl (by decide) rfl (fun ls hl => ?_)
              obtain ⟨I_146, μ_146, h0_146, hs_146⟩ := h
              have loop_146 : ∀ (N : Nat) (x5_7 : Int32) (x7_7 : Int32) (A_7 : gm_M) (H : Heap) (locs : List Loc) (ls : Array Slot), μ_146 x5_7 x7_7 A_7 < N → I_146 x5_7 x7_7 A_7 → va_P D gcls (gs_ws Λ F_4 A_7 L) H → va_S (gw_A Λ) s.heap H locs → lv_has ls 10 [(0, .ref (K 49)), (1, .int p1), (2, .int p2), (3, .int p3), (4, .int r_5), (5, .int x5_7), (6, .int x6_6), (7, .int x7_7)] → W p l e rm_M_shift s m args below meth c H locs 0 0 Q (F0 m 146 ls []) := by
                intro N
                induction N with
                | zero => intro x5_7 x7_7 A_7 H locs ls hμ; exact absurd hμ (Nat.not_lt_zero _)
                | succ N ih_146 =>
                  intro x5_7 x7_7 A_7 H locs ls hμ_146 hI hP hS hl
                  have h := hs_146 x5_7 x7_7 A_7 hI
                  refine lv_bipush (v := (16 : Int32)) hx hb d_M_shift_146 (by decide) ?_
                  refine lv_iload hx hb d_M_shift_148 (lv_at hl 7 rfl) ?_
                  refine lv_imul hx hb d_M_shift_150 ?_
                  refine lv_bipush (v := (16 : Int32)) hx hb d_M_shift_151 (by decide) ?_
                  refine lv_iload hx hb d_M_shift_153 (lv_at hl 4 rfl) ?_
                  refine lv_imul hx hb d_M_shift_155 ?_
                  refine lv_iload_n hx hb d_M_shift_156 rfl (lv_at hl 3 rfl) ?_
                  refine lv_iadd hx hb d_M_shift_157 ?_
                  refine lv_icmp_ge (tgt := 229) hx hb d_M_shift_158 (by decide) (fun c_158 => ?_) (fun c_158 => ?_)
                  · have h := h.1 c_158
                    refine lv_aload_n hx hb d_M_shift_229 rfl (lv_at hl 0 rfl) ?_
                    refine gs_get (v := .ref (K 56)) hx hb htw i_M hown hK hP (gMd_0 hΜ) rfl 8 (by decide) (htw _ mm_650) rfl d_M_shift_230 ?_
                    refine lv_iload hx hb d_M_shift_233 (lv_at hl 5 rfl) ?_
                    refine gw_goi (gw_runS (As := [.ref (K 56), .int x5_7]) (rest := []) hx hb hml hown htw hK hP hS hl.1 (w_M_trim hlo (K 56) (9000) x5_7 (gMd_56 hΜ) F_4 A_7 _ h) k_M_trim mm_725 ⟨Nat.le_of_ble_eq_true rfl, Nat.le_of_ble_eq_true rfl⟩ rfl rfl rfl rfl (Nat.le_of_ble_eq_true rfl) d_M_shift_235) hS (fun r_8 F_8 A_8 H locs hw hP hS => ?_)
                    obtain ⟨rfl, hw⟩ := hw
                    obtain ⟨rfl, hw⟩ := hw
                    have h := hw
                    refine lv_istore (lv' := [(5, .int r_8), (0, .ref (K 49)), (1, .int p1), (2, .int p2), (3, .int p3), (4, .int r_5), (6, .int x6_6), (7, .int x7_7)]) hx hb d_M_shift_238 hl (by decide) rfl (fun ls hl => ?_)
                    refine lv_iload hx hb d_M_shift_240 (lv_at hl 6 rfl) ?_
                    obtain ⟨J_281, h, hj_281⟩ := h
                    have join_281 : ∀ (x5_9 : Int32) (A_9 : gm_M) (H : Heap) (locs : List Loc) (ls : Array Slot), J_281 x5_9 A_9 → va_P D gcls (gs_ws Λ F_4 A_9 L) H → va_S (gw_A Λ) s.heap H locs → lv_has ls 10 [(0, .ref (K 49)), (1, .int p1), (2, .int p2), (5, .int x5_9)] → W p l e rm_M_shift s m args below meth c H locs 0 0 Q (F0 m 281 ls []) := by
                      intro x5_9 A_9 H locs ls hJ hP hS hl
                      have h := hj_281 x5_9 A_9 hJ
                      refine lv_aload_n hx hb d_M_shift_281 rfl (lv_at hl 0 rfl) ?_
                      refine lv_iload_n hx hb d_M_shift_282 rfl (lv_at hl 1 rfl) ?_
                      refine lv_aload_n hx hb d_M_shift_283 rfl (lv_at hl 0 rfl) ?_
                      refine gs_get (v := .ref (K 52)) hx hb htw i_M hown hK hP (gMd_0 hΜ) rfl 4 (by decide) (htw _ mm_646) rfl d_M_shift_284 ?_
                      refine lv_iload_n hx hb d_M_shift_287 rfl (lv_at hl 2 rfl) ?_
                      obtain ⟨hin, h⟩ := h
                      refine gs_ild hx hb hK hP (gMd_52 hΜ) hin d_M_shift_288 ?_
                      refine lv_aload_n hx hb d_M_shift_289 rfl (lv_at hl 0 rfl) ?_
                      refine gs_get (v := .ref (K 56)) hx hb htw i_M hown hK hP (gMd_0 hΜ) rfl 8 (by decide) (htw _ mm_650) rfl d_M_shift_290 ?_
                      refine lv_iload hx hb d_M_shift_293 (lv_at hl 3 rfl) ?_
                      refine lv_iconst (v := (2 : Int32)) hx hb d_M_shift_295 (by decide) ?_
                      refine gw_goi (gw_runV (As := [.int p1, .int (A_9 (K 52) p2.toNatClampNeg), .ref (K 56), .int x5_9, .int (2 : Int32)]) (rest := []) hx hb hml hown htw hK hP hS hl.1 (w_M_keep hlo K p1 (A_9 (K 52) p2.toNatClampNeg) (K 56) (9000) x5_9 (2 : Int32) hΜ (gMd_56 hΜ) F_4 A_9 _ h) k_M_keep mm_721 ⟨Nat.le_of_ble_eq_true rfl, Nat.le_of_ble_eq_true rfl⟩ rfl rfl (gMd_0 hΜ) rfl rfl rfl (Nat.le_of_ble_eq_true rfl) d_M_shift_296) hS (fun r_10 F_10 A_10 H locs hw hP hS => ?_)
                      have h := hw
                      refine lv_pop hx hb d_M_shift_299 rfl ?_
                      refine lv_aload_n hx hb d_M_shift_300 rfl (lv_at hl 0 rfl) ?_
                      refine lv_iload_n hx hb d_M_shift_301 rfl (lv_at hl 1 rfl) ?_
                      refine gw_goi (gw_runV (As := [.int p1]) (rest := []) hx hb hml hown htw hK hP hS hl.1 (w_M_size0 hlo K p1 hΜ F_10 A_10 _ h) k_M_size0 mm_709 ⟨Nat.le_of_ble_eq_true rfl, Nat.le_of_ble_eq_true rfl⟩ rfl rfl (gMd_0 hΜ) rfl rfl rfl (Nat.le_of_ble_eq_true rfl) d_M_shift_302) hS (fun r_11 F_11 A_11 H locs hw hP hS => ?_)
                      obtain ⟨rfl, hw⟩ := hw
                      have h := hw
                      rw [← hQe]
                      exact gw_iret hx hb hr hlocks hP hK hS h d_M_shift_305
                    refine lv_if_eq (tgt := 281) hx hb d_M_shift_242 (by decide) (fun c_242 => ?_) (fun c_242 => ?_)
                    · have h := h.1 c_242
                      exact join_281 r_8 A_7 _ _ _ h hP hS (lv_sub hl [1, 2, 3, 0] rfl)
                    · have h := h.2 c_242
                      refine lv_aload_n hx hb d_M_shift_245 rfl (lv_at hl 1 rfl) ?_
                      refine gs_get (v := .ref (K 52)) hx hb htw i_M hown hK hP (gMd_0 hΜ) rfl 4 (by decide) (htw _ mm_646) rfl d_M_shift_246 ?_
                      refine lv_iload_n hx hb d_M_shift_249 rfl (lv_at hl 3 rfl) ?_
                      obtain ⟨hin, h⟩ := h
                      refine gs_ild hx hb hK hP (gMd_52 hΜ) hin d_M_shift_250 ?_
                      refine lv_if_ge (tgt := 281) hx hb d_M_shift_251 (by decide) (fun c_251 => ?_) (fun c_251 => ?_)
                      · have h := h.1 c_251
                        exact join_281 r_8 A_7 _ _ _ h hP hS (lv_sub hl [1, 2, 3, 0] rfl)
                      · have h := h.2 c_251
                        refine lv_aload_n hx hb d_M_shift_254 rfl (lv_at hl 1 rfl) ?_
                        refine gs_get (v := .ref (K 57)) hx hb htw i_M hown hK hP (gMd_0 hΜ) rfl 9 (by decide) (htw _ mm_651) rfl d_M_shift_255 ?_
                        refine lv_iconst (v := (0 : Int32)) hx hb d_M_shift_258 (by decide) ?_
                        refine lv_iconst (v := (1 : Int32)) hx hb d_M_shift_259 (by decide) ?_
                        obtain ⟨hin, h⟩ := h
                        refine gs_ist hx hb hK hlo hP hS (gMd_57 hΜ) hin d_M_shift_260 (fun A_12 eA_12 H locs hP hS => ?_)
                        have h := h A_12 eA_12
                        refine lv_aload_n hx hb d_M_shift_261 rfl (lv_at hl 1 rfl) ?_
                        refine gs_get (v := .ref (K 56)) hx hb htw i_M hown hK hP (gMd_0 hΜ) rfl 8 (by decide) (htw _ mm_650) rfl d_M_shift_262 ?_
                        refine lv_iload hx hb d_M_shift_265 (lv_at hl 0 rfl) ?_
                        refine lv_aload_n hx hb d_M_shift_267 rfl (lv_at hl 1 rfl) ?_
                        refine gs_get (v := .ref (K 57)) hx hb htw i_M hown hK hP (gMd_0 hΜ) rfl 9 (by decide) (htw _ mm_651) rfl d_M_shift_268 ?_
                        refine lv_iconst (v := (1 : Int32)) hx hb d_M_shift_271 (by decide) ?_
                        refine lv_aload_n hx hb d_M_shift_272 rfl (lv_at hl 1 rfl) ?_
                        refine gs_get (v := .ref (K 56)) hx hb htw i_M hown hK hP (gMd_0 hΜ) rfl 8 (by decide) (htw _ mm_650) rfl d_M_shift_273 ?_
                        refine gw_goi (gw_runS (As := [.ref (K 56), .int r_8, .ref (K 57), .int (1 : Int32), .ref (K 56)]) (rest := []) hx hb hml hown htw hK hP hS hl.1 (w_M_plus hlo (K 56) (9000) r_8 (K 57) (9000) (1 : Int32) (K 56) (9000) (gMd_56 hΜ) (gMd_57 hΜ) (gMd_56 hΜ) F_4 A_12 _ h) k_M_plus mm_758 ⟨Nat.le_of_ble_eq_true rfl, Nat.le_of_ble_eq_true rfl⟩ rfl rfl rfl rfl (Nat.le_of_ble_eq_true rfl) d_M_shift_276) hS (fun r_13 F_13 A_13 H locs hw hP hS => ?_)
                        obtain ⟨rfl, hw⟩ := hw
                        have h := hw
                        refine lv_istore (lv' := [(5, .int r_13), (0, .ref (K 49)), (1, .int p1), (2, .int p2), (3, .int p3), (4, .int r_5), (6, .int x6_6), (7, .int x7_7)]) hx hb d_M_shift_279 hl (by decide) rfl (fun ls hl => ?_)
                        exact join_281 r_13 A_13 _ _ _ h hP hS (lv_sub hl [1, 2, 3, 0] rfl)
                  · have h := h.2 c_158
                    refine lv_iconst (v := (0 : Int32)) hx hb d_M_shift_161 (by decide) ?_
                    refine lv_istore (lv' := [(8, .int (0 : Int32)), (0, .ref (K 49)), (1, .int p1), (2, .int p2), (3, .int p3), (4, .int r_5), (5, .int x5_7), (6, .int x6_6), (7, .int x7_7)]) hx hb d_M_shift_162 hl (by decide) rfl (fun ls hl => ?_)
                    refine lv_iconst (v := (0 : Int32)) hx hb d_M_shift_164 (by decide) ?_
                    refine lv_istore (lv' := [(9, .int (0 : Int32)), (8, .int (0 : Int32)), (0, .ref (K 49)), (1, .int p1), (2, .int p2), (3, .int p3), (4, .int r_5), (5, .int x5_7), (6, .int x6_6), (7, .int x7_7)]) hx hb d_M_shift_165 hl (by decide) rfl (fun ls hl => ?_)
                    obtain ⟨I_167, μ_167, h0_167, hs_167⟩ := h
                    have loop_167 : ∀ (N : Nat) (x8_14 : Int32) (x9_14 : Int32) (H : Heap) (locs : List Loc) (ls : Array Slot), μ_167 x8_14 x9_14 < N → I_167 x8_14 x9_14 → va_P D gcls (gs_ws Λ F_4 A_7 L) H → va_S (gw_A Λ) s.heap H locs → lv_has ls 10 [(0, .ref (K 49)), (1, .int p1), (2, .int p2), (3, .int p3), (4, .int r_5), (5, .int x5_7), (6, .int x6_6), (7, .int x7_7), (8, .int x8_14), (9, .int x9_14)] → W p l e rm_M_shift s m args below meth c H locs 0 0 Q (F0 m 167 ls []) := by
                      intro N
                      induction N with
                      | zero => intro x8_14 x9_14 H locs ls hμ; exact absurd hμ (Nat.not_lt_zero _)
                      | succ N ih_167 =>
                        intro x8_14 x9_14 H locs ls hμ_167 hI hP hS hl
                        have h := hs_167 x8_14 x9_14 hI
                        refine lv_iload hx hb d_M_shift_167 (lv_at hl 9 rfl) ?_
                        refine lv_bipush (v := (16 : Int32)) hx hb d_M_shift_169 (by decide) ?_
                        refine lv_icmp_ge (tgt := 211) hx hb d_M_shift_171 (by decide) (fun c_171 => ?_) (fun c_171 => ?_)
                        · have h := h.1 c_171
                          refine lv_aload_n hx hb d_M_shift_211 rfl (lv_at hl 0 rfl) ?_
                          refine gs_get (v := .ref (K 56)) hx hb htw i_M hown hK hP (gMd_0 hΜ) rfl 8 (by decide) (htw _ mm_650) rfl d_M_shift_212 ?_
                          refine lv_iload hx hb d_M_shift_215 (lv_at hl 5 rfl) ?_
                          obtain ⟨x5_15, ex5_15⟩ : ∃ y : Int32, y = x5_7 + (1 : Int32) := ⟨_, rfl⟩
                          have h := h x5_15 ex5_15
                          refine lv_iinc (v := x5_15) (lv' := [(5, .int x5_15), (0, .ref (K 49)), (1, .int p1), (2, .int p2), (3, .int p3), (4, .int r_5), (6, .int x6_6), (7, .int x7_7), (8, .int x8_14), (9, .int x9_14)]) hx hb d_M_shift_217 hl (k := 5) rfl (by rw [ex5_15]; rfl) (by decide) rfl (fun ls hl => ?_)
                          refine lv_iload hx hb d_M_shift_220 (lv_at hl 8 rfl) ?_
                          obtain ⟨hin, h⟩ := h
                          refine gs_ist hx hb hK hlo hP hS (gMd_56 hΜ) hin d_M_shift_222 (fun A_16 eA_16 H locs hP hS => ?_)
                          have h := h A_16 eA_16
                          obtain ⟨x7_17, ex7_17⟩ : ∃ y : Int32, y = x7_7 + (1 : Int32) := ⟨_, rfl⟩
                          have h := h x7_17 ex7_17
                          refine lv_iinc (v := x7_17) (lv' := [(7, .int x7_17), (5, .int x5_15), (0, .ref (K 49)), (1, .int p1), (2, .int p2), (3, .int p3), (4, .int r_5), (6, .int x6_6), (8, .int x8_14), (9, .int x9_14)]) hx hb d_M_shift_223 hl (k := 7) rfl (by rw [ex7_17]; rfl) (by decide) rfl (fun ls hl => ?_)
                          refine lv_goto (tgt := 146) hx hb d_M_shift_226 (by decide) ?_
                          exact ih_146 x5_15 x7_17 A_16 _ _ _ (Nat.lt_of_lt_of_le h.2 (Nat.le_of_lt_succ hμ_146)) h.1 hP hS (lv_sub hl [2, 3, 4, 5, 6, 1, 7, 0] rfl)
                        · have h := h.2 c_171
                          refine lv_aload_n hx hb d_M_shift_174 rfl (lv_at hl 0 rfl) ?_
                          refine gs_get (v := .ref (K 54)) hx hb htw i_M hown hK hP (gMd_0 hΜ) rfl 6 (by decide) (htw _ mm_648) rfl d_M_shift_175 ?_
                          refine lv_iload hx hb d_M_shift_178 (lv_at hl 4 rfl) ?_
                          refine lv_bipush (v := (16 : Int32)) hx hb d_M_shift_180 (by decide) ?_
                          refine lv_iload hx hb d_M_shift_182 (lv_at hl 7 rfl) ?_
                          refine lv_imul hx hb d_M_shift_184 ?_
                          refine lv_iload hx hb d_M_shift_185 (lv_at hl 9 rfl) ?_
                          refine lv_iadd hx hb d_M_shift_187 ?_
                          refine lv_iload_n hx hb d_M_shift_188 rfl (lv_at hl 3 rfl) ?_
                          refine lv_isub hx hb d_M_shift_189 ?_
                          refine gw_goi (gw_runS (As := [.ref (K 54), .int r_5, .int ((((16 : Int32) * x7_7) + x9_14) - p3)]) (rest := []) hx hb hml hown htw hK hP hS hl.1 (w_M_isBit hlo (K 54) (9000) r_5 ((((16 : Int32) * x7_7) + x9_14) - p3) (gMd_54 hΜ) F_4 A_7 _ h) k_M_isBit mm_784 ⟨Nat.le_of_ble_eq_true rfl, Nat.le_of_ble_eq_true rfl⟩ rfl rfl rfl rfl (Nat.le_of_ble_eq_true rfl) d_M_shift_190) hS (fun r_18 F_18 A_18 H locs hw hP hS => ?_)
                          obtain ⟨rfl, hw⟩ := hw
                          obtain ⟨rfl, hw⟩ := hw
                          have h := hw
                          refine lv_if_eq (tgt := 205) hx hb d_M_shift_193 (by decide) (fun c_193 => ?_) (fun c_193 => ?_)
                          · have h := h.1 c_193
                            obtain ⟨x9_19, ex9_19⟩ : ∃ y : Int32, y = x9_14 + (1 : Int32) := ⟨_, rfl⟩
                            have h := h x9_19 ex9_19
                            refine lv_iinc (v := x9_19) (lv' := [(9, .int x9_19), (0, .ref (K 49)), (1, .int p1), (2, .int p2), (3, .int p3), (4, .int r_5), (5, .int x5_7), (6, .int x6_6), (7, .int x7_7), (8, .int x8_14)]) hx hb d_M_shift_205 hl (k := 9) rfl (by rw [ex9_19]; rfl) (by decide) rfl (fun ls hl => ?_)
                            refine lv_goto (tgt := 167) hx hb d_M_shift_208 (by decide) ?_
                            exact ih_167 x8_14 x9_19 _ _ _ (Nat.lt_of_lt_of_le h.2 (Nat.le_of_lt_succ hμ_167)) h.1 hP hS (lv_sub hl [1, 2, 3, 4, 5, 6, 7, 8, 9, 0] rfl)
                          · have h := h.2 c_193
                            refine lv_iload hx hb d_M_shift_196 (lv_at hl 8 rfl) ?_
                            refine lv_iconst (v := (1 : Int32)) hx hb d_M_shift_198 (by decide) ?_
                            refine lv_iload hx hb d_M_shift_199 (lv_at hl 9 rfl) ?_
                            refine lv_ishl hx hb d_M_shift_201 ?_
                            refine lv_ior hx hb d_M_shift_202 ?_
                            refine lv_topi (fun x8_20 ex8_20 => ?_)
                            have h := h x8_20 ex8_20
                            refine lv_istore (lv' := [(8, .int x8_20), (0, .ref (K 49)), (1, .int p1), (2, .int p2), (3, .int p3), (4, .int r_5), (5, .int x5_7), (6, .int x6_6), (7, .int x7_7), (9, .int x9_14)]) hx hb d_M_shift_203 hl (by decide) rfl (fun ls hl => ?_)
                            obtain ⟨x9_21, ex9_21⟩ : ∃ y : Int32, y = x9_14 + (1 : Int32) := ⟨_, rfl⟩
                            have h := h x9_21 ex9_21
                            refine lv_iinc (v := x9_21) (lv' := [(9, .int x9_21), (8, .int x8_20), (0, .ref (K 49)), (1, .int p1), (2, .int p2), (3, .int p3), (4, .int r_5), (5, .int x5_7), (6, .int x6_6), (7, .int x7_7)]) hx hb d_M_shift_205 hl (k := 9) rfl (by rw [ex9_21]; rfl) (by decide) rfl (fun ls hl => ?_)
                            refine lv_goto (tgt := 167) hx hb d_M_shift_208 (by decide) ?_
                            exact ih_167 x8_20 x9_21 _ _ _ (Nat.lt_of_lt_of_le h.2 (Nat.le_of_lt_succ hμ_167)) h.1 hP hS (lv_sub hl [2, 3, 4, 5, 6, 7, 8, 9, 1, 0] rfl)
                    exact loop_167 (μ_167 (0 : Int32) (0 : Int32) + 1) (0 : Int32) (0 : Int32) _ _ _ (Nat.lt_succ_self _) h0_167 hP hS (lv_sub hl [2, 3, 4, 5, 6, 7, 8, 9, 1, 0] rfl)
              exact loop_146 (μ_146 (0 : Int32) (0 : Int32) A_5 + 1) (0 : Int32) (0 : Int32) A_5 _ _ _ (Nat.lt_succ_self _) h0_146 hP hS (lv_sub hl [1, 2, 3, 4, 5, 6, 7, 0] rfl)
            · have h := h.2 c_118
              refine lv_iload hx hb d_M_shift_121 (lv_at hl 6 rfl) ?_
              refine lv_aload_n hx hb d_M_shift_123 rfl (lv_at hl 0 rfl) ?_
              refine gs_get (v := .ref (K 54)) hx hb htw i_M hown hK hP (gMd_0 hΜ) rfl 6 (by decide) (htw _ mm_648) rfl d_M_shift_124 ?_
              refine lv_iload hx hb d_M_shift_127 (lv_at hl 4 rfl) ?_
              refine lv_iload hx hb d_M_shift_129 (lv_at hl 7 rfl) ?_
              refine gw_goi (gw_runS (As := [.ref (K 54), .int r_5, .int x7_6]) (rest := [.int x6_6]) hx hb hml hown htw hK hP hS hl.1 (w_M_isBit hlo (K 54) (9000) r_5 x7_6 (gMd_54 hΜ) F_4 A_5 _ h) k_M_isBit mm_784 ⟨Nat.le_of_ble_eq_true rfl, Nat.le_of_ble_eq_true rfl⟩ rfl rfl rfl rfl (Nat.le_of_ble_eq_true rfl) d_M_shift_131) hS (fun r_22 F_22 A_22 H locs hw hP hS => ?_)
              obtain ⟨rfl, hw⟩ := hw
              obtain ⟨rfl, hw⟩ := hw
              have h := hw
              refine lv_ior hx hb d_M_shift_134 ?_
              refine lv_topi (fun x6_23 ex6_23 => ?_)
              have h := h x6_23 ex6_23
              refine lv_istore (lv' := [(6, .int x6_23), (0, .ref (K 49)), (1, .int p1), (2, .int p2), (3, .int p3), (4, .int r_5), (5, .int (0 : Int32)), (7, .int x7_6)]) hx hb d_M_shift_135 hl (by decide) rfl (fun ls hl => ?_)
              obtain ⟨x7_24, ex7_24⟩ : ∃ y : Int32, y = x7_6 + (1 : Int32) := ⟨_, rfl⟩
              have h := h x7_24 ex7_24
              refine lv_iinc (v := x7_24) (lv' := [(7, .int x7_24), (6, .int x6_23), (0, .ref (K 49)), (1, .int p1), (2, .int p2), (3, .int p3), (4, .int r_5), (5, .int (0 : Int32))]) hx hb d_M_shift_137 hl (k := 7) rfl (by rw [ex7_24]; rfl) (by decide) rfl (fun ls hl => ?_)
              refine lv_goto (tgt := 114) hx hb d_M_shift_140 (by decide) ?_
              exact ih_114 x6_23 x7_24 _ _ _ (Nat.lt_of_lt_of_le h.2 (Nat.le_of_lt_succ hμ_114)) h.1 hP hS (lv_sub hl [2, 3, 4, 5, 6, 7, 1, 0] rfl)
        exact loop_114 (μ_114 (0 : Int32) (0 : Int32) + 1) (0 : Int32) (0 : Int32) _ _ _ (Nat.lt_succ_self _) h0_114 hP hS (lv_sub hl [4, 5, 6, 7, 3, 2, 1, 0] rfl)
      · have h := h.2 c_59
        refine lv_aload_n hx hb d_M_shift_62 rfl (lv_at hl 1 rfl) ?_
        refine lv_iload_n hx hb d_M_shift_63 rfl (lv_at hl 2 rfl) ?_
        refine lv_aload_n hx hb d_M_shift_64 rfl (lv_at hl 1 rfl) ?_
        refine gs_get (v := .ref (K 52)) hx hb htw i_M hown hK hP (gMd_0 hΜ) rfl 4 (by decide) (htw _ mm_646) rfl d_M_shift_65 ?_
        refine lv_iload_n hx hb d_M_shift_68 rfl (lv_at hl 3 rfl) ?_
        obtain ⟨hin, h⟩ := h
        refine gs_ild hx hb hK hP (gMd_52 hΜ) hin d_M_shift_69 ?_
        refine lv_aload_n hx hb d_M_shift_70 rfl (lv_at hl 1 rfl) ?_
        refine gs_get (v := .ref (K 56)) hx hb htw i_M hown hK hP (gMd_0 hΜ) rfl 8 (by decide) (htw _ mm_650) rfl d_M_shift_71 ?_
        refine lv_aload_n hx hb d_M_shift_74 rfl (lv_at hl 1 rfl) ?_
        refine gs_get (v := .ref (K 54)) hx hb htw i_M hown hK hP (gMd_0 hΜ) rfl 6 (by decide) (htw _ mm_648) rfl d_M_shift_75 ?_
        refine lv_iload hx hb d_M_shift_78 (lv_at hl 0 rfl) ?_
        refine lv_iload_n hx hb d_M_shift_80 rfl (lv_at hl 4 rfl) ?_
        refine lv_aload_n hx hb d_M_shift_81 rfl (lv_at hl 1 rfl) ?_
        refine gs_get (v := .ref (K 56)) hx hb htw i_M hown hK hP (gMd_0 hΜ) rfl 8 (by decide) (htw _ mm_650) rfl d_M_shift_82 ?_
        refine gw_goi (gw_runS (As := [.ref (K 54), .int r_5, .int p3, .ref (K 56)]) (rest := [.ref (K 56), .int (A_5 (K 52) p2.toNatClampNeg), .int p1, .ref (K 49)]) hx hb hml hown htw hK hP hS hl.1 (w_M_shiftedLeft hlo (K 54) (9000) r_5 p3 (K 56) (9000) (gMd_54 hΜ) (gMd_56 hΜ) F_4 A_5 _ h) k_M_shiftedLeft mm_781 ⟨Nat.le_of_ble_eq_true rfl, Nat.le_of_ble_eq_true rfl⟩ rfl rfl rfl rfl (Nat.le_of_ble_eq_true rfl) d_M_shift_85) hS (fun r_25 F_25 A_25 H locs hw hP hS => ?_)
        obtain ⟨rfl, hw⟩ := hw
        have h := hw
        refine lv_iconst (v := (2 : Int32)) hx hb d_M_shift_88 (by decide) ?_
        refine gw_goi (gw_runV (As := [.int p1, .int (A_5 (K 52) p2.toNatClampNeg), .ref (K 56), .int r_25, .int (2 : Int32)]) (rest := []) hx hb hml hown htw hK hP hS hl.1 (w_M_keep hlo K p1 (A_5 (K 52) p2.toNatClampNeg) (K 56) (9000) r_25 (2 : Int32) hΜ (gMd_56 hΜ) F_4 A_25 _ h) k_M_keep mm_721 ⟨Nat.le_of_ble_eq_true rfl, Nat.le_of_ble_eq_true rfl⟩ rfl rfl (gMd_0 hΜ) rfl rfl rfl (Nat.le_of_ble_eq_true rfl) d_M_shift_89) hS (fun r_26 F_26 A_26 H locs hw hP hS => ?_)
        have h := hw
        refine lv_if_eq (tgt := 103) hx hb d_M_shift_92 (by decide) (fun c_92 => ?_) (fun c_92 => ?_)
        · have h := h.1 c_92
          refine lv_iconst (v := (0 : Int32)) hx hb d_M_shift_103 (by decide) ?_
          rw [← hQe]
          exact gw_iret hx hb hr hlocks hP hK hS h d_M_shift_104
        · have h := h.2 c_92
          refine lv_aload_n hx hb d_M_shift_95 rfl (lv_at hl 1 rfl) ?_
          refine lv_iload_n hx hb d_M_shift_96 rfl (lv_at hl 2 rfl) ?_
          refine gw_goi (gw_runV (As := [.int p1]) (rest := []) hx hb hml hown htw hK hP hS hl.1 (w_M_size0 hlo K p1 hΜ F_26 A_26 _ h) k_M_size0 mm_709 ⟨Nat.le_of_ble_eq_true rfl, Nat.le_of_ble_eq_true rfl⟩ rfl rfl (gMd_0 hΜ) rfl rfl rfl (Nat.le_of_ble_eq_true rfl) d_M_shift_97) hS (fun r_27 F_27 A_27 H locs hw hP hS => ?_)
          obtain ⟨rfl, hw⟩ := hw
          have h := hw
          refine lv_goto (tgt := 104) hx hb d_M_shift_100 (by decide) ?_
          rw [← hQe]
          exact gw_iret hx hb hr hlocks hP hK hS h d_M_shift_104
    · have h := h.2 c_42
      refine lv_iconst (v := (0 : Int32)) hx hb d_M_shift_45 (by decide) ?_
      rw [← hQe]
      exact gw_iret hx hb hr hlocks hP hK hS h d_M_shift_46
  obtain ⟨J_33, h, hj_33⟩ := h
  have join_33 : ∀  (H : Heap) (locs : List Loc) (ls : Array Slot), J_33 → va_P D gcls (gs_ws Λ F_1 A L) H → va_S (gw_A Λ) s.heap H locs → lv_has ls 10 [(0, .ref (K 49)), (1, .int p1), (2, .int p2), (3, .int p3)] → W p l e rm_M_shift s m args below meth c H locs 0 0 Q (F0 m 33 ls [.ref (K 49)]) := by
    intro  H locs ls hJ hP hS hl
    have h := hj_33  hJ
    refine lv_iconst (v := (1 : Int32)) hx hb d_M_shift_33 (by decide) ?_
    refine lv_goto (tgt := 38) hx hb d_M_shift_34 (by decide) ?_
    exact join_38 (1 : Int32) _ _ _ h hP hS hl
  refine lv_if_eq (tgt := 33) hx hb d_M_shift_10 (by decide) (fun c_10 => ?_) (fun c_10 => ?_)
  · have h := h.1 c_10
    exact join_33 _ _ _ h hP hS hl
  · have h := h.2 c_10
    refine lv_iload_n hx hb d_M_shift_13 rfl (lv_at hl 2 rfl) ?_
    refine gw_goi (gw_runS (As := [.int p2]) (rest := [.ref (K 49)]) hx hb hml hown htw hK hP hS hl.1 (w_M_isRegister hlo p2 F_1 A _ h) k_M_isRegister mm_699 ⟨Nat.le_of_ble_eq_true rfl, Nat.le_of_ble_eq_true rfl⟩ rfl rfl rfl rfl (Nat.le_of_ble_eq_true rfl) d_M_shift_14) hS (fun r_29 F_29 A_29 H locs hw hP hS => ?_)
    obtain ⟨rfl, hw⟩ := hw
    obtain ⟨rfl, hw⟩ := hw
    have h := hw
    refine lv_if_eq (tgt := 33) hx hb d_M_shift_17 (by decide) (fun c_17 => ?_) (fun c_17 => ?_)
    · have h := h.1 c_17
      exact join_33 _ _ _ h hP hS hl
    · have h := h.2 c_17
      refine lv_iload_n hx hb d_M_shift_20 rfl (lv_at hl 3 rfl) ?_
      refine lv_sipush (v := (-4000 : Int32)) hx hb d_M_shift_21 (by decide) ?_
      refine lv_sipush (v := (4000 : Int32)) hx hb d_M_shift_24 (by decide) ?_
      refine gw_goi (gw_runS (As := [.int p3, .int (-4000 : Int32), .int (4000 : Int32)]) (rest := [.ref (K 49)]) hx hb hml hown htw hK hP hS hl.1 (w_M_in hlo p3 (-4000 : Int32) (4000 : Int32) F_1 A _ h) k_M_in mm_702 ⟨Nat.le_of_ble_eq_true rfl, Nat.le_of_ble_eq_true rfl⟩ rfl rfl rfl rfl (Nat.le_of_ble_eq_true rfl) d_M_shift_27) hS (fun r_30 F_30 A_30 H locs hw hP hS => ?_)
      obtain ⟨rfl, hw⟩ := hw
      obtain ⟨rfl, hw⟩ := hw
      have h := hw
      refine lv_if_ne (tgt := 37) hx hb d_M_shift_30 (by decide) (fun c_30 => ?_) (fun c_30 => ?_)
      · have h := h.1 c_30
        refine lv_iconst (v := (0 : Int32)) hx hb d_M_shift_37 (by decide) ?_
        exact join_38 (0 : Int32) _ _ _ h hP hS hl
      · have h := h.2 c_30
        exact join_33 _ _ _ h hP hS hl
abbrev rm_M_twos : Room := { frames := 0, cells := 0, slots := 0, locals := 0 }
set_option maxHeartbeats 4000000 in
set_option maxRecDepth 100000 in
theorem w_M_twos (hlo : gs_D Λ) (a1 n1 : Nat) (p2 : Int32) (p3 : Int32) (p4 : Int32) (h1 : (a1, gI cI n1) ∈ Λ) (F A : gm_M) (post : gm_M → Prop) (h : vc_M_twos a1 n1 p2 p3 p4 F A post) : Met l y_M_twos (.code y_M_twos b_M_twos 6 none :: gw_WS) rm_M_twos (va_Pc [.ref a1, .int p2, .int p3, .int p4] (gw_P D cI cB cJ cW Λ L F A)) (gw_Qv D cI cB cJ cW Λ L (fun F2 A2 => F = F2 ∧ post A2)) 0 0 (gw_A Λ) := by
  refine Met.ofW (cc := b_M_twos) (maxL := 6) (ret := none) (by decide) rfl ?_
  intro p e s m args below meth c s₁ B hml hv
  obtain ⟨hargs, hP, hK⟩ := hv
  have hx := B.exec
  have hb := B.bytes
  have hr := B.returns
  have hlocks := B.notSynchronized
  have htw : ∀ w ∈ gw_WS, w.before args s = true := fun w h9 => atoms_spec (ws := .code y_M_twos b_M_twos 6 none :: gw_WS) B.pre w (List.mem_cons_of_mem _ h9)
  have hown : s.vm.findClass R_M = some m.cls := findClass_of_methodNamed B.named
  have hS : va_S (gw_A Λ) s.heap s.heap [] := va_S.rf
  refine W.eq (g2 := entryFrame m ([.ref a1, .int p2, .int p3, .int p4] : List Value).toArray 6) (by rw [hargs]) ?_
  have hl := lv_entry ([.ref a1, .int p2, .int p3, .int p4]) (n := 6) (Nat.le_of_ble_eq_true rfl)
  rw [lg_entry_eq]
  generalize (lg_sl ([.ref a1, .int p2, .int p3, .int p4]) ++ List.replicate (6 - (lg_sl ([.ref a1, .int p2, .int p3, .int p4])).length) Slot.unset).toArray = ls at hl ⊢
  have hl : lv_has ls 6 [(0, .ref a1), (1, .int p2), (2, .int p3), (3, .int p4)] := hl
  generalize hQe : MQ below (gw_Qv D cI cB cJ cW Λ L (fun F2 A2 => F = F2 ∧ post A2)) args s 0 0 (gw_A Λ) = Q
  unfold vc_M_twos at h
  refine lv_iload_n hx hb d_M_twos_0 rfl (lv_at hl 1 rfl) ?_
  refine lv_istore (lv' := [(4, .int p2), (0, .ref a1), (1, .int p2), (2, .int p3), (3, .int p4)]) hx hb d_M_twos_1 hl (by decide) rfl (fun ls hl => ?_)
  obtain ⟨I_3, μ_3, h0_3, hs_3⟩ := h
  have loop_3 : ∀ (N : Nat) (x4_1 : Int32) (A_1 : gm_M) (H : Heap) (locs : List Loc) (ls : Array Slot), μ_3 x4_1 A_1 < N → I_3 x4_1 A_1 → va_P D gcls (gs_ws Λ F A_1 L) H → va_S (gw_A Λ) s.heap H locs → lv_has ls 6 [(0, .ref a1), (2, .int p3), (3, .int p4), (4, .int x4_1)] → W p l e rm_M_twos s m args below meth c H locs 0 0 Q (F0 m 3 ls []) := by
    intro N
    induction N with
    | zero => intro x4_1 A_1 H locs ls hμ; exact absurd hμ (Nat.not_lt_zero _)
    | succ N ih_3 =>
      intro x4_1 A_1 H locs ls hμ_3 hI hP hS hl
      have h := hs_3 x4_1 A_1 hI
      refine lv_iload hx hb d_M_twos_3 (lv_at hl 3 rfl) ?_
      refine lv_iload_n hx hb d_M_twos_5 rfl (lv_at hl 1 rfl) ?_
      refine lv_icmp_ge (tgt := 20) hx hb d_M_twos_6 (by decide) (fun c_6 => ?_) (fun c_6 => ?_)
      · have h := h.1 c_6
        refine lv_iload_n hx hb d_M_twos_20 rfl (lv_at hl 2 rfl) ?_
        obtain ⟨J_29, h, hj_29⟩ := h
        have join_29 : ∀ (v0_2 : Int32) (H : Heap) (locs : List Loc) (ls : Array Slot), J_29 v0_2 → va_P D gcls (gs_ws Λ F A_1 L) H → va_S (gw_A Λ) s.heap H locs → lv_has ls 6 [(0, .ref a1), (2, .int p3), (3, .int p4)] → W p l e rm_M_twos s m args below meth c H locs 0 0 Q (F0 m 29 ls [.int v0_2]) := by
          intro v0_2 H locs ls hJ hP hS hl
          have h := hj_29 v0_2 hJ
          refine lv_istore (lv' := [(4, .int v0_2), (0, .ref a1), (2, .int p3), (3, .int p4)]) hx hb d_M_twos_29 hl (by decide) rfl (fun ls hl => ?_)
          refine lv_iconst (v := (0 : Int32)) hx hb d_M_twos_31 (by decide) ?_
          refine lv_istore (lv' := [(5, .int (0 : Int32)), (4, .int v0_2), (0, .ref a1), (2, .int p3), (3, .int p4)]) hx hb d_M_twos_32 hl (by decide) rfl (fun ls hl => ?_)
          obtain ⟨I_34, μ_34, h0_34, hs_34⟩ := h
          have loop_34 : ∀ (N : Nat) (x4_3 : Int32) (x5_3 : Int32) (A_3 : gm_M) (H : Heap) (locs : List Loc) (ls : Array Slot), μ_34 x4_3 x5_3 A_3 < N → I_34 x4_3 x5_3 A_3 → va_P D gcls (gs_ws Λ F A_3 L) H → va_S (gw_A Λ) s.heap H locs → lv_has ls 6 [(0, .ref a1), (2, .int p3), (3, .int p4), (4, .int x4_3), (5, .int x5_3)] → W p l e rm_M_twos s m args below meth c H locs 0 0 Q (F0 m 34 ls []) := by
            intro N
            induction N with
            | zero => intro x4_3 x5_3 A_3 H locs ls hμ; exact absurd hμ (Nat.not_lt_zero _)
            | succ N ih_34 =>
              intro x4_3 x5_3 A_3 H locs ls hμ_34 hI hP hS hl
              have h := hs_34 x4_3 x5_3 A_3 hI
              refine lv_iload hx hb d_M_twos_34 (lv_at hl 4 rfl) ?_
              refine lv_iload_n hx hb d_M_twos_36 rfl (lv_at hl 1 rfl) ?_
              refine lv_icmp_ge (tgt := 80) hx hb d_M_twos_37 (by decide) (fun c_37 => ?_) (fun c_37 => ?_)
              · have h := h.1 c_37
                rw [← hQe]
                exact gw_vret hx hb hr hlocks hP hK hS ⟨rfl, h⟩ d_M_twos_80
              · have h := h.2 c_37
                refine lv_iload_n hx hb d_M_twos_40 rfl (lv_at hl 2 rfl) ?_
                refine lv_if_eq (tgt := 80) hx hb d_M_twos_41 (by decide) (fun c_41 => ?_) (fun c_41 => ?_)
                · have h := h.1 c_41
                  rw [← hQe]
                  exact gw_vret hx hb hr hlocks hP hK hS ⟨rfl, h⟩ d_M_twos_80
                · have h := h.2 c_41
                  refine lv_iload hx hb d_M_twos_44 (lv_at hl 3 rfl) ?_
                  refine lv_aload_n hx hb d_M_twos_46 rfl (lv_at hl 0 rfl) ?_
                  refine lv_iload hx hb d_M_twos_47 (lv_at hl 4 rfl) ?_
                  obtain ⟨hin, h⟩ := h
                  refine gs_ild hx hb hK hP h1 hin d_M_twos_49 ?_
                  refine lv_iconst (v := (-1 : Int32)) hx hb d_M_twos_50 (by decide) ?_
                  refine lv_ixor hx hb d_M_twos_51 ?_
                  refine lv_ldc (v := (65535 : Int32)) hx hb hown (htw _ mm_761) d_M_twos_52 ?_
                  refine lv_iand hx hb d_M_twos_54 ?_
                  refine lv_iadd hx hb d_M_twos_55 ?_
                  refine lv_topi (fun x4_4 ex4_4 => ?_)
                  have h := h x4_4 ex4_4
                  refine lv_istore (lv' := [(4, .int x4_4), (0, .ref a1), (2, .int p3), (3, .int p4), (5, .int x5_3)]) hx hb d_M_twos_56 hl (by decide) rfl (fun ls hl => ?_)
                  refine lv_aload_n hx hb d_M_twos_58 rfl (lv_at hl 1 rfl) ?_
                  refine lv_iload hx hb d_M_twos_59 (lv_at hl 4 rfl) ?_
                  refine lv_iload hx hb d_M_twos_61 (lv_at hl 0 rfl) ?_
                  refine lv_ldc (v := (65535 : Int32)) hx hb hown (htw _ mm_761) d_M_twos_63 ?_
                  refine lv_iand hx hb d_M_twos_65 ?_
                  obtain ⟨hin, h⟩ := h
                  refine gs_ist hx hb hK hlo hP hS h1 hin d_M_twos_66 (fun A_5 eA_5 H locs hP hS => ?_)
                  have h := h A_5 eA_5
                  refine lv_iload hx hb d_M_twos_67 (lv_at hl 0 rfl) ?_
                  refine lv_bipush (v := (16 : Int32)) hx hb d_M_twos_69 (by decide) ?_
                  refine lv_ishr hx hb d_M_twos_71 ?_
                  refine lv_topi (fun x4_6 ex4_6 => ?_)
                  have h := h x4_6 ex4_6
                  refine lv_istore (lv' := [(4, .int x4_6), (0, .ref a1), (2, .int p3), (3, .int p4), (5, .int x5_3)]) hx hb d_M_twos_72 hl (by decide) rfl (fun ls hl => ?_)
                  obtain ⟨x5_7, ex5_7⟩ : ∃ y : Int32, y = x5_3 + (1 : Int32) := ⟨_, rfl⟩
                  have h := h x5_7 ex5_7
                  refine lv_iinc (v := x5_7) (lv' := [(5, .int x5_7), (4, .int x4_6), (0, .ref a1), (2, .int p3), (3, .int p4)]) hx hb d_M_twos_74 hl (k := 4) rfl (by rw [ex5_7]; rfl) (by decide) rfl (fun ls hl => ?_)
                  refine lv_goto (tgt := 34) hx hb d_M_twos_77 (by decide) ?_
                  exact ih_34 x4_6 x5_7 A_5 _ _ _ (Nat.lt_of_lt_of_le h.2 (Nat.le_of_lt_succ hμ_34)) h.1 hP hS (lv_sub hl [2, 3, 4, 1, 0] rfl)
          exact loop_34 (μ_34 v0_2 (0 : Int32) A_1 + 1) v0_2 (0 : Int32) A_1 _ _ _ (Nat.lt_succ_self _) h0_34 hP hS (lv_sub hl [2, 3, 4, 1, 0] rfl)
        refine lv_if_eq (tgt := 28) hx hb d_M_twos_21 (by decide) (fun c_21 => ?_) (fun c_21 => ?_)
        · have h := h.1 c_21
          refine lv_iconst (v := (0 : Int32)) hx hb d_M_twos_28 (by decide) ?_
          exact join_29 (0 : Int32) _ _ _ h hP hS (lv_sub hl [0, 1, 2] rfl)
        · have h := h.2 c_21
          refine lv_iconst (v := (1 : Int32)) hx hb d_M_twos_24 (by decide) ?_
          refine lv_goto (tgt := 29) hx hb d_M_twos_25 (by decide) ?_
          exact join_29 (1 : Int32) _ _ _ h hP hS (lv_sub hl [0, 1, 2] rfl)
      · have h := h.2 c_6
        refine lv_aload_n hx hb d_M_twos_9 rfl (lv_at hl 0 rfl) ?_
        refine lv_iload hx hb d_M_twos_10 (lv_at hl 3 rfl) ?_
        refine lv_iconst (v := (0 : Int32)) hx hb d_M_twos_12 (by decide) ?_
        obtain ⟨hin, h⟩ := h
        refine gs_ist hx hb hK hlo hP hS h1 hin d_M_twos_13 (fun A_8 eA_8 H locs hP hS => ?_)
        have h := h A_8 eA_8
        obtain ⟨x4_9, ex4_9⟩ : ∃ y : Int32, y = x4_1 + (1 : Int32) := ⟨_, rfl⟩
        have h := h x4_9 ex4_9
        refine lv_iinc (v := x4_9) (lv' := [(4, .int x4_9), (0, .ref a1), (2, .int p3), (3, .int p4)]) hx hb d_M_twos_14 hl (k := 3) rfl (by rw [ex4_9]; rfl) (by decide) rfl (fun ls hl => ?_)
        refine lv_goto (tgt := 3) hx hb d_M_twos_17 (by decide) ?_
        exact ih_3 x4_9 A_8 _ _ _ (Nat.lt_of_lt_of_le h.2 (Nat.le_of_lt_succ hμ_3)) h.1 hP hS (lv_sub hl [1, 2, 3, 0] rfl)
  exact loop_3 (μ_3 p2 A + 1) p2 A _ _ _ (Nat.lt_succ_self _) h0_3 hP hS (lv_sub hl [1, 3, 4, 0] rfl)
