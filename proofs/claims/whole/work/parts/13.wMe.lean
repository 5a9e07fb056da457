variable {l : Launch} {D : va_G} {cI cB cJ cW : ClassId} {Λ : gs_L} {L : Nat → Nat → Int64}
abbrev rm_M_read : Room := { frames := 2, cells := 0, slots := 0, locals := 50 }
set_option maxHeartbeats 4000000 in
set_option maxRecDepth 100000 in
theorem w_M_read (hlo : gs_D Λ) (K : Nat → Nat) (p1 : Int32) (p2 : Int32) (hΜ : gMd cI Λ K) (F A : gm_M) (post : Int32 → gm_M → gm_M → Prop) (h : vc_M_read K p1 p2 F A post) : Met l y_M_read (.code y_M_read b_M_read 7 (some .int) :: gw_WS) rm_M_read (va_Pc [.ref (K 49), .int p1, .int p2] (gw_P D cI cB cJ cW Λ L F A)) (gw_Qi D cI cB cJ cW Λ L (fun r F2 A2 => post r F2 A2)) 0 0 (gw_A Λ) := by
  refine Met.ofW (cc := b_M_read) (maxL := 7) (ret := (some .int)) (by decide) rfl ?_
  intro p e s m args below meth c s₁ B hml hv
  obtain ⟨hargs, hP, hK⟩ := hv
  have hx := B.exec
  have hb := B.bytes
  have hr := B.returns
  have hlocks := B.notSynchronized
  have htw : ∀ w ∈ gw_WS, w.before args s = true := fun w h9 => atoms_spec (ws := .code y_M_read b_M_read 7 (some .int) :: gw_WS) B.pre w (List.mem_cons_of_mem _ h9)
  have hown : s.vm.findClass R_M = some m.cls := findClass_of_methodNamed B.named
  have hS : va_S (gw_A Λ) s.heap s.heap [] := va_S.rf
  refine W.eq (g2 := entryFrame m ([.ref (K 49), .int p1, .int p2] : List Value).toArray 7) (by rw [hargs]) ?_
  have hl := lv_entry ([.ref (K 49), .int p1, .int p2]) (n := 7) (Nat.le_of_ble_eq_true rfl)
  rw [lg_entry_eq]
  generalize (lg_sl ([.ref (K 49), .int p1, .int p2]) ++ List.replicate (7 - (lg_sl ([.ref (K 49), .int p1, .int p2])).length) Slot.unset).toArray = ls at hl ⊢
  have hl : lv_has ls 7 [(0, .ref (K 49)), (1, .int p1), (2, .int p2)] := hl
  generalize hQe : MQ below (gw_Qi D cI cB cJ cW Λ L (fun r F2 A2 => post r F2 A2)) args s 0 0 (gw_A Λ) = Q
  unfold vc_M_read at h
  refine lv_aload_n hx hb d_M_read_0 rfl (lv_at hl 0 rfl) ?_
  refine lv_iconst (v := (0 : Int32)) hx hb d_M_read_1 (by decide) ?_
  refine gs_put (ty := .int) hx hb htw i_M tf_M tf_M_ok n_M hown hK hlo hP hS (gMd_0 hΜ) rfl 0 (by decide) rfl (htw _ mm_642) rfl (by decide +kernel) rfl rfl d_M_read_2 (fun F_1 eF_1 H locs hP hS => ?_)
  have h := h F_1 eF_1
  refine lv_aload_n hx hb d_M_read_5 rfl (lv_at hl 0 rfl) ?_
  refine gs_get (v := .int (F_1 (K 49) 1)) hx hb htw i_M hown hK hP (gMd_0 hΜ) rfl 1 (by decide) (htw _ mm_643) rfl d_M_read_6 ?_
  refine lv_topi (fun x3_2 ex3_2 => ?_)
  have h := h x3_2 ex3_2
  refine lv_istore_n (lv' := [(3, .int x3_2), (0, .ref (K 49)), (1, .int p1), (2, .int p2)]) hx hb d_M_read_9 rfl hl (by decide) rfl (fun ls hl => ?_)
  refine lv_iload_n hx hb d_M_read_10 rfl (lv_at hl 0 rfl) ?_
  obtain ⟨J_30, h, hj_30⟩ := h
  have join_30 : ∀ (v0_3 : Int32) (H : Heap) (locs : List Loc) (ls : Array Slot), J_30 v0_3 → va_P D gcls (gs_ws Λ F_1 A L) H → va_S (gw_A Λ) s.heap H locs → lv_has ls 7 [(0, .ref (K 49)), (1, .int p1), (2, .int p2), (3, .int x3_2)] → W p l e rm_M_read s m args below meth c H locs 0 0 Q (F0 m 30 ls [.int v0_3]) := by
    intro v0_3 H locs ls hJ hP hS hl
    have h := hj_30 v0_3 hJ
    refine lv_istore (lv' := [(4, .int v0_3), (0, .ref (K 49)), (1, .int p1), (2, .int p2), (3, .int x3_2)]) hx hb d_M_read_30 hl (by decide) rfl (fun ls hl => ?_)
    refine lv_iconst (v := (0 : Int32)) hx hb d_M_read_32 (by decide) ?_
    refine lv_istore (lv' := [(5, .int (0 : Int32)), (4, .int v0_3), (0, .ref (K 49)), (1, .int p1), (2, .int p2), (3, .int x3_2)]) hx hb d_M_read_33 hl (by decide) rfl (fun ls hl => ?_)
    refine lv_aload_n hx hb d_M_read_35 rfl (lv_at hl 2 rfl) ?_
    refine lv_iconst (v := (0 : Int32)) hx hb d_M_read_36 (by decide) ?_
    refine gs_put (ty := .int) hx hb htw i_M tf_M tf_M_ok n_M hown hK hlo hP hS (gMd_0 hΜ) rfl 1 (by decide) rfl (htw _ mm_643) rfl (by decide +kernel) rfl rfl d_M_read_37 (fun F_4 eF_4 H locs hP hS => ?_)
    have h := h F_4 eF_4
    refine lv_aload_n hx hb d_M_read_40 rfl (lv_at hl 2 rfl) ?_
    refine lv_iload_n hx hb d_M_read_41 rfl (lv_at hl 3 rfl) ?_
    refine gw_goi (gw_runS (As := [.int p1]) (rest := [.ref (K 49)]) hx hb hml hown htw hK hP hS hl.1 (w_M_isRegister hlo p1 F_4 A _ h) k_M_isRegister mm_699 ⟨Nat.le_of_ble_eq_true rfl, Nat.le_of_ble_eq_true rfl⟩ rfl rfl rfl rfl (Nat.le_of_ble_eq_true rfl) d_M_read_42) hS (fun r_5 F_5 A_5 H locs hw hP hS => ?_)
    obtain ⟨rfl, hw⟩ := hw
    obtain ⟨rfl, hw⟩ := hw
    have h := hw
    obtain ⟨J_69, h, hj_69⟩ := h
    have join_69 : ∀ (v0_6 : Int32) (H : Heap) (locs : List Loc) (ls : Array Slot), J_69 v0_6 → va_P D gcls (gs_ws Λ F_4 A L) H → va_S (gw_A Λ) s.heap H locs → lv_has ls 7 [(0, .ref (K 49)), (1, .int p1), (2, .int p2), (3, .int x3_2), (4, .int v0_3), (5, .int (0 : Int32))] → W p l e rm_M_read s m args below meth c H locs 0 0 Q (F0 m 69 ls [.int v0_6, .ref (K 49)]) := by
      intro v0_6 H locs ls hJ hP hS hl
      have h := hj_69 v0_6 hJ
      refine lv_iconst (v := (1 : Int32)) hx hb d_M_read_69 (by decide) ?_
      refine gw_goi (gw_runV (As := [.int v0_6, .int (1 : Int32)]) (rest := []) hx hb hml hown htw hK hP hS hl.1 (w_M_fails hlo K v0_6 (1 : Int32) hΜ F_4 A _ h) k_M_fails mm_705 ⟨Nat.le_of_ble_eq_true rfl, Nat.le_of_ble_eq_true rfl⟩ rfl rfl (gMd_0 hΜ) rfl rfl rfl (Nat.le_of_ble_eq_true rfl) d_M_read_70) hS (fun r_7 F_7 A_7 H locs hw hP hS => ?_)
      obtain ⟨rfl, hw⟩ := hw
      have h := hw
      refine lv_if_eq (tgt := 78) hx hb d_M_read_73 (by decide) (fun c_73 => ?_) (fun c_73 => ?_)
      · have h := h.1 c_73
        refine lv_iload hx hb d_M_read_78 (lv_at hl 4 rfl) ?_
        refine lv_istore (lv' := [(6, .int v0_3), (0, .ref (K 49)), (1, .int p1), (2, .int p2), (3, .int x3_2), (4, .int v0_3), (5, .int (0 : Int32))]) hx hb d_M_read_80 hl (by decide) rfl (fun ls hl => ?_)
        obtain ⟨I_82, μ_82, h0_82, hs_82⟩ := h
        have loop_82 : ∀ (N : Nat) (x6_8 : Int32) (F_8 : gm_M) (H : Heap) (locs : List Loc) (ls : Array Slot), μ_82 x6_8 F_8 < N → I_82 x6_8 F_8 → va_P D gcls (gs_ws Λ F_8 A L) H → va_S (gw_A Λ) s.heap H locs → lv_has ls 7 [(0, .ref (K 49)), (1, .int p1), (2, .int p2), (3, .int x3_2), (4, .int v0_3), (5, .int (0 : Int32)), (6, .int x6_8)] → W p l e rm_M_read s m args below meth c H locs 0 0 Q (F0 m 82 ls []) := by
          intro N
          induction N with
          | zero => intro x6_8 F_8 H locs ls hμ; exact absurd hμ (Nat.not_lt_zero _)
          | succ N ih_82 =>
            intro x6_8 F_8 H locs ls hμ_82 hI hP hS hl
            have h := hs_82 x6_8 F_8 hI
            refine lv_iload hx hb d_M_read_82 (lv_at hl 6 rfl) ?_
            refine lv_iload_n hx hb d_M_read_84 rfl (lv_at hl 3 rfl) ?_
            refine lv_icmp_ge (tgt := 123) hx hb d_M_read_85 (by decide) (fun c_85 => ?_) (fun c_85 => ?_)
            · have h := h.1 c_85
              refine lv_iload hx hb d_M_read_123 (lv_at hl 4 rfl) ?_
              refine lv_istore (lv' := [(6, .int v0_3), (0, .ref (K 49)), (1, .int p1), (2, .int p2), (3, .int x3_2), (4, .int v0_3), (5, .int (0 : Int32))]) hx hb d_M_read_125 hl (by decide) rfl (fun ls hl => ?_)
              obtain ⟨I_127, μ_127, h0_127, hs_127⟩ := h
              have loop_127 : ∀ (N : Nat) (x5_9 : Int32) (x6_9 : Int32) (A_9 : gm_M) (H : Heap) (locs : List Loc) (ls : Array Slot), μ_127 x5_9 x6_9 A_9 < N → I_127 x5_9 x6_9 A_9 → va_P D gcls (gs_ws Λ F_8 A_9 L) H → va_S (gw_A Λ) s.heap H locs → lv_has ls 7 [(0, .ref (K 49)), (1, .int p1), (2, .int p2), (3, .int x3_2), (4, .int v0_3), (5, .int x5_9), (6, .int x6_9)] → W p l e rm_M_read s m args below meth c H locs 0 0 Q (F0 m 127 ls []) := by
                intro N
                induction N with
                | zero => intro x5_9 x6_9 A_9 H locs ls hμ; exact absurd hμ (Nat.not_lt_zero _)
                | succ N ih_127 =>
                  intro x5_9 x6_9 A_9 H locs ls hμ_127 hI hP hS hl
                  have h := hs_127 x5_9 x6_9 A_9 hI
                  refine lv_iload hx hb d_M_read_127 (lv_at hl 6 rfl) ?_
                  refine lv_iload_n hx hb d_M_read_129 rfl (lv_at hl 3 rfl) ?_
                  refine lv_icmp_ge (tgt := 161) hx hb d_M_read_130 (by decide) (fun c_130 => ?_) (fun c_130 => ?_)
                  · have h := h.1 c_130
                    refine lv_aload_n hx hb d_M_read_161 rfl (lv_at hl 0 rfl) ?_
                    refine lv_iload_n hx hb d_M_read_162 rfl (lv_at hl 1 rfl) ?_
                    refine lv_iload hx hb d_M_read_163 (lv_at hl 4 rfl) ?_
                    refine lv_iconst (v := (1 : Int32)) hx hb d_M_read_165 (by decide) ?_
                    obtain ⟨J_174, h, hj_174⟩ := h
                    have join_174 : ∀ (v0_10 : Int32) (H : Heap) (locs : List Loc) (ls : Array Slot), J_174 v0_10 → va_P D gcls (gs_ws Λ F_8 A_9 L) H → va_S (gw_A Λ) s.heap H locs → lv_has ls 7 [(0, .ref (K 49)), (1, .int p1), (5, .int x5_9)] → W p l e rm_M_read s m args below meth c H locs 0 0 Q (F0 m 174 ls [.int v0_10, .int p1, .ref (K 49)]) := by
                      intro v0_10 H locs ls hJ hP hS hl
                      have h := hj_174 v0_10 hJ
                      refine lv_aload_n hx hb d_M_read_174 rfl (lv_at hl 0 rfl) ?_
                      refine gs_get (v := .ref (K 54)) hx hb htw i_M hown hK hP (gMd_0 hΜ) rfl 6 (by decide) (htw _ mm_648) rfl d_M_read_175 ?_
                      refine lv_iload hx hb d_M_read_178 (lv_at hl 2 rfl) ?_
                      refine lv_iconst (v := (2 : Int32)) hx hb d_M_read_180 (by decide) ?_
                      refine gw_goi (gw_runV (As := [.int p1, .int v0_10, .ref (K 54), .int x5_9, .int (2 : Int32)]) (rest := []) hx hb hml hown htw hK hP hS hl.1 (w_M_keep hlo K p1 v0_10 (K 54) (9000) x5_9 (2 : Int32) hΜ (gMd_54 hΜ) F_8 A_9 _ h) k_M_keep mm_721 ⟨Nat.le_of_ble_eq_true rfl, Nat.le_of_ble_eq_true rfl⟩ rfl rfl (gMd_0 hΜ) rfl rfl rfl (Nat.le_of_ble_eq_true rfl) d_M_read_181) hS (fun r_11 F_11 A_11 H locs hw hP hS => ?_)
                      have h := hw
                      refine lv_if_ne (tgt := 189) hx hb d_M_read_184 (by decide) (fun c_184 => ?_) (fun c_184 => ?_)
                      · have h := h.1 c_184
                        refine lv_aload_n hx hb d_M_read_189 rfl (lv_at hl 0 rfl) ?_
                        refine lv_iload_n hx hb d_M_read_190 rfl (lv_at hl 1 rfl) ?_
                        refine gw_goi (gw_runV (As := [.int p1]) (rest := []) hx hb hml hown htw hK hP hS hl.1 (w_M_size0 hlo K p1 hΜ F_11 A_11 _ h) k_M_size0 mm_709 ⟨Nat.le_of_ble_eq_true rfl, Nat.le_of_ble_eq_true rfl⟩ rfl rfl (gMd_0 hΜ) rfl rfl rfl (Nat.le_of_ble_eq_true rfl) d_M_read_191) hS (fun r_12 F_12 A_12 H locs hw hP hS => ?_)
                        obtain ⟨rfl, hw⟩ := hw
                        have h := hw
                        rw [← hQe]
                        exact gw_iret hx hb hr hlocks hP hK hS h d_M_read_194
                      · have h := h.2 c_184
                        refine lv_iconst (v := (0 : Int32)) hx hb d_M_read_187 (by decide) ?_
                        rw [← hQe]
                        exact gw_iret hx hb hr hlocks hP hK hS h d_M_read_188
                    refine lv_icmp_ne (tgt := 173) hx hb d_M_read_166 (by decide) (fun c_166 => ?_) (fun c_166 => ?_)
                    · have h := h.1 c_166
                      refine lv_iconst (v := (1 : Int32)) hx hb d_M_read_173 (by decide) ?_
                      exact join_174 (1 : Int32) _ _ _ h hP hS (lv_sub hl [0, 1, 5] rfl)
                    · have h := h.2 c_166
                      refine lv_iconst (v := (-1 : Int32)) hx hb d_M_read_169 (by decide) ?_
                      refine lv_goto (tgt := 174) hx hb d_M_read_170 (by decide) ?_
                      exact join_174 (-1 : Int32) _ _ _ h hP hS (lv_sub hl [0, 1, 5] rfl)
                  · have h := h.2 c_130
                    refine lv_aload_n hx hb d_M_read_133 rfl (lv_at hl 0 rfl) ?_
                    refine gs_get (v := .ref (K 54)) hx hb htw i_M hown hK hP (gMd_0 hΜ) rfl 6 (by decide) (htw _ mm_648) rfl d_M_read_134 ?_
                    refine lv_iload hx hb d_M_read_137 (lv_at hl 5 rfl) ?_
                    refine lv_iload_n hx hb d_M_read_139 rfl (lv_at hl 2 rfl) ?_
                    refine lv_aload_n hx hb d_M_read_140 rfl (lv_at hl 0 rfl) ?_
                    refine gs_get (v := .ref (K 53)) hx hb htw i_M hown hK hP (gMd_0 hΜ) rfl 5 (by decide) (htw _ mm_647) rfl d_M_read_141 ?_
                    refine lv_iload hx hb d_M_read_144 (lv_at hl 6 rfl) ?_
                    obtain ⟨hin, h⟩ := h
                    refine gs_ild hx hb hK hP (gMd_53 hΜ) hin d_M_read_146 ?_
                    refine gw_goi (gw_runS (As := [.int (A_9 (K 53) x6_9.toNatClampNeg)]) (rest := [.int p2, .int x5_9, .ref (K 54)]) hx hb hml hown htw hK hP hS hl.1 (w_M_digit hlo (A_9 (K 53) x6_9.toNatClampNeg) F_8 A_9 _ h) k_M_digit mm_737 ⟨Nat.le_of_ble_eq_true rfl, Nat.le_of_ble_eq_true rfl⟩ rfl rfl rfl rfl (Nat.le_of_ble_eq_true rfl) d_M_read_147) hS (fun r_13 F_13 A_13 H locs hw hP hS => ?_)
                    obtain ⟨rfl, hw⟩ := hw
                    obtain ⟨rfl, hw⟩ := hw
                    have h := hw
                    refine gw_goi (gw_runS (As := [.ref (K 54), .int x5_9, .int p2, .int r_13]) (rest := []) hx hb hml hown htw hK hP hS hl.1 (w_M_timesSmall hlo (K 54) (9000) x5_9 p2 r_13 (gMd_54 hΜ) F_8 A_9 _ h) k_M_timesSmall mm_740 ⟨Nat.le_of_ble_eq_true rfl, Nat.le_of_ble_eq_true rfl⟩ rfl rfl rfl rfl (Nat.le_of_ble_eq_true rfl) d_M_read_150) hS (fun r_14 F_14 A_14 H locs hw hP hS => ?_)
                    obtain ⟨rfl, hw⟩ := hw
                    have h := hw
                    refine lv_istore (lv' := [(5, .int r_14), (0, .ref (K 49)), (1, .int p1), (2, .int p2), (3, .int x3_2), (4, .int v0_3), (6, .int x6_9)]) hx hb d_M_read_153 hl (by decide) rfl (fun ls hl => ?_)
                    obtain ⟨x6_15, ex6_15⟩ : ∃ y : Int32, y = x6_9 + (1 : Int32) := ⟨_, rfl⟩
                    have h := h x6_15 ex6_15
                    refine lv_iinc (v := x6_15) (lv' := [(6, .int x6_15), (5, .int r_14), (0, .ref (K 49)), (1, .int p1), (2, .int p2), (3, .int x3_2), (4, .int v0_3)]) hx hb d_M_read_155 hl (k := 6) rfl (by rw [ex6_15]; rfl) (by decide) rfl (fun ls hl => ?_)
                    refine lv_goto (tgt := 127) hx hb d_M_read_158 (by decide) ?_
                    exact ih_127 r_14 x6_15 A_14 _ _ _ (Nat.lt_of_lt_of_le h.2 (Nat.le_of_lt_succ hμ_127)) h.1 hP hS (lv_sub hl [2, 3, 4, 5, 6, 1, 0] rfl)
              exact loop_127 (μ_127 (0 : Int32) v0_3 A + 1) (0 : Int32) v0_3 A _ _ _ (Nat.lt_succ_self _) h0_127 hP hS (lv_sub hl [1, 2, 3, 4, 5, 6, 0] rfl)
            · have h := h.2 c_85
              refine lv_aload_n hx hb d_M_read_88 rfl (lv_at hl 0 rfl) ?_
              refine lv_aload_n hx hb d_M_read_89 rfl (lv_at hl 0 rfl) ?_
              refine gs_get (v := .ref (K 53)) hx hb htw i_M hown hK hP (gMd_0 hΜ) rfl 5 (by decide) (htw _ mm_647) rfl d_M_read_90 ?_
              refine lv_iload hx hb d_M_read_93 (lv_at hl 6 rfl) ?_
              obtain ⟨hin, h⟩ := h
              refine gs_ild hx hb hK hP (gMd_53 hΜ) hin d_M_read_95 ?_
              refine gw_goi (gw_runS (As := [.int (A (K 53) x6_8.toNatClampNeg)]) (rest := [.ref (K 49)]) hx hb hml hown htw hK hP hS hl.1 (w_M_digit hlo (A (K 53) x6_8.toNatClampNeg) F_8 A _ h) k_M_digit mm_737 ⟨Nat.le_of_ble_eq_true rfl, Nat.le_of_ble_eq_true rfl⟩ rfl rfl rfl rfl (Nat.le_of_ble_eq_true rfl) d_M_read_96) hS (fun r_16 F_16 A_16 H locs hw hP hS => ?_)
              obtain ⟨rfl, hw⟩ := hw
              obtain ⟨rfl, hw⟩ := hw
              have h := hw
              refine lv_iload_n hx hb d_M_read_99 rfl (lv_at hl 2 rfl) ?_
              refine lv_icmp_lt (tgt := 107) hx hb d_M_read_100 (by decide) (fun c_100 => ?_) (fun c_100 => ?_)
              · have h := h.1 c_100
                refine lv_iconst (v := (0 : Int32)) hx hb d_M_read_107 (by decide) ?_
                refine lv_iconst (v := (1 : Int32)) hx hb d_M_read_108 (by decide) ?_
                refine gw_goi (gw_runV (As := [.int (0 : Int32), .int (1 : Int32)]) (rest := []) hx hb hml hown htw hK hP hS hl.1 (w_M_fails hlo K (0 : Int32) (1 : Int32) hΜ F_8 A _ h) k_M_fails mm_705 ⟨Nat.le_of_ble_eq_true rfl, Nat.le_of_ble_eq_true rfl⟩ rfl rfl (gMd_0 hΜ) rfl rfl rfl (Nat.le_of_ble_eq_true rfl) d_M_read_109) hS (fun r_17 F_17 A_17 H locs hw hP hS => ?_)
                obtain ⟨rfl, hw⟩ := hw
                have h := hw
                refine lv_if_eq (tgt := 117) hx hb d_M_read_112 (by decide) (fun c_112 => ?_) (fun c_112 => ?_)
                · have h := h.1 c_112
                  obtain ⟨x6_18, ex6_18⟩ : ∃ y : Int32, y = x6_8 + (1 : Int32) := ⟨_, rfl⟩
                  have h := h x6_18 ex6_18
                  refine lv_iinc (v := x6_18) (lv' := [(6, .int x6_18), (0, .ref (K 49)), (1, .int p1), (2, .int p2), (3, .int x3_2), (4, .int v0_3), (5, .int (0 : Int32))]) hx hb d_M_read_117 hl (k := 6) rfl (by rw [ex6_18]; rfl) (by decide) rfl (fun ls hl => ?_)
                  refine lv_goto (tgt := 82) hx hb d_M_read_120 (by decide) ?_
                  exact ih_82 x6_18 F_17 _ _ _ (Nat.lt_of_lt_of_le h.2 (Nat.le_of_lt_succ hμ_82)) h.1 hP hS (lv_sub hl [1, 2, 3, 4, 5, 6, 0] rfl)
                · have h := h.2 c_112
                  refine lv_iconst (v := (0 : Int32)) hx hb d_M_read_115 (by decide) ?_
                  rw [← hQe]
                  exact gw_iret hx hb hr hlocks hP hK hS h d_M_read_116
              · have h := h.2 c_100
                refine lv_iconst (v := (1 : Int32)) hx hb d_M_read_103 (by decide) ?_
                refine lv_goto (tgt := 108) hx hb d_M_read_104 (by decide) ?_
                refine lv_iconst (v := (1 : Int32)) hx hb d_M_read_108 (by decide) ?_
                refine gw_goi (gw_runV (As := [.int (1 : Int32), .int (1 : Int32)]) (rest := []) hx hb hml hown htw hK hP hS hl.1 (w_M_fails hlo K (1 : Int32) (1 : Int32) hΜ F_8 A _ h) k_M_fails mm_705 ⟨Nat.le_of_ble_eq_true rfl, Nat.le_of_ble_eq_true rfl⟩ rfl rfl (gMd_0 hΜ) rfl rfl rfl (Nat.le_of_ble_eq_true rfl) d_M_read_109) hS (fun r_19 F_19 A_19 H locs hw hP hS => ?_)
                obtain ⟨rfl, hw⟩ := hw
                have h := hw
                refine lv_if_eq (tgt := 117) hx hb d_M_read_112 (by decide) (fun c_112 => ?_) (fun c_112 => ?_)
                · have h := h.1 c_112
                  obtain ⟨x6_20, ex6_20⟩ : ∃ y : Int32, y = x6_8 + (1 : Int32) := ⟨_, rfl⟩
                  have h := h x6_20 ex6_20
                  refine lv_iinc (v := x6_20) (lv' := [(6, .int x6_20), (0, .ref (K 49)), (1, .int p1), (2, .int p2), (3, .int x3_2), (4, .int v0_3), (5, .int (0 : Int32))]) hx hb d_M_read_117 hl (k := 6) rfl (by rw [ex6_20]; rfl) (by decide) rfl (fun ls hl => ?_)
                  refine lv_goto (tgt := 82) hx hb d_M_read_120 (by decide) ?_
                  exact ih_82 x6_20 F_19 _ _ _ (Nat.lt_of_lt_of_le h.2 (Nat.le_of_lt_succ hμ_82)) h.1 hP hS (lv_sub hl [1, 2, 3, 4, 5, 6, 0] rfl)
                · have h := h.2 c_112
                  refine lv_iconst (v := (0 : Int32)) hx hb d_M_read_115 (by decide) ?_
                  rw [← hQe]
                  exact gw_iret hx hb hr hlocks hP hK hS h d_M_read_116
        exact loop_82 (μ_82 v0_3 F_7 + 1) v0_3 F_7 _ _ _ (Nat.lt_succ_self _) h0_82 hP hS (lv_sub hl [1, 2, 3, 4, 5, 6, 0] rfl)
      · have h := h.2 c_73
        refine lv_iconst (v := (0 : Int32)) hx hb d_M_read_76 (by decide) ?_
        rw [← hQe]
        exact gw_iret hx hb hr hlocks hP hK hS h d_M_read_77
    obtain ⟨J_64, h, hj_64⟩ := h
    have join_64 : ∀  (H : Heap) (locs : List Loc) (ls : Array Slot), J_64 → va_P D gcls (gs_ws Λ F_4 A L) H → va_S (gw_A Λ) s.heap H locs → lv_has ls 7 [(0, .ref (K 49)), (1, .int p1), (2, .int p2), (3, .int x3_2), (4, .int v0_3), (5, .int (0 : Int32))] → W p l e rm_M_read s m args below meth c H locs 0 0 Q (F0 m 64 ls [.ref (K 49)]) := by
      intro  H locs ls hJ hP hS hl
      have h := hj_64  hJ
      refine lv_iconst (v := (1 : Int32)) hx hb d_M_read_64 (by decide) ?_
      refine lv_goto (tgt := 69) hx hb d_M_read_65 (by decide) ?_
      exact join_69 (1 : Int32) _ _ _ h hP hS hl
    refine lv_if_eq (tgt := 64) hx hb d_M_read_45 (by decide) (fun c_45 => ?_) (fun c_45 => ?_)
    · have h := h.1 c_45
      exact join_64 _ _ _ h hP hS (lv_sub hl [2, 3, 4, 5, 1, 0] rfl)
    · have h := h.2 c_45
      refine lv_iload_n hx hb d_M_read_48 rfl (lv_at hl 4 rfl) ?_
      refine lv_iconst (v := (2 : Int32)) hx hb d_M_read_49 (by decide) ?_
      refine lv_bipush (v := (36 : Int32)) hx hb d_M_read_50 (by decide) ?_
      refine gw_goi (gw_runS (As := [.int p2, .int (2 : Int32), .int (36 : Int32)]) (rest := [.ref (K 49)]) hx hb hml hown htw hK hP hS hl.1 (w_M_in hlo p2 (2 : Int32) (36 : Int32) F_4 A _ h) k_M_in mm_702 ⟨Nat.le_of_ble_eq_true rfl, Nat.le_of_ble_eq_true rfl⟩ rfl rfl rfl rfl (Nat.le_of_ble_eq_true rfl) d_M_read_52) hS (fun r_22 F_22 A_22 H locs hw hP hS => ?_)
      obtain ⟨rfl, hw⟩ := hw
      obtain ⟨rfl, hw⟩ := hw
      have h := hw
      refine lv_if_eq (tgt := 64) hx hb d_M_read_55 (by decide) (fun c_55 => ?_) (fun c_55 => ?_)
      · have h := h.1 c_55
        exact join_64 _ _ _ h hP hS (lv_sub hl [2, 3, 4, 5, 1, 0] rfl)
      · have h := h.2 c_55
        refine lv_iload_n hx hb d_M_read_58 rfl (lv_at hl 5 rfl) ?_
        refine lv_iload hx hb d_M_read_59 (lv_at hl 1 rfl) ?_
        refine lv_icmp_ne (tgt := 68) hx hb d_M_read_61 (by decide) (fun c_61 => ?_) (fun c_61 => ?_)
        · have h := h.1 c_61
          refine lv_iconst (v := (0 : Int32)) hx hb d_M_read_68 (by decide) ?_
          exact join_69 (0 : Int32) _ _ _ h hP hS (lv_sub hl [2, 3, 4, 5, 1, 0] rfl)
        · have h := h.2 c_61
          exact join_64 _ _ _ h hP hS (lv_sub hl [2, 3, 4, 5, 1, 0] rfl)
  obtain ⟨J_29, h, hj_29⟩ := h
  have join_29 : ∀  (H : Heap) (locs : List Loc) (ls : Array Slot), J_29 → va_P D gcls (gs_ws Λ F_1 A L) H → va_S (gw_A Λ) s.heap H locs → lv_has ls 7 [(0, .ref (K 49)), (1, .int p1), (2, .int p2), (3, .int x3_2)] → W p l e rm_M_read s m args below meth c H locs 0 0 Q (F0 m 29 ls []) := by
    intro  H locs ls hJ hP hS hl
    have h := hj_29  hJ
    refine lv_iconst (v := (0 : Int32)) hx hb d_M_read_29 (by decide) ?_
    exact join_30 (0 : Int32) _ _ _ h hP hS hl
  refine lv_if_le (tgt := 29) hx hb d_M_read_11 (by decide) (fun c_11 => ?_) (fun c_11 => ?_)
  · have h := h.1 c_11
    exact join_29 _ _ _ h hP hS (lv_sub hl [1, 2, 3, 0] rfl)
  · have h := h.2 c_11
    refine lv_aload_n hx hb d_M_read_14 rfl (lv_at hl 1 rfl) ?_
    refine gs_get (v := .ref (K 53)) hx hb htw i_M hown hK hP (gMd_0 hΜ) rfl 5 (by decide) (htw _ mm_647) rfl d_M_read_15 ?_
    refine lv_iconst (v := (0 : Int32)) hx hb d_M_read_18 (by decide) ?_
    obtain ⟨hin, h⟩ := h
    refine gs_ild hx hb hK hP (gMd_53 hΜ) hin d_M_read_19 ?_
    refine lv_bipush (v := (45 : Int32)) hx hb d_M_read_20 (by decide) ?_
    refine lv_icmp_ne (tgt := 29) hx hb d_M_read_22 (by decide) (fun c_22 => ?_) (fun c_22 => ?_)
    · have h := h.1 c_22
      exact join_29 _ _ _ h hP hS (lv_sub hl [1, 2, 3, 0] rfl)
    · have h := h.2 c_22
      refine lv_iconst (v := (1 : Int32)) hx hb d_M_read_25 (by decide) ?_
      refine lv_goto (tgt := 30) hx hb d_M_read_26 (by decide) ?_
      exact join_30 (1 : Int32) _ _ _ h hP hS (lv_sub hl [1, 2, 3, 0] rfl)
abbrev rm_M_show : Room := { frames := 2, cells := 0, slots := 0, locals := 42 }
set_option maxHeartbeats 4000000 in
set_option maxRecDepth 100000 in
theorem w_M_show (hlo : gs_D Λ) (K : Nat → Nat) (p1 : Int32) (p2 : Int32) (hΜ : gMd cI Λ K) (F A : gm_M) (post : Int32 → gm_M → gm_M → Prop) (h : vc_M_show K p1 p2 F A post) : Met l y_M_show (.code y_M_show b_M_show 8 (some .int) :: gw_WS) rm_M_show (va_Pc [.ref (K 49), .int p1, .int p2] (gw_P D cI cB cJ cW Λ L F A)) (gw_Qi D cI cB cJ cW Λ L (fun r F2 A2 => post r F2 A2)) 0 0 (gw_A Λ) := by
  refine Met.ofW (cc := b_M_show) (maxL := 8) (ret := (some .int)) (by decide) rfl ?_
  intro p e s m args below meth c s₁ B hml hv
  obtain ⟨hargs, hP, hK⟩ := hv
  have hx := B.exec
  have hb := B.bytes
  have hr := B.returns
  have hlocks := B.notSynchronized
  have htw : ∀ w ∈ gw_WS, w.before args s = true := fun w h9 => atoms_spec (ws := .code y_M_show b_M_show 8 (some .int) :: gw_WS) B.pre w (List.mem_cons_of_mem _ h9)
  have hown : s.vm.findClass R_M = some m.cls := findClass_of_methodNamed B.named
  have hS : va_S (gw_A Λ) s.heap s.heap [] := va_S.rf
  refine W.eq (g2 := entryFrame m ([.ref (K 49), .int p1, .int p2] : List Value).toArray 8) (by rw [hargs]) ?_
  have hl := lv_entry ([.ref (K 49), .int p1, .int p2]) (n := 8) (Nat.le_of_ble_eq_true rfl)
  rw [lg_entry_eq]
  generalize (lg_sl ([.ref (K 49), .int p1, .int p2]) ++ List.replicate (8 - (lg_sl ([.ref (K 49), .int p1, .int p2])).length) Slot.unset).toArray = ls at hl ⊢
  have hl : lv_has ls 8 [(0, .ref (K 49)), (1, .int p1), (2, .int p2)] := hl
  generalize hQe : MQ below (gw_Qi D cI cB cJ cW Λ L (fun r F2 A2 => post r F2 A2)) args s 0 0 (gw_A Λ) = Q
  unfold vc_M_show at h
  refine lv_aload_n hx hb d_M_show_0 rfl (lv_at hl 0 rfl) ?_
  refine lv_iconst (v := (0 : Int32)) hx hb d_M_show_1 (by decide) ?_
  refine gs_put (ty := .int) hx hb htw i_M tf_M tf_M_ok n_M hown hK hlo hP hS (gMd_0 hΜ) rfl 0 (by decide) rfl (htw _ mm_642) rfl (by decide +kernel) rfl rfl d_M_show_2 (fun F_1 eF_1 H locs hP hS => ?_)
  have h := h F_1 eF_1
  refine lv_aload_n hx hb d_M_show_5 rfl (lv_at hl 0 rfl) ?_
  refine lv_iload_n hx hb d_M_show_6 rfl (lv_at hl 1 rfl) ?_
  refine gw_goi (gw_runS (As := [.int p1]) (rest := [.ref (K 49)]) hx hb hml hown htw hK hP hS hl.1 (w_M_isRegister hlo p1 F_1 A _ h) k_M_isRegister mm_699 ⟨Nat.le_of_ble_eq_true rfl, Nat.le_of_ble_eq_true rfl⟩ rfl rfl rfl rfl (Nat.le_of_ble_eq_true rfl) d_M_show_7) hS (fun r_2 F_2 A_2 H locs hw hP hS => ?_)
  obtain ⟨rfl, hw⟩ := hw
  obtain ⟨rfl, hw⟩ := hw
  have h := hw
  obtain ⟨J_28, h, hj_28⟩ := h
  have join_28 : ∀ (v0_3 : Int32) (H : Heap) (locs : List Loc) (ls : Array Slot), J_28 v0_3 → va_P D gcls (gs_ws Λ F_1 A L) H → va_S (gw_A Λ) s.heap H locs → lv_has ls 8 [(0, .ref (K 49)), (1, .int p1), (2, .int p2)] → W p l e rm_M_show s m args below meth c H locs 0 0 Q (F0 m 28 ls [.int v0_3, .ref (K 49)]) := by
    intro v0_3 H locs ls hJ hP hS hl
    have h := hj_28 v0_3 hJ
    refine lv_iconst (v := (1 : Int32)) hx hb d_M_show_28 (by decide) ?_
    refine gw_goi (gw_runV (As := [.int v0_3, .int (1 : Int32)]) (rest := []) hx hb hml hown htw hK hP hS hl.1 (w_M_fails hlo K v0_3 (1 : Int32) hΜ F_1 A _ h) k_M_fails mm_705 ⟨Nat.le_of_ble_eq_true rfl, Nat.le_of_ble_eq_true rfl⟩ rfl rfl (gMd_0 hΜ) rfl rfl rfl (Nat.le_of_ble_eq_true rfl) d_M_show_29) hS (fun r_4 F_4 A_4 H locs hw hP hS => ?_)
    obtain ⟨rfl, hw⟩ := hw
    have h := hw
    refine lv_if_eq (tgt := 37) hx hb d_M_show_32 (by decide) (fun c_32 => ?_) (fun c_32 => ?_)
    · have h := h.1 c_32
      refine lv_aload_n hx hb d_M_show_37 rfl (lv_at hl 0 rfl) ?_
      refine lv_iload_n hx hb d_M_show_38 rfl (lv_at hl 1 rfl) ?_
      refine lv_aload_n hx hb d_M_show_39 rfl (lv_at hl 0 rfl) ?_
      refine gs_get (v := .ref (K 54)) hx hb htw i_M hown hK hP (gMd_0 hΜ) rfl 6 (by decide) (htw _ mm_648) rfl d_M_show_40 ?_
      refine gw_goi (gw_runV (As := [.int p1, .ref (K 54)]) (rest := []) hx hb hml hown htw hK hP hS hl.1 (w_M_load hlo K p1 (K 54) (9000) hΜ (gMd_54 hΜ) F_4 A _ h) k_M_load mm_713 ⟨Nat.le_of_ble_eq_true rfl, Nat.le_of_ble_eq_true rfl⟩ rfl rfl (gMd_0 hΜ) rfl rfl rfl (Nat.le_of_ble_eq_true rfl) d_M_show_43) hS (fun r_5 F_5 A_5 H locs hw hP hS => ?_)
      obtain ⟨rfl, hw⟩ := hw
      have h := hw
      refine lv_istore_n (lv' := [(3, .int r_5), (0, .ref (K 49)), (1, .int p1), (2, .int p2)]) hx hb d_M_show_46 rfl hl (by decide) rfl (fun ls hl => ?_)
      refine lv_iconst (v := (0 : Int32)) hx hb d_M_show_47 (by decide) ?_
      refine lv_istore (lv' := [(4, .int (0 : Int32)), (3, .int r_5), (0, .ref (K 49)), (1, .int p1), (2, .int p2)]) hx hb d_M_show_48 hl (by decide) rfl (fun ls hl => ?_)
      obtain ⟨I_50, μ_50, h0_50, hs_50⟩ := h
      have loop_50 : ∀ (N : Nat) (x3_6 : Int32) (x4_6 : Int32) (A_6 : gm_M) (H : Heap) (locs : List Loc) (ls : Array Slot), μ_50 x3_6 x4_6 A_6 < N → I_50 x3_6 x4_6 A_6 → va_P D gcls (gs_ws Λ F_4 A_6 L) H → va_S (gw_A Λ) s.heap H locs → lv_has ls 8 [(0, .ref (K 49)), (1, .int p1), (2, .int p2), (3, .int x3_6), (4, .int x4_6)] → W p l e rm_M_show s m args below meth c H locs 0 0 Q (F0 m 50 ls []) := by
        intro N
        induction N with
        | zero => intro x3_6 x4_6 A_6 H locs ls hμ; exact absurd hμ (Nat.not_lt_zero _)
        | succ N ih_50 =>
          intro x3_6 x4_6 A_6 H locs ls hμ_50 hI hP hS hl
          have h := hs_50 x3_6 x4_6 A_6 hI
          refine lv_iload_n hx hb d_M_show_50 rfl (lv_at hl 3 rfl) ?_
          refine lv_if_le (tgt := 134) hx hb d_M_show_51 (by decide) (fun c_51 => ?_) (fun c_51 => ?_)
          · have h := h.1 c_51
            refine lv_iload hx hb d_M_show_134 (lv_at hl 4 rfl) ?_
            obtain ⟨J_150, h, hj_150⟩ := h
            have join_150 : ∀ (x4_7 : Int32) (A_7 : gm_M) (H : Heap) (locs : List Loc) (ls : Array Slot), J_150 x4_7 A_7 → va_P D gcls (gs_ws Λ F_4 A_7 L) H → va_S (gw_A Λ) s.heap H locs → lv_has ls 8 [(0, .ref (K 49)), (1, .int p1), (4, .int x4_7)] → W p l e rm_M_show s m args below meth c H locs 0 0 Q (F0 m 150 ls []) := by
              intro x4_7 A_7 H locs ls hJ hP hS hl
              have h := hj_150 x4_7 A_7 hJ
              refine lv_aload_n hx hb d_M_show_150 rfl (lv_at hl 0 rfl) ?_
              refine lv_iconst (v := (0 : Int32)) hx hb d_M_show_151 (by decide) ?_
              refine gs_put (ty := .int) hx hb htw i_M tf_M tf_M_ok n_M hown hK hlo hP hS (gMd_0 hΜ) rfl 1 (by decide) rfl (htw _ mm_643) rfl (by decide +kernel) rfl rfl d_M_show_152 (fun F_8 eF_8 H locs hP hS => ?_)
              have h := h F_8 eF_8
              refine lv_aload_n hx hb d_M_show_155 rfl (lv_at hl 0 rfl) ?_
              refine gs_get (v := .ref (K 52)) hx hb htw i_M hown hK hP (gMd_0 hΜ) rfl 4 (by decide) (htw _ mm_646) rfl d_M_show_156 ?_
              refine lv_iload_n hx hb d_M_show_159 rfl (lv_at hl 1 rfl) ?_
              obtain ⟨hin, h⟩ := h
              refine gs_ild hx hb hK hP (gMd_52 hΜ) hin d_M_show_160 ?_
              obtain ⟨J_182, h, hj_182⟩ := h
              have join_182 : ∀ (F_9 : gm_M) (A_9 : gm_M) (H : Heap) (locs : List Loc) (ls : Array Slot), J_182 F_9 A_9 → va_P D gcls (gs_ws Λ F_9 A_9 L) H → va_S (gw_A Λ) s.heap H locs → lv_has ls 8 [(0, .ref (K 49)), (4, .int x4_7)] → W p l e rm_M_show s m args below meth c H locs 0 0 Q (F0 m 182 ls []) := by
                intro F_9 A_9 H locs ls hJ hP hS hl
                have h := hj_182 F_9 A_9 hJ
                refine lv_iload hx hb d_M_show_182 (lv_at hl 1 rfl) ?_
                refine lv_iconst (v := (1 : Int32)) hx hb d_M_show_184 (by decide) ?_
                refine lv_isub hx hb d_M_show_185 ?_
                refine lv_topi (fun x5_10 ex5_10 => ?_)
                have h := h x5_10 ex5_10
                refine lv_istore (lv' := [(5, .int x5_10), (0, .ref (K 49)), (4, .int x4_7)]) hx hb d_M_show_186 hl (by decide) rfl (fun ls hl => ?_)
                obtain ⟨I_188, μ_188, h0_188, hs_188⟩ := h
                have loop_188 : ∀ (N : Nat) (x5_11 : Int32) (F_11 : gm_M) (A_11 : gm_M) (H : Heap) (locs : List Loc) (ls : Array Slot), μ_188 x5_11 F_11 A_11 < N → I_188 x5_11 F_11 A_11 → va_P D gcls (gs_ws Λ F_11 A_11 L) H → va_S (gw_A Λ) s.heap H locs → lv_has ls 8 [(0, .ref (K 49)), (5, .int x5_11)] → W p l e rm_M_show s m args below meth c H locs 0 0 Q (F0 m 188 ls []) := by
                  intro N
                  induction N with
                  | zero => intro x5_11 F_11 A_11 H locs ls hμ; exact absurd hμ (Nat.not_lt_zero _)
                  | succ N ih_188 =>
                    intro x5_11 F_11 A_11 H locs ls hμ_188 hI hP hS hl
                    have h := hs_188 x5_11 F_11 A_11 hI
                    refine lv_iload hx hb d_M_show_188 (lv_at hl 1 rfl) ?_
                    refine lv_if_lt (tgt := 253) hx hb d_M_show_190 (by decide) (fun c_190 => ?_) (fun c_190 => ?_)
                    · have h := h.1 c_190
                      refine lv_aload_n hx hb d_M_show_253 rfl (lv_at hl 0 rfl) ?_
                      refine gs_get (v := .int (F_11 (K 49) 1)) hx hb htw i_M hown hK hP (gMd_0 hΜ) rfl 1 (by decide) (htw _ mm_643) rfl d_M_show_254 ?_
                      rw [← hQe]
                      exact gw_iret hx hb hr hlocks hP hK hS h d_M_show_257
                    · have h := h.2 c_190
                      refine lv_aload_n hx hb d_M_show_193 rfl (lv_at hl 0 rfl) ?_
                      refine gs_get (v := .ref (K 53)) hx hb htw i_M hown hK hP (gMd_0 hΜ) rfl 5 (by decide) (htw _ mm_647) rfl d_M_show_194 ?_
                      refine lv_aload_n hx hb d_M_show_197 rfl (lv_at hl 0 rfl) ?_
                      refine lv_dup hx hb d_M_show_198 rfl ?_
                      refine gs_get (v := .int (F_11 (K 49) 1)) hx hb htw i_M hown hK hP (gMd_0 hΜ) rfl 1 (by decide) (htw _ mm_643) rfl d_M_show_199 ?_
                      refine lv_dup_x1 hx hb d_M_show_202 rfl rfl ?_
                      refine lv_iconst (v := (1 : Int32)) hx hb d_M_show_203 (by decide) ?_
                      refine lv_iadd hx hb d_M_show_204 ?_
                      refine gs_put (ty := .int) hx hb htw i_M tf_M tf_M_ok n_M hown hK hlo hP hS (gMd_0 hΜ) rfl 1 (by decide) rfl (htw _ mm_643) rfl (by decide +kernel) rfl rfl d_M_show_205 (fun F_12 eF_12 H locs hP hS => ?_)
                      have h := h F_12 eF_12
                      refine lv_aload_n hx hb d_M_show_208 rfl (lv_at hl 0 rfl) ?_
                      refine gs_get (v := .ref (K 55)) hx hb htw i_M hown hK hP (gMd_0 hΜ) rfl 7 (by decide) (htw _ mm_649) rfl d_M_show_209 ?_
                      refine lv_iload hx hb d_M_show_212 (lv_at hl 1 rfl) ?_
                      obtain ⟨hin, h⟩ := h
                      refine gs_ild hx hb hK hP (gMd_55 hΜ) hin d_M_show_214 ?_
                      refine lv_bipush (v := (10 : Int32)) hx hb d_M_show_215 (by decide) ?_
                      refine lv_icmp_ge (tgt := 233) hx hb d_M_show_217 (by decide) (fun c_217 => ?_) (fun c_217 => ?_)
                      · have h := h.1 c_217
                        refine lv_bipush (v := (97 : Int32)) hx hb d_M_show_233 (by decide) ?_
                        refine lv_aload_n hx hb d_M_show_235 rfl (lv_at hl 0 rfl) ?_
                        refine gs_get (v := .ref (K 55)) hx hb htw i_M hown hK hP (gMd_0 hΜ) rfl 7 (by decide) (htw _ mm_649) rfl d_M_show_236 ?_
                        refine lv_iload hx hb d_M_show_239 (lv_at hl 1 rfl) ?_
                        obtain ⟨hin, h⟩ := h
                        refine gs_ild hx hb hK hP (gMd_55 hΜ) hin d_M_show_241 ?_
                        refine lv_iadd hx hb d_M_show_242 ?_
                        refine lv_bipush (v := (10 : Int32)) hx hb d_M_show_243 (by decide) ?_
                        refine lv_isub hx hb d_M_show_245 ?_
                        obtain ⟨hin, h⟩ := h
                        refine gs_ist hx hb hK hlo hP hS (gMd_53 hΜ) hin d_M_show_246 (fun A_13 eA_13 H locs hP hS => ?_)
                        have h := h A_13 eA_13
                        obtain ⟨x5_14, ex5_14⟩ : ∃ y : Int32, y = x5_11 + (-1 : Int32) := ⟨_, rfl⟩
                        have h := h x5_14 ex5_14
                        refine lv_iinc (v := x5_14) (lv' := [(5, .int x5_14), (0, .ref (K 49))]) hx hb d_M_show_247 hl (k := 1) rfl (by rw [ex5_14]; rfl) (by decide) rfl (fun ls hl => ?_)
                        refine lv_goto (tgt := 188) hx hb d_M_show_250 (by decide) ?_
                        exact ih_188 x5_14 F_12 A_13 _ _ _ (Nat.lt_of_lt_of_le h.2 (Nat.le_of_lt_succ hμ_188)) h.1 hP hS (lv_sub hl [1, 0] rfl)
                      · have h := h.2 c_217
                        refine lv_bipush (v := (48 : Int32)) hx hb d_M_show_220 (by decide) ?_
                        refine lv_aload_n hx hb d_M_show_222 rfl (lv_at hl 0 rfl) ?_
                        refine gs_get (v := .ref (K 55)) hx hb htw i_M hown hK hP (gMd_0 hΜ) rfl 7 (by decide) (htw _ mm_649) rfl d_M_show_223 ?_
                        refine lv_iload hx hb d_M_show_226 (lv_at hl 1 rfl) ?_
                        obtain ⟨hin, h⟩ := h
                        refine gs_ild hx hb hK hP (gMd_55 hΜ) hin d_M_show_228 ?_
                        refine lv_iadd hx hb d_M_show_229 ?_
                        refine lv_goto (tgt := 246) hx hb d_M_show_230 (by decide) ?_
                        obtain ⟨hin, h⟩ := h
                        refine gs_ist hx hb hK hlo hP hS (gMd_53 hΜ) hin d_M_show_246 (fun A_15 eA_15 H locs hP hS => ?_)
                        have h := h A_15 eA_15
                        obtain ⟨x5_16, ex5_16⟩ : ∃ y : Int32, y = x5_11 + (-1 : Int32) := ⟨_, rfl⟩
                        have h := h x5_16 ex5_16
                        refine lv_iinc (v := x5_16) (lv' := [(5, .int x5_16), (0, .ref (K 49))]) hx hb d_M_show_247 hl (k := 1) rfl (by rw [ex5_16]; rfl) (by decide) rfl (fun ls hl => ?_)
                        refine lv_goto (tgt := 188) hx hb d_M_show_250 (by decide) ?_
                        exact ih_188 x5_16 F_12 A_15 _ _ _ (Nat.lt_of_lt_of_le h.2 (Nat.le_of_lt_succ hμ_188)) h.1 hP hS (lv_sub hl [1, 0] rfl)
                exact loop_188 (μ_188 x5_10 F_9 A_9 + 1) x5_10 F_9 A_9 _ _ _ (Nat.lt_succ_self _) h0_188 hP hS (lv_sub hl [1, 0] rfl)
              refine lv_if_ge (tgt := 182) hx hb d_M_show_161 (by decide) (fun c_161 => ?_) (fun c_161 => ?_)
              · have h := h.1 c_161
                exact join_182 F_8 A_7 _ _ _ h hP hS (lv_sub hl [0, 2] rfl)
              · have h := h.2 c_161
                refine lv_aload_n hx hb d_M_show_164 rfl (lv_at hl 0 rfl) ?_
                refine gs_get (v := .ref (K 53)) hx hb htw i_M hown hK hP (gMd_0 hΜ) rfl 5 (by decide) (htw _ mm_647) rfl d_M_show_165 ?_
                refine lv_aload_n hx hb d_M_show_168 rfl (lv_at hl 0 rfl) ?_
                refine lv_dup hx hb d_M_show_169 rfl ?_
                refine gs_get (v := .int (F_8 (K 49) 1)) hx hb htw i_M hown hK hP (gMd_0 hΜ) rfl 1 (by decide) (htw _ mm_643) rfl d_M_show_170 ?_
                refine lv_dup_x1 hx hb d_M_show_173 rfl rfl ?_
                refine lv_iconst (v := (1 : Int32)) hx hb d_M_show_174 (by decide) ?_
                refine lv_iadd hx hb d_M_show_175 ?_
                refine gs_put (ty := .int) hx hb htw i_M tf_M tf_M_ok n_M hown hK hlo hP hS (gMd_0 hΜ) rfl 1 (by decide) rfl (htw _ mm_643) rfl (by decide +kernel) rfl rfl d_M_show_176 (fun F_17 eF_17 H locs hP hS => ?_)
                have h := h F_17 eF_17
                refine lv_bipush (v := (45 : Int32)) hx hb d_M_show_179 (by decide) ?_
                obtain ⟨hin, h⟩ := h
                refine gs_ist hx hb hK hlo hP hS (gMd_53 hΜ) hin d_M_show_181 (fun A_18 eA_18 H locs hP hS => ?_)
                have h := h A_18 eA_18
                exact join_182 F_17 A_18 _ _ _ h hP hS (lv_sub hl [0, 2] rfl)
            refine lv_if_ne (tgt := 150) hx hb d_M_show_136 (by decide) (fun c_136 => ?_) (fun c_136 => ?_)
            · have h := h.1 c_136
              exact join_150 x4_6 A_6 _ _ _ h hP hS (lv_sub hl [0, 1, 4] rfl)
            · have h := h.2 c_136
              refine lv_aload_n hx hb d_M_show_139 rfl (lv_at hl 0 rfl) ?_
              refine gs_get (v := .ref (K 55)) hx hb htw i_M hown hK hP (gMd_0 hΜ) rfl 7 (by decide) (htw _ mm_649) rfl d_M_show_140 ?_
              refine lv_iload hx hb d_M_show_143 (lv_at hl 4 rfl) ?_
              obtain ⟨x4_19, ex4_19⟩ : ∃ y : Int32, y = x4_6 + (1 : Int32) := ⟨_, rfl⟩
              have h := h x4_19 ex4_19
              refine lv_iinc (v := x4_19) (lv' := [(4, .int x4_19), (0, .ref (K 49)), (1, .int p1), (2, .int p2), (3, .int x3_6)]) hx hb d_M_show_145 hl (k := 4) rfl (by rw [ex4_19]; rfl) (by decide) rfl (fun ls hl => ?_)
              refine lv_iconst (v := (0 : Int32)) hx hb d_M_show_148 (by decide) ?_
              obtain ⟨hin, h⟩ := h
              refine gs_ist hx hb hK hlo hP hS (gMd_55 hΜ) hin d_M_show_149 (fun A_20 eA_20 H locs hP hS => ?_)
              have h := h A_20 eA_20
              exact join_150 x4_19 A_20 _ _ _ h hP hS (lv_sub hl [1, 2, 0] rfl)
          · have h := h.2 c_51
            refine lv_lconst (v := (0 : Int64)) hx hb d_M_show_54 (by decide) ?_
            refine lv_lstore (lv' := [(5, .long (0 : Int64)), (0, .ref (K 49)), (1, .int p1), (2, .int p2), (3, .int x3_6), (4, .int x4_6)]) hx hb d_M_show_55 hl (by decide) rfl (fun ls hl => ?_)
            refine lv_iload_n hx hb d_M_show_57 rfl (lv_at hl 4 rfl) ?_
            refine lv_iconst (v := (1 : Int32)) hx hb d_M_show_58 (by decide) ?_
            refine lv_isub hx hb d_M_show_59 ?_
            refine lv_topi (fun x7_21 ex7_21 => ?_)
            have h := h x7_21 ex7_21
            refine lv_istore (lv' := [(7, .int x7_21), (5, .long (0 : Int64)), (0, .ref (K 49)), (1, .int p1), (2, .int p2), (3, .int x3_6), (4, .int x4_6)]) hx hb d_M_show_60 hl (by decide) rfl (fun ls hl => ?_)
            obtain ⟨I_62, μ_62, h0_62, hs_62⟩ := h
            have loop_62 : ∀ (N : Nat) (x5_22 : Int64) (x7_22 : Int32) (A_22 : gm_M) (H : Heap) (locs : List Loc) (ls : Array Slot), μ_62 x5_22 x7_22 A_22 < N → I_62 x5_22 x7_22 A_22 → va_P D gcls (gs_ws Λ F_4 A_22 L) H → va_S (gw_A Λ) s.heap H locs → lv_has ls 8 [(0, .ref (K 49)), (1, .int p1), (2, .int p2), (3, .int x3_6), (4, .int x4_6), (5, .long x5_22), (7, .int x7_22)] → W p l e rm_M_show s m args below meth c H locs 0 0 Q (F0 m 62 ls []) := by
              intro N
              induction N with
              | zero => intro x5_22 x7_22 A_22 H locs ls hμ; exact absurd hμ (Nat.not_lt_zero _)
              | succ N ih_62 =>
                intro x5_22 x7_22 A_22 H locs ls hμ_62 hI hP hS hl
                have h := hs_62 x5_22 x7_22 A_22 hI
                refine lv_iload hx hb d_M_show_62 (lv_at hl 6 rfl) ?_
                refine lv_if_lt (tgt := 109) hx hb d_M_show_64 (by decide) (fun c_64 => ?_) (fun c_64 => ?_)
                · have h := h.1 c_64
                  refine lv_aload_n hx hb d_M_show_109 rfl (lv_at hl 0 rfl) ?_
                  refine gs_get (v := .ref (K 54)) hx hb htw i_M hown hK hP (gMd_0 hΜ) rfl 6 (by decide) (htw _ mm_648) rfl d_M_show_110 ?_
                  refine lv_iload_n hx hb d_M_show_113 rfl (lv_at hl 3 rfl) ?_
                  refine gw_goi (gw_runS (As := [.ref (K 54), .int x3_6]) (rest := []) hx hb hml hown htw hK hP hS hl.1 (w_M_trim hlo (K 54) (9000) x3_6 (gMd_54 hΜ) F_4 A_22 _ h) k_M_trim mm_725 ⟨Nat.le_of_ble_eq_true rfl, Nat.le_of_ble_eq_true rfl⟩ rfl rfl rfl rfl (Nat.le_of_ble_eq_true rfl) d_M_show_114) hS (fun r_23 F_23 A_23 H locs hw hP hS => ?_)
                  obtain ⟨rfl, hw⟩ := hw
                  obtain ⟨rfl, hw⟩ := hw
                  have h := hw
                  refine lv_istore_n (lv' := [(3, .int r_23), (0, .ref (K 49)), (1, .int p1), (2, .int p2), (4, .int x4_6), (5, .long x5_22), (7, .int x7_22)]) hx hb d_M_show_117 rfl hl (by decide) rfl (fun ls hl => ?_)
                  refine lv_aload_n hx hb d_M_show_118 rfl (lv_at hl 1 rfl) ?_
                  refine gs_get (v := .ref (K 55)) hx hb htw i_M hown hK hP (gMd_0 hΜ) rfl 7 (by decide) (htw _ mm_649) rfl d_M_show_119 ?_
                  refine lv_iload hx hb d_M_show_122 (lv_at hl 4 rfl) ?_
                  obtain ⟨x4_24, ex4_24⟩ : ∃ y : Int32, y = x4_6 + (1 : Int32) := ⟨_, rfl⟩
                  have h := h x4_24 ex4_24
                  refine lv_iinc (v := x4_24) (lv' := [(4, .int x4_24), (3, .int r_23), (0, .ref (K 49)), (1, .int p1), (2, .int p2), (5, .long x5_22), (7, .int x7_22)]) hx hb d_M_show_124 hl (k := 4) rfl (by rw [ex4_24]; rfl) (by decide) rfl (fun ls hl => ?_)
                  refine lv_lload hx hb d_M_show_127 (lv_at hl 5 rfl) ?_
                  refine lv_l2i (v := (x5_22.toInt32)) hx hb d_M_show_129 (by rfl) ?_
                  obtain ⟨hin, h⟩ := h
                  refine gs_ist hx hb hK hlo hP hS (gMd_55 hΜ) hin d_M_show_130 (fun A_25 eA_25 H locs hP hS => ?_)
                  have h := h A_25 eA_25
                  refine lv_goto (tgt := 50) hx hb d_M_show_131 (by decide) ?_
                  exact ih_50 r_23 x4_24 A_25 _ _ _ (Nat.lt_of_lt_of_le h.2 (Nat.le_of_lt_succ hμ_50)) h.1 hP hS (lv_sub hl [2, 3, 4, 1, 0] rfl)
                · have h := h.2 c_64
                  refine lv_lload hx hb d_M_show_67 (lv_at hl 5 rfl) ?_
                  refine lv_bipush (v := (16 : Int32)) hx hb d_M_show_69 (by decide) ?_
                  refine lv_lshl (v := (j_lshl x5_22 (16 : Int32))) hx hb d_M_show_71 rfl ?_
                  refine lv_aload_n hx hb d_M_show_72 rfl (lv_at hl 0 rfl) ?_
                  refine gs_get (v := .ref (K 54)) hx hb htw i_M hown hK hP (gMd_0 hΜ) rfl 6 (by decide) (htw _ mm_648) rfl d_M_show_73 ?_
                  refine lv_iload hx hb d_M_show_76 (lv_at hl 6 rfl) ?_
                  obtain ⟨hin, h⟩ := h
                  refine gs_ild hx hb hK hP (gMd_54 hΜ) hin d_M_show_78 ?_
                  refine lv_i2l (v := ((A_22 (K 54) x7_22.toNatClampNeg).toInt64)) hx hb d_M_show_79 (by rfl) ?_
                  refine lv_lor hx hb d_M_show_80 ?_
                  refine lv_topl (fun x5_26 ex5_26 => ?_)
                  have h := h x5_26 ex5_26
                  refine lv_lstore (lv' := [(5, .long x5_26), (0, .ref (K 49)), (1, .int p1), (2, .int p2), (3, .int x3_6), (4, .int x4_6), (7, .int x7_22)]) hx hb d_M_show_81 hl (by decide) rfl (fun ls hl => ?_)
                  refine lv_aload_n hx hb d_M_show_83 rfl (lv_at hl 1 rfl) ?_
                  refine gs_get (v := .ref (K 54)) hx hb htw i_M hown hK hP (gMd_0 hΜ) rfl 6 (by decide) (htw _ mm_648) rfl d_M_show_84 ?_
                  refine lv_iload hx hb d_M_show_87 (lv_at hl 6 rfl) ?_
                  refine lv_lload hx hb d_M_show_89 (lv_at hl 0 rfl) ?_
                  refine lv_iload_n hx hb d_M_show_91 rfl (lv_at hl 3 rfl) ?_
                  refine lv_i2l (v := (p2.toInt64)) hx hb d_M_show_92 (by rfl) ?_
                  obtain ⟨hne, h⟩ := h
                  refine lv_ldiv hx hb d_M_show_93 hne ?_
                  refine lv_l2i (v := ((x5_26 / (p2.toInt64)).toInt32)) hx hb d_M_show_94 (by rfl) ?_
                  obtain ⟨hin, h⟩ := h
                  refine gs_ist hx hb hK hlo hP hS (gMd_54 hΜ) hin d_M_show_95 (fun A_27 eA_27 H locs hP hS => ?_)
                  have h := h A_27 eA_27
                  refine lv_lload hx hb d_M_show_96 (lv_at hl 0 rfl) ?_
                  refine lv_iload_n hx hb d_M_show_98 rfl (lv_at hl 3 rfl) ?_
                  refine lv_i2l (v := (p2.toInt64)) hx hb d_M_show_99 (by rfl) ?_
                  obtain ⟨hne, h⟩ := h
                  refine lv_lrem hx hb d_M_show_100 hne ?_
                  refine lv_topl (fun x5_28 ex5_28 => ?_)
                  have h := h x5_28 ex5_28
                  refine lv_lstore (lv' := [(5, .long x5_28), (0, .ref (K 49)), (1, .int p1), (2, .int p2), (3, .int x3_6), (4, .int x4_6), (7, .int x7_22)]) hx hb d_M_show_101 hl (by decide) rfl (fun ls hl => ?_)
                  obtain ⟨x7_29, ex7_29⟩ : ∃ y : Int32, y = x7_22 + (-1 : Int32) := ⟨_, rfl⟩
                  have h := h x7_29 ex7_29
                  refine lv_iinc (v := x7_29) (lv' := [(7, .int x7_29), (5, .long x5_28), (0, .ref (K 49)), (1, .int p1), (2, .int p2), (3, .int x3_6), (4, .int x4_6)]) hx hb d_M_show_103 hl (k := 6) rfl (by rw [ex7_29]; rfl) (by decide) rfl (fun ls hl => ?_)
                  refine lv_goto (tgt := 62) hx hb d_M_show_106 (by decide) ?_
                  exact ih_62 x5_28 x7_29 A_27 _ _ _ (Nat.lt_of_lt_of_le h.2 (Nat.le_of_lt_succ hμ_62)) h.1 hP hS (lv_sub hl [2, 3, 4, 5, 6, 1, 0] rfl)
            exact loop_62 (μ_62 (0 : Int64) x7_21 A_6 + 1) (0 : Int64) x7_21 A_6 _ _ _ (Nat.lt_succ_self _) h0_62 hP hS (lv_sub hl [2, 3, 4, 5, 6, 1, 0] rfl)
      exact loop_50 (μ_50 r_5 (0 : Int32) A_5 + 1) r_5 (0 : Int32) A_5 _ _ _ (Nat.lt_succ_self _) h0_50 hP hS (lv_sub hl [2, 3, 4, 1, 0] rfl)
    · have h := h.2 c_32
      refine lv_iconst (v := (0 : Int32)) hx hb d_M_show_35 (by decide) ?_
      rw [← hQe]
      exact gw_iret hx hb hr hlocks hP hK hS h d_M_show_36
  obtain ⟨J_23, h, hj_23⟩ := h
  have join_23 : ∀  (H : Heap) (locs : List Loc) (ls : Array Slot), J_23 → va_P D gcls (gs_ws Λ F_1 A L) H → va_S (gw_A Λ) s.heap H locs → lv_has ls 8 [(0, .ref (K 49)), (1, .int p1), (2, .int p2)] → W p l e rm_M_show s m args below meth c H locs 0 0 Q (F0 m 23 ls [.ref (K 49)]) := by
    intro  H locs ls hJ hP hS hl
    have h := hj_23  hJ
    refine lv_iconst (v := (1 : Int32)) hx hb d_M_show_23 (by decide) ?_
    refine lv_goto (tgt := 28) hx hb d_M_show_24 (by decide) ?_
    exact join_28 (1 : Int32) _ _ _ h hP hS hl
  refine lv_if_eq (tgt := 23) hx hb d_M_show_10 (by decide) (fun c_10 => ?_) (fun c_10 => ?_)
  · have h := h.1 c_10
    exact join_23 _ _ _ h hP hS hl
  · have h := h.2 c_10
    refine lv_iload_n hx hb d_M_show_13 rfl (lv_at hl 2 rfl) ?_
    refine lv_iconst (v := (2 : Int32)) hx hb d_M_show_14 (by decide) ?_
    refine lv_bipush (v := (36 : Int32)) hx hb d_M_show_15 (by decide) ?_
    refine gw_goi (gw_runS (As := [.int p2, .int (2 : Int32), .int (36 : Int32)]) (rest := [.ref (K 49)]) hx hb hml hown htw hK hP hS hl.1 (w_M_in hlo p2 (2 : Int32) (36 : Int32) F_1 A _ h) k_M_in mm_702 ⟨Nat.le_of_ble_eq_true rfl, Nat.le_of_ble_eq_true rfl⟩ rfl rfl rfl rfl (Nat.le_of_ble_eq_true rfl) d_M_show_17) hS (fun r_31 F_31 A_31 H locs hw hP hS => ?_)
    obtain ⟨rfl, hw⟩ := hw
    obtain ⟨rfl, hw⟩ := hw
    have h := hw
    refine lv_if_ne (tgt := 27) hx hb d_M_show_20 (by decide) (fun c_20 => ?_) (fun c_20 => ?_)
    · have h := h.1 c_20
      refine lv_iconst (v := (0 : Int32)) hx hb d_M_show_27 (by decide) ?_
      exact join_28 (0 : Int32) _ _ _ h hP hS hl
    · have h := h.2 c_20
      exact join_23 _ _ _ h hP hS hl
abbrev rm_M_letter : Room := { frames := 1, cells := 0, slots := 0, locals := 22 }
set_option maxHeartbeats 4000000 in
set_option maxRecDepth 100000 in
theorem w_M_letter (hlo : gs_D Λ) (K : Nat → Nat) (p1 : Int32) (hΜ : gMd cI Λ K) (F A : gm_M) (post : Int32 → gm_M → Prop) (h : vc_M_letter K p1 F A post) : Met l y_M_letter (.code y_M_letter b_M_letter 2 (some .int) :: gw_WS) rm_M_letter (va_Pc [.ref (K 49), .int p1] (gw_P D cI cB cJ cW Λ L F A)) (gw_Qi D cI cB cJ cW Λ L (fun r F2 A2 => A = A2 ∧ post r F2)) 0 0 (gw_A Λ) := by
  refine Met.ofW (cc := b_M_letter) (maxL := 2) (ret := (some .int)) (by decide) rfl ?_
  intro p e s m args below meth c s₁ B hml hv
  obtain ⟨hargs, hP, hK⟩ := hv
  have hx := B.exec
  have hb := B.bytes
  have hr := B.returns
  have hlocks := B.notSynchronized
  have htw : ∀ w ∈ gw_WS, w.before args s = true := fun w h9 => atoms_spec (ws := .code y_M_letter b_M_letter 2 (some .int) :: gw_WS) B.pre w (List.mem_cons_of_mem _ h9)
  have hown : s.vm.findClass R_M = some m.cls := findClass_of_methodNamed B.named
  have hS : va_S (gw_A Λ) s.heap s.heap [] := va_S.rf
  refine W.eq (g2 := entryFrame m ([.ref (K 49), .int p1] : List Value).toArray 2) (by rw [hargs]) ?_
  have hl := lv_entry ([.ref (K 49), .int p1]) (n := 2) (Nat.le_of_ble_eq_true rfl)
  rw [lg_entry_eq]
  generalize (lg_sl ([.ref (K 49), .int p1]) ++ List.replicate (2 - (lg_sl ([.ref (K 49), .int p1])).length) Slot.unset).toArray = ls at hl ⊢
  have hl : lv_has ls 2 [(0, .ref (K 49)), (1, .int p1)] := hl
  generalize hQe : MQ below (gw_Qi D cI cB cJ cW Λ L (fun r F2 A2 => A = A2 ∧ post r F2)) args s 0 0 (gw_A Λ) = Q
  unfold vc_M_letter at h
  refine lv_aload_n hx hb d_M_letter_0 rfl (lv_at hl 0 rfl) ?_
  refine lv_iconst (v := (0 : Int32)) hx hb d_M_letter_1 (by decide) ?_
  refine gs_put (ty := .int) hx hb htw i_M tf_M tf_M_ok n_M hown hK hlo hP hS (gMd_0 hΜ) rfl 0 (by decide) rfl (htw _ mm_642) rfl (by decide +kernel) rfl rfl d_M_letter_2 (fun F_1 eF_1 H locs hP hS => ?_)
  have h := h F_1 eF_1
  refine lv_aload_n hx hb d_M_letter_5 rfl (lv_at hl 0 rfl) ?_
  refine lv_iload_n hx hb d_M_letter_6 rfl (lv_at hl 1 rfl) ?_
  refine lv_iconst (v := (0 : Int32)) hx hb d_M_letter_7 (by decide) ?_
  refine lv_aload_n hx hb d_M_letter_8 rfl (lv_at hl 0 rfl) ?_
  refine gs_get (v := .int (F_1 (K 49) 1)) hx hb htw i_M hown hK hP (gMd_0 hΜ) rfl 1 (by decide) (htw _ mm_643) rfl d_M_letter_9 ?_
  refine lv_iconst (v := (1 : Int32)) hx hb d_M_letter_12 (by decide) ?_
  refine lv_isub hx hb d_M_letter_13 ?_
  refine gw_goi (gw_runS (As := [.int p1, .int (0 : Int32), .int ((F_1 (K 49) 1) - (1 : Int32))]) (rest := [.ref (K 49)]) hx hb hml hown htw hK hP hS hl.1 (w_M_in hlo p1 (0 : Int32) ((F_1 (K 49) 1) - (1 : Int32)) F_1 A _ h) k_M_in mm_702 ⟨Nat.le_of_ble_eq_true rfl, Nat.le_of_ble_eq_true rfl⟩ rfl rfl rfl rfl (Nat.le_of_ble_eq_true rfl) d_M_letter_14) hS (fun r_2 F_2 A_2 H locs hw hP hS => ?_)
  obtain ⟨rfl, hw⟩ := hw
  obtain ⟨rfl, hw⟩ := hw
  have h := hw
  refine lv_if_ne (tgt := 24) hx hb d_M_letter_17 (by decide) (fun c_17 => ?_) (fun c_17 => ?_)
  · have h := h.1 c_17
    refine lv_iconst (v := (0 : Int32)) hx hb d_M_letter_24 (by decide) ?_
    refine lv_iconst (v := (1 : Int32)) hx hb d_M_letter_25 (by decide) ?_
    refine gw_goi (gw_runV (As := [.int (0 : Int32), .int (1 : Int32)]) (rest := []) hx hb hml hown htw hK hP hS hl.1 (w_M_fails hlo K (0 : Int32) (1 : Int32) hΜ F_1 A _ h) k_M_fails mm_705 ⟨Nat.le_of_ble_eq_true rfl, Nat.le_of_ble_eq_true rfl⟩ rfl rfl (gMd_0 hΜ) rfl rfl rfl (Nat.le_of_ble_eq_true rfl) d_M_letter_26) hS (fun r_3 F_3 A_3 H locs hw hP hS => ?_)
    obtain ⟨rfl, hw⟩ := hw
    have h := hw
    refine lv_if_eq (tgt := 36) hx hb d_M_letter_29 (by decide) (fun c_29 => ?_) (fun c_29 => ?_)
    · have h := h.1 c_29
      refine lv_aload_n hx hb d_M_letter_36 rfl (lv_at hl 0 rfl) ?_
      refine gs_get (v := .ref (K 53)) hx hb htw i_M hown hK hP (gMd_0 hΜ) rfl 5 (by decide) (htw _ mm_647) rfl d_M_letter_37 ?_
      refine lv_iload_n hx hb d_M_letter_40 rfl (lv_at hl 1 rfl) ?_
      obtain ⟨hin, h⟩ := h
      refine gs_ild hx hb hK hP (gMd_53 hΜ) hin d_M_letter_41 ?_
      rw [← hQe]
      exact gw_iret hx hb hr hlocks hP hK hS ⟨rfl, h⟩ d_M_letter_42
    · have h := h.2 c_29
      refine lv_iconst (v := (0 : Int32)) hx hb d_M_letter_32 (by decide) ?_
      refine lv_goto (tgt := 42) hx hb d_M_letter_33 (by decide) ?_
      rw [← hQe]
      exact gw_iret hx hb hr hlocks hP hK hS ⟨rfl, h⟩ d_M_letter_42
  · have h := h.2 c_17
    refine lv_iconst (v := (1 : Int32)) hx hb d_M_letter_20 (by decide) ?_
    refine lv_goto (tgt := 25) hx hb d_M_letter_21 (by decide) ?_
    refine lv_iconst (v := (1 : Int32)) hx hb d_M_letter_25 (by decide) ?_
    refine gw_goi (gw_runV (As := [.int (1 : Int32), .int (1 : Int32)]) (rest := []) hx hb hml hown htw hK hP hS hl.1 (w_M_fails hlo K (1 : Int32) (1 : Int32) hΜ F_1 A _ h) k_M_fails mm_705 ⟨Nat.le_of_ble_eq_true rfl, Nat.le_of_ble_eq_true rfl⟩ rfl rfl (gMd_0 hΜ) rfl rfl rfl (Nat.le_of_ble_eq_true rfl) d_M_letter_26) hS (fun r_4 F_4 A_4 H locs hw hP hS => ?_)
    obtain ⟨rfl, hw⟩ := hw
    have h := hw
    refine lv_if_eq (tgt := 36) hx hb d_M_letter_29 (by decide) (fun c_29 => ?_) (fun c_29 => ?_)
    · have h := h.1 c_29
      refine lv_aload_n hx hb d_M_letter_36 rfl (lv_at hl 0 rfl) ?_
      refine gs_get (v := .ref (K 53)) hx hb htw i_M hown hK hP (gMd_0 hΜ) rfl 5 (by decide) (htw _ mm_647) rfl d_M_letter_37 ?_
      refine lv_iload_n hx hb d_M_letter_40 rfl (lv_at hl 1 rfl) ?_
      obtain ⟨hin, h⟩ := h
      refine gs_ild hx hb hK hP (gMd_53 hΜ) hin d_M_letter_41 ?_
      rw [← hQe]
      exact gw_iret hx hb hr hlocks hP hK hS ⟨rfl, h⟩ d_M_letter_42
    · have h := h.2 c_29
      refine lv_iconst (v := (0 : Int32)) hx hb d_M_letter_32 (by decide) ?_
      refine lv_goto (tgt := 42) hx hb d_M_letter_33 (by decide) ?_
      rw [← hQe]
      exact gw_iret hx hb hr hlocks hP hK hS ⟨rfl, h⟩ d_M_letter_42
