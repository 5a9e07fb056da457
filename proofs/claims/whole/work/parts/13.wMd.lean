variable {l : Launch} {D : va_G} {cI cB cJ cW : ClassId} {Λ : gs_L} {L : Nat → Nat → Int64}
abbrev rm_M_set : Room := { frames := 2, cells := 0, slots := 0, locals := 50 }
set_option maxHeartbeats 4000000 in
set_option maxRecDepth 100000 in
theorem w_M_set (hlo : gs_D Λ) (K : Nat → Nat) (p1 : Int32) (p2 : Int64) (hΜ : gMd cI Λ K) (F A : gm_M) (post : Int32 → gm_M → gm_M → Prop) (h : vc_M_set K p1 p2 F A post) : Met l y_M_set (.code y_M_set b_M_set 8 (some .int) :: gw_WS) rm_M_set (va_Pc [.ref (K 49), .int p1, .long p2] (gw_P D cI cB cJ cW Λ L F A)) (gw_Qi D cI cB cJ cW Λ L (fun r F2 A2 => post r F2 A2)) 0 0 (gw_A Λ) := by
  refine Met.ofW (cc := b_M_set) (maxL := 8) (ret := (some .int)) (by decide) rfl ?_
  intro p e s m args below meth c s₁ B hml hv
  obtain ⟨hargs, hP, hK⟩ := hv
  have hx := B.exec
  have hb := B.bytes
  have hr := B.returns
  have hlocks := B.notSynchronized
  have htw : ∀ w ∈ gw_WS, w.before args s = true := fun w h9 => atoms_spec (ws := .code y_M_set b_M_set 8 (some .int) :: gw_WS) B.pre w (List.mem_cons_of_mem _ h9)
  have hown : s.vm.findClass R_M = some m.cls := findClass_of_methodNamed B.named
  have hS : va_S (gw_A Λ) s.heap s.heap [] := va_S.rf
  refine W.eq (g2 := entryFrame m ([.ref (K 49), .int p1, .long p2] : List Value).toArray 8) (by rw [hargs]) ?_
  have hl := lv_entry ([.ref (K 49), .int p1, .long p2]) (n := 8) (Nat.le_of_ble_eq_true rfl)
  rw [lg_entry_eq]
  generalize (lg_sl ([.ref (K 49), .int p1, .long p2]) ++ List.replicate (8 - (lg_sl ([.ref (K 49), .int p1, .long p2])).length) Slot.unset).toArray = ls at hl ⊢
  have hl : lv_has ls 8 [(0, .ref (K 49)), (1, .int p1), (2, .long p2)] := hl
  generalize hQe : MQ below (gw_Qi D cI cB cJ cW Λ L (fun r F2 A2 => post r F2 A2)) args s 0 0 (gw_A Λ) = Q
  unfold vc_M_set at h
  refine lv_aload_n hx hb d_M_set_0 rfl (lv_at hl 0 rfl) ?_
  refine lv_iconst (v := (0 : Int32)) hx hb d_M_set_1 (by decide) ?_
  refine gs_put (ty := .int) hx hb htw i_M tf_M tf_M_ok n_M hown hK hlo hP hS (gMd_0 hΜ) rfl 0 (by decide) rfl (htw _ mm_642) rfl (by decide +kernel) rfl rfl d_M_set_2 (fun F_1 eF_1 H locs hP hS => ?_)
  have h := h F_1 eF_1
  refine lv_aload_n hx hb d_M_set_5 rfl (lv_at hl 0 rfl) ?_
  refine lv_iload_n hx hb d_M_set_6 rfl (lv_at hl 1 rfl) ?_
  refine gw_goi (gw_runS (As := [.int p1]) (rest := [.ref (K 49)]) hx hb hml hown htw hK hP hS hl.1 (w_M_isRegister hlo p1 F_1 A _ h) k_M_isRegister mm_699 ⟨Nat.le_of_ble_eq_true rfl, Nat.le_of_ble_eq_true rfl⟩ rfl rfl rfl rfl (Nat.le_of_ble_eq_true rfl) d_M_set_7) hS (fun r_2 F_2 A_2 H locs hw hP hS => ?_)
  obtain ⟨rfl, hw⟩ := hw
  obtain ⟨rfl, hw⟩ := hw
  have h := hw
  obtain ⟨J_18, h, hj_18⟩ := h
  have join_18 : ∀ (v0_3 : Int32) (H : Heap) (locs : List Loc) (ls : Array Slot), J_18 v0_3 → va_P D gcls (gs_ws Λ F_1 A L) H → va_S (gw_A Λ) s.heap H locs → lv_has ls 8 [(0, .ref (K 49)), (1, .int p1), (2, .long p2)] → W p l e rm_M_set s m args below meth c H locs 0 0 Q (F0 m 18 ls [.int v0_3, .ref (K 49)]) := by
    intro v0_3 H locs ls hJ hP hS hl
    have h := hj_18 v0_3 hJ
    refine lv_iconst (v := (1 : Int32)) hx hb d_M_set_18 (by decide) ?_
    refine gw_goi (gw_runV (As := [.int v0_3, .int (1 : Int32)]) (rest := []) hx hb hml hown htw hK hP hS hl.1 (w_M_fails hlo K v0_3 (1 : Int32) hΜ F_1 A _ h) k_M_fails mm_705 ⟨Nat.le_of_ble_eq_true rfl, Nat.le_of_ble_eq_true rfl⟩ rfl rfl (gMd_0 hΜ) rfl rfl rfl (Nat.le_of_ble_eq_true rfl) d_M_set_19) hS (fun r_4 F_4 A_4 H locs hw hP hS => ?_)
    obtain ⟨rfl, hw⟩ := hw
    have h := hw
    refine lv_if_eq (tgt := 27) hx hb d_M_set_22 (by decide) (fun c_22 => ?_) (fun c_22 => ?_)
    · have h := h.1 c_22
      refine lv_aload_n hx hb d_M_set_27 rfl (lv_at hl 0 rfl) ?_
      refine lv_iload_n hx hb d_M_set_28 rfl (lv_at hl 1 rfl) ?_
      refine gw_goi (gw_runV (As := [.int p1]) (rest := []) hx hb hml hown htw hK hP hS hl.1 (w_M_size0 hlo K p1 hΜ F_4 A _ h) k_M_size0 mm_709 ⟨Nat.le_of_ble_eq_true rfl, Nat.le_of_ble_eq_true rfl⟩ rfl rfl (gMd_0 hΜ) rfl rfl rfl (Nat.le_of_ble_eq_true rfl) d_M_set_29) hS (fun r_5 F_5 A_5 H locs hw hP hS => ?_)
      obtain ⟨rfl, hw⟩ := hw
      have h := hw
      refine lv_istore (lv' := [(4, .int r_5), (0, .ref (K 49)), (1, .int p1), (2, .long p2)]) hx hb d_M_set_32 hl (by decide) rfl (fun ls hl => ?_)
      refine lv_iconst (v := (0 : Int32)) hx hb d_M_set_34 (by decide) ?_
      refine lv_istore (lv' := [(5, .int (0 : Int32)), (4, .int r_5), (0, .ref (K 49)), (1, .int p1), (2, .long p2)]) hx hb d_M_set_35 hl (by decide) rfl (fun ls hl => ?_)
      refine lv_lload_n hx hb d_M_set_37 rfl (lv_at hl 4 rfl) ?_
      refine lv_lconst (v := (0 : Int64)) hx hb d_M_set_38 (by decide) ?_
      obtain ⟨J_49, h, hj_49⟩ := h
      have join_49 : ∀ (v0_6 : Int64) (H : Heap) (locs : List Loc) (ls : Array Slot), J_49 v0_6 → va_P D gcls (gs_ws Λ F_4 A_5 L) H → va_S (gw_A Λ) s.heap H locs → lv_has ls 8 [(0, .ref (K 49)), (1, .int p1), (2, .long p2), (4, .int r_5), (5, .int (0 : Int32))] → W p l e rm_M_set s m args below meth c H locs 0 0 Q (F0 m 49 ls [.long v0_6]) := by
        intro v0_6 H locs ls hJ hP hS hl
        have h := hj_49 v0_6 hJ
        refine lv_lstore (lv' := [(6, .long v0_6), (0, .ref (K 49)), (1, .int p1), (2, .long p2), (4, .int r_5), (5, .int (0 : Int32))]) hx hb d_M_set_49 hl (by decide) rfl (fun ls hl => ?_)
        obtain ⟨I_51, μ_51, h0_51, hs_51⟩ := h
        have loop_51 : ∀ (N : Nat) (x5_7 : Int32) (x6_7 : Int64) (A_7 : gm_M) (H : Heap) (locs : List Loc) (ls : Array Slot), μ_51 x5_7 x6_7 A_7 < N → I_51 x5_7 x6_7 A_7 → va_P D gcls (gs_ws Λ F_4 A_7 L) H → va_S (gw_A Λ) s.heap H locs → lv_has ls 8 [(0, .ref (K 49)), (1, .int p1), (2, .long p2), (4, .int r_5), (5, .int x5_7), (6, .long x6_7)] → W p l e rm_M_set s m args below meth c H locs 0 0 Q (F0 m 51 ls []) := by
          intro N
          induction N with
          | zero => intro x5_7 x6_7 A_7 H locs ls hμ; exact absurd hμ (Nat.not_lt_zero _)
          | succ N ih_51 =>
            intro x5_7 x6_7 A_7 H locs ls hμ_51 hI hP hS hl
            have h := hs_51 x5_7 x6_7 A_7 hI
            refine lv_lload hx hb d_M_set_51 (lv_at hl 5 rfl) ?_
            refine lv_lconst (v := (0 : Int64)) hx hb d_M_set_53 (by decide) ?_
            refine gl_eq (tgt := 85) hx hb d_M_set_54 d_M_set_55 (by decide) (fun c_55 => ?_) (fun c_55 => ?_)
            · have h := h.1 c_55
              refine lv_aload_n hx hb d_M_set_85 rfl (lv_at hl 0 rfl) ?_
              refine lv_iload_n hx hb d_M_set_86 rfl (lv_at hl 1 rfl) ?_
              refine lv_lload_n hx hb d_M_set_87 rfl (lv_at hl 2 rfl) ?_
              refine lv_lconst (v := (0 : Int64)) hx hb d_M_set_88 (by decide) ?_
              refine gl_ge (tgt := 97) hx hb d_M_set_89 d_M_set_90 (by decide) (fun c_90 => ?_) (fun c_90 => ?_)
              · have h := h.1 c_90
                refine lv_iconst (v := (1 : Int32)) hx hb d_M_set_97 (by decide) ?_
                refine lv_aload_n hx hb d_M_set_98 rfl (lv_at hl 0 rfl) ?_
                refine gs_get (v := .ref (K 54)) hx hb htw i_M hown hK hP (gMd_0 hΜ) rfl 6 (by decide) (htw _ mm_648) rfl d_M_set_99 ?_
                refine lv_iload hx hb d_M_set_102 (lv_at hl 4 rfl) ?_
                refine lv_bipush (v := (9 : Int32)) hx hb d_M_set_104 (by decide) ?_
                refine gw_goi (gw_runV (As := [.int p1, .int (1 : Int32), .ref (K 54), .int x5_7, .int (9 : Int32)]) (rest := []) hx hb hml hown htw hK hP hS hl.1 (w_M_keep hlo K p1 (1 : Int32) (K 54) (9000) x5_7 (9 : Int32) hΜ (gMd_54 hΜ) F_4 A_7 _ h) k_M_keep mm_721 ⟨Nat.le_of_ble_eq_true rfl, Nat.le_of_ble_eq_true rfl⟩ rfl rfl (gMd_0 hΜ) rfl rfl rfl (Nat.le_of_ble_eq_true rfl) d_M_set_106) hS (fun r_8 F_8 A_8 H locs hw hP hS => ?_)
                have h := hw
                refine lv_pop hx hb d_M_set_109 rfl ?_
                refine lv_iload hx hb d_M_set_110 (lv_at hl 3 rfl) ?_
                rw [← hQe]
                exact gw_iret hx hb hr hlocks hP hK hS h d_M_set_112
              · have h := h.2 c_90
                refine lv_iconst (v := (-1 : Int32)) hx hb d_M_set_93 (by decide) ?_
                refine lv_goto (tgt := 98) hx hb d_M_set_94 (by decide) ?_
                refine lv_aload_n hx hb d_M_set_98 rfl (lv_at hl 0 rfl) ?_
                refine gs_get (v := .ref (K 54)) hx hb htw i_M hown hK hP (gMd_0 hΜ) rfl 6 (by decide) (htw _ mm_648) rfl d_M_set_99 ?_
                refine lv_iload hx hb d_M_set_102 (lv_at hl 4 rfl) ?_
                refine lv_bipush (v := (9 : Int32)) hx hb d_M_set_104 (by decide) ?_
                refine gw_goi (gw_runV (As := [.int p1, .int (-1 : Int32), .ref (K 54), .int x5_7, .int (9 : Int32)]) (rest := []) hx hb hml hown htw hK hP hS hl.1 (w_M_keep hlo K p1 (-1 : Int32) (K 54) (9000) x5_7 (9 : Int32) hΜ (gMd_54 hΜ) F_4 A_7 _ h) k_M_keep mm_721 ⟨Nat.le_of_ble_eq_true rfl, Nat.le_of_ble_eq_true rfl⟩ rfl rfl (gMd_0 hΜ) rfl rfl rfl (Nat.le_of_ble_eq_true rfl) d_M_set_106) hS (fun r_9 F_9 A_9 H locs hw hP hS => ?_)
                have h := hw
                refine lv_pop hx hb d_M_set_109 rfl ?_
                refine lv_iload hx hb d_M_set_110 (lv_at hl 3 rfl) ?_
                rw [← hQe]
                exact gw_iret hx hb hr hlocks hP hK hS h d_M_set_112
            · have h := h.2 c_55
              refine lv_aload_n hx hb d_M_set_58 rfl (lv_at hl 0 rfl) ?_
              refine gs_get (v := .ref (K 54)) hx hb htw i_M hown hK hP (gMd_0 hΜ) rfl 6 (by decide) (htw _ mm_648) rfl d_M_set_59 ?_
              refine lv_iload hx hb d_M_set_62 (lv_at hl 4 rfl) ?_
              obtain ⟨x5_10, ex5_10⟩ : ∃ y : Int32, y = x5_7 + (1 : Int32) := ⟨_, rfl⟩
              have h := h x5_10 ex5_10
              refine lv_iinc (v := x5_10) (lv' := [(5, .int x5_10), (0, .ref (K 49)), (1, .int p1), (2, .long p2), (4, .int r_5), (6, .long x6_7)]) hx hb d_M_set_64 hl (k := 4) rfl (by rw [ex5_10]; rfl) (by decide) rfl (fun ls hl => ?_)
              refine lv_lload hx hb d_M_set_67 (lv_at hl 5 rfl) ?_
              refine lv_ldc2 (v := (65535 : Int64)) hx hb hown (htw _ mm_720) d_M_set_69 ?_
              refine lv_land hx hb d_M_set_72 ?_
              refine lv_l2i (v := ((x6_7 &&& (65535 : Int64)).toInt32)) hx hb d_M_set_73 (by rfl) ?_
              obtain ⟨hin, h⟩ := h
              refine gs_ist hx hb hK hlo hP hS (gMd_54 hΜ) hin d_M_set_74 (fun A_11 eA_11 H locs hP hS => ?_)
              have h := h A_11 eA_11
              refine lv_lload hx hb d_M_set_75 (lv_at hl 5 rfl) ?_
              refine lv_bipush (v := (16 : Int32)) hx hb d_M_set_77 (by decide) ?_
              refine lv_lushr (v := (j_lushr x6_7 (16 : Int32))) hx hb d_M_set_79 rfl ?_
              refine lv_topl (fun x6_12 ex6_12 => ?_)
              have h := h x6_12 ex6_12
              refine lv_lstore (lv' := [(6, .long x6_12), (5, .int x5_10), (0, .ref (K 49)), (1, .int p1), (2, .long p2), (4, .int r_5)]) hx hb d_M_set_80 hl (by decide) rfl (fun ls hl => ?_)
              refine lv_goto (tgt := 51) hx hb d_M_set_82 (by decide) ?_
              exact ih_51 x5_10 x6_12 A_11 _ _ _ (Nat.lt_of_lt_of_le h.2 (Nat.le_of_lt_succ hμ_51)) h.1 hP hS (lv_sub hl [2, 3, 4, 5, 1, 0] rfl)
        exact loop_51 (μ_51 (0 : Int32) v0_6 A_5 + 1) (0 : Int32) v0_6 A_5 _ _ _ (Nat.lt_succ_self _) h0_51 hP hS (lv_sub hl [1, 2, 3, 4, 5, 0] rfl)
      refine gl_ge (tgt := 48) hx hb d_M_set_39 d_M_set_40 (by decide) (fun c_40 => ?_) (fun c_40 => ?_)
      · have h := h.1 c_40
        refine lv_lload_n hx hb d_M_set_48 rfl (lv_at hl 4 rfl) ?_
        exact join_49 p2 _ _ _ h hP hS (lv_sub hl [2, 3, 4, 1, 0] rfl)
      · have h := h.2 c_40
        refine lv_lload_n hx hb d_M_set_43 rfl (lv_at hl 4 rfl) ?_
        refine lv_lneg hx hb d_M_set_44 ?_
        refine lv_goto (tgt := 49) hx hb d_M_set_45 (by decide) ?_
        exact join_49 (-p2) _ _ _ h hP hS (lv_sub hl [2, 3, 4, 1, 0] rfl)
    · have h := h.2 c_22
      refine lv_iconst (v := (0 : Int32)) hx hb d_M_set_25 (by decide) ?_
      rw [← hQe]
      exact gw_iret hx hb hr hlocks hP hK hS h d_M_set_26
  refine lv_if_ne (tgt := 17) hx hb d_M_set_10 (by decide) (fun c_10 => ?_) (fun c_10 => ?_)
  · have h := h.1 c_10
    refine lv_iconst (v := (0 : Int32)) hx hb d_M_set_17 (by decide) ?_
    exact join_18 (0 : Int32) _ _ _ h hP hS hl
  · have h := h.2 c_10
    refine lv_iconst (v := (1 : Int32)) hx hb d_M_set_13 (by decide) ?_
    refine lv_goto (tgt := 18) hx hb d_M_set_14 (by decide) ?_
    exact join_18 (1 : Int32) _ _ _ h hP hS hl
abbrev rm_M_line : Room := { frames := 1, cells := 0, slots := 0, locals := 22 }
set_option maxHeartbeats 4000000 in
set_option maxRecDepth 100000 in
theorem w_M_line (hlo : gs_D Λ) (K : Nat → Nat) (p1 : Int64) (hΜ : gMd cI Λ K) (F A : gm_M) (post : Int32 → gm_M → gm_M → Prop) (h : vc_M_line K p1 F A post) : Met l y_M_line (.code y_M_line b_M_line 6 (some .int) :: gw_WS) rm_M_line (va_Pc [.ref (K 49), .long p1] (gw_P D cI cB cJ cW Λ L F A)) (gw_Qi D cI cB cJ cW Λ L (fun r F2 A2 => post r F2 A2)) 0 0 (gw_A Λ) := by
  refine Met.ofW (cc := b_M_line) (maxL := 6) (ret := (some .int)) (by decide) rfl ?_
  intro p e s m args below meth c s₁ B hml hv
  obtain ⟨hargs, hP, hK⟩ := hv
  have hx := B.exec
  have hb := B.bytes
  have hr := B.returns
  have hlocks := B.notSynchronized
  have htw : ∀ w ∈ gw_WS, w.before args s = true := fun w h9 => atoms_spec (ws := .code y_M_line b_M_line 6 (some .int) :: gw_WS) B.pre w (List.mem_cons_of_mem _ h9)
  have hown : s.vm.findClass R_M = some m.cls := findClass_of_methodNamed B.named
  have hS : va_S (gw_A Λ) s.heap s.heap [] := va_S.rf
  refine W.eq (g2 := entryFrame m ([.ref (K 49), .long p1] : List Value).toArray 6) (by rw [hargs]) ?_
  have hl := lv_entry ([.ref (K 49), .long p1]) (n := 6) (Nat.le_of_ble_eq_true rfl)
  rw [lg_entry_eq]
  generalize (lg_sl ([.ref (K 49), .long p1]) ++ List.replicate (6 - (lg_sl ([.ref (K 49), .long p1])).length) Slot.unset).toArray = ls at hl ⊢
  have hl : lv_has ls 6 [(0, .ref (K 49)), (1, .long p1)] := hl
  generalize hQe : MQ below (gw_Qi D cI cB cJ cW Λ L (fun r F2 A2 => post r F2 A2)) args s 0 0 (gw_A Λ) = Q
  unfold vc_M_line at h
  refine lv_aload_n hx hb d_M_line_0 rfl (lv_at hl 0 rfl) ?_
  refine lv_iconst (v := (0 : Int32)) hx hb d_M_line_1 (by decide) ?_
  refine gs_put (ty := .int) hx hb htw i_M tf_M tf_M_ok n_M hown hK hlo hP hS (gMd_0 hΜ) rfl 0 (by decide) rfl (htw _ mm_642) rfl (by decide +kernel) rfl rfl d_M_line_2 (fun F_1 eF_1 H locs hP hS => ?_)
  have h := h F_1 eF_1
  refine lv_iconst (v := (0 : Int32)) hx hb d_M_line_5 (by decide) ?_
  refine lv_istore_n (lv' := [(3, .int (0 : Int32)), (0, .ref (K 49)), (1, .long p1)]) hx hb d_M_line_6 rfl hl (by decide) rfl (fun ls hl => ?_)
  refine lv_iconst (v := (0 : Int32)) hx hb d_M_line_7 (by decide) ?_
  refine lv_istore (lv' := [(4, .int (0 : Int32)), (3, .int (0 : Int32)), (0, .ref (K 49)), (1, .long p1)]) hx hb d_M_line_8 hl (by decide) rfl (fun ls hl => ?_)
  obtain ⟨I_10, μ_10, h0_10, hs_10⟩ := h
  have loop_10 : ∀ (N : Nat) (x3_2 : Int32) (x4_2 : Int32) (F_2 : gm_M) (H : Heap) (locs : List Loc) (ls : Array Slot), μ_10 x3_2 x4_2 F_2 < N → I_10 x3_2 x4_2 F_2 → va_P D gcls (gs_ws Λ F_2 A L) H → va_S (gw_A Λ) s.heap H locs → lv_has ls 6 [(0, .ref (K 49)), (1, .long p1), (3, .int x3_2), (4, .int x4_2)] → W p l e rm_M_line s m args below meth c H locs 0 0 Q (F0 m 10 ls []) := by
    intro N
    induction N with
    | zero => intro x3_2 x4_2 F_2 H locs ls hμ; exact absurd hμ (Nat.not_lt_zero _)
    | succ N ih_10 =>
      intro x3_2 x4_2 F_2 H locs ls hμ_10 hI hP hS hl
      have h := hs_10 x3_2 x4_2 F_2 hI
      refine lv_iload hx hb d_M_line_10 (lv_at hl 3 rfl) ?_
      refine lv_bipush (v := (8 : Int32)) hx hb d_M_line_12 (by decide) ?_
      obtain ⟨J_83, h, hj_83⟩ := h
      have join_83 : ∀  (H : Heap) (locs : List Loc) (ls : Array Slot), J_83 → va_P D gcls (gs_ws Λ F_2 A L) H → va_S (gw_A Λ) s.heap H locs → lv_has ls 6 [(0, .ref (K 49)), (1, .long p1), (3, .int x3_2)] → W p l e rm_M_line s m args below meth c H locs 0 0 Q (F0 m 83 ls []) := by
        intro  H locs ls hJ hP hS hl
        have h := hj_83  hJ
        refine lv_aload_n hx hb d_M_line_83 rfl (lv_at hl 0 rfl) ?_
        refine lv_iload_n hx hb d_M_line_84 rfl (lv_at hl 2 rfl) ?_
        obtain ⟨J_93, h, hj_93⟩ := h
        have join_93 : ∀ (v0_4 : Int32) (H : Heap) (locs : List Loc) (ls : Array Slot), J_93 v0_4 → va_P D gcls (gs_ws Λ F_2 A L) H → va_S (gw_A Λ) s.heap H locs → lv_has ls 6 [(0, .ref (K 49)), (1, .long p1), (3, .int x3_2)] → W p l e rm_M_line s m args below meth c H locs 0 0 Q (F0 m 93 ls [.int v0_4, .ref (K 49)]) := by
          intro v0_4 H locs ls hJ hP hS hl
          have h := hj_93 v0_4 hJ
          refine lv_iconst (v := (1 : Int32)) hx hb d_M_line_93 (by decide) ?_
          refine gw_goi (gw_runV (As := [.int v0_4, .int (1 : Int32)]) (rest := []) hx hb hml hown htw hK hP hS hl.1 (w_M_fails hlo K v0_4 (1 : Int32) hΜ F_2 A _ h) k_M_fails mm_705 ⟨Nat.le_of_ble_eq_true rfl, Nat.le_of_ble_eq_true rfl⟩ rfl rfl (gMd_0 hΜ) rfl rfl rfl (Nat.le_of_ble_eq_true rfl) d_M_line_94) hS (fun r_5 F_5 A_5 H locs hw hP hS => ?_)
          obtain ⟨rfl, hw⟩ := hw
          have h := hw
          refine lv_if_ne (tgt := 125) hx hb d_M_line_97 (by decide) (fun c_97 => ?_) (fun c_97 => ?_)
          · have h := h.1 c_97
            refine lv_iconst (v := (0 : Int32)) hx hb d_M_line_125 (by decide) ?_
            rw [← hQe]
            exact gw_iret hx hb hr hlocks hP hK hS h d_M_line_126
          · have h := h.2 c_97
            refine lv_aload_n hx hb d_M_line_100 rfl (lv_at hl 0 rfl) ?_
            refine lv_aload_n hx hb d_M_line_101 rfl (lv_at hl 0 rfl) ?_
            refine gs_get (v := .int (F_5 (K 49) 1)) hx hb htw i_M hown hK hP (gMd_0 hΜ) rfl 1 (by decide) (htw _ mm_643) rfl d_M_line_102 ?_
            refine lv_iload_n hx hb d_M_line_105 rfl (lv_at hl 2 rfl) ?_
            refine lv_iadd hx hb d_M_line_106 ?_
            refine lv_sipush (v := (2100 : Int32)) hx hb d_M_line_107 (by decide) ?_
            obtain ⟨J_118, h, hj_118⟩ := h
            have join_118 : ∀ (v0_6 : Int32) (H : Heap) (locs : List Loc) (ls : Array Slot), J_118 v0_6 → va_P D gcls (gs_ws Λ F_5 A L) H → va_S (gw_A Λ) s.heap H locs → lv_has ls 6 [(0, .ref (K 49)), (1, .long p1), (3, .int x3_2)] → W p l e rm_M_line s m args below meth c H locs 0 0 Q (F0 m 118 ls [.int v0_6, .ref (K 49)]) := by
              intro v0_6 H locs ls hJ hP hS hl
              have h := hj_118 v0_6 hJ
              refine lv_iconst (v := (2 : Int32)) hx hb d_M_line_118 (by decide) ?_
              refine gw_goi (gw_runV (As := [.int v0_6, .int (2 : Int32)]) (rest := []) hx hb hml hown htw hK hP hS hl.1 (w_M_fails hlo K v0_6 (2 : Int32) hΜ F_5 A _ h) k_M_fails mm_705 ⟨Nat.le_of_ble_eq_true rfl, Nat.le_of_ble_eq_true rfl⟩ rfl rfl (gMd_0 hΜ) rfl rfl rfl (Nat.le_of_ble_eq_true rfl) d_M_line_119) hS (fun r_7 F_7 A_7 H locs hw hP hS => ?_)
              obtain ⟨rfl, hw⟩ := hw
              have h := hw
              refine lv_if_eq (tgt := 127) hx hb d_M_line_122 (by decide) (fun c_122 => ?_) (fun c_122 => ?_)
              · have h := h.1 c_122
                refine lv_iconst (v := (0 : Int32)) hx hb d_M_line_127 (by decide) ?_
                refine lv_istore (lv' := [(4, .int (0 : Int32)), (0, .ref (K 49)), (1, .long p1), (3, .int x3_2)]) hx hb d_M_line_128 hl (by decide) rfl (fun ls hl => ?_)
                obtain ⟨I_130, μ_130, h0_130, hs_130⟩ := h
                have loop_130 : ∀ (N : Nat) (x4_8 : Int32) (A_8 : gm_M) (H : Heap) (locs : List Loc) (ls : Array Slot), μ_130 x4_8 A_8 < N → I_130 x4_8 A_8 → va_P D gcls (gs_ws Λ F_7 A_8 L) H → va_S (gw_A Λ) s.heap H locs → lv_has ls 6 [(0, .ref (K 49)), (1, .long p1), (3, .int x3_2), (4, .int x4_8)] → W p l e rm_M_line s m args below meth c H locs 0 0 Q (F0 m 130 ls []) := by
                  intro N
                  induction N with
                  | zero => intro x4_8 A_8 H locs ls hμ; exact absurd hμ (Nat.not_lt_zero _)
                  | succ N ih_130 =>
                    intro x4_8 A_8 H locs ls hμ_130 hI hP hS hl
                    have h := hs_130 x4_8 A_8 hI
                    refine lv_iload hx hb d_M_line_130 (lv_at hl 3 rfl) ?_
                    refine lv_iload_n hx hb d_M_line_132 rfl (lv_at hl 2 rfl) ?_
                    refine lv_icmp_ge (tgt := 166) hx hb d_M_line_133 (by decide) (fun c_133 => ?_) (fun c_133 => ?_)
                    · have h := h.1 c_133
                      refine lv_aload_n hx hb d_M_line_166 rfl (lv_at hl 0 rfl) ?_
                      refine lv_dup hx hb d_M_line_167 rfl ?_
                      refine gs_get (v := .int (F_7 (K 49) 1)) hx hb htw i_M hown hK hP (gMd_0 hΜ) rfl 1 (by decide) (htw _ mm_643) rfl d_M_line_168 ?_
                      refine lv_iload_n hx hb d_M_line_171 rfl (lv_at hl 2 rfl) ?_
                      refine lv_iadd hx hb d_M_line_172 ?_
                      refine gs_put (ty := .int) hx hb htw i_M tf_M tf_M_ok n_M hown hK hlo hP hS (gMd_0 hΜ) rfl 1 (by decide) rfl (htw _ mm_643) rfl (by decide +kernel) rfl rfl d_M_line_173 (fun F_9 eF_9 H locs hP hS => ?_)
                      have h := h F_9 eF_9
                      refine lv_aload_n hx hb d_M_line_176 rfl (lv_at hl 0 rfl) ?_
                      refine gs_get (v := .int (F_9 (K 49) 1)) hx hb htw i_M hown hK hP (gMd_0 hΜ) rfl 1 (by decide) (htw _ mm_643) rfl d_M_line_177 ?_
                      rw [← hQe]
                      exact gw_iret hx hb hr hlocks hP hK hS h d_M_line_180
                    · have h := h.2 c_133
                      refine lv_aload_n hx hb d_M_line_136 rfl (lv_at hl 0 rfl) ?_
                      refine gs_get (v := .ref (K 53)) hx hb htw i_M hown hK hP (gMd_0 hΜ) rfl 5 (by decide) (htw _ mm_647) rfl d_M_line_137 ?_
                      refine lv_aload_n hx hb d_M_line_140 rfl (lv_at hl 0 rfl) ?_
                      refine gs_get (v := .int (F_7 (K 49) 1)) hx hb htw i_M hown hK hP (gMd_0 hΜ) rfl 1 (by decide) (htw _ mm_643) rfl d_M_line_141 ?_
                      refine lv_iload hx hb d_M_line_144 (lv_at hl 3 rfl) ?_
                      refine lv_iadd hx hb d_M_line_146 ?_
                      refine lv_lload_n hx hb d_M_line_147 rfl (lv_at hl 1 rfl) ?_
                      refine lv_bipush (v := (8 : Int32)) hx hb d_M_line_148 (by decide) ?_
                      refine lv_iload hx hb d_M_line_150 (lv_at hl 3 rfl) ?_
                      refine lv_imul hx hb d_M_line_152 ?_
                      refine lv_lushr (v := (j_lushr p1 ((8 : Int32) * x4_8))) hx hb d_M_line_153 rfl ?_
                      refine lv_ldc2 (v := (255 : Int64)) hx hb hown (htw _ mm_732) d_M_line_154 ?_
                      refine lv_land hx hb d_M_line_157 ?_
                      refine lv_l2i (v := (((j_lushr p1 ((8 : Int32) * x4_8)) &&& (255 : Int64)).toInt32)) hx hb d_M_line_158 (by rfl) ?_
                      obtain ⟨hin, h⟩ := h
                      refine gs_ist hx hb hK hlo hP hS (gMd_53 hΜ) hin d_M_line_159 (fun A_10 eA_10 H locs hP hS => ?_)
                      have h := h A_10 eA_10
                      obtain ⟨x4_11, ex4_11⟩ : ∃ y : Int32, y = x4_8 + (1 : Int32) := ⟨_, rfl⟩
                      have h := h x4_11 ex4_11
                      refine lv_iinc (v := x4_11) (lv' := [(4, .int x4_11), (0, .ref (K 49)), (1, .long p1), (3, .int x3_2)]) hx hb d_M_line_160 hl (k := 3) rfl (by rw [ex4_11]; rfl) (by decide) rfl (fun ls hl => ?_)
                      refine lv_goto (tgt := 130) hx hb d_M_line_163 (by decide) ?_
                      exact ih_130 x4_11 A_10 _ _ _ (Nat.lt_of_lt_of_le h.2 (Nat.le_of_lt_succ hμ_130)) h.1 hP hS (lv_sub hl [1, 2, 3, 0] rfl)
                exact loop_130 (μ_130 (0 : Int32) A + 1) (0 : Int32) A _ _ _ (Nat.lt_succ_self _) h0_130 hP hS (lv_sub hl [1, 2, 3, 0] rfl)
              · have h := h.2 c_122
                refine lv_iconst (v := (0 : Int32)) hx hb d_M_line_125 (by decide) ?_
                rw [← hQe]
                exact gw_iret hx hb hr hlocks hP hK hS h d_M_line_126
            refine lv_icmp_le (tgt := 117) hx hb d_M_line_110 (by decide) (fun c_110 => ?_) (fun c_110 => ?_)
            · have h := h.1 c_110
              refine lv_iconst (v := (0 : Int32)) hx hb d_M_line_117 (by decide) ?_
              exact join_118 (0 : Int32) _ _ _ h hP hS hl
            · have h := h.2 c_110
              refine lv_iconst (v := (1 : Int32)) hx hb d_M_line_113 (by decide) ?_
              refine lv_goto (tgt := 118) hx hb d_M_line_114 (by decide) ?_
              exact join_118 (1 : Int32) _ _ _ h hP hS hl
        refine lv_if_ne (tgt := 92) hx hb d_M_line_85 (by decide) (fun c_85 => ?_) (fun c_85 => ?_)
        · have h := h.1 c_85
          refine lv_iconst (v := (0 : Int32)) hx hb d_M_line_92 (by decide) ?_
          exact join_93 (0 : Int32) _ _ _ h hP hS hl
        · have h := h.2 c_85
          refine lv_iconst (v := (1 : Int32)) hx hb d_M_line_88 (by decide) ?_
          refine lv_goto (tgt := 93) hx hb d_M_line_89 (by decide) ?_
          exact join_93 (1 : Int32) _ _ _ h hP hS hl
      refine lv_icmp_ge (tgt := 83) hx hb d_M_line_14 (by decide) (fun c_14 => ?_) (fun c_14 => ?_)
      · have h := h.1 c_14
        exact join_83 _ _ _ h hP hS (lv_sub hl [0, 1, 2] rfl)
      · have h := h.2 c_14
        refine lv_iload_n hx hb d_M_line_17 rfl (lv_at hl 2 rfl) ?_
        refine lv_iload hx hb d_M_line_18 (lv_at hl 3 rfl) ?_
        refine lv_icmp_ne (tgt := 83) hx hb d_M_line_20 (by decide) (fun c_20 => ?_) (fun c_20 => ?_)
        · have h := h.1 c_20
          exact join_83 _ _ _ h hP hS (lv_sub hl [0, 1, 2] rfl)
        · have h := h.2 c_20
          refine lv_lload_n hx hb d_M_line_23 rfl (lv_at hl 1 rfl) ?_
          refine lv_bipush (v := (8 : Int32)) hx hb d_M_line_24 (by decide) ?_
          refine lv_iload hx hb d_M_line_26 (lv_at hl 3 rfl) ?_
          refine lv_imul hx hb d_M_line_28 ?_
          refine lv_lushr (v := (j_lushr p1 ((8 : Int32) * x4_2))) hx hb d_M_line_29 rfl ?_
          refine lv_ldc2 (v := (255 : Int64)) hx hb hown (htw _ mm_732) d_M_line_30 ?_
          refine lv_land hx hb d_M_line_33 ?_
          refine lv_l2i (v := (((j_lushr p1 ((8 : Int32) * x4_2)) &&& (255 : Int64)).toInt32)) hx hb d_M_line_34 (by rfl) ?_
          refine lv_topi (fun x5_12 ex5_12 => ?_)
          have h := h x5_12 ex5_12
          refine lv_istore (lv' := [(5, .int x5_12), (0, .ref (K 49)), (1, .long p1), (3, .int x3_2), (4, .int x4_2)]) hx hb d_M_line_35 hl (by decide) rfl (fun ls hl => ?_)
          refine lv_aload_n hx hb d_M_line_37 rfl (lv_at hl 1 rfl) ?_
          refine lv_iload hx hb d_M_line_38 (lv_at hl 0 rfl) ?_
          obtain ⟨J_59, h, hj_59⟩ := h
          have join_59 : ∀  (H : Heap) (locs : List Loc) (ls : Array Slot), J_59 → va_P D gcls (gs_ws Λ F_2 A L) H → va_S (gw_A Λ) s.heap H locs → lv_has ls 6 [(0, .ref (K 49)), (1, .long p1), (3, .int x3_2), (4, .int x4_2), (5, .int x5_12)] → W p l e rm_M_line s m args below meth c H locs 0 0 Q (F0 m 59 ls [.ref (K 49)]) := by
            intro  H locs ls hJ hP hS hl
            have h := hj_59  hJ
            refine lv_iconst (v := (0 : Int32)) hx hb d_M_line_59 (by decide) ?_
            refine lv_iconst (v := (1 : Int32)) hx hb d_M_line_60 (by decide) ?_
            refine gw_goi (gw_runV (As := [.int (0 : Int32), .int (1 : Int32)]) (rest := []) hx hb hml hown htw hK hP hS hl.1 (w_M_fails hlo K (0 : Int32) (1 : Int32) hΜ F_2 A _ h) k_M_fails mm_705 ⟨Nat.le_of_ble_eq_true rfl, Nat.le_of_ble_eq_true rfl⟩ rfl rfl (gMd_0 hΜ) rfl rfl rfl (Nat.le_of_ble_eq_true rfl) d_M_line_61) hS (fun r_14 F_14 A_14 H locs hw hP hS => ?_)
            obtain ⟨rfl, hw⟩ := hw
            have h := hw
            refine lv_if_eq (tgt := 69) hx hb d_M_line_64 (by decide) (fun c_64 => ?_) (fun c_64 => ?_)
            · have h := h.1 c_64
              refine lv_iload hx hb d_M_line_69 (lv_at hl 4 rfl) ?_
              refine lv_if_eq (tgt := 77) hx hb d_M_line_71 (by decide) (fun c_71 => ?_) (fun c_71 => ?_)
              · have h := h.1 c_71
                obtain ⟨x4_15, ex4_15⟩ : ∃ y : Int32, y = x4_2 + (1 : Int32) := ⟨_, rfl⟩
                have h := h x4_15 ex4_15
                refine lv_iinc (v := x4_15) (lv' := [(4, .int x4_15), (0, .ref (K 49)), (1, .long p1), (3, .int x3_2), (5, .int x5_12)]) hx hb d_M_line_77 hl (k := 3) rfl (by rw [ex4_15]; rfl) (by decide) rfl (fun ls hl => ?_)
                refine lv_goto (tgt := 10) hx hb d_M_line_80 (by decide) ?_
                exact ih_10 x3_2 x4_15 F_14 _ _ _ (Nat.lt_of_lt_of_le h.2 (Nat.le_of_lt_succ hμ_10)) h.1 hP hS (lv_sub hl [1, 2, 3, 0] rfl)
              · have h := h.2 c_71
                obtain ⟨x3_16, ex3_16⟩ : ∃ y : Int32, y = x3_2 + (1 : Int32) := ⟨_, rfl⟩
                have h := h x3_16 ex3_16
                refine lv_iinc (v := x3_16) (lv' := [(3, .int x3_16), (0, .ref (K 49)), (1, .long p1), (4, .int x4_2), (5, .int x5_12)]) hx hb d_M_line_74 hl (k := 2) rfl (by rw [ex3_16]; rfl) (by decide) rfl (fun ls hl => ?_)
                obtain ⟨x4_17, ex4_17⟩ : ∃ y : Int32, y = x4_2 + (1 : Int32) := ⟨_, rfl⟩
                have h := h x4_17 ex4_17
                refine lv_iinc (v := x4_17) (lv' := [(4, .int x4_17), (3, .int x3_16), (0, .ref (K 49)), (1, .long p1), (5, .int x5_12)]) hx hb d_M_line_77 hl (k := 3) rfl (by rw [ex4_17]; rfl) (by decide) rfl (fun ls hl => ?_)
                refine lv_goto (tgt := 10) hx hb d_M_line_80 (by decide) ?_
                exact ih_10 x3_16 x4_17 F_14 _ _ _ (Nat.lt_of_lt_of_le h.2 (Nat.le_of_lt_succ hμ_10)) h.1 hP hS (lv_sub hl [2, 3, 1, 0] rfl)
            · have h := h.2 c_64
              refine lv_iconst (v := (0 : Int32)) hx hb d_M_line_67 (by decide) ?_
              rw [← hQe]
              exact gw_iret hx hb hr hlocks hP hK hS h d_M_line_68
          refine lv_if_eq (tgt := 59) hx hb d_M_line_40 (by decide) (fun c_40 => ?_) (fun c_40 => ?_)
          · have h := h.1 c_40
            exact join_59 _ _ _ h hP hS (lv_sub hl [1, 2, 3, 4, 0] rfl)
          · have h := h.2 c_40
            refine lv_iload hx hb d_M_line_43 (lv_at hl 0 rfl) ?_
            refine lv_bipush (v := (32 : Int32)) hx hb d_M_line_45 (by decide) ?_
            refine lv_bipush (v := (126 : Int32)) hx hb d_M_line_47 (by decide) ?_
            refine gw_goi (gw_runS (As := [.int x5_12, .int (32 : Int32), .int (126 : Int32)]) (rest := [.ref (K 49)]) hx hb hml hown htw hK hP hS hl.1 (w_M_in hlo x5_12 (32 : Int32) (126 : Int32) F_2 A _ h) k_M_in mm_702 ⟨Nat.le_of_ble_eq_true rfl, Nat.le_of_ble_eq_true rfl⟩ rfl rfl rfl rfl (Nat.le_of_ble_eq_true rfl) d_M_line_49) hS (fun r_18 F_18 A_18 H locs hw hP hS => ?_)
            obtain ⟨rfl, hw⟩ := hw
            obtain ⟨rfl, hw⟩ := hw
            have h := hw
            refine lv_if_ne (tgt := 59) hx hb d_M_line_52 (by decide) (fun c_52 => ?_) (fun c_52 => ?_)
            · have h := h.1 c_52
              exact join_59 _ _ _ h hP hS (lv_sub hl [1, 2, 3, 4, 0] rfl)
            · have h := h.2 c_52
              refine lv_iconst (v := (1 : Int32)) hx hb d_M_line_55 (by decide) ?_
              refine lv_goto (tgt := 60) hx hb d_M_line_56 (by decide) ?_
              refine lv_iconst (v := (1 : Int32)) hx hb d_M_line_60 (by decide) ?_
              refine gw_goi (gw_runV (As := [.int (1 : Int32), .int (1 : Int32)]) (rest := []) hx hb hml hown htw hK hP hS hl.1 (w_M_fails hlo K (1 : Int32) (1 : Int32) hΜ F_2 A _ h) k_M_fails mm_705 ⟨Nat.le_of_ble_eq_true rfl, Nat.le_of_ble_eq_true rfl⟩ rfl rfl (gMd_0 hΜ) rfl rfl rfl (Nat.le_of_ble_eq_true rfl) d_M_line_61) hS (fun r_19 F_19 A_19 H locs hw hP hS => ?_)
              obtain ⟨rfl, hw⟩ := hw
              have h := hw
              refine lv_if_eq (tgt := 69) hx hb d_M_line_64 (by decide) (fun c_64 => ?_) (fun c_64 => ?_)
              · have h := h.1 c_64
                refine lv_iload hx hb d_M_line_69 (lv_at hl 0 rfl) ?_
                refine lv_if_eq (tgt := 77) hx hb d_M_line_71 (by decide) (fun c_71 => ?_) (fun c_71 => ?_)
                · have h := h.1 c_71
                  obtain ⟨x4_20, ex4_20⟩ : ∃ y : Int32, y = x4_2 + (1 : Int32) := ⟨_, rfl⟩
                  have h := h x4_20 ex4_20
                  refine lv_iinc (v := x4_20) (lv' := [(4, .int x4_20), (5, .int x5_12), (0, .ref (K 49)), (1, .long p1), (3, .int x3_2)]) hx hb d_M_line_77 hl (k := 4) rfl (by rw [ex4_20]; rfl) (by decide) rfl (fun ls hl => ?_)
                  refine lv_goto (tgt := 10) hx hb d_M_line_80 (by decide) ?_
                  exact ih_10 x3_2 x4_20 F_19 _ _ _ (Nat.lt_of_lt_of_le h.2 (Nat.le_of_lt_succ hμ_10)) h.1 hP hS (lv_sub hl [2, 3, 4, 0] rfl)
                · have h := h.2 c_71
                  obtain ⟨x3_21, ex3_21⟩ : ∃ y : Int32, y = x3_2 + (1 : Int32) := ⟨_, rfl⟩
                  have h := h x3_21 ex3_21
                  refine lv_iinc (v := x3_21) (lv' := [(3, .int x3_21), (5, .int x5_12), (0, .ref (K 49)), (1, .long p1), (4, .int x4_2)]) hx hb d_M_line_74 hl (k := 3) rfl (by rw [ex3_21]; rfl) (by decide) rfl (fun ls hl => ?_)
                  obtain ⟨x4_22, ex4_22⟩ : ∃ y : Int32, y = x4_2 + (1 : Int32) := ⟨_, rfl⟩
                  have h := h x4_22 ex4_22
                  refine lv_iinc (v := x4_22) (lv' := [(4, .int x4_22), (3, .int x3_21), (5, .int x5_12), (0, .ref (K 49)), (1, .long p1)]) hx hb d_M_line_77 hl (k := 4) rfl (by rw [ex4_22]; rfl) (by decide) rfl (fun ls hl => ?_)
                  refine lv_goto (tgt := 10) hx hb d_M_line_80 (by decide) ?_
                  exact ih_10 x3_21 x4_22 F_19 _ _ _ (Nat.lt_of_lt_of_le h.2 (Nat.le_of_lt_succ hμ_10)) h.1 hP hS (lv_sub hl [3, 4, 1, 0] rfl)
              · have h := h.2 c_64
                refine lv_iconst (v := (0 : Int32)) hx hb d_M_line_67 (by decide) ?_
                rw [← hQe]
                exact gw_iret hx hb hr hlocks hP hK hS h d_M_line_68
  exact loop_10 (μ_10 (0 : Int32) (0 : Int32) F_1 + 1) (0 : Int32) (0 : Int32) F_1 _ _ _ (Nat.lt_succ_self _) h0_10 hP hS (lv_sub hl [2, 3, 1, 0] rfl)
abbrev rm_M_digit : Room := { frames := 1, cells := 0, slots := 0, locals := 22 }
set_option maxHeartbeats 4000000 in
set_option maxRecDepth 100000 in
theorem w_M_digit (hlo : gs_D Λ) (p1 : Int32) (F A : gm_M) (post : Int32 → Prop) (h : vc_M_digit p1 F A post) : Met l y_M_digit (.code y_M_digit b_M_digit 1 (some .int) :: gw_WS) rm_M_digit (va_Pc [.int p1] (gw_P D cI cB cJ cW Λ L F A)) (gw_Qi D cI cB cJ cW Λ L (fun r F2 A2 => F = F2 ∧ A = A2 ∧ post r)) 0 0 (gw_A Λ) := by
  refine Met.ofW (cc := b_M_digit) (maxL := 1) (ret := (some .int)) (by decide) rfl ?_
  intro p e s m args below meth c s₁ B hml hv
  obtain ⟨hargs, hP, hK⟩ := hv
  have hx := B.exec
  have hb := B.bytes
  have hr := B.returns
  have hlocks := B.notSynchronized
  have htw : ∀ w ∈ gw_WS, w.before args s = true := fun w h9 => atoms_spec (ws := .code y_M_digit b_M_digit 1 (some .int) :: gw_WS) B.pre w (List.mem_cons_of_mem _ h9)
  have hown : s.vm.findClass R_M = some m.cls := findClass_of_methodNamed B.named
  have hS : va_S (gw_A Λ) s.heap s.heap [] := va_S.rf
  refine W.eq (g2 := entryFrame m ([.int p1] : List Value).toArray 1) (by rw [hargs]) ?_
  have hl := lv_entry ([.int p1]) (n := 1) (Nat.le_of_ble_eq_true rfl)
  rw [lg_entry_eq]
  generalize (lg_sl ([.int p1]) ++ List.replicate (1 - (lg_sl ([.int p1])).length) Slot.unset).toArray = ls at hl ⊢
  have hl : lv_has ls 1 [(0, .int p1)] := hl
  generalize hQe : MQ below (gw_Qi D cI cB cJ cW Λ L (fun r F2 A2 => F = F2 ∧ A = A2 ∧ post r)) args s 0 0 (gw_A Λ) = Q
  unfold vc_M_digit at h
  refine lv_iload_n hx hb d_M_digit_0 rfl (lv_at hl 0 rfl) ?_
  refine lv_bipush (v := (48 : Int32)) hx hb d_M_digit_1 (by decide) ?_
  refine lv_bipush (v := (57 : Int32)) hx hb d_M_digit_3 (by decide) ?_
  refine gw_goi (gw_runS (As := [.int p1, .int (48 : Int32), .int (57 : Int32)]) (rest := []) hx hb hml hown htw hK hP hS hl.1 (w_M_in hlo p1 (48 : Int32) (57 : Int32) F A _ h) k_M_in mm_702 ⟨Nat.le_of_ble_eq_true rfl, Nat.le_of_ble_eq_true rfl⟩ rfl rfl rfl rfl (Nat.le_of_ble_eq_true rfl) d_M_digit_5) hS (fun r_1 F_1 A_1 H locs hw hP hS => ?_)
  obtain ⟨rfl, hw⟩ := hw
  obtain ⟨rfl, hw⟩ := hw
  have h := hw
  refine lv_if_eq (tgt := 18) hx hb d_M_digit_8 (by decide) (fun c_8 => ?_) (fun c_8 => ?_)
  · have h := h.1 c_8
    refine lv_iload_n hx hb d_M_digit_18 rfl (lv_at hl 0 rfl) ?_
    refine lv_bipush (v := (97 : Int32)) hx hb d_M_digit_19 (by decide) ?_
    refine lv_bipush (v := (122 : Int32)) hx hb d_M_digit_21 (by decide) ?_
    refine gw_goi (gw_runS (As := [.int p1, .int (97 : Int32), .int (122 : Int32)]) (rest := []) hx hb hml hown htw hK hP hS hl.1 (w_M_in hlo p1 (97 : Int32) (122 : Int32) F A _ h) k_M_in mm_702 ⟨Nat.le_of_ble_eq_true rfl, Nat.le_of_ble_eq_true rfl⟩ rfl rfl rfl rfl (Nat.le_of_ble_eq_true rfl) d_M_digit_23) hS (fun r_2 F_2 A_2 H locs hw hP hS => ?_)
    obtain ⟨rfl, hw⟩ := hw
    obtain ⟨rfl, hw⟩ := hw
    have h := hw
    refine lv_if_eq (tgt := 39) hx hb d_M_digit_26 (by decide) (fun c_26 => ?_) (fun c_26 => ?_)
    · have h := h.1 c_26
      refine lv_iload_n hx hb d_M_digit_39 rfl (lv_at hl 0 rfl) ?_
      refine lv_bipush (v := (65 : Int32)) hx hb d_M_digit_40 (by decide) ?_
      refine lv_bipush (v := (90 : Int32)) hx hb d_M_digit_42 (by decide) ?_
      refine gw_goi (gw_runS (As := [.int p1, .int (65 : Int32), .int (90 : Int32)]) (rest := []) hx hb hml hown htw hK hP hS hl.1 (w_M_in hlo p1 (65 : Int32) (90 : Int32) F A _ h) k_M_in mm_702 ⟨Nat.le_of_ble_eq_true rfl, Nat.le_of_ble_eq_true rfl⟩ rfl rfl rfl rfl (Nat.le_of_ble_eq_true rfl) d_M_digit_44) hS (fun r_3 F_3 A_3 H locs hw hP hS => ?_)
      obtain ⟨rfl, hw⟩ := hw
      obtain ⟨rfl, hw⟩ := hw
      have h := hw
      refine lv_if_eq (tgt := 60) hx hb d_M_digit_47 (by decide) (fun c_47 => ?_) (fun c_47 => ?_)
      · have h := h.1 c_47
        refine lv_bipush (v := (99 : Int32)) hx hb d_M_digit_60 (by decide) ?_
        rw [← hQe]
        exact gw_iret hx hb hr hlocks hP hK hS ⟨rfl, rfl, h⟩ d_M_digit_62
      · have h := h.2 c_47
        refine lv_iload_n hx hb d_M_digit_50 rfl (lv_at hl 0 rfl) ?_
        refine lv_bipush (v := (65 : Int32)) hx hb d_M_digit_51 (by decide) ?_
        refine lv_isub hx hb d_M_digit_53 ?_
        refine lv_bipush (v := (10 : Int32)) hx hb d_M_digit_54 (by decide) ?_
        refine lv_iadd hx hb d_M_digit_56 ?_
        refine lv_goto (tgt := 62) hx hb d_M_digit_57 (by decide) ?_
        rw [← hQe]
        exact gw_iret hx hb hr hlocks hP hK hS ⟨rfl, rfl, h⟩ d_M_digit_62
    · have h := h.2 c_26
      refine lv_iload_n hx hb d_M_digit_29 rfl (lv_at hl 0 rfl) ?_
      refine lv_bipush (v := (97 : Int32)) hx hb d_M_digit_30 (by decide) ?_
      refine lv_isub hx hb d_M_digit_32 ?_
      refine lv_bipush (v := (10 : Int32)) hx hb d_M_digit_33 (by decide) ?_
      refine lv_iadd hx hb d_M_digit_35 ?_
      refine lv_goto (tgt := 62) hx hb d_M_digit_36 (by decide) ?_
      rw [← hQe]
      exact gw_iret hx hb hr hlocks hP hK hS ⟨rfl, rfl, h⟩ d_M_digit_62
  · have h := h.2 c_8
    refine lv_iload_n hx hb d_M_digit_11 rfl (lv_at hl 0 rfl) ?_
    refine lv_bipush (v := (48 : Int32)) hx hb d_M_digit_12 (by decide) ?_
    refine lv_isub hx hb d_M_digit_14 ?_
    refine lv_goto (tgt := 62) hx hb d_M_digit_15 (by decide) ?_
    rw [← hQe]
    exact gw_iret hx hb hr hlocks hP hK hS ⟨rfl, rfl, h⟩ d_M_digit_62
abbrev rm_M_timesSmall : Room := { frames := 0, cells := 0, slots := 0, locals := 0 }
set_option maxHeartbeats 4000000 in
set_option maxRecDepth 100000 in
theorem w_M_timesSmall (hlo : gs_D Λ) (a1 n1 : Nat) (p2 : Int32) (p3 : Int32) (p4 : Int32) (h1 : (a1, gI cI n1) ∈ Λ) (F A : gm_M) (post : Int32 → gm_M → Prop) (h : vc_M_timesSmall a1 n1 p2 p3 p4 F A post) : Met l y_M_timesSmall (.code y_M_timesSmall b_M_timesSmall 7 (some .int) :: gw_WS) rm_M_timesSmall (va_Pc [.ref a1, .int p2, .int p3, .int p4] (gw_P D cI cB cJ cW Λ L F A)) (gw_Qi D cI cB cJ cW Λ L (fun r F2 A2 => F = F2 ∧ post r A2)) 0 0 (gw_A Λ) := by
  refine Met.ofW (cc := b_M_timesSmall) (maxL := 7) (ret := (some .int)) (by decide) rfl ?_
  intro p e s m args below meth c s₁ B hml hv
  obtain ⟨hargs, hP, hK⟩ := hv
  have hx := B.exec
  have hb := B.bytes
  have hr := B.returns
  have hlocks := B.notSynchronized
  have htw : ∀ w ∈ gw_WS, w.before args s = true := fun w h9 => atoms_spec (ws := .code y_M_timesSmall b_M_timesSmall 7 (some .int) :: gw_WS) B.pre w (List.mem_cons_of_mem _ h9)
  have hown : s.vm.findClass R_M = some m.cls := findClass_of_methodNamed B.named
  have hS : va_S (gw_A Λ) s.heap s.heap [] := va_S.rf
  refine W.eq (g2 := entryFrame m ([.ref a1, .int p2, .int p3, .int p4] : List Value).toArray 7) (by rw [hargs]) ?_
  have hl := lv_entry ([.ref a1, .int p2, .int p3, .int p4]) (n := 7) (Nat.le_of_ble_eq_true rfl)
  rw [lg_entry_eq]
  generalize (lg_sl ([.ref a1, .int p2, .int p3, .int p4]) ++ List.replicate (7 - (lg_sl ([.ref a1, .int p2, .int p3, .int p4])).length) Slot.unset).toArray = ls at hl ⊢
  have hl : lv_has ls 7 [(0, .ref a1), (1, .int p2), (2, .int p3), (3, .int p4)] := hl
  generalize hQe : MQ below (gw_Qi D cI cB cJ cW Λ L (fun r F2 A2 => F = F2 ∧ post r A2)) args s 0 0 (gw_A Λ) = Q
  unfold vc_M_timesSmall at h
  refine lv_iload_n hx hb d_M_timesSmall_0 rfl (lv_at hl 3 rfl) ?_
  refine lv_i2l (v := (p4.toInt64)) hx hb d_M_timesSmall_1 (by rfl) ?_
  refine lv_topl (fun x4_1 ex4_1 => ?_)
  have h := h x4_1 ex4_1
  refine lv_lstore (lv' := [(4, .long x4_1), (0, .ref a1), (1, .int p2), (2, .int p3), (3, .int p4)]) hx hb d_M_timesSmall_2 hl (by decide) rfl (fun ls hl => ?_)
  refine lv_iconst (v := (0 : Int32)) hx hb d_M_timesSmall_4 (by decide) ?_
  refine lv_istore (lv' := [(6, .int (0 : Int32)), (4, .long x4_1), (0, .ref a1), (1, .int p2), (2, .int p3), (3, .int p4)]) hx hb d_M_timesSmall_5 hl (by decide) rfl (fun ls hl => ?_)
  obtain ⟨I_7, μ_7, h0_7, hs_7⟩ := h
  have loop_7 : ∀ (N : Nat) (x4_2 : Int64) (x6_2 : Int32) (A_2 : gm_M) (H : Heap) (locs : List Loc) (ls : Array Slot), μ_7 x4_2 x6_2 A_2 < N → I_7 x4_2 x6_2 A_2 → va_P D gcls (gs_ws Λ F A_2 L) H → va_S (gw_A Λ) s.heap H locs → lv_has ls 7 [(0, .ref a1), (1, .int p2), (2, .int p3), (4, .long x4_2), (6, .int x6_2)] → W p l e rm_M_timesSmall s m args below meth c H locs 0 0 Q (F0 m 7 ls []) := by
    intro N
    induction N with
    | zero => intro x4_2 x6_2 A_2 H locs ls hμ; exact absurd hμ (Nat.not_lt_zero _)
    | succ N ih_7 =>
      intro x4_2 x6_2 A_2 H locs ls hμ_7 hI hP hS hl
      have h := hs_7 x4_2 x6_2 A_2 hI
      refine lv_iload hx hb d_M_timesSmall_7 (lv_at hl 4 rfl) ?_
      refine lv_iload_n hx hb d_M_timesSmall_9 rfl (lv_at hl 1 rfl) ?_
      refine lv_icmp_ge (tgt := 50) hx hb d_M_timesSmall_10 (by decide) (fun c_10 => ?_) (fun c_10 => ?_)
      · have h := h.1 c_10
        refine lv_iload_n hx hb d_M_timesSmall_50 rfl (lv_at hl 1 rfl) ?_
        refine lv_istore (lv' := [(6, .int p2), (0, .ref a1), (1, .int p2), (2, .int p3), (4, .long x4_2)]) hx hb d_M_timesSmall_51 hl (by decide) rfl (fun ls hl => ?_)
        obtain ⟨I_53, μ_53, h0_53, hs_53⟩ := h
        have loop_53 : ∀ (N : Nat) (x4_3 : Int64) (x6_3 : Int32) (A_3 : gm_M) (H : Heap) (locs : List Loc) (ls : Array Slot), μ_53 x4_3 x6_3 A_3 < N → I_53 x4_3 x6_3 A_3 → va_P D gcls (gs_ws Λ F A_3 L) H → va_S (gw_A Λ) s.heap H locs → lv_has ls 7 [(0, .ref a1), (4, .long x4_3), (6, .int x6_3)] → W p l e rm_M_timesSmall s m args below meth c H locs 0 0 Q (F0 m 53 ls []) := by
          intro N
          induction N with
          | zero => intro x4_3 x6_3 A_3 H locs ls hμ; exact absurd hμ (Nat.not_lt_zero _)
          | succ N ih_53 =>
            intro x4_3 x6_3 A_3 H locs ls hμ_53 hI hP hS hl
            have h := hs_53 x4_3 x6_3 A_3 hI
            refine lv_lload hx hb d_M_timesSmall_53 (lv_at hl 1 rfl) ?_
            refine lv_lconst (v := (0 : Int64)) hx hb d_M_timesSmall_55 (by decide) ?_
            refine gl_eq (tgt := 84) hx hb d_M_timesSmall_56 d_M_timesSmall_57 (by decide) (fun c_57 => ?_) (fun c_57 => ?_)
            · have h := h.1 c_57
              refine lv_iload hx hb d_M_timesSmall_84 (lv_at hl 2 rfl) ?_
              rw [← hQe]
              exact gw_iret hx hb hr hlocks hP hK hS ⟨rfl, h⟩ d_M_timesSmall_86
            · have h := h.2 c_57
              refine lv_aload_n hx hb d_M_timesSmall_60 rfl (lv_at hl 0 rfl) ?_
              refine lv_iload hx hb d_M_timesSmall_61 (lv_at hl 2 rfl) ?_
              obtain ⟨x6_4, ex6_4⟩ : ∃ y : Int32, y = x6_3 + (1 : Int32) := ⟨_, rfl⟩
              have h := h x6_4 ex6_4
              refine lv_iinc (v := x6_4) (lv' := [(6, .int x6_4), (0, .ref a1), (4, .long x4_3)]) hx hb d_M_timesSmall_63 hl (k := 2) rfl (by rw [ex6_4]; rfl) (by decide) rfl (fun ls hl => ?_)
              refine lv_lload hx hb d_M_timesSmall_66 (lv_at hl 2 rfl) ?_
              refine lv_ldc2 (v := (65535 : Int64)) hx hb hown (htw _ mm_720) d_M_timesSmall_68 ?_
              refine lv_land hx hb d_M_timesSmall_71 ?_
              refine lv_l2i (v := ((x4_3 &&& (65535 : Int64)).toInt32)) hx hb d_M_timesSmall_72 (by rfl) ?_
              obtain ⟨hin, h⟩ := h
              refine gs_ist hx hb hK hlo hP hS h1 hin d_M_timesSmall_73 (fun A_5 eA_5 H locs hP hS => ?_)
              have h := h A_5 eA_5
              refine lv_lload hx hb d_M_timesSmall_74 (lv_at hl 2 rfl) ?_
              refine lv_bipush (v := (16 : Int32)) hx hb d_M_timesSmall_76 (by decide) ?_
              refine lv_lshr (v := (j_lshr x4_3 (16 : Int32))) hx hb d_M_timesSmall_78 rfl ?_
              refine lv_topl (fun x4_6 ex4_6 => ?_)
              have h := h x4_6 ex4_6
              refine lv_lstore (lv' := [(4, .long x4_6), (6, .int x6_4), (0, .ref a1)]) hx hb d_M_timesSmall_79 hl (by decide) rfl (fun ls hl => ?_)
              refine lv_goto (tgt := 53) hx hb d_M_timesSmall_81 (by decide) ?_
              exact ih_53 x4_6 x6_4 A_5 _ _ _ (Nat.lt_of_lt_of_le h.2 (Nat.le_of_lt_succ hμ_53)) h.1 hP hS (lv_sub hl [2, 0, 1] rfl)
        exact loop_53 (μ_53 x4_2 p2 A_2 + 1) x4_2 p2 A_2 _ _ _ (Nat.lt_succ_self _) h0_53 hP hS (lv_sub hl [1, 4, 0] rfl)
      · have h := h.2 c_10
        refine lv_lload hx hb d_M_timesSmall_13 (lv_at hl 3 rfl) ?_
        refine lv_aload_n hx hb d_M_timesSmall_15 rfl (lv_at hl 0 rfl) ?_
        refine lv_iload hx hb d_M_timesSmall_16 (lv_at hl 4 rfl) ?_
        obtain ⟨hin, h⟩ := h
        refine gs_ild hx hb hK hP h1 hin d_M_timesSmall_18 ?_
        refine lv_i2l (v := ((A_2 a1 x6_2.toNatClampNeg).toInt64)) hx hb d_M_timesSmall_19 (by rfl) ?_
        refine lv_iload_n hx hb d_M_timesSmall_20 rfl (lv_at hl 2 rfl) ?_
        refine lv_i2l (v := (p3.toInt64)) hx hb d_M_timesSmall_21 (by rfl) ?_
        refine lv_lmul hx hb d_M_timesSmall_22 ?_
        refine lv_ladd hx hb d_M_timesSmall_23 ?_
        refine lv_topl (fun x4_7 ex4_7 => ?_)
        have h := h x4_7 ex4_7
        refine lv_lstore (lv' := [(4, .long x4_7), (0, .ref a1), (1, .int p2), (2, .int p3), (6, .int x6_2)]) hx hb d_M_timesSmall_24 hl (by decide) rfl (fun ls hl => ?_)
        refine lv_aload_n hx hb d_M_timesSmall_26 rfl (lv_at hl 1 rfl) ?_
        refine lv_iload hx hb d_M_timesSmall_27 (lv_at hl 4 rfl) ?_
        refine lv_lload hx hb d_M_timesSmall_29 (lv_at hl 0 rfl) ?_
        refine lv_ldc2 (v := (65535 : Int64)) hx hb hown (htw _ mm_720) d_M_timesSmall_31 ?_
        refine lv_land hx hb d_M_timesSmall_34 ?_
        refine lv_l2i (v := ((x4_7 &&& (65535 : Int64)).toInt32)) hx hb d_M_timesSmall_35 (by rfl) ?_
        obtain ⟨hin, h⟩ := h
        refine gs_ist hx hb hK hlo hP hS h1 hin d_M_timesSmall_36 (fun A_8 eA_8 H locs hP hS => ?_)
        have h := h A_8 eA_8
        refine lv_lload hx hb d_M_timesSmall_37 (lv_at hl 0 rfl) ?_
        refine lv_bipush (v := (16 : Int32)) hx hb d_M_timesSmall_39 (by decide) ?_
        refine lv_lshr (v := (j_lshr x4_7 (16 : Int32))) hx hb d_M_timesSmall_41 rfl ?_
        refine lv_topl (fun x4_9 ex4_9 => ?_)
        have h := h x4_9 ex4_9
        refine lv_lstore (lv' := [(4, .long x4_9), (0, .ref a1), (1, .int p2), (2, .int p3), (6, .int x6_2)]) hx hb d_M_timesSmall_42 hl (by decide) rfl (fun ls hl => ?_)
        obtain ⟨x6_10, ex6_10⟩ : ∃ y : Int32, y = x6_2 + (1 : Int32) := ⟨_, rfl⟩
        have h := h x6_10 ex6_10
        refine lv_iinc (v := x6_10) (lv' := [(6, .int x6_10), (4, .long x4_9), (0, .ref a1), (1, .int p2), (2, .int p3)]) hx hb d_M_timesSmall_44 hl (k := 4) rfl (by rw [ex6_10]; rfl) (by decide) rfl (fun ls hl => ?_)
        refine lv_goto (tgt := 7) hx hb d_M_timesSmall_47 (by decide) ?_
        exact ih_7 x4_9 x6_10 A_8 _ _ _ (Nat.lt_of_lt_of_le h.2 (Nat.le_of_lt_succ hμ_7)) h.1 hP hS (lv_sub hl [2, 3, 4, 1, 0] rfl)
  exact loop_7 (μ_7 x4_1 (0 : Int32) A + 1) x4_1 (0 : Int32) A _ _ _ (Nat.lt_succ_self _) h0_7 hP hS (lv_sub hl [2, 3, 4, 1, 0] rfl)
