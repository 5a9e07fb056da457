variable {l : Launch} {D : va_G} {cI cB cJ cW : ClassId} {Λ : gs_L} {L : Nat → Nat → Int64}
abbrev rm_M_compare : Room := { frames := 2, cells := 0, slots := 0, locals := 42 }
set_option maxHeartbeats 4000000 in
set_option maxRecDepth 100000 in
theorem w_M_compare (hlo : gs_D Λ) (K : Nat → Nat) (p1 : Int32) (p2 : Int32) (hΜ : gMd cI Λ K) (F A : gm_M) (post : Int32 → gm_M → gm_M → Prop) (h : vc_M_compare K p1 p2 F A post) : Met l y_M_compare (.code y_M_compare b_M_compare 5 (some .int) :: gw_WS) rm_M_compare (va_Pc [.ref (K 49), .int p1, .int p2] (gw_P D cI cB cJ cW Λ L F A)) (gw_Qi D cI cB cJ cW Λ L (fun r F2 A2 => post r F2 A2)) 0 0 (gw_A Λ) := by
  refine Met.ofW (cc := b_M_compare) (maxL := 5) (ret := (some .int)) (by decide) rfl ?_
  intro p e s m args below meth c s₁ B hml hv
  obtain ⟨hargs, hP, hK⟩ := hv
  have hx := B.exec
  have hb := B.bytes
  have hr := B.returns
  have hlocks := B.notSynchronized
  have htw : ∀ w ∈ gw_WS, w.before args s = true := fun w h9 => atoms_spec (ws := .code y_M_compare b_M_compare 5 (some .int) :: gw_WS) B.pre w (List.mem_cons_of_mem _ h9)
  have hown : s.vm.findClass R_M = some m.cls := findClass_of_methodNamed B.named
  have hS : va_S (gw_A Λ) s.heap s.heap [] := va_S.rf
  refine W.eq (g2 := entryFrame m ([.ref (K 49), .int p1, .int p2] : List Value).toArray 5) (by rw [hargs]) ?_
  have hl := lv_entry ([.ref (K 49), .int p1, .int p2]) (n := 5) (Nat.le_of_ble_eq_true rfl)
  rw [lg_entry_eq]
  generalize (lg_sl ([.ref (K 49), .int p1, .int p2]) ++ List.replicate (5 - (lg_sl ([.ref (K 49), .int p1, .int p2])).length) Slot.unset).toArray = ls at hl ⊢
  have hl : lv_has ls 5 [(0, .ref (K 49)), (1, .int p1), (2, .int p2)] := hl
  generalize hQe : MQ below (gw_Qi D cI cB cJ cW Λ L (fun r F2 A2 => post r F2 A2)) args s 0 0 (gw_A Λ) = Q
  unfold vc_M_compare at h
  refine lv_aload_n hx hb d_M_compare_0 rfl (lv_at hl 0 rfl) ?_
  refine lv_iconst (v := (0 : Int32)) hx hb d_M_compare_1 (by decide) ?_
  refine gs_put (ty := .int) hx hb htw i_M tf_M tf_M_ok n_M hown hK hlo hP hS (gMd_0 hΜ) rfl 0 (by decide) rfl (htw _ mm_642) rfl (by decide +kernel) rfl rfl d_M_compare_2 (fun F_1 eF_1 H locs hP hS => ?_)
  have h := h F_1 eF_1
  refine lv_aload_n hx hb d_M_compare_5 rfl (lv_at hl 0 rfl) ?_
  refine lv_iload_n hx hb d_M_compare_6 rfl (lv_at hl 1 rfl) ?_
  refine gw_goi (gw_runS (As := [.int p1]) (rest := [.ref (K 49)]) hx hb hml hown htw hK hP hS hl.1 (w_M_isRegister hlo p1 F_1 A _ h) k_M_isRegister mm_699 ⟨Nat.le_of_ble_eq_true rfl, Nat.le_of_ble_eq_true rfl⟩ rfl rfl rfl rfl (Nat.le_of_ble_eq_true rfl) d_M_compare_7) hS (fun r_2 F_2 A_2 H locs hw hP hS => ?_)
  obtain ⟨rfl, hw⟩ := hw
  obtain ⟨rfl, hw⟩ := hw
  have h := hw
  obtain ⟨J_25, h, hj_25⟩ := h
  have join_25 : ∀ (v0_3 : Int32) (H : Heap) (locs : List Loc) (ls : Array Slot), J_25 v0_3 → va_P D gcls (gs_ws Λ F_1 A L) H → va_S (gw_A Λ) s.heap H locs → lv_has ls 5 [(0, .ref (K 49)), (1, .int p1), (2, .int p2)] → W p l e rm_M_compare s m args below meth c H locs 0 0 Q (F0 m 25 ls [.int v0_3, .ref (K 49)]) := by
    intro v0_3 H locs ls hJ hP hS hl
    have h := hj_25 v0_3 hJ
    refine lv_iconst (v := (1 : Int32)) hx hb d_M_compare_25 (by decide) ?_
    refine gw_goi (gw_runV (As := [.int v0_3, .int (1 : Int32)]) (rest := []) hx hb hml hown htw hK hP hS hl.1 (w_M_fails hlo K v0_3 (1 : Int32) hΜ F_1 A _ h) k_M_fails mm_705 ⟨Nat.le_of_ble_eq_true rfl, Nat.le_of_ble_eq_true rfl⟩ rfl rfl (gMd_0 hΜ) rfl rfl rfl (Nat.le_of_ble_eq_true rfl) d_M_compare_26) hS (fun r_4 F_4 A_4 H locs hw hP hS => ?_)
    obtain ⟨rfl, hw⟩ := hw
    have h := hw
    refine lv_if_eq (tgt := 34) hx hb d_M_compare_29 (by decide) (fun c_29 => ?_) (fun c_29 => ?_)
    · have h := h.1 c_29
      refine lv_aload_n hx hb d_M_compare_34 rfl (lv_at hl 0 rfl) ?_
      refine gs_get (v := .ref (K 52)) hx hb htw i_M hown hK hP (gMd_0 hΜ) rfl 4 (by decide) (htw _ mm_646) rfl d_M_compare_35 ?_
      refine lv_iload_n hx hb d_M_compare_38 rfl (lv_at hl 1 rfl) ?_
      obtain ⟨hin, h⟩ := h
      refine gs_ild hx hb hK hP (gMd_52 hΜ) hin d_M_compare_39 ?_
      refine lv_aload_n hx hb d_M_compare_40 rfl (lv_at hl 0 rfl) ?_
      refine gs_get (v := .ref (K 52)) hx hb htw i_M hown hK hP (gMd_0 hΜ) rfl 4 (by decide) (htw _ mm_646) rfl d_M_compare_41 ?_
      refine lv_iload_n hx hb d_M_compare_44 rfl (lv_at hl 2 rfl) ?_
      obtain ⟨hin, h⟩ := h
      refine gs_ild hx hb hK hP (gMd_52 hΜ) hin d_M_compare_45 ?_
      refine lv_icmp_eq (tgt := 70) hx hb d_M_compare_46 (by decide) (fun c_46 => ?_) (fun c_46 => ?_)
      · have h := h.1 c_46
        refine lv_aload_n hx hb d_M_compare_70 rfl (lv_at hl 0 rfl) ?_
        refine lv_iload_n hx hb d_M_compare_71 rfl (lv_at hl 1 rfl) ?_
        refine lv_aload_n hx hb d_M_compare_72 rfl (lv_at hl 0 rfl) ?_
        refine gs_get (v := .ref (K 54)) hx hb htw i_M hown hK hP (gMd_0 hΜ) rfl 6 (by decide) (htw _ mm_648) rfl d_M_compare_73 ?_
        refine gw_goi (gw_runV (As := [.int p1, .ref (K 54)]) (rest := []) hx hb hml hown htw hK hP hS hl.1 (w_M_load hlo K p1 (K 54) (9000) hΜ (gMd_54 hΜ) F_4 A _ h) k_M_load mm_713 ⟨Nat.le_of_ble_eq_true rfl, Nat.le_of_ble_eq_true rfl⟩ rfl rfl (gMd_0 hΜ) rfl rfl rfl (Nat.le_of_ble_eq_true rfl) d_M_compare_76) hS (fun r_5 F_5 A_5 H locs hw hP hS => ?_)
        obtain ⟨rfl, hw⟩ := hw
        have h := hw
        refine lv_istore_n (lv' := [(3, .int r_5), (0, .ref (K 49)), (1, .int p1), (2, .int p2)]) hx hb d_M_compare_79 rfl hl (by decide) rfl (fun ls hl => ?_)
        refine lv_aload_n hx hb d_M_compare_80 rfl (lv_at hl 1 rfl) ?_
        refine lv_iload_n hx hb d_M_compare_81 rfl (lv_at hl 3 rfl) ?_
        refine lv_aload_n hx hb d_M_compare_82 rfl (lv_at hl 1 rfl) ?_
        refine gs_get (v := .ref (K 55)) hx hb htw i_M hown hK hP (gMd_0 hΜ) rfl 7 (by decide) (htw _ mm_649) rfl d_M_compare_83 ?_
        refine gw_goi (gw_runV (As := [.int p2, .ref (K 55)]) (rest := []) hx hb hml hown htw hK hP hS hl.1 (w_M_load hlo K p2 (K 55) (9000) hΜ (gMd_55 hΜ) F_4 A_5 _ h) k_M_load mm_713 ⟨Nat.le_of_ble_eq_true rfl, Nat.le_of_ble_eq_true rfl⟩ rfl rfl (gMd_0 hΜ) rfl rfl rfl (Nat.le_of_ble_eq_true rfl) d_M_compare_86) hS (fun r_6 F_6 A_6 H locs hw hP hS => ?_)
        obtain ⟨rfl, hw⟩ := hw
        have h := hw
        refine lv_istore (lv' := [(4, .int r_6), (3, .int r_5), (0, .ref (K 49)), (1, .int p1), (2, .int p2)]) hx hb d_M_compare_89 hl (by decide) rfl (fun ls hl => ?_)
        refine lv_aload_n hx hb d_M_compare_91 rfl (lv_at hl 2 rfl) ?_
        refine gs_get (v := .ref (K 52)) hx hb htw i_M hown hK hP (gMd_0 hΜ) rfl 4 (by decide) (htw _ mm_646) rfl d_M_compare_92 ?_
        refine lv_iload_n hx hb d_M_compare_95 rfl (lv_at hl 3 rfl) ?_
        obtain ⟨hin, h⟩ := h
        refine gs_ild hx hb hK hP (gMd_52 hΜ) hin d_M_compare_96 ?_
        refine lv_aload_n hx hb d_M_compare_97 rfl (lv_at hl 2 rfl) ?_
        refine gs_get (v := .ref (K 54)) hx hb htw i_M hown hK hP (gMd_0 hΜ) rfl 6 (by decide) (htw _ mm_648) rfl d_M_compare_98 ?_
        refine lv_iload_n hx hb d_M_compare_101 rfl (lv_at hl 1 rfl) ?_
        refine lv_aload_n hx hb d_M_compare_102 rfl (lv_at hl 2 rfl) ?_
        refine gs_get (v := .ref (K 55)) hx hb htw i_M hown hK hP (gMd_0 hΜ) rfl 7 (by decide) (htw _ mm_649) rfl d_M_compare_103 ?_
        refine lv_iload hx hb d_M_compare_106 (lv_at hl 0 rfl) ?_
        refine gw_goi (gw_runS (As := [.ref (K 54), .int r_5, .ref (K 55), .int r_6]) (rest := [.int (A_6 (K 52) p1.toNatClampNeg)]) hx hb hml hown htw hK hP hS hl.1 (w_M_compared hlo (K 54) (9000) r_5 (K 55) (9000) r_6 (gMd_54 hΜ) (gMd_55 hΜ) F_4 A_6 _ h) k_M_compared mm_762 ⟨Nat.le_of_ble_eq_true rfl, Nat.le_of_ble_eq_true rfl⟩ rfl rfl rfl rfl (Nat.le_of_ble_eq_true rfl) d_M_compare_108) hS (fun r_7 F_7 A_7 H locs hw hP hS => ?_)
        obtain ⟨rfl, hw⟩ := hw
        obtain ⟨rfl, hw⟩ := hw
        have h := hw
        refine lv_imul hx hb d_M_compare_111 ?_
        rw [← hQe]
        exact gw_iret hx hb hr hlocks hP hK hS h d_M_compare_112
      · have h := h.2 c_46
        refine lv_aload_n hx hb d_M_compare_49 rfl (lv_at hl 0 rfl) ?_
        refine gs_get (v := .ref (K 52)) hx hb htw i_M hown hK hP (gMd_0 hΜ) rfl 4 (by decide) (htw _ mm_646) rfl d_M_compare_50 ?_
        refine lv_iload_n hx hb d_M_compare_53 rfl (lv_at hl 1 rfl) ?_
        obtain ⟨hin, h⟩ := h
        refine gs_ild hx hb hK hP (gMd_52 hΜ) hin d_M_compare_54 ?_
        refine lv_aload_n hx hb d_M_compare_55 rfl (lv_at hl 0 rfl) ?_
        refine gs_get (v := .ref (K 52)) hx hb htw i_M hown hK hP (gMd_0 hΜ) rfl 4 (by decide) (htw _ mm_646) rfl d_M_compare_56 ?_
        refine lv_iload_n hx hb d_M_compare_59 rfl (lv_at hl 2 rfl) ?_
        obtain ⟨hin, h⟩ := h
        refine gs_ild hx hb hK hP (gMd_52 hΜ) hin d_M_compare_60 ?_
        refine lv_icmp_ge (tgt := 68) hx hb d_M_compare_61 (by decide) (fun c_61 => ?_) (fun c_61 => ?_)
        · have h := h.1 c_61
          refine lv_iconst (v := (1 : Int32)) hx hb d_M_compare_68 (by decide) ?_
          rw [← hQe]
          exact gw_iret hx hb hr hlocks hP hK hS h d_M_compare_69
        · have h := h.2 c_61
          refine lv_iconst (v := (-1 : Int32)) hx hb d_M_compare_64 (by decide) ?_
          refine lv_goto (tgt := 69) hx hb d_M_compare_65 (by decide) ?_
          rw [← hQe]
          exact gw_iret hx hb hr hlocks hP hK hS h d_M_compare_69
    · have h := h.2 c_29
      refine lv_iconst (v := (0 : Int32)) hx hb d_M_compare_32 (by decide) ?_
      rw [← hQe]
      exact gw_iret hx hb hr hlocks hP hK hS h d_M_compare_33
  obtain ⟨J_20, h, hj_20⟩ := h
  have join_20 : ∀  (H : Heap) (locs : List Loc) (ls : Array Slot), J_20 → va_P D gcls (gs_ws Λ F_1 A L) H → va_S (gw_A Λ) s.heap H locs → lv_has ls 5 [(0, .ref (K 49)), (1, .int p1), (2, .int p2)] → W p l e rm_M_compare s m args below meth c H locs 0 0 Q (F0 m 20 ls [.ref (K 49)]) := by
    intro  H locs ls hJ hP hS hl
    have h := hj_20  hJ
    refine lv_iconst (v := (1 : Int32)) hx hb d_M_compare_20 (by decide) ?_
    refine lv_goto (tgt := 25) hx hb d_M_compare_21 (by decide) ?_
    exact join_25 (1 : Int32) _ _ _ h hP hS hl
  refine lv_if_eq (tgt := 20) hx hb d_M_compare_10 (by decide) (fun c_10 => ?_) (fun c_10 => ?_)
  · have h := h.1 c_10
    exact join_20 _ _ _ h hP hS hl
  · have h := h.2 c_10
    refine lv_iload_n hx hb d_M_compare_13 rfl (lv_at hl 2 rfl) ?_
    refine gw_goi (gw_runS (As := [.int p2]) (rest := [.ref (K 49)]) hx hb hml hown htw hK hP hS hl.1 (w_M_isRegister hlo p2 F_1 A _ h) k_M_isRegister mm_699 ⟨Nat.le_of_ble_eq_true rfl, Nat.le_of_ble_eq_true rfl⟩ rfl rfl rfl rfl (Nat.le_of_ble_eq_true rfl) d_M_compare_14) hS (fun r_9 F_9 A_9 H locs hw hP hS => ?_)
    obtain ⟨rfl, hw⟩ := hw
    obtain ⟨rfl, hw⟩ := hw
    have h := hw
    refine lv_if_ne (tgt := 24) hx hb d_M_compare_17 (by decide) (fun c_17 => ?_) (fun c_17 => ?_)
    · have h := h.1 c_17
      refine lv_iconst (v := (0 : Int32)) hx hb d_M_compare_24 (by decide) ?_
      exact join_25 (0 : Int32) _ _ _ h hP hS hl
    · have h := h.2 c_17
      exact join_20 _ _ _ h hP hS hl
abbrev rm_M_low64 : Room := { frames := 0, cells := 0, slots := 0, locals := 0 }
set_option maxHeartbeats 4000000 in
set_option maxRecDepth 100000 in
theorem w_M_low64 (hlo : gs_D Λ) (K : Nat → Nat) (p1 : Int32) (hΜ : gMd cI Λ K) (F A : gm_M) (post : Int64 → Prop) (h : vc_M_low64 K p1 F A post) : Met l y_M_low64 (.code y_M_low64 b_M_low64 5 (some .long) :: gw_WS) rm_M_low64 (va_Pc [.ref (K 49), .int p1] (gw_P D cI cB cJ cW Λ L F A)) (gw_Ql D cI cB cJ cW Λ L (fun r F2 A2 => F = F2 ∧ A = A2 ∧ post r)) 0 0 (gw_A Λ) := by
  refine Met.ofW (cc := b_M_low64) (maxL := 5) (ret := (some .long)) (by decide) rfl ?_
  intro p e s m args below meth c s₁ B hml hv
  obtain ⟨hargs, hP, hK⟩ := hv
  have hx := B.exec
  have hb := B.bytes
  have hr := B.returns
  have hlocks := B.notSynchronized
  have htw : ∀ w ∈ gw_WS, w.before args s = true := fun w h9 => atoms_spec (ws := .code y_M_low64 b_M_low64 5 (some .long) :: gw_WS) B.pre w (List.mem_cons_of_mem _ h9)
  have hown : s.vm.findClass R_M = some m.cls := findClass_of_methodNamed B.named
  have hS : va_S (gw_A Λ) s.heap s.heap [] := va_S.rf
  refine W.eq (g2 := entryFrame m ([.ref (K 49), .int p1] : List Value).toArray 5) (by rw [hargs]) ?_
  have hl := lv_entry ([.ref (K 49), .int p1]) (n := 5) (Nat.le_of_ble_eq_true rfl)
  rw [lg_entry_eq]
  generalize (lg_sl ([.ref (K 49), .int p1]) ++ List.replicate (5 - (lg_sl ([.ref (K 49), .int p1])).length) Slot.unset).toArray = ls at hl ⊢
  have hl : lv_has ls 5 [(0, .ref (K 49)), (1, .int p1)] := hl
  generalize hQe : MQ below (gw_Ql D cI cB cJ cW Λ L (fun r F2 A2 => F = F2 ∧ A = A2 ∧ post r)) args s 0 0 (gw_A Λ) = Q
  unfold vc_M_low64 at h
  refine lv_lconst (v := (0 : Int64)) hx hb d_M_low64_0 (by decide) ?_
  refine lv_lstore_n (lv' := [(2, .long (0 : Int64)), (0, .ref (K 49)), (1, .int p1)]) hx hb d_M_low64_1 rfl hl (by decide) rfl (fun ls hl => ?_)
  refine lv_iconst (v := (3 : Int32)) hx hb d_M_low64_2 (by decide) ?_
  refine lv_istore (lv' := [(4, .int (3 : Int32)), (2, .long (0 : Int64)), (0, .ref (K 49)), (1, .int p1)]) hx hb d_M_low64_3 hl (by decide) rfl (fun ls hl => ?_)
  obtain ⟨I_5, μ_5, h0_5, hs_5⟩ := h
  have loop_5 : ∀ (N : Nat) (x2_1 : Int64) (x4_1 : Int32) (H : Heap) (locs : List Loc) (ls : Array Slot), μ_5 x2_1 x4_1 < N → I_5 x2_1 x4_1 → va_P D gcls (gs_ws Λ F A L) H → va_S (gw_A Λ) s.heap H locs → lv_has ls 5 [(0, .ref (K 49)), (1, .int p1), (2, .long x2_1), (4, .int x4_1)] → W p l e rm_M_low64 s m args below meth c H locs 0 0 Q (F0 m 5 ls []) := by
    intro N
    induction N with
    | zero => intro x2_1 x4_1 H locs ls hμ; exact absurd hμ (Nat.not_lt_zero _)
    | succ N ih_5 =>
      intro x2_1 x4_1 H locs ls hμ_5 hI hP hS hl
      have h := hs_5 x2_1 x4_1 hI
      refine lv_iload hx hb d_M_low64_5 (lv_at hl 3 rfl) ?_
      refine lv_if_lt (tgt := 40) hx hb d_M_low64_7 (by decide) (fun c_7 => ?_) (fun c_7 => ?_)
      · have h := h.1 c_7
        refine lv_lload_n hx hb d_M_low64_40 rfl (lv_at hl 2 rfl) ?_
        rw [← hQe]
        exact gw_lret hx hb hr hlocks hP hK hS ⟨rfl, rfl, h⟩ d_M_low64_41
      · have h := h.2 c_7
        refine lv_lload_n hx hb d_M_low64_10 rfl (lv_at hl 2 rfl) ?_
        refine lv_bipush (v := (16 : Int32)) hx hb d_M_low64_11 (by decide) ?_
        refine lv_lshl (v := (j_lshl x2_1 (16 : Int32))) hx hb d_M_low64_13 rfl ?_
        refine lv_iload hx hb d_M_low64_14 (lv_at hl 3 rfl) ?_
        refine lv_iload_n hx hb d_M_low64_16 rfl (lv_at hl 1 rfl) ?_
        refine lv_icmp_ge (tgt := 30) hx hb d_M_low64_17 (by decide) (fun c_17 => ?_) (fun c_17 => ?_)
        · have h := h.1 c_17
          refine lv_iconst (v := (0 : Int32)) hx hb d_M_low64_30 (by decide) ?_
          refine lv_i2l (v := (0 : Int64)) hx hb d_M_low64_31 (by rfl) ?_
          refine lv_lor hx hb d_M_low64_32 ?_
          refine lv_topl (fun x2_2 ex2_2 => ?_)
          have h := h x2_2 ex2_2
          refine lv_lstore_n (lv' := [(2, .long x2_2), (0, .ref (K 49)), (1, .int p1), (4, .int x4_1)]) hx hb d_M_low64_33 rfl hl (by decide) rfl (fun ls hl => ?_)
          obtain ⟨x4_3, ex4_3⟩ : ∃ y : Int32, y = x4_1 + (-1 : Int32) := ⟨_, rfl⟩
          have h := h x4_3 ex4_3
          refine lv_iinc (v := x4_3) (lv' := [(4, .int x4_3), (2, .long x2_2), (0, .ref (K 49)), (1, .int p1)]) hx hb d_M_low64_34 hl (k := 3) rfl (by rw [ex4_3]; rfl) (by decide) rfl (fun ls hl => ?_)
          refine lv_goto (tgt := 5) hx hb d_M_low64_37 (by decide) ?_
          exact ih_5 x2_2 x4_3 _ _ _ (Nat.lt_of_lt_of_le h.2 (Nat.le_of_lt_succ hμ_5)) h.1 hP hS (lv_sub hl [2, 3, 1, 0] rfl)
        · have h := h.2 c_17
          refine lv_aload_n hx hb d_M_low64_20 rfl (lv_at hl 0 rfl) ?_
          refine gs_get (v := .ref (K 54)) hx hb htw i_M hown hK hP (gMd_0 hΜ) rfl 6 (by decide) (htw _ mm_648) rfl d_M_low64_21 ?_
          refine lv_iload hx hb d_M_low64_24 (lv_at hl 3 rfl) ?_
          obtain ⟨hin, h⟩ := h
          refine gs_ild hx hb hK hP (gMd_54 hΜ) hin d_M_low64_26 ?_
          refine lv_goto (tgt := 31) hx hb d_M_low64_27 (by decide) ?_
          refine lv_i2l (v := ((A (K 54) x4_1.toNatClampNeg).toInt64)) hx hb d_M_low64_31 (by rfl) ?_
          refine lv_lor hx hb d_M_low64_32 ?_
          refine lv_topl (fun x2_4 ex2_4 => ?_)
          have h := h x2_4 ex2_4
          refine lv_lstore_n (lv' := [(2, .long x2_4), (0, .ref (K 49)), (1, .int p1), (4, .int x4_1)]) hx hb d_M_low64_33 rfl hl (by decide) rfl (fun ls hl => ?_)
          obtain ⟨x4_5, ex4_5⟩ : ∃ y : Int32, y = x4_1 + (-1 : Int32) := ⟨_, rfl⟩
          have h := h x4_5 ex4_5
          refine lv_iinc (v := x4_5) (lv' := [(4, .int x4_5), (2, .long x2_4), (0, .ref (K 49)), (1, .int p1)]) hx hb d_M_low64_34 hl (k := 3) rfl (by rw [ex4_5]; rfl) (by decide) rfl (fun ls hl => ?_)
          refine lv_goto (tgt := 5) hx hb d_M_low64_37 (by decide) ?_
          exact ih_5 x2_4 x4_5 _ _ _ (Nat.lt_of_lt_of_le h.2 (Nat.le_of_lt_succ hμ_5)) h.1 hP hS (lv_sub hl [2, 3, 1, 0] rfl)
  exact loop_5 (μ_5 (0 : Int64) (3 : Int32) + 1) (0 : Int64) (3 : Int32) _ _ _ (Nat.lt_succ_self _) h0_5 hP hS (lv_sub hl [2, 3, 1, 0] rfl)
abbrev rm_M_small : Room := { frames := 2, cells := 0, slots := 0, locals := 42 }
set_option maxHeartbeats 4000000 in
set_option maxRecDepth 100000 in
theorem w_M_small (hlo : gs_D Λ) (K : Nat → Nat) (p1 : Int32) (hΜ : gMd cI Λ K) (F A : gm_M) (post : Int64 → gm_M → gm_M → Prop) (h : vc_M_small K p1 F A post) : Met l y_M_small (.code y_M_small b_M_small 6 (some .long) :: gw_WS) rm_M_small (va_Pc [.ref (K 49), .int p1] (gw_P D cI cB cJ cW Λ L F A)) (gw_Ql D cI cB cJ cW Λ L (fun r F2 A2 => post r F2 A2)) 0 0 (gw_A Λ) := by
  refine Met.ofW (cc := b_M_small) (maxL := 6) (ret := (some .long)) (by decide) rfl ?_
  intro p e s m args below meth c s₁ B hml hv
  obtain ⟨hargs, hP, hK⟩ := hv
  have hx := B.exec
  have hb := B.bytes
  have hr := B.returns
  have hlocks := B.notSynchronized
  have htw : ∀ w ∈ gw_WS, w.before args s = true := fun w h9 => atoms_spec (ws := .code y_M_small b_M_small 6 (some .long) :: gw_WS) B.pre w (List.mem_cons_of_mem _ h9)
  have hown : s.vm.findClass R_M = some m.cls := findClass_of_methodNamed B.named
  have hS : va_S (gw_A Λ) s.heap s.heap [] := va_S.rf
  refine W.eq (g2 := entryFrame m ([.ref (K 49), .int p1] : List Value).toArray 6) (by rw [hargs]) ?_
  have hl := lv_entry ([.ref (K 49), .int p1]) (n := 6) (Nat.le_of_ble_eq_true rfl)
  rw [lg_entry_eq]
  generalize (lg_sl ([.ref (K 49), .int p1]) ++ List.replicate (6 - (lg_sl ([.ref (K 49), .int p1])).length) Slot.unset).toArray = ls at hl ⊢
  have hl : lv_has ls 6 [(0, .ref (K 49)), (1, .int p1)] := hl
  generalize hQe : MQ below (gw_Ql D cI cB cJ cW Λ L (fun r F2 A2 => post r F2 A2)) args s 0 0 (gw_A Λ) = Q
  unfold vc_M_small at h
  refine lv_aload_n hx hb d_M_small_0 rfl (lv_at hl 0 rfl) ?_
  refine lv_iconst (v := (0 : Int32)) hx hb d_M_small_1 (by decide) ?_
  refine gs_put (ty := .int) hx hb htw i_M tf_M tf_M_ok n_M hown hK hlo hP hS (gMd_0 hΜ) rfl 0 (by decide) rfl (htw _ mm_642) rfl (by decide +kernel) rfl rfl d_M_small_2 (fun F_1 eF_1 H locs hP hS => ?_)
  have h := h F_1 eF_1
  refine lv_aload_n hx hb d_M_small_5 rfl (lv_at hl 0 rfl) ?_
  refine lv_iload_n hx hb d_M_small_6 rfl (lv_at hl 1 rfl) ?_
  refine gw_goi (gw_runS (As := [.int p1]) (rest := [.ref (K 49)]) hx hb hml hown htw hK hP hS hl.1 (w_M_isRegister hlo p1 F_1 A _ h) k_M_isRegister mm_699 ⟨Nat.le_of_ble_eq_true rfl, Nat.le_of_ble_eq_true rfl⟩ rfl rfl rfl rfl (Nat.le_of_ble_eq_true rfl) d_M_small_7) hS (fun r_2 F_2 A_2 H locs hw hP hS => ?_)
  obtain ⟨rfl, hw⟩ := hw
  obtain ⟨rfl, hw⟩ := hw
  have h := hw
  obtain ⟨J_18, h, hj_18⟩ := h
  have join_18 : ∀ (v0_3 : Int32) (H : Heap) (locs : List Loc) (ls : Array Slot), J_18 v0_3 → va_P D gcls (gs_ws Λ F_1 A L) H → va_S (gw_A Λ) s.heap H locs → lv_has ls 6 [(0, .ref (K 49)), (1, .int p1)] → W p l e rm_M_small s m args below meth c H locs 0 0 Q (F0 m 18 ls [.int v0_3, .ref (K 49)]) := by
    intro v0_3 H locs ls hJ hP hS hl
    have h := hj_18 v0_3 hJ
    refine lv_iconst (v := (1 : Int32)) hx hb d_M_small_18 (by decide) ?_
    refine gw_goi (gw_runV (As := [.int v0_3, .int (1 : Int32)]) (rest := []) hx hb hml hown htw hK hP hS hl.1 (w_M_fails hlo K v0_3 (1 : Int32) hΜ F_1 A _ h) k_M_fails mm_705 ⟨Nat.le_of_ble_eq_true rfl, Nat.le_of_ble_eq_true rfl⟩ rfl rfl (gMd_0 hΜ) rfl rfl rfl (Nat.le_of_ble_eq_true rfl) d_M_small_19) hS (fun r_4 F_4 A_4 H locs hw hP hS => ?_)
    obtain ⟨rfl, hw⟩ := hw
    have h := hw
    refine lv_if_eq (tgt := 27) hx hb d_M_small_22 (by decide) (fun c_22 => ?_) (fun c_22 => ?_)
    · have h := h.1 c_22
      refine lv_aload_n hx hb d_M_small_27 rfl (lv_at hl 0 rfl) ?_
      refine lv_iload_n hx hb d_M_small_28 rfl (lv_at hl 1 rfl) ?_
      refine lv_aload_n hx hb d_M_small_29 rfl (lv_at hl 0 rfl) ?_
      refine gs_get (v := .ref (K 54)) hx hb htw i_M hown hK hP (gMd_0 hΜ) rfl 6 (by decide) (htw _ mm_648) rfl d_M_small_30 ?_
      refine gw_goi (gw_runV (As := [.int p1, .ref (K 54)]) (rest := []) hx hb hml hown htw hK hP hS hl.1 (w_M_load hlo K p1 (K 54) (9000) hΜ (gMd_54 hΜ) F_4 A _ h) k_M_load mm_713 ⟨Nat.le_of_ble_eq_true rfl, Nat.le_of_ble_eq_true rfl⟩ rfl rfl (gMd_0 hΜ) rfl rfl rfl (Nat.le_of_ble_eq_true rfl) d_M_small_33) hS (fun r_5 F_5 A_5 H locs hw hP hS => ?_)
      obtain ⟨rfl, hw⟩ := hw
      have h := hw
      refine lv_istore_n (lv' := [(2, .int r_5), (0, .ref (K 49)), (1, .int p1)]) hx hb d_M_small_36 rfl hl (by decide) rfl (fun ls hl => ?_)
      refine lv_aload_n hx hb d_M_small_37 rfl (lv_at hl 1 rfl) ?_
      refine lv_iload_n hx hb d_M_small_38 rfl (lv_at hl 0 rfl) ?_
      refine gw_gol (gw_runV (As := [.int r_5]) (rest := []) hx hb hml hown htw hK hP hS hl.1 (w_M_low64 hlo K r_5 hΜ F_4 A_5 _ h) k_M_low64 mm_811 ⟨Nat.le_of_ble_eq_true rfl, Nat.le_of_ble_eq_true rfl⟩ rfl rfl (gMd_0 hΜ) rfl rfl rfl (Nat.le_of_ble_eq_true rfl) d_M_small_39) hS (fun r_6 F_6 A_6 H locs hw hP hS => ?_)
      obtain ⟨rfl, hw⟩ := hw
      obtain ⟨rfl, hw⟩ := hw
      have h := hw
      refine lv_lstore_n (lv' := [(3, .long r_6), (2, .int r_5), (0, .ref (K 49)), (1, .int p1)]) hx hb d_M_small_42 rfl hl (by decide) rfl (fun ls hl => ?_)
      refine lv_aload_n hx hb d_M_small_43 rfl (lv_at hl 2 rfl) ?_
      refine gs_get (v := .ref (K 54)) hx hb htw i_M hown hK hP (gMd_0 hΜ) rfl 6 (by decide) (htw _ mm_648) rfl d_M_small_44 ?_
      refine lv_iload_n hx hb d_M_small_47 rfl (lv_at hl 1 rfl) ?_
      refine gw_goi (gw_runS (As := [.ref (K 54), .int r_5]) (rest := []) hx hb hml hown htw hK hP hS hl.1 (w_M_bits hlo (K 54) (9000) r_5 (gMd_54 hΜ) F_4 A_5 _ h) k_M_bits mm_717 ⟨Nat.le_of_ble_eq_true rfl, Nat.le_of_ble_eq_true rfl⟩ rfl rfl rfl rfl (Nat.le_of_ble_eq_true rfl) d_M_small_48) hS (fun r_7 F_7 A_7 H locs hw hP hS => ?_)
      obtain ⟨rfl, hw⟩ := hw
      obtain ⟨rfl, hw⟩ := hw
      have h := hw
      refine lv_bipush (v := (64 : Int32)) hx hb d_M_small_51 (by decide) ?_
      obtain ⟨J_91, h, hj_91⟩ := h
      have join_91 : ∀ (v0_8 : Int32) (H : Heap) (locs : List Loc) (ls : Array Slot), J_91 v0_8 → va_P D gcls (gs_ws Λ F_4 A_5 L) H → va_S (gw_A Λ) s.heap H locs → lv_has ls 6 [(0, .ref (K 49)), (1, .int p1), (3, .long r_6)] → W p l e rm_M_small s m args below meth c H locs 0 0 Q (F0 m 91 ls [.int v0_8]) := by
        intro v0_8 H locs ls hJ hP hS hl
        have h := hj_91 v0_8 hJ
        refine lv_istore (lv' := [(5, .int v0_8), (0, .ref (K 49)), (1, .int p1), (3, .long r_6)]) hx hb d_M_small_91 hl (by decide) rfl (fun ls hl => ?_)
        refine lv_aload_n hx hb d_M_small_93 rfl (lv_at hl 1 rfl) ?_
        refine lv_iload hx hb d_M_small_94 (lv_at hl 0 rfl) ?_
        obtain ⟨J_104, h, hj_104⟩ := h
        have join_104 : ∀ (v0_9 : Int32) (H : Heap) (locs : List Loc) (ls : Array Slot), J_104 v0_9 → va_P D gcls (gs_ws Λ F_4 A_5 L) H → va_S (gw_A Λ) s.heap H locs → lv_has ls 6 [(0, .ref (K 49)), (1, .int p1), (3, .long r_6)] → W p l e rm_M_small s m args below meth c H locs 0 0 Q (F0 m 104 ls [.int v0_9, .ref (K 49)]) := by
          intro v0_9 H locs ls hJ hP hS hl
          have h := hj_104 v0_9 hJ
          refine lv_iconst (v := (2 : Int32)) hx hb d_M_small_104 (by decide) ?_
          refine gw_goi (gw_runV (As := [.int v0_9, .int (2 : Int32)]) (rest := []) hx hb hml hown htw hK hP hS hl.1 (w_M_fails hlo K v0_9 (2 : Int32) hΜ F_4 A_5 _ h) k_M_fails mm_705 ⟨Nat.le_of_ble_eq_true rfl, Nat.le_of_ble_eq_true rfl⟩ rfl rfl (gMd_0 hΜ) rfl rfl rfl (Nat.le_of_ble_eq_true rfl) d_M_small_105) hS (fun r_10 F_10 A_10 H locs hw hP hS => ?_)
          obtain ⟨rfl, hw⟩ := hw
          have h := hw
          refine lv_if_eq (tgt := 115) hx hb d_M_small_108 (by decide) (fun c_108 => ?_) (fun c_108 => ?_)
          · have h := h.1 c_108
            refine lv_aload_n hx hb d_M_small_115 rfl (lv_at hl 0 rfl) ?_
            refine gs_get (v := .ref (K 52)) hx hb htw i_M hown hK hP (gMd_0 hΜ) rfl 4 (by decide) (htw _ mm_646) rfl d_M_small_116 ?_
            refine lv_iload_n hx hb d_M_small_119 rfl (lv_at hl 1 rfl) ?_
            obtain ⟨hin, h⟩ := h
            refine gs_ild hx hb hK hP (gMd_52 hΜ) hin d_M_small_120 ?_
            refine lv_if_ge (tgt := 129) hx hb d_M_small_121 (by decide) (fun c_121 => ?_) (fun c_121 => ?_)
            · have h := h.1 c_121
              refine lv_lload_n hx hb d_M_small_129 rfl (lv_at hl 2 rfl) ?_
              rw [← hQe]
              exact gw_lret hx hb hr hlocks hP hK hS h d_M_small_130
            · have h := h.2 c_121
              refine lv_lload_n hx hb d_M_small_124 rfl (lv_at hl 2 rfl) ?_
              refine lv_lneg hx hb d_M_small_125 ?_
              refine lv_goto (tgt := 130) hx hb d_M_small_126 (by decide) ?_
              rw [← hQe]
              exact gw_lret hx hb hr hlocks hP hK hS h d_M_small_130
          · have h := h.2 c_108
            refine lv_lconst (v := (0 : Int64)) hx hb d_M_small_111 (by decide) ?_
            refine lv_goto (tgt := 130) hx hb d_M_small_112 (by decide) ?_
            rw [← hQe]
            exact gw_lret hx hb hr hlocks hP hK hS h d_M_small_130
        refine lv_if_ne (tgt := 103) hx hb d_M_small_96 (by decide) (fun c_96 => ?_) (fun c_96 => ?_)
        · have h := h.1 c_96
          refine lv_iconst (v := (0 : Int32)) hx hb d_M_small_103 (by decide) ?_
          exact join_104 (0 : Int32) _ _ _ h hP hS (lv_sub hl [1, 2, 3] rfl)
        · have h := h.2 c_96
          refine lv_iconst (v := (1 : Int32)) hx hb d_M_small_99 (by decide) ?_
          refine lv_goto (tgt := 104) hx hb d_M_small_100 (by decide) ?_
          exact join_104 (1 : Int32) _ _ _ h hP hS (lv_sub hl [1, 2, 3] rfl)
      obtain ⟨J_86, h, hj_86⟩ := h
      have join_86 : ∀  (H : Heap) (locs : List Loc) (ls : Array Slot), J_86 → va_P D gcls (gs_ws Λ F_4 A_5 L) H → va_S (gw_A Λ) s.heap H locs → lv_has ls 6 [(0, .ref (K 49)), (1, .int p1), (3, .long r_6)] → W p l e rm_M_small s m args below meth c H locs 0 0 Q (F0 m 86 ls []) := by
        intro  H locs ls hJ hP hS hl
        have h := hj_86  hJ
        refine lv_iconst (v := (1 : Int32)) hx hb d_M_small_86 (by decide) ?_
        refine lv_goto (tgt := 91) hx hb d_M_small_87 (by decide) ?_
        exact join_91 (1 : Int32) _ _ _ h hP hS hl
      refine lv_icmp_lt (tgt := 86) hx hb d_M_small_53 (by decide) (fun c_53 => ?_) (fun c_53 => ?_)
      · have h := h.1 c_53
        exact join_86 _ _ _ h hP hS (lv_sub hl [2, 3, 0] rfl)
      · have h := h.2 c_53
        refine lv_aload_n hx hb d_M_small_56 rfl (lv_at hl 2 rfl) ?_
        refine gs_get (v := .ref (K 54)) hx hb htw i_M hown hK hP (gMd_0 hΜ) rfl 6 (by decide) (htw _ mm_648) rfl d_M_small_57 ?_
        refine lv_iload_n hx hb d_M_small_60 rfl (lv_at hl 1 rfl) ?_
        refine gw_goi (gw_runS (As := [.ref (K 54), .int r_5]) (rest := []) hx hb hml hown htw hK hP hS hl.1 (w_M_bits hlo (K 54) (9000) r_5 (gMd_54 hΜ) F_4 A_5 _ h) k_M_bits mm_717 ⟨Nat.le_of_ble_eq_true rfl, Nat.le_of_ble_eq_true rfl⟩ rfl rfl rfl rfl (Nat.le_of_ble_eq_true rfl) d_M_small_61) hS (fun r_12 F_12 A_12 H locs hw hP hS => ?_)
        obtain ⟨rfl, hw⟩ := hw
        obtain ⟨rfl, hw⟩ := hw
        have h := hw
        refine lv_bipush (v := (64 : Int32)) hx hb d_M_small_64 (by decide) ?_
        obtain ⟨J_90, h, hj_90⟩ := h
        have join_90 : ∀  (H : Heap) (locs : List Loc) (ls : Array Slot), J_90 → va_P D gcls (gs_ws Λ F_4 A_5 L) H → va_S (gw_A Λ) s.heap H locs → lv_has ls 6 [(0, .ref (K 49)), (1, .int p1), (3, .long r_6)] → W p l e rm_M_small s m args below meth c H locs 0 0 Q (F0 m 90 ls []) := by
          intro  H locs ls hJ hP hS hl
          have h := hj_90  hJ
          refine lv_iconst (v := (0 : Int32)) hx hb d_M_small_90 (by decide) ?_
          exact join_91 (0 : Int32) _ _ _ h hP hS hl
        refine lv_icmp_ne (tgt := 90) hx hb d_M_small_66 (by decide) (fun c_66 => ?_) (fun c_66 => ?_)
        · have h := h.1 c_66
          exact join_90 _ _ _ h hP hS (lv_sub hl [2, 3, 0] rfl)
        · have h := h.2 c_66
          refine lv_aload_n hx hb d_M_small_69 rfl (lv_at hl 2 rfl) ?_
          refine gs_get (v := .ref (K 52)) hx hb htw i_M hown hK hP (gMd_0 hΜ) rfl 4 (by decide) (htw _ mm_646) rfl d_M_small_70 ?_
          refine lv_iload_n hx hb d_M_small_73 rfl (lv_at hl 3 rfl) ?_
          obtain ⟨hin, h⟩ := h
          refine gs_ild hx hb hK hP (gMd_52 hΜ) hin d_M_small_74 ?_
          refine lv_if_ge (tgt := 90) hx hb d_M_small_75 (by decide) (fun c_75 => ?_) (fun c_75 => ?_)
          · have h := h.1 c_75
            exact join_90 _ _ _ h hP hS (lv_sub hl [2, 3, 0] rfl)
          · have h := h.2 c_75
            refine lv_lload_n hx hb d_M_small_78 rfl (lv_at hl 0 rfl) ?_
            refine lv_ldc2 (v := (-9223372036854775808 : Int64)) hx hb hown (htw _ mm_815) d_M_small_79 ?_
            refine gl_ne (tgt := 90) hx hb d_M_small_82 d_M_small_83 (by decide) (fun c_83 => ?_) (fun c_83 => ?_)
            · have h := h.1 c_83
              exact join_90 _ _ _ h hP hS (lv_sub hl [2, 3, 0] rfl)
            · have h := h.2 c_83
              exact join_86 _ _ _ h hP hS (lv_sub hl [2, 3, 0] rfl)
    · have h := h.2 c_22
      refine lv_lconst (v := (0 : Int64)) hx hb d_M_small_25 (by decide) ?_
      rw [← hQe]
      exact gw_lret hx hb hr hlocks hP hK hS h d_M_small_26
  refine lv_if_ne (tgt := 17) hx hb d_M_small_10 (by decide) (fun c_10 => ?_) (fun c_10 => ?_)
  · have h := h.1 c_10
    refine lv_iconst (v := (0 : Int32)) hx hb d_M_small_17 (by decide) ?_
    exact join_18 (0 : Int32) _ _ _ h hP hS hl
  · have h := h.2 c_10
    refine lv_iconst (v := (1 : Int32)) hx hb d_M_small_13 (by decide) ?_
    refine lv_goto (tgt := 18) hx hb d_M_small_14 (by decide) ?_
    exact join_18 (1 : Int32) _ _ _ h hP hS hl
abbrev rm_M_low : Room := { frames := 2, cells := 0, slots := 0, locals := 42 }
set_option maxHeartbeats 4000000 in
set_option maxRecDepth 100000 in
theorem w_M_low (hlo : gs_D Λ) (K : Nat → Nat) (p1 : Int32) (hΜ : gMd cI Λ K) (F A : gm_M) (post : Int64 → gm_M → gm_M → Prop) (h : vc_M_low K p1 F A post) : Met l y_M_low (.code y_M_low b_M_low 4 (some .long) :: gw_WS) rm_M_low (va_Pc [.ref (K 49), .int p1] (gw_P D cI cB cJ cW Λ L F A)) (gw_Ql D cI cB cJ cW Λ L (fun r F2 A2 => post r F2 A2)) 0 0 (gw_A Λ) := by
  refine Met.ofW (cc := b_M_low) (maxL := 4) (ret := (some .long)) (by decide) rfl ?_
  intro p e s m args below meth c s₁ B hml hv
  obtain ⟨hargs, hP, hK⟩ := hv
  have hx := B.exec
  have hb := B.bytes
  have hr := B.returns
  have hlocks := B.notSynchronized
  have htw : ∀ w ∈ gw_WS, w.before args s = true := fun w h9 => atoms_spec (ws := .code y_M_low b_M_low 4 (some .long) :: gw_WS) B.pre w (List.mem_cons_of_mem _ h9)
  have hown : s.vm.findClass R_M = some m.cls := findClass_of_methodNamed B.named
  have hS : va_S (gw_A Λ) s.heap s.heap [] := va_S.rf
  refine W.eq (g2 := entryFrame m ([.ref (K 49), .int p1] : List Value).toArray 4) (by rw [hargs]) ?_
  have hl := lv_entry ([.ref (K 49), .int p1]) (n := 4) (Nat.le_of_ble_eq_true rfl)
  rw [lg_entry_eq]
  generalize (lg_sl ([.ref (K 49), .int p1]) ++ List.replicate (4 - (lg_sl ([.ref (K 49), .int p1])).length) Slot.unset).toArray = ls at hl ⊢
  have hl : lv_has ls 4 [(0, .ref (K 49)), (1, .int p1)] := hl
  generalize hQe : MQ below (gw_Ql D cI cB cJ cW Λ L (fun r F2 A2 => post r F2 A2)) args s 0 0 (gw_A Λ) = Q
  unfold vc_M_low at h
  refine lv_aload_n hx hb d_M_low_0 rfl (lv_at hl 0 rfl) ?_
  refine lv_iconst (v := (0 : Int32)) hx hb d_M_low_1 (by decide) ?_
  refine gs_put (ty := .int) hx hb htw i_M tf_M tf_M_ok n_M hown hK hlo hP hS (gMd_0 hΜ) rfl 0 (by decide) rfl (htw _ mm_642) rfl (by decide +kernel) rfl rfl d_M_low_2 (fun F_1 eF_1 H locs hP hS => ?_)
  have h := h F_1 eF_1
  refine lv_aload_n hx hb d_M_low_5 rfl (lv_at hl 0 rfl) ?_
  refine lv_iload_n hx hb d_M_low_6 rfl (lv_at hl 1 rfl) ?_
  refine gw_goi (gw_runS (As := [.int p1]) (rest := [.ref (K 49)]) hx hb hml hown htw hK hP hS hl.1 (w_M_isRegister hlo p1 F_1 A _ h) k_M_isRegister mm_699 ⟨Nat.le_of_ble_eq_true rfl, Nat.le_of_ble_eq_true rfl⟩ rfl rfl rfl rfl (Nat.le_of_ble_eq_true rfl) d_M_low_7) hS (fun r_2 F_2 A_2 H locs hw hP hS => ?_)
  obtain ⟨rfl, hw⟩ := hw
  obtain ⟨rfl, hw⟩ := hw
  have h := hw
  obtain ⟨J_18, h, hj_18⟩ := h
  have join_18 : ∀ (v0_3 : Int32) (H : Heap) (locs : List Loc) (ls : Array Slot), J_18 v0_3 → va_P D gcls (gs_ws Λ F_1 A L) H → va_S (gw_A Λ) s.heap H locs → lv_has ls 4 [(0, .ref (K 49)), (1, .int p1)] → W p l e rm_M_low s m args below meth c H locs 0 0 Q (F0 m 18 ls [.int v0_3, .ref (K 49)]) := by
    intro v0_3 H locs ls hJ hP hS hl
    have h := hj_18 v0_3 hJ
    refine lv_iconst (v := (1 : Int32)) hx hb d_M_low_18 (by decide) ?_
    refine gw_goi (gw_runV (As := [.int v0_3, .int (1 : Int32)]) (rest := []) hx hb hml hown htw hK hP hS hl.1 (w_M_fails hlo K v0_3 (1 : Int32) hΜ F_1 A _ h) k_M_fails mm_705 ⟨Nat.le_of_ble_eq_true rfl, Nat.le_of_ble_eq_true rfl⟩ rfl rfl (gMd_0 hΜ) rfl rfl rfl (Nat.le_of_ble_eq_true rfl) d_M_low_19) hS (fun r_4 F_4 A_4 H locs hw hP hS => ?_)
    obtain ⟨rfl, hw⟩ := hw
    have h := hw
    refine lv_if_eq (tgt := 27) hx hb d_M_low_22 (by decide) (fun c_22 => ?_) (fun c_22 => ?_)
    · have h := h.1 c_22
      refine lv_aload_n hx hb d_M_low_27 rfl (lv_at hl 0 rfl) ?_
      refine lv_aload_n hx hb d_M_low_28 rfl (lv_at hl 0 rfl) ?_
      refine lv_iload_n hx hb d_M_low_29 rfl (lv_at hl 1 rfl) ?_
      refine lv_aload_n hx hb d_M_low_30 rfl (lv_at hl 0 rfl) ?_
      refine gs_get (v := .ref (K 54)) hx hb htw i_M hown hK hP (gMd_0 hΜ) rfl 6 (by decide) (htw _ mm_648) rfl d_M_low_31 ?_
      refine gw_goi (gw_runV (As := [.int p1, .ref (K 54)]) (rest := [.ref (K 49)]) hx hb hml hown htw hK hP hS hl.1 (w_M_load hlo K p1 (K 54) (9000) hΜ (gMd_54 hΜ) F_4 A _ h) k_M_load mm_713 ⟨Nat.le_of_ble_eq_true rfl, Nat.le_of_ble_eq_true rfl⟩ rfl rfl (gMd_0 hΜ) rfl rfl rfl (Nat.le_of_ble_eq_true rfl) d_M_low_34) hS (fun r_5 F_5 A_5 H locs hw hP hS => ?_)
      obtain ⟨rfl, hw⟩ := hw
      have h := hw
      refine gw_gol (gw_runV (As := [.int r_5]) (rest := []) hx hb hml hown htw hK hP hS hl.1 (w_M_low64 hlo K r_5 hΜ F_4 A_5 _ h) k_M_low64 mm_811 ⟨Nat.le_of_ble_eq_true rfl, Nat.le_of_ble_eq_true rfl⟩ rfl rfl (gMd_0 hΜ) rfl rfl rfl (Nat.le_of_ble_eq_true rfl) d_M_low_37) hS (fun r_6 F_6 A_6 H locs hw hP hS => ?_)
      obtain ⟨rfl, hw⟩ := hw
      obtain ⟨rfl, hw⟩ := hw
      have h := hw
      refine lv_lstore_n (lv' := [(2, .long r_6), (0, .ref (K 49)), (1, .int p1)]) hx hb d_M_low_40 rfl hl (by decide) rfl (fun ls hl => ?_)
      refine lv_aload_n hx hb d_M_low_41 rfl (lv_at hl 1 rfl) ?_
      refine gs_get (v := .ref (K 52)) hx hb htw i_M hown hK hP (gMd_0 hΜ) rfl 4 (by decide) (htw _ mm_646) rfl d_M_low_42 ?_
      refine lv_iload_n hx hb d_M_low_45 rfl (lv_at hl 2 rfl) ?_
      obtain ⟨hin, h⟩ := h
      refine gs_ild hx hb hK hP (gMd_52 hΜ) hin d_M_low_46 ?_
      refine lv_if_ge (tgt := 55) hx hb d_M_low_47 (by decide) (fun c_47 => ?_) (fun c_47 => ?_)
      · have h := h.1 c_47
        refine lv_lload_n hx hb d_M_low_55 rfl (lv_at hl 0 rfl) ?_
        rw [← hQe]
        exact gw_lret hx hb hr hlocks hP hK hS h d_M_low_56
      · have h := h.2 c_47
        refine lv_lload_n hx hb d_M_low_50 rfl (lv_at hl 0 rfl) ?_
        refine lv_lneg hx hb d_M_low_51 ?_
        refine lv_goto (tgt := 56) hx hb d_M_low_52 (by decide) ?_
        rw [← hQe]
        exact gw_lret hx hb hr hlocks hP hK hS h d_M_low_56
    · have h := h.2 c_22
      refine lv_lconst (v := (0 : Int64)) hx hb d_M_low_25 (by decide) ?_
      rw [← hQe]
      exact gw_lret hx hb hr hlocks hP hK hS h d_M_low_26
  refine lv_if_ne (tgt := 17) hx hb d_M_low_10 (by decide) (fun c_10 => ?_) (fun c_10 => ?_)
  · have h := h.1 c_10
    refine lv_iconst (v := (0 : Int32)) hx hb d_M_low_17 (by decide) ?_
    exact join_18 (0 : Int32) _ _ _ h hP hS hl
  · have h := h.2 c_10
    refine lv_iconst (v := (1 : Int32)) hx hb d_M_low_13 (by decide) ?_
    refine lv_goto (tgt := 18) hx hb d_M_low_14 (by decide) ?_
    exact join_18 (1 : Int32) _ _ _ h hP hS hl
abbrev rm_M_folded : Room := { frames := 2, cells := 0, slots := 0, locals := 42 }
set_option maxHeartbeats 4000000 in
set_option maxRecDepth 100000 in
theorem w_M_folded (hlo : gs_D Λ) (K : Nat → Nat) (p1 : Int32) (hΜ : gMd cI Λ K) (F A : gm_M) (post : Int64 → gm_M → gm_M → Prop) (h : vc_M_folded K p1 F A post) : Met l y_M_folded (.code y_M_folded b_M_folded 9 (some .long) :: gw_WS) rm_M_folded (va_Pc [.ref (K 49), .int p1] (gw_P D cI cB cJ cW Λ L F A)) (gw_Ql D cI cB cJ cW Λ L (fun r F2 A2 => post r F2 A2)) 0 0 (gw_A Λ) := by
  refine Met.ofW (cc := b_M_folded) (maxL := 9) (ret := (some .long)) (by decide) rfl ?_
  intro p e s m args below meth c s₁ B hml hv
  obtain ⟨hargs, hP, hK⟩ := hv
  have hx := B.exec
  have hb := B.bytes
  have hr := B.returns
  have hlocks := B.notSynchronized
  have htw : ∀ w ∈ gw_WS, w.before args s = true := fun w h9 => atoms_spec (ws := .code y_M_folded b_M_folded 9 (some .long) :: gw_WS) B.pre w (List.mem_cons_of_mem _ h9)
  have hown : s.vm.findClass R_M = some m.cls := findClass_of_methodNamed B.named
  have hS : va_S (gw_A Λ) s.heap s.heap [] := va_S.rf
  refine W.eq (g2 := entryFrame m ([.ref (K 49), .int p1] : List Value).toArray 9) (by rw [hargs]) ?_
  have hl := lv_entry ([.ref (K 49), .int p1]) (n := 9) (Nat.le_of_ble_eq_true rfl)
  rw [lg_entry_eq]
  generalize (lg_sl ([.ref (K 49), .int p1]) ++ List.replicate (9 - (lg_sl ([.ref (K 49), .int p1])).length) Slot.unset).toArray = ls at hl ⊢
  have hl : lv_has ls 9 [(0, .ref (K 49)), (1, .int p1)] := hl
  generalize hQe : MQ below (gw_Ql D cI cB cJ cW Λ L (fun r F2 A2 => post r F2 A2)) args s 0 0 (gw_A Λ) = Q
  unfold vc_M_folded at h
  refine lv_aload_n hx hb d_M_folded_0 rfl (lv_at hl 0 rfl) ?_
  refine lv_iconst (v := (0 : Int32)) hx hb d_M_folded_1 (by decide) ?_
  refine gs_put (ty := .int) hx hb htw i_M tf_M tf_M_ok n_M hown hK hlo hP hS (gMd_0 hΜ) rfl 0 (by decide) rfl (htw _ mm_642) rfl (by decide +kernel) rfl rfl d_M_folded_2 (fun F_1 eF_1 H locs hP hS => ?_)
  have h := h F_1 eF_1
  refine lv_aload_n hx hb d_M_folded_5 rfl (lv_at hl 0 rfl) ?_
  refine lv_iload_n hx hb d_M_folded_6 rfl (lv_at hl 1 rfl) ?_
  refine gw_goi (gw_runS (As := [.int p1]) (rest := [.ref (K 49)]) hx hb hml hown htw hK hP hS hl.1 (w_M_isRegister hlo p1 F_1 A _ h) k_M_isRegister mm_699 ⟨Nat.le_of_ble_eq_true rfl, Nat.le_of_ble_eq_true rfl⟩ rfl rfl rfl rfl (Nat.le_of_ble_eq_true rfl) d_M_folded_7) hS (fun r_2 F_2 A_2 H locs hw hP hS => ?_)
  obtain ⟨rfl, hw⟩ := hw
  obtain ⟨rfl, hw⟩ := hw
  have h := hw
  obtain ⟨J_18, h, hj_18⟩ := h
  have join_18 : ∀ (v0_3 : Int32) (H : Heap) (locs : List Loc) (ls : Array Slot), J_18 v0_3 → va_P D gcls (gs_ws Λ F_1 A L) H → va_S (gw_A Λ) s.heap H locs → lv_has ls 9 [(0, .ref (K 49)), (1, .int p1)] → W p l e rm_M_folded s m args below meth c H locs 0 0 Q (F0 m 18 ls [.int v0_3, .ref (K 49)]) := by
    intro v0_3 H locs ls hJ hP hS hl
    have h := hj_18 v0_3 hJ
    refine lv_iconst (v := (1 : Int32)) hx hb d_M_folded_18 (by decide) ?_
    refine gw_goi (gw_runV (As := [.int v0_3, .int (1 : Int32)]) (rest := []) hx hb hml hown htw hK hP hS hl.1 (w_M_fails hlo K v0_3 (1 : Int32) hΜ F_1 A _ h) k_M_fails mm_705 ⟨Nat.le_of_ble_eq_true rfl, Nat.le_of_ble_eq_true rfl⟩ rfl rfl (gMd_0 hΜ) rfl rfl rfl (Nat.le_of_ble_eq_true rfl) d_M_folded_19) hS (fun r_4 F_4 A_4 H locs hw hP hS => ?_)
    obtain ⟨rfl, hw⟩ := hw
    have h := hw
    refine lv_if_eq (tgt := 27) hx hb d_M_folded_22 (by decide) (fun c_22 => ?_) (fun c_22 => ?_)
    · have h := h.1 c_22
      refine lv_aload_n hx hb d_M_folded_27 rfl (lv_at hl 0 rfl) ?_
      refine lv_iload_n hx hb d_M_folded_28 rfl (lv_at hl 1 rfl) ?_
      refine lv_aload_n hx hb d_M_folded_29 rfl (lv_at hl 0 rfl) ?_
      refine gs_get (v := .ref (K 54)) hx hb htw i_M hown hK hP (gMd_0 hΜ) rfl 6 (by decide) (htw _ mm_648) rfl d_M_folded_30 ?_
      refine gw_goi (gw_runV (As := [.int p1, .ref (K 54)]) (rest := []) hx hb hml hown htw hK hP hS hl.1 (w_M_load hlo K p1 (K 54) (9000) hΜ (gMd_54 hΜ) F_4 A _ h) k_M_load mm_713 ⟨Nat.le_of_ble_eq_true rfl, Nat.le_of_ble_eq_true rfl⟩ rfl rfl (gMd_0 hΜ) rfl rfl rfl (Nat.le_of_ble_eq_true rfl) d_M_folded_33) hS (fun r_5 F_5 A_5 H locs hw hP hS => ?_)
      obtain ⟨rfl, hw⟩ := hw
      have h := hw
      refine lv_istore_n (lv' := [(2, .int r_5), (0, .ref (K 49)), (1, .int p1)]) hx hb d_M_folded_36 rfl hl (by decide) rfl (fun ls hl => ?_)
      refine lv_lconst (v := (0 : Int64)) hx hb d_M_folded_37 (by decide) ?_
      refine lv_lstore_n (lv' := [(3, .long (0 : Int64)), (2, .int r_5), (0, .ref (K 49)), (1, .int p1)]) hx hb d_M_folded_38 rfl hl (by decide) rfl (fun ls hl => ?_)
      refine lv_ldc2 (v := (2305843009213693951 : Int64)) hx hb hown (htw _ mm_824) d_M_folded_39 ?_
      refine lv_lstore (lv' := [(5, .long (2305843009213693951 : Int64)), (3, .long (0 : Int64)), (2, .int r_5), (0, .ref (K 49)), (1, .int p1)]) hx hb d_M_folded_42 hl (by decide) rfl (fun ls hl => ?_)
      refine lv_iload_n hx hb d_M_folded_44 rfl (lv_at hl 2 rfl) ?_
      refine lv_iconst (v := (1 : Int32)) hx hb d_M_folded_45 (by decide) ?_
      refine lv_isub hx hb d_M_folded_46 ?_
      refine lv_topi (fun x7_6 ex7_6 => ?_)
      have h := h x7_6 ex7_6
      refine lv_istore (lv' := [(7, .int x7_6), (5, .long (2305843009213693951 : Int64)), (3, .long (0 : Int64)), (2, .int r_5), (0, .ref (K 49)), (1, .int p1)]) hx hb d_M_folded_47 hl (by decide) rfl (fun ls hl => ?_)
      obtain ⟨I_49, μ_49, h0_49, hs_49⟩ := h
      have loop_49 : ∀ (N : Nat) (x3_7 : Int64) (x7_7 : Int32) (H : Heap) (locs : List Loc) (ls : Array Slot), μ_49 x3_7 x7_7 < N → I_49 x3_7 x7_7 → va_P D gcls (gs_ws Λ F_4 A_5 L) H → va_S (gw_A Λ) s.heap H locs → lv_has ls 9 [(0, .ref (K 49)), (1, .int p1), (3, .long x3_7), (5, .long (2305843009213693951 : Int64)), (7, .int x7_7)] → W p l e rm_M_folded s m args below meth c H locs 0 0 Q (F0 m 49 ls []) := by
        intro N
        induction N with
        | zero => intro x3_7 x7_7 H locs ls hμ; exact absurd hμ (Nat.not_lt_zero _)
        | succ N ih_49 =>
          intro x3_7 x7_7 H locs ls hμ_49 hI hP hS hl
          have h := hs_49 x3_7 x7_7 hI
          refine lv_iload hx hb d_M_folded_49 (lv_at hl 4 rfl) ?_
          refine lv_if_lt (tgt := 108) hx hb d_M_folded_51 (by decide) (fun c_51 => ?_) (fun c_51 => ?_)
          · have h := h.1 c_51
            refine lv_aload_n hx hb d_M_folded_108 rfl (lv_at hl 0 rfl) ?_
            refine gs_get (v := .ref (K 52)) hx hb htw i_M hown hK hP (gMd_0 hΜ) rfl 4 (by decide) (htw _ mm_646) rfl d_M_folded_109 ?_
            refine lv_iload_n hx hb d_M_folded_112 rfl (lv_at hl 1 rfl) ?_
            obtain ⟨hin, h⟩ := h
            refine gs_ild hx hb hK hP (gMd_52 hΜ) hin d_M_folded_113 ?_
            refine lv_if_ge (tgt := 122) hx hb d_M_folded_114 (by decide) (fun c_114 => ?_) (fun c_114 => ?_)
            · have h := h.1 c_114
              refine lv_lload_n hx hb d_M_folded_122 rfl (lv_at hl 2 rfl) ?_
              rw [← hQe]
              exact gw_lret hx hb hr hlocks hP hK hS h d_M_folded_123
            · have h := h.2 c_114
              refine lv_lload_n hx hb d_M_folded_117 rfl (lv_at hl 2 rfl) ?_
              refine lv_lneg hx hb d_M_folded_118 ?_
              refine lv_goto (tgt := 123) hx hb d_M_folded_119 (by decide) ?_
              rw [← hQe]
              exact gw_lret hx hb hr hlocks hP hK hS h d_M_folded_123
          · have h := h.2 c_51
            refine lv_iconst (v := (0 : Int32)) hx hb d_M_folded_54 (by decide) ?_
            refine lv_istore (lv' := [(8, .int (0 : Int32)), (0, .ref (K 49)), (1, .int p1), (3, .long x3_7), (5, .long (2305843009213693951 : Int64)), (7, .int x7_7)]) hx hb d_M_folded_55 hl (by decide) rfl (fun ls hl => ?_)
            obtain ⟨I_57, μ_57, h0_57, hs_57⟩ := h
            have loop_57 : ∀ (N : Nat) (x3_8 : Int64) (x8_8 : Int32) (H : Heap) (locs : List Loc) (ls : Array Slot), μ_57 x3_8 x8_8 < N → I_57 x3_8 x8_8 → va_P D gcls (gs_ws Λ F_4 A_5 L) H → va_S (gw_A Λ) s.heap H locs → lv_has ls 9 [(0, .ref (K 49)), (1, .int p1), (3, .long x3_8), (5, .long (2305843009213693951 : Int64)), (7, .int x7_7), (8, .int x8_8)] → W p l e rm_M_folded s m args below meth c H locs 0 0 Q (F0 m 57 ls []) := by
              intro N
              induction N with
              | zero => intro x3_8 x8_8 H locs ls hμ; exact absurd hμ (Nat.not_lt_zero _)
              | succ N ih_57 =>
                intro x3_8 x8_8 H locs ls hμ_57 hI hP hS hl
                have h := hs_57 x3_8 x8_8 hI
                refine lv_iload hx hb d_M_folded_57 (lv_at hl 5 rfl) ?_
                refine lv_bipush (v := (16 : Int32)) hx hb d_M_folded_59 (by decide) ?_
                refine lv_icmp_ge (tgt := 88) hx hb d_M_folded_61 (by decide) (fun c_61 => ?_) (fun c_61 => ?_)
                · have h := h.1 c_61
                  refine lv_lload_n hx hb d_M_folded_88 rfl (lv_at hl 2 rfl) ?_
                  refine lv_aload_n hx hb d_M_folded_89 rfl (lv_at hl 0 rfl) ?_
                  refine gs_get (v := .ref (K 54)) hx hb htw i_M hown hK hP (gMd_0 hΜ) rfl 6 (by decide) (htw _ mm_648) rfl d_M_folded_90 ?_
                  refine lv_iload hx hb d_M_folded_93 (lv_at hl 4 rfl) ?_
                  obtain ⟨hin, h⟩ := h
                  refine gs_ild hx hb hK hP (gMd_54 hΜ) hin d_M_folded_95 ?_
                  refine lv_i2l (v := ((A_5 (K 54) x7_7.toNatClampNeg).toInt64)) hx hb d_M_folded_96 (by rfl) ?_
                  refine lv_ladd hx hb d_M_folded_97 ?_
                  refine lv_lload hx hb d_M_folded_98 (lv_at hl 3 rfl) ?_
                  refine lv_lrem hx hb d_M_folded_100 (by decide) ?_
                  refine lv_topl (fun x3_9 ex3_9 => ?_)
                  have h := h x3_9 ex3_9
                  refine lv_lstore_n (lv' := [(3, .long x3_9), (0, .ref (K 49)), (1, .int p1), (5, .long (2305843009213693951 : Int64)), (7, .int x7_7), (8, .int x8_8)]) hx hb d_M_folded_101 rfl hl (by decide) rfl (fun ls hl => ?_)
                  obtain ⟨x7_10, ex7_10⟩ : ∃ y : Int32, y = x7_7 + (-1 : Int32) := ⟨_, rfl⟩
                  have h := h x7_10 ex7_10
                  refine lv_iinc (v := x7_10) (lv' := [(7, .int x7_10), (3, .long x3_9), (0, .ref (K 49)), (1, .int p1), (5, .long (2305843009213693951 : Int64)), (8, .int x8_8)]) hx hb d_M_folded_102 hl (k := 4) rfl (by rw [ex7_10]; rfl) (by decide) rfl (fun ls hl => ?_)
                  refine lv_goto (tgt := 49) hx hb d_M_folded_105 (by decide) ?_
                  exact ih_49 x3_9 x7_10 _ _ _ (Nat.lt_of_lt_of_le h.2 (Nat.le_of_lt_succ hμ_49)) h.1 hP hS (lv_sub hl [2, 3, 1, 4, 0] rfl)
                · have h := h.2 c_61
                  refine lv_ldc2 (v := (2 : Int64)) hx hb hown (htw _ mm_825) d_M_folded_64 ?_
                  refine lv_lload_n hx hb d_M_folded_67 rfl (lv_at hl 2 rfl) ?_
                  refine lv_lmul hx hb d_M_folded_68 ?_
                  refine lv_topl (fun x3_11 ex3_11 => ?_)
                  have h := h x3_11 ex3_11
                  refine lv_lstore_n (lv' := [(3, .long x3_11), (0, .ref (K 49)), (1, .int p1), (5, .long (2305843009213693951 : Int64)), (7, .int x7_7), (8, .int x8_8)]) hx hb d_M_folded_69 rfl hl (by decide) rfl (fun ls hl => ?_)
                  refine lv_lload_n hx hb d_M_folded_70 rfl (lv_at hl 0 rfl) ?_
                  refine lv_lload hx hb d_M_folded_71 (lv_at hl 3 rfl) ?_
                  refine gl_lt (tgt := 82) hx hb d_M_folded_73 d_M_folded_74 (by decide) (fun c_74 => ?_) (fun c_74 => ?_)
                  · have h := h.1 c_74
                    obtain ⟨x8_12, ex8_12⟩ : ∃ y : Int32, y = x8_8 + (1 : Int32) := ⟨_, rfl⟩
                    have h := h x8_12 ex8_12
                    refine lv_iinc (v := x8_12) (lv' := [(8, .int x8_12), (3, .long x3_11), (0, .ref (K 49)), (1, .int p1), (5, .long (2305843009213693951 : Int64)), (7, .int x7_7)]) hx hb d_M_folded_82 hl (k := 5) rfl (by rw [ex8_12]; rfl) (by decide) rfl (fun ls hl => ?_)
                    refine lv_goto (tgt := 57) hx hb d_M_folded_85 (by decide) ?_
                    exact ih_57 x3_11 x8_12 _ _ _ (Nat.lt_of_lt_of_le h.2 (Nat.le_of_lt_succ hμ_57)) h.1 hP hS (lv_sub hl [2, 3, 1, 4, 5, 0] rfl)
                  · have h := h.2 c_74
                    refine lv_lload_n hx hb d_M_folded_77 rfl (lv_at hl 0 rfl) ?_
                    refine lv_lload hx hb d_M_folded_78 (lv_at hl 3 rfl) ?_
                    refine lv_lsub hx hb d_M_folded_80 ?_
                    refine lv_topl (fun x3_13 ex3_13 => ?_)
                    have h := h x3_13 ex3_13
                    refine lv_lstore_n (lv' := [(3, .long x3_13), (0, .ref (K 49)), (1, .int p1), (5, .long (2305843009213693951 : Int64)), (7, .int x7_7), (8, .int x8_8)]) hx hb d_M_folded_81 rfl hl (by decide) rfl (fun ls hl => ?_)
                    obtain ⟨x8_14, ex8_14⟩ : ∃ y : Int32, y = x8_8 + (1 : Int32) := ⟨_, rfl⟩
                    have h := h x8_14 ex8_14
                    refine lv_iinc (v := x8_14) (lv' := [(8, .int x8_14), (3, .long x3_13), (0, .ref (K 49)), (1, .int p1), (5, .long (2305843009213693951 : Int64)), (7, .int x7_7)]) hx hb d_M_folded_82 hl (k := 5) rfl (by rw [ex8_14]; rfl) (by decide) rfl (fun ls hl => ?_)
                    refine lv_goto (tgt := 57) hx hb d_M_folded_85 (by decide) ?_
                    exact ih_57 x3_13 x8_14 _ _ _ (Nat.lt_of_lt_of_le h.2 (Nat.le_of_lt_succ hμ_57)) h.1 hP hS (lv_sub hl [2, 3, 1, 4, 5, 0] rfl)
            exact loop_57 (μ_57 x3_7 (0 : Int32) + 1) x3_7 (0 : Int32) _ _ _ (Nat.lt_succ_self _) h0_57 hP hS (lv_sub hl [1, 2, 3, 4, 5, 0] rfl)
      exact loop_49 (μ_49 (0 : Int64) x7_6 + 1) (0 : Int64) x7_6 _ _ _ (Nat.lt_succ_self _) h0_49 hP hS (lv_sub hl [4, 5, 2, 1, 0] rfl)
    · have h := h.2 c_22
      refine lv_lconst (v := (0 : Int64)) hx hb d_M_folded_25 (by decide) ?_
      rw [← hQe]
      exact gw_lret hx hb hr hlocks hP hK hS h d_M_folded_26
  refine lv_if_ne (tgt := 17) hx hb d_M_folded_10 (by decide) (fun c_10 => ?_) (fun c_10 => ?_)
  · have h := h.1 c_10
    refine lv_iconst (v := (0 : Int32)) hx hb d_M_folded_17 (by decide) ?_
    exact join_18 (0 : Int32) _ _ _ h hP hS hl
  · have h := h.2 c_10
    refine lv_iconst (v := (1 : Int32)) hx hb d_M_folded_13 (by decide) ?_
    refine lv_goto (tgt := 18) hx hb d_M_folded_14 (by decide) ?_
    exact join_18 (1 : Int32) _ _ _ h hP hS hl
abbrev rm_M_size : Room := { frames := 2, cells := 0, slots := 0, locals := 45 }
set_option maxHeartbeats 4000000 in
set_option maxRecDepth 100000 in
theorem w_M_size (hlo : gs_D Λ) (K : Nat → Nat) (p1 : Int32) (hΜ : gMd cI Λ K) (F A : gm_M) (post : Int32 → gm_M → gm_M → Prop) (h : vc_M_size K p1 F A post) : Met l y_M_size (.code y_M_size b_M_size 2 (some .int) :: gw_WS) rm_M_size (va_Pc [.ref (K 49), .int p1] (gw_P D cI cB cJ cW Λ L F A)) (gw_Qi D cI cB cJ cW Λ L (fun r F2 A2 => post r F2 A2)) 0 0 (gw_A Λ) := by
  refine Met.ofW (cc := b_M_size) (maxL := 2) (ret := (some .int)) (by decide) rfl ?_
  intro p e s m args below meth c s₁ B hml hv
  obtain ⟨hargs, hP, hK⟩ := hv
  have hx := B.exec
  have hb := B.bytes
  have hr := B.returns
  have hlocks := B.notSynchronized
  have htw : ∀ w ∈ gw_WS, w.before args s = true := fun w h9 => atoms_spec (ws := .code y_M_size b_M_size 2 (some .int) :: gw_WS) B.pre w (List.mem_cons_of_mem _ h9)
  have hown : s.vm.findClass R_M = some m.cls := findClass_of_methodNamed B.named
  have hS : va_S (gw_A Λ) s.heap s.heap [] := va_S.rf
  refine W.eq (g2 := entryFrame m ([.ref (K 49), .int p1] : List Value).toArray 2) (by rw [hargs]) ?_
  have hl := lv_entry ([.ref (K 49), .int p1]) (n := 2) (Nat.le_of_ble_eq_true rfl)
  rw [lg_entry_eq]
  generalize (lg_sl ([.ref (K 49), .int p1]) ++ List.replicate (2 - (lg_sl ([.ref (K 49), .int p1])).length) Slot.unset).toArray = ls at hl ⊢
  have hl : lv_has ls 2 [(0, .ref (K 49)), (1, .int p1)] := hl
  generalize hQe : MQ below (gw_Qi D cI cB cJ cW Λ L (fun r F2 A2 => post r F2 A2)) args s 0 0 (gw_A Λ) = Q
  unfold vc_M_size at h
  refine lv_aload_n hx hb d_M_size_0 rfl (lv_at hl 0 rfl) ?_
  refine lv_iconst (v := (0 : Int32)) hx hb d_M_size_1 (by decide) ?_
  refine gs_put (ty := .int) hx hb htw i_M tf_M tf_M_ok n_M hown hK hlo hP hS (gMd_0 hΜ) rfl 0 (by decide) rfl (htw _ mm_642) rfl (by decide +kernel) rfl rfl d_M_size_2 (fun F_1 eF_1 H locs hP hS => ?_)
  have h := h F_1 eF_1
  refine lv_aload_n hx hb d_M_size_5 rfl (lv_at hl 0 rfl) ?_
  refine lv_iload_n hx hb d_M_size_6 rfl (lv_at hl 1 rfl) ?_
  refine gw_goi (gw_runS (As := [.int p1]) (rest := [.ref (K 49)]) hx hb hml hown htw hK hP hS hl.1 (w_M_isRegister hlo p1 F_1 A _ h) k_M_isRegister mm_699 ⟨Nat.le_of_ble_eq_true rfl, Nat.le_of_ble_eq_true rfl⟩ rfl rfl rfl rfl (Nat.le_of_ble_eq_true rfl) d_M_size_7) hS (fun r_2 F_2 A_2 H locs hw hP hS => ?_)
  obtain ⟨rfl, hw⟩ := hw
  obtain ⟨rfl, hw⟩ := hw
  have h := hw
  refine lv_if_ne (tgt := 17) hx hb d_M_size_10 (by decide) (fun c_10 => ?_) (fun c_10 => ?_)
  · have h := h.1 c_10
    refine lv_iconst (v := (0 : Int32)) hx hb d_M_size_17 (by decide) ?_
    refine lv_iconst (v := (1 : Int32)) hx hb d_M_size_18 (by decide) ?_
    refine gw_goi (gw_runV (As := [.int (0 : Int32), .int (1 : Int32)]) (rest := []) hx hb hml hown htw hK hP hS hl.1 (w_M_fails hlo K (0 : Int32) (1 : Int32) hΜ F_1 A _ h) k_M_fails mm_705 ⟨Nat.le_of_ble_eq_true rfl, Nat.le_of_ble_eq_true rfl⟩ rfl rfl (gMd_0 hΜ) rfl rfl rfl (Nat.le_of_ble_eq_true rfl) d_M_size_19) hS (fun r_3 F_3 A_3 H locs hw hP hS => ?_)
    obtain ⟨rfl, hw⟩ := hw
    have h := hw
    refine lv_if_eq (tgt := 29) hx hb d_M_size_22 (by decide) (fun c_22 => ?_) (fun c_22 => ?_)
    · have h := h.1 c_22
      refine lv_aload_n hx hb d_M_size_29 rfl (lv_at hl 0 rfl) ?_
      refine lv_iload_n hx hb d_M_size_30 rfl (lv_at hl 1 rfl) ?_
      refine gw_goi (gw_runV (As := [.int p1]) (rest := []) hx hb hml hown htw hK hP hS hl.1 (w_M_size0 hlo K p1 hΜ F_3 A _ h) k_M_size0 mm_709 ⟨Nat.le_of_ble_eq_true rfl, Nat.le_of_ble_eq_true rfl⟩ rfl rfl (gMd_0 hΜ) rfl rfl rfl (Nat.le_of_ble_eq_true rfl) d_M_size_31) hS (fun r_4 F_4 A_4 H locs hw hP hS => ?_)
      obtain ⟨rfl, hw⟩ := hw
      have h := hw
      rw [← hQe]
      exact gw_iret hx hb hr hlocks hP hK hS h d_M_size_34
    · have h := h.2 c_22
      refine lv_iconst (v := (0 : Int32)) hx hb d_M_size_25 (by decide) ?_
      refine lv_goto (tgt := 34) hx hb d_M_size_26 (by decide) ?_
      rw [← hQe]
      exact gw_iret hx hb hr hlocks hP hK hS h d_M_size_34
  · have h := h.2 c_10
    refine lv_iconst (v := (1 : Int32)) hx hb d_M_size_13 (by decide) ?_
    refine lv_goto (tgt := 18) hx hb d_M_size_14 (by decide) ?_
    refine lv_iconst (v := (1 : Int32)) hx hb d_M_size_18 (by decide) ?_
    refine gw_goi (gw_runV (As := [.int (1 : Int32), .int (1 : Int32)]) (rest := []) hx hb hml hown htw hK hP hS hl.1 (w_M_fails hlo K (1 : Int32) (1 : Int32) hΜ F_1 A _ h) k_M_fails mm_705 ⟨Nat.le_of_ble_eq_true rfl, Nat.le_of_ble_eq_true rfl⟩ rfl rfl (gMd_0 hΜ) rfl rfl rfl (Nat.le_of_ble_eq_true rfl) d_M_size_19) hS (fun r_5 F_5 A_5 H locs hw hP hS => ?_)
    obtain ⟨rfl, hw⟩ := hw
    have h := hw
    refine lv_if_eq (tgt := 29) hx hb d_M_size_22 (by decide) (fun c_22 => ?_) (fun c_22 => ?_)
    · have h := h.1 c_22
      refine lv_aload_n hx hb d_M_size_29 rfl (lv_at hl 0 rfl) ?_
      refine lv_iload_n hx hb d_M_size_30 rfl (lv_at hl 1 rfl) ?_
      refine gw_goi (gw_runV (As := [.int p1]) (rest := []) hx hb hml hown htw hK hP hS hl.1 (w_M_size0 hlo K p1 hΜ F_5 A _ h) k_M_size0 mm_709 ⟨Nat.le_of_ble_eq_true rfl, Nat.le_of_ble_eq_true rfl⟩ rfl rfl (gMd_0 hΜ) rfl rfl rfl (Nat.le_of_ble_eq_true rfl) d_M_size_31) hS (fun r_6 F_6 A_6 H locs hw hP hS => ?_)
      obtain ⟨rfl, hw⟩ := hw
      have h := hw
      rw [← hQe]
      exact gw_iret hx hb hr hlocks hP hK hS h d_M_size_34
    · have h := h.2 c_22
      refine lv_iconst (v := (0 : Int32)) hx hb d_M_size_25 (by decide) ?_
      refine lv_goto (tgt := 34) hx hb d_M_size_26 (by decide) ?_
      rw [← hQe]
      exact gw_iret hx hb hr hlocks hP hK hS h d_M_size_34
