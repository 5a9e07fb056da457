variable {l : Launch} {D : va_G} {cI cB cJ cW : ClassId} {Λ : gs_L} {L : Nat → Nat → Int64}
abbrev rm_W_addRow : Room := { frames := 0, cells := 0, slots := 0, locals := 0 }
set_option maxHeartbeats 4000000 in
set_option maxRecDepth 100000 in
theorem w_W_addRow (hlo : gs_D Λ) (a0 l0 n0 : Nat) (p1 : Int64) (a2 l2 n2 : Nat) (p3 : Int32) (h0 : gW cI Λ a0 l0 n0) (h2 : gW cI Λ a2 l2 n2) (F A : gm_M) (post : gm_M → Prop) (h : vc_W_addRow a0 l0 n0 p1 a2 l2 n2 p3 F A post) : Met l y_W_addRow (.code y_W_addRow b_W_addRow 10 none :: gw_WS) rm_W_addRow (va_Pc [.ref a0, .long p1, .ref a2, .int p3] (gw_P D cI cB cJ cW Λ L F A)) (gw_Qv D cI cB cJ cW Λ L (fun F2 A2 => F = F2 ∧ post A2)) 0 0 (gw_A Λ) := by
  refine Met.ofW (cc := b_W_addRow) (maxL := 10) (ret := none) (by decide) rfl ?_
  intro p e s m args below meth c s₁ B hml hv
  obtain ⟨hargs, hP, hK⟩ := hv
  have hx := B.exec
  have hb := B.bytes
  have hr := B.returns
  have hlocks := B.notSynchronized
  have htw : ∀ w ∈ gw_WS, w.before args s = true := fun w h9 => atoms_spec (ws := .code y_W_addRow b_W_addRow 10 none :: gw_WS) B.pre w (List.mem_cons_of_mem _ h9)
  have hown : s.vm.findClass R_W = some m.cls := findClass_of_methodNamed B.named
  have hS : va_S (gw_A Λ) s.heap s.heap [] := va_S.rf
  refine W.eq (g2 := entryFrame m ([.ref a0, .long p1, .ref a2, .int p3] : List Value).toArray 10) (by rw [hargs]) ?_
  have hl := lv_entry ([.ref a0, .long p1, .ref a2, .int p3]) (n := 10) (Nat.le_of_ble_eq_true rfl)
  rw [lg_entry_eq]
  generalize (lg_sl ([.ref a0, .long p1, .ref a2, .int p3]) ++ List.replicate (10 - (lg_sl ([.ref a0, .long p1, .ref a2, .int p3])).length) Slot.unset).toArray = ls at hl ⊢
  have hl : lv_has ls 10 [(0, .ref a0), (1, .long p1), (3, .ref a2), (4, .int p3)] := hl
  generalize hQe : MQ below (gw_Qv D cI cB cJ cW Λ L (fun F2 A2 => F = F2 ∧ post A2)) args s 0 0 (gw_A Λ) = Q
  unfold vc_W_addRow at h
  refine lv_lconst (v := (0 : Int64)) hx hb d_W_addRow_0 (by decide) ?_
  refine lv_lstore (lv' := [(5, .long (0 : Int64)), (0, .ref a0), (1, .long p1), (3, .ref a2), (4, .int p3)]) hx hb d_W_addRow_1 hl (by decide) rfl (fun ls hl => ?_)
  refine lv_iconst (v := (0 : Int32)) hx hb d_W_addRow_3 (by decide) ?_
  refine lv_istore (lv' := [(7, .int (0 : Int32)), (5, .long (0 : Int64)), (0, .ref a0), (1, .long p1), (3, .ref a2), (4, .int p3)]) hx hb d_W_addRow_4 hl (by decide) rfl (fun ls hl => ?_)
  obtain ⟨I_6, μ_6, h0_6, hs_6⟩ := h
  have loop_6 : ∀ (N : Nat) (x5_1 : Int64) (x7_1 : Int32) (A_1 : gm_M) (H : Heap) (locs : List Loc) (ls : Array Slot), μ_6 x5_1 x7_1 A_1 < N → I_6 x5_1 x7_1 A_1 → va_P D gcls (gs_ws Λ F A_1 L) H → va_S (gw_A Λ) s.heap H locs → lv_has ls 10 [(0, .ref a0), (1, .long p1), (3, .ref a2), (4, .int p3), (5, .long x5_1), (7, .int x7_1)] → W p l e rm_W_addRow s m args below meth c H locs 0 0 Q (F0 m 6 ls []) := by
    intro N
    induction N with
    | zero => intro x5_1 x7_1 A_1 H locs ls hμ; exact absurd hμ (Nat.not_lt_zero _)
    | succ N ih_6 =>
      intro x5_1 x7_1 A_1 H locs ls hμ_6 hI hP hS hl
      have h := hs_6 x5_1 x7_1 A_1 hI
      refine lv_iload hx hb d_W_addRow_6 (lv_at hl 5 rfl) ?_
      refine lv_aload_n hx hb d_W_addRow_8 rfl (lv_at hl 2 rfl) ?_
      refine gs_get (v := .int (F a2 1)) hx hb htw i_W hown hK hP h2.1 rfl 1 (by decide) (htw _ mm_35) rfl d_W_addRow_9 ?_
      refine lv_icmp_ge (tgt := 72) hx hb d_W_addRow_12 (by decide) (fun c_12 => ?_) (fun c_12 => ?_)
      · have h := h.1 c_12
        refine lv_aload_n hx hb d_W_addRow_72 rfl (lv_at hl 0 rfl) ?_
        refine gs_get (v := .ref l0) hx hb htw i_W hown hK hP h0.1 rfl 0 (by decide) (htw _ mm_33) rfl d_W_addRow_73 ?_
        refine lv_iload hx hb d_W_addRow_76 (lv_at hl 3 rfl) ?_
        refine lv_aload_n hx hb d_W_addRow_78 rfl (lv_at hl 2 rfl) ?_
        refine gs_get (v := .int (F a2 1)) hx hb htw i_W hown hK hP h2.1 rfl 1 (by decide) (htw _ mm_35) rfl d_W_addRow_79 ?_
        refine lv_iadd hx hb d_W_addRow_82 ?_
        refine lv_lload hx hb d_W_addRow_83 (lv_at hl 4 rfl) ?_
        refine lv_l2i (v := (x5_1.toInt32)) hx hb d_W_addRow_85 (by rfl) ?_
        obtain ⟨hin, h⟩ := h
        refine gs_ist hx hb hK hlo hP hS h0.2 hin d_W_addRow_86 (fun A_2 eA_2 H locs hP hS => ?_)
        have h := h A_2 eA_2
        rw [← hQe]
        exact gw_vret hx hb hr hlocks hP hK hS ⟨rfl, h⟩ d_W_addRow_87
      · have h := h.2 c_12
        refine lv_lload_n hx hb d_W_addRow_15 rfl (lv_at hl 1 rfl) ?_
        refine lv_aload_n hx hb d_W_addRow_16 rfl (lv_at hl 2 rfl) ?_
        refine gs_get (v := .ref l2) hx hb htw i_W hown hK hP h2.1 rfl 0 (by decide) (htw _ mm_33) rfl d_W_addRow_17 ?_
        refine lv_iload hx hb d_W_addRow_20 (lv_at hl 5 rfl) ?_
        obtain ⟨hin, h⟩ := h
        refine gs_ild hx hb hK hP h2.2 hin d_W_addRow_22 ?_
        refine lv_i2l (v := ((A_1 l2 x7_1.toNatClampNeg).toInt64)) hx hb d_W_addRow_23 (by rfl) ?_
        refine lv_lmul hx hb d_W_addRow_24 ?_
        refine lv_aload_n hx hb d_W_addRow_25 rfl (lv_at hl 0 rfl) ?_
        refine gs_get (v := .ref l0) hx hb htw i_W hown hK hP h0.1 rfl 0 (by decide) (htw _ mm_33) rfl d_W_addRow_26 ?_
        refine lv_iload hx hb d_W_addRow_29 (lv_at hl 3 rfl) ?_
        refine lv_iload hx hb d_W_addRow_31 (lv_at hl 5 rfl) ?_
        refine lv_iadd hx hb d_W_addRow_33 ?_
        obtain ⟨hin, h⟩ := h
        refine gs_ild hx hb hK hP h0.2 hin d_W_addRow_34 ?_
        refine lv_i2l (v := ((A_1 l0 (p3 + x7_1).toNatClampNeg).toInt64)) hx hb d_W_addRow_35 (by rfl) ?_
        refine lv_ladd hx hb d_W_addRow_36 ?_
        refine lv_lload hx hb d_W_addRow_37 (lv_at hl 4 rfl) ?_
        refine lv_ladd hx hb d_W_addRow_39 ?_
        refine lv_topl (fun x8_3 ex8_3 => ?_)
        have h := h x8_3 ex8_3
        refine lv_lstore (lv' := [(8, .long x8_3), (0, .ref a0), (1, .long p1), (3, .ref a2), (4, .int p3), (5, .long x5_1), (7, .int x7_1)]) hx hb d_W_addRow_40 hl (by decide) rfl (fun ls hl => ?_)
        refine lv_aload_n hx hb d_W_addRow_42 rfl (lv_at hl 1 rfl) ?_
        refine gs_get (v := .ref l0) hx hb htw i_W hown hK hP h0.1 rfl 0 (by decide) (htw _ mm_33) rfl d_W_addRow_43 ?_
        refine lv_iload hx hb d_W_addRow_46 (lv_at hl 4 rfl) ?_
        refine lv_iload hx hb d_W_addRow_48 (lv_at hl 6 rfl) ?_
        refine lv_iadd hx hb d_W_addRow_50 ?_
        refine lv_lload hx hb d_W_addRow_51 (lv_at hl 0 rfl) ?_
        refine lv_ldc2 (v := (2147483647 : Int64)) hx hb hown (htw _ mm_200) d_W_addRow_53 ?_
        refine lv_land hx hb d_W_addRow_56 ?_
        refine lv_l2i (v := ((x8_3 &&& (2147483647 : Int64)).toInt32)) hx hb d_W_addRow_57 (by rfl) ?_
        obtain ⟨hin, h⟩ := h
        refine gs_ist hx hb hK hlo hP hS h0.2 hin d_W_addRow_58 (fun A_4 eA_4 H locs hP hS => ?_)
        have h := h A_4 eA_4
        refine lv_lload hx hb d_W_addRow_59 (lv_at hl 0 rfl) ?_
        refine lv_bipush (v := (31 : Int32)) hx hb d_W_addRow_61 (by decide) ?_
        refine lv_lushr (v := (j_lushr x8_3 (31 : Int32))) hx hb d_W_addRow_63 rfl ?_
        refine lv_topl (fun x5_5 ex5_5 => ?_)
        have h := h x5_5 ex5_5
        refine lv_lstore (lv' := [(5, .long x5_5), (8, .long x8_3), (0, .ref a0), (1, .long p1), (3, .ref a2), (4, .int p3), (7, .int x7_1)]) hx hb d_W_addRow_64 hl (by decide) rfl (fun ls hl => ?_)
        obtain ⟨x7_6, ex7_6⟩ : ∃ y : Int32, y = x7_1 + (1 : Int32) := ⟨_, rfl⟩
        have h := h x7_6 ex7_6
        refine lv_iinc (v := x7_6) (lv' := [(7, .int x7_6), (5, .long x5_5), (8, .long x8_3), (0, .ref a0), (1, .long p1), (3, .ref a2), (4, .int p3)]) hx hb d_W_addRow_66 hl (k := 6) rfl (by rw [ex7_6]; rfl) (by decide) rfl (fun ls hl => ?_)
        refine lv_goto (tgt := 6) hx hb d_W_addRow_69 (by decide) ?_
        exact ih_6 x5_5 x7_6 A_4 _ _ _ (Nat.lt_of_lt_of_le h.2 (Nat.le_of_lt_succ hμ_6)) h.1 hP hS (lv_sub hl [3, 4, 5, 6, 1, 0] rfl)
  exact loop_6 (μ_6 (0 : Int64) (0 : Int32) A + 1) (0 : Int64) (0 : Int32) A _ _ _ (Nat.lt_succ_self _) h0_6 hP hS (lv_sub hl [2, 3, 4, 5, 1, 0] rfl)
abbrev rm_W_takeProduct : Room := { frames := 2, cells := 0, slots := 0, locals := 42 }
set_option maxHeartbeats 4000000 in
set_option maxRecDepth 100000 in
theorem w_W_takeProduct (hlo : gs_D Λ) (a0 l0 n0 : Nat) (a1 l1 n1 : Nat) (a2 l2 n2 : Nat) (h0 : gW cI Λ a0 l0 n0) (h1 : gW cI Λ a1 l1 n1) (h2 : gW cI Λ a2 l2 n2) (F A : gm_M) (post : gm_M → gm_M → Prop) (h : vc_W_takeProduct a0 l0 n0 a1 l1 n1 a2 l2 n2 F A post) : Met l y_W_takeProduct (.code y_W_takeProduct b_W_takeProduct 5 none :: gw_WS) rm_W_takeProduct (va_Pc [.ref a0, .ref a1, .ref a2] (gw_P D cI cB cJ cW Λ L F A)) (gw_Qv D cI cB cJ cW Λ L (fun F2 A2 => post F2 A2)) 0 0 (gw_A Λ) := by
  refine Met.ofW (cc := b_W_takeProduct) (maxL := 5) (ret := none) (by decide) rfl ?_
  intro p e s m args below meth c s₁ B hml hv
  obtain ⟨hargs, hP, hK⟩ := hv
  have hx := B.exec
  have hb := B.bytes
  have hr := B.returns
  have hlocks := B.notSynchronized
  have htw : ∀ w ∈ gw_WS, w.before args s = true := fun w h9 => atoms_spec (ws := .code y_W_takeProduct b_W_takeProduct 5 none :: gw_WS) B.pre w (List.mem_cons_of_mem _ h9)
  have hown : s.vm.findClass R_W = some m.cls := findClass_of_methodNamed B.named
  have hS : va_S (gw_A Λ) s.heap s.heap [] := va_S.rf
  refine W.eq (g2 := entryFrame m ([.ref a0, .ref a1, .ref a2] : List Value).toArray 5) (by rw [hargs]) ?_
  have hl := lv_entry ([.ref a0, .ref a1, .ref a2]) (n := 5) (Nat.le_of_ble_eq_true rfl)
  rw [lg_entry_eq]
  generalize (lg_sl ([.ref a0, .ref a1, .ref a2]) ++ List.replicate (5 - (lg_sl ([.ref a0, .ref a1, .ref a2])).length) Slot.unset).toArray = ls at hl ⊢
  have hl : lv_has ls 5 [(0, .ref a0), (1, .ref a1), (2, .ref a2)] := hl
  generalize hQe : MQ below (gw_Qv D cI cB cJ cW Λ L (fun F2 A2 => post F2 A2)) args s 0 0 (gw_A Λ) = Q
  unfold vc_W_takeProduct at h
  refine lv_aload_n hx hb d_W_takeProduct_0 rfl (lv_at hl 1 rfl) ?_
  refine gs_get (v := .int (F a1 1)) hx hb htw i_W hown hK hP h1.1 rfl 1 (by decide) (htw _ mm_35) rfl d_W_takeProduct_1 ?_
  refine lv_aload_n hx hb d_W_takeProduct_4 rfl (lv_at hl 2 rfl) ?_
  refine gs_get (v := .int (F a2 1)) hx hb htw i_W hown hK hP h2.1 rfl 1 (by decide) (htw _ mm_35) rfl d_W_takeProduct_5 ?_
  refine lv_iadd hx hb d_W_takeProduct_8 ?_
  refine lv_topi (fun x3_1 ex3_1 => ?_)
  have h := h x3_1 ex3_1
  refine lv_istore_n (lv' := [(3, .int x3_1), (0, .ref a0), (1, .ref a1), (2, .ref a2)]) hx hb d_W_takeProduct_9 rfl hl (by decide) rfl (fun ls hl => ?_)
  refine lv_iconst (v := (0 : Int32)) hx hb d_W_takeProduct_10 (by decide) ?_
  refine lv_istore (lv' := [(4, .int (0 : Int32)), (3, .int x3_1), (0, .ref a0), (1, .ref a1), (2, .ref a2)]) hx hb d_W_takeProduct_11 hl (by decide) rfl (fun ls hl => ?_)
  obtain ⟨I_13, μ_13, h0_13, hs_13⟩ := h
  have loop_13 : ∀ (N : Nat) (x4_2 : Int32) (A_2 : gm_M) (H : Heap) (locs : List Loc) (ls : Array Slot), μ_13 x4_2 A_2 < N → I_13 x4_2 A_2 → va_P D gcls (gs_ws Λ F A_2 L) H → va_S (gw_A Λ) s.heap H locs → lv_has ls 5 [(0, .ref a0), (1, .ref a1), (2, .ref a2), (3, .int x3_1), (4, .int x4_2)] → W p l e rm_W_takeProduct s m args below meth c H locs 0 0 Q (F0 m 13 ls []) := by
    intro N
    induction N with
    | zero => intro x4_2 A_2 H locs ls hμ; exact absurd hμ (Nat.not_lt_zero _)
    | succ N ih_13 =>
      intro x4_2 A_2 H locs ls hμ_13 hI hP hS hl
      have h := hs_13 x4_2 A_2 hI
      refine lv_iload hx hb d_W_takeProduct_13 (lv_at hl 4 rfl) ?_
      refine lv_iload_n hx hb d_W_takeProduct_15 rfl (lv_at hl 3 rfl) ?_
      refine lv_icmp_ge (tgt := 33) hx hb d_W_takeProduct_16 (by decide) (fun c_16 => ?_) (fun c_16 => ?_)
      · have h := h.1 c_16
        refine lv_iconst (v := (0 : Int32)) hx hb d_W_takeProduct_33 (by decide) ?_
        refine lv_istore (lv' := [(4, .int (0 : Int32)), (0, .ref a0), (1, .ref a1), (2, .ref a2), (3, .int x3_1)]) hx hb d_W_takeProduct_34 hl (by decide) rfl (fun ls hl => ?_)
        obtain ⟨I_36, μ_36, h0_36, hs_36⟩ := h
        have loop_36 : ∀ (N : Nat) (x4_3 : Int32) (A_3 : gm_M) (H : Heap) (locs : List Loc) (ls : Array Slot), μ_36 x4_3 A_3 < N → I_36 x4_3 A_3 → va_P D gcls (gs_ws Λ F A_3 L) H → va_S (gw_A Λ) s.heap H locs → lv_has ls 5 [(0, .ref a0), (1, .ref a1), (2, .ref a2), (3, .int x3_1), (4, .int x4_3)] → W p l e rm_W_takeProduct s m args below meth c H locs 0 0 Q (F0 m 36 ls []) := by
          intro N
          induction N with
          | zero => intro x4_3 A_3 H locs ls hμ; exact absurd hμ (Nat.not_lt_zero _)
          | succ N ih_36 =>
            intro x4_3 A_3 H locs ls hμ_36 hI hP hS hl
            have h := hs_36 x4_3 A_3 hI
            refine lv_iload hx hb d_W_takeProduct_36 (lv_at hl 4 rfl) ?_
            refine lv_aload_n hx hb d_W_takeProduct_38 rfl (lv_at hl 1 rfl) ?_
            refine gs_get (v := .int (F a1 1)) hx hb htw i_W hown hK hP h1.1 rfl 1 (by decide) (htw _ mm_35) rfl d_W_takeProduct_39 ?_
            refine lv_icmp_ge (tgt := 66) hx hb d_W_takeProduct_42 (by decide) (fun c_42 => ?_) (fun c_42 => ?_)
            · have h := h.1 c_42
              refine lv_aload_n hx hb d_W_takeProduct_66 rfl (lv_at hl 0 rfl) ?_
              refine lv_iload_n hx hb d_W_takeProduct_67 rfl (lv_at hl 3 rfl) ?_
              refine gw_gov (gw_runV (As := [.int x3_1]) (rest := []) hx hb hml hown htw hK hP hS hl.1 (w_W_trim hlo a0 l0 n0 x3_1 ⟨h0.1, h0.2⟩ F A_3 _ h) k_W_trim mm_201 ⟨Nat.le_of_ble_eq_true rfl, Nat.le_of_ble_eq_true rfl⟩ rfl rfl h0.1 rfl rfl rfl (Nat.le_of_ble_eq_true rfl) d_W_takeProduct_68) hS (fun F_4 A_4 H locs hw hP hS => ?_)
              obtain ⟨rfl, hw⟩ := hw
              have h := hw
              refine lv_aload_n hx hb d_W_takeProduct_71 rfl (lv_at hl 0 rfl) ?_
              refine lv_aload_n hx hb d_W_takeProduct_72 rfl (lv_at hl 1 rfl) ?_
              refine gs_get (v := .int (F_4 a1 2)) hx hb htw i_W hown hK hP h1.1 rfl 2 (by decide) (htw _ mm_39) rfl d_W_takeProduct_73 ?_
              refine lv_aload_n hx hb d_W_takeProduct_76 rfl (lv_at hl 2 rfl) ?_
              refine gs_get (v := .int (F_4 a2 2)) hx hb htw i_W hown hK hP h2.1 rfl 2 (by decide) (htw _ mm_39) rfl d_W_takeProduct_77 ?_
              refine lv_icmp_eq (tgt := 87) hx hb d_W_takeProduct_80 (by decide) (fun c_80 => ?_) (fun c_80 => ?_)
              · have h := h.1 c_80
                refine lv_iconst (v := (0 : Int32)) hx hb d_W_takeProduct_87 (by decide) ?_
                refine gw_gov (gw_runV (As := [.int (0 : Int32)]) (rest := []) hx hb hml hown htw hK hP hS hl.1 (w_W_setBelow hlo a0 l0 n0 (0 : Int32) ⟨h0.1, h0.2⟩ F_4 A_3 _ h) k_W_setBelow mm_205 ⟨Nat.le_of_ble_eq_true rfl, Nat.le_of_ble_eq_true rfl⟩ rfl rfl h0.1 rfl rfl rfl (Nat.le_of_ble_eq_true rfl) d_W_takeProduct_88) hS (fun F_5 A_5 H locs hw hP hS => ?_)
                obtain ⟨rfl, hw⟩ := hw
                have h := hw
                rw [← hQe]
                exact gw_vret hx hb hr hlocks hP hK hS h d_W_takeProduct_91
              · have h := h.2 c_80
                refine lv_iconst (v := (1 : Int32)) hx hb d_W_takeProduct_83 (by decide) ?_
                refine lv_goto (tgt := 88) hx hb d_W_takeProduct_84 (by decide) ?_
                refine gw_gov (gw_runV (As := [.int (1 : Int32)]) (rest := []) hx hb hml hown htw hK hP hS hl.1 (w_W_setBelow hlo a0 l0 n0 (1 : Int32) ⟨h0.1, h0.2⟩ F_4 A_3 _ h) k_W_setBelow mm_205 ⟨Nat.le_of_ble_eq_true rfl, Nat.le_of_ble_eq_true rfl⟩ rfl rfl h0.1 rfl rfl rfl (Nat.le_of_ble_eq_true rfl) d_W_takeProduct_88) hS (fun F_6 A_6 H locs hw hP hS => ?_)
                obtain ⟨rfl, hw⟩ := hw
                have h := hw
                rw [← hQe]
                exact gw_vret hx hb hr hlocks hP hK hS h d_W_takeProduct_91
            · have h := h.2 c_42
              refine lv_aload_n hx hb d_W_takeProduct_45 rfl (lv_at hl 0 rfl) ?_
              refine lv_aload_n hx hb d_W_takeProduct_46 rfl (lv_at hl 1 rfl) ?_
              refine gs_get (v := .ref l1) hx hb htw i_W hown hK hP h1.1 rfl 0 (by decide) (htw _ mm_33) rfl d_W_takeProduct_47 ?_
              refine lv_iload hx hb d_W_takeProduct_50 (lv_at hl 4 rfl) ?_
              obtain ⟨hin, h⟩ := h
              refine gs_ild hx hb hK hP h1.2 hin d_W_takeProduct_52 ?_
              refine lv_i2l (v := ((A_3 l1 x4_3.toNatClampNeg).toInt64)) hx hb d_W_takeProduct_53 (by rfl) ?_
              refine lv_aload_n hx hb d_W_takeProduct_54 rfl (lv_at hl 2 rfl) ?_
              refine lv_iload hx hb d_W_takeProduct_55 (lv_at hl 4 rfl) ?_
              refine gw_gov (gw_runV (As := [.long ((A_3 l1 x4_3.toNatClampNeg).toInt64), .ref a2, .int x4_3]) (rest := []) hx hb hml hown htw hK hP hS hl.1 (w_W_addRow hlo a0 l0 n0 ((A_3 l1 x4_3.toNatClampNeg).toInt64) a2 l2 n2 x4_3 ⟨h0.1, h0.2⟩ ⟨h2.1, h2.2⟩ F A_3 _ h) k_W_addRow mm_433 ⟨Nat.le_of_ble_eq_true rfl, Nat.le_of_ble_eq_true rfl⟩ rfl rfl h0.1 rfl rfl rfl (Nat.le_of_ble_eq_true rfl) d_W_takeProduct_57) hS (fun F_7 A_7 H locs hw hP hS => ?_)
              obtain ⟨rfl, hw⟩ := hw
              have h := hw
              obtain ⟨x4_8, ex4_8⟩ : ∃ y : Int32, y = x4_3 + (1 : Int32) := ⟨_, rfl⟩
              have h := h x4_8 ex4_8
              refine lv_iinc (v := x4_8) (lv' := [(4, .int x4_8), (0, .ref a0), (1, .ref a1), (2, .ref a2), (3, .int x3_1)]) hx hb d_W_takeProduct_60 hl (k := 4) rfl (by rw [ex4_8]; rfl) (by decide) rfl (fun ls hl => ?_)
              refine lv_goto (tgt := 36) hx hb d_W_takeProduct_63 (by decide) ?_
              exact ih_36 x4_8 A_7 _ _ _ (Nat.lt_of_lt_of_le h.2 (Nat.le_of_lt_succ hμ_36)) h.1 hP hS (lv_sub hl [1, 2, 3, 4, 0] rfl)
        exact loop_36 (μ_36 (0 : Int32) A_2 + 1) (0 : Int32) A_2 _ _ _ (Nat.lt_succ_self _) h0_36 hP hS (lv_sub hl [1, 2, 3, 4, 0] rfl)
      · have h := h.2 c_16
        refine lv_aload_n hx hb d_W_takeProduct_19 rfl (lv_at hl 0 rfl) ?_
        refine gs_get (v := .ref l0) hx hb htw i_W hown hK hP h0.1 rfl 0 (by decide) (htw _ mm_33) rfl d_W_takeProduct_20 ?_
        refine lv_iload hx hb d_W_takeProduct_23 (lv_at hl 4 rfl) ?_
        refine lv_iconst (v := (0 : Int32)) hx hb d_W_takeProduct_25 (by decide) ?_
        obtain ⟨hin, h⟩ := h
        refine gs_ist hx hb hK hlo hP hS h0.2 hin d_W_takeProduct_26 (fun A_9 eA_9 H locs hP hS => ?_)
        have h := h A_9 eA_9
        obtain ⟨x4_10, ex4_10⟩ : ∃ y : Int32, y = x4_2 + (1 : Int32) := ⟨_, rfl⟩
        have h := h x4_10 ex4_10
        refine lv_iinc (v := x4_10) (lv' := [(4, .int x4_10), (0, .ref a0), (1, .ref a1), (2, .ref a2), (3, .int x3_1)]) hx hb d_W_takeProduct_27 hl (k := 4) rfl (by rw [ex4_10]; rfl) (by decide) rfl (fun ls hl => ?_)
        refine lv_goto (tgt := 13) hx hb d_W_takeProduct_30 (by decide) ?_
        exact ih_13 x4_10 A_9 _ _ _ (Nat.lt_of_lt_of_le h.2 (Nat.le_of_lt_succ hμ_13)) h.1 hP hS (lv_sub hl [1, 2, 3, 4, 0] rfl)
  exact loop_13 (μ_13 (0 : Int32) A + 1) (0 : Int32) A _ _ _ (Nat.lt_succ_self _) h0_13 hP hS (lv_sub hl [2, 3, 4, 1, 0] rfl)
abbrev rm_W_raiseInto : Room := { frames := 0, cells := 0, slots := 0, locals := 0 }
set_option maxHeartbeats 4000000 in
set_option maxRecDepth 100000 in
theorem w_W_raiseInto (hlo : gs_D Λ) (a0 l0 n0 : Nat) (a1 n1 : Nat) (p2 : Int32) (p3 : Int32) (h0 : gW cI Λ a0 l0 n0) (h1 : (a1, gI cI n1) ∈ Λ) (F A : gm_M) (post : gm_M → Prop) (h : vc_W_raiseInto a0 l0 n0 a1 n1 p2 p3 F A post) : Met l y_W_raiseInto (.code y_W_raiseInto b_W_raiseInto 9 none :: gw_WS) rm_W_raiseInto (va_Pc [.ref a0, .ref a1, .int p2, .int p3] (gw_P D cI cB cJ cW Λ L F A)) (gw_Qv D cI cB cJ cW Λ L (fun F2 A2 => F = F2 ∧ post A2)) 0 0 (gw_A Λ) := by
  refine Met.ofW (cc := b_W_raiseInto) (maxL := 9) (ret := none) (by decide) rfl ?_
  intro p e s m args below meth c s₁ B hml hv
  obtain ⟨hargs, hP, hK⟩ := hv
  have hx := B.exec
  have hb := B.bytes
  have hr := B.returns
  have hlocks := B.notSynchronized
  have htw : ∀ w ∈ gw_WS, w.before args s = true := fun w h9 => atoms_spec (ws := .code y_W_raiseInto b_W_raiseInto 9 none :: gw_WS) B.pre w (List.mem_cons_of_mem _ h9)
  have hown : s.vm.findClass R_W = some m.cls := findClass_of_methodNamed B.named
  have hS : va_S (gw_A Λ) s.heap s.heap [] := va_S.rf
  refine W.eq (g2 := entryFrame m ([.ref a0, .ref a1, .int p2, .int p3] : List Value).toArray 9) (by rw [hargs]) ?_
  have hl := lv_entry ([.ref a0, .ref a1, .int p2, .int p3]) (n := 9) (Nat.le_of_ble_eq_true rfl)
  rw [lg_entry_eq]
  generalize (lg_sl ([.ref a0, .ref a1, .int p2, .int p3]) ++ List.replicate (9 - (lg_sl ([.ref a0, .ref a1, .int p2, .int p3])).length) Slot.unset).toArray = ls at hl ⊢
  have hl : lv_has ls 9 [(0, .ref a0), (1, .ref a1), (2, .int p2), (3, .int p3)] := hl
  generalize hQe : MQ below (gw_Qv D cI cB cJ cW Λ L (fun F2 A2 => F = F2 ∧ post A2)) args s 0 0 (gw_A Λ) = Q
  unfold vc_W_raiseInto at h
  refine lv_lconst (v := (0 : Int64)) hx hb d_W_raiseInto_0 (by decide) ?_
  refine lv_lstore (lv' := [(4, .long (0 : Int64)), (0, .ref a0), (1, .ref a1), (2, .int p2), (3, .int p3)]) hx hb d_W_raiseInto_1 hl (by decide) rfl (fun ls hl => ?_)
  refine lv_iconst (v := (0 : Int32)) hx hb d_W_raiseInto_3 (by decide) ?_
  refine lv_istore (lv' := [(6, .int (0 : Int32)), (4, .long (0 : Int64)), (0, .ref a0), (1, .ref a1), (2, .int p2), (3, .int p3)]) hx hb d_W_raiseInto_4 hl (by decide) rfl (fun ls hl => ?_)
  obtain ⟨I_6, μ_6, h0_6, hs_6⟩ := h
  have loop_6 : ∀ (N : Nat) (x4_1 : Int64) (x6_1 : Int32) (A_1 : gm_M) (H : Heap) (locs : List Loc) (ls : Array Slot), μ_6 x4_1 x6_1 A_1 < N → I_6 x4_1 x6_1 A_1 → va_P D gcls (gs_ws Λ F A_1 L) H → va_S (gw_A Λ) s.heap H locs → lv_has ls 9 [(0, .ref a0), (1, .ref a1), (2, .int p2), (3, .int p3), (4, .long x4_1), (6, .int x6_1)] → W p l e rm_W_raiseInto s m args below meth c H locs 0 0 Q (F0 m 6 ls []) := by
    intro N
    induction N with
    | zero => intro x4_1 x6_1 A_1 H locs ls hμ; exact absurd hμ (Nat.not_lt_zero _)
    | succ N ih_6 =>
      intro x4_1 x6_1 A_1 H locs ls hμ_6 hI hP hS hl
      have h := hs_6 x4_1 x6_1 A_1 hI
      refine lv_iload hx hb d_W_raiseInto_6 (lv_at hl 5 rfl) ?_
      refine lv_aload_n hx hb d_W_raiseInto_8 rfl (lv_at hl 0 rfl) ?_
      refine gs_get (v := .int (F a0 1)) hx hb htw i_W hown hK hP h0.1 rfl 1 (by decide) (htw _ mm_35) rfl d_W_raiseInto_9 ?_
      refine lv_icmp_ge (tgt := 56) hx hb d_W_raiseInto_12 (by decide) (fun c_12 => ?_) (fun c_12 => ?_)
      · have h := h.1 c_12
        refine lv_aload_n hx hb d_W_raiseInto_56 rfl (lv_at hl 1 rfl) ?_
        refine lv_iload_n hx hb d_W_raiseInto_57 rfl (lv_at hl 2 rfl) ?_
        refine lv_aload_n hx hb d_W_raiseInto_58 rfl (lv_at hl 0 rfl) ?_
        refine gs_get (v := .int (F a0 1)) hx hb htw i_W hown hK hP h0.1 rfl 1 (by decide) (htw _ mm_35) rfl d_W_raiseInto_59 ?_
        refine lv_iadd hx hb d_W_raiseInto_62 ?_
        refine lv_lload hx hb d_W_raiseInto_63 (lv_at hl 4 rfl) ?_
        refine lv_l2i (v := (x4_1.toInt32)) hx hb d_W_raiseInto_65 (by rfl) ?_
        obtain ⟨hin, h⟩ := h
        refine gs_ist hx hb hK hlo hP hS h1 hin d_W_raiseInto_66 (fun A_2 eA_2 H locs hP hS => ?_)
        have h := h A_2 eA_2
        rw [← hQe]
        exact gw_vret hx hb hr hlocks hP hK hS ⟨rfl, h⟩ d_W_raiseInto_67
      · have h := h.2 c_12
        refine lv_aload_n hx hb d_W_raiseInto_15 rfl (lv_at hl 0 rfl) ?_
        refine gs_get (v := .ref l0) hx hb htw i_W hown hK hP h0.1 rfl 0 (by decide) (htw _ mm_33) rfl d_W_raiseInto_16 ?_
        refine lv_iload hx hb d_W_raiseInto_19 (lv_at hl 5 rfl) ?_
        obtain ⟨hin, h⟩ := h
        refine gs_ild hx hb hK hP h0.2 hin d_W_raiseInto_21 ?_
        refine lv_i2l (v := ((A_1 l0 x6_1.toNatClampNeg).toInt64)) hx hb d_W_raiseInto_22 (by rfl) ?_
        refine lv_iload_n hx hb d_W_raiseInto_23 rfl (lv_at hl 3 rfl) ?_
        refine lv_lshl (v := (j_lshl ((A_1 l0 x6_1.toNatClampNeg).toInt64) p3)) hx hb d_W_raiseInto_24 rfl ?_
        refine lv_lload hx hb d_W_raiseInto_25 (lv_at hl 4 rfl) ?_
        refine lv_lor hx hb d_W_raiseInto_27 ?_
        refine lv_topl (fun x7_3 ex7_3 => ?_)
        have h := h x7_3 ex7_3
        refine lv_lstore (lv' := [(7, .long x7_3), (0, .ref a0), (1, .ref a1), (2, .int p2), (3, .int p3), (4, .long x4_1), (6, .int x6_1)]) hx hb d_W_raiseInto_28 hl (by decide) rfl (fun ls hl => ?_)
        refine lv_aload_n hx hb d_W_raiseInto_30 rfl (lv_at hl 2 rfl) ?_
        refine lv_iload_n hx hb d_W_raiseInto_31 rfl (lv_at hl 3 rfl) ?_
        refine lv_iload hx hb d_W_raiseInto_32 (lv_at hl 6 rfl) ?_
        refine lv_iadd hx hb d_W_raiseInto_34 ?_
        refine lv_lload hx hb d_W_raiseInto_35 (lv_at hl 0 rfl) ?_
        refine lv_ldc2 (v := (2147483647 : Int64)) hx hb hown (htw _ mm_200) d_W_raiseInto_37 ?_
        refine lv_land hx hb d_W_raiseInto_40 ?_
        refine lv_l2i (v := ((x7_3 &&& (2147483647 : Int64)).toInt32)) hx hb d_W_raiseInto_41 (by rfl) ?_
        obtain ⟨hin, h⟩ := h
        refine gs_ist hx hb hK hlo hP hS h1 hin d_W_raiseInto_42 (fun A_4 eA_4 H locs hP hS => ?_)
        have h := h A_4 eA_4
        refine lv_lload hx hb d_W_raiseInto_43 (lv_at hl 0 rfl) ?_
        refine lv_bipush (v := (31 : Int32)) hx hb d_W_raiseInto_45 (by decide) ?_
        refine lv_lushr (v := (j_lushr x7_3 (31 : Int32))) hx hb d_W_raiseInto_47 rfl ?_
        refine lv_topl (fun x4_5 ex4_5 => ?_)
        have h := h x4_5 ex4_5
        refine lv_lstore (lv' := [(4, .long x4_5), (7, .long x7_3), (0, .ref a0), (1, .ref a1), (2, .int p2), (3, .int p3), (6, .int x6_1)]) hx hb d_W_raiseInto_48 hl (by decide) rfl (fun ls hl => ?_)
        obtain ⟨x6_6, ex6_6⟩ : ∃ y : Int32, y = x6_1 + (1 : Int32) := ⟨_, rfl⟩
        have h := h x6_6 ex6_6
        refine lv_iinc (v := x6_6) (lv' := [(6, .int x6_6), (4, .long x4_5), (7, .long x7_3), (0, .ref a0), (1, .ref a1), (2, .int p2), (3, .int p3)]) hx hb d_W_raiseInto_50 hl (k := 6) rfl (by rw [ex6_6]; rfl) (by decide) rfl (fun ls hl => ?_)
        refine lv_goto (tgt := 6) hx hb d_W_raiseInto_53 (by decide) ?_
        exact ih_6 x4_5 x6_6 A_4 _ _ _ (Nat.lt_of_lt_of_le h.2 (Nat.le_of_lt_succ hμ_6)) h.1 hP hS (lv_sub hl [3, 4, 5, 6, 1, 0] rfl)
  exact loop_6 (μ_6 (0 : Int64) (0 : Int32) A + 1) (0 : Int64) (0 : Int32) A _ _ _ (Nat.lt_succ_self _) h0_6 hP hS (lv_sub hl [2, 3, 4, 5, 1, 0] rfl)
abbrev rm_W_takeRaised : Room := { frames := 2, cells := 0, slots := 0, locals := 42 }
set_option maxHeartbeats 4000000 in
set_option maxRecDepth 100000 in
theorem w_W_takeRaised (hlo : gs_D Λ) (a0 l0 n0 : Nat) (a1 l1 n1 : Nat) (p2 : Int32) (h0 : gW cI Λ a0 l0 n0) (h1 : gW cI Λ a1 l1 n1) (F A : gm_M) (post : gm_M → gm_M → Prop) (h : vc_W_takeRaised a0 l0 n0 a1 l1 n1 p2 F A post) : Met l y_W_takeRaised (.code y_W_takeRaised b_W_takeRaised 5 none :: gw_WS) rm_W_takeRaised (va_Pc [.ref a0, .ref a1, .int p2] (gw_P D cI cB cJ cW Λ L F A)) (gw_Qv D cI cB cJ cW Λ L (fun F2 A2 => post F2 A2)) 0 0 (gw_A Λ) := by
  refine Met.ofW (cc := b_W_takeRaised) (maxL := 5) (ret := none) (by decide) rfl ?_
  intro p e s m args below meth c s₁ B hml hv
  obtain ⟨hargs, hP, hK⟩ := hv
  have hx := B.exec
  have hb := B.bytes
  have hr := B.returns
  have hlocks := B.notSynchronized
  have htw : ∀ w ∈ gw_WS, w.before args s = true := fun w h9 => atoms_spec (ws := .code y_W_takeRaised b_W_takeRaised 5 none :: gw_WS) B.pre w (List.mem_cons_of_mem _ h9)
  have hown : s.vm.findClass R_W = some m.cls := findClass_of_methodNamed B.named
  have hS : va_S (gw_A Λ) s.heap s.heap [] := va_S.rf
  refine W.eq (g2 := entryFrame m ([.ref a0, .ref a1, .int p2] : List Value).toArray 5) (by rw [hargs]) ?_
  have hl := lv_entry ([.ref a0, .ref a1, .int p2]) (n := 5) (Nat.le_of_ble_eq_true rfl)
  rw [lg_entry_eq]
  generalize (lg_sl ([.ref a0, .ref a1, .int p2]) ++ List.replicate (5 - (lg_sl ([.ref a0, .ref a1, .int p2])).length) Slot.unset).toArray = ls at hl ⊢
  have hl : lv_has ls 5 [(0, .ref a0), (1, .ref a1), (2, .int p2)] := hl
  generalize hQe : MQ below (gw_Qv D cI cB cJ cW Λ L (fun F2 A2 => post F2 A2)) args s 0 0 (gw_A Λ) = Q
  unfold vc_W_takeRaised at h
  refine lv_aload_n hx hb d_W_takeRaised_0 rfl (lv_at hl 1 rfl) ?_
  refine gs_get (v := .int (F a1 1)) hx hb htw i_W hown hK hP h1.1 rfl 1 (by decide) (htw _ mm_35) rfl d_W_takeRaised_1 ?_
  obtain ⟨J_15, h, hj_15⟩ := h
  have join_15 : ∀ (v0_1 : Int32) (H : Heap) (locs : List Loc) (ls : Array Slot), J_15 v0_1 → va_P D gcls (gs_ws Λ F A L) H → va_S (gw_A Λ) s.heap H locs → lv_has ls 5 [(0, .ref a0), (1, .ref a1), (2, .int p2)] → W p l e rm_W_takeRaised s m args below meth c H locs 0 0 Q (F0 m 15 ls [.int v0_1]) := by
    intro v0_1 H locs ls hJ hP hS hl
    have h := hj_15 v0_1 hJ
    refine lv_istore_n (lv' := [(3, .int v0_1), (0, .ref a0), (1, .ref a1), (2, .int p2)]) hx hb d_W_takeRaised_15 rfl hl (by decide) rfl (fun ls hl => ?_)
    refine lv_iconst (v := (0 : Int32)) hx hb d_W_takeRaised_16 (by decide) ?_
    refine lv_istore (lv' := [(4, .int (0 : Int32)), (3, .int v0_1), (0, .ref a0), (1, .ref a1), (2, .int p2)]) hx hb d_W_takeRaised_17 hl (by decide) rfl (fun ls hl => ?_)
    obtain ⟨I_19, μ_19, h0_19, hs_19⟩ := h
    have loop_19 : ∀ (N : Nat) (x4_2 : Int32) (A_2 : gm_M) (H : Heap) (locs : List Loc) (ls : Array Slot), μ_19 x4_2 A_2 < N → I_19 x4_2 A_2 → va_P D gcls (gs_ws Λ F A_2 L) H → va_S (gw_A Λ) s.heap H locs → lv_has ls 5 [(0, .ref a0), (1, .ref a1), (2, .int p2), (3, .int v0_1), (4, .int x4_2)] → W p l e rm_W_takeRaised s m args below meth c H locs 0 0 Q (F0 m 19 ls []) := by
      intro N
      induction N with
      | zero => intro x4_2 A_2 H locs ls hμ; exact absurd hμ (Nat.not_lt_zero _)
      | succ N ih_19 =>
        intro x4_2 A_2 H locs ls hμ_19 hI hP hS hl
        have h := hs_19 x4_2 A_2 hI
        refine lv_iload hx hb d_W_takeRaised_19 (lv_at hl 4 rfl) ?_
        refine lv_iload_n hx hb d_W_takeRaised_21 rfl (lv_at hl 3 rfl) ?_
        refine lv_icmp_ge (tgt := 39) hx hb d_W_takeRaised_22 (by decide) (fun c_22 => ?_) (fun c_22 => ?_)
        · have h := h.1 c_22
          refine lv_aload_n hx hb d_W_takeRaised_39 rfl (lv_at hl 1 rfl) ?_
          refine lv_aload_n hx hb d_W_takeRaised_40 rfl (lv_at hl 0 rfl) ?_
          refine gs_get (v := .ref l0) hx hb htw i_W hown hK hP h0.1 rfl 0 (by decide) (htw _ mm_33) rfl d_W_takeRaised_41 ?_
          refine lv_iload_n hx hb d_W_takeRaised_44 rfl (lv_at hl 3 rfl) ?_
          refine lv_iload_n hx hb d_W_takeRaised_45 rfl (lv_at hl 2 rfl) ?_
          refine lv_bipush (v := (31 : Int32)) hx hb d_W_takeRaised_46 (by decide) ?_
          refine lv_irem hx hb d_W_takeRaised_48 (by decide) ?_
          refine gw_gov (gw_runV (As := [.ref l0, .int v0_1, .int (p2 - p2 / (31 : Int32) * (31 : Int32))]) (rest := []) hx hb hml hown htw hK hP hS hl.1 (w_W_raiseInto hlo a1 l1 n1 l0 n0 v0_1 (p2 - p2 / (31 : Int32) * (31 : Int32)) ⟨h1.1, h1.2⟩ h0.2 F A_2 _ h) k_W_raiseInto mm_515 ⟨Nat.le_of_ble_eq_true rfl, Nat.le_of_ble_eq_true rfl⟩ rfl rfl h1.1 rfl rfl rfl (Nat.le_of_ble_eq_true rfl) d_W_takeRaised_49) hS (fun F_3 A_3 H locs hw hP hS => ?_)
          obtain ⟨rfl, hw⟩ := hw
          have h := hw
          refine lv_aload_n hx hb d_W_takeRaised_52 rfl (lv_at hl 0 rfl) ?_
          refine lv_iload_n hx hb d_W_takeRaised_53 rfl (lv_at hl 3 rfl) ?_
          refine lv_aload_n hx hb d_W_takeRaised_54 rfl (lv_at hl 1 rfl) ?_
          refine gs_get (v := .int (F a1 1)) hx hb htw i_W hown hK hP h1.1 rfl 1 (by decide) (htw _ mm_35) rfl d_W_takeRaised_55 ?_
          refine lv_iadd hx hb d_W_takeRaised_58 ?_
          refine lv_iconst (v := (1 : Int32)) hx hb d_W_takeRaised_59 (by decide) ?_
          refine lv_iadd hx hb d_W_takeRaised_60 ?_
          refine gw_gov (gw_runV (As := [.int ((v0_1 + (F a1 1)) + (1 : Int32))]) (rest := []) hx hb hml hown htw hK hP hS hl.1 (w_W_trim hlo a0 l0 n0 ((v0_1 + (F a1 1)) + (1 : Int32)) ⟨h0.1, h0.2⟩ F A_3 _ h) k_W_trim mm_201 ⟨Nat.le_of_ble_eq_true rfl, Nat.le_of_ble_eq_true rfl⟩ rfl rfl h0.1 rfl rfl rfl (Nat.le_of_ble_eq_true rfl) d_W_takeRaised_61) hS (fun F_4 A_4 H locs hw hP hS => ?_)
          obtain ⟨rfl, hw⟩ := hw
          have h := hw
          refine lv_aload_n hx hb d_W_takeRaised_64 rfl (lv_at hl 0 rfl) ?_
          refine lv_aload_n hx hb d_W_takeRaised_65 rfl (lv_at hl 1 rfl) ?_
          refine gs_get (v := .int (F_4 a1 2)) hx hb htw i_W hown hK hP h1.1 rfl 2 (by decide) (htw _ mm_39) rfl d_W_takeRaised_66 ?_
          refine gw_gov (gw_runV (As := [.int (F_4 a1 2)]) (rest := []) hx hb hml hown htw hK hP hS hl.1 (w_W_setBelow hlo a0 l0 n0 (F_4 a1 2) ⟨h0.1, h0.2⟩ F_4 A_3 _ h) k_W_setBelow mm_205 ⟨Nat.le_of_ble_eq_true rfl, Nat.le_of_ble_eq_true rfl⟩ rfl rfl h0.1 rfl rfl rfl (Nat.le_of_ble_eq_true rfl) d_W_takeRaised_69) hS (fun F_5 A_5 H locs hw hP hS => ?_)
          obtain ⟨rfl, hw⟩ := hw
          have h := hw
          rw [← hQe]
          exact gw_vret hx hb hr hlocks hP hK hS h d_W_takeRaised_72
        · have h := h.2 c_22
          refine lv_aload_n hx hb d_W_takeRaised_25 rfl (lv_at hl 0 rfl) ?_
          refine gs_get (v := .ref l0) hx hb htw i_W hown hK hP h0.1 rfl 0 (by decide) (htw _ mm_33) rfl d_W_takeRaised_26 ?_
          refine lv_iload hx hb d_W_takeRaised_29 (lv_at hl 4 rfl) ?_
          refine lv_iconst (v := (0 : Int32)) hx hb d_W_takeRaised_31 (by decide) ?_
          obtain ⟨hin, h⟩ := h
          refine gs_ist hx hb hK hlo hP hS h0.2 hin d_W_takeRaised_32 (fun A_6 eA_6 H locs hP hS => ?_)
          have h := h A_6 eA_6
          obtain ⟨x4_7, ex4_7⟩ : ∃ y : Int32, y = x4_2 + (1 : Int32) := ⟨_, rfl⟩
          have h := h x4_7 ex4_7
          refine lv_iinc (v := x4_7) (lv' := [(4, .int x4_7), (0, .ref a0), (1, .ref a1), (2, .int p2), (3, .int v0_1)]) hx hb d_W_takeRaised_33 hl (k := 4) rfl (by rw [ex4_7]; rfl) (by decide) rfl (fun ls hl => ?_)
          refine lv_goto (tgt := 19) hx hb d_W_takeRaised_36 (by decide) ?_
          exact ih_19 x4_7 A_6 _ _ _ (Nat.lt_of_lt_of_le h.2 (Nat.le_of_lt_succ hμ_19)) h.1 hP hS (lv_sub hl [1, 2, 3, 4, 0] rfl)
    exact loop_19 (μ_19 (0 : Int32) A + 1) (0 : Int32) A _ _ _ (Nat.lt_succ_self _) h0_19 hP hS (lv_sub hl [2, 3, 4, 1, 0] rfl)
  refine lv_if_ne (tgt := 11) hx hb d_W_takeRaised_4 (by decide) (fun c_4 => ?_) (fun c_4 => ?_)
  · have h := h.1 c_4
    refine lv_iload_n hx hb d_W_takeRaised_11 rfl (lv_at hl 2 rfl) ?_
    refine lv_bipush (v := (31 : Int32)) hx hb d_W_takeRaised_12 (by decide) ?_
    refine lv_idiv hx hb d_W_takeRaised_14 (by decide) ?_
    exact join_15 (p2 / (31 : Int32)) _ _ _ h hP hS hl
  · have h := h.2 c_4
    refine lv_iconst (v := (0 : Int32)) hx hb d_W_takeRaised_7 (by decide) ?_
    refine lv_goto (tgt := 15) hx hb d_W_takeRaised_8 (by decide) ?_
    exact join_15 (0 : Int32) _ _ _ h hP hS hl
abbrev rm_W_lowestLimb : Room := { frames := 0, cells := 0, slots := 0, locals := 0 }
set_option maxHeartbeats 4000000 in
set_option maxRecDepth 100000 in
theorem w_W_lowestLimb (hlo : gs_D Λ) (a0 l0 n0 : Nat) (h0 : gW cI Λ a0 l0 n0) (F A : gm_M) (post : Int32 → Prop) (h : vc_W_lowestLimb a0 l0 n0 F A post) : Met l y_W_lowestLimb (.code y_W_lowestLimb b_W_lowestLimb 2 (some .int) :: gw_WS) rm_W_lowestLimb (va_Pc [.ref a0] (gw_P D cI cB cJ cW Λ L F A)) (gw_Qi D cI cB cJ cW Λ L (fun r F2 A2 => F = F2 ∧ A = A2 ∧ post r)) 0 0 (gw_A Λ) := by
  refine Met.ofW (cc := b_W_lowestLimb) (maxL := 2) (ret := (some .int)) (by decide) rfl ?_
  intro p e s m args below meth c s₁ B hml hv
  obtain ⟨hargs, hP, hK⟩ := hv
  have hx := B.exec
  have hb := B.bytes
  have hr := B.returns
  have hlocks := B.notSynchronized
  have htw : ∀ w ∈ gw_WS, w.before args s = true := fun w h9 => atoms_spec (ws := .code y_W_lowestLimb b_W_lowestLimb 2 (some .int) :: gw_WS) B.pre w (List.mem_cons_of_mem _ h9)
  have hown : s.vm.findClass R_W = some m.cls := findClass_of_methodNamed B.named
  have hS : va_S (gw_A Λ) s.heap s.heap [] := va_S.rf
  refine W.eq (g2 := entryFrame m ([.ref a0] : List Value).toArray 2) (by rw [hargs]) ?_
  have hl := lv_entry ([.ref a0]) (n := 2) (Nat.le_of_ble_eq_true rfl)
  rw [lg_entry_eq]
  generalize (lg_sl ([.ref a0]) ++ List.replicate (2 - (lg_sl ([.ref a0])).length) Slot.unset).toArray = ls at hl ⊢
  have hl : lv_has ls 2 [(0, .ref a0)] := hl
  generalize hQe : MQ below (gw_Qi D cI cB cJ cW Λ L (fun r F2 A2 => F = F2 ∧ A = A2 ∧ post r)) args s 0 0 (gw_A Λ) = Q
  unfold vc_W_lowestLimb at h
  refine lv_iconst (v := (0 : Int32)) hx hb d_W_lowestLimb_0 (by decide) ?_
  refine lv_istore_n (lv' := [(1, .int (0 : Int32)), (0, .ref a0)]) hx hb d_W_lowestLimb_1 rfl hl (by decide) rfl (fun ls hl => ?_)
  obtain ⟨I_2, μ_2, h0_2, hs_2⟩ := h
  have loop_2 : ∀ (N : Nat) (x1_1 : Int32) (H : Heap) (locs : List Loc) (ls : Array Slot), μ_2 x1_1 < N → I_2 x1_1 → va_P D gcls (gs_ws Λ F A L) H → va_S (gw_A Λ) s.heap H locs → lv_has ls 2 [(0, .ref a0), (1, .int x1_1)] → W p l e rm_W_lowestLimb s m args below meth c H locs 0 0 Q (F0 m 2 ls []) := by
    intro N
    induction N with
    | zero => intro x1_1 H locs ls hμ; exact absurd hμ (Nat.not_lt_zero _)
    | succ N ih_2 =>
      intro x1_1 H locs ls hμ_2 hI hP hS hl
      have h := hs_2 x1_1 hI
      refine lv_iload_n hx hb d_W_lowestLimb_2 rfl (lv_at hl 1 rfl) ?_
      refine lv_aload_n hx hb d_W_lowestLimb_3 rfl (lv_at hl 0 rfl) ?_
      refine gs_get (v := .int (F a0 1)) hx hb htw i_W hown hK hP h0.1 rfl 1 (by decide) (htw _ mm_35) rfl d_W_lowestLimb_4 ?_
      refine lv_iconst (v := (1 : Int32)) hx hb d_W_lowestLimb_7 (by decide) ?_
      refine lv_isub hx hb d_W_lowestLimb_8 ?_
      refine lv_icmp_ge (tgt := 27) hx hb d_W_lowestLimb_9 (by decide) (fun c_9 => ?_) (fun c_9 => ?_)
      · have h := h.1 c_9
        refine lv_iload_n hx hb d_W_lowestLimb_27 rfl (lv_at hl 1 rfl) ?_
        rw [← hQe]
        exact gw_iret hx hb hr hlocks hP hK hS ⟨rfl, rfl, h⟩ d_W_lowestLimb_28
      · have h := h.2 c_9
        refine lv_aload_n hx hb d_W_lowestLimb_12 rfl (lv_at hl 0 rfl) ?_
        refine gs_get (v := .ref l0) hx hb htw i_W hown hK hP h0.1 rfl 0 (by decide) (htw _ mm_33) rfl d_W_lowestLimb_13 ?_
        refine lv_iload_n hx hb d_W_lowestLimb_16 rfl (lv_at hl 1 rfl) ?_
        obtain ⟨hin, h⟩ := h
        refine gs_ild hx hb hK hP h0.2 hin d_W_lowestLimb_17 ?_
        refine lv_if_ne (tgt := 27) hx hb d_W_lowestLimb_18 (by decide) (fun c_18 => ?_) (fun c_18 => ?_)
        · have h := h.1 c_18
          refine lv_iload_n hx hb d_W_lowestLimb_27 rfl (lv_at hl 1 rfl) ?_
          rw [← hQe]
          exact gw_iret hx hb hr hlocks hP hK hS ⟨rfl, rfl, h⟩ d_W_lowestLimb_28
        · have h := h.2 c_18
          obtain ⟨x1_2, ex1_2⟩ : ∃ y : Int32, y = x1_1 + (1 : Int32) := ⟨_, rfl⟩
          have h := h x1_2 ex1_2
          refine lv_iinc (v := x1_2) (lv' := [(1, .int x1_2), (0, .ref a0)]) hx hb d_W_lowestLimb_21 hl (k := 1) rfl (by rw [ex1_2]; rfl) (by decide) rfl (fun ls hl => ?_)
          refine lv_goto (tgt := 2) hx hb d_W_lowestLimb_24 (by decide) ?_
          exact ih_2 x1_2 _ _ _ (Nat.lt_of_lt_of_le h.2 (Nat.le_of_lt_succ hμ_2)) h.1 hP hS (lv_sub hl [1, 0] rfl)
  exact loop_2 (μ_2 (0 : Int32) + 1) (0 : Int32) _ _ _ (Nat.lt_succ_self _) h0_2 hP hS (lv_sub hl [1, 0] rfl)
abbrev rm_W_hasOnesUnder : Room := { frames := 1, cells := 0, slots := 0, locals := 21 }
set_option maxHeartbeats 4000000 in
set_option maxRecDepth 100000 in
theorem w_W_hasOnesUnder (hlo : gs_D Λ) (a0 l0 n0 : Nat) (p1 : Int32) (p2 : Int32) (h0 : gW cI Λ a0 l0 n0) (F A : gm_M) (post : Int32 → Prop) (h : vc_W_hasOnesUnder a0 l0 n0 p1 p2 F A post) : Met l y_W_hasOnesUnder (.code y_W_hasOnesUnder b_W_hasOnesUnder 4 (some .boolean) :: gw_WS) rm_W_hasOnesUnder (va_Pc [.ref a0, .int p1, .int p2] (gw_P D cI cB cJ cW Λ L F A)) (gw_Qi D cI cB cJ cW Λ L (fun r F2 A2 => F = F2 ∧ A = A2 ∧ post r)) 0 0 (gw_A Λ) := by
  refine Met.ofW (cc := b_W_hasOnesUnder) (maxL := 4) (ret := (some .boolean)) (by decide) rfl ?_
  intro p e s m args below meth c s₁ B hml hv
  obtain ⟨hargs, hP, hK⟩ := hv
  have hx := B.exec
  have hb := B.bytes
  have hr := B.returns
  have hlocks := B.notSynchronized
  have htw : ∀ w ∈ gw_WS, w.before args s = true := fun w h9 => atoms_spec (ws := .code y_W_hasOnesUnder b_W_hasOnesUnder 4 (some .boolean) :: gw_WS) B.pre w (List.mem_cons_of_mem _ h9)
  have hown : s.vm.findClass R_W = some m.cls := findClass_of_methodNamed B.named
  have hS : va_S (gw_A Λ) s.heap s.heap [] := va_S.rf
  refine W.eq (g2 := entryFrame m ([.ref a0, .int p1, .int p2] : List Value).toArray 4) (by rw [hargs]) ?_
  have hl := lv_entry ([.ref a0, .int p1, .int p2]) (n := 4) (Nat.le_of_ble_eq_true rfl)
  rw [lg_entry_eq]
  generalize (lg_sl ([.ref a0, .int p1, .int p2]) ++ List.replicate (4 - (lg_sl ([.ref a0, .int p1, .int p2])).length) Slot.unset).toArray = ls at hl ⊢
  have hl : lv_has ls 4 [(0, .ref a0), (1, .int p1), (2, .int p2)] := hl
  generalize hQe : MQ below (gw_Qi D cI cB cJ cW Λ L (fun r F2 A2 => F = F2 ∧ A = A2 ∧ post r)) args s 0 0 (gw_A Λ) = Q
  unfold vc_W_hasOnesUnder at h
  refine lv_aload_n hx hb d_W_hasOnesUnder_0 rfl (lv_at hl 0 rfl) ?_
  refine gw_goi (gw_runV (As := []) (rest := []) hx hb hml hown htw hK hP hS hl.1 (w_W_lowestLimb hlo a0 l0 n0 ⟨h0.1, h0.2⟩ F A _ h) k_W_lowestLimb mm_524 ⟨Nat.le_of_ble_eq_true rfl, Nat.le_of_ble_eq_true rfl⟩ rfl rfl h0.1 rfl rfl rfl (Nat.le_of_ble_eq_true rfl) d_W_hasOnesUnder_1) hS (fun r_1 F_1 A_1 H locs hw hP hS => ?_)
  obtain ⟨rfl, hw⟩ := hw
  obtain ⟨rfl, hw⟩ := hw
  have h := hw
  refine lv_istore_n (lv' := [(3, .int r_1), (0, .ref a0), (1, .int p1), (2, .int p2)]) hx hb d_W_hasOnesUnder_4 rfl hl (by decide) rfl (fun ls hl => ?_)
  refine lv_iload_n hx hb d_W_hasOnesUnder_5 rfl (lv_at hl 0 rfl) ?_
  refine lv_iload_n hx hb d_W_hasOnesUnder_6 rfl (lv_at hl 2 rfl) ?_
  refine lv_icmp_lt (tgt := 30) hx hb d_W_hasOnesUnder_7 (by decide) (fun c_7 => ?_) (fun c_7 => ?_)
  · have h := h.1 c_7
    refine lv_iconst (v := (1 : Int32)) hx hb d_W_hasOnesUnder_30 (by decide) ?_
    refine lv_goto (tgt := 35) hx hb d_W_hasOnesUnder_31 (by decide) ?_
    rw [← hQe]
    exact gw_zret hx hb hr hlocks hP hK hS (by decide) ⟨rfl, rfl, h⟩ d_W_hasOnesUnder_35
  · have h := h.2 c_7
    refine lv_iload_n hx hb d_W_hasOnesUnder_10 rfl (lv_at hl 0 rfl) ?_
    refine lv_iload_n hx hb d_W_hasOnesUnder_11 rfl (lv_at hl 2 rfl) ?_
    refine lv_icmp_ne (tgt := 34) hx hb d_W_hasOnesUnder_12 (by decide) (fun c_12 => ?_) (fun c_12 => ?_)
    · have h := h.1 c_12
      refine lv_iconst (v := (0 : Int32)) hx hb d_W_hasOnesUnder_34 (by decide) ?_
      rw [← hQe]
      exact gw_zret hx hb hr hlocks hP hK hS (by decide) ⟨rfl, rfl, h⟩ d_W_hasOnesUnder_35
    · have h := h.2 c_12
      refine lv_aload_n hx hb d_W_hasOnesUnder_15 rfl (lv_at hl 1 rfl) ?_
      refine gs_get (v := .ref l0) hx hb htw i_W hown hK hP h0.1 rfl 0 (by decide) (htw _ mm_33) rfl d_W_hasOnesUnder_16 ?_
      refine lv_iload_n hx hb d_W_hasOnesUnder_19 rfl (lv_at hl 0 rfl) ?_
      obtain ⟨hin, h⟩ := h
      refine gs_ild hx hb hK hP h0.2 hin d_W_hasOnesUnder_20 ?_
      refine lv_iconst (v := (1 : Int32)) hx hb d_W_hasOnesUnder_21 (by decide) ?_
      refine lv_iload_n hx hb d_W_hasOnesUnder_22 rfl (lv_at hl 3 rfl) ?_
      refine lv_ishl hx hb d_W_hasOnesUnder_23 ?_
      refine lv_iconst (v := (1 : Int32)) hx hb d_W_hasOnesUnder_24 (by decide) ?_
      refine lv_isub hx hb d_W_hasOnesUnder_25 ?_
      refine lv_iand hx hb d_W_hasOnesUnder_26 ?_
      refine lv_if_eq (tgt := 34) hx hb d_W_hasOnesUnder_27 (by decide) (fun c_27 => ?_) (fun c_27 => ?_)
      · have h := h.1 c_27
        refine lv_iconst (v := (0 : Int32)) hx hb d_W_hasOnesUnder_34 (by decide) ?_
        rw [← hQe]
        exact gw_zret hx hb hr hlocks hP hK hS (by decide) ⟨rfl, rfl, h⟩ d_W_hasOnesUnder_35
      · have h := h.2 c_27
        refine lv_iconst (v := (1 : Int32)) hx hb d_W_hasOnesUnder_30 (by decide) ?_
        refine lv_goto (tgt := 35) hx hb d_W_hasOnesUnder_31 (by decide) ?_
        rw [← hQe]
        exact gw_zret hx hb hr hlocks hP hK hS (by decide) ⟨rfl, rfl, h⟩ d_W_hasOnesUnder_35
abbrev rm_W_takeLowered : Room := { frames := 4, cells := 0, slots := 0, locals := 91 }
set_option maxHeartbeats 4000000 in
set_option maxRecDepth 100000 in
theorem w_W_takeLowered (hlo : gs_D Λ) (a0 l0 n0 : Nat) (a1 l1 n1 : Nat) (p2 : Int32) (h0 : gW cI Λ a0 l0 n0) (h1 : gW cI Λ a1 l1 n1) (F A : gm_M) (post : gm_M → gm_M → Prop) (h : vc_W_takeLowered a0 l0 n0 a1 l1 n1 p2 F A post) : Met l y_W_takeLowered (.code y_W_takeLowered b_W_takeLowered 9 none :: gw_WS) rm_W_takeLowered (va_Pc [.ref a0, .ref a1, .int p2] (gw_P D cI cB cJ cW Λ L F A)) (gw_Qv D cI cB cJ cW Λ L (fun F2 A2 => post F2 A2)) 0 0 (gw_A Λ) := by
  refine Met.ofW (cc := b_W_takeLowered) (maxL := 9) (ret := none) (by decide) rfl ?_
  intro p e s m args below meth c s₁ B hml hv
  obtain ⟨hargs, hP, hK⟩ := hv
  have hx := B.exec
  have hb := B.bytes
  have hr := B.returns
  have hlocks := B.notSynchronized
  have htw : ∀ w ∈ gw_WS, w.before args s = true := fun w h9 => atoms_spec (ws := .code y_W_takeLowered b_W_takeLowered 9 none :: gw_WS) B.pre w (List.mem_cons_of_mem _ h9)
  have hown : s.vm.findClass R_W = some m.cls := findClass_of_methodNamed B.named
  have hS : va_S (gw_A Λ) s.heap s.heap [] := va_S.rf
  refine W.eq (g2 := entryFrame m ([.ref a0, .ref a1, .int p2] : List Value).toArray 9) (by rw [hargs]) ?_
  have hl := lv_entry ([.ref a0, .ref a1, .int p2]) (n := 9) (Nat.le_of_ble_eq_true rfl)
  rw [lg_entry_eq]
  generalize (lg_sl ([.ref a0, .ref a1, .int p2]) ++ List.replicate (9 - (lg_sl ([.ref a0, .ref a1, .int p2])).length) Slot.unset).toArray = ls at hl ⊢
  have hl : lv_has ls 9 [(0, .ref a0), (1, .ref a1), (2, .int p2)] := hl
  generalize hQe : MQ below (gw_Qv D cI cB cJ cW Λ L (fun F2 A2 => post F2 A2)) args s 0 0 (gw_A Λ) = Q
  unfold vc_W_takeLowered at h
  refine lv_iload_n hx hb d_W_takeLowered_0 rfl (lv_at hl 2 rfl) ?_
  refine lv_bipush (v := (31 : Int32)) hx hb d_W_takeLowered_1 (by decide) ?_
  refine lv_idiv hx hb d_W_takeLowered_3 (by decide) ?_
  refine lv_topi (fun x3_1 ex3_1 => ?_)
  have h := h x3_1 ex3_1
  refine lv_istore_n (lv' := [(3, .int x3_1), (0, .ref a0), (1, .ref a1), (2, .int p2)]) hx hb d_W_takeLowered_4 rfl hl (by decide) rfl (fun ls hl => ?_)
  refine lv_iload_n hx hb d_W_takeLowered_5 rfl (lv_at hl 3 rfl) ?_
  refine lv_bipush (v := (31 : Int32)) hx hb d_W_takeLowered_6 (by decide) ?_
  refine lv_irem hx hb d_W_takeLowered_8 (by decide) ?_
  refine lv_topi (fun x4_2 ex4_2 => ?_)
  have h := h x4_2 ex4_2
  refine lv_istore (lv' := [(4, .int x4_2), (3, .int x3_1), (0, .ref a0), (1, .ref a1), (2, .int p2)]) hx hb d_W_takeLowered_9 hl (by decide) rfl (fun ls hl => ?_)
  refine lv_aload_n hx hb d_W_takeLowered_11 rfl (lv_at hl 3 rfl) ?_
  refine gs_get (v := .int (F a1 1)) hx hb htw i_W hown hK hP h1.1 rfl 1 (by decide) (htw _ mm_35) rfl d_W_takeLowered_12 ?_
  refine lv_iload_n hx hb d_W_takeLowered_15 rfl (lv_at hl 1 rfl) ?_
  refine lv_isub hx hb d_W_takeLowered_16 ?_
  refine lv_iconst (v := (0 : Int32)) hx hb d_W_takeLowered_17 (by decide) ?_
  refine va_mmax hx hb (by rw [hml, hl.1]) hown (htw _ mm_413) (htw _ mx_static) (htw _ mx_ini) (htw _ mx_code) (Nat.le_of_ble_eq_true rfl) (Nat.le_of_ble_eq_true rfl) (Nat.zero_le _) (Nat.zero_le _) d_W_takeLowered_18 ?_
  refine lv_topi (fun x5_3 ex5_3 => ?_)
  have h := h x5_3 ex5_3
  refine lv_istore (lv' := [(5, .int x5_3), (4, .int x4_2), (3, .int x3_1), (0, .ref a0), (1, .ref a1), (2, .int p2)]) hx hb d_W_takeLowered_21 hl (by decide) rfl (fun ls hl => ?_)
  refine lv_iconst (v := (0 : Int32)) hx hb d_W_takeLowered_23 (by decide) ?_
  refine lv_istore (lv' := [(6, .int (0 : Int32)), (5, .int x5_3), (4, .int x4_2), (3, .int x3_1), (0, .ref a0), (1, .ref a1), (2, .int p2)]) hx hb d_W_takeLowered_24 hl (by decide) rfl (fun ls hl => ?_)
  obtain ⟨I_26, μ_26, h0_26, hs_26⟩ := h
  have loop_26 : ∀ (N : Nat) (x6_4 : Int32) (A_4 : gm_M) (H : Heap) (locs : List Loc) (ls : Array Slot), μ_26 x6_4 A_4 < N → I_26 x6_4 A_4 → va_P D gcls (gs_ws Λ F A_4 L) H → va_S (gw_A Λ) s.heap H locs → lv_has ls 9 [(0, .ref a0), (1, .ref a1), (3, .int x3_1), (4, .int x4_2), (5, .int x5_3), (6, .int x6_4)] → W p l e rm_W_takeLowered s m args below meth c H locs 0 0 Q (F0 m 26 ls []) := by
    intro N
    induction N with
    | zero => intro x6_4 A_4 H locs ls hμ; exact absurd hμ (Nat.not_lt_zero _)
    | succ N ih_26 =>
      intro x6_4 A_4 H locs ls hμ_26 hI hP hS hl
      have h := hs_26 x6_4 A_4 hI
      refine lv_iload hx hb d_W_takeLowered_26 (lv_at hl 5 rfl) ?_
      refine lv_iload hx hb d_W_takeLowered_28 (lv_at hl 4 rfl) ?_
      refine lv_icmp_ge (tgt := 82) hx hb d_W_takeLowered_30 (by decide) (fun c_30 => ?_) (fun c_30 => ?_)
      · have h := h.1 c_30
        refine lv_aload_n hx hb d_W_takeLowered_82 rfl (lv_at hl 0 rfl) ?_
        refine lv_iload hx hb d_W_takeLowered_83 (lv_at hl 4 rfl) ?_
        refine gw_gov (gw_runV (As := [.int x5_3]) (rest := []) hx hb hml hown htw hK hP hS hl.1 (w_W_trim hlo a0 l0 n0 x5_3 ⟨h0.1, h0.2⟩ F A_4 _ h) k_W_trim mm_201 ⟨Nat.le_of_ble_eq_true rfl, Nat.le_of_ble_eq_true rfl⟩ rfl rfl h0.1 rfl rfl rfl (Nat.le_of_ble_eq_true rfl) d_W_takeLowered_85) hS (fun F_5 A_5 H locs hw hP hS => ?_)
        obtain ⟨rfl, hw⟩ := hw
        have h := hw
        refine lv_aload_n hx hb d_W_takeLowered_88 rfl (lv_at hl 1 rfl) ?_
        refine gs_get (v := .int (F_5 a1 2)) hx hb htw i_W hown hK hP h1.1 rfl 2 (by decide) (htw _ mm_39) rfl d_W_takeLowered_89 ?_
        refine lv_if_eq (tgt := 109) hx hb d_W_takeLowered_92 (by decide) (fun c_92 => ?_) (fun c_92 => ?_)
        · have h := h.1 c_92
          refine lv_aload_n hx hb d_W_takeLowered_109 rfl (lv_at hl 0 rfl) ?_
          refine lv_aload_n hx hb d_W_takeLowered_110 rfl (lv_at hl 1 rfl) ?_
          refine gs_get (v := .int (F_5 a1 2)) hx hb htw i_W hown hK hP h1.1 rfl 2 (by decide) (htw _ mm_39) rfl d_W_takeLowered_111 ?_
          refine gw_gov (gw_runV (As := [.int (F_5 a1 2)]) (rest := []) hx hb hml hown htw hK hP hS hl.1 (w_W_setBelow hlo a0 l0 n0 (F_5 a1 2) ⟨h0.1, h0.2⟩ F_5 A_4 _ h) k_W_setBelow mm_205 ⟨Nat.le_of_ble_eq_true rfl, Nat.le_of_ble_eq_true rfl⟩ rfl rfl h0.1 rfl rfl rfl (Nat.le_of_ble_eq_true rfl) d_W_takeLowered_114) hS (fun F_6 A_6 H locs hw hP hS => ?_)
          obtain ⟨rfl, hw⟩ := hw
          have h := hw
          rw [← hQe]
          exact gw_vret hx hb hr hlocks hP hK hS h d_W_takeLowered_117
        · have h := h.2 c_92
          refine lv_aload_n hx hb d_W_takeLowered_95 rfl (lv_at hl 1 rfl) ?_
          refine lv_iload_n hx hb d_W_takeLowered_96 rfl (lv_at hl 2 rfl) ?_
          refine lv_iload hx hb d_W_takeLowered_97 (lv_at hl 3 rfl) ?_
          refine gw_goi (gw_runV (As := [.int x3_1, .int x4_2]) (rest := []) hx hb hml hown htw hK hP hS hl.1 (w_W_hasOnesUnder hlo a1 l1 n1 x3_1 x4_2 ⟨h1.1, h1.2⟩ F_5 A_4 _ h) k_W_hasOnesUnder mm_520 ⟨Nat.le_of_ble_eq_true rfl, Nat.le_of_ble_eq_true rfl⟩ rfl rfl h1.1 rfl rfl rfl (Nat.le_of_ble_eq_true rfl) d_W_takeLowered_99) hS (fun r_7 F_7 A_7 H locs hw hP hS => ?_)
          obtain ⟨rfl, hw⟩ := hw
          obtain ⟨rfl, hw⟩ := hw
          have h := hw
          refine lv_if_eq (tgt := 109) hx hb d_W_takeLowered_102 (by decide) (fun c_102 => ?_) (fun c_102 => ?_)
          · have h := h.1 c_102
            refine lv_aload_n hx hb d_W_takeLowered_109 rfl (lv_at hl 0 rfl) ?_
            refine lv_aload_n hx hb d_W_takeLowered_110 rfl (lv_at hl 1 rfl) ?_
            refine gs_get (v := .int (F_5 a1 2)) hx hb htw i_W hown hK hP h1.1 rfl 2 (by decide) (htw _ mm_39) rfl d_W_takeLowered_111 ?_
            refine gw_gov (gw_runV (As := [.int (F_5 a1 2)]) (rest := []) hx hb hml hown htw hK hP hS hl.1 (w_W_setBelow hlo a0 l0 n0 (F_5 a1 2) ⟨h0.1, h0.2⟩ F_5 A_4 _ h) k_W_setBelow mm_205 ⟨Nat.le_of_ble_eq_true rfl, Nat.le_of_ble_eq_true rfl⟩ rfl rfl h0.1 rfl rfl rfl (Nat.le_of_ble_eq_true rfl) d_W_takeLowered_114) hS (fun F_8 A_8 H locs hw hP hS => ?_)
            obtain ⟨rfl, hw⟩ := hw
            have h := hw
            rw [← hQe]
            exact gw_vret hx hb hr hlocks hP hK hS h d_W_takeLowered_117
          · have h := h.2 c_102
            refine lv_aload_n hx hb d_W_takeLowered_105 rfl (lv_at hl 0 rfl) ?_
            refine gw_gov (gw_runV (As := []) (rest := []) hx hb hml hown htw hK hP hS hl.1 (w_W_growByOne hlo a0 l0 n0 ⟨h0.1, h0.2⟩ F_5 A_4 _ h) k_W_growByOne mm_528 ⟨Nat.le_of_ble_eq_true rfl, Nat.le_of_ble_eq_true rfl⟩ rfl rfl h0.1 rfl rfl rfl (Nat.le_of_ble_eq_true rfl) d_W_takeLowered_106) hS (fun F_9 A_9 H locs hw hP hS => ?_)
            have h := hw
            refine lv_aload_n hx hb d_W_takeLowered_109 rfl (lv_at hl 0 rfl) ?_
            refine lv_aload_n hx hb d_W_takeLowered_110 rfl (lv_at hl 1 rfl) ?_
            refine gs_get (v := .int (F_9 a1 2)) hx hb htw i_W hown hK hP h1.1 rfl 2 (by decide) (htw _ mm_39) rfl d_W_takeLowered_111 ?_
            refine gw_gov (gw_runV (As := [.int (F_9 a1 2)]) (rest := []) hx hb hml hown htw hK hP hS hl.1 (w_W_setBelow hlo a0 l0 n0 (F_9 a1 2) ⟨h0.1, h0.2⟩ F_9 A_9 _ h) k_W_setBelow mm_205 ⟨Nat.le_of_ble_eq_true rfl, Nat.le_of_ble_eq_true rfl⟩ rfl rfl h0.1 rfl rfl rfl (Nat.le_of_ble_eq_true rfl) d_W_takeLowered_114) hS (fun F_10 A_10 H locs hw hP hS => ?_)
            obtain ⟨rfl, hw⟩ := hw
            have h := hw
            rw [← hQe]
            exact gw_vret hx hb hr hlocks hP hK hS h d_W_takeLowered_117
      · have h := h.2 c_30
        refine lv_aload_n hx hb d_W_takeLowered_33 rfl (lv_at hl 1 rfl) ?_
        refine lv_iload_n hx hb d_W_takeLowered_34 rfl (lv_at hl 2 rfl) ?_
        refine lv_iload hx hb d_W_takeLowered_35 (lv_at hl 5 rfl) ?_
        refine lv_iadd hx hb d_W_takeLowered_37 ?_
        refine lv_iconst (v := (1 : Int32)) hx hb d_W_takeLowered_38 (by decide) ?_
        refine lv_iadd hx hb d_W_takeLowered_39 ?_
        refine gw_goi (gw_runV (As := [.int ((x3_1 + x6_4) + (1 : Int32))]) (rest := []) hx hb hml hown htw hK hP hS hl.1 (w_W_limbAt hlo a1 l1 n1 ((x3_1 + x6_4) + (1 : Int32)) ⟨h1.1, h1.2⟩ F A_4 _ h) k_W_limbAt mm_416 ⟨Nat.le_of_ble_eq_true rfl, Nat.le_of_ble_eq_true rfl⟩ rfl rfl h1.1 rfl rfl rfl (Nat.le_of_ble_eq_true rfl) d_W_takeLowered_40) hS (fun r_11 F_11 A_11 H locs hw hP hS => ?_)
        obtain ⟨rfl, hw⟩ := hw
        obtain ⟨rfl, hw⟩ := hw
        have h := hw
        refine lv_i2l (v := (r_11.toInt64)) hx hb d_W_takeLowered_43 (by rfl) ?_
        refine lv_bipush (v := (31 : Int32)) hx hb d_W_takeLowered_44 (by decide) ?_
        refine lv_lshl (v := (j_lshl (r_11.toInt64) (31 : Int32))) hx hb d_W_takeLowered_46 rfl ?_
        refine lv_aload_n hx hb d_W_takeLowered_47 rfl (lv_at hl 1 rfl) ?_
        refine lv_iload_n hx hb d_W_takeLowered_48 rfl (lv_at hl 2 rfl) ?_
        refine lv_iload hx hb d_W_takeLowered_49 (lv_at hl 5 rfl) ?_
        refine lv_iadd hx hb d_W_takeLowered_51 ?_
        refine gw_goi (gw_runV (As := [.int (x3_1 + x6_4)]) (rest := [.long (j_lshl (r_11.toInt64) (31 : Int32))]) hx hb hml hown htw hK hP hS hl.1 (w_W_limbAt hlo a1 l1 n1 (x3_1 + x6_4) ⟨h1.1, h1.2⟩ F A_4 _ h) k_W_limbAt mm_416 ⟨Nat.le_of_ble_eq_true rfl, Nat.le_of_ble_eq_true rfl⟩ rfl rfl h1.1 rfl rfl rfl (Nat.le_of_ble_eq_true rfl) d_W_takeLowered_52) hS (fun r_12 F_12 A_12 H locs hw hP hS => ?_)
        obtain ⟨rfl, hw⟩ := hw
        obtain ⟨rfl, hw⟩ := hw
        have h := hw
        refine lv_i2l (v := (r_12.toInt64)) hx hb d_W_takeLowered_55 (by rfl) ?_
        refine lv_lor hx hb d_W_takeLowered_56 ?_
        refine lv_topl (fun x7_13 ex7_13 => ?_)
        have h := h x7_13 ex7_13
        refine lv_lstore (lv' := [(7, .long x7_13), (0, .ref a0), (1, .ref a1), (3, .int x3_1), (4, .int x4_2), (5, .int x5_3), (6, .int x6_4)]) hx hb d_W_takeLowered_57 hl (by decide) rfl (fun ls hl => ?_)
        refine lv_aload_n hx hb d_W_takeLowered_59 rfl (lv_at hl 1 rfl) ?_
        refine gs_get (v := .ref l0) hx hb htw i_W hown hK hP h0.1 rfl 0 (by decide) (htw _ mm_33) rfl d_W_takeLowered_60 ?_
        refine lv_iload hx hb d_W_takeLowered_63 (lv_at hl 6 rfl) ?_
        refine lv_lload hx hb d_W_takeLowered_65 (lv_at hl 0 rfl) ?_
        refine lv_iload hx hb d_W_takeLowered_67 (lv_at hl 4 rfl) ?_
        refine lv_lushr (v := (j_lushr x7_13 x4_2)) hx hb d_W_takeLowered_69 rfl ?_
        refine lv_ldc2 (v := (2147483647 : Int64)) hx hb hown (htw _ mm_200) d_W_takeLowered_70 ?_
        refine lv_land hx hb d_W_takeLowered_73 ?_
        refine lv_l2i (v := (((j_lushr x7_13 x4_2) &&& (2147483647 : Int64)).toInt32)) hx hb d_W_takeLowered_74 (by rfl) ?_
        obtain ⟨hin, h⟩ := h
        refine gs_ist hx hb hK hlo hP hS h0.2 hin d_W_takeLowered_75 (fun A_14 eA_14 H locs hP hS => ?_)
        have h := h A_14 eA_14
        obtain ⟨x6_15, ex6_15⟩ : ∃ y : Int32, y = x6_4 + (1 : Int32) := ⟨_, rfl⟩
        have h := h x6_15 ex6_15
        refine lv_iinc (v := x6_15) (lv' := [(6, .int x6_15), (7, .long x7_13), (0, .ref a0), (1, .ref a1), (3, .int x3_1), (4, .int x4_2), (5, .int x5_3)]) hx hb d_W_takeLowered_76 hl (k := 6) rfl (by rw [ex6_15]; rfl) (by decide) rfl (fun ls hl => ?_)
        refine lv_goto (tgt := 26) hx hb d_W_takeLowered_79 (by decide) ?_
        exact ih_26 x6_15 A_14 _ _ _ (Nat.lt_of_lt_of_le h.2 (Nat.le_of_lt_succ hμ_26)) h.1 hP hS (lv_sub hl [2, 3, 4, 5, 6, 0] rfl)
  exact loop_26 (μ_26 (0 : Int32) A + 1) (0 : Int32) A _ _ _ (Nat.lt_succ_self _) h0_26 hP hS (lv_sub hl [4, 5, 3, 2, 1, 0] rfl)
