variable {l : Launch} {D : va_G} {cI cB cJ cW : ClassId} {Λ : gs_L} {L : Nat → Nat → Int64}
abbrev rm_M_shiftedLeft : Room := { frames := 1, cells := 0, slots := 0, locals := 22 }
set_option maxHeartbeats 4000000 in
set_option maxRecDepth 100000 in
theorem w_M_shiftedLeft (hlo : gs_D Λ) (a1 n1 : Nat) (p2 : Int32) (p3 : Int32) (a4 n4 : Nat) (h1 : (a1, gI cI n1) ∈ Λ) (h4 : (a4, gI cI n4) ∈ Λ) (F A : gm_M) (post : Int32 → gm_M → Prop) (h : vc_M_shiftedLeft a1 n1 p2 p3 a4 n4 F A post) : Met l y_M_shiftedLeft (.code y_M_shiftedLeft b_M_shiftedLeft 7 (some .int) :: gw_WS) rm_M_shiftedLeft (va_Pc [.ref a1, .int p2, .int p3, .ref a4] (gw_P D cI cB cJ cW Λ L F A)) (gw_Qi D cI cB cJ cW Λ L (fun r F2 A2 => F = F2 ∧ post r A2)) 0 0 (gw_A Λ) := by
  refine Met.ofW (cc := b_M_shiftedLeft) (maxL := 7) (ret := (some .int)) (by decide) rfl ?_
  intro p e s m args below meth c s₁ B hml hv
  obtain ⟨hargs, hP, hK⟩ := hv
  have hx := B.exec
  have hb := B.bytes
  have hr := B.returns
  have hlocks := B.notSynchronized
  have htw : ∀ w ∈ gw_WS, w.before args s = true := fun w h9 => atoms_spec (ws := .code y_M_shiftedLeft b_M_shiftedLeft 7 (some .int) :: gw_WS) B.pre w (List.mem_cons_of_mem _ h9)
  have hown : s.vm.findClass R_M = some m.cls := findClass_of_methodNamed B.named
  have hS : va_S (gw_A Λ) s.heap s.heap [] := va_S.rf
  refine W.eq (g2 := entryFrame m ([.ref a1, .int p2, .int p3, .ref a4] : List Value).toArray 7) (by rw [hargs]) ?_
  have hl := lv_entry ([.ref a1, .int p2, .int p3, .ref a4]) (n := 7) (Nat.le_of_ble_eq_true rfl)
  rw [lg_entry_eq]
  generalize (lg_sl ([.ref a1, .int p2, .int p3, .ref a4]) ++ List.replicate (7 - (lg_sl ([.ref a1, .int p2, .int p3, .ref a4])).length) Slot.unset).toArray = ls at hl ⊢
  have hl : lv_has ls 7 [(0, .ref a1), (1, .int p2), (2, .int p3), (3, .ref a4)] := hl
  generalize hQe : MQ below (gw_Qi D cI cB cJ cW Λ L (fun r F2 A2 => F = F2 ∧ post r A2)) args s 0 0 (gw_A Λ) = Q
  unfold vc_M_shiftedLeft at h
  refine lv_iload_n hx hb d_M_shiftedLeft_0 rfl (lv_at hl 2 rfl) ?_
  refine lv_iconst (v := (4 : Int32)) hx hb d_M_shiftedLeft_1 (by decide) ?_
  refine lv_ishr hx hb d_M_shiftedLeft_2 ?_
  refine lv_topi (fun x4_1 ex4_1 => ?_)
  have h := h x4_1 ex4_1
  refine lv_istore (lv' := [(4, .int x4_1), (0, .ref a1), (1, .int p2), (2, .int p3), (3, .ref a4)]) hx hb d_M_shiftedLeft_3 hl (by decide) rfl (fun ls hl => ?_)
  refine lv_iload_n hx hb d_M_shiftedLeft_5 rfl (lv_at hl 3 rfl) ?_
  refine lv_bipush (v := (15 : Int32)) hx hb d_M_shiftedLeft_6 (by decide) ?_
  refine lv_iand hx hb d_M_shiftedLeft_8 ?_
  refine lv_topi (fun x5_2 ex5_2 => ?_)
  have h := h x5_2 ex5_2
  refine lv_istore (lv' := [(5, .int x5_2), (4, .int x4_1), (0, .ref a1), (1, .int p2), (2, .int p3), (3, .ref a4)]) hx hb d_M_shiftedLeft_9 hl (by decide) rfl (fun ls hl => ?_)
  refine lv_aload_n hx hb d_M_shiftedLeft_11 rfl (lv_at hl 5 rfl) ?_
  refine lv_iload_n hx hb d_M_shiftedLeft_12 rfl (lv_at hl 3 rfl) ?_
  refine lv_iload hx hb d_M_shiftedLeft_13 (lv_at hl 1 rfl) ?_
  refine lv_iadd hx hb d_M_shiftedLeft_15 ?_
  refine lv_iconst (v := (0 : Int32)) hx hb d_M_shiftedLeft_16 (by decide) ?_
  obtain ⟨hin, h⟩ := h
  refine gs_ist hx hb hK hlo hP hS h4 hin d_M_shiftedLeft_17 (fun A_3 eA_3 H locs hP hS => ?_)
  have h := h A_3 eA_3
  refine lv_iload_n hx hb d_M_shiftedLeft_18 rfl (lv_at hl 3 rfl) ?_
  refine lv_istore (lv' := [(6, .int p2), (5, .int x5_2), (4, .int x4_1), (0, .ref a1), (1, .int p2), (2, .int p3), (3, .ref a4)]) hx hb d_M_shiftedLeft_19 hl (by decide) rfl (fun ls hl => ?_)
  obtain ⟨I_21, μ_21, h0_21, hs_21⟩ := h
  have loop_21 : ∀ (N : Nat) (x6_4 : Int32) (A_4 : gm_M) (H : Heap) (locs : List Loc) (ls : Array Slot), μ_21 x6_4 A_4 < N → I_21 x6_4 A_4 → va_P D gcls (gs_ws Λ F A_4 L) H → va_S (gw_A Λ) s.heap H locs → lv_has ls 7 [(0, .ref a1), (1, .int p2), (3, .ref a4), (4, .int x4_1), (5, .int x5_2), (6, .int x6_4)] → W p l e rm_M_shiftedLeft s m args below meth c H locs 0 0 Q (F0 m 21 ls []) := by
    intro N
    induction N with
    | zero => intro x6_4 A_4 H locs ls hμ; exact absurd hμ (Nat.not_lt_zero _)
    | succ N ih_21 =>
      intro x6_4 A_4 H locs ls hμ_21 hI hP hS hl
      have h := hs_21 x6_4 A_4 hI
      refine lv_iload hx hb d_M_shiftedLeft_21 (lv_at hl 5 rfl) ?_
      refine lv_if_lt (tgt := 81) hx hb d_M_shiftedLeft_23 (by decide) (fun c_23 => ?_) (fun c_23 => ?_)
      · have h := h.1 c_23
        refine lv_iconst (v := (0 : Int32)) hx hb d_M_shiftedLeft_81 (by decide) ?_
        refine lv_istore (lv' := [(6, .int (0 : Int32)), (0, .ref a1), (1, .int p2), (3, .ref a4), (4, .int x4_1), (5, .int x5_2)]) hx hb d_M_shiftedLeft_82 hl (by decide) rfl (fun ls hl => ?_)
        obtain ⟨I_84, μ_84, h0_84, hs_84⟩ := h
        have loop_84 : ∀ (N : Nat) (x6_5 : Int32) (A_5 : gm_M) (H : Heap) (locs : List Loc) (ls : Array Slot), μ_84 x6_5 A_5 < N → I_84 x6_5 A_5 → va_P D gcls (gs_ws Λ F A_5 L) H → va_S (gw_A Λ) s.heap H locs → lv_has ls 7 [(1, .int p2), (3, .ref a4), (4, .int x4_1), (6, .int x6_5)] → W p l e rm_M_shiftedLeft s m args below meth c H locs 0 0 Q (F0 m 84 ls []) := by
          intro N
          induction N with
          | zero => intro x6_5 A_5 H locs ls hμ; exact absurd hμ (Nat.not_lt_zero _)
          | succ N ih_84 =>
            intro x6_5 A_5 H locs ls hμ_84 hI hP hS hl
            have h := hs_84 x6_5 A_5 hI
            refine lv_iload hx hb d_M_shiftedLeft_84 (lv_at hl 3 rfl) ?_
            refine lv_iload hx hb d_M_shiftedLeft_86 (lv_at hl 2 rfl) ?_
            refine lv_icmp_ge (tgt := 102) hx hb d_M_shiftedLeft_88 (by decide) (fun c_88 => ?_) (fun c_88 => ?_)
            · have h := h.1 c_88
              refine lv_aload_n hx hb d_M_shiftedLeft_102 rfl (lv_at hl 1 rfl) ?_
              refine lv_iload_n hx hb d_M_shiftedLeft_103 rfl (lv_at hl 0 rfl) ?_
              refine lv_iload hx hb d_M_shiftedLeft_104 (lv_at hl 2 rfl) ?_
              refine lv_iadd hx hb d_M_shiftedLeft_106 ?_
              refine lv_iconst (v := (1 : Int32)) hx hb d_M_shiftedLeft_107 (by decide) ?_
              refine lv_iadd hx hb d_M_shiftedLeft_108 ?_
              refine gw_goi (gw_runS (As := [.ref a4, .int ((p2 + x4_1) + (1 : Int32))]) (rest := []) hx hb hml hown htw hK hP hS hl.1 (w_M_trim hlo a4 n4 ((p2 + x4_1) + (1 : Int32)) h4 F A_5 _ h) k_M_trim mm_725 ⟨Nat.le_of_ble_eq_true rfl, Nat.le_of_ble_eq_true rfl⟩ rfl rfl rfl rfl (Nat.le_of_ble_eq_true rfl) d_M_shiftedLeft_109) hS (fun r_6 F_6 A_6 H locs hw hP hS => ?_)
              obtain ⟨rfl, hw⟩ := hw
              obtain ⟨rfl, hw⟩ := hw
              have h := hw
              rw [← hQe]
              exact gw_iret hx hb hr hlocks hP hK hS ⟨rfl, h⟩ d_M_shiftedLeft_112
            · have h := h.2 c_88
              refine lv_aload_n hx hb d_M_shiftedLeft_91 rfl (lv_at hl 1 rfl) ?_
              refine lv_iload hx hb d_M_shiftedLeft_92 (lv_at hl 3 rfl) ?_
              refine lv_iconst (v := (0 : Int32)) hx hb d_M_shiftedLeft_94 (by decide) ?_
              obtain ⟨hin, h⟩ := h
              refine gs_ist hx hb hK hlo hP hS h4 hin d_M_shiftedLeft_95 (fun A_7 eA_7 H locs hP hS => ?_)
              have h := h A_7 eA_7
              obtain ⟨x6_8, ex6_8⟩ : ∃ y : Int32, y = x6_5 + (1 : Int32) := ⟨_, rfl⟩
              have h := h x6_8 ex6_8
              refine lv_iinc (v := x6_8) (lv' := [(6, .int x6_8), (1, .int p2), (3, .ref a4), (4, .int x4_1)]) hx hb d_M_shiftedLeft_96 hl (k := 3) rfl (by rw [ex6_8]; rfl) (by decide) rfl (fun ls hl => ?_)
              refine lv_goto (tgt := 84) hx hb d_M_shiftedLeft_99 (by decide) ?_
              exact ih_84 x6_8 A_7 _ _ _ (Nat.lt_of_lt_of_le h.2 (Nat.le_of_lt_succ hμ_84)) h.1 hP hS (lv_sub hl [1, 2, 3, 0] rfl)
        exact loop_84 (μ_84 (0 : Int32) A_4 + 1) (0 : Int32) A_4 _ _ _ (Nat.lt_succ_self _) h0_84 hP hS (lv_sub hl [2, 3, 4, 0] rfl)
      · have h := h.2 c_23
        refine lv_aload_n hx hb d_M_shiftedLeft_26 rfl (lv_at hl 2 rfl) ?_
        refine lv_iload hx hb d_M_shiftedLeft_27 (lv_at hl 5 rfl) ?_
        refine lv_iload hx hb d_M_shiftedLeft_29 (lv_at hl 3 rfl) ?_
        refine lv_iadd hx hb d_M_shiftedLeft_31 ?_
        refine lv_iload hx hb d_M_shiftedLeft_32 (lv_at hl 5 rfl) ?_
        refine lv_iload_n hx hb d_M_shiftedLeft_34 rfl (lv_at hl 1 rfl) ?_
        obtain ⟨J_49, h, hj_49⟩ := h
        have join_49 : ∀ (v0_9 : Int32) (H : Heap) (locs : List Loc) (ls : Array Slot), J_49 v0_9 → va_P D gcls (gs_ws Λ F A_4 L) H → va_S (gw_A Λ) s.heap H locs → lv_has ls 7 [(0, .ref a1), (1, .int p2), (3, .ref a4), (4, .int x4_1), (5, .int x5_2), (6, .int x6_4)] → W p l e rm_M_shiftedLeft s m args below meth c H locs 0 0 Q (F0 m 49 ls [.int v0_9, .int (x6_4 + x4_1), .ref a4]) := by
          intro v0_9 H locs ls hJ hP hS hl
          have h := hj_49 v0_9 hJ
          refine lv_iload hx hb d_M_shiftedLeft_49 (lv_at hl 5 rfl) ?_
          refine lv_if_le (tgt := 69) hx hb d_M_shiftedLeft_51 (by decide) (fun c_51 => ?_) (fun c_51 => ?_)
          · have h := h.1 c_51
            refine lv_iconst (v := (0 : Int32)) hx hb d_M_shiftedLeft_69 (by decide) ?_
            refine lv_ior hx hb d_M_shiftedLeft_70 ?_
            refine lv_ldc (v := (65535 : Int32)) hx hb hown (htw _ mm_761) d_M_shiftedLeft_71 ?_
            refine lv_iand hx hb d_M_shiftedLeft_73 ?_
            obtain ⟨hin, h⟩ := h
            refine gs_ist hx hb hK hlo hP hS h4 hin d_M_shiftedLeft_74 (fun A_10 eA_10 H locs hP hS => ?_)
            have h := h A_10 eA_10
            obtain ⟨x6_11, ex6_11⟩ : ∃ y : Int32, y = x6_4 + (-1 : Int32) := ⟨_, rfl⟩
            have h := h x6_11 ex6_11
            refine lv_iinc (v := x6_11) (lv' := [(6, .int x6_11), (0, .ref a1), (1, .int p2), (3, .ref a4), (4, .int x4_1), (5, .int x5_2)]) hx hb d_M_shiftedLeft_75 hl (k := 5) rfl (by rw [ex6_11]; rfl) (by decide) rfl (fun ls hl => ?_)
            refine lv_goto (tgt := 21) hx hb d_M_shiftedLeft_78 (by decide) ?_
            exact ih_21 x6_11 A_10 _ _ _ (Nat.lt_of_lt_of_le h.2 (Nat.le_of_lt_succ hμ_21)) h.1 hP hS (lv_sub hl [1, 2, 3, 4, 5, 0] rfl)
          · have h := h.2 c_51
            refine lv_aload_n hx hb d_M_shiftedLeft_54 rfl (lv_at hl 0 rfl) ?_
            refine lv_iload hx hb d_M_shiftedLeft_55 (lv_at hl 5 rfl) ?_
            refine lv_iconst (v := (1 : Int32)) hx hb d_M_shiftedLeft_57 (by decide) ?_
            refine lv_isub hx hb d_M_shiftedLeft_58 ?_
            obtain ⟨hin, h⟩ := h
            refine gs_ild hx hb hK hP h1 hin d_M_shiftedLeft_59 ?_
            refine lv_bipush (v := (16 : Int32)) hx hb d_M_shiftedLeft_60 (by decide) ?_
            refine lv_iload hx hb d_M_shiftedLeft_62 (lv_at hl 4 rfl) ?_
            refine lv_isub hx hb d_M_shiftedLeft_64 ?_
            refine lv_ishr hx hb d_M_shiftedLeft_65 ?_
            refine lv_goto (tgt := 70) hx hb d_M_shiftedLeft_66 (by decide) ?_
            refine lv_ior hx hb d_M_shiftedLeft_70 ?_
            refine lv_ldc (v := (65535 : Int32)) hx hb hown (htw _ mm_761) d_M_shiftedLeft_71 ?_
            refine lv_iand hx hb d_M_shiftedLeft_73 ?_
            obtain ⟨hin, h⟩ := h
            refine gs_ist hx hb hK hlo hP hS h4 hin d_M_shiftedLeft_74 (fun A_12 eA_12 H locs hP hS => ?_)
            have h := h A_12 eA_12
            obtain ⟨x6_13, ex6_13⟩ : ∃ y : Int32, y = x6_4 + (-1 : Int32) := ⟨_, rfl⟩
            have h := h x6_13 ex6_13
            refine lv_iinc (v := x6_13) (lv' := [(6, .int x6_13), (0, .ref a1), (1, .int p2), (3, .ref a4), (4, .int x4_1), (5, .int x5_2)]) hx hb d_M_shiftedLeft_75 hl (k := 5) rfl (by rw [ex6_13]; rfl) (by decide) rfl (fun ls hl => ?_)
            refine lv_goto (tgt := 21) hx hb d_M_shiftedLeft_78 (by decide) ?_
            exact ih_21 x6_13 A_12 _ _ _ (Nat.lt_of_lt_of_le h.2 (Nat.le_of_lt_succ hμ_21)) h.1 hP hS (lv_sub hl [1, 2, 3, 4, 5, 0] rfl)
        refine lv_icmp_ge (tgt := 48) hx hb d_M_shiftedLeft_35 (by decide) (fun c_35 => ?_) (fun c_35 => ?_)
        · have h := h.1 c_35
          refine lv_iconst (v := (0 : Int32)) hx hb d_M_shiftedLeft_48 (by decide) ?_
          exact join_49 (0 : Int32) _ _ _ h hP hS hl
        · have h := h.2 c_35
          refine lv_aload_n hx hb d_M_shiftedLeft_38 rfl (lv_at hl 0 rfl) ?_
          refine lv_iload hx hb d_M_shiftedLeft_39 (lv_at hl 5 rfl) ?_
          obtain ⟨hin, h⟩ := h
          refine gs_ild hx hb hK hP h1 hin d_M_shiftedLeft_41 ?_
          refine lv_iload hx hb d_M_shiftedLeft_42 (lv_at hl 4 rfl) ?_
          refine lv_ishl hx hb d_M_shiftedLeft_44 ?_
          refine lv_goto (tgt := 49) hx hb d_M_shiftedLeft_45 (by decide) ?_
          exact join_49 ((A_4 a1 x6_4.toNatClampNeg) <<< (x5_2 &&& 31)) _ _ _ h hP hS hl
  exact loop_21 (μ_21 p2 A_3 + 1) p2 A_3 _ _ _ (Nat.lt_succ_self _) h0_21 hP hS (lv_sub hl [3, 4, 6, 2, 1, 0] rfl)
abbrev rm_M_isBit : Room := { frames := 0, cells := 0, slots := 0, locals := 0 }
set_option maxHeartbeats 4000000 in
set_option maxRecDepth 100000 in
theorem w_M_isBit (hlo : gs_D Λ) (a1 n1 : Nat) (p2 : Int32) (p3 : Int32) (h1 : (a1, gI cI n1) ∈ Λ) (F A : gm_M) (post : Int32 → Prop) (h : vc_M_isBit a1 n1 p2 p3 F A post) : Met l y_M_isBit (.code y_M_isBit b_M_isBit 3 (some .boolean) :: gw_WS) rm_M_isBit (va_Pc [.ref a1, .int p2, .int p3] (gw_P D cI cB cJ cW Λ L F A)) (gw_Qi D cI cB cJ cW Λ L (fun r F2 A2 => F = F2 ∧ A = A2 ∧ post r)) 0 0 (gw_A Λ) := by
  refine Met.ofW (cc := b_M_isBit) (maxL := 3) (ret := (some .boolean)) (by decide) rfl ?_
  intro p e s m args below meth c s₁ B hml hv
  obtain ⟨hargs, hP, hK⟩ := hv
  have hx := B.exec
  have hb := B.bytes
  have hr := B.returns
  have hlocks := B.notSynchronized
  have htw : ∀ w ∈ gw_WS, w.before args s = true := fun w h9 => atoms_spec (ws := .code y_M_isBit b_M_isBit 3 (some .boolean) :: gw_WS) B.pre w (List.mem_cons_of_mem _ h9)
  have hown : s.vm.findClass R_M = some m.cls := findClass_of_methodNamed B.named
  have hS : va_S (gw_A Λ) s.heap s.heap [] := va_S.rf
  refine W.eq (g2 := entryFrame m ([.ref a1, .int p2, .int p3] : List Value).toArray 3) (by rw [hargs]) ?_
  have hl := lv_entry ([.ref a1, .int p2, .int p3]) (n := 3) (Nat.le_of_ble_eq_true rfl)
  rw [lg_entry_eq]
  generalize (lg_sl ([.ref a1, .int p2, .int p3]) ++ List.replicate (3 - (lg_sl ([.ref a1, .int p2, .int p3])).length) Slot.unset).toArray = ls at hl ⊢
  have hl : lv_has ls 3 [(0, .ref a1), (1, .int p2), (2, .int p3)] := hl
  generalize hQe : MQ below (gw_Qi D cI cB cJ cW Λ L (fun r F2 A2 => F = F2 ∧ A = A2 ∧ post r)) args s 0 0 (gw_A Λ) = Q
  unfold vc_M_isBit at h
  refine lv_iload_n hx hb d_M_isBit_0 rfl (lv_at hl 2 rfl) ?_
  refine lv_if_lt (tgt := 30) hx hb d_M_isBit_1 (by decide) (fun c_1 => ?_) (fun c_1 => ?_)
  · have h := h.1 c_1
    refine lv_iconst (v := (0 : Int32)) hx hb d_M_isBit_30 (by decide) ?_
    rw [← hQe]
    exact gw_zret hx hb hr hlocks hP hK hS (by decide) ⟨rfl, rfl, h⟩ d_M_isBit_31
  · have h := h.2 c_1
    refine lv_iload_n hx hb d_M_isBit_4 rfl (lv_at hl 2 rfl) ?_
    refine lv_iconst (v := (4 : Int32)) hx hb d_M_isBit_5 (by decide) ?_
    refine lv_ishr hx hb d_M_isBit_6 ?_
    refine lv_iload_n hx hb d_M_isBit_7 rfl (lv_at hl 1 rfl) ?_
    refine lv_icmp_ge (tgt := 30) hx hb d_M_isBit_8 (by decide) (fun c_8 => ?_) (fun c_8 => ?_)
    · have h := h.1 c_8
      refine lv_iconst (v := (0 : Int32)) hx hb d_M_isBit_30 (by decide) ?_
      rw [← hQe]
      exact gw_zret hx hb hr hlocks hP hK hS (by decide) ⟨rfl, rfl, h⟩ d_M_isBit_31
    · have h := h.2 c_8
      refine lv_aload_n hx hb d_M_isBit_11 rfl (lv_at hl 0 rfl) ?_
      refine lv_iload_n hx hb d_M_isBit_12 rfl (lv_at hl 2 rfl) ?_
      refine lv_iconst (v := (4 : Int32)) hx hb d_M_isBit_13 (by decide) ?_
      refine lv_ishr hx hb d_M_isBit_14 ?_
      obtain ⟨hin, h⟩ := h
      refine gs_ild hx hb hK hP h1 hin d_M_isBit_15 ?_
      refine lv_iload_n hx hb d_M_isBit_16 rfl (lv_at hl 2 rfl) ?_
      refine lv_bipush (v := (15 : Int32)) hx hb d_M_isBit_17 (by decide) ?_
      refine lv_iand hx hb d_M_isBit_19 ?_
      refine lv_ishr hx hb d_M_isBit_20 ?_
      refine lv_iconst (v := (1 : Int32)) hx hb d_M_isBit_21 (by decide) ?_
      refine lv_iand hx hb d_M_isBit_22 ?_
      refine lv_if_eq (tgt := 30) hx hb d_M_isBit_23 (by decide) (fun c_23 => ?_) (fun c_23 => ?_)
      · have h := h.1 c_23
        refine lv_iconst (v := (0 : Int32)) hx hb d_M_isBit_30 (by decide) ?_
        rw [← hQe]
        exact gw_zret hx hb hr hlocks hP hK hS (by decide) ⟨rfl, rfl, h⟩ d_M_isBit_31
      · have h := h.2 c_23
        refine lv_iconst (v := (1 : Int32)) hx hb d_M_isBit_26 (by decide) ?_
        refine lv_goto (tgt := 31) hx hb d_M_isBit_27 (by decide) ?_
        rw [← hQe]
        exact gw_zret hx hb hr hlocks hP hK hS (by decide) ⟨rfl, rfl, h⟩ d_M_isBit_31
abbrev rm_M_in : Room := { frames := 0, cells := 0, slots := 0, locals := 0 }
set_option maxHeartbeats 4000000 in
set_option maxRecDepth 100000 in
theorem w_M_in (hlo : gs_D Λ) (p1 : Int32) (p2 : Int32) (p3 : Int32) (F A : gm_M) (post : Int32 → Prop) (h : vc_M_in p1 p2 p3 F A post) : Met l y_M_in (.code y_M_in b_M_in 3 (some .boolean) :: gw_WS) rm_M_in (va_Pc [.int p1, .int p2, .int p3] (gw_P D cI cB cJ cW Λ L F A)) (gw_Qi D cI cB cJ cW Λ L (fun r F2 A2 => F = F2 ∧ A = A2 ∧ post r)) 0 0 (gw_A Λ) := by
  refine Met.ofW (cc := b_M_in) (maxL := 3) (ret := (some .boolean)) (by decide) rfl ?_
  intro p e s m args below meth c s₁ B hml hv
  obtain ⟨hargs, hP, hK⟩ := hv
  have hx := B.exec
  have hb := B.bytes
  have hr := B.returns
  have hlocks := B.notSynchronized
  have htw : ∀ w ∈ gw_WS, w.before args s = true := fun w h9 => atoms_spec (ws := .code y_M_in b_M_in 3 (some .boolean) :: gw_WS) B.pre w (List.mem_cons_of_mem _ h9)
  have hown : s.vm.findClass R_M = some m.cls := findClass_of_methodNamed B.named
  have hS : va_S (gw_A Λ) s.heap s.heap [] := va_S.rf
  refine W.eq (g2 := entryFrame m ([.int p1, .int p2, .int p3] : List Value).toArray 3) (by rw [hargs]) ?_
  have hl := lv_entry ([.int p1, .int p2, .int p3]) (n := 3) (Nat.le_of_ble_eq_true rfl)
  rw [lg_entry_eq]
  generalize (lg_sl ([.int p1, .int p2, .int p3]) ++ List.replicate (3 - (lg_sl ([.int p1, .int p2, .int p3])).length) Slot.unset).toArray = ls at hl ⊢
  have hl : lv_has ls 3 [(0, .int p1), (1, .int p2), (2, .int p3)] := hl
  generalize hQe : MQ below (gw_Qi D cI cB cJ cW Λ L (fun r F2 A2 => F = F2 ∧ A = A2 ∧ post r)) args s 0 0 (gw_A Λ) = Q
  unfold vc_M_in at h
  refine lv_iload_n hx hb d_M_in_0 rfl (lv_at hl 0 rfl) ?_
  refine lv_iload_n hx hb d_M_in_1 rfl (lv_at hl 1 rfl) ?_
  refine lv_icmp_lt (tgt := 14) hx hb d_M_in_2 (by decide) (fun c_2 => ?_) (fun c_2 => ?_)
  · have h := h.1 c_2
    refine lv_iconst (v := (0 : Int32)) hx hb d_M_in_14 (by decide) ?_
    rw [← hQe]
    exact gw_zret hx hb hr hlocks hP hK hS (by decide) ⟨rfl, rfl, h⟩ d_M_in_15
  · have h := h.2 c_2
    refine lv_iload_n hx hb d_M_in_5 rfl (lv_at hl 0 rfl) ?_
    refine lv_iload_n hx hb d_M_in_6 rfl (lv_at hl 2 rfl) ?_
    refine lv_icmp_gt (tgt := 14) hx hb d_M_in_7 (by decide) (fun c_7 => ?_) (fun c_7 => ?_)
    · have h := h.1 c_7
      refine lv_iconst (v := (0 : Int32)) hx hb d_M_in_14 (by decide) ?_
      rw [← hQe]
      exact gw_zret hx hb hr hlocks hP hK hS (by decide) ⟨rfl, rfl, h⟩ d_M_in_15
    · have h := h.2 c_7
      refine lv_iconst (v := (1 : Int32)) hx hb d_M_in_10 (by decide) ?_
      refine lv_goto (tgt := 15) hx hb d_M_in_11 (by decide) ?_
      rw [← hQe]
      exact gw_zret hx hb hr hlocks hP hK hS (by decide) ⟨rfl, rfl, h⟩ d_M_in_15
abbrev rm_M_fails : Room := { frames := 0, cells := 0, slots := 0, locals := 0 }
set_option maxHeartbeats 4000000 in
set_option maxRecDepth 100000 in
theorem w_M_fails (hlo : gs_D Λ) (K : Nat → Nat) (p1 : Int32) (p2 : Int32) (hΜ : gMd cI Λ K) (F A : gm_M) (post : Int32 → gm_M → Prop) (h : vc_M_fails K p1 p2 F A post) : Met l y_M_fails (.code y_M_fails b_M_fails 3 (some .boolean) :: gw_WS) rm_M_fails (va_Pc [.ref (K 49), .int p1, .int p2] (gw_P D cI cB cJ cW Λ L F A)) (gw_Qi D cI cB cJ cW Λ L (fun r F2 A2 => A = A2 ∧ post r F2)) 0 0 (gw_A Λ) := by
  refine Met.ofW (cc := b_M_fails) (maxL := 3) (ret := (some .boolean)) (by decide) rfl ?_
  intro p e s m args below meth c s₁ B hml hv
  obtain ⟨hargs, hP, hK⟩ := hv
  have hx := B.exec
  have hb := B.bytes
  have hr := B.returns
  have hlocks := B.notSynchronized
  have htw : ∀ w ∈ gw_WS, w.before args s = true := fun w h9 => atoms_spec (ws := .code y_M_fails b_M_fails 3 (some .boolean) :: gw_WS) B.pre w (List.mem_cons_of_mem _ h9)
  have hown : s.vm.findClass R_M = some m.cls := findClass_of_methodNamed B.named
  have hS : va_S (gw_A Λ) s.heap s.heap [] := va_S.rf
  refine W.eq (g2 := entryFrame m ([.ref (K 49), .int p1, .int p2] : List Value).toArray 3) (by rw [hargs]) ?_
  have hl := lv_entry ([.ref (K 49), .int p1, .int p2]) (n := 3) (Nat.le_of_ble_eq_true rfl)
  rw [lg_entry_eq]
  generalize (lg_sl ([.ref (K 49), .int p1, .int p2]) ++ List.replicate (3 - (lg_sl ([.ref (K 49), .int p1, .int p2])).length) Slot.unset).toArray = ls at hl ⊢
  have hl : lv_has ls 3 [(0, .ref (K 49)), (1, .int p1), (2, .int p2)] := hl
  generalize hQe : MQ below (gw_Qi D cI cB cJ cW Λ L (fun r F2 A2 => A = A2 ∧ post r F2)) args s 0 0 (gw_A Λ) = Q
  unfold vc_M_fails at h
  refine lv_iload_n hx hb d_M_fails_0 rfl (lv_at hl 1 rfl) ?_
  refine lv_if_eq (tgt := 16) hx hb d_M_fails_1 (by decide) (fun c_1 => ?_) (fun c_1 => ?_)
  · have h := h.1 c_1
    refine lv_aload_n hx hb d_M_fails_16 rfl (lv_at hl 0 rfl) ?_
    refine gs_get (v := .int (F (K 49) 0)) hx hb htw i_M hown hK hP (gMd_0 hΜ) rfl 0 (by decide) (htw _ mm_642) rfl d_M_fails_17 ?_
    refine lv_if_eq (tgt := 27) hx hb d_M_fails_20 (by decide) (fun c_20 => ?_) (fun c_20 => ?_)
    · have h := h.1 c_20
      refine lv_iconst (v := (0 : Int32)) hx hb d_M_fails_27 (by decide) ?_
      rw [← hQe]
      exact gw_zret hx hb hr hlocks hP hK hS (by decide) ⟨rfl, h⟩ d_M_fails_28
    · have h := h.2 c_20
      refine lv_iconst (v := (1 : Int32)) hx hb d_M_fails_23 (by decide) ?_
      refine lv_goto (tgt := 28) hx hb d_M_fails_24 (by decide) ?_
      rw [← hQe]
      exact gw_zret hx hb hr hlocks hP hK hS (by decide) ⟨rfl, h⟩ d_M_fails_28
  · have h := h.2 c_1
    refine lv_aload_n hx hb d_M_fails_4 rfl (lv_at hl 0 rfl) ?_
    refine gs_get (v := .int (F (K 49) 0)) hx hb htw i_M hown hK hP (gMd_0 hΜ) rfl 0 (by decide) (htw _ mm_642) rfl d_M_fails_5 ?_
    refine lv_if_ne (tgt := 16) hx hb d_M_fails_8 (by decide) (fun c_8 => ?_) (fun c_8 => ?_)
    · have h := h.1 c_8
      refine lv_aload_n hx hb d_M_fails_16 rfl (lv_at hl 0 rfl) ?_
      refine gs_get (v := .int (F (K 49) 0)) hx hb htw i_M hown hK hP (gMd_0 hΜ) rfl 0 (by decide) (htw _ mm_642) rfl d_M_fails_17 ?_
      refine lv_if_eq (tgt := 27) hx hb d_M_fails_20 (by decide) (fun c_20 => ?_) (fun c_20 => ?_)
      · have h := h.1 c_20
        refine lv_iconst (v := (0 : Int32)) hx hb d_M_fails_27 (by decide) ?_
        rw [← hQe]
        exact gw_zret hx hb hr hlocks hP hK hS (by decide) ⟨rfl, h⟩ d_M_fails_28
      · have h := h.2 c_20
        refine lv_iconst (v := (1 : Int32)) hx hb d_M_fails_23 (by decide) ?_
        refine lv_goto (tgt := 28) hx hb d_M_fails_24 (by decide) ?_
        rw [← hQe]
        exact gw_zret hx hb hr hlocks hP hK hS (by decide) ⟨rfl, h⟩ d_M_fails_28
    · have h := h.2 c_8
      refine lv_aload_n hx hb d_M_fails_11 rfl (lv_at hl 0 rfl) ?_
      refine lv_iload_n hx hb d_M_fails_12 rfl (lv_at hl 2 rfl) ?_
      refine gs_put (ty := .int) hx hb htw i_M tf_M tf_M_ok n_M hown hK hlo hP hS (gMd_0 hΜ) rfl 0 (by decide) rfl (htw _ mm_642) rfl (by decide +kernel) rfl rfl d_M_fails_13 (fun F_1 eF_1 H locs hP hS => ?_)
      have h := h F_1 eF_1
      refine lv_aload_n hx hb d_M_fails_16 rfl (lv_at hl 0 rfl) ?_
      refine gs_get (v := .int (F_1 (K 49) 0)) hx hb htw i_M hown hK hP (gMd_0 hΜ) rfl 0 (by decide) (htw _ mm_642) rfl d_M_fails_17 ?_
      refine lv_if_eq (tgt := 27) hx hb d_M_fails_20 (by decide) (fun c_20 => ?_) (fun c_20 => ?_)
      · have h := h.1 c_20
        refine lv_iconst (v := (0 : Int32)) hx hb d_M_fails_27 (by decide) ?_
        rw [← hQe]
        exact gw_zret hx hb hr hlocks hP hK hS (by decide) ⟨rfl, h⟩ d_M_fails_28
      · have h := h.2 c_20
        refine lv_iconst (v := (1 : Int32)) hx hb d_M_fails_23 (by decide) ?_
        refine lv_goto (tgt := 28) hx hb d_M_fails_24 (by decide) ?_
        rw [← hQe]
        exact gw_zret hx hb hr hlocks hP hK hS (by decide) ⟨rfl, h⟩ d_M_fails_28
abbrev rm_M_isRegister : Room := { frames := 1, cells := 0, slots := 0, locals := 22 }
set_option maxHeartbeats 4000000 in
set_option maxRecDepth 100000 in
theorem w_M_isRegister (hlo : gs_D Λ) (p1 : Int32) (F A : gm_M) (post : Int32 → Prop) (h : vc_M_isRegister p1 F A post) : Met l y_M_isRegister (.code y_M_isRegister b_M_isRegister 1 (some .boolean) :: gw_WS) rm_M_isRegister (va_Pc [.int p1] (gw_P D cI cB cJ cW Λ L F A)) (gw_Qi D cI cB cJ cW Λ L (fun r F2 A2 => F = F2 ∧ A = A2 ∧ post r)) 0 0 (gw_A Λ) := by
  refine Met.ofW (cc := b_M_isRegister) (maxL := 1) (ret := (some .boolean)) (by decide) rfl ?_
  intro p e s m args below meth c s₁ B hml hv
  obtain ⟨hargs, hP, hK⟩ := hv
  have hx := B.exec
  have hb := B.bytes
  have hr := B.returns
  have hlocks := B.notSynchronized
  have htw : ∀ w ∈ gw_WS, w.before args s = true := fun w h9 => atoms_spec (ws := .code y_M_isRegister b_M_isRegister 1 (some .boolean) :: gw_WS) B.pre w (List.mem_cons_of_mem _ h9)
  have hown : s.vm.findClass R_M = some m.cls := findClass_of_methodNamed B.named
  have hS : va_S (gw_A Λ) s.heap s.heap [] := va_S.rf
  refine W.eq (g2 := entryFrame m ([.int p1] : List Value).toArray 1) (by rw [hargs]) ?_
  have hl := lv_entry ([.int p1]) (n := 1) (Nat.le_of_ble_eq_true rfl)
  rw [lg_entry_eq]
  generalize (lg_sl ([.int p1]) ++ List.replicate (1 - (lg_sl ([.int p1])).length) Slot.unset).toArray = ls at hl ⊢
  have hl : lv_has ls 1 [(0, .int p1)] := hl
  generalize hQe : MQ below (gw_Qi D cI cB cJ cW Λ L (fun r F2 A2 => F = F2 ∧ A = A2 ∧ post r)) args s 0 0 (gw_A Λ) = Q
  unfold vc_M_isRegister at h
  refine lv_iload_n hx hb d_M_isRegister_0 rfl (lv_at hl 0 rfl) ?_
  refine lv_iconst (v := (0 : Int32)) hx hb d_M_isRegister_1 (by decide) ?_
  refine lv_bipush (v := (15 : Int32)) hx hb d_M_isRegister_2 (by decide) ?_
  refine gw_goi (gw_runS (As := [.int p1, .int (0 : Int32), .int (15 : Int32)]) (rest := []) hx hb hml hown htw hK hP hS hl.1 (w_M_in hlo p1 (0 : Int32) (15 : Int32) F A _ h) k_M_in mm_702 ⟨Nat.le_of_ble_eq_true rfl, Nat.le_of_ble_eq_true rfl⟩ rfl rfl rfl rfl (Nat.le_of_ble_eq_true rfl) d_M_isRegister_4) hS (fun r_1 F_1 A_1 H locs hw hP hS => ?_)
  obtain ⟨rfl, hw⟩ := hw
  obtain ⟨rfl, hw⟩ := hw
  have h := hw
  obtain ⟨hz, h⟩ := h
  rw [← hQe]
  exact gw_zret hx hb hr hlocks hP hK hS hz ⟨rfl, rfl, h⟩ d_M_isRegister_7
abbrev rm_M_load : Room := { frames := 0, cells := 0, slots := 0, locals := 0 }
set_option maxHeartbeats 4000000 in
set_option maxRecDepth 100000 in
theorem w_M_load (hlo : gs_D Λ) (K : Nat → Nat) (p1 : Int32) (a2 n2 : Nat) (hΜ : gMd cI Λ K) (h2 : (a2, gI cI n2) ∈ Λ) (F A : gm_M) (post : Int32 → gm_M → Prop) (h : vc_M_load K p1 a2 n2 F A post) : Met l y_M_load (.code y_M_load b_M_load 4 (some .int) :: gw_WS) rm_M_load (va_Pc [.ref (K 49), .int p1, .ref a2] (gw_P D cI cB cJ cW Λ L F A)) (gw_Qi D cI cB cJ cW Λ L (fun r F2 A2 => F = F2 ∧ post r A2)) 0 0 (gw_A Λ) := by
  refine Met.ofW (cc := b_M_load) (maxL := 4) (ret := (some .int)) (by decide) rfl ?_
  intro p e s m args below meth c s₁ B hml hv
  obtain ⟨hargs, hP, hK⟩ := hv
  have hx := B.exec
  have hb := B.bytes
  have hr := B.returns
  have hlocks := B.notSynchronized
  have htw : ∀ w ∈ gw_WS, w.before args s = true := fun w h9 => atoms_spec (ws := .code y_M_load b_M_load 4 (some .int) :: gw_WS) B.pre w (List.mem_cons_of_mem _ h9)
  have hown : s.vm.findClass R_M = some m.cls := findClass_of_methodNamed B.named
  have hS : va_S (gw_A Λ) s.heap s.heap [] := va_S.rf
  refine W.eq (g2 := entryFrame m ([.ref (K 49), .int p1, .ref a2] : List Value).toArray 4) (by rw [hargs]) ?_
  have hl := lv_entry ([.ref (K 49), .int p1, .ref a2]) (n := 4) (Nat.le_of_ble_eq_true rfl)
  rw [lg_entry_eq]
  generalize (lg_sl ([.ref (K 49), .int p1, .ref a2]) ++ List.replicate (4 - (lg_sl ([.ref (K 49), .int p1, .ref a2])).length) Slot.unset).toArray = ls at hl ⊢
  have hl : lv_has ls 4 [(0, .ref (K 49)), (1, .int p1), (2, .ref a2)] := hl
  generalize hQe : MQ below (gw_Qi D cI cB cJ cW Λ L (fun r F2 A2 => F = F2 ∧ post r A2)) args s 0 0 (gw_A Λ) = Q
  unfold vc_M_load at h
  refine lv_iconst (v := (0 : Int32)) hx hb d_M_load_0 (by decide) ?_
  refine lv_istore_n (lv' := [(3, .int (0 : Int32)), (0, .ref (K 49)), (1, .int p1), (2, .ref a2)]) hx hb d_M_load_1 rfl hl (by decide) rfl (fun ls hl => ?_)
  obtain ⟨I_2, μ_2, h0_2, hs_2⟩ := h
  have loop_2 : ∀ (N : Nat) (x3_1 : Int32) (A_1 : gm_M) (H : Heap) (locs : List Loc) (ls : Array Slot), μ_2 x3_1 A_1 < N → I_2 x3_1 A_1 → va_P D gcls (gs_ws Λ F A_1 L) H → va_S (gw_A Λ) s.heap H locs → lv_has ls 4 [(0, .ref (K 49)), (1, .int p1), (2, .ref a2), (3, .int x3_1)] → W p l e rm_M_load s m args below meth c H locs 0 0 Q (F0 m 2 ls []) := by
    intro N
    induction N with
    | zero => intro x3_1 A_1 H locs ls hμ; exact absurd hμ (Nat.not_lt_zero _)
    | succ N ih_2 =>
      intro x3_1 A_1 H locs ls hμ_2 hI hP hS hl
      have h := hs_2 x3_1 A_1 hI
      refine lv_iload_n hx hb d_M_load_2 rfl (lv_at hl 3 rfl) ?_
      refine lv_aload_n hx hb d_M_load_3 rfl (lv_at hl 0 rfl) ?_
      refine gs_get (v := .ref (K 51)) hx hb htw i_M hown hK hP (gMd_0 hΜ) rfl 3 (by decide) (htw _ mm_645) rfl d_M_load_4 ?_
      refine lv_iload_n hx hb d_M_load_7 rfl (lv_at hl 1 rfl) ?_
      obtain ⟨hin, h⟩ := h
      refine gs_ild hx hb hK hP (gMd_51 hΜ) hin d_M_load_8 ?_
      refine lv_icmp_ge (tgt := 33) hx hb d_M_load_9 (by decide) (fun c_9 => ?_) (fun c_9 => ?_)
      · have h := h.1 c_9
        refine lv_aload_n hx hb d_M_load_33 rfl (lv_at hl 0 rfl) ?_
        refine gs_get (v := .ref (K 51)) hx hb htw i_M hown hK hP (gMd_0 hΜ) rfl 3 (by decide) (htw _ mm_645) rfl d_M_load_34 ?_
        refine lv_iload_n hx hb d_M_load_37 rfl (lv_at hl 1 rfl) ?_
        obtain ⟨hin, h⟩ := h
        refine gs_ild hx hb hK hP (gMd_51 hΜ) hin d_M_load_38 ?_
        rw [← hQe]
        exact gw_iret hx hb hr hlocks hP hK hS ⟨rfl, h⟩ d_M_load_39
      · have h := h.2 c_9
        refine lv_aload_n hx hb d_M_load_12 rfl (lv_at hl 2 rfl) ?_
        refine lv_iload_n hx hb d_M_load_13 rfl (lv_at hl 3 rfl) ?_
        refine lv_aload_n hx hb d_M_load_14 rfl (lv_at hl 0 rfl) ?_
        refine gs_get (v := .ref (K 50)) hx hb htw i_M hown hK hP (gMd_0 hΜ) rfl 2 (by decide) (htw _ mm_644) rfl d_M_load_15 ?_
        refine lv_sipush (v := (129 : Int32)) hx hb d_M_load_18 (by decide) ?_
        refine lv_iload_n hx hb d_M_load_21 rfl (lv_at hl 1 rfl) ?_
        refine lv_imul hx hb d_M_load_22 ?_
        refine lv_iload_n hx hb d_M_load_23 rfl (lv_at hl 3 rfl) ?_
        refine lv_iadd hx hb d_M_load_24 ?_
        obtain ⟨hin, h⟩ := h
        refine gs_ild hx hb hK hP (gMd_50 hΜ) hin d_M_load_25 ?_
        obtain ⟨hin, h⟩ := h
        refine gs_ist hx hb hK hlo hP hS h2 hin d_M_load_26 (fun A_2 eA_2 H locs hP hS => ?_)
        have h := h A_2 eA_2
        obtain ⟨x3_3, ex3_3⟩ : ∃ y : Int32, y = x3_1 + (1 : Int32) := ⟨_, rfl⟩
        have h := h x3_3 ex3_3
        refine lv_iinc (v := x3_3) (lv' := [(3, .int x3_3), (0, .ref (K 49)), (1, .int p1), (2, .ref a2)]) hx hb d_M_load_27 hl (k := 3) rfl (by rw [ex3_3]; rfl) (by decide) rfl (fun ls hl => ?_)
        refine lv_goto (tgt := 2) hx hb d_M_load_30 (by decide) ?_
        exact ih_2 x3_3 A_2 _ _ _ (Nat.lt_of_lt_of_le h.2 (Nat.le_of_lt_succ hμ_2)) h.1 hP hS (lv_sub hl [1, 2, 3, 0] rfl)
  exact loop_2 (μ_2 (0 : Int32) A + 1) (0 : Int32) A _ _ _ (Nat.lt_succ_self _) h0_2 hP hS (lv_sub hl [1, 2, 3, 0] rfl)
abbrev rm_M_bits : Room := { frames := 0, cells := 0, slots := 0, locals := 0 }
set_option maxHeartbeats 4000000 in
set_option maxRecDepth 100000 in
theorem w_M_bits (hlo : gs_D Λ) (a1 n1 : Nat) (p2 : Int32) (h1 : (a1, gI cI n1) ∈ Λ) (F A : gm_M) (post : Int32 → Prop) (h : vc_M_bits a1 n1 p2 F A post) : Met l y_M_bits (.code y_M_bits b_M_bits 4 (some .int) :: gw_WS) rm_M_bits (va_Pc [.ref a1, .int p2] (gw_P D cI cB cJ cW Λ L F A)) (gw_Qi D cI cB cJ cW Λ L (fun r F2 A2 => F = F2 ∧ A = A2 ∧ post r)) 0 0 (gw_A Λ) := by
  refine Met.ofW (cc := b_M_bits) (maxL := 4) (ret := (some .int)) (by decide) rfl ?_
  intro p e s m args below meth c s₁ B hml hv
  obtain ⟨hargs, hP, hK⟩ := hv
  have hx := B.exec
  have hb := B.bytes
  have hr := B.returns
  have hlocks := B.notSynchronized
  have htw : ∀ w ∈ gw_WS, w.before args s = true := fun w h9 => atoms_spec (ws := .code y_M_bits b_M_bits 4 (some .int) :: gw_WS) B.pre w (List.mem_cons_of_mem _ h9)
  have hown : s.vm.findClass R_M = some m.cls := findClass_of_methodNamed B.named
  have hS : va_S (gw_A Λ) s.heap s.heap [] := va_S.rf
  refine W.eq (g2 := entryFrame m ([.ref a1, .int p2] : List Value).toArray 4) (by rw [hargs]) ?_
  have hl := lv_entry ([.ref a1, .int p2]) (n := 4) (Nat.le_of_ble_eq_true rfl)
  rw [lg_entry_eq]
  generalize (lg_sl ([.ref a1, .int p2]) ++ List.replicate (4 - (lg_sl ([.ref a1, .int p2])).length) Slot.unset).toArray = ls at hl ⊢
  have hl : lv_has ls 4 [(0, .ref a1), (1, .int p2)] := hl
  generalize hQe : MQ below (gw_Qi D cI cB cJ cW Λ L (fun r F2 A2 => F = F2 ∧ A = A2 ∧ post r)) args s 0 0 (gw_A Λ) = Q
  unfold vc_M_bits at h
  refine lv_iload_n hx hb d_M_bits_0 rfl (lv_at hl 1 rfl) ?_
  refine lv_if_ne (tgt := 6) hx hb d_M_bits_1 (by decide) (fun c_1 => ?_) (fun c_1 => ?_)
  · have h := h.1 c_1
    refine lv_bipush (v := (16 : Int32)) hx hb d_M_bits_6 (by decide) ?_
    refine lv_iload_n hx hb d_M_bits_8 rfl (lv_at hl 1 rfl) ?_
    refine lv_iconst (v := (1 : Int32)) hx hb d_M_bits_9 (by decide) ?_
    refine lv_isub hx hb d_M_bits_10 ?_
    refine lv_imul hx hb d_M_bits_11 ?_
    refine lv_topi (fun x2_1 ex2_1 => ?_)
    have h := h x2_1 ex2_1
    refine lv_istore_n (lv' := [(2, .int x2_1), (0, .ref a1), (1, .int p2)]) hx hb d_M_bits_12 rfl hl (by decide) rfl (fun ls hl => ?_)
    refine lv_aload_n hx hb d_M_bits_13 rfl (lv_at hl 1 rfl) ?_
    refine lv_iload_n hx hb d_M_bits_14 rfl (lv_at hl 2 rfl) ?_
    refine lv_iconst (v := (1 : Int32)) hx hb d_M_bits_15 (by decide) ?_
    refine lv_isub hx hb d_M_bits_16 ?_
    obtain ⟨hin, h⟩ := h
    refine gs_ild hx hb hK hP h1 hin d_M_bits_17 ?_
    refine lv_topi (fun x3_2 ex3_2 => ?_)
    have h := h x3_2 ex3_2
    refine lv_istore_n (lv' := [(3, .int x3_2), (2, .int x2_1), (0, .ref a1), (1, .int p2)]) hx hb d_M_bits_18 rfl hl (by decide) rfl (fun ls hl => ?_)
    obtain ⟨I_19, μ_19, h0_19, hs_19⟩ := h
    have loop_19 : ∀ (N : Nat) (x2_3 : Int32) (x3_3 : Int32) (H : Heap) (locs : List Loc) (ls : Array Slot), μ_19 x2_3 x3_3 < N → I_19 x2_3 x3_3 → va_P D gcls (gs_ws Λ F A L) H → va_S (gw_A Λ) s.heap H locs → lv_has ls 4 [(2, .int x2_3), (3, .int x3_3)] → W p l e rm_M_bits s m args below meth c H locs 0 0 Q (F0 m 19 ls []) := by
      intro N
      induction N with
      | zero => intro x2_3 x3_3 H locs ls hμ; exact absurd hμ (Nat.not_lt_zero _)
      | succ N ih_19 =>
        intro x2_3 x3_3 H locs ls hμ_19 hI hP hS hl
        have h := hs_19 x2_3 x3_3 hI
        refine lv_iload_n hx hb d_M_bits_19 rfl (lv_at hl 1 rfl) ?_
        refine lv_if_eq (tgt := 33) hx hb d_M_bits_20 (by decide) (fun c_20 => ?_) (fun c_20 => ?_)
        · have h := h.1 c_20
          refine lv_iload_n hx hb d_M_bits_33 rfl (lv_at hl 0 rfl) ?_
          rw [← hQe]
          exact gw_iret hx hb hr hlocks hP hK hS ⟨rfl, rfl, h⟩ d_M_bits_34
        · have h := h.2 c_20
          obtain ⟨x2_4, ex2_4⟩ : ∃ y : Int32, y = x2_3 + (1 : Int32) := ⟨_, rfl⟩
          have h := h x2_4 ex2_4
          refine lv_iinc (v := x2_4) (lv' := [(2, .int x2_4), (3, .int x3_3)]) hx hb d_M_bits_23 hl (k := 0) rfl (by rw [ex2_4]; rfl) (by decide) rfl (fun ls hl => ?_)
          refine lv_iload_n hx hb d_M_bits_26 rfl (lv_at hl 1 rfl) ?_
          refine lv_iconst (v := (1 : Int32)) hx hb d_M_bits_27 (by decide) ?_
          refine lv_iushr (v := (j_iushr x3_3 (1 : Int32))) hx hb d_M_bits_28 rfl ?_
          refine lv_topi (fun x3_5 ex3_5 => ?_)
          have h := h x3_5 ex3_5
          refine lv_istore_n (lv' := [(3, .int x3_5), (2, .int x2_4)]) hx hb d_M_bits_29 rfl hl (by decide) rfl (fun ls hl => ?_)
          refine lv_goto (tgt := 19) hx hb d_M_bits_30 (by decide) ?_
          exact ih_19 x2_4 x3_5 _ _ _ (Nat.lt_of_lt_of_le h.2 (Nat.le_of_lt_succ hμ_19)) h.1 hP hS (lv_sub hl [1, 0] rfl)
    exact loop_19 (μ_19 x2_1 x3_2 + 1) x2_1 x3_2 _ _ _ (Nat.lt_succ_self _) h0_19 hP hS (lv_sub hl [1, 0] rfl)
  · have h := h.2 c_1
    refine lv_iconst (v := (0 : Int32)) hx hb d_M_bits_4 (by decide) ?_
    rw [← hQe]
    exact gw_iret hx hb hr hlocks hP hK hS ⟨rfl, rfl, h⟩ d_M_bits_5
abbrev rm_M_size0 : Room := { frames := 1, cells := 0, slots := 0, locals := 23 }
set_option maxHeartbeats 4000000 in
set_option maxRecDepth 100000 in
theorem w_M_size0 (hlo : gs_D Λ) (K : Nat → Nat) (p1 : Int32) (hΜ : gMd cI Λ K) (F A : gm_M) (post : Int32 → gm_M → Prop) (h : vc_M_size0 K p1 F A post) : Met l y_M_size0 (.code y_M_size0 b_M_size0 3 (some .int) :: gw_WS) rm_M_size0 (va_Pc [.ref (K 49), .int p1] (gw_P D cI cB cJ cW Λ L F A)) (gw_Qi D cI cB cJ cW Λ L (fun r F2 A2 => F = F2 ∧ post r A2)) 0 0 (gw_A Λ) := by
  refine Met.ofW (cc := b_M_size0) (maxL := 3) (ret := (some .int)) (by decide) rfl ?_
  intro p e s m args below meth c s₁ B hml hv
  obtain ⟨hargs, hP, hK⟩ := hv
  have hx := B.exec
  have hb := B.bytes
  have hr := B.returns
  have hlocks := B.notSynchronized
  have htw : ∀ w ∈ gw_WS, w.before args s = true := fun w h9 => atoms_spec (ws := .code y_M_size0 b_M_size0 3 (some .int) :: gw_WS) B.pre w (List.mem_cons_of_mem _ h9)
  have hown : s.vm.findClass R_M = some m.cls := findClass_of_methodNamed B.named
  have hS : va_S (gw_A Λ) s.heap s.heap [] := va_S.rf
  refine W.eq (g2 := entryFrame m ([.ref (K 49), .int p1] : List Value).toArray 3) (by rw [hargs]) ?_
  have hl := lv_entry ([.ref (K 49), .int p1]) (n := 3) (Nat.le_of_ble_eq_true rfl)
  rw [lg_entry_eq]
  generalize (lg_sl ([.ref (K 49), .int p1]) ++ List.replicate (3 - (lg_sl ([.ref (K 49), .int p1])).length) Slot.unset).toArray = ls at hl ⊢
  have hl : lv_has ls 3 [(0, .ref (K 49)), (1, .int p1)] := hl
  generalize hQe : MQ below (gw_Qi D cI cB cJ cW Λ L (fun r F2 A2 => F = F2 ∧ post r A2)) args s 0 0 (gw_A Λ) = Q
  unfold vc_M_size0 at h
  refine lv_aload_n hx hb d_M_size0_0 rfl (lv_at hl 0 rfl) ?_
  refine lv_iload_n hx hb d_M_size0_1 rfl (lv_at hl 1 rfl) ?_
  refine lv_aload_n hx hb d_M_size0_2 rfl (lv_at hl 0 rfl) ?_
  refine gs_get (v := .ref (K 59)) hx hb htw i_M hown hK hP (gMd_0 hΜ) rfl 11 (by decide) (htw _ mm_653) rfl d_M_size0_3 ?_
  refine gw_goi (gw_runV (As := [.int p1, .ref (K 59)]) (rest := []) hx hb hml hown htw hK hP hS hl.1 (w_M_load hlo K p1 (K 59) (9000) hΜ (gMd_59 hΜ) F A _ h) k_M_load mm_713 ⟨Nat.le_of_ble_eq_true rfl, Nat.le_of_ble_eq_true rfl⟩ rfl rfl (gMd_0 hΜ) rfl rfl rfl (Nat.le_of_ble_eq_true rfl) d_M_size0_6) hS (fun r_1 F_1 A_1 H locs hw hP hS => ?_)
  obtain ⟨rfl, hw⟩ := hw
  have h := hw
  refine lv_istore_n (lv' := [(2, .int r_1), (0, .ref (K 49)), (1, .int p1)]) hx hb d_M_size0_9 rfl hl (by decide) rfl (fun ls hl => ?_)
  refine lv_aload_n hx hb d_M_size0_10 rfl (lv_at hl 1 rfl) ?_
  refine gs_get (v := .ref (K 59)) hx hb htw i_M hown hK hP (gMd_0 hΜ) rfl 11 (by decide) (htw _ mm_653) rfl d_M_size0_11 ?_
  refine lv_iload_n hx hb d_M_size0_14 rfl (lv_at hl 0 rfl) ?_
  refine gw_goi (gw_runS (As := [.ref (K 59), .int r_1]) (rest := []) hx hb hml hown htw hK hP hS hl.1 (w_M_bits hlo (K 59) (9000) r_1 (gMd_59 hΜ) F A_1 _ h) k_M_bits mm_717 ⟨Nat.le_of_ble_eq_true rfl, Nat.le_of_ble_eq_true rfl⟩ rfl rfl rfl rfl (Nat.le_of_ble_eq_true rfl) d_M_size0_15) hS (fun r_2 F_2 A_2 H locs hw hP hS => ?_)
  obtain ⟨rfl, hw⟩ := hw
  obtain ⟨rfl, hw⟩ := hw
  have h := hw
  rw [← hQe]
  exact gw_iret hx hb hr hlocks hP hK hS ⟨rfl, h⟩ d_M_size0_18
abbrev rm_M_keep : Room := { frames := 1, cells := 0, slots := 0, locals := 23 }
set_option maxHeartbeats 4000000 in
set_option maxRecDepth 100000 in
theorem w_M_keep (hlo : gs_D Λ) (K : Nat → Nat) (p1 : Int32) (p2 : Int32) (a3 n3 : Nat) (p4 : Int32) (p5 : Int32) (hΜ : gMd cI Λ K) (h3 : (a3, gI cI n3) ∈ Λ) (F A : gm_M) (post : Int32 → gm_M → gm_M → Prop) (h : vc_M_keep K p1 p2 a3 n3 p4 p5 F A post) : Met l y_M_keep (.code y_M_keep b_M_keep 8 (some .boolean) :: gw_WS) rm_M_keep (va_Pc [.ref (K 49), .int p1, .int p2, .ref a3, .int p4, .int p5] (gw_P D cI cB cJ cW Λ L F A)) (gw_Qi D cI cB cJ cW Λ L (fun r F2 A2 => post r F2 A2)) 0 0 (gw_A Λ) := by
  refine Met.ofW (cc := b_M_keep) (maxL := 8) (ret := (some .boolean)) (by decide) rfl ?_
  intro p e s m args below meth c s₁ B hml hv
  obtain ⟨hargs, hP, hK⟩ := hv
  have hx := B.exec
  have hb := B.bytes
  have hr := B.returns
  have hlocks := B.notSynchronized
  have htw : ∀ w ∈ gw_WS, w.before args s = true := fun w h9 => atoms_spec (ws := .code y_M_keep b_M_keep 8 (some .boolean) :: gw_WS) B.pre w (List.mem_cons_of_mem _ h9)
  have hown : s.vm.findClass R_M = some m.cls := findClass_of_methodNamed B.named
  have hS : va_S (gw_A Λ) s.heap s.heap [] := va_S.rf
  refine W.eq (g2 := entryFrame m ([.ref (K 49), .int p1, .int p2, .ref a3, .int p4, .int p5] : List Value).toArray 8) (by rw [hargs]) ?_
  have hl := lv_entry ([.ref (K 49), .int p1, .int p2, .ref a3, .int p4, .int p5]) (n := 8) (Nat.le_of_ble_eq_true rfl)
  rw [lg_entry_eq]
  generalize (lg_sl ([.ref (K 49), .int p1, .int p2, .ref a3, .int p4, .int p5]) ++ List.replicate (8 - (lg_sl ([.ref (K 49), .int p1, .int p2, .ref a3, .int p4, .int p5])).length) Slot.unset).toArray = ls at hl ⊢
  have hl : lv_has ls 8 [(0, .ref (K 49)), (1, .int p1), (2, .int p2), (3, .ref a3), (4, .int p4), (5, .int p5)] := hl
  generalize hQe : MQ below (gw_Qi D cI cB cJ cW Λ L (fun r F2 A2 => post r F2 A2)) args s 0 0 (gw_A Λ) = Q
  unfold vc_M_keep at h
  refine lv_aload_n hx hb d_M_keep_0 rfl (lv_at hl 3 rfl) ?_
  refine lv_iload hx hb d_M_keep_1 (lv_at hl 4 rfl) ?_
  refine gw_goi (gw_runS (As := [.ref a3, .int p4]) (rest := []) hx hb hml hown htw hK hP hS hl.1 (w_M_trim hlo a3 n3 p4 h3 F A _ h) k_M_trim mm_725 ⟨Nat.le_of_ble_eq_true rfl, Nat.le_of_ble_eq_true rfl⟩ rfl rfl rfl rfl (Nat.le_of_ble_eq_true rfl) d_M_keep_3) hS (fun r_1 F_1 A_1 H locs hw hP hS => ?_)
  obtain ⟨rfl, hw⟩ := hw
  obtain ⟨rfl, hw⟩ := hw
  have h := hw
  refine lv_istore (lv' := [(6, .int r_1), (0, .ref (K 49)), (1, .int p1), (2, .int p2), (3, .ref a3), (4, .int p4), (5, .int p5)]) hx hb d_M_keep_6 hl (by decide) rfl (fun ls hl => ?_)
  refine lv_aload_n hx hb d_M_keep_8 rfl (lv_at hl 1 rfl) ?_
  refine lv_aload_n hx hb d_M_keep_9 rfl (lv_at hl 4 rfl) ?_
  refine lv_iload hx hb d_M_keep_10 (lv_at hl 0 rfl) ?_
  refine gw_goi (gw_runS (As := [.ref a3, .int r_1]) (rest := [.ref (K 49)]) hx hb hml hown htw hK hP hS hl.1 (w_M_bits hlo a3 n3 r_1 h3 F A _ h) k_M_bits mm_717 ⟨Nat.le_of_ble_eq_true rfl, Nat.le_of_ble_eq_true rfl⟩ rfl rfl rfl rfl (Nat.le_of_ble_eq_true rfl) d_M_keep_12) hS (fun r_2 F_2 A_2 H locs hw hP hS => ?_)
  obtain ⟨rfl, hw⟩ := hw
  obtain ⟨rfl, hw⟩ := hw
  have h := hw
  refine lv_sipush (v := (2048 : Int32)) hx hb d_M_keep_15 (by decide) ?_
  obtain ⟨J_26, h, hj_26⟩ := h
  have join_26 : ∀ (v0_3 : Int32) (H : Heap) (locs : List Loc) (ls : Array Slot), J_26 v0_3 → va_P D gcls (gs_ws Λ F A L) H → va_S (gw_A Λ) s.heap H locs → lv_has ls 8 [(0, .ref (K 49)), (1, .int p1), (2, .int p2), (3, .ref a3), (5, .int p5), (6, .int r_1)] → W p l e rm_M_keep s m args below meth c H locs 0 0 Q (F0 m 26 ls [.int v0_3, .ref (K 49)]) := by
    intro v0_3 H locs ls hJ hP hS hl
    have h := hj_26 v0_3 hJ
    refine lv_iload hx hb d_M_keep_26 (lv_at hl 4 rfl) ?_
    refine gw_goi (gw_runV (As := [.int v0_3, .int p5]) (rest := []) hx hb hml hown htw hK hP hS hl.1 (w_M_fails hlo K v0_3 p5 hΜ F A _ h) k_M_fails mm_705 ⟨Nat.le_of_ble_eq_true rfl, Nat.le_of_ble_eq_true rfl⟩ rfl rfl (gMd_0 hΜ) rfl rfl rfl (Nat.le_of_ble_eq_true rfl) d_M_keep_28) hS (fun r_4 F_4 A_4 H locs hw hP hS => ?_)
    obtain ⟨rfl, hw⟩ := hw
    have h := hw
    refine lv_if_eq (tgt := 36) hx hb d_M_keep_31 (by decide) (fun c_31 => ?_) (fun c_31 => ?_)
    · have h := h.1 c_31
      refine lv_iconst (v := (0 : Int32)) hx hb d_M_keep_36 (by decide) ?_
      refine lv_istore (lv' := [(7, .int (0 : Int32)), (0, .ref (K 49)), (1, .int p1), (2, .int p2), (3, .ref a3), (5, .int p5), (6, .int r_1)]) hx hb d_M_keep_37 hl (by decide) rfl (fun ls hl => ?_)
      obtain ⟨I_39, μ_39, h0_39, hs_39⟩ := h
      have loop_39 : ∀ (N : Nat) (x7_5 : Int32) (A_5 : gm_M) (H : Heap) (locs : List Loc) (ls : Array Slot), μ_39 x7_5 A_5 < N → I_39 x7_5 A_5 → va_P D gcls (gs_ws Λ F_4 A_5 L) H → va_S (gw_A Λ) s.heap H locs → lv_has ls 8 [(0, .ref (K 49)), (1, .int p1), (2, .int p2), (3, .ref a3), (6, .int r_1), (7, .int x7_5)] → W p l e rm_M_keep s m args below meth c H locs 0 0 Q (F0 m 39 ls []) := by
        intro N
        induction N with
        | zero => intro x7_5 A_5 H locs ls hμ; exact absurd hμ (Nat.not_lt_zero _)
        | succ N ih_39 =>
          intro x7_5 A_5 H locs ls hμ_39 hI hP hS hl
          have h := hs_39 x7_5 A_5 hI
          refine lv_iload hx hb d_M_keep_39 (lv_at hl 5 rfl) ?_
          refine lv_iload hx hb d_M_keep_41 (lv_at hl 4 rfl) ?_
          refine lv_icmp_ge (tgt := 69) hx hb d_M_keep_43 (by decide) (fun c_43 => ?_) (fun c_43 => ?_)
          · have h := h.1 c_43
            refine lv_aload_n hx hb d_M_keep_69 rfl (lv_at hl 0 rfl) ?_
            refine gs_get (v := .ref (K 51)) hx hb htw i_M hown hK hP (gMd_0 hΜ) rfl 3 (by decide) (htw _ mm_645) rfl d_M_keep_70 ?_
            refine lv_iload_n hx hb d_M_keep_73 rfl (lv_at hl 1 rfl) ?_
            refine lv_iload hx hb d_M_keep_74 (lv_at hl 4 rfl) ?_
            obtain ⟨hin, h⟩ := h
            refine gs_ist hx hb hK hlo hP hS (gMd_51 hΜ) hin d_M_keep_76 (fun A_6 eA_6 H locs hP hS => ?_)
            have h := h A_6 eA_6
            refine lv_aload_n hx hb d_M_keep_77 rfl (lv_at hl 0 rfl) ?_
            refine gs_get (v := .ref (K 52)) hx hb htw i_M hown hK hP (gMd_0 hΜ) rfl 4 (by decide) (htw _ mm_646) rfl d_M_keep_78 ?_
            refine lv_iload_n hx hb d_M_keep_81 rfl (lv_at hl 1 rfl) ?_
            refine lv_iload hx hb d_M_keep_82 (lv_at hl 4 rfl) ?_
            refine lv_if_ne (tgt := 91) hx hb d_M_keep_84 (by decide) (fun c_84 => ?_) (fun c_84 => ?_)
            · have h := h.1 c_84
              refine lv_iload_n hx hb d_M_keep_91 rfl (lv_at hl 2 rfl) ?_
              obtain ⟨hin, h⟩ := h
              refine gs_ist hx hb hK hlo hP hS (gMd_52 hΜ) hin d_M_keep_92 (fun A_7 eA_7 H locs hP hS => ?_)
              have h := h A_7 eA_7
              refine lv_iconst (v := (1 : Int32)) hx hb d_M_keep_93 (by decide) ?_
              rw [← hQe]
              exact gw_zret hx hb hr hlocks hP hK hS (by decide) h d_M_keep_94
            · have h := h.2 c_84
              refine lv_iconst (v := (0 : Int32)) hx hb d_M_keep_87 (by decide) ?_
              refine lv_goto (tgt := 92) hx hb d_M_keep_88 (by decide) ?_
              obtain ⟨hin, h⟩ := h
              refine gs_ist hx hb hK hlo hP hS (gMd_52 hΜ) hin d_M_keep_92 (fun A_8 eA_8 H locs hP hS => ?_)
              have h := h A_8 eA_8
              refine lv_iconst (v := (1 : Int32)) hx hb d_M_keep_93 (by decide) ?_
              rw [← hQe]
              exact gw_zret hx hb hr hlocks hP hK hS (by decide) h d_M_keep_94
          · have h := h.2 c_43
            refine lv_aload_n hx hb d_M_keep_46 rfl (lv_at hl 0 rfl) ?_
            refine gs_get (v := .ref (K 50)) hx hb htw i_M hown hK hP (gMd_0 hΜ) rfl 2 (by decide) (htw _ mm_644) rfl d_M_keep_47 ?_
            refine lv_sipush (v := (129 : Int32)) hx hb d_M_keep_50 (by decide) ?_
            refine lv_iload_n hx hb d_M_keep_53 rfl (lv_at hl 1 rfl) ?_
            refine lv_imul hx hb d_M_keep_54 ?_
            refine lv_iload hx hb d_M_keep_55 (lv_at hl 5 rfl) ?_
            refine lv_iadd hx hb d_M_keep_57 ?_
            refine lv_aload_n hx hb d_M_keep_58 rfl (lv_at hl 3 rfl) ?_
            refine lv_iload hx hb d_M_keep_59 (lv_at hl 5 rfl) ?_
            obtain ⟨hin, h⟩ := h
            refine gs_ild hx hb hK hP h3 hin d_M_keep_61 ?_
            obtain ⟨hin, h⟩ := h
            refine gs_ist hx hb hK hlo hP hS (gMd_50 hΜ) hin d_M_keep_62 (fun A_9 eA_9 H locs hP hS => ?_)
            have h := h A_9 eA_9
            obtain ⟨x7_10, ex7_10⟩ : ∃ y : Int32, y = x7_5 + (1 : Int32) := ⟨_, rfl⟩
            have h := h x7_10 ex7_10
            refine lv_iinc (v := x7_10) (lv' := [(7, .int x7_10), (0, .ref (K 49)), (1, .int p1), (2, .int p2), (3, .ref a3), (6, .int r_1)]) hx hb d_M_keep_63 hl (k := 5) rfl (by rw [ex7_10]; rfl) (by decide) rfl (fun ls hl => ?_)
            refine lv_goto (tgt := 39) hx hb d_M_keep_66 (by decide) ?_
            exact ih_39 x7_10 A_9 _ _ _ (Nat.lt_of_lt_of_le h.2 (Nat.le_of_lt_succ hμ_39)) h.1 hP hS (lv_sub hl [1, 2, 3, 4, 5, 0] rfl)
      exact loop_39 (μ_39 (0 : Int32) A + 1) (0 : Int32) A _ _ _ (Nat.lt_succ_self _) h0_39 hP hS (lv_sub hl [1, 2, 3, 4, 6, 0] rfl)
    · have h := h.2 c_31
      refine lv_iconst (v := (0 : Int32)) hx hb d_M_keep_34 (by decide) ?_
      rw [← hQe]
      exact gw_zret hx hb hr hlocks hP hK hS (by decide) h d_M_keep_35
  refine lv_icmp_le (tgt := 25) hx hb d_M_keep_18 (by decide) (fun c_18 => ?_) (fun c_18 => ?_)
  · have h := h.1 c_18
    refine lv_iconst (v := (0 : Int32)) hx hb d_M_keep_25 (by decide) ?_
    exact join_26 (0 : Int32) _ _ _ h hP hS (lv_sub hl [1, 2, 3, 4, 6, 0] rfl)
  · have h := h.2 c_18
    refine lv_iconst (v := (1 : Int32)) hx hb d_M_keep_21 (by decide) ?_
    refine lv_goto (tgt := 26) hx hb d_M_keep_22 (by decide) ?_
    exact join_26 (1 : Int32) _ _ _ h hP hS (lv_sub hl [1, 2, 3, 4, 6, 0] rfl)
