variable {l : Launch} {D : va_G} {cI cB cJ cW : ClassId} {Λ : gs_L} {L : Nat → Nat → Int64}
abbrev rm_W_orderOfSizes : Room := { frames := 0, cells := 0, slots := 0, locals := 0 }
set_option maxHeartbeats 4000000 in
set_option maxRecDepth 100000 in
theorem w_W_orderOfSizes (hlo : gs_D Λ) (a0 l0 n0 : Nat) (a1 l1 n1 : Nat) (h0 : gW cI Λ a0 l0 n0) (h1 : gW cI Λ a1 l1 n1) (F A : gm_M) (post : Int32 → Prop) (h : vc_W_orderOfSizes a0 l0 n0 a1 l1 n1 F A post) : Met l y_W_orderOfSizes (.code y_W_orderOfSizes b_W_orderOfSizes 3 (some .int) :: gw_WS) rm_W_orderOfSizes (va_Pc [.ref a0, .ref a1] (gw_P D cI cB cJ cW Λ L F A)) (gw_Qi D cI cB cJ cW Λ L (fun r F2 A2 => F = F2 ∧ A = A2 ∧ post r)) 0 0 (gw_A Λ) := by
  refine Met.ofW (cc := b_W_orderOfSizes) (maxL := 3) (ret := (some .int)) (by decide) rfl ?_
  intro p e s m args below meth c s₁ B hml hv
  obtain ⟨hargs, hP, hK⟩ := hv
  have hx := B.exec
  have hb := B.bytes
  have hr := B.returns
  have hlocks := B.notSynchronized
  have htw : ∀ w ∈ gw_WS, w.before args s = true := fun w h9 => atoms_spec (ws := .code y_W_orderOfSizes b_W_orderOfSizes 3 (some .int) :: gw_WS) B.pre w (List.mem_cons_of_mem _ h9)
  have hown : s.vm.findClass R_W = some m.cls := findClass_of_methodNamed B.named
  have hS : va_S (gw_A Λ) s.heap s.heap [] := va_S.rf
  refine W.eq (g2 := entryFrame m ([.ref a0, .ref a1] : List Value).toArray 3) (by rw [hargs]) ?_
  have hl := lv_entry ([.ref a0, .ref a1]) (n := 3) (Nat.le_of_ble_eq_true rfl)
  rw [lg_entry_eq]
  generalize (lg_sl ([.ref a0, .ref a1]) ++ List.replicate (3 - (lg_sl ([.ref a0, .ref a1])).length) Slot.unset).toArray = ls at hl ⊢
  have hl : lv_has ls 3 [(0, .ref a0), (1, .ref a1)] := hl
  generalize hQe : MQ below (gw_Qi D cI cB cJ cW Λ L (fun r F2 A2 => F = F2 ∧ A = A2 ∧ post r)) args s 0 0 (gw_A Λ) = Q
  unfold vc_W_orderOfSizes at h
  refine lv_aload_n hx hb d_W_orderOfSizes_0 rfl (lv_at hl 0 rfl) ?_
  refine gs_get (v := .int (F a0 1)) hx hb htw i_W hown hK hP h0.1 rfl 1 (by decide) (htw _ mm_35) rfl d_W_orderOfSizes_1 ?_
  refine lv_aload_n hx hb d_W_orderOfSizes_4 rfl (lv_at hl 1 rfl) ?_
  refine gs_get (v := .int (F a1 1)) hx hb htw i_W hown hK hP h1.1 rfl 1 (by decide) (htw _ mm_35) rfl d_W_orderOfSizes_5 ?_
  refine lv_icmp_eq (tgt := 28) hx hb d_W_orderOfSizes_8 (by decide) (fun c_8 => ?_) (fun c_8 => ?_)
  · have h := h.1 c_8
    refine lv_aload_n hx hb d_W_orderOfSizes_28 rfl (lv_at hl 0 rfl) ?_
    refine gs_get (v := .int (F a0 1)) hx hb htw i_W hown hK hP h0.1 rfl 1 (by decide) (htw _ mm_35) rfl d_W_orderOfSizes_29 ?_
    refine lv_iconst (v := (1 : Int32)) hx hb d_W_orderOfSizes_32 (by decide) ?_
    refine lv_isub hx hb d_W_orderOfSizes_33 ?_
    refine lv_topi (fun x2_1 ex2_1 => ?_)
    have h := h x2_1 ex2_1
    refine lv_istore_n (lv' := [(2, .int x2_1), (0, .ref a0), (1, .ref a1)]) hx hb d_W_orderOfSizes_34 rfl hl (by decide) rfl (fun ls hl => ?_)
    obtain ⟨I_35, μ_35, h0_35, hs_35⟩ := h
    have loop_35 : ∀ (N : Nat) (x2_2 : Int32) (H : Heap) (locs : List Loc) (ls : Array Slot), μ_35 x2_2 < N → I_35 x2_2 → va_P D gcls (gs_ws Λ F A L) H → va_S (gw_A Λ) s.heap H locs → lv_has ls 3 [(0, .ref a0), (1, .ref a1), (2, .int x2_2)] → W p l e rm_W_orderOfSizes s m args below meth c H locs 0 0 Q (F0 m 35 ls []) := by
      intro N
      induction N with
      | zero => intro x2_2 H locs ls hμ; exact absurd hμ (Nat.not_lt_zero _)
      | succ N ih_35 =>
        intro x2_2 H locs ls hμ_35 hI hP hS hl
        have h := hs_35 x2_2 hI
        refine lv_iload_n hx hb d_W_orderOfSizes_35 rfl (lv_at hl 2 rfl) ?_
        refine lv_if_lt (tgt := 81) hx hb d_W_orderOfSizes_36 (by decide) (fun c_36 => ?_) (fun c_36 => ?_)
        · have h := h.1 c_36
          refine lv_iconst (v := (0 : Int32)) hx hb d_W_orderOfSizes_81 (by decide) ?_
          rw [← hQe]
          exact gw_iret hx hb hr hlocks hP hK hS ⟨rfl, rfl, h⟩ d_W_orderOfSizes_82
        · have h := h.2 c_36
          refine lv_aload_n hx hb d_W_orderOfSizes_39 rfl (lv_at hl 0 rfl) ?_
          refine gs_get (v := .ref l0) hx hb htw i_W hown hK hP h0.1 rfl 0 (by decide) (htw _ mm_33) rfl d_W_orderOfSizes_40 ?_
          refine lv_iload_n hx hb d_W_orderOfSizes_43 rfl (lv_at hl 2 rfl) ?_
          obtain ⟨hin, h⟩ := h
          refine gs_ild hx hb hK hP h0.2 hin d_W_orderOfSizes_44 ?_
          refine lv_aload_n hx hb d_W_orderOfSizes_45 rfl (lv_at hl 1 rfl) ?_
          refine gs_get (v := .ref l1) hx hb htw i_W hown hK hP h1.1 rfl 0 (by decide) (htw _ mm_33) rfl d_W_orderOfSizes_46 ?_
          refine lv_iload_n hx hb d_W_orderOfSizes_49 rfl (lv_at hl 2 rfl) ?_
          obtain ⟨hin, h⟩ := h
          refine gs_ild hx hb hK hP h1.2 hin d_W_orderOfSizes_50 ?_
          refine lv_icmp_eq (tgt := 75) hx hb d_W_orderOfSizes_51 (by decide) (fun c_51 => ?_) (fun c_51 => ?_)
          · have h := h.1 c_51
            obtain ⟨x2_3, ex2_3⟩ : ∃ y : Int32, y = x2_2 + (-1 : Int32) := ⟨_, rfl⟩
            have h := h x2_3 ex2_3
            refine lv_iinc (v := x2_3) (lv' := [(2, .int x2_3), (0, .ref a0), (1, .ref a1)]) hx hb d_W_orderOfSizes_75 hl (k := 2) rfl (by rw [ex2_3]; rfl) (by decide) rfl (fun ls hl => ?_)
            refine lv_goto (tgt := 35) hx hb d_W_orderOfSizes_78 (by decide) ?_
            exact ih_35 x2_3 _ _ _ (Nat.lt_of_lt_of_le h.2 (Nat.le_of_lt_succ hμ_35)) h.1 hP hS (lv_sub hl [1, 2, 0] rfl)
          · have h := h.2 c_51
            refine lv_aload_n hx hb d_W_orderOfSizes_54 rfl (lv_at hl 0 rfl) ?_
            refine gs_get (v := .ref l0) hx hb htw i_W hown hK hP h0.1 rfl 0 (by decide) (htw _ mm_33) rfl d_W_orderOfSizes_55 ?_
            refine lv_iload_n hx hb d_W_orderOfSizes_58 rfl (lv_at hl 2 rfl) ?_
            obtain ⟨hin, h⟩ := h
            refine gs_ild hx hb hK hP h0.2 hin d_W_orderOfSizes_59 ?_
            refine lv_aload_n hx hb d_W_orderOfSizes_60 rfl (lv_at hl 1 rfl) ?_
            refine gs_get (v := .ref l1) hx hb htw i_W hown hK hP h1.1 rfl 0 (by decide) (htw _ mm_33) rfl d_W_orderOfSizes_61 ?_
            refine lv_iload_n hx hb d_W_orderOfSizes_64 rfl (lv_at hl 2 rfl) ?_
            obtain ⟨hin, h⟩ := h
            refine gs_ild hx hb hK hP h1.2 hin d_W_orderOfSizes_65 ?_
            refine lv_icmp_ge (tgt := 73) hx hb d_W_orderOfSizes_66 (by decide) (fun c_66 => ?_) (fun c_66 => ?_)
            · have h := h.1 c_66
              refine lv_iconst (v := (1 : Int32)) hx hb d_W_orderOfSizes_73 (by decide) ?_
              rw [← hQe]
              exact gw_iret hx hb hr hlocks hP hK hS ⟨rfl, rfl, h⟩ d_W_orderOfSizes_74
            · have h := h.2 c_66
              refine lv_iconst (v := (-1 : Int32)) hx hb d_W_orderOfSizes_69 (by decide) ?_
              refine lv_goto (tgt := 74) hx hb d_W_orderOfSizes_70 (by decide) ?_
              rw [← hQe]
              exact gw_iret hx hb hr hlocks hP hK hS ⟨rfl, rfl, h⟩ d_W_orderOfSizes_74
    exact loop_35 (μ_35 x2_1 + 1) x2_1 _ _ _ (Nat.lt_succ_self _) h0_35 hP hS (lv_sub hl [1, 2, 0] rfl)
  · have h := h.2 c_8
    refine lv_aload_n hx hb d_W_orderOfSizes_11 rfl (lv_at hl 0 rfl) ?_
    refine gs_get (v := .int (F a0 1)) hx hb htw i_W hown hK hP h0.1 rfl 1 (by decide) (htw _ mm_35) rfl d_W_orderOfSizes_12 ?_
    refine lv_aload_n hx hb d_W_orderOfSizes_15 rfl (lv_at hl 1 rfl) ?_
    refine gs_get (v := .int (F a1 1)) hx hb htw i_W hown hK hP h1.1 rfl 1 (by decide) (htw _ mm_35) rfl d_W_orderOfSizes_16 ?_
    refine lv_icmp_ge (tgt := 26) hx hb d_W_orderOfSizes_19 (by decide) (fun c_19 => ?_) (fun c_19 => ?_)
    · have h := h.1 c_19
      refine lv_iconst (v := (1 : Int32)) hx hb d_W_orderOfSizes_26 (by decide) ?_
      rw [← hQe]
      exact gw_iret hx hb hr hlocks hP hK hS ⟨rfl, rfl, h⟩ d_W_orderOfSizes_27
    · have h := h.2 c_19
      refine lv_iconst (v := (-1 : Int32)) hx hb d_W_orderOfSizes_22 (by decide) ?_
      refine lv_goto (tgt := 27) hx hb d_W_orderOfSizes_23 (by decide) ?_
      rw [← hQe]
      exact gw_iret hx hb hr hlocks hP hK hS ⟨rfl, rfl, h⟩ d_W_orderOfSizes_27
abbrev rm_W_orderTo : Room := { frames := 1, cells := 0, slots := 0, locals := 22 }
set_option maxHeartbeats 4000000 in
set_option maxRecDepth 100000 in
theorem w_W_orderTo (hlo : gs_D Λ) (a0 l0 n0 : Nat) (a1 l1 n1 : Nat) (h0 : gW cI Λ a0 l0 n0) (h1 : gW cI Λ a1 l1 n1) (F A : gm_M) (post : Int32 → Prop) (h : vc_W_orderTo a0 l0 n0 a1 l1 n1 F A post) : Met l y_W_orderTo (.code y_W_orderTo b_W_orderTo 2 (some .int) :: gw_WS) rm_W_orderTo (va_Pc [.ref a0, .ref a1] (gw_P D cI cB cJ cW Λ L F A)) (gw_Qi D cI cB cJ cW Λ L (fun r F2 A2 => F = F2 ∧ A = A2 ∧ post r)) 0 0 (gw_A Λ) := by
  refine Met.ofW (cc := b_W_orderTo) (maxL := 2) (ret := (some .int)) (by decide) rfl ?_
  intro p e s m args below meth c s₁ B hml hv
  obtain ⟨hargs, hP, hK⟩ := hv
  have hx := B.exec
  have hb := B.bytes
  have hr := B.returns
  have hlocks := B.notSynchronized
  have htw : ∀ w ∈ gw_WS, w.before args s = true := fun w h9 => atoms_spec (ws := .code y_W_orderTo b_W_orderTo 2 (some .int) :: gw_WS) B.pre w (List.mem_cons_of_mem _ h9)
  have hown : s.vm.findClass R_W = some m.cls := findClass_of_methodNamed B.named
  have hS : va_S (gw_A Λ) s.heap s.heap [] := va_S.rf
  refine W.eq (g2 := entryFrame m ([.ref a0, .ref a1] : List Value).toArray 2) (by rw [hargs]) ?_
  have hl := lv_entry ([.ref a0, .ref a1]) (n := 2) (Nat.le_of_ble_eq_true rfl)
  rw [lg_entry_eq]
  generalize (lg_sl ([.ref a0, .ref a1]) ++ List.replicate (2 - (lg_sl ([.ref a0, .ref a1])).length) Slot.unset).toArray = ls at hl ⊢
  have hl : lv_has ls 2 [(0, .ref a0), (1, .ref a1)] := hl
  generalize hQe : MQ below (gw_Qi D cI cB cJ cW Λ L (fun r F2 A2 => F = F2 ∧ A = A2 ∧ post r)) args s 0 0 (gw_A Λ) = Q
  unfold vc_W_orderTo at h
  refine lv_aload_n hx hb d_W_orderTo_0 rfl (lv_at hl 0 rfl) ?_
  refine gw_goi (gw_runV (As := []) (rest := []) hx hb hml hown htw hK hP hS hl.1 (w_W_sign hlo a0 l0 n0 ⟨h0.1, h0.2⟩ F A _ h) k_W_sign mm_591 ⟨Nat.le_of_ble_eq_true rfl, Nat.le_of_ble_eq_true rfl⟩ rfl rfl h0.1 rfl rfl rfl (Nat.le_of_ble_eq_true rfl) d_W_orderTo_1) hS (fun r_1 F_1 A_1 H locs hw hP hS => ?_)
  obtain ⟨rfl, hw⟩ := hw
  obtain ⟨rfl, hw⟩ := hw
  have h := hw
  refine lv_aload_n hx hb d_W_orderTo_4 rfl (lv_at hl 1 rfl) ?_
  refine gw_goi (gw_runV (As := []) (rest := [.int r_1]) hx hb hml hown htw hK hP hS hl.1 (w_W_sign hlo a1 l1 n1 ⟨h1.1, h1.2⟩ F A _ h) k_W_sign mm_591 ⟨Nat.le_of_ble_eq_true rfl, Nat.le_of_ble_eq_true rfl⟩ rfl rfl h1.1 rfl rfl rfl (Nat.le_of_ble_eq_true rfl) d_W_orderTo_5) hS (fun r_2 F_2 A_2 H locs hw hP hS => ?_)
  obtain ⟨rfl, hw⟩ := hw
  obtain ⟨rfl, hw⟩ := hw
  have h := hw
  refine lv_icmp_eq (tgt := 28) hx hb d_W_orderTo_8 (by decide) (fun c_8 => ?_) (fun c_8 => ?_)
  · have h := h.1 c_8
    refine lv_aload_n hx hb d_W_orderTo_28 rfl (lv_at hl 0 rfl) ?_
    refine gs_get (v := .int (F a0 2)) hx hb htw i_W hown hK hP h0.1 rfl 2 (by decide) (htw _ mm_39) rfl d_W_orderTo_29 ?_
    refine lv_if_eq (tgt := 43) hx hb d_W_orderTo_32 (by decide) (fun c_32 => ?_) (fun c_32 => ?_)
    · have h := h.1 c_32
      refine lv_aload_n hx hb d_W_orderTo_43 rfl (lv_at hl 0 rfl) ?_
      refine lv_aload_n hx hb d_W_orderTo_44 rfl (lv_at hl 1 rfl) ?_
      refine gw_goi (gw_runV (As := [.ref a1]) (rest := []) hx hb hml hown htw hK hP hS hl.1 (w_W_orderOfSizes hlo a0 l0 n0 a1 l1 n1 ⟨h0.1, h0.2⟩ ⟨h1.1, h1.2⟩ F A _ h) k_W_orderOfSizes mm_420 ⟨Nat.le_of_ble_eq_true rfl, Nat.le_of_ble_eq_true rfl⟩ rfl rfl h0.1 rfl rfl rfl (Nat.le_of_ble_eq_true rfl) d_W_orderTo_45) hS (fun r_3 F_3 A_3 H locs hw hP hS => ?_)
      obtain ⟨rfl, hw⟩ := hw
      obtain ⟨rfl, hw⟩ := hw
      have h := hw
      rw [← hQe]
      exact gw_iret hx hb hr hlocks hP hK hS ⟨rfl, rfl, h⟩ d_W_orderTo_48
    · have h := h.2 c_32
      refine lv_aload_n hx hb d_W_orderTo_35 rfl (lv_at hl 1 rfl) ?_
      refine lv_aload_n hx hb d_W_orderTo_36 rfl (lv_at hl 0 rfl) ?_
      refine gw_goi (gw_runV (As := [.ref a0]) (rest := []) hx hb hml hown htw hK hP hS hl.1 (w_W_orderOfSizes hlo a1 l1 n1 a0 l0 n0 ⟨h1.1, h1.2⟩ ⟨h0.1, h0.2⟩ F A _ h) k_W_orderOfSizes mm_420 ⟨Nat.le_of_ble_eq_true rfl, Nat.le_of_ble_eq_true rfl⟩ rfl rfl h1.1 rfl rfl rfl (Nat.le_of_ble_eq_true rfl) d_W_orderTo_37) hS (fun r_4 F_4 A_4 H locs hw hP hS => ?_)
      obtain ⟨rfl, hw⟩ := hw
      obtain ⟨rfl, hw⟩ := hw
      have h := hw
      refine lv_goto (tgt := 48) hx hb d_W_orderTo_40 (by decide) ?_
      rw [← hQe]
      exact gw_iret hx hb hr hlocks hP hK hS ⟨rfl, rfl, h⟩ d_W_orderTo_48
  · have h := h.2 c_8
    refine lv_aload_n hx hb d_W_orderTo_11 rfl (lv_at hl 0 rfl) ?_
    refine gw_goi (gw_runV (As := []) (rest := []) hx hb hml hown htw hK hP hS hl.1 (w_W_sign hlo a0 l0 n0 ⟨h0.1, h0.2⟩ F A _ h) k_W_sign mm_591 ⟨Nat.le_of_ble_eq_true rfl, Nat.le_of_ble_eq_true rfl⟩ rfl rfl h0.1 rfl rfl rfl (Nat.le_of_ble_eq_true rfl) d_W_orderTo_12) hS (fun r_5 F_5 A_5 H locs hw hP hS => ?_)
    obtain ⟨rfl, hw⟩ := hw
    obtain ⟨rfl, hw⟩ := hw
    have h := hw
    refine lv_aload_n hx hb d_W_orderTo_15 rfl (lv_at hl 1 rfl) ?_
    refine gw_goi (gw_runV (As := []) (rest := [.int r_5]) hx hb hml hown htw hK hP hS hl.1 (w_W_sign hlo a1 l1 n1 ⟨h1.1, h1.2⟩ F A _ h) k_W_sign mm_591 ⟨Nat.le_of_ble_eq_true rfl, Nat.le_of_ble_eq_true rfl⟩ rfl rfl h1.1 rfl rfl rfl (Nat.le_of_ble_eq_true rfl) d_W_orderTo_16) hS (fun r_6 F_6 A_6 H locs hw hP hS => ?_)
    obtain ⟨rfl, hw⟩ := hw
    obtain ⟨rfl, hw⟩ := hw
    have h := hw
    refine lv_icmp_ge (tgt := 26) hx hb d_W_orderTo_19 (by decide) (fun c_19 => ?_) (fun c_19 => ?_)
    · have h := h.1 c_19
      refine lv_iconst (v := (1 : Int32)) hx hb d_W_orderTo_26 (by decide) ?_
      rw [← hQe]
      exact gw_iret hx hb hr hlocks hP hK hS ⟨rfl, rfl, h⟩ d_W_orderTo_27
    · have h := h.2 c_19
      refine lv_iconst (v := (-1 : Int32)) hx hb d_W_orderTo_22 (by decide) ?_
      refine lv_goto (tgt := 27) hx hb d_W_orderTo_23 (by decide) ?_
      rw [← hQe]
      exact gw_iret hx hb hr hlocks hP hK hS ⟨rfl, rfl, h⟩ d_W_orderTo_27
abbrev rm_W_addSizes : Room := { frames := 2, cells := 0, slots := 0, locals := 60 }
set_option maxHeartbeats 4000000 in
set_option maxRecDepth 100000 in
theorem w_W_addSizes (hlo : gs_D Λ) (a0 l0 n0 : Nat) (a1 l1 n1 : Nat) (a2 l2 n2 : Nat) (h0 : gW cI Λ a0 l0 n0) (h1 : gW cI Λ a1 l1 n1) (h2 : gW cI Λ a2 l2 n2) (F A : gm_M) (post : gm_M → gm_M → Prop) (h : vc_W_addSizes a0 l0 n0 a1 l1 n1 a2 l2 n2 F A post) : Met l y_W_addSizes (.code y_W_addSizes b_W_addSizes 9 none :: gw_WS) rm_W_addSizes (va_Pc [.ref a0, .ref a1, .ref a2] (gw_P D cI cB cJ cW Λ L F A)) (gw_Qv D cI cB cJ cW Λ L (fun F2 A2 => post F2 A2)) 0 0 (gw_A Λ) := by
  refine Met.ofW (cc := b_W_addSizes) (maxL := 9) (ret := none) (by decide) rfl ?_
  intro p e s m args below meth c s₁ B hml hv
  obtain ⟨hargs, hP, hK⟩ := hv
  have hx := B.exec
  have hb := B.bytes
  have hr := B.returns
  have hlocks := B.notSynchronized
  have htw : ∀ w ∈ gw_WS, w.before args s = true := fun w h9 => atoms_spec (ws := .code y_W_addSizes b_W_addSizes 9 none :: gw_WS) B.pre w (List.mem_cons_of_mem _ h9)
  have hown : s.vm.findClass R_W = some m.cls := findClass_of_methodNamed B.named
  have hS : va_S (gw_A Λ) s.heap s.heap [] := va_S.rf
  refine W.eq (g2 := entryFrame m ([.ref a0, .ref a1, .ref a2] : List Value).toArray 9) (by rw [hargs]) ?_
  have hl := lv_entry ([.ref a0, .ref a1, .ref a2]) (n := 9) (Nat.le_of_ble_eq_true rfl)
  rw [lg_entry_eq]
  generalize (lg_sl ([.ref a0, .ref a1, .ref a2]) ++ List.replicate (9 - (lg_sl ([.ref a0, .ref a1, .ref a2])).length) Slot.unset).toArray = ls at hl ⊢
  have hl : lv_has ls 9 [(0, .ref a0), (1, .ref a1), (2, .ref a2)] := hl
  generalize hQe : MQ below (gw_Qv D cI cB cJ cW Λ L (fun F2 A2 => post F2 A2)) args s 0 0 (gw_A Λ) = Q
  unfold vc_W_addSizes at h
  refine lv_aload_n hx hb d_W_addSizes_0 rfl (lv_at hl 1 rfl) ?_
  refine gs_get (v := .int (F a1 1)) hx hb htw i_W hown hK hP h1.1 rfl 1 (by decide) (htw _ mm_35) rfl d_W_addSizes_1 ?_
  refine lv_aload_n hx hb d_W_addSizes_4 rfl (lv_at hl 2 rfl) ?_
  refine gs_get (v := .int (F a2 1)) hx hb htw i_W hown hK hP h2.1 rfl 1 (by decide) (htw _ mm_35) rfl d_W_addSizes_5 ?_
  refine va_mmax hx hb (by rw [hml, hl.1]) hown (htw _ mm_413) (htw _ mx_static) (htw _ mx_ini) (htw _ mx_code) (Nat.le_of_ble_eq_true rfl) (Nat.le_of_ble_eq_true rfl) (Nat.zero_le _) (Nat.zero_le _) d_W_addSizes_8 ?_
  refine lv_topi (fun x3_1 ex3_1 => ?_)
  have h := h x3_1 ex3_1
  refine lv_istore_n (lv' := [(3, .int x3_1), (0, .ref a0), (1, .ref a1), (2, .ref a2)]) hx hb d_W_addSizes_11 rfl hl (by decide) rfl (fun ls hl => ?_)
  refine lv_lconst (v := (0 : Int64)) hx hb d_W_addSizes_12 (by decide) ?_
  refine lv_lstore (lv' := [(4, .long (0 : Int64)), (3, .int x3_1), (0, .ref a0), (1, .ref a1), (2, .ref a2)]) hx hb d_W_addSizes_13 hl (by decide) rfl (fun ls hl => ?_)
  refine lv_iconst (v := (0 : Int32)) hx hb d_W_addSizes_15 (by decide) ?_
  refine lv_istore (lv' := [(6, .int (0 : Int32)), (4, .long (0 : Int64)), (3, .int x3_1), (0, .ref a0), (1, .ref a1), (2, .ref a2)]) hx hb d_W_addSizes_16 hl (by decide) rfl (fun ls hl => ?_)
  obtain ⟨I_18, μ_18, h0_18, hs_18⟩ := h
  have loop_18 : ∀ (N : Nat) (x4_2 : Int64) (x6_2 : Int32) (A_2 : gm_M) (H : Heap) (locs : List Loc) (ls : Array Slot), μ_18 x4_2 x6_2 A_2 < N → I_18 x4_2 x6_2 A_2 → va_P D gcls (gs_ws Λ F A_2 L) H → va_S (gw_A Λ) s.heap H locs → lv_has ls 9 [(0, .ref a0), (1, .ref a1), (2, .ref a2), (3, .int x3_1), (4, .long x4_2), (6, .int x6_2)] → W p l e rm_W_addSizes s m args below meth c H locs 0 0 Q (F0 m 18 ls []) := by
    intro N
    induction N with
    | zero => intro x4_2 x6_2 A_2 H locs ls hμ; exact absurd hμ (Nat.not_lt_zero _)
    | succ N ih_18 =>
      intro x4_2 x6_2 A_2 H locs ls hμ_18 hI hP hS hl
      have h := hs_18 x4_2 x6_2 A_2 hI
      refine lv_iload hx hb d_W_addSizes_18 (lv_at hl 5 rfl) ?_
      refine lv_iload_n hx hb d_W_addSizes_20 rfl (lv_at hl 3 rfl) ?_
      refine lv_icmp_ge (tgt := 71) hx hb d_W_addSizes_21 (by decide) (fun c_21 => ?_) (fun c_21 => ?_)
      · have h := h.1 c_21
        refine lv_aload_n hx hb d_W_addSizes_71 rfl (lv_at hl 0 rfl) ?_
        refine gs_get (v := .ref l0) hx hb htw i_W hown hK hP h0.1 rfl 0 (by decide) (htw _ mm_33) rfl d_W_addSizes_72 ?_
        refine lv_iload_n hx hb d_W_addSizes_75 rfl (lv_at hl 3 rfl) ?_
        refine lv_lload hx hb d_W_addSizes_76 (lv_at hl 4 rfl) ?_
        refine lv_l2i (v := (x4_2.toInt32)) hx hb d_W_addSizes_78 (by rfl) ?_
        obtain ⟨hin, h⟩ := h
        refine gs_ist hx hb hK hlo hP hS h0.2 hin d_W_addSizes_79 (fun A_3 eA_3 H locs hP hS => ?_)
        have h := h A_3 eA_3
        refine lv_aload_n hx hb d_W_addSizes_80 rfl (lv_at hl 0 rfl) ?_
        refine lv_iload_n hx hb d_W_addSizes_81 rfl (lv_at hl 3 rfl) ?_
        refine lv_iconst (v := (1 : Int32)) hx hb d_W_addSizes_82 (by decide) ?_
        refine lv_iadd hx hb d_W_addSizes_83 ?_
        refine gw_gov (gw_runV (As := [.int (x3_1 + (1 : Int32))]) (rest := []) hx hb hml hown htw hK hP hS hl.1 (w_W_trim hlo a0 l0 n0 (x3_1 + (1 : Int32)) ⟨h0.1, h0.2⟩ F A_3 _ h) k_W_trim mm_201 ⟨Nat.le_of_ble_eq_true rfl, Nat.le_of_ble_eq_true rfl⟩ rfl rfl h0.1 rfl rfl rfl (Nat.le_of_ble_eq_true rfl) d_W_addSizes_84) hS (fun F_4 A_4 H locs hw hP hS => ?_)
        obtain ⟨rfl, hw⟩ := hw
        have h := hw
        rw [← hQe]
        exact gw_vret hx hb hr hlocks hP hK hS h d_W_addSizes_87
      · have h := h.2 c_21
        refine lv_aload_n hx hb d_W_addSizes_24 rfl (lv_at hl 1 rfl) ?_
        refine lv_iload hx hb d_W_addSizes_25 (lv_at hl 5 rfl) ?_
        refine gw_goi (gw_runV (As := [.int x6_2]) (rest := []) hx hb hml hown htw hK hP hS hl.1 (w_W_limbAt hlo a1 l1 n1 x6_2 ⟨h1.1, h1.2⟩ F A_2 _ h) k_W_limbAt mm_416 ⟨Nat.le_of_ble_eq_true rfl, Nat.le_of_ble_eq_true rfl⟩ rfl rfl h1.1 rfl rfl rfl (Nat.le_of_ble_eq_true rfl) d_W_addSizes_27) hS (fun r_5 F_5 A_5 H locs hw hP hS => ?_)
        obtain ⟨rfl, hw⟩ := hw
        obtain ⟨rfl, hw⟩ := hw
        have h := hw
        refine lv_i2l (v := (r_5.toInt64)) hx hb d_W_addSizes_30 (by rfl) ?_
        refine lv_aload_n hx hb d_W_addSizes_31 rfl (lv_at hl 2 rfl) ?_
        refine lv_iload hx hb d_W_addSizes_32 (lv_at hl 5 rfl) ?_
        refine gw_goi (gw_runV (As := [.int x6_2]) (rest := [.long (r_5.toInt64)]) hx hb hml hown htw hK hP hS hl.1 (w_W_limbAt hlo a2 l2 n2 x6_2 ⟨h2.1, h2.2⟩ F A_2 _ h) k_W_limbAt mm_416 ⟨Nat.le_of_ble_eq_true rfl, Nat.le_of_ble_eq_true rfl⟩ rfl rfl h2.1 rfl rfl rfl (Nat.le_of_ble_eq_true rfl) d_W_addSizes_34) hS (fun r_6 F_6 A_6 H locs hw hP hS => ?_)
        obtain ⟨rfl, hw⟩ := hw
        obtain ⟨rfl, hw⟩ := hw
        have h := hw
        refine lv_i2l (v := (r_6.toInt64)) hx hb d_W_addSizes_37 (by rfl) ?_
        refine lv_ladd hx hb d_W_addSizes_38 ?_
        refine lv_lload hx hb d_W_addSizes_39 (lv_at hl 4 rfl) ?_
        refine lv_ladd hx hb d_W_addSizes_41 ?_
        refine lv_topl (fun x7_7 ex7_7 => ?_)
        have h := h x7_7 ex7_7
        refine lv_lstore (lv' := [(7, .long x7_7), (0, .ref a0), (1, .ref a1), (2, .ref a2), (3, .int x3_1), (4, .long x4_2), (6, .int x6_2)]) hx hb d_W_addSizes_42 hl (by decide) rfl (fun ls hl => ?_)
        refine lv_aload_n hx hb d_W_addSizes_44 rfl (lv_at hl 1 rfl) ?_
        refine gs_get (v := .ref l0) hx hb htw i_W hown hK hP h0.1 rfl 0 (by decide) (htw _ mm_33) rfl d_W_addSizes_45 ?_
        refine lv_iload hx hb d_W_addSizes_48 (lv_at hl 6 rfl) ?_
        refine lv_lload hx hb d_W_addSizes_50 (lv_at hl 0 rfl) ?_
        refine lv_ldc2 (v := (2147483647 : Int64)) hx hb hown (htw _ mm_200) d_W_addSizes_52 ?_
        refine lv_land hx hb d_W_addSizes_55 ?_
        refine lv_l2i (v := ((x7_7 &&& (2147483647 : Int64)).toInt32)) hx hb d_W_addSizes_56 (by rfl) ?_
        obtain ⟨hin, h⟩ := h
        refine gs_ist hx hb hK hlo hP hS h0.2 hin d_W_addSizes_57 (fun A_8 eA_8 H locs hP hS => ?_)
        have h := h A_8 eA_8
        refine lv_lload hx hb d_W_addSizes_58 (lv_at hl 0 rfl) ?_
        refine lv_bipush (v := (31 : Int32)) hx hb d_W_addSizes_60 (by decide) ?_
        refine lv_lushr (v := (j_lushr x7_7 (31 : Int32))) hx hb d_W_addSizes_62 rfl ?_
        refine lv_topl (fun x4_9 ex4_9 => ?_)
        have h := h x4_9 ex4_9
        refine lv_lstore (lv' := [(4, .long x4_9), (7, .long x7_7), (0, .ref a0), (1, .ref a1), (2, .ref a2), (3, .int x3_1), (6, .int x6_2)]) hx hb d_W_addSizes_63 hl (by decide) rfl (fun ls hl => ?_)
        obtain ⟨x6_10, ex6_10⟩ : ∃ y : Int32, y = x6_2 + (1 : Int32) := ⟨_, rfl⟩
        have h := h x6_10 ex6_10
        refine lv_iinc (v := x6_10) (lv' := [(6, .int x6_10), (4, .long x4_9), (7, .long x7_7), (0, .ref a0), (1, .ref a1), (2, .ref a2), (3, .int x3_1)]) hx hb d_W_addSizes_65 hl (k := 6) rfl (by rw [ex6_10]; rfl) (by decide) rfl (fun ls hl => ?_)
        refine lv_goto (tgt := 18) hx hb d_W_addSizes_68 (by decide) ?_
        exact ih_18 x4_9 x6_10 A_8 _ _ _ (Nat.lt_of_lt_of_le h.2 (Nat.le_of_lt_succ hμ_18)) h.1 hP hS (lv_sub hl [3, 4, 5, 6, 1, 0] rfl)
  exact loop_18 (μ_18 (0 : Int64) (0 : Int32) A + 1) (0 : Int64) (0 : Int32) A _ _ _ (Nat.lt_succ_self _) h0_18 hP hS (lv_sub hl [3, 4, 5, 2, 1, 0] rfl)
abbrev rm_W_subtractSizes : Room := { frames := 2, cells := 0, slots := 0, locals := 42 }
set_option maxHeartbeats 4000000 in
set_option maxRecDepth 100000 in
theorem w_W_subtractSizes (hlo : gs_D Λ) (a0 l0 n0 : Nat) (a1 l1 n1 : Nat) (a2 l2 n2 : Nat) (h0 : gW cI Λ a0 l0 n0) (h1 : gW cI Λ a1 l1 n1) (h2 : gW cI Λ a2 l2 n2) (F A : gm_M) (post : gm_M → gm_M → Prop) (h : vc_W_subtractSizes a0 l0 n0 a1 l1 n1 a2 l2 n2 F A post) : Met l y_W_subtractSizes (.code y_W_subtractSizes b_W_subtractSizes 7 none :: gw_WS) rm_W_subtractSizes (va_Pc [.ref a0, .ref a1, .ref a2] (gw_P D cI cB cJ cW Λ L F A)) (gw_Qv D cI cB cJ cW Λ L (fun F2 A2 => post F2 A2)) 0 0 (gw_A Λ) := by
  refine Met.ofW (cc := b_W_subtractSizes) (maxL := 7) (ret := none) (by decide) rfl ?_
  intro p e s m args below meth c s₁ B hml hv
  obtain ⟨hargs, hP, hK⟩ := hv
  have hx := B.exec
  have hb := B.bytes
  have hr := B.returns
  have hlocks := B.notSynchronized
  have htw : ∀ w ∈ gw_WS, w.before args s = true := fun w h9 => atoms_spec (ws := .code y_W_subtractSizes b_W_subtractSizes 7 none :: gw_WS) B.pre w (List.mem_cons_of_mem _ h9)
  have hown : s.vm.findClass R_W = some m.cls := findClass_of_methodNamed B.named
  have hS : va_S (gw_A Λ) s.heap s.heap [] := va_S.rf
  refine W.eq (g2 := entryFrame m ([.ref a0, .ref a1, .ref a2] : List Value).toArray 7) (by rw [hargs]) ?_
  have hl := lv_entry ([.ref a0, .ref a1, .ref a2]) (n := 7) (Nat.le_of_ble_eq_true rfl)
  rw [lg_entry_eq]
  generalize (lg_sl ([.ref a0, .ref a1, .ref a2]) ++ List.replicate (7 - (lg_sl ([.ref a0, .ref a1, .ref a2])).length) Slot.unset).toArray = ls at hl ⊢
  have hl : lv_has ls 7 [(0, .ref a0), (1, .ref a1), (2, .ref a2)] := hl
  generalize hQe : MQ below (gw_Qv D cI cB cJ cW Λ L (fun F2 A2 => post F2 A2)) args s 0 0 (gw_A Λ) = Q
  unfold vc_W_subtractSizes at h
  refine lv_aload_n hx hb d_W_subtractSizes_0 rfl (lv_at hl 1 rfl) ?_
  refine gs_get (v := .int (F a1 1)) hx hb htw i_W hown hK hP h1.1 rfl 1 (by decide) (htw _ mm_35) rfl d_W_subtractSizes_1 ?_
  refine lv_topi (fun x3_1 ex3_1 => ?_)
  have h := h x3_1 ex3_1
  refine lv_istore_n (lv' := [(3, .int x3_1), (0, .ref a0), (1, .ref a1), (2, .ref a2)]) hx hb d_W_subtractSizes_4 rfl hl (by decide) rfl (fun ls hl => ?_)
  refine lv_iconst (v := (0 : Int32)) hx hb d_W_subtractSizes_5 (by decide) ?_
  refine lv_istore (lv' := [(4, .int (0 : Int32)), (3, .int x3_1), (0, .ref a0), (1, .ref a1), (2, .ref a2)]) hx hb d_W_subtractSizes_6 hl (by decide) rfl (fun ls hl => ?_)
  refine lv_iconst (v := (0 : Int32)) hx hb d_W_subtractSizes_8 (by decide) ?_
  refine lv_istore (lv' := [(5, .int (0 : Int32)), (4, .int (0 : Int32)), (3, .int x3_1), (0, .ref a0), (1, .ref a1), (2, .ref a2)]) hx hb d_W_subtractSizes_9 hl (by decide) rfl (fun ls hl => ?_)
  obtain ⟨I_11, μ_11, h0_11, hs_11⟩ := h
  have loop_11 : ∀ (N : Nat) (x4_2 : Int32) (x5_2 : Int32) (A_2 : gm_M) (H : Heap) (locs : List Loc) (ls : Array Slot), μ_11 x4_2 x5_2 A_2 < N → I_11 x4_2 x5_2 A_2 → va_P D gcls (gs_ws Λ F A_2 L) H → va_S (gw_A Λ) s.heap H locs → lv_has ls 7 [(0, .ref a0), (1, .ref a1), (2, .ref a2), (3, .int x3_1), (4, .int x4_2), (5, .int x5_2)] → W p l e rm_W_subtractSizes s m args below meth c H locs 0 0 Q (F0 m 11 ls []) := by
    intro N
    induction N with
    | zero => intro x4_2 x5_2 A_2 H locs ls hμ; exact absurd hμ (Nat.not_lt_zero _)
    | succ N ih_11 =>
      intro x4_2 x5_2 A_2 H locs ls hμ_11 hI hP hS hl
      have h := hs_11 x4_2 x5_2 A_2 hI
      refine lv_iload hx hb d_W_subtractSizes_11 (lv_at hl 5 rfl) ?_
      refine lv_iload_n hx hb d_W_subtractSizes_13 rfl (lv_at hl 3 rfl) ?_
      refine lv_icmp_ge (tgt := 66) hx hb d_W_subtractSizes_14 (by decide) (fun c_14 => ?_) (fun c_14 => ?_)
      · have h := h.1 c_14
        refine lv_aload_n hx hb d_W_subtractSizes_66 rfl (lv_at hl 0 rfl) ?_
        refine lv_iload_n hx hb d_W_subtractSizes_67 rfl (lv_at hl 3 rfl) ?_
        refine gw_gov (gw_runV (As := [.int x3_1]) (rest := []) hx hb hml hown htw hK hP hS hl.1 (w_W_trim hlo a0 l0 n0 x3_1 ⟨h0.1, h0.2⟩ F A_2 _ h) k_W_trim mm_201 ⟨Nat.le_of_ble_eq_true rfl, Nat.le_of_ble_eq_true rfl⟩ rfl rfl h0.1 rfl rfl rfl (Nat.le_of_ble_eq_true rfl) d_W_subtractSizes_68) hS (fun F_3 A_3 H locs hw hP hS => ?_)
        obtain ⟨rfl, hw⟩ := hw
        have h := hw
        rw [← hQe]
        exact gw_vret hx hb hr hlocks hP hK hS h d_W_subtractSizes_71
      · have h := h.2 c_14
        refine lv_aload_n hx hb d_W_subtractSizes_17 rfl (lv_at hl 1 rfl) ?_
        refine gs_get (v := .ref l1) hx hb htw i_W hown hK hP h1.1 rfl 0 (by decide) (htw _ mm_33) rfl d_W_subtractSizes_18 ?_
        refine lv_iload hx hb d_W_subtractSizes_21 (lv_at hl 5 rfl) ?_
        obtain ⟨hin, h⟩ := h
        refine gs_ild hx hb hK hP h1.2 hin d_W_subtractSizes_23 ?_
        refine lv_aload_n hx hb d_W_subtractSizes_24 rfl (lv_at hl 2 rfl) ?_
        refine lv_iload hx hb d_W_subtractSizes_25 (lv_at hl 5 rfl) ?_
        refine gw_goi (gw_runV (As := [.int x5_2]) (rest := [.int (A_2 l1 x5_2.toNatClampNeg)]) hx hb hml hown htw hK hP hS hl.1 (w_W_limbAt hlo a2 l2 n2 x5_2 ⟨h2.1, h2.2⟩ F A_2 _ h) k_W_limbAt mm_416 ⟨Nat.le_of_ble_eq_true rfl, Nat.le_of_ble_eq_true rfl⟩ rfl rfl h2.1 rfl rfl rfl (Nat.le_of_ble_eq_true rfl) d_W_subtractSizes_27) hS (fun r_4 F_4 A_4 H locs hw hP hS => ?_)
        obtain ⟨rfl, hw⟩ := hw
        obtain ⟨rfl, hw⟩ := hw
        have h := hw
        refine lv_isub hx hb d_W_subtractSizes_30 ?_
        refine lv_iload hx hb d_W_subtractSizes_31 (lv_at hl 4 rfl) ?_
        refine lv_isub hx hb d_W_subtractSizes_33 ?_
        refine lv_topi (fun x6_5 ex6_5 => ?_)
        have h := h x6_5 ex6_5
        refine lv_istore (lv' := [(6, .int x6_5), (0, .ref a0), (1, .ref a1), (2, .ref a2), (3, .int x3_1), (4, .int x4_2), (5, .int x5_2)]) hx hb d_W_subtractSizes_34 hl (by decide) rfl (fun ls hl => ?_)
        refine lv_aload_n hx hb d_W_subtractSizes_36 rfl (lv_at hl 1 rfl) ?_
        refine gs_get (v := .ref l0) hx hb htw i_W hown hK hP h0.1 rfl 0 (by decide) (htw _ mm_33) rfl d_W_subtractSizes_37 ?_
        refine lv_iload hx hb d_W_subtractSizes_40 (lv_at hl 6 rfl) ?_
        refine lv_iload hx hb d_W_subtractSizes_42 (lv_at hl 0 rfl) ?_
        refine lv_ldc (v := (2147483647 : Int32)) hx hb hown (htw _ mm_428) d_W_subtractSizes_44 ?_
        refine lv_iand hx hb d_W_subtractSizes_46 ?_
        obtain ⟨hin, h⟩ := h
        refine gs_ist hx hb hK hlo hP hS h0.2 hin d_W_subtractSizes_47 (fun A_6 eA_6 H locs hP hS => ?_)
        have h := h A_6 eA_6
        refine lv_iload hx hb d_W_subtractSizes_48 (lv_at hl 0 rfl) ?_
        refine lv_if_ge (tgt := 57) hx hb d_W_subtractSizes_50 (by decide) (fun c_50 => ?_) (fun c_50 => ?_)
        · have h := h.1 c_50
          refine lv_iconst (v := (0 : Int32)) hx hb d_W_subtractSizes_57 (by decide) ?_
          refine lv_istore (lv' := [(4, .int (0 : Int32)), (6, .int x6_5), (0, .ref a0), (1, .ref a1), (2, .ref a2), (3, .int x3_1), (5, .int x5_2)]) hx hb d_W_subtractSizes_58 hl (by decide) rfl (fun ls hl => ?_)
          obtain ⟨x5_7, ex5_7⟩ : ∃ y : Int32, y = x5_2 + (1 : Int32) := ⟨_, rfl⟩
          have h := h x5_7 ex5_7
          refine lv_iinc (v := x5_7) (lv' := [(5, .int x5_7), (4, .int (0 : Int32)), (6, .int x6_5), (0, .ref a0), (1, .ref a1), (2, .ref a2), (3, .int x3_1)]) hx hb d_W_subtractSizes_60 hl (k := 6) rfl (by rw [ex5_7]; rfl) (by decide) rfl (fun ls hl => ?_)
          refine lv_goto (tgt := 11) hx hb d_W_subtractSizes_63 (by decide) ?_
          exact ih_11 (0 : Int32) x5_7 A_6 _ _ _ (Nat.lt_of_lt_of_le h.2 (Nat.le_of_lt_succ hμ_11)) h.1 hP hS (lv_sub hl [3, 4, 5, 6, 1, 0] rfl)
        · have h := h.2 c_50
          refine lv_iconst (v := (1 : Int32)) hx hb d_W_subtractSizes_53 (by decide) ?_
          refine lv_goto (tgt := 58) hx hb d_W_subtractSizes_54 (by decide) ?_
          refine lv_istore (lv' := [(4, .int (1 : Int32)), (6, .int x6_5), (0, .ref a0), (1, .ref a1), (2, .ref a2), (3, .int x3_1), (5, .int x5_2)]) hx hb d_W_subtractSizes_58 hl (by decide) rfl (fun ls hl => ?_)
          obtain ⟨x5_8, ex5_8⟩ : ∃ y : Int32, y = x5_2 + (1 : Int32) := ⟨_, rfl⟩
          have h := h x5_8 ex5_8
          refine lv_iinc (v := x5_8) (lv' := [(5, .int x5_8), (4, .int (1 : Int32)), (6, .int x6_5), (0, .ref a0), (1, .ref a1), (2, .ref a2), (3, .int x3_1)]) hx hb d_W_subtractSizes_60 hl (k := 6) rfl (by rw [ex5_8]; rfl) (by decide) rfl (fun ls hl => ?_)
          refine lv_goto (tgt := 11) hx hb d_W_subtractSizes_63 (by decide) ?_
          exact ih_11 (1 : Int32) x5_8 A_6 _ _ _ (Nat.lt_of_lt_of_le h.2 (Nat.le_of_lt_succ hμ_11)) h.1 hP hS (lv_sub hl [3, 4, 5, 6, 1, 0] rfl)
  exact loop_11 (μ_11 (0 : Int32) (0 : Int32) A + 1) (0 : Int32) (0 : Int32) A _ _ _ (Nat.lt_succ_self _) h0_11 hP hS (lv_sub hl [3, 4, 5, 2, 1, 0] rfl)
abbrev rm_W_takeSum : Room := { frames := 3, cells := 0, slots := 0, locals := 88 }
set_option maxHeartbeats 4000000 in
set_option maxRecDepth 100000 in
theorem w_W_takeSum (hlo : gs_D Λ) (a0 l0 n0 : Nat) (a1 l1 n1 : Nat) (a2 l2 n2 : Nat) (p3 : Int32) (h0 : gW cI Λ a0 l0 n0) (h1 : gW cI Λ a1 l1 n1) (h2 : gW cI Λ a2 l2 n2) (F A : gm_M) (post : gm_M → gm_M → Prop) (h : vc_W_takeSum a0 l0 n0 a1 l1 n1 a2 l2 n2 p3 F A post) : Met l y_W_takeSum (.code y_W_takeSum b_W_takeSum 5 none :: gw_WS) rm_W_takeSum (va_Pc [.ref a0, .ref a1, .ref a2, .int p3] (gw_P D cI cB cJ cW Λ L F A)) (gw_Qv D cI cB cJ cW Λ L (fun F2 A2 => post F2 A2)) 0 0 (gw_A Λ) := by
  refine Met.ofW (cc := b_W_takeSum) (maxL := 5) (ret := none) (by decide) rfl ?_
  intro p e s m args below meth c s₁ B hml hv
  obtain ⟨hargs, hP, hK⟩ := hv
  have hx := B.exec
  have hb := B.bytes
  have hr := B.returns
  have hlocks := B.notSynchronized
  have htw : ∀ w ∈ gw_WS, w.before args s = true := fun w h9 => atoms_spec (ws := .code y_W_takeSum b_W_takeSum 5 none :: gw_WS) B.pre w (List.mem_cons_of_mem _ h9)
  have hown : s.vm.findClass R_W = some m.cls := findClass_of_methodNamed B.named
  have hS : va_S (gw_A Λ) s.heap s.heap [] := va_S.rf
  refine W.eq (g2 := entryFrame m ([.ref a0, .ref a1, .ref a2, .int p3] : List Value).toArray 5) (by rw [hargs]) ?_
  have hl := lv_entry ([.ref a0, .ref a1, .ref a2, .int p3]) (n := 5) (Nat.le_of_ble_eq_true rfl)
  rw [lg_entry_eq]
  generalize (lg_sl ([.ref a0, .ref a1, .ref a2, .int p3]) ++ List.replicate (5 - (lg_sl ([.ref a0, .ref a1, .ref a2, .int p3])).length) Slot.unset).toArray = ls at hl ⊢
  have hl : lv_has ls 5 [(0, .ref a0), (1, .ref a1), (2, .ref a2), (3, .int p3)] := hl
  generalize hQe : MQ below (gw_Qv D cI cB cJ cW Λ L (fun F2 A2 => post F2 A2)) args s 0 0 (gw_A Λ) = Q
  unfold vc_W_takeSum at h
  refine lv_aload_n hx hb d_W_takeSum_0 rfl (lv_at hl 1 rfl) ?_
  refine gs_get (v := .int (F a1 2)) hx hb htw i_W hown hK hP h1.1 rfl 2 (by decide) (htw _ mm_39) rfl d_W_takeSum_1 ?_
  refine lv_topi (fun x4_1 ex4_1 => ?_)
  have h := h x4_1 ex4_1
  refine lv_istore (lv' := [(4, .int x4_1), (0, .ref a0), (1, .ref a1), (2, .ref a2), (3, .int p3)]) hx hb d_W_takeSum_4 hl (by decide) rfl (fun ls hl => ?_)
  refine lv_iload hx hb d_W_takeSum_6 (lv_at hl 0 rfl) ?_
  refine lv_iload_n hx hb d_W_takeSum_8 rfl (lv_at hl 4 rfl) ?_
  refine lv_icmp_ne (tgt := 27) hx hb d_W_takeSum_9 (by decide) (fun c_9 => ?_) (fun c_9 => ?_)
  · have h := h.1 c_9
    refine lv_aload_n hx hb d_W_takeSum_27 rfl (lv_at hl 2 rfl) ?_
    refine lv_aload_n hx hb d_W_takeSum_28 rfl (lv_at hl 3 rfl) ?_
    refine gw_goi (gw_runV (As := [.ref a2]) (rest := []) hx hb hml hown htw hK hP hS hl.1 (w_W_orderOfSizes hlo a1 l1 n1 a2 l2 n2 ⟨h1.1, h1.2⟩ ⟨h2.1, h2.2⟩ F A _ h) k_W_orderOfSizes mm_420 ⟨Nat.le_of_ble_eq_true rfl, Nat.le_of_ble_eq_true rfl⟩ rfl rfl h1.1 rfl rfl rfl (Nat.le_of_ble_eq_true rfl) d_W_takeSum_29) hS (fun r_2 F_2 A_2 H locs hw hP hS => ?_)
    obtain ⟨rfl, hw⟩ := hw
    obtain ⟨rfl, hw⟩ := hw
    have h := hw
    refine lv_if_lt (tgt := 50) hx hb d_W_takeSum_32 (by decide) (fun c_32 => ?_) (fun c_32 => ?_)
    · have h := h.1 c_32
      refine lv_aload_n hx hb d_W_takeSum_50 rfl (lv_at hl 1 rfl) ?_
      refine lv_aload_n hx hb d_W_takeSum_51 rfl (lv_at hl 3 rfl) ?_
      refine lv_aload_n hx hb d_W_takeSum_52 rfl (lv_at hl 2 rfl) ?_
      refine gw_gov (gw_runV (As := [.ref a2, .ref a1]) (rest := []) hx hb hml hown htw hK hP hS hl.1 (w_W_subtractSizes hlo a0 l0 n0 a2 l2 n2 a1 l1 n1 ⟨h0.1, h0.2⟩ ⟨h2.1, h2.2⟩ ⟨h1.1, h1.2⟩ F A _ h) k_W_subtractSizes mm_424 ⟨Nat.le_of_ble_eq_true rfl, Nat.le_of_ble_eq_true rfl⟩ rfl rfl h0.1 rfl rfl rfl (Nat.le_of_ble_eq_true rfl) d_W_takeSum_53) hS (fun F_3 A_3 H locs hw hP hS => ?_)
      have h := hw
      refine lv_aload_n hx hb d_W_takeSum_56 rfl (lv_at hl 1 rfl) ?_
      refine lv_iload_n hx hb d_W_takeSum_57 rfl (lv_at hl 4 rfl) ?_
      refine gw_gov (gw_runV (As := [.int p3]) (rest := []) hx hb hml hown htw hK hP hS hl.1 (w_W_setBelow hlo a0 l0 n0 p3 ⟨h0.1, h0.2⟩ F_3 A_3 _ h) k_W_setBelow mm_205 ⟨Nat.le_of_ble_eq_true rfl, Nat.le_of_ble_eq_true rfl⟩ rfl rfl h0.1 rfl rfl rfl (Nat.le_of_ble_eq_true rfl) d_W_takeSum_58) hS (fun F_4 A_4 H locs hw hP hS => ?_)
      obtain ⟨rfl, hw⟩ := hw
      have h := hw
      rw [← hQe]
      exact gw_vret hx hb hr hlocks hP hK hS h d_W_takeSum_61
    · have h := h.2 c_32
      refine lv_aload_n hx hb d_W_takeSum_35 rfl (lv_at hl 1 rfl) ?_
      refine lv_aload_n hx hb d_W_takeSum_36 rfl (lv_at hl 2 rfl) ?_
      refine lv_aload_n hx hb d_W_takeSum_37 rfl (lv_at hl 3 rfl) ?_
      refine gw_gov (gw_runV (As := [.ref a1, .ref a2]) (rest := []) hx hb hml hown htw hK hP hS hl.1 (w_W_subtractSizes hlo a0 l0 n0 a1 l1 n1 a2 l2 n2 ⟨h0.1, h0.2⟩ ⟨h1.1, h1.2⟩ ⟨h2.1, h2.2⟩ F A _ h) k_W_subtractSizes mm_424 ⟨Nat.le_of_ble_eq_true rfl, Nat.le_of_ble_eq_true rfl⟩ rfl rfl h0.1 rfl rfl rfl (Nat.le_of_ble_eq_true rfl) d_W_takeSum_38) hS (fun F_5 A_5 H locs hw hP hS => ?_)
      have h := hw
      refine lv_aload_n hx hb d_W_takeSum_41 rfl (lv_at hl 1 rfl) ?_
      refine lv_iload hx hb d_W_takeSum_42 (lv_at hl 0 rfl) ?_
      refine gw_gov (gw_runV (As := [.int x4_1]) (rest := []) hx hb hml hown htw hK hP hS hl.1 (w_W_setBelow hlo a0 l0 n0 x4_1 ⟨h0.1, h0.2⟩ F_5 A_5 _ h) k_W_setBelow mm_205 ⟨Nat.le_of_ble_eq_true rfl, Nat.le_of_ble_eq_true rfl⟩ rfl rfl h0.1 rfl rfl rfl (Nat.le_of_ble_eq_true rfl) d_W_takeSum_44) hS (fun F_6 A_6 H locs hw hP hS => ?_)
      obtain ⟨rfl, hw⟩ := hw
      have h := hw
      refine lv_goto (tgt := 61) hx hb d_W_takeSum_47 (by decide) ?_
      rw [← hQe]
      exact gw_vret hx hb hr hlocks hP hK hS h d_W_takeSum_61
  · have h := h.2 c_9
    refine lv_aload_n hx hb d_W_takeSum_12 rfl (lv_at hl 1 rfl) ?_
    refine lv_aload_n hx hb d_W_takeSum_13 rfl (lv_at hl 2 rfl) ?_
    refine lv_aload_n hx hb d_W_takeSum_14 rfl (lv_at hl 3 rfl) ?_
    refine gw_gov (gw_runV (As := [.ref a1, .ref a2]) (rest := []) hx hb hml hown htw hK hP hS hl.1 (w_W_addSizes hlo a0 l0 n0 a1 l1 n1 a2 l2 n2 ⟨h0.1, h0.2⟩ ⟨h1.1, h1.2⟩ ⟨h2.1, h2.2⟩ F A _ h) k_W_addSizes mm_409 ⟨Nat.le_of_ble_eq_true rfl, Nat.le_of_ble_eq_true rfl⟩ rfl rfl h0.1 rfl rfl rfl (Nat.le_of_ble_eq_true rfl) d_W_takeSum_15) hS (fun F_7 A_7 H locs hw hP hS => ?_)
    have h := hw
    refine lv_aload_n hx hb d_W_takeSum_18 rfl (lv_at hl 1 rfl) ?_
    refine lv_iload hx hb d_W_takeSum_19 (lv_at hl 0 rfl) ?_
    refine gw_gov (gw_runV (As := [.int x4_1]) (rest := []) hx hb hml hown htw hK hP hS hl.1 (w_W_setBelow hlo a0 l0 n0 x4_1 ⟨h0.1, h0.2⟩ F_7 A_7 _ h) k_W_setBelow mm_205 ⟨Nat.le_of_ble_eq_true rfl, Nat.le_of_ble_eq_true rfl⟩ rfl rfl h0.1 rfl rfl rfl (Nat.le_of_ble_eq_true rfl) d_W_takeSum_21) hS (fun F_8 A_8 H locs hw hP hS => ?_)
    obtain ⟨rfl, hw⟩ := hw
    have h := hw
    refine lv_goto (tgt := 61) hx hb d_W_takeSum_24 (by decide) ?_
    rw [← hQe]
    exact gw_vret hx hb hr hlocks hP hK hS h d_W_takeSum_61
abbrev rm_W_growBy : Room := { frames := 2, cells := 0, slots := 0, locals := 42 }
set_option maxHeartbeats 4000000 in
set_option maxRecDepth 100000 in
theorem w_W_growBy (hlo : gs_D Λ) (a0 l0 n0 : Nat) (p1 : Int64) (p2 : Int64) (h0 : gW cI Λ a0 l0 n0) (F A : gm_M) (post : gm_M → gm_M → Prop) (h : vc_W_growBy a0 l0 n0 p1 p2 F A post) : Met l y_W_growBy (.code y_W_growBy b_W_growBy 10 none :: gw_WS) rm_W_growBy (va_Pc [.ref a0, .long p1, .long p2] (gw_P D cI cB cJ cW Λ L F A)) (gw_Qv D cI cB cJ cW Λ L (fun F2 A2 => post F2 A2)) 0 0 (gw_A Λ) := by
  refine Met.ofW (cc := b_W_growBy) (maxL := 10) (ret := none) (by decide) rfl ?_
  intro p e s m args below meth c s₁ B hml hv
  obtain ⟨hargs, hP, hK⟩ := hv
  have hx := B.exec
  have hb := B.bytes
  have hr := B.returns
  have hlocks := B.notSynchronized
  have htw : ∀ w ∈ gw_WS, w.before args s = true := fun w h9 => atoms_spec (ws := .code y_W_growBy b_W_growBy 10 none :: gw_WS) B.pre w (List.mem_cons_of_mem _ h9)
  have hown : s.vm.findClass R_W = some m.cls := findClass_of_methodNamed B.named
  have hS : va_S (gw_A Λ) s.heap s.heap [] := va_S.rf
  refine W.eq (g2 := entryFrame m ([.ref a0, .long p1, .long p2] : List Value).toArray 10) (by rw [hargs]) ?_
  have hl := lv_entry ([.ref a0, .long p1, .long p2]) (n := 10) (Nat.le_of_ble_eq_true rfl)
  rw [lg_entry_eq]
  generalize (lg_sl ([.ref a0, .long p1, .long p2]) ++ List.replicate (10 - (lg_sl ([.ref a0, .long p1, .long p2])).length) Slot.unset).toArray = ls at hl ⊢
  have hl : lv_has ls 10 [(0, .ref a0), (1, .long p1), (3, .long p2)] := hl
  generalize hQe : MQ below (gw_Qv D cI cB cJ cW Λ L (fun F2 A2 => post F2 A2)) args s 0 0 (gw_A Λ) = Q
  unfold vc_W_growBy at h
  refine lv_lload_n hx hb d_W_growBy_0 rfl (lv_at hl 2 rfl) ?_
  refine lv_lstore (lv' := [(5, .long p2), (0, .ref a0), (1, .long p1), (3, .long p2)]) hx hb d_W_growBy_1 hl (by decide) rfl (fun ls hl => ?_)
  refine lv_iconst (v := (0 : Int32)) hx hb d_W_growBy_3 (by decide) ?_
  refine lv_istore (lv' := [(7, .int (0 : Int32)), (5, .long p2), (0, .ref a0), (1, .long p1), (3, .long p2)]) hx hb d_W_growBy_4 hl (by decide) rfl (fun ls hl => ?_)
  obtain ⟨I_6, μ_6, h0_6, hs_6⟩ := h
  have loop_6 : ∀ (N : Nat) (x5_1 : Int64) (x7_1 : Int32) (A_1 : gm_M) (H : Heap) (locs : List Loc) (ls : Array Slot), μ_6 x5_1 x7_1 A_1 < N → I_6 x5_1 x7_1 A_1 → va_P D gcls (gs_ws Λ F A_1 L) H → va_S (gw_A Λ) s.heap H locs → lv_has ls 10 [(0, .ref a0), (1, .long p1), (5, .long x5_1), (7, .int x7_1)] → W p l e rm_W_growBy s m args below meth c H locs 0 0 Q (F0 m 6 ls []) := by
    intro N
    induction N with
    | zero => intro x5_1 x7_1 A_1 H locs ls hμ; exact absurd hμ (Nat.not_lt_zero _)
    | succ N ih_6 =>
      intro x5_1 x7_1 A_1 H locs ls hμ_6 hI hP hS hl
      have h := hs_6 x5_1 x7_1 A_1 hI
      refine lv_iload hx hb d_W_growBy_6 (lv_at hl 3 rfl) ?_
      refine lv_aload_n hx hb d_W_growBy_8 rfl (lv_at hl 0 rfl) ?_
      refine gs_get (v := .int (F a0 1)) hx hb htw i_W hown hK hP h0.1 rfl 1 (by decide) (htw _ mm_35) rfl d_W_growBy_9 ?_
      refine lv_icmp_ge (tgt := 57) hx hb d_W_growBy_12 (by decide) (fun c_12 => ?_) (fun c_12 => ?_)
      · have h := h.1 c_12
        refine lv_aload_n hx hb d_W_growBy_57 rfl (lv_at hl 0 rfl) ?_
        refine gs_get (v := .ref l0) hx hb htw i_W hown hK hP h0.1 rfl 0 (by decide) (htw _ mm_33) rfl d_W_growBy_58 ?_
        refine lv_aload_n hx hb d_W_growBy_61 rfl (lv_at hl 0 rfl) ?_
        refine gs_get (v := .int (F a0 1)) hx hb htw i_W hown hK hP h0.1 rfl 1 (by decide) (htw _ mm_35) rfl d_W_growBy_62 ?_
        refine lv_lload hx hb d_W_growBy_65 (lv_at hl 2 rfl) ?_
        refine lv_l2i (v := (x5_1.toInt32)) hx hb d_W_growBy_67 (by rfl) ?_
        obtain ⟨hin, h⟩ := h
        refine gs_ist hx hb hK hlo hP hS h0.2 hin d_W_growBy_68 (fun A_2 eA_2 H locs hP hS => ?_)
        have h := h A_2 eA_2
        refine lv_aload_n hx hb d_W_growBy_69 rfl (lv_at hl 0 rfl) ?_
        refine lv_aload_n hx hb d_W_growBy_70 rfl (lv_at hl 0 rfl) ?_
        refine gs_get (v := .int (F a0 1)) hx hb htw i_W hown hK hP h0.1 rfl 1 (by decide) (htw _ mm_35) rfl d_W_growBy_71 ?_
        refine lv_iconst (v := (1 : Int32)) hx hb d_W_growBy_74 (by decide) ?_
        refine lv_iadd hx hb d_W_growBy_75 ?_
        refine gw_gov (gw_runV (As := [.int ((F a0 1) + (1 : Int32))]) (rest := []) hx hb hml hown htw hK hP hS hl.1 (w_W_trim hlo a0 l0 n0 ((F a0 1) + (1 : Int32)) ⟨h0.1, h0.2⟩ F A_2 _ h) k_W_trim mm_201 ⟨Nat.le_of_ble_eq_true rfl, Nat.le_of_ble_eq_true rfl⟩ rfl rfl h0.1 rfl rfl rfl (Nat.le_of_ble_eq_true rfl) d_W_growBy_76) hS (fun F_3 A_3 H locs hw hP hS => ?_)
        obtain ⟨rfl, hw⟩ := hw
        have h := hw
        rw [← hQe]
        exact gw_vret hx hb hr hlocks hP hK hS h d_W_growBy_79
      · have h := h.2 c_12
        refine lv_aload_n hx hb d_W_growBy_15 rfl (lv_at hl 0 rfl) ?_
        refine gs_get (v := .ref l0) hx hb htw i_W hown hK hP h0.1 rfl 0 (by decide) (htw _ mm_33) rfl d_W_growBy_16 ?_
        refine lv_iload hx hb d_W_growBy_19 (lv_at hl 3 rfl) ?_
        obtain ⟨hin, h⟩ := h
        refine gs_ild hx hb hK hP h0.2 hin d_W_growBy_21 ?_
        refine lv_i2l (v := ((A_1 l0 x7_1.toNatClampNeg).toInt64)) hx hb d_W_growBy_22 (by rfl) ?_
        refine lv_lload_n hx hb d_W_growBy_23 rfl (lv_at hl 1 rfl) ?_
        refine lv_lmul hx hb d_W_growBy_24 ?_
        refine lv_lload hx hb d_W_growBy_25 (lv_at hl 2 rfl) ?_
        refine lv_ladd hx hb d_W_growBy_27 ?_
        refine lv_topl (fun x8_4 ex8_4 => ?_)
        have h := h x8_4 ex8_4
        refine lv_lstore (lv' := [(8, .long x8_4), (0, .ref a0), (1, .long p1), (5, .long x5_1), (7, .int x7_1)]) hx hb d_W_growBy_28 hl (by decide) rfl (fun ls hl => ?_)
        refine lv_aload_n hx hb d_W_growBy_30 rfl (lv_at hl 1 rfl) ?_
        refine gs_get (v := .ref l0) hx hb htw i_W hown hK hP h0.1 rfl 0 (by decide) (htw _ mm_33) rfl d_W_growBy_31 ?_
        refine lv_iload hx hb d_W_growBy_34 (lv_at hl 4 rfl) ?_
        refine lv_lload hx hb d_W_growBy_36 (lv_at hl 0 rfl) ?_
        refine lv_ldc2 (v := (2147483647 : Int64)) hx hb hown (htw _ mm_200) d_W_growBy_38 ?_
        refine lv_land hx hb d_W_growBy_41 ?_
        refine lv_l2i (v := ((x8_4 &&& (2147483647 : Int64)).toInt32)) hx hb d_W_growBy_42 (by rfl) ?_
        obtain ⟨hin, h⟩ := h
        refine gs_ist hx hb hK hlo hP hS h0.2 hin d_W_growBy_43 (fun A_5 eA_5 H locs hP hS => ?_)
        have h := h A_5 eA_5
        refine lv_lload hx hb d_W_growBy_44 (lv_at hl 0 rfl) ?_
        refine lv_bipush (v := (31 : Int32)) hx hb d_W_growBy_46 (by decide) ?_
        refine lv_lushr (v := (j_lushr x8_4 (31 : Int32))) hx hb d_W_growBy_48 rfl ?_
        refine lv_topl (fun x5_6 ex5_6 => ?_)
        have h := h x5_6 ex5_6
        refine lv_lstore (lv' := [(5, .long x5_6), (8, .long x8_4), (0, .ref a0), (1, .long p1), (7, .int x7_1)]) hx hb d_W_growBy_49 hl (by decide) rfl (fun ls hl => ?_)
        obtain ⟨x7_7, ex7_7⟩ : ∃ y : Int32, y = x7_1 + (1 : Int32) := ⟨_, rfl⟩
        have h := h x7_7 ex7_7
        refine lv_iinc (v := x7_7) (lv' := [(7, .int x7_7), (5, .long x5_6), (8, .long x8_4), (0, .ref a0), (1, .long p1)]) hx hb d_W_growBy_51 hl (k := 4) rfl (by rw [ex7_7]; rfl) (by decide) rfl (fun ls hl => ?_)
        refine lv_goto (tgt := 6) hx hb d_W_growBy_54 (by decide) ?_
        exact ih_6 x5_6 x7_7 A_5 _ _ _ (Nat.lt_of_lt_of_le h.2 (Nat.le_of_lt_succ hμ_6)) h.1 hP hS (lv_sub hl [3, 4, 1, 0] rfl)
  exact loop_6 (μ_6 p2 (0 : Int32) A + 1) p2 (0 : Int32) A _ _ _ (Nat.lt_succ_self _) h0_6 hP hS (lv_sub hl [2, 3, 1, 0] rfl)
abbrev rm_W_growByOne : Room := { frames := 3, cells := 0, slots := 0, locals := 71 }
set_option maxHeartbeats 4000000 in
set_option maxRecDepth 100000 in
theorem w_W_growByOne (hlo : gs_D Λ) (a0 l0 n0 : Nat) (h0 : gW cI Λ a0 l0 n0) (F A : gm_M) (post : gm_M → gm_M → Prop) (h : vc_W_growByOne a0 l0 n0 F A post) : Met l y_W_growByOne (.code y_W_growByOne b_W_growByOne 1 none :: gw_WS) rm_W_growByOne (va_Pc [.ref a0] (gw_P D cI cB cJ cW Λ L F A)) (gw_Qv D cI cB cJ cW Λ L (fun F2 A2 => post F2 A2)) 0 0 (gw_A Λ) := by
  refine Met.ofW (cc := b_W_growByOne) (maxL := 1) (ret := none) (by decide) rfl ?_
  intro p e s m args below meth c s₁ B hml hv
  obtain ⟨hargs, hP, hK⟩ := hv
  have hx := B.exec
  have hb := B.bytes
  have hr := B.returns
  have hlocks := B.notSynchronized
  have htw : ∀ w ∈ gw_WS, w.before args s = true := fun w h9 => atoms_spec (ws := .code y_W_growByOne b_W_growByOne 1 none :: gw_WS) B.pre w (List.mem_cons_of_mem _ h9)
  have hown : s.vm.findClass R_W = some m.cls := findClass_of_methodNamed B.named
  have hS : va_S (gw_A Λ) s.heap s.heap [] := va_S.rf
  refine W.eq (g2 := entryFrame m ([.ref a0] : List Value).toArray 1) (by rw [hargs]) ?_
  have hl := lv_entry ([.ref a0]) (n := 1) (Nat.le_of_ble_eq_true rfl)
  rw [lg_entry_eq]
  generalize (lg_sl ([.ref a0]) ++ List.replicate (1 - (lg_sl ([.ref a0])).length) Slot.unset).toArray = ls at hl ⊢
  have hl : lv_has ls 1 [(0, .ref a0)] := hl
  generalize hQe : MQ below (gw_Qv D cI cB cJ cW Λ L (fun F2 A2 => post F2 A2)) args s 0 0 (gw_A Λ) = Q
  unfold vc_W_growByOne at h
  refine lv_aload_n hx hb d_W_growByOne_0 rfl (lv_at hl 0 rfl) ?_
  refine lv_lconst (v := (1 : Int64)) hx hb d_W_growByOne_1 (by decide) ?_
  refine lv_lconst (v := (1 : Int64)) hx hb d_W_growByOne_2 (by decide) ?_
  refine gw_gov (gw_runV (As := [.long (1 : Int64), .long (1 : Int64)]) (rest := []) hx hb hml hown htw hK hP hS hl.1 (w_W_growBy hlo a0 l0 n0 (1 : Int64) (1 : Int64) ⟨h0.1, h0.2⟩ F A _ h) k_W_growBy mm_502 ⟨Nat.le_of_ble_eq_true rfl, Nat.le_of_ble_eq_true rfl⟩ rfl rfl h0.1 rfl rfl rfl (Nat.le_of_ble_eq_true rfl) d_W_growByOne_3) hS (fun F_1 A_1 H locs hw hP hS => ?_)
  have h := hw
  rw [← hQe]
  exact gw_vret hx hb hr hlocks hP hK hS h d_W_growByOne_6
abbrev rm_W_cutBy : Room := { frames := 2, cells := 0, slots := 0, locals := 42 }
set_option maxHeartbeats 4000000 in
set_option maxRecDepth 100000 in
theorem w_W_cutBy (hlo : gs_D Λ) (a0 l0 n0 : Nat) (p1 : Int32) (h0 : gW cI Λ a0 l0 n0) (F A : gm_M) (post : Int32 → gm_M → gm_M → Prop) (h : vc_W_cutBy a0 l0 n0 p1 F A post) : Met l y_W_cutBy (.code y_W_cutBy b_W_cutBy 7 (some .int) :: gw_WS) rm_W_cutBy (va_Pc [.ref a0, .int p1] (gw_P D cI cB cJ cW Λ L F A)) (gw_Qi D cI cB cJ cW Λ L (fun r F2 A2 => post r F2 A2)) 0 0 (gw_A Λ) := by
  refine Met.ofW (cc := b_W_cutBy) (maxL := 7) (ret := (some .int)) (by decide) rfl ?_
  intro p e s m args below meth c s₁ B hml hv
  obtain ⟨hargs, hP, hK⟩ := hv
  have hx := B.exec
  have hb := B.bytes
  have hr := B.returns
  have hlocks := B.notSynchronized
  have htw : ∀ w ∈ gw_WS, w.before args s = true := fun w h9 => atoms_spec (ws := .code y_W_cutBy b_W_cutBy 7 (some .int) :: gw_WS) B.pre w (List.mem_cons_of_mem _ h9)
  have hown : s.vm.findClass R_W = some m.cls := findClass_of_methodNamed B.named
  have hS : va_S (gw_A Λ) s.heap s.heap [] := va_S.rf
  refine W.eq (g2 := entryFrame m ([.ref a0, .int p1] : List Value).toArray 7) (by rw [hargs]) ?_
  have hl := lv_entry ([.ref a0, .int p1]) (n := 7) (Nat.le_of_ble_eq_true rfl)
  rw [lg_entry_eq]
  generalize (lg_sl ([.ref a0, .int p1]) ++ List.replicate (7 - (lg_sl ([.ref a0, .int p1])).length) Slot.unset).toArray = ls at hl ⊢
  have hl : lv_has ls 7 [(0, .ref a0), (1, .int p1)] := hl
  generalize hQe : MQ below (gw_Qi D cI cB cJ cW Λ L (fun r F2 A2 => post r F2 A2)) args s 0 0 (gw_A Λ) = Q
  unfold vc_W_cutBy at h
  refine lv_lconst (v := (0 : Int64)) hx hb d_W_cutBy_0 (by decide) ?_
  refine lv_lstore_n (lv' := [(2, .long (0 : Int64)), (0, .ref a0), (1, .int p1)]) hx hb d_W_cutBy_1 rfl hl (by decide) rfl (fun ls hl => ?_)
  refine lv_aload_n hx hb d_W_cutBy_2 rfl (lv_at hl 1 rfl) ?_
  refine gs_get (v := .int (F a0 1)) hx hb htw i_W hown hK hP h0.1 rfl 1 (by decide) (htw _ mm_35) rfl d_W_cutBy_3 ?_
  refine lv_iconst (v := (1 : Int32)) hx hb d_W_cutBy_6 (by decide) ?_
  refine lv_isub hx hb d_W_cutBy_7 ?_
  refine lv_topi (fun x4_1 ex4_1 => ?_)
  have h := h x4_1 ex4_1
  refine lv_istore (lv' := [(4, .int x4_1), (2, .long (0 : Int64)), (0, .ref a0), (1, .int p1)]) hx hb d_W_cutBy_8 hl (by decide) rfl (fun ls hl => ?_)
  obtain ⟨I_10, μ_10, h0_10, hs_10⟩ := h
  have loop_10 : ∀ (N : Nat) (x2_2 : Int64) (x4_2 : Int32) (A_2 : gm_M) (H : Heap) (locs : List Loc) (ls : Array Slot), μ_10 x2_2 x4_2 A_2 < N → I_10 x2_2 x4_2 A_2 → va_P D gcls (gs_ws Λ F A_2 L) H → va_S (gw_A Λ) s.heap H locs → lv_has ls 7 [(0, .ref a0), (1, .int p1), (2, .long x2_2), (4, .int x4_2)] → W p l e rm_W_cutBy s m args below meth c H locs 0 0 Q (F0 m 10 ls []) := by
    intro N
    induction N with
    | zero => intro x2_2 x4_2 A_2 H locs ls hμ; exact absurd hμ (Nat.not_lt_zero _)
    | succ N ih_10 =>
      intro x2_2 x4_2 A_2 H locs ls hμ_10 hI hP hS hl
      have h := hs_10 x2_2 x4_2 A_2 hI
      refine lv_iload hx hb d_W_cutBy_10 (lv_at hl 3 rfl) ?_
      refine lv_if_lt (tgt := 55) hx hb d_W_cutBy_12 (by decide) (fun c_12 => ?_) (fun c_12 => ?_)
      · have h := h.1 c_12
        refine lv_aload_n hx hb d_W_cutBy_55 rfl (lv_at hl 0 rfl) ?_
        refine lv_aload_n hx hb d_W_cutBy_56 rfl (lv_at hl 0 rfl) ?_
        refine gs_get (v := .int (F a0 1)) hx hb htw i_W hown hK hP h0.1 rfl 1 (by decide) (htw _ mm_35) rfl d_W_cutBy_57 ?_
        refine gw_gov (gw_runV (As := [.int (F a0 1)]) (rest := []) hx hb hml hown htw hK hP hS hl.1 (w_W_trim hlo a0 l0 n0 (F a0 1) ⟨h0.1, h0.2⟩ F A_2 _ h) k_W_trim mm_201 ⟨Nat.le_of_ble_eq_true rfl, Nat.le_of_ble_eq_true rfl⟩ rfl rfl h0.1 rfl rfl rfl (Nat.le_of_ble_eq_true rfl) d_W_cutBy_60) hS (fun F_3 A_3 H locs hw hP hS => ?_)
        obtain ⟨rfl, hw⟩ := hw
        have h := hw
        refine lv_lload_n hx hb d_W_cutBy_63 rfl (lv_at hl 2 rfl) ?_
        refine lv_l2i (v := (x2_2.toInt32)) hx hb d_W_cutBy_64 (by rfl) ?_
        rw [← hQe]
        exact gw_iret hx hb hr hlocks hP hK hS h d_W_cutBy_65
      · have h := h.2 c_12
        refine lv_lload_n hx hb d_W_cutBy_15 rfl (lv_at hl 2 rfl) ?_
        refine lv_bipush (v := (31 : Int32)) hx hb d_W_cutBy_16 (by decide) ?_
        refine lv_lshl (v := (j_lshl x2_2 (31 : Int32))) hx hb d_W_cutBy_18 rfl ?_
        refine lv_aload_n hx hb d_W_cutBy_19 rfl (lv_at hl 0 rfl) ?_
        refine gs_get (v := .ref l0) hx hb htw i_W hown hK hP h0.1 rfl 0 (by decide) (htw _ mm_33) rfl d_W_cutBy_20 ?_
        refine lv_iload hx hb d_W_cutBy_23 (lv_at hl 3 rfl) ?_
        obtain ⟨hin, h⟩ := h
        refine gs_ild hx hb hK hP h0.2 hin d_W_cutBy_25 ?_
        refine lv_i2l (v := ((A_2 l0 x4_2.toNatClampNeg).toInt64)) hx hb d_W_cutBy_26 (by rfl) ?_
        refine lv_lor hx hb d_W_cutBy_27 ?_
        refine lv_topl (fun x5_4 ex5_4 => ?_)
        have h := h x5_4 ex5_4
        refine lv_lstore (lv' := [(5, .long x5_4), (0, .ref a0), (1, .int p1), (2, .long x2_2), (4, .int x4_2)]) hx hb d_W_cutBy_28 hl (by decide) rfl (fun ls hl => ?_)
        refine lv_aload_n hx hb d_W_cutBy_30 rfl (lv_at hl 1 rfl) ?_
        refine gs_get (v := .ref l0) hx hb htw i_W hown hK hP h0.1 rfl 0 (by decide) (htw _ mm_33) rfl d_W_cutBy_31 ?_
        refine lv_iload hx hb d_W_cutBy_34 (lv_at hl 4 rfl) ?_
        refine lv_lload hx hb d_W_cutBy_36 (lv_at hl 0 rfl) ?_
        refine lv_iload_n hx hb d_W_cutBy_38 rfl (lv_at hl 2 rfl) ?_
        refine lv_i2l (v := (p1.toInt64)) hx hb d_W_cutBy_39 (by rfl) ?_
        obtain ⟨hne, h⟩ := h
        refine lv_ldiv hx hb d_W_cutBy_40 hne ?_
        refine lv_l2i (v := ((x5_4 / (p1.toInt64)).toInt32)) hx hb d_W_cutBy_41 (by rfl) ?_
        obtain ⟨hin, h⟩ := h
        refine gs_ist hx hb hK hlo hP hS h0.2 hin d_W_cutBy_42 (fun A_5 eA_5 H locs hP hS => ?_)
        have h := h A_5 eA_5
        refine lv_lload hx hb d_W_cutBy_43 (lv_at hl 0 rfl) ?_
        refine lv_iload_n hx hb d_W_cutBy_45 rfl (lv_at hl 2 rfl) ?_
        refine lv_i2l (v := (p1.toInt64)) hx hb d_W_cutBy_46 (by rfl) ?_
        obtain ⟨hne, h⟩ := h
        refine lv_lrem hx hb d_W_cutBy_47 hne ?_
        refine lv_topl (fun x2_6 ex2_6 => ?_)
        have h := h x2_6 ex2_6
        refine lv_lstore_n (lv' := [(2, .long x2_6), (5, .long x5_4), (0, .ref a0), (1, .int p1), (4, .int x4_2)]) hx hb d_W_cutBy_48 rfl hl (by decide) rfl (fun ls hl => ?_)
        obtain ⟨x4_7, ex4_7⟩ : ∃ y : Int32, y = x4_2 + (-1 : Int32) := ⟨_, rfl⟩
        have h := h x4_7 ex4_7
        refine lv_iinc (v := x4_7) (lv' := [(4, .int x4_7), (2, .long x2_6), (5, .long x5_4), (0, .ref a0), (1, .int p1)]) hx hb d_W_cutBy_49 hl (k := 4) rfl (by rw [ex4_7]; rfl) (by decide) rfl (fun ls hl => ?_)
        refine lv_goto (tgt := 10) hx hb d_W_cutBy_52 (by decide) ?_
        exact ih_10 x2_6 x4_7 A_5 _ _ _ (Nat.lt_of_lt_of_le h.2 (Nat.le_of_lt_succ hμ_10)) h.1 hP hS (lv_sub hl [3, 4, 1, 0] rfl)
  exact loop_10 (μ_10 (0 : Int64) x4_1 A + 1) (0 : Int64) x4_1 A _ _ _ (Nat.lt_succ_self _) h0_10 hP hS (lv_sub hl [2, 3, 1, 0] rfl)
