variable {l : Launch} {D : va_G} {cI cB cJ cW : ClassId} {Λ : gs_L} {L : Nat → Nat → Int64}
abbrev rm_W_endlessLimb : Room := { frames := 1, cells := 0, slots := 0, locals := 21 }
set_option maxHeartbeats 4000000 in
set_option maxRecDepth 100000 in
theorem w_W_endlessLimb (hlo : gs_D Λ) (a0 l0 n0 : Nat) (p1 : Int32) (p2 : Int32) (h0 : gW cI Λ a0 l0 n0) (F A : gm_M) (post : Int32 → Prop) (h : vc_W_endlessLimb a0 l0 n0 p1 p2 F A post) : Met l y_W_endlessLimb (.code y_W_endlessLimb b_W_endlessLimb 3 (some .int) :: gw_WS) rm_W_endlessLimb (va_Pc [.ref a0, .int p1, .int p2] (gw_P D cI cB cJ cW Λ L F A)) (gw_Qi D cI cB cJ cW Λ L (fun r F2 A2 => F = F2 ∧ A = A2 ∧ post r)) 0 0 (gw_A Λ) := by
  refine Met.ofW (cc := b_W_endlessLimb) (maxL := 3) (ret := (some .int)) (by decide) rfl ?_
  intro p e s m args below meth c s₁ B hml hv
  obtain ⟨hargs, hP, hK⟩ := hv
  have hx := B.exec
  have hb := B.bytes
  have hr := B.returns
  have hlocks := B.notSynchronized
  have htw : ∀ w ∈ gw_WS, w.before args s = true := fun w h9 => atoms_spec (ws := .code y_W_endlessLimb b_W_endlessLimb 3 (some .int) :: gw_WS) B.pre w (List.mem_cons_of_mem _ h9)
  have hown : s.vm.findClass R_W = some m.cls := findClass_of_methodNamed B.named
  have hS : va_S (gw_A Λ) s.heap s.heap [] := va_S.rf
  refine W.eq (g2 := entryFrame m ([.ref a0, .int p1, .int p2] : List Value).toArray 3) (by rw [hargs]) ?_
  have hl := lv_entry ([.ref a0, .int p1, .int p2]) (n := 3) (Nat.le_of_ble_eq_true rfl)
  rw [lg_entry_eq]
  generalize (lg_sl ([.ref a0, .int p1, .int p2]) ++ List.replicate (3 - (lg_sl ([.ref a0, .int p1, .int p2])).length) Slot.unset).toArray = ls at hl ⊢
  have hl : lv_has ls 3 [(0, .ref a0), (1, .int p1), (2, .int p2)] := hl
  generalize hQe : MQ below (gw_Qi D cI cB cJ cW Λ L (fun r F2 A2 => F = F2 ∧ A = A2 ∧ post r)) args s 0 0 (gw_A Λ) = Q
  unfold vc_W_endlessLimb at h
  refine lv_aload_n hx hb d_W_endlessLimb_0 rfl (lv_at hl 0 rfl) ?_
  refine gs_get (v := .int (F a0 2)) hx hb htw i_W hown hK hP h0.1 rfl 2 (by decide) (htw _ mm_39) rfl d_W_endlessLimb_1 ?_
  refine lv_if_ne (tgt := 13) hx hb d_W_endlessLimb_4 (by decide) (fun c_4 => ?_) (fun c_4 => ?_)
  · have h := h.1 c_4
    refine lv_iload_n hx hb d_W_endlessLimb_13 rfl (lv_at hl 1 rfl) ?_
    refine lv_iload_n hx hb d_W_endlessLimb_14 rfl (lv_at hl 2 rfl) ?_
    refine lv_icmp_gt (tgt := 27) hx hb d_W_endlessLimb_15 (by decide) (fun c_15 => ?_) (fun c_15 => ?_)
    · have h := h.1 c_15
      refine lv_aload_n hx hb d_W_endlessLimb_27 rfl (lv_at hl 0 rfl) ?_
      refine lv_iload_n hx hb d_W_endlessLimb_28 rfl (lv_at hl 1 rfl) ?_
      refine gw_goi (gw_runV (As := [.int p1]) (rest := []) hx hb hml hown htw hK hP hS hl.1 (w_W_limbAt hlo a0 l0 n0 p1 ⟨h0.1, h0.2⟩ F A _ h) k_W_limbAt mm_416 ⟨Nat.le_of_ble_eq_true rfl, Nat.le_of_ble_eq_true rfl⟩ rfl rfl h0.1 rfl rfl rfl (Nat.le_of_ble_eq_true rfl) d_W_endlessLimb_29) hS (fun r_1 F_1 A_1 H locs hw hP hS => ?_)
      obtain ⟨rfl, hw⟩ := hw
      obtain ⟨rfl, hw⟩ := hw
      have h := hw
      refine lv_iconst (v := (-1 : Int32)) hx hb d_W_endlessLimb_32 (by decide) ?_
      refine lv_ixor hx hb d_W_endlessLimb_33 ?_
      refine lv_ldc (v := (2147483647 : Int32)) hx hb hown (htw _ mm_428) d_W_endlessLimb_34 ?_
      refine lv_iand hx hb d_W_endlessLimb_36 ?_
      rw [← hQe]
      exact gw_iret hx hb hr hlocks hP hK hS ⟨rfl, rfl, h⟩ d_W_endlessLimb_37
    · have h := h.2 c_15
      refine lv_aload_n hx hb d_W_endlessLimb_18 rfl (lv_at hl 0 rfl) ?_
      refine lv_iload_n hx hb d_W_endlessLimb_19 rfl (lv_at hl 1 rfl) ?_
      refine gw_goi (gw_runV (As := [.int p1]) (rest := []) hx hb hml hown htw hK hP hS hl.1 (w_W_limbAt hlo a0 l0 n0 p1 ⟨h0.1, h0.2⟩ F A _ h) k_W_limbAt mm_416 ⟨Nat.le_of_ble_eq_true rfl, Nat.le_of_ble_eq_true rfl⟩ rfl rfl h0.1 rfl rfl rfl (Nat.le_of_ble_eq_true rfl) d_W_endlessLimb_20) hS (fun r_2 F_2 A_2 H locs hw hP hS => ?_)
      obtain ⟨rfl, hw⟩ := hw
      obtain ⟨rfl, hw⟩ := hw
      have h := hw
      refine lv_ineg hx hb d_W_endlessLimb_23 ?_
      refine lv_goto (tgt := 34) hx hb d_W_endlessLimb_24 (by decide) ?_
      refine lv_ldc (v := (2147483647 : Int32)) hx hb hown (htw _ mm_428) d_W_endlessLimb_34 ?_
      refine lv_iand hx hb d_W_endlessLimb_36 ?_
      rw [← hQe]
      exact gw_iret hx hb hr hlocks hP hK hS ⟨rfl, rfl, h⟩ d_W_endlessLimb_37
  · have h := h.2 c_4
    refine lv_aload_n hx hb d_W_endlessLimb_7 rfl (lv_at hl 0 rfl) ?_
    refine lv_iload_n hx hb d_W_endlessLimb_8 rfl (lv_at hl 1 rfl) ?_
    refine gw_goi (gw_runV (As := [.int p1]) (rest := []) hx hb hml hown htw hK hP hS hl.1 (w_W_limbAt hlo a0 l0 n0 p1 ⟨h0.1, h0.2⟩ F A _ h) k_W_limbAt mm_416 ⟨Nat.le_of_ble_eq_true rfl, Nat.le_of_ble_eq_true rfl⟩ rfl rfl h0.1 rfl rfl rfl (Nat.le_of_ble_eq_true rfl) d_W_endlessLimb_9) hS (fun r_3 F_3 A_3 H locs hw hP hS => ?_)
    obtain ⟨rfl, hw⟩ := hw
    obtain ⟨rfl, hw⟩ := hw
    have h := hw
    rw [← hQe]
    exact gw_iret hx hb hr hlocks hP hK hS ⟨rfl, rfl, h⟩ d_W_endlessLimb_12
abbrev rm_W_joined : Room := { frames := 0, cells := 0, slots := 0, locals := 0 }
set_option maxHeartbeats 4000000 in
set_option maxRecDepth 100000 in
theorem w_W_joined (hlo : gs_D Λ) (p1 : Int32) (p2 : Int32) (p3 : Int32) (F A : gm_M) (post : Int32 → Prop) (h : vc_W_joined p1 p2 p3 F A post) : Met l y_W_joined (.code y_W_joined b_W_joined 3 (some .int) :: gw_WS) rm_W_joined (va_Pc [.int p1, .int p2, .int p3] (gw_P D cI cB cJ cW Λ L F A)) (gw_Qi D cI cB cJ cW Λ L (fun r F2 A2 => F = F2 ∧ A = A2 ∧ post r)) 0 0 (gw_A Λ) := by
  refine Met.ofW (cc := b_W_joined) (maxL := 3) (ret := (some .int)) (by decide) rfl ?_
  intro p e s m args below meth c s₁ B hml hv
  obtain ⟨hargs, hP, hK⟩ := hv
  have hx := B.exec
  have hb := B.bytes
  have hr := B.returns
  have hlocks := B.notSynchronized
  have htw : ∀ w ∈ gw_WS, w.before args s = true := fun w h9 => atoms_spec (ws := .code y_W_joined b_W_joined 3 (some .int) :: gw_WS) B.pre w (List.mem_cons_of_mem _ h9)
  have hown : s.vm.findClass R_W = some m.cls := findClass_of_methodNamed B.named
  have hS : va_S (gw_A Λ) s.heap s.heap [] := va_S.rf
  refine W.eq (g2 := entryFrame m ([.int p1, .int p2, .int p3] : List Value).toArray 3) (by rw [hargs]) ?_
  have hl := lv_entry ([.int p1, .int p2, .int p3]) (n := 3) (Nat.le_of_ble_eq_true rfl)
  rw [lg_entry_eq]
  generalize (lg_sl ([.int p1, .int p2, .int p3]) ++ List.replicate (3 - (lg_sl ([.int p1, .int p2, .int p3])).length) Slot.unset).toArray = ls at hl ⊢
  have hl : lv_has ls 3 [(0, .int p1), (1, .int p2), (2, .int p3)] := hl
  generalize hQe : MQ below (gw_Qi D cI cB cJ cW Λ L (fun r F2 A2 => F = F2 ∧ A = A2 ∧ post r)) args s 0 0 (gw_A Λ) = Q
  unfold vc_W_joined at h
  refine lv_iload_n hx hb d_W_joined_0 rfl (lv_at hl 0 rfl) ?_
  refine lv_if_ne (tgt := 10) hx hb d_W_joined_1 (by decide) (fun c_1 => ?_) (fun c_1 => ?_)
  · have h := h.1 c_1
    refine lv_iload_n hx hb d_W_joined_10 rfl (lv_at hl 0 rfl) ?_
    refine lv_iconst (v := (1 : Int32)) hx hb d_W_joined_11 (by decide) ?_
    refine lv_icmp_ne (tgt := 21) hx hb d_W_joined_12 (by decide) (fun c_12 => ?_) (fun c_12 => ?_)
    · have h := h.1 c_12
      refine lv_iload_n hx hb d_W_joined_21 rfl (lv_at hl 1 rfl) ?_
      refine lv_iload_n hx hb d_W_joined_22 rfl (lv_at hl 2 rfl) ?_
      refine lv_ixor hx hb d_W_joined_23 ?_
      rw [← hQe]
      exact gw_iret hx hb hr hlocks hP hK hS ⟨rfl, rfl, h⟩ d_W_joined_24
    · have h := h.2 c_12
      refine lv_iload_n hx hb d_W_joined_15 rfl (lv_at hl 1 rfl) ?_
      refine lv_iload_n hx hb d_W_joined_16 rfl (lv_at hl 2 rfl) ?_
      refine lv_ior hx hb d_W_joined_17 ?_
      refine lv_goto (tgt := 24) hx hb d_W_joined_18 (by decide) ?_
      rw [← hQe]
      exact gw_iret hx hb hr hlocks hP hK hS ⟨rfl, rfl, h⟩ d_W_joined_24
  · have h := h.2 c_1
    refine lv_iload_n hx hb d_W_joined_4 rfl (lv_at hl 1 rfl) ?_
    refine lv_iload_n hx hb d_W_joined_5 rfl (lv_at hl 2 rfl) ?_
    refine lv_iand hx hb d_W_joined_6 ?_
    refine lv_goto (tgt := 24) hx hb d_W_joined_7 (by decide) ?_
    rw [← hQe]
    exact gw_iret hx hb hr hlocks hP hK hS ⟨rfl, rfl, h⟩ d_W_joined_24
abbrev rm_W_takeBits : Room := { frames := 2, cells := 0, slots := 0, locals := 43 }
set_option maxHeartbeats 4000000 in
set_option maxRecDepth 100000 in
theorem w_W_takeBits (hlo : gs_D Λ) (a0 l0 n0 : Nat) (p1 : Int32) (a2 l2 n2 : Nat) (a3 l3 n3 : Nat) (h0 : gW cI Λ a0 l0 n0) (h2 : gW cI Λ a2 l2 n2) (h3 : gW cI Λ a3 l3 n3) (F A : gm_M) (post : gm_M → gm_M → Prop) (h : vc_W_takeBits a0 l0 n0 p1 a2 l2 n2 a3 l3 n3 F A post) : Met l y_W_takeBits (.code y_W_takeBits b_W_takeBits 8 none :: gw_WS) rm_W_takeBits (va_Pc [.ref a0, .int p1, .ref a2, .ref a3] (gw_P D cI cB cJ cW Λ L F A)) (gw_Qv D cI cB cJ cW Λ L (fun F2 A2 => post F2 A2)) 0 0 (gw_A Λ) := by
  refine Met.ofW (cc := b_W_takeBits) (maxL := 8) (ret := none) (by decide) rfl ?_
  intro p e s m args below meth c s₁ B hml hv
  obtain ⟨hargs, hP, hK⟩ := hv
  have hx := B.exec
  have hb := B.bytes
  have hr := B.returns
  have hlocks := B.notSynchronized
  have htw : ∀ w ∈ gw_WS, w.before args s = true := fun w h9 => atoms_spec (ws := .code y_W_takeBits b_W_takeBits 8 none :: gw_WS) B.pre w (List.mem_cons_of_mem _ h9)
  have hown : s.vm.findClass R_W = some m.cls := findClass_of_methodNamed B.named
  have hS : va_S (gw_A Λ) s.heap s.heap [] := va_S.rf
  refine W.eq (g2 := entryFrame m ([.ref a0, .int p1, .ref a2, .ref a3] : List Value).toArray 8) (by rw [hargs]) ?_
  have hl := lv_entry ([.ref a0, .int p1, .ref a2, .ref a3]) (n := 8) (Nat.le_of_ble_eq_true rfl)
  rw [lg_entry_eq]
  generalize (lg_sl ([.ref a0, .int p1, .ref a2, .ref a3]) ++ List.replicate (8 - (lg_sl ([.ref a0, .int p1, .ref a2, .ref a3])).length) Slot.unset).toArray = ls at hl ⊢
  have hl : lv_has ls 8 [(0, .ref a0), (1, .int p1), (2, .ref a2), (3, .ref a3)] := hl
  generalize hQe : MQ below (gw_Qv D cI cB cJ cW Λ L (fun F2 A2 => post F2 A2)) args s 0 0 (gw_A Λ) = Q
  unfold vc_W_takeBits at h
  refine lv_aload_n hx hb d_W_takeBits_0 rfl (lv_at hl 2 rfl) ?_
  refine gw_goi (gw_runV (As := []) (rest := []) hx hb hml hown htw hK hP hS hl.1 (w_W_lowestLimb hlo a2 l2 n2 ⟨h2.1, h2.2⟩ F A _ h) k_W_lowestLimb mm_524 ⟨Nat.le_of_ble_eq_true rfl, Nat.le_of_ble_eq_true rfl⟩ rfl rfl h2.1 rfl rfl rfl (Nat.le_of_ble_eq_true rfl) d_W_takeBits_1) hS (fun r_1 F_1 A_1 H locs hw hP hS => ?_)
  obtain ⟨rfl, hw⟩ := hw
  obtain ⟨rfl, hw⟩ := hw
  have h := hw
  refine lv_istore (lv' := [(4, .int r_1), (0, .ref a0), (1, .int p1), (2, .ref a2), (3, .ref a3)]) hx hb d_W_takeBits_4 hl (by decide) rfl (fun ls hl => ?_)
  refine lv_aload_n hx hb d_W_takeBits_6 rfl (lv_at hl 4 rfl) ?_
  refine gw_goi (gw_runV (As := []) (rest := []) hx hb hml hown htw hK hP hS hl.1 (w_W_lowestLimb hlo a3 l3 n3 ⟨h3.1, h3.2⟩ F A _ h) k_W_lowestLimb mm_524 ⟨Nat.le_of_ble_eq_true rfl, Nat.le_of_ble_eq_true rfl⟩ rfl rfl h3.1 rfl rfl rfl (Nat.le_of_ble_eq_true rfl) d_W_takeBits_7) hS (fun r_2 F_2 A_2 H locs hw hP hS => ?_)
  obtain ⟨rfl, hw⟩ := hw
  obtain ⟨rfl, hw⟩ := hw
  have h := hw
  refine lv_istore (lv' := [(5, .int r_2), (4, .int r_1), (0, .ref a0), (1, .int p1), (2, .ref a2), (3, .ref a3)]) hx hb d_W_takeBits_10 hl (by decide) rfl (fun ls hl => ?_)
  refine lv_iconst (v := (0 : Int32)) hx hb d_W_takeBits_12 (by decide) ?_
  refine lv_istore (lv' := [(6, .int (0 : Int32)), (5, .int r_2), (4, .int r_1), (0, .ref a0), (1, .int p1), (2, .ref a2), (3, .ref a3)]) hx hb d_W_takeBits_13 hl (by decide) rfl (fun ls hl => ?_)
  obtain ⟨I_15, μ_15, h0_15, hs_15⟩ := h
  have loop_15 : ∀ (N : Nat) (x6_3 : Int32) (A_3 : gm_M) (H : Heap) (locs : List Loc) (ls : Array Slot), μ_15 x6_3 A_3 < N → I_15 x6_3 A_3 → va_P D gcls (gs_ws Λ F A_3 L) H → va_S (gw_A Λ) s.heap H locs → lv_has ls 8 [(0, .ref a0), (1, .int p1), (2, .ref a2), (3, .ref a3), (4, .int r_1), (5, .int r_2), (6, .int x6_3)] → W p l e rm_W_takeBits s m args below meth c H locs 0 0 Q (F0 m 15 ls []) := by
    intro N
    induction N with
    | zero => intro x6_3 A_3 H locs ls hμ; exact absurd hμ (Nat.not_lt_zero _)
    | succ N ih_15 =>
      intro x6_3 A_3 H locs ls hμ_15 hI hP hS hl
      have h := hs_15 x6_3 A_3 hI
      refine lv_iload hx hb d_W_takeBits_15 (lv_at hl 6 rfl) ?_
      refine lv_bipush (v := (67 : Int32)) hx hb d_W_takeBits_17 (by decide) ?_
      refine lv_icmp_ge (tgt := 55) hx hb d_W_takeBits_19 (by decide) (fun c_19 => ?_) (fun c_19 => ?_)
      · have h := h.1 c_19
        refine lv_aload_n hx hb d_W_takeBits_55 rfl (lv_at hl 0 rfl) ?_
        refine lv_bipush (v := (67 : Int32)) hx hb d_W_takeBits_56 (by decide) ?_
        refine gs_put (ty := .int) hx hb htw i_W tf_W tf_W_ok n_W hown hK hlo hP hS h0.1 rfl 1 (by decide) rfl (htw _ mm_35) rfl (by decide +kernel) rfl rfl d_W_takeBits_58 (fun F_4 eF_4 H locs hP hS => ?_)
        have h := h F_4 eF_4
        refine lv_aload_n hx hb d_W_takeBits_61 rfl (lv_at hl 0 rfl) ?_
        refine lv_iload_n hx hb d_W_takeBits_62 rfl (lv_at hl 1 rfl) ?_
        refine lv_aload_n hx hb d_W_takeBits_63 rfl (lv_at hl 2 rfl) ?_
        refine gs_get (v := .int (F_4 a2 2)) hx hb htw i_W hown hK hP h2.1 rfl 2 (by decide) (htw _ mm_39) rfl d_W_takeBits_64 ?_
        obtain ⟨J_75, h, hj_75⟩ := h
        have join_75 : ∀ (v0_5 : Int32) (H : Heap) (locs : List Loc) (ls : Array Slot), J_75 v0_5 → va_P D gcls (gs_ws Λ F_4 A_3 L) H → va_S (gw_A Λ) s.heap H locs → lv_has ls 8 [(0, .ref a0), (3, .ref a3)] → W p l e rm_W_takeBits s m args below meth c H locs 0 0 Q (F0 m 75 ls [.int v0_5, .int p1, .ref a0]) := by
          intro v0_5 H locs ls hJ hP hS hl
          have h := hj_75 v0_5 hJ
          refine lv_aload_n hx hb d_W_takeBits_75 rfl (lv_at hl 1 rfl) ?_
          refine gs_get (v := .int (F_4 a3 2)) hx hb htw i_W hown hK hP h3.1 rfl 2 (by decide) (htw _ mm_39) rfl d_W_takeBits_76 ?_
          obtain ⟨J_87, h, hj_87⟩ := h
          have join_87 : ∀ (v0_6 : Int32) (H : Heap) (locs : List Loc) (ls : Array Slot), J_87 v0_6 → va_P D gcls (gs_ws Λ F_4 A_3 L) H → va_S (gw_A Λ) s.heap H locs → lv_has ls 8 [(0, .ref a0)] → W p l e rm_W_takeBits s m args below meth c H locs 0 0 Q (F0 m 87 ls [.int v0_6, .int v0_5, .int p1, .ref a0]) := by
            intro v0_6 H locs ls hJ hP hS hl
            have h := hj_87 v0_6 hJ
            refine gw_goi (gw_runS (As := [.int p1, .int v0_5, .int v0_6]) (rest := [.ref a0]) hx hb hml hown htw hK hP hS hl.1 (w_W_joined hlo p1 v0_5 v0_6 F_4 A_3 _ h) k_W_joined mm_544 ⟨Nat.le_of_ble_eq_true rfl, Nat.le_of_ble_eq_true rfl⟩ rfl rfl rfl rfl (Nat.le_of_ble_eq_true rfl) d_W_takeBits_87) hS (fun r_7 F_7 A_7 H locs hw hP hS => ?_)
            obtain ⟨rfl, hw⟩ := hw
            obtain ⟨rfl, hw⟩ := hw
            have h := hw
            refine lv_iconst (v := (1 : Int32)) hx hb d_W_takeBits_90 (by decide) ?_
            obtain ⟨J_99, h, hj_99⟩ := h
            have join_99 : ∀ (v0_8 : Int32) (H : Heap) (locs : List Loc) (ls : Array Slot), J_99 v0_8 → va_P D gcls (gs_ws Λ F_4 A_3 L) H → va_S (gw_A Λ) s.heap H locs → lv_has ls 8 [(0, .ref a0)] → W p l e rm_W_takeBits s m args below meth c H locs 0 0 Q (F0 m 99 ls [.int v0_8, .ref a0]) := by
              intro v0_8 H locs ls hJ hP hS hl
              have h := hj_99 v0_8 hJ
              obtain ⟨hz, h⟩ := h
              refine gs_put (ty := .boolean) hx hb htw i_W tf_W tf_W_ok n_W hown hK hlo hP hS h0.1 rfl 2 (by decide) rfl (htw _ mm_39) rfl (by decide +kernel) (gz_n hz) (gz_f hz) d_W_takeBits_99 (fun F_9 eF_9 H locs hP hS => ?_)
              have h := h F_9 eF_9
              refine lv_aload_n hx hb d_W_takeBits_102 rfl (lv_at hl 0 rfl) ?_
              refine gw_goi (gw_runV (As := []) (rest := []) hx hb hml hown htw hK hP hS hl.1 (w_W_lowestLimb hlo a0 l0 n0 ⟨h0.1, h0.2⟩ F_9 A_3 _ h) k_W_lowestLimb mm_524 ⟨Nat.le_of_ble_eq_true rfl, Nat.le_of_ble_eq_true rfl⟩ rfl rfl h0.1 rfl rfl rfl (Nat.le_of_ble_eq_true rfl) d_W_takeBits_103) hS (fun r_10 F_10 A_10 H locs hw hP hS => ?_)
              obtain ⟨rfl, hw⟩ := hw
              obtain ⟨rfl, hw⟩ := hw
              have h := hw
              refine lv_istore (lv' := [(6, .int r_10), (0, .ref a0)]) hx hb d_W_takeBits_106 hl (by decide) rfl (fun ls hl => ?_)
              refine lv_iconst (v := (0 : Int32)) hx hb d_W_takeBits_108 (by decide) ?_
              refine lv_istore (lv' := [(7, .int (0 : Int32)), (6, .int r_10), (0, .ref a0)]) hx hb d_W_takeBits_109 hl (by decide) rfl (fun ls hl => ?_)
              obtain ⟨I_111, μ_111, h0_111, hs_111⟩ := h
              have loop_111 : ∀ (N : Nat) (x7_11 : Int32) (A_11 : gm_M) (H : Heap) (locs : List Loc) (ls : Array Slot), μ_111 x7_11 A_11 < N → I_111 x7_11 A_11 → va_P D gcls (gs_ws Λ F_9 A_11 L) H → va_S (gw_A Λ) s.heap H locs → lv_has ls 8 [(0, .ref a0), (6, .int r_10), (7, .int x7_11)] → W p l e rm_W_takeBits s m args below meth c H locs 0 0 Q (F0 m 111 ls []) := by
                intro N
                induction N with
                | zero => intro x7_11 A_11 H locs ls hμ; exact absurd hμ (Nat.not_lt_zero _)
                | succ N ih_111 =>
                  intro x7_11 A_11 H locs ls hμ_111 hI hP hS hl
                  have h := hs_111 x7_11 A_11 hI
                  refine lv_iload hx hb d_W_takeBits_111 (lv_at hl 2 rfl) ?_
                  refine lv_bipush (v := (67 : Int32)) hx hb d_W_takeBits_113 (by decide) ?_
                  refine lv_icmp_ge (tgt := 139) hx hb d_W_takeBits_115 (by decide) (fun c_115 => ?_) (fun c_115 => ?_)
                  · have h := h.1 c_115
                    refine lv_aload_n hx hb d_W_takeBits_139 rfl (lv_at hl 0 rfl) ?_
                    refine lv_bipush (v := (67 : Int32)) hx hb d_W_takeBits_140 (by decide) ?_
                    refine gw_gov (gw_runV (As := [.int (67 : Int32)]) (rest := []) hx hb hml hown htw hK hP hS hl.1 (w_W_trim hlo a0 l0 n0 (67 : Int32) ⟨h0.1, h0.2⟩ F_9 A_11 _ h) k_W_trim mm_201 ⟨Nat.le_of_ble_eq_true rfl, Nat.le_of_ble_eq_true rfl⟩ rfl rfl h0.1 rfl rfl rfl (Nat.le_of_ble_eq_true rfl) d_W_takeBits_142) hS (fun F_12 A_12 H locs hw hP hS => ?_)
                    obtain ⟨rfl, hw⟩ := hw
                    have h := hw
                    rw [← hQe]
                    exact gw_vret hx hb hr hlocks hP hK hS h d_W_takeBits_145
                  · have h := h.2 c_115
                    refine lv_aload_n hx hb d_W_takeBits_118 rfl (lv_at hl 0 rfl) ?_
                    refine gs_get (v := .ref l0) hx hb htw i_W hown hK hP h0.1 rfl 0 (by decide) (htw _ mm_33) rfl d_W_takeBits_119 ?_
                    refine lv_iload hx hb d_W_takeBits_122 (lv_at hl 2 rfl) ?_
                    refine lv_aload_n hx hb d_W_takeBits_124 rfl (lv_at hl 0 rfl) ?_
                    refine lv_iload hx hb d_W_takeBits_125 (lv_at hl 2 rfl) ?_
                    refine lv_iload hx hb d_W_takeBits_127 (lv_at hl 1 rfl) ?_
                    refine gw_goi (gw_runV (As := [.int x7_11, .int r_10]) (rest := [.int x7_11, .ref l0]) hx hb hml hown htw hK hP hS hl.1 (w_W_endlessLimb hlo a0 l0 n0 x7_11 r_10 ⟨h0.1, h0.2⟩ F_9 A_11 _ h) k_W_endlessLimb mm_540 ⟨Nat.le_of_ble_eq_true rfl, Nat.le_of_ble_eq_true rfl⟩ rfl rfl h0.1 rfl rfl rfl (Nat.le_of_ble_eq_true rfl) d_W_takeBits_129) hS (fun r_13 F_13 A_13 H locs hw hP hS => ?_)
                    obtain ⟨rfl, hw⟩ := hw
                    obtain ⟨rfl, hw⟩ := hw
                    have h := hw
                    obtain ⟨hin, h⟩ := h
                    refine gs_ist hx hb hK hlo hP hS h0.2 hin d_W_takeBits_132 (fun A_14 eA_14 H locs hP hS => ?_)
                    have h := h A_14 eA_14
                    obtain ⟨x7_15, ex7_15⟩ : ∃ y : Int32, y = x7_11 + (1 : Int32) := ⟨_, rfl⟩
                    have h := h x7_15 ex7_15
                    refine lv_iinc (v := x7_15) (lv' := [(7, .int x7_15), (0, .ref a0), (6, .int r_10)]) hx hb d_W_takeBits_133 hl (k := 2) rfl (by rw [ex7_15]; rfl) (by decide) rfl (fun ls hl => ?_)
                    refine lv_goto (tgt := 111) hx hb d_W_takeBits_136 (by decide) ?_
                    exact ih_111 x7_15 A_14 _ _ _ (Nat.lt_of_lt_of_le h.2 (Nat.le_of_lt_succ hμ_111)) h.1 hP hS (lv_sub hl [1, 2, 0] rfl)
              exact loop_111 (μ_111 (0 : Int32) A_3 + 1) (0 : Int32) A_3 _ _ _ (Nat.lt_succ_self _) h0_111 hP hS (lv_sub hl [2, 1, 0] rfl)
            refine lv_icmp_ne (tgt := 98) hx hb d_W_takeBits_91 (by decide) (fun c_91 => ?_) (fun c_91 => ?_)
            · have h := h.1 c_91
              refine lv_iconst (v := (0 : Int32)) hx hb d_W_takeBits_98 (by decide) ?_
              exact join_99 (0 : Int32) _ _ _ h hP hS hl
            · have h := h.2 c_91
              refine lv_iconst (v := (1 : Int32)) hx hb d_W_takeBits_94 (by decide) ?_
              refine lv_goto (tgt := 99) hx hb d_W_takeBits_95 (by decide) ?_
              exact join_99 (1 : Int32) _ _ _ h hP hS hl
          refine lv_if_eq (tgt := 86) hx hb d_W_takeBits_79 (by decide) (fun c_79 => ?_) (fun c_79 => ?_)
          · have h := h.1 c_79
            refine lv_iconst (v := (0 : Int32)) hx hb d_W_takeBits_86 (by decide) ?_
            exact join_87 (0 : Int32) _ _ _ h hP hS (lv_sub hl [0] rfl)
          · have h := h.2 c_79
            refine lv_iconst (v := (1 : Int32)) hx hb d_W_takeBits_82 (by decide) ?_
            refine lv_goto (tgt := 87) hx hb d_W_takeBits_83 (by decide) ?_
            exact join_87 (1 : Int32) _ _ _ h hP hS (lv_sub hl [0] rfl)
        refine lv_if_eq (tgt := 74) hx hb d_W_takeBits_67 (by decide) (fun c_67 => ?_) (fun c_67 => ?_)
        · have h := h.1 c_67
          refine lv_iconst (v := (0 : Int32)) hx hb d_W_takeBits_74 (by decide) ?_
          exact join_75 (0 : Int32) _ _ _ h hP hS (lv_sub hl [0, 3] rfl)
        · have h := h.2 c_67
          refine lv_iconst (v := (1 : Int32)) hx hb d_W_takeBits_70 (by decide) ?_
          refine lv_goto (tgt := 75) hx hb d_W_takeBits_71 (by decide) ?_
          exact join_75 (1 : Int32) _ _ _ h hP hS (lv_sub hl [0, 3] rfl)
      · have h := h.2 c_19
        refine lv_aload_n hx hb d_W_takeBits_22 rfl (lv_at hl 0 rfl) ?_
        refine gs_get (v := .ref l0) hx hb htw i_W hown hK hP h0.1 rfl 0 (by decide) (htw _ mm_33) rfl d_W_takeBits_23 ?_
        refine lv_iload hx hb d_W_takeBits_26 (lv_at hl 6 rfl) ?_
        refine lv_iload_n hx hb d_W_takeBits_28 rfl (lv_at hl 1 rfl) ?_
        refine lv_aload_n hx hb d_W_takeBits_29 rfl (lv_at hl 2 rfl) ?_
        refine lv_iload hx hb d_W_takeBits_30 (lv_at hl 6 rfl) ?_
        refine lv_iload hx hb d_W_takeBits_32 (lv_at hl 4 rfl) ?_
        refine gw_goi (gw_runV (As := [.int x6_3, .int r_1]) (rest := [.int p1, .int x6_3, .ref l0]) hx hb hml hown htw hK hP hS hl.1 (w_W_endlessLimb hlo a2 l2 n2 x6_3 r_1 ⟨h2.1, h2.2⟩ F A_3 _ h) k_W_endlessLimb mm_540 ⟨Nat.le_of_ble_eq_true rfl, Nat.le_of_ble_eq_true rfl⟩ rfl rfl h2.1 rfl rfl rfl (Nat.le_of_ble_eq_true rfl) d_W_takeBits_34) hS (fun r_16 F_16 A_16 H locs hw hP hS => ?_)
        obtain ⟨rfl, hw⟩ := hw
        obtain ⟨rfl, hw⟩ := hw
        have h := hw
        refine lv_aload_n hx hb d_W_takeBits_37 rfl (lv_at hl 3 rfl) ?_
        refine lv_iload hx hb d_W_takeBits_38 (lv_at hl 6 rfl) ?_
        refine lv_iload hx hb d_W_takeBits_40 (lv_at hl 5 rfl) ?_
        refine gw_goi (gw_runV (As := [.int x6_3, .int r_2]) (rest := [.int r_16, .int p1, .int x6_3, .ref l0]) hx hb hml hown htw hK hP hS hl.1 (w_W_endlessLimb hlo a3 l3 n3 x6_3 r_2 ⟨h3.1, h3.2⟩ F A_3 _ h) k_W_endlessLimb mm_540 ⟨Nat.le_of_ble_eq_true rfl, Nat.le_of_ble_eq_true rfl⟩ rfl rfl h3.1 rfl rfl rfl (Nat.le_of_ble_eq_true rfl) d_W_takeBits_42) hS (fun r_17 F_17 A_17 H locs hw hP hS => ?_)
        obtain ⟨rfl, hw⟩ := hw
        obtain ⟨rfl, hw⟩ := hw
        have h := hw
        refine gw_goi (gw_runS (As := [.int p1, .int r_16, .int r_17]) (rest := [.int x6_3, .ref l0]) hx hb hml hown htw hK hP hS hl.1 (w_W_joined hlo p1 r_16 r_17 F A_3 _ h) k_W_joined mm_544 ⟨Nat.le_of_ble_eq_true rfl, Nat.le_of_ble_eq_true rfl⟩ rfl rfl rfl rfl (Nat.le_of_ble_eq_true rfl) d_W_takeBits_45) hS (fun r_18 F_18 A_18 H locs hw hP hS => ?_)
        obtain ⟨rfl, hw⟩ := hw
        obtain ⟨rfl, hw⟩ := hw
        have h := hw
        obtain ⟨hin, h⟩ := h
        refine gs_ist hx hb hK hlo hP hS h0.2 hin d_W_takeBits_48 (fun A_19 eA_19 H locs hP hS => ?_)
        have h := h A_19 eA_19
        obtain ⟨x6_20, ex6_20⟩ : ∃ y : Int32, y = x6_3 + (1 : Int32) := ⟨_, rfl⟩
        have h := h x6_20 ex6_20
        refine lv_iinc (v := x6_20) (lv' := [(6, .int x6_20), (0, .ref a0), (1, .int p1), (2, .ref a2), (3, .ref a3), (4, .int r_1), (5, .int r_2)]) hx hb d_W_takeBits_49 hl (k := 6) rfl (by rw [ex6_20]; rfl) (by decide) rfl (fun ls hl => ?_)
        refine lv_goto (tgt := 15) hx hb d_W_takeBits_52 (by decide) ?_
        exact ih_15 x6_20 A_19 _ _ _ (Nat.lt_of_lt_of_le h.2 (Nat.le_of_lt_succ hμ_15)) h.1 hP hS (lv_sub hl [1, 2, 3, 4, 5, 6, 0] rfl)
  exact loop_15 (μ_15 (0 : Int32) A + 1) (0 : Int32) A _ _ _ (Nat.lt_succ_self _) h0_15 hP hS (lv_sub hl [3, 4, 5, 6, 2, 1, 0] rfl)
