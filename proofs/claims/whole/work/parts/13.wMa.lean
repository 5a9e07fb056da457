variable {l : Launch} {D : va_G} {cI cB cJ cW : ClassId} {Λ : gs_L} {L : Nat → Nat → Int64}
abbrev rm_M_thrown : Room := { frames := 0, cells := 0, slots := 0, locals := 0 }
set_option maxHeartbeats 4000000 in
set_option maxRecDepth 100000 in
theorem w_M_thrown (hlo : gs_D Λ) (K : Nat → Nat) (hΜ : gMd cI Λ K) (F A : gm_M) (post : Int32 → Prop) (h : vc_M_thrown K F A post) : Met l y_M_thrown (.code y_M_thrown b_M_thrown 1 (some .int) :: gw_WS) rm_M_thrown (va_Pc [.ref (K 49)] (gw_P D cI cB cJ cW Λ L F A)) (gw_Qi D cI cB cJ cW Λ L (fun r F2 A2 => F = F2 ∧ A = A2 ∧ post r)) 0 0 (gw_A Λ) := by
  refine Met.ofW (cc := b_M_thrown) (maxL := 1) (ret := (some .int)) (by decide) rfl ?_
  intro p e s m args below meth c s₁ B hml hv
  obtain ⟨hargs, hP, hK⟩ := hv
  have hx := B.exec
  have hb := B.bytes
  have hr := B.returns
  have hlocks := B.notSynchronized
  have htw : ∀ w ∈ gw_WS, w.before args s = true := fun w h9 => atoms_spec (ws := .code y_M_thrown b_M_thrown 1 (some .int) :: gw_WS) B.pre w (List.mem_cons_of_mem _ h9)
  have hown : s.vm.findClass R_M = some m.cls := findClass_of_methodNamed B.named
  have hS : va_S (gw_A Λ) s.heap s.heap [] := va_S.rf
  refine W.eq (g2 := entryFrame m ([.ref (K 49)] : List Value).toArray 1) (by rw [hargs]) ?_
  have hl := lv_entry ([.ref (K 49)]) (n := 1) (Nat.le_of_ble_eq_true rfl)
  rw [lg_entry_eq]
  generalize (lg_sl ([.ref (K 49)]) ++ List.replicate (1 - (lg_sl ([.ref (K 49)])).length) Slot.unset).toArray = ls at hl ⊢
  have hl : lv_has ls 1 [(0, .ref (K 49))] := hl
  generalize hQe : MQ below (gw_Qi D cI cB cJ cW Λ L (fun r F2 A2 => F = F2 ∧ A = A2 ∧ post r)) args s 0 0 (gw_A Λ) = Q
  unfold vc_M_thrown at h
  refine lv_aload_n hx hb d_M_thrown_0 rfl (lv_at hl 0 rfl) ?_
  refine gs_get (v := .int (F (K 49) 0)) hx hb htw i_M hown hK hP (gMd_0 hΜ) rfl 0 (by decide) (htw _ mm_642) rfl d_M_thrown_1 ?_
  rw [← hQe]
  exact gw_iret hx hb hr hlocks hP hK hS ⟨rfl, rfl, h⟩ d_M_thrown_4
abbrev rm_M_compared : Room := { frames := 0, cells := 0, slots := 0, locals := 0 }
set_option maxHeartbeats 4000000 in
set_option maxRecDepth 100000 in
theorem w_M_compared (hlo : gs_D Λ) (a1 n1 : Nat) (p2 : Int32) (a3 n3 : Nat) (p4 : Int32) (h1 : (a1, gI cI n1) ∈ Λ) (h3 : (a3, gI cI n3) ∈ Λ) (F A : gm_M) (post : Int32 → Prop) (h : vc_M_compared a1 n1 p2 a3 n3 p4 F A post) : Met l y_M_compared (.code y_M_compared b_M_compared 5 (some .int) :: gw_WS) rm_M_compared (va_Pc [.ref a1, .int p2, .ref a3, .int p4] (gw_P D cI cB cJ cW Λ L F A)) (gw_Qi D cI cB cJ cW Λ L (fun r F2 A2 => F = F2 ∧ A = A2 ∧ post r)) 0 0 (gw_A Λ) := by
  refine Met.ofW (cc := b_M_compared) (maxL := 5) (ret := (some .int)) (by decide) rfl ?_
  intro p e s m args below meth c s₁ B hml hv
  obtain ⟨hargs, hP, hK⟩ := hv
  have hx := B.exec
  have hb := B.bytes
  have hr := B.returns
  have hlocks := B.notSynchronized
  have htw : ∀ w ∈ gw_WS, w.before args s = true := fun w h9 => atoms_spec (ws := .code y_M_compared b_M_compared 5 (some .int) :: gw_WS) B.pre w (List.mem_cons_of_mem _ h9)
  have hown : s.vm.findClass R_M = some m.cls := findClass_of_methodNamed B.named
  have hS : va_S (gw_A Λ) s.heap s.heap [] := va_S.rf
  refine W.eq (g2 := entryFrame m ([.ref a1, .int p2, .ref a3, .int p4] : List Value).toArray 5) (by rw [hargs]) ?_
  have hl := lv_entry ([.ref a1, .int p2, .ref a3, .int p4]) (n := 5) (Nat.le_of_ble_eq_true rfl)
  rw [lg_entry_eq]
  generalize (lg_sl ([.ref a1, .int p2, .ref a3, .int p4]) ++ List.replicate (5 - (lg_sl ([.ref a1, .int p2, .ref a3, .int p4])).length) Slot.unset).toArray = ls at hl ⊢
  have hl : lv_has ls 5 [(0, .ref a1), (1, .int p2), (2, .ref a3), (3, .int p4)] := hl
  generalize hQe : MQ below (gw_Qi D cI cB cJ cW Λ L (fun r F2 A2 => F = F2 ∧ A = A2 ∧ post r)) args s 0 0 (gw_A Λ) = Q
  unfold vc_M_compared at h
  refine lv_iload_n hx hb d_M_compared_0 rfl (lv_at hl 1 rfl) ?_
  refine lv_iload_n hx hb d_M_compared_1 rfl (lv_at hl 3 rfl) ?_
  refine lv_icmp_eq (tgt := 16) hx hb d_M_compared_2 (by decide) (fun c_2 => ?_) (fun c_2 => ?_)
  · have h := h.1 c_2
    refine lv_iload_n hx hb d_M_compared_16 rfl (lv_at hl 1 rfl) ?_
    refine lv_iconst (v := (1 : Int32)) hx hb d_M_compared_17 (by decide) ?_
    refine lv_isub hx hb d_M_compared_18 ?_
    refine lv_topi (fun x4_1 ex4_1 => ?_)
    have h := h x4_1 ex4_1
    refine lv_istore (lv' := [(4, .int x4_1), (0, .ref a1), (1, .int p2), (2, .ref a3), (3, .int p4)]) hx hb d_M_compared_19 hl (by decide) rfl (fun ls hl => ?_)
    obtain ⟨I_21, μ_21, h0_21, hs_21⟩ := h
    have loop_21 : ∀ (N : Nat) (x4_2 : Int32) (H : Heap) (locs : List Loc) (ls : Array Slot), μ_21 x4_2 < N → I_21 x4_2 → va_P D gcls (gs_ws Λ F A L) H → va_S (gw_A Λ) s.heap H locs → lv_has ls 5 [(0, .ref a1), (2, .ref a3), (4, .int x4_2)] → W p l e rm_M_compared s m args below meth c H locs 0 0 Q (F0 m 21 ls []) := by
      intro N
      induction N with
      | zero => intro x4_2 H locs ls hμ; exact absurd hμ (Nat.not_lt_zero _)
      | succ N ih_21 =>
        intro x4_2 H locs ls hμ_21 hI hP hS hl
        have h := hs_21 x4_2 hI
        refine lv_iload hx hb d_M_compared_21 (lv_at hl 2 rfl) ?_
        refine lv_if_lt (tgt := 60) hx hb d_M_compared_23 (by decide) (fun c_23 => ?_) (fun c_23 => ?_)
        · have h := h.1 c_23
          refine lv_iconst (v := (0 : Int32)) hx hb d_M_compared_60 (by decide) ?_
          rw [← hQe]
          exact gw_iret hx hb hr hlocks hP hK hS ⟨rfl, rfl, h⟩ d_M_compared_61
        · have h := h.2 c_23
          refine lv_aload_n hx hb d_M_compared_26 rfl (lv_at hl 0 rfl) ?_
          refine lv_iload hx hb d_M_compared_27 (lv_at hl 2 rfl) ?_
          obtain ⟨hin, h⟩ := h
          refine gs_ild hx hb hK hP h1 hin d_M_compared_29 ?_
          refine lv_aload_n hx hb d_M_compared_30 rfl (lv_at hl 1 rfl) ?_
          refine lv_iload hx hb d_M_compared_31 (lv_at hl 2 rfl) ?_
          obtain ⟨hin, h⟩ := h
          refine gs_ild hx hb hK hP h3 hin d_M_compared_33 ?_
          refine lv_icmp_eq (tgt := 54) hx hb d_M_compared_34 (by decide) (fun c_34 => ?_) (fun c_34 => ?_)
          · have h := h.1 c_34
            obtain ⟨x4_3, ex4_3⟩ : ∃ y : Int32, y = x4_2 + (-1 : Int32) := ⟨_, rfl⟩
            have h := h x4_3 ex4_3
            refine lv_iinc (v := x4_3) (lv' := [(4, .int x4_3), (0, .ref a1), (2, .ref a3)]) hx hb d_M_compared_54 hl (k := 2) rfl (by rw [ex4_3]; rfl) (by decide) rfl (fun ls hl => ?_)
            refine lv_goto (tgt := 21) hx hb d_M_compared_57 (by decide) ?_
            exact ih_21 x4_3 _ _ _ (Nat.lt_of_lt_of_le h.2 (Nat.le_of_lt_succ hμ_21)) h.1 hP hS (lv_sub hl [1, 2, 0] rfl)
          · have h := h.2 c_34
            refine lv_aload_n hx hb d_M_compared_37 rfl (lv_at hl 0 rfl) ?_
            refine lv_iload hx hb d_M_compared_38 (lv_at hl 2 rfl) ?_
            obtain ⟨hin, h⟩ := h
            refine gs_ild hx hb hK hP h1 hin d_M_compared_40 ?_
            refine lv_aload_n hx hb d_M_compared_41 rfl (lv_at hl 1 rfl) ?_
            refine lv_iload hx hb d_M_compared_42 (lv_at hl 2 rfl) ?_
            obtain ⟨hin, h⟩ := h
            refine gs_ild hx hb hK hP h3 hin d_M_compared_44 ?_
            refine lv_icmp_ge (tgt := 52) hx hb d_M_compared_45 (by decide) (fun c_45 => ?_) (fun c_45 => ?_)
            · have h := h.1 c_45
              refine lv_iconst (v := (1 : Int32)) hx hb d_M_compared_52 (by decide) ?_
              rw [← hQe]
              exact gw_iret hx hb hr hlocks hP hK hS ⟨rfl, rfl, h⟩ d_M_compared_53
            · have h := h.2 c_45
              refine lv_iconst (v := (-1 : Int32)) hx hb d_M_compared_48 (by decide) ?_
              refine lv_goto (tgt := 53) hx hb d_M_compared_49 (by decide) ?_
              rw [← hQe]
              exact gw_iret hx hb hr hlocks hP hK hS ⟨rfl, rfl, h⟩ d_M_compared_53
    exact loop_21 (μ_21 x4_1 + 1) x4_1 _ _ _ (Nat.lt_succ_self _) h0_21 hP hS (lv_sub hl [1, 3, 0] rfl)
  · have h := h.2 c_2
    refine lv_iload_n hx hb d_M_compared_5 rfl (lv_at hl 1 rfl) ?_
    refine lv_iload_n hx hb d_M_compared_6 rfl (lv_at hl 3 rfl) ?_
    refine lv_icmp_ge (tgt := 14) hx hb d_M_compared_7 (by decide) (fun c_7 => ?_) (fun c_7 => ?_)
    · have h := h.1 c_7
      refine lv_iconst (v := (1 : Int32)) hx hb d_M_compared_14 (by decide) ?_
      rw [← hQe]
      exact gw_iret hx hb hr hlocks hP hK hS ⟨rfl, rfl, h⟩ d_M_compared_15
    · have h := h.2 c_7
      refine lv_iconst (v := (-1 : Int32)) hx hb d_M_compared_10 (by decide) ?_
      refine lv_goto (tgt := 15) hx hb d_M_compared_11 (by decide) ?_
      rw [← hQe]
      exact gw_iret hx hb hr hlocks hP hK hS ⟨rfl, rfl, h⟩ d_M_compared_15
abbrev rm_M_trim : Room := { frames := 0, cells := 0, slots := 0, locals := 0 }
set_option maxHeartbeats 4000000 in
set_option maxRecDepth 100000 in
theorem w_M_trim (hlo : gs_D Λ) (a1 n1 : Nat) (p2 : Int32) (h1 : (a1, gI cI n1) ∈ Λ) (F A : gm_M) (post : Int32 → Prop) (h : vc_M_trim a1 n1 p2 F A post) : Met l y_M_trim (.code y_M_trim b_M_trim 3 (some .int) :: gw_WS) rm_M_trim (va_Pc [.ref a1, .int p2] (gw_P D cI cB cJ cW Λ L F A)) (gw_Qi D cI cB cJ cW Λ L (fun r F2 A2 => F = F2 ∧ A = A2 ∧ post r)) 0 0 (gw_A Λ) := by
  refine Met.ofW (cc := b_M_trim) (maxL := 3) (ret := (some .int)) (by decide) rfl ?_
  intro p e s m args below meth c s₁ B hml hv
  obtain ⟨hargs, hP, hK⟩ := hv
  have hx := B.exec
  have hb := B.bytes
  have hr := B.returns
  have hlocks := B.notSynchronized
  have htw : ∀ w ∈ gw_WS, w.before args s = true := fun w h9 => atoms_spec (ws := .code y_M_trim b_M_trim 3 (some .int) :: gw_WS) B.pre w (List.mem_cons_of_mem _ h9)
  have hown : s.vm.findClass R_M = some m.cls := findClass_of_methodNamed B.named
  have hS : va_S (gw_A Λ) s.heap s.heap [] := va_S.rf
  refine W.eq (g2 := entryFrame m ([.ref a1, .int p2] : List Value).toArray 3) (by rw [hargs]) ?_
  have hl := lv_entry ([.ref a1, .int p2]) (n := 3) (Nat.le_of_ble_eq_true rfl)
  rw [lg_entry_eq]
  generalize (lg_sl ([.ref a1, .int p2]) ++ List.replicate (3 - (lg_sl ([.ref a1, .int p2])).length) Slot.unset).toArray = ls at hl ⊢
  have hl : lv_has ls 3 [(0, .ref a1), (1, .int p2)] := hl
  generalize hQe : MQ below (gw_Qi D cI cB cJ cW Λ L (fun r F2 A2 => F = F2 ∧ A = A2 ∧ post r)) args s 0 0 (gw_A Λ) = Q
  unfold vc_M_trim at h
  refine lv_iload_n hx hb d_M_trim_0 rfl (lv_at hl 1 rfl) ?_
  refine lv_istore_n (lv' := [(2, .int p2), (0, .ref a1), (1, .int p2)]) hx hb d_M_trim_1 rfl hl (by decide) rfl (fun ls hl => ?_)
  obtain ⟨I_2, μ_2, h0_2, hs_2⟩ := h
  have loop_2 : ∀ (N : Nat) (x2_1 : Int32) (H : Heap) (locs : List Loc) (ls : Array Slot), μ_2 x2_1 < N → I_2 x2_1 → va_P D gcls (gs_ws Λ F A L) H → va_S (gw_A Λ) s.heap H locs → lv_has ls 3 [(0, .ref a1), (2, .int x2_1)] → W p l e rm_M_trim s m args below meth c H locs 0 0 Q (F0 m 2 ls []) := by
    intro N
    induction N with
    | zero => intro x2_1 H locs ls hμ; exact absurd hμ (Nat.not_lt_zero _)
    | succ N ih_2 =>
      intro x2_1 H locs ls hμ_2 hI hP hS hl
      have h := hs_2 x2_1 hI
      refine lv_iload_n hx hb d_M_trim_2 rfl (lv_at hl 1 rfl) ?_
      refine lv_if_le (tgt := 20) hx hb d_M_trim_3 (by decide) (fun c_3 => ?_) (fun c_3 => ?_)
      · have h := h.1 c_3
        refine lv_iload_n hx hb d_M_trim_20 rfl (lv_at hl 1 rfl) ?_
        rw [← hQe]
        exact gw_iret hx hb hr hlocks hP hK hS ⟨rfl, rfl, h⟩ d_M_trim_21
      · have h := h.2 c_3
        refine lv_aload_n hx hb d_M_trim_6 rfl (lv_at hl 0 rfl) ?_
        refine lv_iload_n hx hb d_M_trim_7 rfl (lv_at hl 1 rfl) ?_
        refine lv_iconst (v := (1 : Int32)) hx hb d_M_trim_8 (by decide) ?_
        refine lv_isub hx hb d_M_trim_9 ?_
        obtain ⟨hin, h⟩ := h
        refine gs_ild hx hb hK hP h1 hin d_M_trim_10 ?_
        refine lv_if_ne (tgt := 20) hx hb d_M_trim_11 (by decide) (fun c_11 => ?_) (fun c_11 => ?_)
        · have h := h.1 c_11
          refine lv_iload_n hx hb d_M_trim_20 rfl (lv_at hl 1 rfl) ?_
          rw [← hQe]
          exact gw_iret hx hb hr hlocks hP hK hS ⟨rfl, rfl, h⟩ d_M_trim_21
        · have h := h.2 c_11
          obtain ⟨x2_2, ex2_2⟩ : ∃ y : Int32, y = x2_1 + (-1 : Int32) := ⟨_, rfl⟩
          have h := h x2_2 ex2_2
          refine lv_iinc (v := x2_2) (lv' := [(2, .int x2_2), (0, .ref a1)]) hx hb d_M_trim_14 hl (k := 1) rfl (by rw [ex2_2]; rfl) (by decide) rfl (fun ls hl => ?_)
          refine lv_goto (tgt := 2) hx hb d_M_trim_17 (by decide) ?_
          exact ih_2 x2_2 _ _ _ (Nat.lt_of_lt_of_le h.2 (Nat.le_of_lt_succ hμ_2)) h.1 hP hS (lv_sub hl [1, 0] rfl)
  exact loop_2 (μ_2 p2 + 1) p2 _ _ _ (Nat.lt_succ_self _) h0_2 hP hS (lv_sub hl [1, 0] rfl)
abbrev rm_M_plus : Room := { frames := 1, cells := 0, slots := 0, locals := 22 }
set_option maxHeartbeats 4000000 in
set_option maxRecDepth 100000 in
theorem w_M_plus (hlo : gs_D Λ) (a1 n1 : Nat) (p2 : Int32) (a3 n3 : Nat) (p4 : Int32) (a5 n5 : Nat) (h1 : (a1, gI cI n1) ∈ Λ) (h3 : (a3, gI cI n3) ∈ Λ) (h5 : (a5, gI cI n5) ∈ Λ) (F A : gm_M) (post : Int32 → gm_M → Prop) (h : vc_M_plus a1 n1 p2 a3 n3 p4 a5 n5 F A post) : Met l y_M_plus (.code y_M_plus b_M_plus 8 (some .int) :: gw_WS) rm_M_plus (va_Pc [.ref a1, .int p2, .ref a3, .int p4, .ref a5] (gw_P D cI cB cJ cW Λ L F A)) (gw_Qi D cI cB cJ cW Λ L (fun r F2 A2 => F = F2 ∧ post r A2)) 0 0 (gw_A Λ) := by
  refine Met.ofW (cc := b_M_plus) (maxL := 8) (ret := (some .int)) (by decide) rfl ?_
  intro p e s m args below meth c s₁ B hml hv
  obtain ⟨hargs, hP, hK⟩ := hv
  have hx := B.exec
  have hb := B.bytes
  have hr := B.returns
  have hlocks := B.notSynchronized
  have htw : ∀ w ∈ gw_WS, w.before args s = true := fun w h9 => atoms_spec (ws := .code y_M_plus b_M_plus 8 (some .int) :: gw_WS) B.pre w (List.mem_cons_of_mem _ h9)
  have hown : s.vm.findClass R_M = some m.cls := findClass_of_methodNamed B.named
  have hS : va_S (gw_A Λ) s.heap s.heap [] := va_S.rf
  refine W.eq (g2 := entryFrame m ([.ref a1, .int p2, .ref a3, .int p4, .ref a5] : List Value).toArray 8) (by rw [hargs]) ?_
  have hl := lv_entry ([.ref a1, .int p2, .ref a3, .int p4, .ref a5]) (n := 8) (Nat.le_of_ble_eq_true rfl)
  rw [lg_entry_eq]
  generalize (lg_sl ([.ref a1, .int p2, .ref a3, .int p4, .ref a5]) ++ List.replicate (8 - (lg_sl ([.ref a1, .int p2, .ref a3, .int p4, .ref a5])).length) Slot.unset).toArray = ls at hl ⊢
  have hl : lv_has ls 8 [(0, .ref a1), (1, .int p2), (2, .ref a3), (3, .int p4), (4, .ref a5)] := hl
  generalize hQe : MQ below (gw_Qi D cI cB cJ cW Λ L (fun r F2 A2 => F = F2 ∧ post r A2)) args s 0 0 (gw_A Λ) = Q
  unfold vc_M_plus at h
  refine lv_iconst (v := (0 : Int32)) hx hb d_M_plus_0 (by decide) ?_
  refine lv_istore (lv' := [(5, .int (0 : Int32)), (0, .ref a1), (1, .int p2), (2, .ref a3), (3, .int p4), (4, .ref a5)]) hx hb d_M_plus_1 hl (by decide) rfl (fun ls hl => ?_)
  refine lv_iload_n hx hb d_M_plus_3 rfl (lv_at hl 2 rfl) ?_
  refine lv_iload_n hx hb d_M_plus_4 rfl (lv_at hl 4 rfl) ?_
  obtain ⟨J_13, h, hj_13⟩ := h
  have join_13 : ∀ (v0_1 : Int32) (H : Heap) (locs : List Loc) (ls : Array Slot), J_13 v0_1 → va_P D gcls (gs_ws Λ F A L) H → va_S (gw_A Λ) s.heap H locs → lv_has ls 8 [(0, .ref a1), (1, .int p2), (2, .ref a3), (3, .int p4), (4, .ref a5), (5, .int (0 : Int32))] → W p l e rm_M_plus s m args below meth c H locs 0 0 Q (F0 m 13 ls [.int v0_1]) := by
    intro v0_1 H locs ls hJ hP hS hl
    have h := hj_13 v0_1 hJ
    refine lv_istore (lv' := [(6, .int v0_1), (0, .ref a1), (1, .int p2), (2, .ref a3), (3, .int p4), (4, .ref a5), (5, .int (0 : Int32))]) hx hb d_M_plus_13 hl (by decide) rfl (fun ls hl => ?_)
    refine lv_iconst (v := (0 : Int32)) hx hb d_M_plus_15 (by decide) ?_
    refine lv_istore (lv' := [(7, .int (0 : Int32)), (6, .int v0_1), (0, .ref a1), (1, .int p2), (2, .ref a3), (3, .int p4), (4, .ref a5), (5, .int (0 : Int32))]) hx hb d_M_plus_16 hl (by decide) rfl (fun ls hl => ?_)
    obtain ⟨I_18, μ_18, h0_18, hs_18⟩ := h
    have loop_18 : ∀ (N : Nat) (x5_2 : Int32) (x7_2 : Int32) (A_2 : gm_M) (H : Heap) (locs : List Loc) (ls : Array Slot), μ_18 x5_2 x7_2 A_2 < N → I_18 x5_2 x7_2 A_2 → va_P D gcls (gs_ws Λ F A_2 L) H → va_S (gw_A Λ) s.heap H locs → lv_has ls 8 [(0, .ref a1), (1, .int p2), (2, .ref a3), (3, .int p4), (4, .ref a5), (5, .int x5_2), (6, .int v0_1), (7, .int x7_2)] → W p l e rm_M_plus s m args below meth c H locs 0 0 Q (F0 m 18 ls []) := by
      intro N
      induction N with
      | zero => intro x5_2 x7_2 A_2 H locs ls hμ; exact absurd hμ (Nat.not_lt_zero _)
      | succ N ih_18 =>
        intro x5_2 x7_2 A_2 H locs ls hμ_18 hI hP hS hl
        have h := hs_18 x5_2 x7_2 A_2 hI
        refine lv_iload hx hb d_M_plus_18 (lv_at hl 7 rfl) ?_
        refine lv_iload hx hb d_M_plus_20 (lv_at hl 6 rfl) ?_
        refine lv_icmp_ge (tgt := 82) hx hb d_M_plus_22 (by decide) (fun c_22 => ?_) (fun c_22 => ?_)
        · have h := h.1 c_22
          refine lv_aload hx hb d_M_plus_82 (lv_at hl 4 rfl) ?_
          refine lv_iload hx hb d_M_plus_84 (lv_at hl 6 rfl) ?_
          refine lv_iload hx hb d_M_plus_86 (lv_at hl 5 rfl) ?_
          obtain ⟨hin, h⟩ := h
          refine gs_ist hx hb hK hlo hP hS h5 hin d_M_plus_88 (fun A_3 eA_3 H locs hP hS => ?_)
          have h := h A_3 eA_3
          refine lv_aload hx hb d_M_plus_89 (lv_at hl 4 rfl) ?_
          refine lv_iload hx hb d_M_plus_91 (lv_at hl 6 rfl) ?_
          refine lv_iconst (v := (1 : Int32)) hx hb d_M_plus_93 (by decide) ?_
          refine lv_iadd hx hb d_M_plus_94 ?_
          refine gw_goi (gw_runS (As := [.ref a5, .int (v0_1 + (1 : Int32))]) (rest := []) hx hb hml hown htw hK hP hS hl.1 (w_M_trim hlo a5 n5 (v0_1 + (1 : Int32)) h5 F A_3 _ h) k_M_trim mm_725 ⟨Nat.le_of_ble_eq_true rfl, Nat.le_of_ble_eq_true rfl⟩ rfl rfl rfl rfl (Nat.le_of_ble_eq_true rfl) d_M_plus_95) hS (fun r_4 F_4 A_4 H locs hw hP hS => ?_)
          obtain ⟨rfl, hw⟩ := hw
          obtain ⟨rfl, hw⟩ := hw
          have h := hw
          rw [← hQe]
          exact gw_iret hx hb hr hlocks hP hK hS ⟨rfl, h⟩ d_M_plus_98
        · have h := h.2 c_22
          refine lv_iload hx hb d_M_plus_25 (lv_at hl 5 rfl) ?_
          refine lv_iload hx hb d_M_plus_27 (lv_at hl 7 rfl) ?_
          refine lv_iload_n hx hb d_M_plus_29 rfl (lv_at hl 1 rfl) ?_
          obtain ⟨J_41, h, hj_41⟩ := h
          have join_41 : ∀ (v0_5 : Int32) (H : Heap) (locs : List Loc) (ls : Array Slot), J_41 v0_5 → va_P D gcls (gs_ws Λ F A_2 L) H → va_S (gw_A Λ) s.heap H locs → lv_has ls 8 [(0, .ref a1), (1, .int p2), (2, .ref a3), (3, .int p4), (4, .ref a5), (6, .int v0_1), (7, .int x7_2)] → W p l e rm_M_plus s m args below meth c H locs 0 0 Q (F0 m 41 ls [.int v0_5, .int x5_2]) := by
            intro v0_5 H locs ls hJ hP hS hl
            have h := hj_41 v0_5 hJ
            refine lv_iload hx hb d_M_plus_41 (lv_at hl 6 rfl) ?_
            refine lv_iload_n hx hb d_M_plus_43 rfl (lv_at hl 3 rfl) ?_
            obtain ⟨J_55, h, hj_55⟩ := h
            have join_55 : ∀ (v0_6 : Int32) (H : Heap) (locs : List Loc) (ls : Array Slot), J_55 v0_6 → va_P D gcls (gs_ws Λ F A_2 L) H → va_S (gw_A Λ) s.heap H locs → lv_has ls 8 [(0, .ref a1), (1, .int p2), (2, .ref a3), (3, .int p4), (4, .ref a5), (6, .int v0_1), (7, .int x7_2)] → W p l e rm_M_plus s m args below meth c H locs 0 0 Q (F0 m 55 ls [.int v0_6, .int v0_5, .int x5_2]) := by
              intro v0_6 H locs ls hJ hP hS hl
              have h := hj_55 v0_6 hJ
              refine lv_iadd hx hb d_M_plus_55 ?_
              refine lv_iadd hx hb d_M_plus_56 ?_
              refine lv_topi (fun x5_7 ex5_7 => ?_)
              have h := h x5_7 ex5_7
              refine lv_istore (lv' := [(5, .int x5_7), (0, .ref a1), (1, .int p2), (2, .ref a3), (3, .int p4), (4, .ref a5), (6, .int v0_1), (7, .int x7_2)]) hx hb d_M_plus_57 hl (by decide) rfl (fun ls hl => ?_)
              refine lv_aload hx hb d_M_plus_59 (lv_at hl 5 rfl) ?_
              refine lv_iload hx hb d_M_plus_61 (lv_at hl 7 rfl) ?_
              refine lv_iload hx hb d_M_plus_63 (lv_at hl 0 rfl) ?_
              refine lv_ldc (v := (65535 : Int32)) hx hb hown (htw _ mm_761) d_M_plus_65 ?_
              refine lv_iand hx hb d_M_plus_67 ?_
              obtain ⟨hin, h⟩ := h
              refine gs_ist hx hb hK hlo hP hS h5 hin d_M_plus_68 (fun A_8 eA_8 H locs hP hS => ?_)
              have h := h A_8 eA_8
              refine lv_iload hx hb d_M_plus_69 (lv_at hl 0 rfl) ?_
              refine lv_bipush (v := (16 : Int32)) hx hb d_M_plus_71 (by decide) ?_
              refine lv_ishr hx hb d_M_plus_73 ?_
              refine lv_topi (fun x5_9 ex5_9 => ?_)
              have h := h x5_9 ex5_9
              refine lv_istore (lv' := [(5, .int x5_9), (0, .ref a1), (1, .int p2), (2, .ref a3), (3, .int p4), (4, .ref a5), (6, .int v0_1), (7, .int x7_2)]) hx hb d_M_plus_74 hl (by decide) rfl (fun ls hl => ?_)
              obtain ⟨x7_10, ex7_10⟩ : ∃ y : Int32, y = x7_2 + (1 : Int32) := ⟨_, rfl⟩
              have h := h x7_10 ex7_10
              refine lv_iinc (v := x7_10) (lv' := [(7, .int x7_10), (5, .int x5_9), (0, .ref a1), (1, .int p2), (2, .ref a3), (3, .int p4), (4, .ref a5), (6, .int v0_1)]) hx hb d_M_plus_76 hl (k := 7) rfl (by rw [ex7_10]; rfl) (by decide) rfl (fun ls hl => ?_)
              refine lv_goto (tgt := 18) hx hb d_M_plus_79 (by decide) ?_
              exact ih_18 x5_9 x7_10 A_8 _ _ _ (Nat.lt_of_lt_of_le h.2 (Nat.le_of_lt_succ hμ_18)) h.1 hP hS (lv_sub hl [2, 3, 4, 5, 6, 1, 7, 0] rfl)
            refine lv_icmp_ge (tgt := 54) hx hb d_M_plus_44 (by decide) (fun c_44 => ?_) (fun c_44 => ?_)
            · have h := h.1 c_44
              refine lv_iconst (v := (0 : Int32)) hx hb d_M_plus_54 (by decide) ?_
              exact join_55 (0 : Int32) _ _ _ h hP hS hl
            · have h := h.2 c_44
              refine lv_aload_n hx hb d_M_plus_47 rfl (lv_at hl 2 rfl) ?_
              refine lv_iload hx hb d_M_plus_48 (lv_at hl 6 rfl) ?_
              obtain ⟨hin, h⟩ := h
              refine gs_ild hx hb hK hP h3 hin d_M_plus_50 ?_
              refine lv_goto (tgt := 55) hx hb d_M_plus_51 (by decide) ?_
              exact join_55 (A_2 a3 x7_2.toNatClampNeg) _ _ _ h hP hS hl
          refine lv_icmp_ge (tgt := 40) hx hb d_M_plus_30 (by decide) (fun c_30 => ?_) (fun c_30 => ?_)
          · have h := h.1 c_30
            refine lv_iconst (v := (0 : Int32)) hx hb d_M_plus_40 (by decide) ?_
            exact join_41 (0 : Int32) _ _ _ h hP hS (lv_sub hl [0, 1, 2, 3, 4, 6, 7] rfl)
          · have h := h.2 c_30
            refine lv_aload_n hx hb d_M_plus_33 rfl (lv_at hl 0 rfl) ?_
            refine lv_iload hx hb d_M_plus_34 (lv_at hl 7 rfl) ?_
            obtain ⟨hin, h⟩ := h
            refine gs_ild hx hb hK hP h1 hin d_M_plus_36 ?_
            refine lv_goto (tgt := 41) hx hb d_M_plus_37 (by decide) ?_
            exact join_41 (A_2 a1 x7_2.toNatClampNeg) _ _ _ h hP hS (lv_sub hl [0, 1, 2, 3, 4, 6, 7] rfl)
    exact loop_18 (μ_18 (0 : Int32) (0 : Int32) A + 1) (0 : Int32) (0 : Int32) A _ _ _ (Nat.lt_succ_self _) h0_18 hP hS (lv_sub hl [2, 3, 4, 5, 6, 7, 1, 0] rfl)
  refine lv_icmp_le (tgt := 12) hx hb d_M_plus_5 (by decide) (fun c_5 => ?_) (fun c_5 => ?_)
  · have h := h.1 c_5
    refine lv_iload_n hx hb d_M_plus_12 rfl (lv_at hl 4 rfl) ?_
    exact join_13 p4 _ _ _ h hP hS (lv_sub hl [1, 2, 3, 4, 5, 0] rfl)
  · have h := h.2 c_5
    refine lv_iload_n hx hb d_M_plus_8 rfl (lv_at hl 2 rfl) ?_
    refine lv_goto (tgt := 13) hx hb d_M_plus_9 (by decide) ?_
    exact join_13 p2 _ _ _ h hP hS (lv_sub hl [1, 2, 3, 4, 5, 0] rfl)
abbrev rm_M_less : Room := { frames := 1, cells := 0, slots := 0, locals := 22 }
set_option maxHeartbeats 4000000 in
set_option maxRecDepth 100000 in
theorem w_M_less (hlo : gs_D Λ) (a1 n1 : Nat) (p2 : Int32) (a3 n3 : Nat) (p4 : Int32) (a5 n5 : Nat) (h1 : (a1, gI cI n1) ∈ Λ) (h3 : (a3, gI cI n3) ∈ Λ) (h5 : (a5, gI cI n5) ∈ Λ) (F A : gm_M) (post : Int32 → gm_M → Prop) (h : vc_M_less a1 n1 p2 a3 n3 p4 a5 n5 F A post) : Met l y_M_less (.code y_M_less b_M_less 7 (some .int) :: gw_WS) rm_M_less (va_Pc [.ref a1, .int p2, .ref a3, .int p4, .ref a5] (gw_P D cI cB cJ cW Λ L F A)) (gw_Qi D cI cB cJ cW Λ L (fun r F2 A2 => F = F2 ∧ post r A2)) 0 0 (gw_A Λ) := by
  refine Met.ofW (cc := b_M_less) (maxL := 7) (ret := (some .int)) (by decide) rfl ?_
  intro p e s m args below meth c s₁ B hml hv
  obtain ⟨hargs, hP, hK⟩ := hv
  have hx := B.exec
  have hb := B.bytes
  have hr := B.returns
  have hlocks := B.notSynchronized
  have htw : ∀ w ∈ gw_WS, w.before args s = true := fun w h9 => atoms_spec (ws := .code y_M_less b_M_less 7 (some .int) :: gw_WS) B.pre w (List.mem_cons_of_mem _ h9)
  have hown : s.vm.findClass R_M = some m.cls := findClass_of_methodNamed B.named
  have hS : va_S (gw_A Λ) s.heap s.heap [] := va_S.rf
  refine W.eq (g2 := entryFrame m ([.ref a1, .int p2, .ref a3, .int p4, .ref a5] : List Value).toArray 7) (by rw [hargs]) ?_
  have hl := lv_entry ([.ref a1, .int p2, .ref a3, .int p4, .ref a5]) (n := 7) (Nat.le_of_ble_eq_true rfl)
  rw [lg_entry_eq]
  generalize (lg_sl ([.ref a1, .int p2, .ref a3, .int p4, .ref a5]) ++ List.replicate (7 - (lg_sl ([.ref a1, .int p2, .ref a3, .int p4, .ref a5])).length) Slot.unset).toArray = ls at hl ⊢
  have hl : lv_has ls 7 [(0, .ref a1), (1, .int p2), (2, .ref a3), (3, .int p4), (4, .ref a5)] := hl
  generalize hQe : MQ below (gw_Qi D cI cB cJ cW Λ L (fun r F2 A2 => F = F2 ∧ post r A2)) args s 0 0 (gw_A Λ) = Q
  unfold vc_M_less at h
  refine lv_iconst (v := (0 : Int32)) hx hb d_M_less_0 (by decide) ?_
  refine lv_istore (lv' := [(5, .int (0 : Int32)), (0, .ref a1), (1, .int p2), (2, .ref a3), (3, .int p4), (4, .ref a5)]) hx hb d_M_less_1 hl (by decide) rfl (fun ls hl => ?_)
  refine lv_iconst (v := (0 : Int32)) hx hb d_M_less_3 (by decide) ?_
  refine lv_istore (lv' := [(6, .int (0 : Int32)), (5, .int (0 : Int32)), (0, .ref a1), (1, .int p2), (2, .ref a3), (3, .int p4), (4, .ref a5)]) hx hb d_M_less_4 hl (by decide) rfl (fun ls hl => ?_)
  obtain ⟨I_6, μ_6, h0_6, hs_6⟩ := h
  have loop_6 : ∀ (N : Nat) (x5_1 : Int32) (x6_1 : Int32) (A_1 : gm_M) (H : Heap) (locs : List Loc) (ls : Array Slot), μ_6 x5_1 x6_1 A_1 < N → I_6 x5_1 x6_1 A_1 → va_P D gcls (gs_ws Λ F A_1 L) H → va_S (gw_A Λ) s.heap H locs → lv_has ls 7 [(0, .ref a1), (1, .int p2), (2, .ref a3), (3, .int p4), (4, .ref a5), (5, .int x5_1), (6, .int x6_1)] → W p l e rm_M_less s m args below meth c H locs 0 0 Q (F0 m 6 ls []) := by
    intro N
    induction N with
    | zero => intro x5_1 x6_1 A_1 H locs ls hμ; exact absurd hμ (Nat.not_lt_zero _)
    | succ N ih_6 =>
      intro x5_1 x6_1 A_1 H locs ls hμ_6 hI hP hS hl
      have h := hs_6 x5_1 x6_1 A_1 hI
      refine lv_iload hx hb d_M_less_6 (lv_at hl 6 rfl) ?_
      refine lv_iload_n hx hb d_M_less_8 rfl (lv_at hl 1 rfl) ?_
      refine lv_icmp_ge (tgt := 59) hx hb d_M_less_9 (by decide) (fun c_9 => ?_) (fun c_9 => ?_)
      · have h := h.1 c_9
        refine lv_aload hx hb d_M_less_59 (lv_at hl 4 rfl) ?_
        refine lv_iload_n hx hb d_M_less_61 rfl (lv_at hl 1 rfl) ?_
        refine gw_goi (gw_runS (As := [.ref a5, .int p2]) (rest := []) hx hb hml hown htw hK hP hS hl.1 (w_M_trim hlo a5 n5 p2 h5 F A_1 _ h) k_M_trim mm_725 ⟨Nat.le_of_ble_eq_true rfl, Nat.le_of_ble_eq_true rfl⟩ rfl rfl rfl rfl (Nat.le_of_ble_eq_true rfl) d_M_less_62) hS (fun r_2 F_2 A_2 H locs hw hP hS => ?_)
        obtain ⟨rfl, hw⟩ := hw
        obtain ⟨rfl, hw⟩ := hw
        have h := hw
        rw [← hQe]
        exact gw_iret hx hb hr hlocks hP hK hS ⟨rfl, h⟩ d_M_less_65
      · have h := h.2 c_9
        refine lv_iload hx hb d_M_less_12 (lv_at hl 5 rfl) ?_
        refine lv_aload_n hx hb d_M_less_14 rfl (lv_at hl 0 rfl) ?_
        refine lv_iload hx hb d_M_less_15 (lv_at hl 6 rfl) ?_
        obtain ⟨hin, h⟩ := h
        refine gs_ild hx hb hK hP h1 hin d_M_less_17 ?_
        refine lv_iload hx hb d_M_less_18 (lv_at hl 6 rfl) ?_
        refine lv_iload_n hx hb d_M_less_20 rfl (lv_at hl 3 rfl) ?_
        obtain ⟨J_32, h, hj_32⟩ := h
        have join_32 : ∀ (v0_3 : Int32) (H : Heap) (locs : List Loc) (ls : Array Slot), J_32 v0_3 → va_P D gcls (gs_ws Λ F A_1 L) H → va_S (gw_A Λ) s.heap H locs → lv_has ls 7 [(0, .ref a1), (1, .int p2), (2, .ref a3), (3, .int p4), (4, .ref a5), (6, .int x6_1)] → W p l e rm_M_less s m args below meth c H locs 0 0 Q (F0 m 32 ls [.int v0_3, .int (A_1 a1 x6_1.toNatClampNeg), .int x5_1]) := by
          intro v0_3 H locs ls hJ hP hS hl
          have h := hj_32 v0_3 hJ
          refine lv_isub hx hb d_M_less_32 ?_
          refine lv_iadd hx hb d_M_less_33 ?_
          refine lv_topi (fun x5_4 ex5_4 => ?_)
          have h := h x5_4 ex5_4
          refine lv_istore (lv' := [(5, .int x5_4), (0, .ref a1), (1, .int p2), (2, .ref a3), (3, .int p4), (4, .ref a5), (6, .int x6_1)]) hx hb d_M_less_34 hl (by decide) rfl (fun ls hl => ?_)
          refine lv_aload hx hb d_M_less_36 (lv_at hl 5 rfl) ?_
          refine lv_iload hx hb d_M_less_38 (lv_at hl 6 rfl) ?_
          refine lv_iload hx hb d_M_less_40 (lv_at hl 0 rfl) ?_
          refine lv_ldc (v := (65535 : Int32)) hx hb hown (htw _ mm_761) d_M_less_42 ?_
          refine lv_iand hx hb d_M_less_44 ?_
          obtain ⟨hin, h⟩ := h
          refine gs_ist hx hb hK hlo hP hS h5 hin d_M_less_45 (fun A_5 eA_5 H locs hP hS => ?_)
          have h := h A_5 eA_5
          refine lv_iload hx hb d_M_less_46 (lv_at hl 0 rfl) ?_
          refine lv_bipush (v := (16 : Int32)) hx hb d_M_less_48 (by decide) ?_
          refine lv_ishr hx hb d_M_less_50 ?_
          refine lv_topi (fun x5_6 ex5_6 => ?_)
          have h := h x5_6 ex5_6
          refine lv_istore (lv' := [(5, .int x5_6), (0, .ref a1), (1, .int p2), (2, .ref a3), (3, .int p4), (4, .ref a5), (6, .int x6_1)]) hx hb d_M_less_51 hl (by decide) rfl (fun ls hl => ?_)
          obtain ⟨x6_7, ex6_7⟩ : ∃ y : Int32, y = x6_1 + (1 : Int32) := ⟨_, rfl⟩
          have h := h x6_7 ex6_7
          refine lv_iinc (v := x6_7) (lv' := [(6, .int x6_7), (5, .int x5_6), (0, .ref a1), (1, .int p2), (2, .ref a3), (3, .int p4), (4, .ref a5)]) hx hb d_M_less_53 hl (k := 6) rfl (by rw [ex6_7]; rfl) (by decide) rfl (fun ls hl => ?_)
          refine lv_goto (tgt := 6) hx hb d_M_less_56 (by decide) ?_
          exact ih_6 x5_6 x6_7 A_5 _ _ _ (Nat.lt_of_lt_of_le h.2 (Nat.le_of_lt_succ hμ_6)) h.1 hP hS (lv_sub hl [2, 3, 4, 5, 6, 1, 0] rfl)
        refine lv_icmp_ge (tgt := 31) hx hb d_M_less_21 (by decide) (fun c_21 => ?_) (fun c_21 => ?_)
        · have h := h.1 c_21
          refine lv_iconst (v := (0 : Int32)) hx hb d_M_less_31 (by decide) ?_
          exact join_32 (0 : Int32) _ _ _ h hP hS (lv_sub hl [0, 1, 2, 3, 4, 6] rfl)
        · have h := h.2 c_21
          refine lv_aload_n hx hb d_M_less_24 rfl (lv_at hl 2 rfl) ?_
          refine lv_iload hx hb d_M_less_25 (lv_at hl 6 rfl) ?_
          obtain ⟨hin, h⟩ := h
          refine gs_ild hx hb hK hP h3 hin d_M_less_27 ?_
          refine lv_goto (tgt := 32) hx hb d_M_less_28 (by decide) ?_
          exact join_32 (A_1 a3 x6_1.toNatClampNeg) _ _ _ h hP hS (lv_sub hl [0, 1, 2, 3, 4, 6] rfl)
  exact loop_6 (μ_6 (0 : Int32) (0 : Int32) A + 1) (0 : Int32) (0 : Int32) A _ _ _ (Nat.lt_succ_self _) h0_6 hP hS (lv_sub hl [2, 3, 4, 5, 6, 1, 0] rfl)
abbrev rm_M_times : Room := { frames := 1, cells := 0, slots := 0, locals := 22 }
set_option maxHeartbeats 4000000 in
set_option maxRecDepth 100000 in
theorem w_M_times (hlo : gs_D Λ) (a1 n1 : Nat) (p2 : Int32) (a3 n3 : Nat) (p4 : Int32) (a5 n5 : Nat) (h1 : (a1, gI cI n1) ∈ Λ) (h3 : (a3, gI cI n3) ∈ Λ) (h5 : (a5, gI cI n5) ∈ Λ) (F A : gm_M) (post : Int32 → gm_M → Prop) (h : vc_M_times a1 n1 p2 a3 n3 p4 a5 n5 F A post) : Met l y_M_times (.code y_M_times b_M_times 9 (some .int) :: gw_WS) rm_M_times (va_Pc [.ref a1, .int p2, .ref a3, .int p4, .ref a5] (gw_P D cI cB cJ cW Λ L F A)) (gw_Qi D cI cB cJ cW Λ L (fun r F2 A2 => F = F2 ∧ post r A2)) 0 0 (gw_A Λ) := by
  refine Met.ofW (cc := b_M_times) (maxL := 9) (ret := (some .int)) (by decide) rfl ?_
  intro p e s m args below meth c s₁ B hml hv
  obtain ⟨hargs, hP, hK⟩ := hv
  have hx := B.exec
  have hb := B.bytes
  have hr := B.returns
  have hlocks := B.notSynchronized
  have htw : ∀ w ∈ gw_WS, w.before args s = true := fun w h9 => atoms_spec (ws := .code y_M_times b_M_times 9 (some .int) :: gw_WS) B.pre w (List.mem_cons_of_mem _ h9)
  have hown : s.vm.findClass R_M = some m.cls := findClass_of_methodNamed B.named
  have hS : va_S (gw_A Λ) s.heap s.heap [] := va_S.rf
  refine W.eq (g2 := entryFrame m ([.ref a1, .int p2, .ref a3, .int p4, .ref a5] : List Value).toArray 9) (by rw [hargs]) ?_
  have hl := lv_entry ([.ref a1, .int p2, .ref a3, .int p4, .ref a5]) (n := 9) (Nat.le_of_ble_eq_true rfl)
  rw [lg_entry_eq]
  generalize (lg_sl ([.ref a1, .int p2, .ref a3, .int p4, .ref a5]) ++ List.replicate (9 - (lg_sl ([.ref a1, .int p2, .ref a3, .int p4, .ref a5])).length) Slot.unset).toArray = ls at hl ⊢
  have hl : lv_has ls 9 [(0, .ref a1), (1, .int p2), (2, .ref a3), (3, .int p4), (4, .ref a5)] := hl
  generalize hQe : MQ below (gw_Qi D cI cB cJ cW Λ L (fun r F2 A2 => F = F2 ∧ post r A2)) args s 0 0 (gw_A Λ) = Q
  unfold vc_M_times at h
  refine lv_iconst (v := (0 : Int32)) hx hb d_M_times_0 (by decide) ?_
  refine lv_istore (lv' := [(5, .int (0 : Int32)), (0, .ref a1), (1, .int p2), (2, .ref a3), (3, .int p4), (4, .ref a5)]) hx hb d_M_times_1 hl (by decide) rfl (fun ls hl => ?_)
  obtain ⟨I_3, μ_3, h0_3, hs_3⟩ := h
  have loop_3 : ∀ (N : Nat) (x5_1 : Int32) (A_1 : gm_M) (H : Heap) (locs : List Loc) (ls : Array Slot), μ_3 x5_1 A_1 < N → I_3 x5_1 A_1 → va_P D gcls (gs_ws Λ F A_1 L) H → va_S (gw_A Λ) s.heap H locs → lv_has ls 9 [(0, .ref a1), (1, .int p2), (2, .ref a3), (3, .int p4), (4, .ref a5), (5, .int x5_1)] → W p l e rm_M_times s m args below meth c H locs 0 0 Q (F0 m 3 ls []) := by
    intro N
    induction N with
    | zero => intro x5_1 A_1 H locs ls hμ; exact absurd hμ (Nat.not_lt_zero _)
    | succ N ih_3 =>
      intro x5_1 A_1 H locs ls hμ_3 hI hP hS hl
      have h := hs_3 x5_1 A_1 hI
      refine lv_iload hx hb d_M_times_3 (lv_at hl 5 rfl) ?_
      refine lv_iload_n hx hb d_M_times_5 rfl (lv_at hl 1 rfl) ?_
      refine lv_iload_n hx hb d_M_times_6 rfl (lv_at hl 3 rfl) ?_
      refine lv_iadd hx hb d_M_times_7 ?_
      refine lv_icmp_ge (tgt := 23) hx hb d_M_times_8 (by decide) (fun c_8 => ?_) (fun c_8 => ?_)
      · have h := h.1 c_8
        refine lv_iconst (v := (0 : Int32)) hx hb d_M_times_23 (by decide) ?_
        refine lv_istore (lv' := [(5, .int (0 : Int32)), (0, .ref a1), (1, .int p2), (2, .ref a3), (3, .int p4), (4, .ref a5)]) hx hb d_M_times_24 hl (by decide) rfl (fun ls hl => ?_)
        obtain ⟨I_26, μ_26, h0_26, hs_26⟩ := h
        have loop_26 : ∀ (N : Nat) (x5_2 : Int32) (A_2 : gm_M) (H : Heap) (locs : List Loc) (ls : Array Slot), μ_26 x5_2 A_2 < N → I_26 x5_2 A_2 → va_P D gcls (gs_ws Λ F A_2 L) H → va_S (gw_A Λ) s.heap H locs → lv_has ls 9 [(0, .ref a1), (1, .int p2), (2, .ref a3), (3, .int p4), (4, .ref a5), (5, .int x5_2)] → W p l e rm_M_times s m args below meth c H locs 0 0 Q (F0 m 26 ls []) := by
          intro N
          induction N with
          | zero => intro x5_2 A_2 H locs ls hμ; exact absurd hμ (Nat.not_lt_zero _)
          | succ N ih_26 =>
            intro x5_2 A_2 H locs ls hμ_26 hI hP hS hl
            have h := hs_26 x5_2 A_2 hI
            refine lv_iload hx hb d_M_times_26 (lv_at hl 5 rfl) ?_
            refine lv_iload_n hx hb d_M_times_28 rfl (lv_at hl 1 rfl) ?_
            refine lv_icmp_ge (tgt := 114) hx hb d_M_times_29 (by decide) (fun c_29 => ?_) (fun c_29 => ?_)
            · have h := h.1 c_29
              refine lv_aload hx hb d_M_times_114 (lv_at hl 4 rfl) ?_
              refine lv_iload_n hx hb d_M_times_116 rfl (lv_at hl 1 rfl) ?_
              refine lv_iload_n hx hb d_M_times_117 rfl (lv_at hl 3 rfl) ?_
              refine lv_iadd hx hb d_M_times_118 ?_
              refine gw_goi (gw_runS (As := [.ref a5, .int (p2 + p4)]) (rest := []) hx hb hml hown htw hK hP hS hl.1 (w_M_trim hlo a5 n5 (p2 + p4) h5 F A_2 _ h) k_M_trim mm_725 ⟨Nat.le_of_ble_eq_true rfl, Nat.le_of_ble_eq_true rfl⟩ rfl rfl rfl rfl (Nat.le_of_ble_eq_true rfl) d_M_times_119) hS (fun r_3 F_3 A_3 H locs hw hP hS => ?_)
              obtain ⟨rfl, hw⟩ := hw
              obtain ⟨rfl, hw⟩ := hw
              have h := hw
              rw [← hQe]
              exact gw_iret hx hb hr hlocks hP hK hS ⟨rfl, h⟩ d_M_times_122
            · have h := h.2 c_29
              refine lv_lconst (v := (0 : Int64)) hx hb d_M_times_32 (by decide) ?_
              refine lv_lstore (lv' := [(6, .long (0 : Int64)), (0, .ref a1), (1, .int p2), (2, .ref a3), (3, .int p4), (4, .ref a5), (5, .int x5_2)]) hx hb d_M_times_33 hl (by decide) rfl (fun ls hl => ?_)
              refine lv_iconst (v := (0 : Int32)) hx hb d_M_times_35 (by decide) ?_
              refine lv_istore (lv' := [(8, .int (0 : Int32)), (6, .long (0 : Int64)), (0, .ref a1), (1, .int p2), (2, .ref a3), (3, .int p4), (4, .ref a5), (5, .int x5_2)]) hx hb d_M_times_36 hl (by decide) rfl (fun ls hl => ?_)
              obtain ⟨I_38, μ_38, h0_38, hs_38⟩ := h
              have loop_38 : ∀ (N : Nat) (x6_4 : Int64) (x8_4 : Int32) (A_4 : gm_M) (H : Heap) (locs : List Loc) (ls : Array Slot), μ_38 x6_4 x8_4 A_4 < N → I_38 x6_4 x8_4 A_4 → va_P D gcls (gs_ws Λ F A_4 L) H → va_S (gw_A Λ) s.heap H locs → lv_has ls 9 [(0, .ref a1), (1, .int p2), (2, .ref a3), (3, .int p4), (4, .ref a5), (5, .int x5_2), (6, .long x6_4), (8, .int x8_4)] → W p l e rm_M_times s m args below meth c H locs 0 0 Q (F0 m 38 ls []) := by
                intro N
                induction N with
                | zero => intro x6_4 x8_4 A_4 H locs ls hμ; exact absurd hμ (Nat.not_lt_zero _)
                | succ N ih_38 =>
                  intro x6_4 x8_4 A_4 H locs ls hμ_38 hI hP hS hl
                  have h := hs_38 x6_4 x8_4 A_4 hI
                  refine lv_iload hx hb d_M_times_38 (lv_at hl 7 rfl) ?_
                  refine lv_iload_n hx hb d_M_times_40 rfl (lv_at hl 3 rfl) ?_
                  refine lv_icmp_ge (tgt := 98) hx hb d_M_times_41 (by decide) (fun c_41 => ?_) (fun c_41 => ?_)
                  · have h := h.1 c_41
                    refine lv_aload hx hb d_M_times_98 (lv_at hl 4 rfl) ?_
                    refine lv_iload hx hb d_M_times_100 (lv_at hl 5 rfl) ?_
                    refine lv_iload_n hx hb d_M_times_102 rfl (lv_at hl 3 rfl) ?_
                    refine lv_iadd hx hb d_M_times_103 ?_
                    refine lv_lload hx hb d_M_times_104 (lv_at hl 6 rfl) ?_
                    refine lv_l2i (v := (x6_4.toInt32)) hx hb d_M_times_106 (by rfl) ?_
                    obtain ⟨hin, h⟩ := h
                    refine gs_ist hx hb hK hlo hP hS h5 hin d_M_times_107 (fun A_5 eA_5 H locs hP hS => ?_)
                    have h := h A_5 eA_5
                    obtain ⟨x5_6, ex5_6⟩ : ∃ y : Int32, y = x5_2 + (1 : Int32) := ⟨_, rfl⟩
                    have h := h x5_6 ex5_6
                    refine lv_iinc (v := x5_6) (lv' := [(5, .int x5_6), (0, .ref a1), (1, .int p2), (2, .ref a3), (3, .int p4), (4, .ref a5), (6, .long x6_4), (8, .int x8_4)]) hx hb d_M_times_108 hl (k := 5) rfl (by rw [ex5_6]; rfl) (by decide) rfl (fun ls hl => ?_)
                    refine lv_goto (tgt := 26) hx hb d_M_times_111 (by decide) ?_
                    exact ih_26 x5_6 A_5 _ _ _ (Nat.lt_of_lt_of_le h.2 (Nat.le_of_lt_succ hμ_26)) h.1 hP hS (lv_sub hl [1, 2, 3, 4, 5, 0] rfl)
                  · have h := h.2 c_41
                    refine lv_lload hx hb d_M_times_44 (lv_at hl 6 rfl) ?_
                    refine lv_aload_n hx hb d_M_times_46 rfl (lv_at hl 0 rfl) ?_
                    refine lv_iload hx hb d_M_times_47 (lv_at hl 5 rfl) ?_
                    obtain ⟨hin, h⟩ := h
                    refine gs_ild hx hb hK hP h1 hin d_M_times_49 ?_
                    refine lv_i2l (v := ((A_4 a1 x5_2.toNatClampNeg).toInt64)) hx hb d_M_times_50 (by rfl) ?_
                    refine lv_aload_n hx hb d_M_times_51 rfl (lv_at hl 2 rfl) ?_
                    refine lv_iload hx hb d_M_times_52 (lv_at hl 7 rfl) ?_
                    obtain ⟨hin, h⟩ := h
                    refine gs_ild hx hb hK hP h3 hin d_M_times_54 ?_
                    refine lv_i2l (v := ((A_4 a3 x8_4.toNatClampNeg).toInt64)) hx hb d_M_times_55 (by rfl) ?_
                    refine lv_lmul hx hb d_M_times_56 ?_
                    refine lv_aload hx hb d_M_times_57 (lv_at hl 4 rfl) ?_
                    refine lv_iload hx hb d_M_times_59 (lv_at hl 5 rfl) ?_
                    refine lv_iload hx hb d_M_times_61 (lv_at hl 7 rfl) ?_
                    refine lv_iadd hx hb d_M_times_63 ?_
                    obtain ⟨hin, h⟩ := h
                    refine gs_ild hx hb hK hP h5 hin d_M_times_64 ?_
                    refine lv_i2l (v := ((A_4 a5 (x5_2 + x8_4).toNatClampNeg).toInt64)) hx hb d_M_times_65 (by rfl) ?_
                    refine lv_ladd hx hb d_M_times_66 ?_
                    refine lv_ladd hx hb d_M_times_67 ?_
                    refine lv_topl (fun x6_7 ex6_7 => ?_)
                    have h := h x6_7 ex6_7
                    refine lv_lstore (lv' := [(6, .long x6_7), (0, .ref a1), (1, .int p2), (2, .ref a3), (3, .int p4), (4, .ref a5), (5, .int x5_2), (8, .int x8_4)]) hx hb d_M_times_68 hl (by decide) rfl (fun ls hl => ?_)
                    refine lv_aload hx hb d_M_times_70 (lv_at hl 5 rfl) ?_
                    refine lv_iload hx hb d_M_times_72 (lv_at hl 6 rfl) ?_
                    refine lv_iload hx hb d_M_times_74 (lv_at hl 7 rfl) ?_
                    refine lv_iadd hx hb d_M_times_76 ?_
                    refine lv_lload hx hb d_M_times_77 (lv_at hl 0 rfl) ?_
                    refine lv_ldc2 (v := (65535 : Int64)) hx hb hown (htw _ mm_720) d_M_times_79 ?_
                    refine lv_land hx hb d_M_times_82 ?_
                    refine lv_l2i (v := ((x6_7 &&& (65535 : Int64)).toInt32)) hx hb d_M_times_83 (by rfl) ?_
                    obtain ⟨hin, h⟩ := h
                    refine gs_ist hx hb hK hlo hP hS h5 hin d_M_times_84 (fun A_8 eA_8 H locs hP hS => ?_)
                    have h := h A_8 eA_8
                    refine lv_lload hx hb d_M_times_85 (lv_at hl 0 rfl) ?_
                    refine lv_bipush (v := (16 : Int32)) hx hb d_M_times_87 (by decide) ?_
                    refine lv_lushr (v := (j_lushr x6_7 (16 : Int32))) hx hb d_M_times_89 rfl ?_
                    refine lv_topl (fun x6_9 ex6_9 => ?_)
                    have h := h x6_9 ex6_9
                    refine lv_lstore (lv' := [(6, .long x6_9), (0, .ref a1), (1, .int p2), (2, .ref a3), (3, .int p4), (4, .ref a5), (5, .int x5_2), (8, .int x8_4)]) hx hb d_M_times_90 hl (by decide) rfl (fun ls hl => ?_)
                    obtain ⟨x8_10, ex8_10⟩ : ∃ y : Int32, y = x8_4 + (1 : Int32) := ⟨_, rfl⟩
                    have h := h x8_10 ex8_10
                    refine lv_iinc (v := x8_10) (lv' := [(8, .int x8_10), (6, .long x6_9), (0, .ref a1), (1, .int p2), (2, .ref a3), (3, .int p4), (4, .ref a5), (5, .int x5_2)]) hx hb d_M_times_92 hl (k := 7) rfl (by rw [ex8_10]; rfl) (by decide) rfl (fun ls hl => ?_)
                    refine lv_goto (tgt := 38) hx hb d_M_times_95 (by decide) ?_
                    exact ih_38 x6_9 x8_10 A_8 _ _ _ (Nat.lt_of_lt_of_le h.2 (Nat.le_of_lt_succ hμ_38)) h.1 hP hS (lv_sub hl [2, 3, 4, 5, 6, 7, 1, 0] rfl)
              exact loop_38 (μ_38 (0 : Int64) (0 : Int32) A_2 + 1) (0 : Int64) (0 : Int32) A_2 _ _ _ (Nat.lt_succ_self _) h0_38 hP hS (lv_sub hl [2, 3, 4, 5, 6, 7, 1, 0] rfl)
        exact loop_26 (μ_26 (0 : Int32) A_1 + 1) (0 : Int32) A_1 _ _ _ (Nat.lt_succ_self _) h0_26 hP hS (lv_sub hl [1, 2, 3, 4, 5, 0] rfl)
      · have h := h.2 c_8
        refine lv_aload hx hb d_M_times_11 (lv_at hl 4 rfl) ?_
        refine lv_iload hx hb d_M_times_13 (lv_at hl 5 rfl) ?_
        refine lv_iconst (v := (0 : Int32)) hx hb d_M_times_15 (by decide) ?_
        obtain ⟨hin, h⟩ := h
        refine gs_ist hx hb hK hlo hP hS h5 hin d_M_times_16 (fun A_11 eA_11 H locs hP hS => ?_)
        have h := h A_11 eA_11
        obtain ⟨x5_12, ex5_12⟩ : ∃ y : Int32, y = x5_1 + (1 : Int32) := ⟨_, rfl⟩
        have h := h x5_12 ex5_12
        refine lv_iinc (v := x5_12) (lv' := [(5, .int x5_12), (0, .ref a1), (1, .int p2), (2, .ref a3), (3, .int p4), (4, .ref a5)]) hx hb d_M_times_17 hl (k := 5) rfl (by rw [ex5_12]; rfl) (by decide) rfl (fun ls hl => ?_)
        refine lv_goto (tgt := 3) hx hb d_M_times_20 (by decide) ?_
        exact ih_3 x5_12 A_11 _ _ _ (Nat.lt_of_lt_of_le h.2 (Nat.le_of_lt_succ hμ_3)) h.1 hP hS (lv_sub hl [1, 2, 3, 4, 5, 0] rfl)
  exact loop_3 (μ_3 (0 : Int32) A + 1) (0 : Int32) A _ _ _ (Nat.lt_succ_self _) h0_3 hP hS (lv_sub hl [1, 2, 3, 4, 5, 0] rfl)
