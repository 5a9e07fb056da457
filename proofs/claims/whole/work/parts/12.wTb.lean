variable {l : Launch} {D : va_G} {cI cB cJ cW : ClassId} {Λ : gs_L} {L : Nat → Nat → Int64}
abbrev rm_T_turnRound : Room := { frames := 0, cells := 0, slots := 0, locals := 0 }
set_option maxHeartbeats 4000000 in
set_option maxRecDepth 100000 in
theorem w_T_turnRound (hlo : gs_D Λ) (K : Nat → Nat) (hΛ : gK cI cB cW Λ K) (F A : gm_M) (post : gm_M → Prop) (h : vc_T_turnRound K F A post) : Met l y_T_turnRound (.code y_T_turnRound b_T_turnRound 3 none :: gw_WS) rm_T_turnRound (va_Pc [.ref (K 2)] (gw_P D cI cB cJ cW Λ L F A)) (gw_Qv D cI cB cJ cW Λ L (fun F2 A2 => F = F2 ∧ post A2)) 0 0 (gw_A Λ) := by
  refine Met.ofW (cc := b_T_turnRound) (maxL := 3) (ret := none) (by decide) rfl ?_
  intro p e s m args below meth c s₁ B hml hv
  obtain ⟨hargs, hP, hK⟩ := hv
  have hx := B.exec
  have hb := B.bytes
  have hr := B.returns
  have hlocks := B.notSynchronized
  have htw : ∀ w ∈ gw_WS, w.before args s = true := fun w h9 => atoms_spec (ws := .code y_T_turnRound b_T_turnRound 3 none :: gw_WS) B.pre w (List.mem_cons_of_mem _ h9)
  have hown : s.vm.findClass R_T = some m.cls := findClass_of_methodNamed B.named
  have hS : va_S (gw_A Λ) s.heap s.heap [] := va_S.rf
  refine W.eq (g2 := entryFrame m ([.ref (K 2)] : List Value).toArray 3) (by rw [hargs]) ?_
  have hl := lv_entry ([.ref (K 2)]) (n := 3) (Nat.le_of_ble_eq_true rfl)
  rw [lg_entry_eq]
  generalize (lg_sl ([.ref (K 2)]) ++ List.replicate (3 - (lg_sl ([.ref (K 2)])).length) Slot.unset).toArray = ls at hl ⊢
  have hl : lv_has ls 3 [(0, .ref (K 2))] := hl
  generalize hQe : MQ below (gw_Qv D cI cB cJ cW Λ L (fun F2 A2 => F = F2 ∧ post A2)) args s 0 0 (gw_A Λ) = Q
  unfold vc_T_turnRound at h
  refine lv_iconst (v := (0 : Int32)) hx hb d_T_turnRound_0 (by decide) ?_
  refine lv_istore_n (lv' := [(1, .int (0 : Int32)), (0, .ref (K 2))]) hx hb d_T_turnRound_1 rfl hl (by decide) rfl (fun ls hl => ?_)
  obtain ⟨I_2, μ_2, h0_2, hs_2⟩ := h
  have loop_2 : ∀ (N : Nat) (x1_1 : Int32) (A_1 : gm_M) (H : Heap) (locs : List Loc) (ls : Array Slot), μ_2 x1_1 A_1 < N → I_2 x1_1 A_1 → va_P D gcls (gs_ws Λ F A_1 L) H → va_S (gw_A Λ) s.heap H locs → lv_has ls 3 [(0, .ref (K 2)), (1, .int x1_1)] → W p l e rm_T_turnRound s m args below meth c H locs 0 0 Q (F0 m 2 ls []) := by
    intro N
    induction N with
    | zero => intro x1_1 A_1 H locs ls hμ; exact absurd hμ (Nat.not_lt_zero _)
    | succ N ih_2 =>
      intro x1_1 A_1 H locs ls hμ_2 hI hP hS hl
      have h := hs_2 x1_1 A_1 hI
      refine lv_iload_n hx hb d_T_turnRound_2 rfl (lv_at hl 1 rfl) ?_
      refine lv_aload_n hx hb d_T_turnRound_3 rfl (lv_at hl 0 rfl) ?_
      refine gs_get (v := .int (F (K 2) 1)) hx hb htw i_T hown hK hP (gK_2 hΛ) rfl 1 (by decide) (htw _ mm_59) rfl d_T_turnRound_4 ?_
      refine lv_iconst (v := (2 : Int32)) hx hb d_T_turnRound_7 (by decide) ?_
      refine lv_idiv hx hb d_T_turnRound_8 (by decide) ?_
      refine lv_icmp_ge (tgt := 58) hx hb d_T_turnRound_9 (by decide) (fun c_9 => ?_) (fun c_9 => ?_)
      · have h := h.1 c_9
        rw [← hQe]
        exact gw_vret hx hb hr hlocks hP hK hS ⟨rfl, h⟩ d_T_turnRound_58
      · have h := h.2 c_9
        refine lv_aload_n hx hb d_T_turnRound_12 rfl (lv_at hl 0 rfl) ?_
        refine gs_get (v := .ref (K 3)) hx hb htw i_T hown hK hP (gK_2 hΛ) rfl 0 (by decide) (htw _ mm_56) rfl d_T_turnRound_13 ?_
        refine lv_iload_n hx hb d_T_turnRound_16 rfl (lv_at hl 1 rfl) ?_
        obtain ⟨hin, h⟩ := h
        refine gs_bld hx hb hK hP (gK_3 hΛ) hin d_T_turnRound_17 ?_
        refine lv_topi (fun x2_2 ex2_2 => ?_)
        have h := h x2_2 ex2_2
        refine lv_istore_n (lv' := [(2, .int x2_2), (0, .ref (K 2)), (1, .int x1_1)]) hx hb d_T_turnRound_18 rfl hl (by decide) rfl (fun ls hl => ?_)
        refine lv_aload_n hx hb d_T_turnRound_19 rfl (lv_at hl 1 rfl) ?_
        refine gs_get (v := .ref (K 3)) hx hb htw i_T hown hK hP (gK_2 hΛ) rfl 0 (by decide) (htw _ mm_56) rfl d_T_turnRound_20 ?_
        refine lv_iload_n hx hb d_T_turnRound_23 rfl (lv_at hl 2 rfl) ?_
        refine lv_aload_n hx hb d_T_turnRound_24 rfl (lv_at hl 1 rfl) ?_
        refine gs_get (v := .ref (K 3)) hx hb htw i_T hown hK hP (gK_2 hΛ) rfl 0 (by decide) (htw _ mm_56) rfl d_T_turnRound_25 ?_
        refine lv_aload_n hx hb d_T_turnRound_28 rfl (lv_at hl 1 rfl) ?_
        refine gs_get (v := .int (F (K 2) 1)) hx hb htw i_T hown hK hP (gK_2 hΛ) rfl 1 (by decide) (htw _ mm_59) rfl d_T_turnRound_29 ?_
        refine lv_iconst (v := (1 : Int32)) hx hb d_T_turnRound_32 (by decide) ?_
        refine lv_isub hx hb d_T_turnRound_33 ?_
        refine lv_iload_n hx hb d_T_turnRound_34 rfl (lv_at hl 2 rfl) ?_
        refine lv_isub hx hb d_T_turnRound_35 ?_
        obtain ⟨hin, h⟩ := h
        refine gs_bld hx hb hK hP (gK_3 hΛ) hin d_T_turnRound_36 ?_
        obtain ⟨hin, h⟩ := h
        refine gs_bst hx hb hK hlo hP hS (gK_3 hΛ) hin d_T_turnRound_37 (fun A_3 eA_3 H locs hP hS => ?_)
        have h := h A_3 eA_3
        refine lv_aload_n hx hb d_T_turnRound_38 rfl (lv_at hl 1 rfl) ?_
        refine gs_get (v := .ref (K 3)) hx hb htw i_T hown hK hP (gK_2 hΛ) rfl 0 (by decide) (htw _ mm_56) rfl d_T_turnRound_39 ?_
        refine lv_aload_n hx hb d_T_turnRound_42 rfl (lv_at hl 1 rfl) ?_
        refine gs_get (v := .int (F (K 2) 1)) hx hb htw i_T hown hK hP (gK_2 hΛ) rfl 1 (by decide) (htw _ mm_59) rfl d_T_turnRound_43 ?_
        refine lv_iconst (v := (1 : Int32)) hx hb d_T_turnRound_46 (by decide) ?_
        refine lv_isub hx hb d_T_turnRound_47 ?_
        refine lv_iload_n hx hb d_T_turnRound_48 rfl (lv_at hl 2 rfl) ?_
        refine lv_isub hx hb d_T_turnRound_49 ?_
        refine lv_iload_n hx hb d_T_turnRound_50 rfl (lv_at hl 0 rfl) ?_
        obtain ⟨hin, h⟩ := h
        refine gs_bst hx hb hK hlo hP hS (gK_3 hΛ) hin d_T_turnRound_51 (fun A_4 eA_4 H locs hP hS => ?_)
        have h := h A_4 eA_4
        obtain ⟨x1_5, ex1_5⟩ : ∃ y : Int32, y = x1_1 + (1 : Int32) := ⟨_, rfl⟩
        have h := h x1_5 ex1_5
        refine lv_iinc (v := x1_5) (lv' := [(1, .int x1_5), (2, .int x2_2), (0, .ref (K 2))]) hx hb d_T_turnRound_52 hl (k := 2) rfl (by rw [ex1_5]; rfl) (by decide) rfl (fun ls hl => ?_)
        refine lv_goto (tgt := 2) hx hb d_T_turnRound_55 (by decide) ?_
        exact ih_2 x1_5 A_4 _ _ _ (Nat.lt_of_lt_of_le h.2 (Nat.le_of_lt_succ hμ_2)) h.1 hP hS (lv_sub hl [2, 0] rfl)
  exact loop_2 (μ_2 (0 : Int32) A + 1) (0 : Int32) A _ _ _ (Nat.lt_succ_self _) h0_2 hP hS (lv_sub hl [1, 0] rfl)
