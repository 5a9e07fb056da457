variable {l : Launch} {D : va_G} {cI cB cJ cW : ClassId} {Λ : gs_L} {L : Nat → Nat → Int64}
abbrev rm_D_guessAt : Room := { frames := 1, cells := 0, slots := 0, locals := 60 }
set_option maxHeartbeats 4000000 in
set_option maxRecDepth 100000 in
theorem w_D_guessAt (hlo : gs_D Λ) (K : Nat → Nat) (p1 : Int32) (p2 : Int32) (hΛ : gK cI cB cW Λ K) (F A : gm_M) (post : Int64 → Prop) (h : vc_D_guessAt K p1 p2 F A post) : Met l y_D_guessAt (.code y_D_guessAt b_D_guessAt 16 (some .long) :: gw_WS) rm_D_guessAt (va_Pc [.ref (K 4), .int p1, .int p2] (gw_P D cI cB cJ cW Λ L F A)) (gw_Ql D cI cB cJ cW Λ L (fun r F2 A2 => F = F2 ∧ A = A2 ∧ post r)) 0 0 (gw_A Λ) := by
  refine Met.ofW (cc := b_D_guessAt) (maxL := 16) (ret := (some .long)) (by decide) rfl ?_
  intro p e s m args below meth c s₁ B hml hv
  obtain ⟨hargs, hP, hK⟩ := hv
  have hx := B.exec
  have hb := B.bytes
  have hr := B.returns
  have hlocks := B.notSynchronized
  have htw : ∀ w ∈ gw_WS, w.before args s = true := fun w h9 => atoms_spec (ws := .code y_D_guessAt b_D_guessAt 16 (some .long) :: gw_WS) B.pre w (List.mem_cons_of_mem _ h9)
  have hown : s.vm.findClass R_D = some m.cls := findClass_of_methodNamed B.named
  have hS : va_S (gw_A Λ) s.heap s.heap [] := va_S.rf
  refine W.eq (g2 := entryFrame m ([.ref (K 4), .int p1, .int p2] : List Value).toArray 16) (by rw [hargs]) ?_
  have hl := lv_entry ([.ref (K 4), .int p1, .int p2]) (n := 16) (Nat.le_of_ble_eq_true rfl)
  rw [lg_entry_eq]
  generalize (lg_sl ([.ref (K 4), .int p1, .int p2]) ++ List.replicate (16 - (lg_sl ([.ref (K 4), .int p1, .int p2])).length) Slot.unset).toArray = ls at hl ⊢
  have hl : lv_has ls 16 [(0, .ref (K 4)), (1, .int p1), (2, .int p2)] := hl
  generalize hQe : MQ below (gw_Ql D cI cB cJ cW Λ L (fun r F2 A2 => F = F2 ∧ A = A2 ∧ post r)) args s 0 0 (gw_A Λ) = Q
  unfold vc_D_guessAt at h
  refine lv_aload_n hx hb d_D_guessAt_0 rfl (lv_at hl 0 rfl) ?_
  refine gs_get (v := .ref (K 6)) hx hb htw i_D hown hK hP (gK_4 hΛ) rfl 3 (by decide) (htw _ mm_79) rfl d_D_guessAt_1 ?_
  refine lv_iload_n hx hb d_D_guessAt_4 rfl (lv_at hl 2 rfl) ?_
  refine lv_iconst (v := (1 : Int32)) hx hb d_D_guessAt_5 (by decide) ?_
  refine lv_isub hx hb d_D_guessAt_6 ?_
  obtain ⟨hin, h⟩ := h
  refine gs_ild hx hb hK hP (gK_6 hΛ) hin d_D_guessAt_7 ?_
  refine lv_i2l (v := ((A (K 6) (p2 - (1 : Int32)).toNatClampNeg).toInt64)) hx hb d_D_guessAt_8 (by rfl) ?_
  refine lv_topl (fun x3_1 ex3_1 => ?_)
  have h := h x3_1 ex3_1
  refine lv_lstore_n (lv' := [(3, .long x3_1), (0, .ref (K 4)), (1, .int p1), (2, .int p2)]) hx hb d_D_guessAt_9 rfl hl (by decide) rfl (fun ls hl => ?_)
  refine lv_iload_n hx hb d_D_guessAt_10 rfl (lv_at hl 3 rfl) ?_
  refine lv_iconst (v := (1 : Int32)) hx hb d_D_guessAt_11 (by decide) ?_
  obtain ⟨J_28, h, hj_28⟩ := h
  have join_28 : ∀ (v0_2 : Int64) (H : Heap) (locs : List Loc) (ls : Array Slot), J_28 v0_2 → va_P D gcls (gs_ws Λ F A L) H → va_S (gw_A Λ) s.heap H locs → lv_has ls 16 [(0, .ref (K 4)), (1, .int p1), (2, .int p2), (3, .long x3_1)] → W p l e rm_D_guessAt s m args below meth c H locs 0 0 Q (F0 m 28 ls [.long v0_2]) := by
    intro v0_2 H locs ls hJ hP hS hl
    have h := hj_28 v0_2 hJ
    refine lv_lstore (lv' := [(5, .long v0_2), (0, .ref (K 4)), (1, .int p1), (2, .int p2), (3, .long x3_1)]) hx hb d_D_guessAt_28 hl (by decide) rfl (fun ls hl => ?_)
    refine lv_iload_n hx hb d_D_guessAt_30 rfl (lv_at hl 3 rfl) ?_
    refine lv_iconst (v := (1 : Int32)) hx hb d_D_guessAt_31 (by decide) ?_
    obtain ⟨J_50, h, hj_50⟩ := h
    have join_50 : ∀ (v0_3 : Int64) (H : Heap) (locs : List Loc) (ls : Array Slot), J_50 v0_3 → va_P D gcls (gs_ws Λ F A L) H → va_S (gw_A Λ) s.heap H locs → lv_has ls 16 [(0, .ref (K 4)), (1, .int p1), (2, .int p2), (3, .long x3_1), (5, .long v0_2)] → W p l e rm_D_guessAt s m args below meth c H locs 0 0 Q (F0 m 50 ls [.long v0_3]) := by
      intro v0_3 H locs ls hJ hP hS hl
      have h := hj_50 v0_3 hJ
      refine lv_lstore (lv' := [(7, .long v0_3), (0, .ref (K 4)), (1, .int p1), (2, .int p2), (3, .long x3_1), (5, .long v0_2)]) hx hb d_D_guessAt_50 hl (by decide) rfl (fun ls hl => ?_)
      refine lv_aload_n hx hb d_D_guessAt_52 rfl (lv_at hl 1 rfl) ?_
      refine gs_get (v := .ref (K 5)) hx hb htw i_D hown hK hP (gK_4 hΛ) rfl 2 (by decide) (htw _ mm_78) rfl d_D_guessAt_53 ?_
      refine lv_iload_n hx hb d_D_guessAt_56 rfl (lv_at hl 2 rfl) ?_
      refine lv_iload_n hx hb d_D_guessAt_57 rfl (lv_at hl 3 rfl) ?_
      refine lv_iadd hx hb d_D_guessAt_58 ?_
      obtain ⟨hin, h⟩ := h
      refine gs_ild hx hb hK hP (gK_5 hΛ) hin d_D_guessAt_59 ?_
      refine lv_i2l (v := ((A (K 5) (p1 + p2).toNatClampNeg).toInt64)) hx hb d_D_guessAt_60 (by rfl) ?_
      refine lv_bipush (v := (31 : Int32)) hx hb d_D_guessAt_61 (by decide) ?_
      refine lv_lshl (v := (j_lshl ((A (K 5) (p1 + p2).toNatClampNeg).toInt64) (31 : Int32))) hx hb d_D_guessAt_63 rfl ?_
      refine lv_aload_n hx hb d_D_guessAt_64 rfl (lv_at hl 1 rfl) ?_
      refine gs_get (v := .ref (K 5)) hx hb htw i_D hown hK hP (gK_4 hΛ) rfl 2 (by decide) (htw _ mm_78) rfl d_D_guessAt_65 ?_
      refine lv_iload_n hx hb d_D_guessAt_68 rfl (lv_at hl 2 rfl) ?_
      refine lv_iload_n hx hb d_D_guessAt_69 rfl (lv_at hl 3 rfl) ?_
      refine lv_iadd hx hb d_D_guessAt_70 ?_
      refine lv_iconst (v := (1 : Int32)) hx hb d_D_guessAt_71 (by decide) ?_
      refine lv_isub hx hb d_D_guessAt_72 ?_
      obtain ⟨hin, h⟩ := h
      refine gs_ild hx hb hK hP (gK_5 hΛ) hin d_D_guessAt_73 ?_
      refine lv_i2l (v := ((A (K 5) ((p1 + p2) - (1 : Int32)).toNatClampNeg).toInt64)) hx hb d_D_guessAt_74 (by rfl) ?_
      refine lv_lor hx hb d_D_guessAt_75 ?_
      refine lv_topl (fun x9_4 ex9_4 => ?_)
      have h := h x9_4 ex9_4
      refine lv_lstore (lv' := [(9, .long x9_4), (7, .long v0_3), (0, .ref (K 4)), (1, .int p1), (2, .int p2), (3, .long x3_1), (5, .long v0_2)]) hx hb d_D_guessAt_76 hl (by decide) rfl (fun ls hl => ?_)
      refine lv_lload hx hb d_D_guessAt_78 (lv_at hl 0 rfl) ?_
      refine lv_lload_n hx hb d_D_guessAt_80 rfl (lv_at hl 5 rfl) ?_
      obtain ⟨hne, h⟩ := h
      refine lv_ldiv hx hb d_D_guessAt_81 hne ?_
      refine lv_ldc2 (v := (2147483647 : Int64)) hx hb hown (htw _ mm_475) d_D_guessAt_82 ?_
      refine va_mmin_long hx hb (by rw [hml, hl.1]) hown (htw _ mm_476) (htw _ mn_static) (htw _ mx_ini) (htw _ mn_code) (Nat.le_of_ble_eq_true rfl) (Nat.le_of_ble_eq_true rfl) (Nat.zero_le _) (Nat.zero_le _) d_D_guessAt_85 ?_
      refine lv_topl (fun x11_5 ex11_5 => ?_)
      have h := h x11_5 ex11_5
      refine lv_lstore (lv' := [(11, .long x11_5), (9, .long x9_4), (7, .long v0_3), (0, .ref (K 4)), (1, .int p1), (2, .int p2), (3, .long x3_1), (5, .long v0_2)]) hx hb d_D_guessAt_88 hl (by decide) rfl (fun ls hl => ?_)
      refine lv_lload hx hb d_D_guessAt_90 (lv_at hl 1 rfl) ?_
      refine lv_lload hx hb d_D_guessAt_92 (lv_at hl 0 rfl) ?_
      refine lv_lload_n hx hb d_D_guessAt_94 rfl (lv_at hl 6 rfl) ?_
      refine lv_lmul hx hb d_D_guessAt_95 ?_
      refine lv_lsub hx hb d_D_guessAt_96 ?_
      refine lv_topl (fun x13_6 ex13_6 => ?_)
      have h := h x13_6 ex13_6
      refine lv_lstore (lv' := [(13, .long x13_6), (11, .long x11_5), (9, .long x9_4), (7, .long v0_3), (0, .ref (K 4)), (1, .int p1), (2, .int p2), (3, .long x3_1), (5, .long v0_2)]) hx hb d_D_guessAt_97 hl (by decide) rfl (fun ls hl => ?_)
      refine lv_iconst (v := (0 : Int32)) hx hb d_D_guessAt_99 (by decide) ?_
      refine lv_istore (lv' := [(15, .int (0 : Int32)), (13, .long x13_6), (11, .long x11_5), (9, .long x9_4), (7, .long v0_3), (0, .ref (K 4)), (1, .int p1), (2, .int p2), (3, .long x3_1), (5, .long v0_2)]) hx hb d_D_guessAt_100 hl (by decide) rfl (fun ls hl => ?_)
      obtain ⟨I_102, μ_102, h0_102, hs_102⟩ := h
      have loop_102 : ∀ (N : Nat) (x11_7 : Int64) (x13_7 : Int64) (x15_7 : Int32) (H : Heap) (locs : List Loc) (ls : Array Slot), μ_102 x11_7 x13_7 x15_7 < N → I_102 x11_7 x13_7 x15_7 → va_P D gcls (gs_ws Λ F A L) H → va_S (gw_A Λ) s.heap H locs → lv_has ls 16 [(3, .long x3_1), (5, .long v0_2), (7, .long v0_3), (11, .long x11_7), (13, .long x13_7), (15, .int x15_7)] → W p l e rm_D_guessAt s m args below meth c H locs 0 0 Q (F0 m 102 ls []) := by
        intro N
        induction N with
        | zero => intro x11_7 x13_7 x15_7 H locs ls hμ; exact absurd hμ (Nat.not_lt_zero _)
        | succ N ih_102 =>
          intro x11_7 x13_7 x15_7 H locs ls hμ_102 hI hP hS hl
          have h := hs_102 x11_7 x13_7 x15_7 hI
          refine lv_iload hx hb d_D_guessAt_102 (lv_at hl 5 rfl) ?_
          refine lv_iconst (v := (2 : Int32)) hx hb d_D_guessAt_104 (by decide) ?_
          refine lv_icmp_ge (tgt := 152) hx hb d_D_guessAt_105 (by decide) (fun c_105 => ?_) (fun c_105 => ?_)
          · have h := h.1 c_105
            refine lv_lload hx hb d_D_guessAt_152 (lv_at hl 3 rfl) ?_
            rw [← hQe]
            exact gw_lret hx hb hr hlocks hP hK hS ⟨rfl, rfl, h⟩ d_D_guessAt_154
          · have h := h.2 c_105
            refine lv_lload hx hb d_D_guessAt_108 (lv_at hl 4 rfl) ?_
            refine lv_ldc2 (v := (2147483647 : Int64)) hx hb hown (htw _ mm_475) d_D_guessAt_110 ?_
            refine gl_gt (tgt := 152) hx hb d_D_guessAt_113 d_D_guessAt_114 (by decide) (fun c_114 => ?_) (fun c_114 => ?_)
            · have h := h.1 c_114
              refine lv_lload hx hb d_D_guessAt_152 (lv_at hl 3 rfl) ?_
              rw [← hQe]
              exact gw_lret hx hb hr hlocks hP hK hS ⟨rfl, rfl, h⟩ d_D_guessAt_154
            · have h := h.2 c_114
              refine lv_lload hx hb d_D_guessAt_117 (lv_at hl 3 rfl) ?_
              refine lv_lload hx hb d_D_guessAt_119 (lv_at hl 1 rfl) ?_
              refine lv_lmul hx hb d_D_guessAt_121 ?_
              refine lv_lload hx hb d_D_guessAt_122 (lv_at hl 4 rfl) ?_
              refine lv_bipush (v := (31 : Int32)) hx hb d_D_guessAt_124 (by decide) ?_
              refine lv_lshl (v := (j_lshl x13_7 (31 : Int32))) hx hb d_D_guessAt_126 rfl ?_
              refine lv_lload hx hb d_D_guessAt_127 (lv_at hl 2 rfl) ?_
              refine lv_lor hx hb d_D_guessAt_129 ?_
              refine gl_le (tgt := 152) hx hb d_D_guessAt_130 d_D_guessAt_131 (by decide) (fun c_131 => ?_) (fun c_131 => ?_)
              · have h := h.1 c_131
                refine lv_lload hx hb d_D_guessAt_152 (lv_at hl 3 rfl) ?_
                rw [← hQe]
                exact gw_lret hx hb hr hlocks hP hK hS ⟨rfl, rfl, h⟩ d_D_guessAt_154
              · have h := h.2 c_131
                refine lv_lload hx hb d_D_guessAt_134 (lv_at hl 3 rfl) ?_
                refine lv_lconst (v := (1 : Int64)) hx hb d_D_guessAt_136 (by decide) ?_
                refine lv_lsub hx hb d_D_guessAt_137 ?_
                refine lv_topl (fun x11_8 ex11_8 => ?_)
                have h := h x11_8 ex11_8
                refine lv_lstore (lv' := [(11, .long x11_8), (3, .long x3_1), (5, .long v0_2), (7, .long v0_3), (13, .long x13_7), (15, .int x15_7)]) hx hb d_D_guessAt_138 hl (by decide) rfl (fun ls hl => ?_)
                refine lv_lload hx hb d_D_guessAt_140 (lv_at hl 4 rfl) ?_
                refine lv_lload_n hx hb d_D_guessAt_142 rfl (lv_at hl 1 rfl) ?_
                refine lv_ladd hx hb d_D_guessAt_143 ?_
                refine lv_topl (fun x13_9 ex13_9 => ?_)
                have h := h x13_9 ex13_9
                refine lv_lstore (lv' := [(13, .long x13_9), (11, .long x11_8), (3, .long x3_1), (5, .long v0_2), (7, .long v0_3), (15, .int x15_7)]) hx hb d_D_guessAt_144 hl (by decide) rfl (fun ls hl => ?_)
                obtain ⟨x15_10, ex15_10⟩ : ∃ y : Int32, y = x15_7 + (1 : Int32) := ⟨_, rfl⟩
                have h := h x15_10 ex15_10
                refine lv_iinc (v := x15_10) (lv' := [(15, .int x15_10), (13, .long x13_9), (11, .long x11_8), (3, .long x3_1), (5, .long v0_2), (7, .long v0_3)]) hx hb d_D_guessAt_146 hl (k := 5) rfl (by rw [ex15_10]; rfl) (by decide) rfl (fun ls hl => ?_)
                refine lv_goto (tgt := 102) hx hb d_D_guessAt_149 (by decide) ?_
                exact ih_102 x11_8 x13_9 x15_10 _ _ _ (Nat.lt_of_lt_of_le h.2 (Nat.le_of_lt_succ hμ_102)) h.1 hP hS (lv_sub hl [3, 4, 5, 2, 1, 0] rfl)
      exact loop_102 (μ_102 x11_5 x13_6 (0 : Int32) + 1) x11_5 x13_6 (0 : Int32) _ _ _ (Nat.lt_succ_self _) h0_102 hP hS (lv_sub hl [8, 9, 4, 2, 1, 0] rfl)
    refine lv_icmp_le (tgt := 49) hx hb d_D_guessAt_32 (by decide) (fun c_32 => ?_) (fun c_32 => ?_)
    · have h := h.1 c_32
      refine lv_lconst (v := (0 : Int64)) hx hb d_D_guessAt_49 (by decide) ?_
      exact join_50 (0 : Int64) _ _ _ h hP hS (lv_sub hl [1, 2, 3, 4, 0] rfl)
    · have h := h.2 c_32
      refine lv_aload_n hx hb d_D_guessAt_35 rfl (lv_at hl 1 rfl) ?_
      refine gs_get (v := .ref (K 5)) hx hb htw i_D hown hK hP (gK_4 hΛ) rfl 2 (by decide) (htw _ mm_78) rfl d_D_guessAt_36 ?_
      refine lv_iload_n hx hb d_D_guessAt_39 rfl (lv_at hl 2 rfl) ?_
      refine lv_iload_n hx hb d_D_guessAt_40 rfl (lv_at hl 3 rfl) ?_
      refine lv_iadd hx hb d_D_guessAt_41 ?_
      refine lv_iconst (v := (2 : Int32)) hx hb d_D_guessAt_42 (by decide) ?_
      refine lv_isub hx hb d_D_guessAt_43 ?_
      obtain ⟨hin, h⟩ := h
      refine gs_ild hx hb hK hP (gK_5 hΛ) hin d_D_guessAt_44 ?_
      refine lv_i2l (v := ((A (K 5) ((p1 + p2) - (2 : Int32)).toNatClampNeg).toInt64)) hx hb d_D_guessAt_45 (by rfl) ?_
      refine lv_goto (tgt := 50) hx hb d_D_guessAt_46 (by decide) ?_
      exact join_50 ((A (K 5) ((p1 + p2) - (2 : Int32)).toNatClampNeg).toInt64) _ _ _ h hP hS (lv_sub hl [1, 2, 3, 4, 0] rfl)
  refine lv_icmp_le (tgt := 27) hx hb d_D_guessAt_12 (by decide) (fun c_12 => ?_) (fun c_12 => ?_)
  · have h := h.1 c_12
    refine lv_lconst (v := (0 : Int64)) hx hb d_D_guessAt_27 (by decide) ?_
    exact join_28 (0 : Int64) _ _ _ h hP hS (lv_sub hl [1, 2, 3, 0] rfl)
  · have h := h.2 c_12
    refine lv_aload_n hx hb d_D_guessAt_15 rfl (lv_at hl 1 rfl) ?_
    refine gs_get (v := .ref (K 6)) hx hb htw i_D hown hK hP (gK_4 hΛ) rfl 3 (by decide) (htw _ mm_79) rfl d_D_guessAt_16 ?_
    refine lv_iload_n hx hb d_D_guessAt_19 rfl (lv_at hl 3 rfl) ?_
    refine lv_iconst (v := (2 : Int32)) hx hb d_D_guessAt_20 (by decide) ?_
    refine lv_isub hx hb d_D_guessAt_21 ?_
    obtain ⟨hin, h⟩ := h
    refine gs_ild hx hb hK hP (gK_6 hΛ) hin d_D_guessAt_22 ?_
    refine lv_i2l (v := ((A (K 6) (p2 - (2 : Int32)).toNatClampNeg).toInt64)) hx hb d_D_guessAt_23 (by rfl) ?_
    refine lv_goto (tgt := 28) hx hb d_D_guessAt_24 (by decide) ?_
    exact join_28 ((A (K 6) (p2 - (2 : Int32)).toNatClampNeg).toInt64) _ _ _ h hP hS (lv_sub hl [1, 2, 3, 0] rfl)
abbrev rm_D_takeAway : Room := { frames := 0, cells := 0, slots := 0, locals := 0 }
set_option maxHeartbeats 4000000 in
set_option maxRecDepth 100000 in
theorem w_D_takeAway (hlo : gs_D Λ) (K : Nat → Nat) (p1 : Int64) (p2 : Int32) (p3 : Int32) (hΛ : gK cI cB cW Λ K) (F A : gm_M) (post : Int32 → gm_M → Prop) (h : vc_D_takeAway K p1 p2 p3 F A post) : Met l y_D_takeAway (.code y_D_takeAway b_D_takeAway 10 (some .boolean) :: gw_WS) rm_D_takeAway (va_Pc [.ref (K 4), .long p1, .int p2, .int p3] (gw_P D cI cB cJ cW Λ L F A)) (gw_Qi D cI cB cJ cW Λ L (fun r F2 A2 => F = F2 ∧ post r A2)) 0 0 (gw_A Λ) := by
  refine Met.ofW (cc := b_D_takeAway) (maxL := 10) (ret := (some .boolean)) (by decide) rfl ?_
  intro p e s m args below meth c s₁ B hml hv
  obtain ⟨hargs, hP, hK⟩ := hv
  have hx := B.exec
  have hb := B.bytes
  have hr := B.returns
  have hlocks := B.notSynchronized
  have htw : ∀ w ∈ gw_WS, w.before args s = true := fun w h9 => atoms_spec (ws := .code y_D_takeAway b_D_takeAway 10 (some .boolean) :: gw_WS) B.pre w (List.mem_cons_of_mem _ h9)
  have hown : s.vm.findClass R_D = some m.cls := findClass_of_methodNamed B.named
  have hS : va_S (gw_A Λ) s.heap s.heap [] := va_S.rf
  refine W.eq (g2 := entryFrame m ([.ref (K 4), .long p1, .int p2, .int p3] : List Value).toArray 10) (by rw [hargs]) ?_
  have hl := lv_entry ([.ref (K 4), .long p1, .int p2, .int p3]) (n := 10) (Nat.le_of_ble_eq_true rfl)
  rw [lg_entry_eq]
  generalize (lg_sl ([.ref (K 4), .long p1, .int p2, .int p3]) ++ List.replicate (10 - (lg_sl ([.ref (K 4), .long p1, .int p2, .int p3])).length) Slot.unset).toArray = ls at hl ⊢
  have hl : lv_has ls 10 [(0, .ref (K 4)), (1, .long p1), (3, .int p2), (4, .int p3)] := hl
  generalize hQe : MQ below (gw_Qi D cI cB cJ cW Λ L (fun r F2 A2 => F = F2 ∧ post r A2)) args s 0 0 (gw_A Λ) = Q
  unfold vc_D_takeAway at h
  refine lv_lconst (v := (0 : Int64)) hx hb d_D_takeAway_0 (by decide) ?_
  refine lv_lstore (lv' := [(5, .long (0 : Int64)), (0, .ref (K 4)), (1, .long p1), (3, .int p2), (4, .int p3)]) hx hb d_D_takeAway_1 hl (by decide) rfl (fun ls hl => ?_)
  refine lv_iconst (v := (0 : Int32)) hx hb d_D_takeAway_3 (by decide) ?_
  refine lv_istore (lv' := [(7, .int (0 : Int32)), (5, .long (0 : Int64)), (0, .ref (K 4)), (1, .long p1), (3, .int p2), (4, .int p3)]) hx hb d_D_takeAway_4 hl (by decide) rfl (fun ls hl => ?_)
  obtain ⟨I_6, μ_6, h0_6, hs_6⟩ := h
  have loop_6 : ∀ (N : Nat) (x5_1 : Int64) (x7_1 : Int32) (A_1 : gm_M) (H : Heap) (locs : List Loc) (ls : Array Slot), μ_6 x5_1 x7_1 A_1 < N → I_6 x5_1 x7_1 A_1 → va_P D gcls (gs_ws Λ F A_1 L) H → va_S (gw_A Λ) s.heap H locs → lv_has ls 10 [(0, .ref (K 4)), (1, .long p1), (3, .int p2), (4, .int p3), (5, .long x5_1), (7, .int x7_1)] → W p l e rm_D_takeAway s m args below meth c H locs 0 0 Q (F0 m 6 ls []) := by
    intro N
    induction N with
    | zero => intro x5_1 x7_1 A_1 H locs ls hμ; exact absurd hμ (Nat.not_lt_zero _)
    | succ N ih_6 =>
      intro x5_1 x7_1 A_1 H locs ls hμ_6 hI hP hS hl
      have h := hs_6 x5_1 x7_1 A_1 hI
      refine lv_iload hx hb d_D_takeAway_6 (lv_at hl 5 rfl) ?_
      refine lv_iload hx hb d_D_takeAway_8 (lv_at hl 3 rfl) ?_
      refine lv_icmp_ge (tgt := 69) hx hb d_D_takeAway_10 (by decide) (fun c_10 => ?_) (fun c_10 => ?_)
      · have h := h.1 c_10
        refine lv_aload_n hx hb d_D_takeAway_69 rfl (lv_at hl 0 rfl) ?_
        refine gs_get (v := .ref (K 5)) hx hb htw i_D hown hK hP (gK_4 hΛ) rfl 2 (by decide) (htw _ mm_78) rfl d_D_takeAway_70 ?_
        refine lv_iload_n hx hb d_D_takeAway_73 rfl (lv_at hl 2 rfl) ?_
        refine lv_iload hx hb d_D_takeAway_74 (lv_at hl 3 rfl) ?_
        refine lv_iadd hx hb d_D_takeAway_76 ?_
        obtain ⟨hin, h⟩ := h
        refine gs_ild hx hb hK hP (gK_5 hΛ) hin d_D_takeAway_77 ?_
        refine lv_i2l (v := ((A_1 (K 5) (p2 + p3).toNatClampNeg).toInt64)) hx hb d_D_takeAway_78 (by rfl) ?_
        refine lv_lload hx hb d_D_takeAway_79 (lv_at hl 4 rfl) ?_
        refine lv_lsub hx hb d_D_takeAway_81 ?_
        refine lv_topl (fun x7_2 ex7_2 => ?_)
        have h := h x7_2 ex7_2
        refine lv_lstore (lv' := [(7, .long x7_2), (0, .ref (K 4)), (1, .long p1), (3, .int p2), (4, .int p3), (5, .long x5_1)]) hx hb d_D_takeAway_82 hl (by decide) rfl (fun ls hl => ?_)
        refine lv_aload_n hx hb d_D_takeAway_84 rfl (lv_at hl 1 rfl) ?_
        refine gs_get (v := .ref (K 5)) hx hb htw i_D hown hK hP (gK_4 hΛ) rfl 2 (by decide) (htw _ mm_78) rfl d_D_takeAway_85 ?_
        refine lv_iload_n hx hb d_D_takeAway_88 rfl (lv_at hl 3 rfl) ?_
        refine lv_iload hx hb d_D_takeAway_89 (lv_at hl 4 rfl) ?_
        refine lv_iadd hx hb d_D_takeAway_91 ?_
        refine lv_lload hx hb d_D_takeAway_92 (lv_at hl 0 rfl) ?_
        refine lv_ldc2 (v := (2147483647 : Int64)) hx hb hown (htw _ mm_475) d_D_takeAway_94 ?_
        refine lv_land hx hb d_D_takeAway_97 ?_
        refine lv_l2i (v := ((x7_2 &&& (2147483647 : Int64)).toInt32)) hx hb d_D_takeAway_98 (by rfl) ?_
        obtain ⟨hin, h⟩ := h
        refine gs_ist hx hb hK hlo hP hS (gK_5 hΛ) hin d_D_takeAway_99 (fun A_3 eA_3 H locs hP hS => ?_)
        have h := h A_3 eA_3
        refine lv_lload hx hb d_D_takeAway_100 (lv_at hl 0 rfl) ?_
        refine lv_lconst (v := (0 : Int64)) hx hb d_D_takeAway_102 (by decide) ?_
        refine gl_ge (tgt := 111) hx hb d_D_takeAway_103 d_D_takeAway_104 (by decide) (fun c_104 => ?_) (fun c_104 => ?_)
        · have h := h.1 c_104
          refine lv_iconst (v := (0 : Int32)) hx hb d_D_takeAway_111 (by decide) ?_
          rw [← hQe]
          exact gw_zret hx hb hr hlocks hP hK hS (by decide) ⟨rfl, h⟩ d_D_takeAway_112
        · have h := h.2 c_104
          refine lv_iconst (v := (1 : Int32)) hx hb d_D_takeAway_107 (by decide) ?_
          refine lv_goto (tgt := 112) hx hb d_D_takeAway_108 (by decide) ?_
          rw [← hQe]
          exact gw_zret hx hb hr hlocks hP hK hS (by decide) ⟨rfl, h⟩ d_D_takeAway_112
      · have h := h.2 c_10
        refine lv_aload_n hx hb d_D_takeAway_13 rfl (lv_at hl 0 rfl) ?_
        refine gs_get (v := .ref (K 5)) hx hb htw i_D hown hK hP (gK_4 hΛ) rfl 2 (by decide) (htw _ mm_78) rfl d_D_takeAway_14 ?_
        refine lv_iload_n hx hb d_D_takeAway_17 rfl (lv_at hl 2 rfl) ?_
        refine lv_iload hx hb d_D_takeAway_18 (lv_at hl 5 rfl) ?_
        refine lv_iadd hx hb d_D_takeAway_20 ?_
        obtain ⟨hin, h⟩ := h
        refine gs_ild hx hb hK hP (gK_5 hΛ) hin d_D_takeAway_21 ?_
        refine lv_i2l (v := ((A_1 (K 5) (p2 + x7_1).toNatClampNeg).toInt64)) hx hb d_D_takeAway_22 (by rfl) ?_
        refine lv_lload_n hx hb d_D_takeAway_23 rfl (lv_at hl 1 rfl) ?_
        refine lv_aload_n hx hb d_D_takeAway_24 rfl (lv_at hl 0 rfl) ?_
        refine gs_get (v := .ref (K 6)) hx hb htw i_D hown hK hP (gK_4 hΛ) rfl 3 (by decide) (htw _ mm_79) rfl d_D_takeAway_25 ?_
        refine lv_iload hx hb d_D_takeAway_28 (lv_at hl 5 rfl) ?_
        obtain ⟨hin, h⟩ := h
        refine gs_ild hx hb hK hP (gK_6 hΛ) hin d_D_takeAway_30 ?_
        refine lv_i2l (v := ((A_1 (K 6) x7_1.toNatClampNeg).toInt64)) hx hb d_D_takeAway_31 (by rfl) ?_
        refine lv_lmul hx hb d_D_takeAway_32 ?_
        refine lv_lsub hx hb d_D_takeAway_33 ?_
        refine lv_lload hx hb d_D_takeAway_34 (lv_at hl 4 rfl) ?_
        refine lv_lsub hx hb d_D_takeAway_36 ?_
        refine lv_topl (fun x8_4 ex8_4 => ?_)
        have h := h x8_4 ex8_4
        refine lv_lstore (lv' := [(8, .long x8_4), (0, .ref (K 4)), (1, .long p1), (3, .int p2), (4, .int p3), (5, .long x5_1), (7, .int x7_1)]) hx hb d_D_takeAway_37 hl (by decide) rfl (fun ls hl => ?_)
        refine lv_aload_n hx hb d_D_takeAway_39 rfl (lv_at hl 1 rfl) ?_
        refine gs_get (v := .ref (K 5)) hx hb htw i_D hown hK hP (gK_4 hΛ) rfl 2 (by decide) (htw _ mm_78) rfl d_D_takeAway_40 ?_
        refine lv_iload_n hx hb d_D_takeAway_43 rfl (lv_at hl 3 rfl) ?_
        refine lv_iload hx hb d_D_takeAway_44 (lv_at hl 6 rfl) ?_
        refine lv_iadd hx hb d_D_takeAway_46 ?_
        refine lv_lload hx hb d_D_takeAway_47 (lv_at hl 0 rfl) ?_
        refine lv_ldc2 (v := (2147483647 : Int64)) hx hb hown (htw _ mm_475) d_D_takeAway_49 ?_
        refine lv_land hx hb d_D_takeAway_52 ?_
        refine lv_l2i (v := ((x8_4 &&& (2147483647 : Int64)).toInt32)) hx hb d_D_takeAway_53 (by rfl) ?_
        obtain ⟨hin, h⟩ := h
        refine gs_ist hx hb hK hlo hP hS (gK_5 hΛ) hin d_D_takeAway_54 (fun A_5 eA_5 H locs hP hS => ?_)
        have h := h A_5 eA_5
        refine lv_lload hx hb d_D_takeAway_55 (lv_at hl 0 rfl) ?_
        refine lv_bipush (v := (31 : Int32)) hx hb d_D_takeAway_57 (by decide) ?_
        refine lv_lshr (v := (j_lshr x8_4 (31 : Int32))) hx hb d_D_takeAway_59 rfl ?_
        refine lv_lneg hx hb d_D_takeAway_60 ?_
        refine lv_topl (fun x5_6 ex5_6 => ?_)
        have h := h x5_6 ex5_6
        refine lv_lstore (lv' := [(5, .long x5_6), (8, .long x8_4), (0, .ref (K 4)), (1, .long p1), (3, .int p2), (4, .int p3), (7, .int x7_1)]) hx hb d_D_takeAway_61 hl (by decide) rfl (fun ls hl => ?_)
        obtain ⟨x7_7, ex7_7⟩ : ∃ y : Int32, y = x7_1 + (1 : Int32) := ⟨_, rfl⟩
        have h := h x7_7 ex7_7
        refine lv_iinc (v := x7_7) (lv' := [(7, .int x7_7), (5, .long x5_6), (8, .long x8_4), (0, .ref (K 4)), (1, .long p1), (3, .int p2), (4, .int p3)]) hx hb d_D_takeAway_63 hl (k := 6) rfl (by rw [ex7_7]; rfl) (by decide) rfl (fun ls hl => ?_)
        refine lv_goto (tgt := 6) hx hb d_D_takeAway_66 (by decide) ?_
        exact ih_6 x5_6 x7_7 A_5 _ _ _ (Nat.lt_of_lt_of_le h.2 (Nat.le_of_lt_succ hμ_6)) h.1 hP hS (lv_sub hl [3, 4, 5, 6, 1, 0] rfl)
  exact loop_6 (μ_6 (0 : Int64) (0 : Int32) A + 1) (0 : Int64) (0 : Int32) A _ _ _ (Nat.lt_succ_self _) h0_6 hP hS (lv_sub hl [2, 3, 4, 5, 1, 0] rfl)
abbrev rm_D_giveBack : Room := { frames := 0, cells := 0, slots := 0, locals := 0 }
set_option maxHeartbeats 4000000 in
set_option maxRecDepth 100000 in
theorem w_D_giveBack (hlo : gs_D Λ) (K : Nat → Nat) (p1 : Int32) (p2 : Int32) (hΛ : gK cI cB cW Λ K) (F A : gm_M) (post : gm_M → Prop) (h : vc_D_giveBack K p1 p2 F A post) : Met l y_D_giveBack (.code y_D_giveBack b_D_giveBack 8 none :: gw_WS) rm_D_giveBack (va_Pc [.ref (K 4), .int p1, .int p2] (gw_P D cI cB cJ cW Λ L F A)) (gw_Qv D cI cB cJ cW Λ L (fun F2 A2 => F = F2 ∧ post A2)) 0 0 (gw_A Λ) := by
  refine Met.ofW (cc := b_D_giveBack) (maxL := 8) (ret := none) (by decide) rfl ?_
  intro p e s m args below meth c s₁ B hml hv
  obtain ⟨hargs, hP, hK⟩ := hv
  have hx := B.exec
  have hb := B.bytes
  have hr := B.returns
  have hlocks := B.notSynchronized
  have htw : ∀ w ∈ gw_WS, w.before args s = true := fun w h9 => atoms_spec (ws := .code y_D_giveBack b_D_giveBack 8 none :: gw_WS) B.pre w (List.mem_cons_of_mem _ h9)
  have hown : s.vm.findClass R_D = some m.cls := findClass_of_methodNamed B.named
  have hS : va_S (gw_A Λ) s.heap s.heap [] := va_S.rf
  refine W.eq (g2 := entryFrame m ([.ref (K 4), .int p1, .int p2] : List Value).toArray 8) (by rw [hargs]) ?_
  have hl := lv_entry ([.ref (K 4), .int p1, .int p2]) (n := 8) (Nat.le_of_ble_eq_true rfl)
  rw [lg_entry_eq]
  generalize (lg_sl ([.ref (K 4), .int p1, .int p2]) ++ List.replicate (8 - (lg_sl ([.ref (K 4), .int p1, .int p2])).length) Slot.unset).toArray = ls at hl ⊢
  have hl : lv_has ls 8 [(0, .ref (K 4)), (1, .int p1), (2, .int p2)] := hl
  generalize hQe : MQ below (gw_Qv D cI cB cJ cW Λ L (fun F2 A2 => F = F2 ∧ post A2)) args s 0 0 (gw_A Λ) = Q
  unfold vc_D_giveBack at h
  refine lv_lconst (v := (0 : Int64)) hx hb d_D_giveBack_0 (by decide) ?_
  refine lv_lstore_n (lv' := [(3, .long (0 : Int64)), (0, .ref (K 4)), (1, .int p1), (2, .int p2)]) hx hb d_D_giveBack_1 rfl hl (by decide) rfl (fun ls hl => ?_)
  refine lv_iconst (v := (0 : Int32)) hx hb d_D_giveBack_2 (by decide) ?_
  refine lv_istore (lv' := [(5, .int (0 : Int32)), (3, .long (0 : Int64)), (0, .ref (K 4)), (1, .int p1), (2, .int p2)]) hx hb d_D_giveBack_3 hl (by decide) rfl (fun ls hl => ?_)
  obtain ⟨I_5, μ_5, h0_5, hs_5⟩ := h
  have loop_5 : ∀ (N : Nat) (x3_1 : Int64) (x5_1 : Int32) (A_1 : gm_M) (H : Heap) (locs : List Loc) (ls : Array Slot), μ_5 x3_1 x5_1 A_1 < N → I_5 x3_1 x5_1 A_1 → va_P D gcls (gs_ws Λ F A_1 L) H → va_S (gw_A Λ) s.heap H locs → lv_has ls 8 [(0, .ref (K 4)), (1, .int p1), (2, .int p2), (3, .long x3_1), (5, .int x5_1)] → W p l e rm_D_giveBack s m args below meth c H locs 0 0 Q (F0 m 5 ls []) := by
    intro N
    induction N with
    | zero => intro x3_1 x5_1 A_1 H locs ls hμ; exact absurd hμ (Nat.not_lt_zero _)
    | succ N ih_5 =>
      intro x3_1 x5_1 A_1 H locs ls hμ_5 hI hP hS hl
      have h := hs_5 x3_1 x5_1 A_1 hI
      refine lv_iload hx hb d_D_giveBack_5 (lv_at hl 4 rfl) ?_
      refine lv_iload_n hx hb d_D_giveBack_7 rfl (lv_at hl 2 rfl) ?_
      refine lv_icmp_ge (tgt := 62) hx hb d_D_giveBack_8 (by decide) (fun c_8 => ?_) (fun c_8 => ?_)
      · have h := h.1 c_8
        refine lv_aload_n hx hb d_D_giveBack_62 rfl (lv_at hl 0 rfl) ?_
        refine gs_get (v := .ref (K 5)) hx hb htw i_D hown hK hP (gK_4 hΛ) rfl 2 (by decide) (htw _ mm_78) rfl d_D_giveBack_63 ?_
        refine lv_iload_n hx hb d_D_giveBack_66 rfl (lv_at hl 1 rfl) ?_
        refine lv_iload_n hx hb d_D_giveBack_67 rfl (lv_at hl 2 rfl) ?_
        refine lv_iadd hx hb d_D_giveBack_68 ?_
        refine lv_aload_n hx hb d_D_giveBack_69 rfl (lv_at hl 0 rfl) ?_
        refine gs_get (v := .ref (K 5)) hx hb htw i_D hown hK hP (gK_4 hΛ) rfl 2 (by decide) (htw _ mm_78) rfl d_D_giveBack_70 ?_
        refine lv_iload_n hx hb d_D_giveBack_73 rfl (lv_at hl 1 rfl) ?_
        refine lv_iload_n hx hb d_D_giveBack_74 rfl (lv_at hl 2 rfl) ?_
        refine lv_iadd hx hb d_D_giveBack_75 ?_
        obtain ⟨hin, h⟩ := h
        refine gs_ild hx hb hK hP (gK_5 hΛ) hin d_D_giveBack_76 ?_
        refine lv_i2l (v := ((A_1 (K 5) (p1 + p2).toNatClampNeg).toInt64)) hx hb d_D_giveBack_77 (by rfl) ?_
        refine lv_lload_n hx hb d_D_giveBack_78 rfl (lv_at hl 3 rfl) ?_
        refine lv_ladd hx hb d_D_giveBack_79 ?_
        refine lv_ldc2 (v := (2147483647 : Int64)) hx hb hown (htw _ mm_475) d_D_giveBack_80 ?_
        refine lv_land hx hb d_D_giveBack_83 ?_
        refine lv_l2i (v := (((((A_1 (K 5) (p1 + p2).toNatClampNeg).toInt64) + x3_1) &&& (2147483647 : Int64)).toInt32)) hx hb d_D_giveBack_84 (by rfl) ?_
        obtain ⟨hin, h⟩ := h
        refine gs_ist hx hb hK hlo hP hS (gK_5 hΛ) hin d_D_giveBack_85 (fun A_2 eA_2 H locs hP hS => ?_)
        have h := h A_2 eA_2
        rw [← hQe]
        exact gw_vret hx hb hr hlocks hP hK hS ⟨rfl, h⟩ d_D_giveBack_86
      · have h := h.2 c_8
        refine lv_aload_n hx hb d_D_giveBack_11 rfl (lv_at hl 0 rfl) ?_
        refine gs_get (v := .ref (K 5)) hx hb htw i_D hown hK hP (gK_4 hΛ) rfl 2 (by decide) (htw _ mm_78) rfl d_D_giveBack_12 ?_
        refine lv_iload_n hx hb d_D_giveBack_15 rfl (lv_at hl 1 rfl) ?_
        refine lv_iload hx hb d_D_giveBack_16 (lv_at hl 4 rfl) ?_
        refine lv_iadd hx hb d_D_giveBack_18 ?_
        obtain ⟨hin, h⟩ := h
        refine gs_ild hx hb hK hP (gK_5 hΛ) hin d_D_giveBack_19 ?_
        refine lv_i2l (v := ((A_1 (K 5) (p1 + x5_1).toNatClampNeg).toInt64)) hx hb d_D_giveBack_20 (by rfl) ?_
        refine lv_aload_n hx hb d_D_giveBack_21 rfl (lv_at hl 0 rfl) ?_
        refine gs_get (v := .ref (K 6)) hx hb htw i_D hown hK hP (gK_4 hΛ) rfl 3 (by decide) (htw _ mm_79) rfl d_D_giveBack_22 ?_
        refine lv_iload hx hb d_D_giveBack_25 (lv_at hl 4 rfl) ?_
        obtain ⟨hin, h⟩ := h
        refine gs_ild hx hb hK hP (gK_6 hΛ) hin d_D_giveBack_27 ?_
        refine lv_i2l (v := ((A_1 (K 6) x5_1.toNatClampNeg).toInt64)) hx hb d_D_giveBack_28 (by rfl) ?_
        refine lv_ladd hx hb d_D_giveBack_29 ?_
        refine lv_lload_n hx hb d_D_giveBack_30 rfl (lv_at hl 3 rfl) ?_
        refine lv_ladd hx hb d_D_giveBack_31 ?_
        refine lv_topl (fun x6_3 ex6_3 => ?_)
        have h := h x6_3 ex6_3
        refine lv_lstore (lv' := [(6, .long x6_3), (0, .ref (K 4)), (1, .int p1), (2, .int p2), (3, .long x3_1), (5, .int x5_1)]) hx hb d_D_giveBack_32 hl (by decide) rfl (fun ls hl => ?_)
        refine lv_aload_n hx hb d_D_giveBack_34 rfl (lv_at hl 1 rfl) ?_
        refine gs_get (v := .ref (K 5)) hx hb htw i_D hown hK hP (gK_4 hΛ) rfl 2 (by decide) (htw _ mm_78) rfl d_D_giveBack_35 ?_
        refine lv_iload_n hx hb d_D_giveBack_38 rfl (lv_at hl 2 rfl) ?_
        refine lv_iload hx hb d_D_giveBack_39 (lv_at hl 5 rfl) ?_
        refine lv_iadd hx hb d_D_giveBack_41 ?_
        refine lv_lload hx hb d_D_giveBack_42 (lv_at hl 0 rfl) ?_
        refine lv_ldc2 (v := (2147483647 : Int64)) hx hb hown (htw _ mm_475) d_D_giveBack_44 ?_
        refine lv_land hx hb d_D_giveBack_47 ?_
        refine lv_l2i (v := ((x6_3 &&& (2147483647 : Int64)).toInt32)) hx hb d_D_giveBack_48 (by rfl) ?_
        obtain ⟨hin, h⟩ := h
        refine gs_ist hx hb hK hlo hP hS (gK_5 hΛ) hin d_D_giveBack_49 (fun A_4 eA_4 H locs hP hS => ?_)
        have h := h A_4 eA_4
        refine lv_lload hx hb d_D_giveBack_50 (lv_at hl 0 rfl) ?_
        refine lv_bipush (v := (31 : Int32)) hx hb d_D_giveBack_52 (by decide) ?_
        refine lv_lushr (v := (j_lushr x6_3 (31 : Int32))) hx hb d_D_giveBack_54 rfl ?_
        refine lv_topl (fun x3_5 ex3_5 => ?_)
        have h := h x3_5 ex3_5
        refine lv_lstore_n (lv' := [(3, .long x3_5), (6, .long x6_3), (0, .ref (K 4)), (1, .int p1), (2, .int p2), (5, .int x5_1)]) hx hb d_D_giveBack_55 rfl hl (by decide) rfl (fun ls hl => ?_)
        obtain ⟨x5_6, ex5_6⟩ : ∃ y : Int32, y = x5_1 + (1 : Int32) := ⟨_, rfl⟩
        have h := h x5_6 ex5_6
        refine lv_iinc (v := x5_6) (lv' := [(5, .int x5_6), (3, .long x3_5), (6, .long x6_3), (0, .ref (K 4)), (1, .int p1), (2, .int p2)]) hx hb d_D_giveBack_56 hl (k := 5) rfl (by rw [ex5_6]; rfl) (by decide) rfl (fun ls hl => ?_)
        refine lv_goto (tgt := 5) hx hb d_D_giveBack_59 (by decide) ?_
        exact ih_5 x3_5 x5_6 A_4 _ _ _ (Nat.lt_of_lt_of_le h.2 (Nat.le_of_lt_succ hμ_5)) h.1 hP hS (lv_sub hl [3, 4, 5, 1, 0] rfl)
  exact loop_5 (μ_5 (0 : Int64) (0 : Int32) A + 1) (0 : Int64) (0 : Int32) A _ _ _ (Nat.lt_succ_self _) h0_5 hP hS (lv_sub hl [2, 3, 4, 1, 0] rfl)
abbrev rm_D_digitAt : Room := { frames := 2, cells := 0, slots := 0, locals := 95 }
set_option maxHeartbeats 4000000 in
set_option maxRecDepth 100000 in
theorem w_D_digitAt (hlo : gs_D Λ) (K : Nat → Nat) (p1 : Int32) (p2 : Int32) (hΛ : gK cI cB cW Λ K) (F A : gm_M) (post : Int32 → gm_M → Prop) (h : vc_D_digitAt K p1 p2 F A post) : Met l y_D_digitAt (.code y_D_digitAt b_D_digitAt 5 (some .int) :: gw_WS) rm_D_digitAt (va_Pc [.ref (K 4), .int p1, .int p2] (gw_P D cI cB cJ cW Λ L F A)) (gw_Qi D cI cB cJ cW Λ L (fun r F2 A2 => F = F2 ∧ post r A2)) 0 0 (gw_A Λ) := by
  refine Met.ofW (cc := b_D_digitAt) (maxL := 5) (ret := (some .int)) (by decide) rfl ?_
  intro p e s m args below meth c s₁ B hml hv
  obtain ⟨hargs, hP, hK⟩ := hv
  have hx := B.exec
  have hb := B.bytes
  have hr := B.returns
  have hlocks := B.notSynchronized
  have htw : ∀ w ∈ gw_WS, w.before args s = true := fun w h9 => atoms_spec (ws := .code y_D_digitAt b_D_digitAt 5 (some .int) :: gw_WS) B.pre w (List.mem_cons_of_mem _ h9)
  have hown : s.vm.findClass R_D = some m.cls := findClass_of_methodNamed B.named
  have hS : va_S (gw_A Λ) s.heap s.heap [] := va_S.rf
  refine W.eq (g2 := entryFrame m ([.ref (K 4), .int p1, .int p2] : List Value).toArray 5) (by rw [hargs]) ?_
  have hl := lv_entry ([.ref (K 4), .int p1, .int p2]) (n := 5) (Nat.le_of_ble_eq_true rfl)
  rw [lg_entry_eq]
  generalize (lg_sl ([.ref (K 4), .int p1, .int p2]) ++ List.replicate (5 - (lg_sl ([.ref (K 4), .int p1, .int p2])).length) Slot.unset).toArray = ls at hl ⊢
  have hl : lv_has ls 5 [(0, .ref (K 4)), (1, .int p1), (2, .int p2)] := hl
  generalize hQe : MQ below (gw_Qi D cI cB cJ cW Λ L (fun r F2 A2 => F = F2 ∧ post r A2)) args s 0 0 (gw_A Λ) = Q
  unfold vc_D_digitAt at h
  refine lv_aload_n hx hb d_D_digitAt_0 rfl (lv_at hl 0 rfl) ?_
  refine lv_iload_n hx hb d_D_digitAt_1 rfl (lv_at hl 1 rfl) ?_
  refine lv_iload_n hx hb d_D_digitAt_2 rfl (lv_at hl 2 rfl) ?_
  refine gw_gol (gw_runV (As := [.int p1, .int p2]) (rest := []) hx hb hml hown htw hK hP hS hl.1 (w_D_guessAt hlo K p1 p2 hΛ F A _ h) k_D_guessAt mm_471 ⟨Nat.le_of_ble_eq_true rfl, Nat.le_of_ble_eq_true rfl⟩ rfl rfl (gK_4 hΛ) rfl rfl rfl (Nat.le_of_ble_eq_true rfl) d_D_digitAt_3) hS (fun r_1 F_1 A_1 H locs hw hP hS => ?_)
  obtain ⟨rfl, hw⟩ := hw
  obtain ⟨rfl, hw⟩ := hw
  have h := hw
  refine lv_lstore_n (lv' := [(3, .long r_1), (0, .ref (K 4)), (1, .int p1), (2, .int p2)]) hx hb d_D_digitAt_6 rfl hl (by decide) rfl (fun ls hl => ?_)
  refine lv_aload_n hx hb d_D_digitAt_7 rfl (lv_at hl 1 rfl) ?_
  refine lv_lload_n hx hb d_D_digitAt_8 rfl (lv_at hl 0 rfl) ?_
  refine lv_iload_n hx hb d_D_digitAt_9 rfl (lv_at hl 2 rfl) ?_
  refine lv_iload_n hx hb d_D_digitAt_10 rfl (lv_at hl 3 rfl) ?_
  refine gw_goi (gw_runV (As := [.long r_1, .int p1, .int p2]) (rest := []) hx hb hml hown htw hK hP hS hl.1 (w_D_takeAway hlo K r_1 p1 p2 hΛ F A _ h) k_D_takeAway mm_479 ⟨Nat.le_of_ble_eq_true rfl, Nat.le_of_ble_eq_true rfl⟩ rfl rfl (gK_4 hΛ) rfl rfl rfl (Nat.le_of_ble_eq_true rfl) d_D_digitAt_11) hS (fun r_2 F_2 A_2 H locs hw hP hS => ?_)
  obtain ⟨rfl, hw⟩ := hw
  have h := hw
  refine lv_if_eq (tgt := 27) hx hb d_D_digitAt_14 (by decide) (fun c_14 => ?_) (fun c_14 => ?_)
  · have h := h.1 c_14
    refine lv_lload_n hx hb d_D_digitAt_27 rfl (lv_at hl 0 rfl) ?_
    refine lv_l2i (v := (r_1.toInt32)) hx hb d_D_digitAt_28 (by rfl) ?_
    rw [← hQe]
    exact gw_iret hx hb hr hlocks hP hK hS ⟨rfl, h⟩ d_D_digitAt_29
  · have h := h.2 c_14
    refine lv_aload_n hx hb d_D_digitAt_17 rfl (lv_at hl 1 rfl) ?_
    refine lv_iload_n hx hb d_D_digitAt_18 rfl (lv_at hl 2 rfl) ?_
    refine lv_iload_n hx hb d_D_digitAt_19 rfl (lv_at hl 3 rfl) ?_
    refine gw_gov (gw_runV (As := [.int p1, .int p2]) (rest := []) hx hb hml hown htw hK hP hS hl.1 (w_D_giveBack hlo K p1 p2 hΛ F A_2 _ h) k_D_giveBack mm_483 ⟨Nat.le_of_ble_eq_true rfl, Nat.le_of_ble_eq_true rfl⟩ rfl rfl (gK_4 hΛ) rfl rfl rfl (Nat.le_of_ble_eq_true rfl) d_D_digitAt_20) hS (fun F_3 A_3 H locs hw hP hS => ?_)
    obtain ⟨rfl, hw⟩ := hw
    have h := hw
    refine lv_lload_n hx hb d_D_digitAt_23 rfl (lv_at hl 0 rfl) ?_
    refine lv_lconst (v := (1 : Int64)) hx hb d_D_digitAt_24 (by decide) ?_
    refine lv_lsub hx hb d_D_digitAt_25 ?_
    refine lv_topl (fun x3_4 ex3_4 => ?_)
    have h := h x3_4 ex3_4
    refine lv_lstore_n (lv' := [(3, .long x3_4), (0, .ref (K 4)), (1, .int p1), (2, .int p2)]) hx hb d_D_digitAt_26 rfl hl (by decide) rfl (fun ls hl => ?_)
    refine lv_lload_n hx hb d_D_digitAt_27 rfl (lv_at hl 0 rfl) ?_
    refine lv_l2i (v := (x3_4.toInt32)) hx hb d_D_digitAt_28 (by rfl) ?_
    rw [← hQe]
    exact gw_iret hx hb hr hlocks hP hK hS ⟨rfl, h⟩ d_D_digitAt_29
abbrev rm_D_lowerRest : Room := { frames := 2, cells := 0, slots := 0, locals := 42 }
set_option maxHeartbeats 4000000 in
set_option maxRecDepth 100000 in
theorem w_D_lowerRest (hlo : gs_D Λ) (K : Nat → Nat) (p1 : Int32) (p2 : Int32) (hΛ : gK cI cB cW Λ K) (F A : gm_M) (post : gm_M → gm_M → Prop) (h : vc_D_lowerRest K p1 p2 F A post) : Met l y_D_lowerRest (.code y_D_lowerRest b_D_lowerRest 6 none :: gw_WS) rm_D_lowerRest (va_Pc [.ref (K 4), .int p1, .int p2] (gw_P D cI cB cJ cW Λ L F A)) (gw_Qv D cI cB cJ cW Λ L (fun F2 A2 => post F2 A2)) 0 0 (gw_A Λ) := by
  refine Met.ofW (cc := b_D_lowerRest) (maxL := 6) (ret := none) (by decide) rfl ?_
  intro p e s m args below meth c s₁ B hml hv
  obtain ⟨hargs, hP, hK⟩ := hv
  have hx := B.exec
  have hb := B.bytes
  have hr := B.returns
  have hlocks := B.notSynchronized
  have htw : ∀ w ∈ gw_WS, w.before args s = true := fun w h9 => atoms_spec (ws := .code y_D_lowerRest b_D_lowerRest 6 none :: gw_WS) B.pre w (List.mem_cons_of_mem _ h9)
  have hown : s.vm.findClass R_D = some m.cls := findClass_of_methodNamed B.named
  have hS : va_S (gw_A Λ) s.heap s.heap [] := va_S.rf
  refine W.eq (g2 := entryFrame m ([.ref (K 4), .int p1, .int p2] : List Value).toArray 6) (by rw [hargs]) ?_
  have hl := lv_entry ([.ref (K 4), .int p1, .int p2]) (n := 6) (Nat.le_of_ble_eq_true rfl)
  rw [lg_entry_eq]
  generalize (lg_sl ([.ref (K 4), .int p1, .int p2]) ++ List.replicate (6 - (lg_sl ([.ref (K 4), .int p1, .int p2])).length) Slot.unset).toArray = ls at hl ⊢
  have hl : lv_has ls 6 [(0, .ref (K 4)), (1, .int p1), (2, .int p2)] := hl
  generalize hQe : MQ below (gw_Qv D cI cB cJ cW Λ L (fun F2 A2 => post F2 A2)) args s 0 0 (gw_A Λ) = Q
  unfold vc_D_lowerRest at h
  refine lv_iconst (v := (0 : Int32)) hx hb d_D_lowerRest_0 (by decide) ?_
  refine lv_istore_n (lv' := [(3, .int (0 : Int32)), (0, .ref (K 4)), (1, .int p1), (2, .int p2)]) hx hb d_D_lowerRest_1 rfl hl (by decide) rfl (fun ls hl => ?_)
  obtain ⟨I_2, μ_2, h0_2, hs_2⟩ := h
  have loop_2 : ∀ (N : Nat) (x3_1 : Int32) (A_1 : gm_M) (H : Heap) (locs : List Loc) (ls : Array Slot), μ_2 x3_1 A_1 < N → I_2 x3_1 A_1 → va_P D gcls (gs_ws Λ F A_1 L) H → va_S (gw_A Λ) s.heap H locs → lv_has ls 6 [(0, .ref (K 4)), (1, .int p1), (2, .int p2), (3, .int x3_1)] → W p l e rm_D_lowerRest s m args below meth c H locs 0 0 Q (F0 m 2 ls []) := by
    intro N
    induction N with
    | zero => intro x3_1 A_1 H locs ls hμ; exact absurd hμ (Nat.not_lt_zero _)
    | succ N ih_2 =>
      intro x3_1 A_1 H locs ls hμ_2 hI hP hS hl
      have h := hs_2 x3_1 A_1 hI
      refine lv_iload_n hx hb d_D_lowerRest_2 rfl (lv_at hl 3 rfl) ?_
      refine lv_iload_n hx hb d_D_lowerRest_3 rfl (lv_at hl 1 rfl) ?_
      refine lv_icmp_ge (tgt := 53) hx hb d_D_lowerRest_4 (by decide) (fun c_4 => ?_) (fun c_4 => ?_)
      · have h := h.1 c_4
        refine lv_aload_n hx hb d_D_lowerRest_53 rfl (lv_at hl 0 rfl) ?_
        refine gs_get (v := .ref (K 41)) hx hb htw i_D hown hK hP (gK_4 hΛ) rfl 1 (by decide) (htw _ mm_76) rfl d_D_lowerRest_54 ?_
        refine lv_iconst (v := (0 : Int32)) hx hb d_D_lowerRest_57 (by decide) ?_
        refine gs_put (ty := .boolean) hx hb htw i_W tf_W tf_W_ok n_W hown hK hlo hP hS (gK_w17 hΛ).1 rfl 2 (by decide) rfl (htw _ mm_38) rfl (by decide +kernel) rfl rfl d_D_lowerRest_58 (fun F_2 eF_2 H locs hP hS => ?_)
        have h := h F_2 eF_2
        refine lv_aload_n hx hb d_D_lowerRest_61 rfl (lv_at hl 0 rfl) ?_
        refine gs_get (v := .ref (K 41)) hx hb htw i_D hown hK hP (gK_4 hΛ) rfl 1 (by decide) (htw _ mm_76) rfl d_D_lowerRest_62 ?_
        refine lv_iload_n hx hb d_D_lowerRest_65 rfl (lv_at hl 1 rfl) ?_
        refine gw_gov (gw_runV (As := [.int p1]) (rest := []) hx hb hml hown htw hK hP hS hl.1 (w_W_trim hlo (K 41) (K 42) (135) p1 ⟨(gK_w17 hΛ).1, (gK_w17 hΛ).2⟩ F_2 A_1 _ h) k_W_trim mm_487 ⟨Nat.le_of_ble_eq_true rfl, Nat.le_of_ble_eq_true rfl⟩ rfl rfl (gK_w17 hΛ).1 rfl rfl rfl (Nat.le_of_ble_eq_true rfl) d_D_lowerRest_66) hS (fun F_3 A_3 H locs hw hP hS => ?_)
        obtain ⟨rfl, hw⟩ := hw
        have h := hw
        rw [← hQe]
        exact gw_vret hx hb hr hlocks hP hK hS h d_D_lowerRest_69
      · have h := h.2 c_4
        refine lv_aload_n hx hb d_D_lowerRest_7 rfl (lv_at hl 0 rfl) ?_
        refine gs_get (v := .ref (K 5)) hx hb htw i_D hown hK hP (gK_4 hΛ) rfl 2 (by decide) (htw _ mm_78) rfl d_D_lowerRest_8 ?_
        refine lv_iload_n hx hb d_D_lowerRest_11 rfl (lv_at hl 3 rfl) ?_
        refine lv_iconst (v := (1 : Int32)) hx hb d_D_lowerRest_12 (by decide) ?_
        refine lv_iadd hx hb d_D_lowerRest_13 ?_
        obtain ⟨hin, h⟩ := h
        refine gs_ild hx hb hK hP (gK_5 hΛ) hin d_D_lowerRest_14 ?_
        refine lv_i2l (v := ((A_1 (K 5) (x3_1 + (1 : Int32)).toNatClampNeg).toInt64)) hx hb d_D_lowerRest_15 (by rfl) ?_
        refine lv_bipush (v := (31 : Int32)) hx hb d_D_lowerRest_16 (by decide) ?_
        refine lv_lshl (v := (j_lshl ((A_1 (K 5) (x3_1 + (1 : Int32)).toNatClampNeg).toInt64) (31 : Int32))) hx hb d_D_lowerRest_18 rfl ?_
        refine lv_aload_n hx hb d_D_lowerRest_19 rfl (lv_at hl 0 rfl) ?_
        refine gs_get (v := .ref (K 5)) hx hb htw i_D hown hK hP (gK_4 hΛ) rfl 2 (by decide) (htw _ mm_78) rfl d_D_lowerRest_20 ?_
        refine lv_iload_n hx hb d_D_lowerRest_23 rfl (lv_at hl 3 rfl) ?_
        obtain ⟨hin, h⟩ := h
        refine gs_ild hx hb hK hP (gK_5 hΛ) hin d_D_lowerRest_24 ?_
        refine lv_i2l (v := ((A_1 (K 5) x3_1.toNatClampNeg).toInt64)) hx hb d_D_lowerRest_25 (by rfl) ?_
        refine lv_lor hx hb d_D_lowerRest_26 ?_
        refine lv_topl (fun x4_4 ex4_4 => ?_)
        have h := h x4_4 ex4_4
        refine lv_lstore (lv' := [(4, .long x4_4), (0, .ref (K 4)), (1, .int p1), (2, .int p2), (3, .int x3_1)]) hx hb d_D_lowerRest_27 hl (by decide) rfl (fun ls hl => ?_)
        refine lv_aload_n hx hb d_D_lowerRest_29 rfl (lv_at hl 1 rfl) ?_
        refine gs_get (v := .ref (K 41)) hx hb htw i_D hown hK hP (gK_4 hΛ) rfl 1 (by decide) (htw _ mm_76) rfl d_D_lowerRest_30 ?_
        refine gs_get (v := .ref (K 42)) hx hb htw i_W hown hK hP (gK_w17 hΛ).1 rfl 0 (by decide) (htw _ mm_34) rfl d_D_lowerRest_33 ?_
        refine lv_iload_n hx hb d_D_lowerRest_36 rfl (lv_at hl 4 rfl) ?_
        refine lv_lload hx hb d_D_lowerRest_37 (lv_at hl 0 rfl) ?_
        refine lv_iload_n hx hb d_D_lowerRest_39 rfl (lv_at hl 3 rfl) ?_
        refine lv_lushr (v := (j_lushr x4_4 p2)) hx hb d_D_lowerRest_40 rfl ?_
        refine lv_ldc2 (v := (2147483647 : Int64)) hx hb hown (htw _ mm_475) d_D_lowerRest_41 ?_
        refine lv_land hx hb d_D_lowerRest_44 ?_
        refine lv_l2i (v := (((j_lushr x4_4 p2) &&& (2147483647 : Int64)).toInt32)) hx hb d_D_lowerRest_45 (by rfl) ?_
        obtain ⟨hin, h⟩ := h
        refine gs_ist hx hb hK hlo hP hS (gK_w17 hΛ).2 hin d_D_lowerRest_46 (fun A_5 eA_5 H locs hP hS => ?_)
        have h := h A_5 eA_5
        obtain ⟨x3_6, ex3_6⟩ : ∃ y : Int32, y = x3_1 + (1 : Int32) := ⟨_, rfl⟩
        have h := h x3_6 ex3_6
        refine lv_iinc (v := x3_6) (lv' := [(3, .int x3_6), (4, .long x4_4), (0, .ref (K 4)), (1, .int p1), (2, .int p2)]) hx hb d_D_lowerRest_47 hl (k := 4) rfl (by rw [ex3_6]; rfl) (by decide) rfl (fun ls hl => ?_)
        refine lv_goto (tgt := 2) hx hb d_D_lowerRest_50 (by decide) ?_
        exact ih_2 x3_6 A_5 _ _ _ (Nat.lt_of_lt_of_le h.2 (Nat.le_of_lt_succ hμ_2)) h.1 hP hS (lv_sub hl [2, 3, 4, 0] rfl)
  exact loop_2 (μ_2 (0 : Int32) A + 1) (0 : Int32) A _ _ _ (Nat.lt_succ_self _) h0_2 hP hS (lv_sub hl [1, 2, 3, 0] rfl)
abbrev rm_D_cut : Room := { frames := 3, cells := 0, slots := 0, locals := 119 }
set_option maxHeartbeats 4000000 in
set_option maxRecDepth 100000 in
theorem w_D_cut (hlo : gs_D Λ) (K : Nat → Nat) (a1 l1 n1 : Nat) (a2 l2 n2 : Nat) (hΛ : gK cI cB cW Λ K) (h1 : gW cI Λ a1 l1 n1) (h2 : gW cI Λ a2 l2 n2) (F A : gm_M) (post : gm_M → gm_M → Prop) (h : vc_D_cut K a1 l1 n1 a2 l2 n2 F A post) : Met l y_D_cut (.code y_D_cut b_D_cut 7 none :: gw_WS) rm_D_cut (va_Pc [.ref (K 4), .ref a1, .ref a2] (gw_P D cI cB cJ cW Λ L F A)) (gw_Qv D cI cB cJ cW Λ L (fun F2 A2 => post F2 A2)) 0 0 (gw_A Λ) := by
  refine Met.ofW (cc := b_D_cut) (maxL := 7) (ret := none) (by decide) rfl ?_
  intro p e s m args below meth c s₁ B hml hv
  obtain ⟨hargs, hP, hK⟩ := hv
  have hx := B.exec
  have hb := B.bytes
  have hr := B.returns
  have hlocks := B.notSynchronized
  have htw : ∀ w ∈ gw_WS, w.before args s = true := fun w h9 => atoms_spec (ws := .code y_D_cut b_D_cut 7 none :: gw_WS) B.pre w (List.mem_cons_of_mem _ h9)
  have hown : s.vm.findClass R_D = some m.cls := findClass_of_methodNamed B.named
  have hS : va_S (gw_A Λ) s.heap s.heap [] := va_S.rf
  refine W.eq (g2 := entryFrame m ([.ref (K 4), .ref a1, .ref a2] : List Value).toArray 7) (by rw [hargs]) ?_
  have hl := lv_entry ([.ref (K 4), .ref a1, .ref a2]) (n := 7) (Nat.le_of_ble_eq_true rfl)
  rw [lg_entry_eq]
  generalize (lg_sl ([.ref (K 4), .ref a1, .ref a2]) ++ List.replicate (7 - (lg_sl ([.ref (K 4), .ref a1, .ref a2])).length) Slot.unset).toArray = ls at hl ⊢
  have hl : lv_has ls 7 [(0, .ref (K 4)), (1, .ref a1), (2, .ref a2)] := hl
  generalize hQe : MQ below (gw_Qv D cI cB cJ cW Λ L (fun F2 A2 => post F2 A2)) args s 0 0 (gw_A Λ) = Q
  unfold vc_D_cut at h
  refine lv_aload_n hx hb d_D_cut_0 rfl (lv_at hl 0 rfl) ?_
  refine gs_get (v := .ref (K 39)) hx hb htw i_D hown hK hP (gK_4 hΛ) rfl 0 (by decide) (htw _ mm_74) rfl d_D_cut_1 ?_
  refine lv_lconst (v := (0 : Int64)) hx hb d_D_cut_4 (by decide) ?_
  refine gw_gov (gw_runV (As := [.long (0 : Int64)]) (rest := []) hx hb hml hown htw hK hP hS hl.1 (w_W_takeLong hlo (K 39) (K 40) (135) (0 : Int64) ⟨(gK_w16 hΛ).1, (gK_w16 hΛ).2⟩ F A _ h) k_W_takeLong mm_458 ⟨Nat.le_of_ble_eq_true rfl, Nat.le_of_ble_eq_true rfl⟩ rfl rfl (gK_w16 hΛ).1 rfl rfl rfl (Nat.le_of_ble_eq_true rfl) d_D_cut_5) hS (fun F_1 A_1 H locs hw hP hS => ?_)
  have h := hw
  refine lv_aload_n hx hb d_D_cut_8 rfl (lv_at hl 1 rfl) ?_
  refine lv_aload_n hx hb d_D_cut_9 rfl (lv_at hl 2 rfl) ?_
  refine gw_goi (gw_runV (As := [.ref a2]) (rest := []) hx hb hml hown htw hK hP hS hl.1 (w_W_orderOfSizes hlo a1 l1 n1 a2 l2 n2 ⟨h1.1, h1.2⟩ ⟨h2.1, h2.2⟩ F_1 A_1 _ h) k_W_orderOfSizes mm_459 ⟨Nat.le_of_ble_eq_true rfl, Nat.le_of_ble_eq_true rfl⟩ rfl rfl h1.1 rfl rfl rfl (Nat.le_of_ble_eq_true rfl) d_D_cut_10) hS (fun r_2 F_2 A_2 H locs hw hP hS => ?_)
  obtain ⟨rfl, hw⟩ := hw
  obtain ⟨rfl, hw⟩ := hw
  have h := hw
  refine lv_if_ge (tgt := 33) hx hb d_D_cut_13 (by decide) (fun c_13 => ?_) (fun c_13 => ?_)
  · have h := h.1 c_13
    refine lv_aload_n hx hb d_D_cut_33 rfl (lv_at hl 2 rfl) ?_
    refine gs_get (v := .int (F_1 a2 1)) hx hb htw i_W hown hK hP h2.1 rfl 1 (by decide) (htw _ mm_36) rfl d_D_cut_34 ?_
    refine lv_topi (fun x3_3 ex3_3 => ?_)
    have h := h x3_3 ex3_3
    refine lv_istore_n (lv' := [(3, .int x3_3), (0, .ref (K 4)), (1, .ref a1), (2, .ref a2)]) hx hb d_D_cut_37 rfl hl (by decide) rfl (fun ls hl => ?_)
    refine lv_aload_n hx hb d_D_cut_38 rfl (lv_at hl 2 rfl) ?_
    refine gs_get (v := .int (F_1 a1 1)) hx hb htw i_W hown hK hP h1.1 rfl 1 (by decide) (htw _ mm_36) rfl d_D_cut_39 ?_
    refine lv_iload_n hx hb d_D_cut_42 rfl (lv_at hl 0 rfl) ?_
    refine lv_isub hx hb d_D_cut_43 ?_
    refine lv_iconst (v := (1 : Int32)) hx hb d_D_cut_44 (by decide) ?_
    refine lv_iadd hx hb d_D_cut_45 ?_
    refine lv_topi (fun x4_4 ex4_4 => ?_)
    have h := h x4_4 ex4_4
    refine lv_istore (lv' := [(4, .int x4_4), (3, .int x3_3), (0, .ref (K 4)), (1, .ref a1), (2, .ref a2)]) hx hb d_D_cut_46 hl (by decide) rfl (fun ls hl => ?_)
    refine lv_bipush (v := (31 : Int32)) hx hb d_D_cut_48 (by decide) ?_
    refine lv_aload_n hx hb d_D_cut_50 rfl (lv_at hl 4 rfl) ?_
    refine gs_get (v := .ref l2) hx hb htw i_W hown hK hP h2.1 rfl 0 (by decide) (htw _ mm_34) rfl d_D_cut_51 ?_
    refine lv_iload_n hx hb d_D_cut_54 rfl (lv_at hl 1 rfl) ?_
    refine lv_iconst (v := (1 : Int32)) hx hb d_D_cut_55 (by decide) ?_
    refine lv_isub hx hb d_D_cut_56 ?_
    obtain ⟨hin, h⟩ := h
    refine gs_ild hx hb hK hP h2.2 hin d_D_cut_57 ?_
    refine gw_goi (gw_runS (As := [.int (A_1 l2 (x3_3 - (1 : Int32)).toNatClampNeg)]) (rest := [.int (31 : Int32)]) hx hb hml hown htw hK hP hS hl.1 (w_W_bitsIn hlo (A_1 l2 (x3_3 - (1 : Int32)).toNatClampNeg) F_1 A_1 _ h) k_W_bitsIn mm_462 ⟨Nat.le_of_ble_eq_true rfl, Nat.le_of_ble_eq_true rfl⟩ rfl rfl rfl rfl (Nat.le_of_ble_eq_true rfl) d_D_cut_58) hS (fun r_5 F_5 A_5 H locs hw hP hS => ?_)
    obtain ⟨rfl, hw⟩ := hw
    obtain ⟨rfl, hw⟩ := hw
    have h := hw
    refine lv_isub hx hb d_D_cut_61 ?_
    refine lv_topi (fun x5_6 ex5_6 => ?_)
    have h := h x5_6 ex5_6
    refine lv_istore (lv' := [(5, .int x5_6), (4, .int x4_4), (3, .int x3_3), (0, .ref (K 4)), (1, .ref a1), (2, .ref a2)]) hx hb d_D_cut_62 hl (by decide) rfl (fun ls hl => ?_)
    refine lv_aload_n hx hb d_D_cut_64 rfl (lv_at hl 5 rfl) ?_
    refine lv_aload_n hx hb d_D_cut_65 rfl (lv_at hl 3 rfl) ?_
    refine gs_get (v := .ref (K 6)) hx hb htw i_D hown hK hP (gK_4 hΛ) rfl 3 (by decide) (htw _ mm_79) rfl d_D_cut_66 ?_
    refine lv_iconst (v := (0 : Int32)) hx hb d_D_cut_69 (by decide) ?_
    refine lv_iload hx hb d_D_cut_70 (lv_at hl 0 rfl) ?_
    refine gw_gov (gw_runV (As := [.ref (K 6), .int (0 : Int32), .int x5_6]) (rest := []) hx hb hml hown htw hK hP hS hl.1 (w_W_raiseInto hlo a2 l2 n2 (K 6) (68) (0 : Int32) x5_6 ⟨h2.1, h2.2⟩ (gK_6 hΛ) F_1 A_1 _ h) k_W_raiseInto mm_463 ⟨Nat.le_of_ble_eq_true rfl, Nat.le_of_ble_eq_true rfl⟩ rfl rfl h2.1 rfl rfl rfl (Nat.le_of_ble_eq_true rfl) d_D_cut_72) hS (fun F_7 A_7 H locs hw hP hS => ?_)
    obtain ⟨rfl, hw⟩ := hw
    have h := hw
    refine lv_aload_n hx hb d_D_cut_75 rfl (lv_at hl 4 rfl) ?_
    refine lv_aload_n hx hb d_D_cut_76 rfl (lv_at hl 3 rfl) ?_
    refine gs_get (v := .ref (K 5)) hx hb htw i_D hown hK hP (gK_4 hΛ) rfl 2 (by decide) (htw _ mm_78) rfl d_D_cut_77 ?_
    refine lv_iconst (v := (0 : Int32)) hx hb d_D_cut_80 (by decide) ?_
    refine lv_iload hx hb d_D_cut_81 (lv_at hl 0 rfl) ?_
    refine gw_gov (gw_runV (As := [.ref (K 5), .int (0 : Int32), .int x5_6]) (rest := []) hx hb hml hown htw hK hP hS hl.1 (w_W_raiseInto hlo a1 l1 n1 (K 5) (135) (0 : Int32) x5_6 ⟨h1.1, h1.2⟩ (gK_5 hΛ) F_1 A_7 _ h) k_W_raiseInto mm_463 ⟨Nat.le_of_ble_eq_true rfl, Nat.le_of_ble_eq_true rfl⟩ rfl rfl h1.1 rfl rfl rfl (Nat.le_of_ble_eq_true rfl) d_D_cut_83) hS (fun F_8 A_8 H locs hw hP hS => ?_)
    obtain ⟨rfl, hw⟩ := hw
    have h := hw
    refine lv_iload hx hb d_D_cut_86 (lv_at hl 1 rfl) ?_
    refine lv_iconst (v := (1 : Int32)) hx hb d_D_cut_88 (by decide) ?_
    refine lv_isub hx hb d_D_cut_89 ?_
    refine lv_topi (fun x6_9 ex6_9 => ?_)
    have h := h x6_9 ex6_9
    refine lv_istore (lv' := [(6, .int x6_9), (5, .int x5_6), (4, .int x4_4), (3, .int x3_3), (0, .ref (K 4)), (1, .ref a1), (2, .ref a2)]) hx hb d_D_cut_90 hl (by decide) rfl (fun ls hl => ?_)
    obtain ⟨I_92, μ_92, h0_92, hs_92⟩ := h
    have loop_92 : ∀ (N : Nat) (x6_10 : Int32) (A_10 : gm_M) (H : Heap) (locs : List Loc) (ls : Array Slot), μ_92 x6_10 A_10 < N → I_92 x6_10 A_10 → va_P D gcls (gs_ws Λ F_1 A_10 L) H → va_S (gw_A Λ) s.heap H locs → lv_has ls 7 [(0, .ref (K 4)), (3, .int x3_3), (4, .int x4_4), (5, .int x5_6), (6, .int x6_10)] → W p l e rm_D_cut s m args below meth c H locs 0 0 Q (F0 m 92 ls []) := by
      intro N
      induction N with
      | zero => intro x6_10 A_10 H locs ls hμ; exact absurd hμ (Nat.not_lt_zero _)
      | succ N ih_92 =>
        intro x6_10 A_10 H locs ls hμ_92 hI hP hS hl
        have h := hs_92 x6_10 A_10 hI
        refine lv_iload hx hb d_D_cut_92 (lv_at hl 4 rfl) ?_
        refine lv_if_lt (tgt := 120) hx hb d_D_cut_94 (by decide) (fun c_94 => ?_) (fun c_94 => ?_)
        · have h := h.1 c_94
          refine lv_aload_n hx hb d_D_cut_120 rfl (lv_at hl 0 rfl) ?_
          refine gs_get (v := .ref (K 39)) hx hb htw i_D hown hK hP (gK_4 hΛ) rfl 0 (by decide) (htw _ mm_74) rfl d_D_cut_121 ?_
          refine lv_iload hx hb d_D_cut_124 (lv_at hl 2 rfl) ?_
          refine gw_gov (gw_runV (As := [.int x4_4]) (rest := []) hx hb hml hown htw hK hP hS hl.1 (w_W_trim hlo (K 39) (K 40) (135) x4_4 ⟨(gK_w16 hΛ).1, (gK_w16 hΛ).2⟩ F_1 A_10 _ h) k_W_trim mm_487 ⟨Nat.le_of_ble_eq_true rfl, Nat.le_of_ble_eq_true rfl⟩ rfl rfl (gK_w16 hΛ).1 rfl rfl rfl (Nat.le_of_ble_eq_true rfl) d_D_cut_126) hS (fun F_11 A_11 H locs hw hP hS => ?_)
          obtain ⟨rfl, hw⟩ := hw
          have h := hw
          refine lv_aload_n hx hb d_D_cut_129 rfl (lv_at hl 0 rfl) ?_
          refine lv_iload_n hx hb d_D_cut_130 rfl (lv_at hl 1 rfl) ?_
          refine lv_iload hx hb d_D_cut_131 (lv_at hl 3 rfl) ?_
          refine gw_gov (gw_runV (As := [.int x3_3, .int x5_6]) (rest := []) hx hb hml hown htw hK hP hS hl.1 (w_D_lowerRest hlo K x3_3 x5_6 hΛ F_11 A_10 _ h) k_D_lowerRest mm_488 ⟨Nat.le_of_ble_eq_true rfl, Nat.le_of_ble_eq_true rfl⟩ rfl rfl (gK_4 hΛ) rfl rfl rfl (Nat.le_of_ble_eq_true rfl) d_D_cut_133) hS (fun F_12 A_12 H locs hw hP hS => ?_)
          have h := hw
          rw [← hQe]
          exact gw_vret hx hb hr hlocks hP hK hS h d_D_cut_136
        · have h := h.2 c_94
          refine lv_aload_n hx hb d_D_cut_97 rfl (lv_at hl 0 rfl) ?_
          refine gs_get (v := .ref (K 39)) hx hb htw i_D hown hK hP (gK_4 hΛ) rfl 0 (by decide) (htw _ mm_74) rfl d_D_cut_98 ?_
          refine gs_get (v := .ref (K 40)) hx hb htw i_W hown hK hP (gK_w16 hΛ).1 rfl 0 (by decide) (htw _ mm_34) rfl d_D_cut_101 ?_
          refine lv_iload hx hb d_D_cut_104 (lv_at hl 4 rfl) ?_
          refine lv_aload_n hx hb d_D_cut_106 rfl (lv_at hl 0 rfl) ?_
          refine lv_iload hx hb d_D_cut_107 (lv_at hl 4 rfl) ?_
          refine lv_iload_n hx hb d_D_cut_109 rfl (lv_at hl 1 rfl) ?_
          refine gw_goi (gw_runV (As := [.int x6_10, .int x3_3]) (rest := [.int x6_10, .ref (K 40)]) hx hb hml hown htw hK hP hS hl.1 (w_D_digitAt hlo K x6_10 x3_3 hΛ F_1 A_10 _ h) k_D_digitAt mm_467 ⟨Nat.le_of_ble_eq_true rfl, Nat.le_of_ble_eq_true rfl⟩ rfl rfl (gK_4 hΛ) rfl rfl rfl (Nat.le_of_ble_eq_true rfl) d_D_cut_110) hS (fun r_13 F_13 A_13 H locs hw hP hS => ?_)
          obtain ⟨rfl, hw⟩ := hw
          have h := hw
          obtain ⟨hin, h⟩ := h
          refine gs_ist hx hb hK hlo hP hS (gK_w16 hΛ).2 hin d_D_cut_113 (fun A_14 eA_14 H locs hP hS => ?_)
          have h := h A_14 eA_14
          obtain ⟨x6_15, ex6_15⟩ : ∃ y : Int32, y = x6_10 + (-1 : Int32) := ⟨_, rfl⟩
          have h := h x6_15 ex6_15
          refine lv_iinc (v := x6_15) (lv' := [(6, .int x6_15), (0, .ref (K 4)), (3, .int x3_3), (4, .int x4_4), (5, .int x5_6)]) hx hb d_D_cut_114 hl (k := 4) rfl (by rw [ex6_15]; rfl) (by decide) rfl (fun ls hl => ?_)
          refine lv_goto (tgt := 92) hx hb d_D_cut_117 (by decide) ?_
          exact ih_92 x6_15 A_14 _ _ _ (Nat.lt_of_lt_of_le h.2 (Nat.le_of_lt_succ hμ_92)) h.1 hP hS (lv_sub hl [1, 2, 3, 4, 0] rfl)
    exact loop_92 (μ_92 x6_9 A_8 + 1) x6_9 A_8 _ _ _ (Nat.lt_succ_self _) h0_92 hP hS (lv_sub hl [4, 3, 2, 1, 0] rfl)
  · have h := h.2 c_13
    refine lv_aload_n hx hb d_D_cut_16 rfl (lv_at hl 0 rfl) ?_
    refine gs_get (v := .ref (K 41)) hx hb htw i_D hown hK hP (gK_4 hΛ) rfl 1 (by decide) (htw _ mm_76) rfl d_D_cut_17 ?_
    refine lv_aload_n hx hb d_D_cut_20 rfl (lv_at hl 1 rfl) ?_
    refine gw_gov (gw_runV (As := [.ref a1]) (rest := []) hx hb hml hown htw hK hP hS hl.1 (w_W_takeCopy hlo (K 41) (K 42) (135) a1 l1 n1 ⟨(gK_w17 hΛ).1, (gK_w17 hΛ).2⟩ ⟨h1.1, h1.2⟩ F_1 A_1 _ h) k_W_takeCopy mm_460 ⟨Nat.le_of_ble_eq_true rfl, Nat.le_of_ble_eq_true rfl⟩ rfl rfl (gK_w17 hΛ).1 rfl rfl rfl (Nat.le_of_ble_eq_true rfl) d_D_cut_21) hS (fun F_16 A_16 H locs hw hP hS => ?_)
    have h := hw
    refine lv_aload_n hx hb d_D_cut_24 rfl (lv_at hl 0 rfl) ?_
    refine gs_get (v := .ref (K 41)) hx hb htw i_D hown hK hP (gK_4 hΛ) rfl 1 (by decide) (htw _ mm_76) rfl d_D_cut_25 ?_
    refine lv_iconst (v := (0 : Int32)) hx hb d_D_cut_28 (by decide) ?_
    refine gw_gov (gw_runV (As := [.int (0 : Int32)]) (rest := []) hx hb hml hown htw hK hP hS hl.1 (w_W_setBelow hlo (K 41) (K 42) (135) (0 : Int32) ⟨(gK_w17 hΛ).1, (gK_w17 hΛ).2⟩ F_16 A_16 _ h) k_W_setBelow mm_461 ⟨Nat.le_of_ble_eq_true rfl, Nat.le_of_ble_eq_true rfl⟩ rfl rfl (gK_w17 hΛ).1 rfl rfl rfl (Nat.le_of_ble_eq_true rfl) d_D_cut_29) hS (fun F_17 A_17 H locs hw hP hS => ?_)
    obtain ⟨rfl, hw⟩ := hw
    have h := hw
    rw [← hQe]
    exact gw_vret hx hb hr hlocks hP hK hS h d_D_cut_32
