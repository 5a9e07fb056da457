variable {l : Launch} {D : va_G} {cI cB cJ cW : ClassId} {Λ : gs_L} {L : Nat → Nat → Int64}
abbrev rm_M_divided : Room := { frames := 1, cells := 0, slots := 0, locals := 24 }
set_option maxHeartbeats 4000000 in
set_option maxRecDepth 100000 in
theorem w_M_divided (hlo : gs_D Λ) (K : Nat → Nat) (a1 n1 : Nat) (p2 : Int32) (a3 n3 : Nat) (p4 : Int32) (a5 n5 : Nat) (hΜ : gMd cI Λ K) (h1 : (a1, gI cI n1) ∈ Λ) (h3 : (a3, gI cI n3) ∈ Λ) (h5 : (a5, gI cI n5) ∈ Λ) (F A : gm_M) (post : Int32 → gm_M → gm_M → Prop) (h : vc_M_divided K a1 n1 p2 a3 n3 p4 a5 n5 F A post) : Met l y_M_divided (.code y_M_divided b_M_divided 18 (some .int) :: gw_WS) rm_M_divided (va_Pc [.ref (K 49), .ref a1, .int p2, .ref a3, .int p4, .ref a5] (gw_P D cI cB cJ cW Λ L F A)) (gw_Qi D cI cB cJ cW Λ L (fun r F2 A2 => post r F2 A2)) 0 0 (gw_A Λ) := by
  refine Met.ofW (cc := b_M_divided) (maxL := 18) (ret := (some .int)) (by decide) rfl ?_
  intro p e s m args below meth c s₁ B hml hv
  obtain ⟨hargs, hP, hK⟩ := hv
  have hx := B.exec
  have hb := B.bytes
  have hr := B.returns
  have hlocks := B.notSynchronized
  have htw : ∀ w ∈ gw_WS, w.before args s = true := fun w h9 => atoms_spec (ws := .code y_M_divided b_M_divided 18 (some .int) :: gw_WS) B.pre w (List.mem_cons_of_mem _ h9)
  have hown : s.vm.findClass R_M = some m.cls := findClass_of_methodNamed B.named
  have hS : va_S (gw_A Λ) s.heap s.heap [] := va_S.rf
  refine W.eq (g2 := entryFrame m ([.ref (K 49), .ref a1, .int p2, .ref a3, .int p4, .ref a5] : List Value).toArray 18) (by rw [hargs]) ?_
  have hl := lv_entry ([.ref (K 49), .ref a1, .int p2, .ref a3, .int p4, .ref a5]) (n := 18) (Nat.le_of_ble_eq_true rfl)
  rw [lg_entry_eq]
  generalize (lg_sl ([.ref (K 49), .ref a1, .int p2, .ref a3, .int p4, .ref a5]) ++ List.replicate (18 - (lg_sl ([.ref (K 49), .ref a1, .int p2, .ref a3, .int p4, .ref a5])).length) Slot.unset).toArray = ls at hl ⊢
  have hl : lv_has ls 18 [(0, .ref (K 49)), (1, .ref a1), (2, .int p2), (3, .ref a3), (4, .int p4), (5, .ref a5)] := hl
  generalize hQe : MQ below (gw_Qi D cI cB cJ cW Λ L (fun r F2 A2 => post r F2 A2)) args s 0 0 (gw_A Λ) = Q
  unfold vc_M_divided at h
  refine lv_aload_n hx hb d_M_divided_0 rfl (lv_at hl 1 rfl) ?_
  refine lv_iload_n hx hb d_M_divided_1 rfl (lv_at hl 2 rfl) ?_
  refine lv_aload_n hx hb d_M_divided_2 rfl (lv_at hl 3 rfl) ?_
  refine lv_iload hx hb d_M_divided_3 (lv_at hl 4 rfl) ?_
  refine gw_goi (gw_runS (As := [.ref a1, .int p2, .ref a3, .int p4]) (rest := []) hx hb hml hown htw hK hP hS hl.1 (w_M_compared hlo a1 n1 p2 a3 n3 p4 h1 h3 F A _ h) k_M_compared mm_762 ⟨Nat.le_of_ble_eq_true rfl, Nat.le_of_ble_eq_true rfl⟩ rfl rfl rfl rfl (Nat.le_of_ble_eq_true rfl) d_M_divided_5) hS (fun r_1 F_1 A_1 H locs hw hP hS => ?_)
  obtain ⟨rfl, hw⟩ := hw
  obtain ⟨rfl, hw⟩ := hw
  have h := hw
  refine lv_if_ge (tgt := 18) hx hb d_M_divided_8 (by decide) (fun c_8 => ?_) (fun c_8 => ?_)
  · have h := h.1 c_8
    refine lv_iload hx hb d_M_divided_18 (lv_at hl 4 rfl) ?_
    refine lv_iconst (v := (1 : Int32)) hx hb d_M_divided_20 (by decide) ?_
    refine lv_icmp_ne (tgt := 105) hx hb d_M_divided_21 (by decide) (fun c_21 => ?_) (fun c_21 => ?_)
    · have h := h.1 c_21
      refine lv_iconst (v := (0 : Int32)) hx hb d_M_divided_105 (by decide) ?_
      refine lv_istore (lv' := [(6, .int (0 : Int32)), (0, .ref (K 49)), (1, .ref a1), (2, .int p2), (3, .ref a3), (4, .int p4), (5, .ref a5)]) hx hb d_M_divided_106 hl (by decide) rfl (fun ls hl => ?_)
      refine lv_aload_n hx hb d_M_divided_108 rfl (lv_at hl 4 rfl) ?_
      refine lv_iload hx hb d_M_divided_109 (lv_at hl 5 rfl) ?_
      refine lv_iconst (v := (1 : Int32)) hx hb d_M_divided_111 (by decide) ?_
      refine lv_isub hx hb d_M_divided_112 ?_
      obtain ⟨hin, h⟩ := h
      refine gs_ild hx hb hK hP h3 hin d_M_divided_113 ?_
      refine lv_topi (fun x7_2 ex7_2 => ?_)
      have h := h x7_2 ex7_2
      refine lv_istore (lv' := [(7, .int x7_2), (6, .int (0 : Int32)), (0, .ref (K 49)), (1, .ref a1), (2, .int p2), (3, .ref a3), (4, .int p4), (5, .ref a5)]) hx hb d_M_divided_114 hl (by decide) rfl (fun ls hl => ?_)
      obtain ⟨I_116, μ_116, h0_116, hs_116⟩ := h
      have loop_116 : ∀ (N : Nat) (x6_3 : Int32) (x7_3 : Int32) (H : Heap) (locs : List Loc) (ls : Array Slot), μ_116 x6_3 x7_3 < N → I_116 x6_3 x7_3 → va_P D gcls (gs_ws Λ F A L) H → va_S (gw_A Λ) s.heap H locs → lv_has ls 18 [(0, .ref (K 49)), (1, .ref a1), (2, .int p2), (3, .ref a3), (4, .int p4), (5, .ref a5), (6, .int x6_3), (7, .int x7_3)] → W p l e rm_M_divided s m args below meth c H locs 0 0 Q (F0 m 116 ls []) := by
        intro N
        induction N with
        | zero => intro x6_3 x7_3 H locs ls hμ; exact absurd hμ (Nat.not_lt_zero _)
        | succ N ih_116 =>
          intro x6_3 x7_3 H locs ls hμ_116 hI hP hS hl
          have h := hs_116 x6_3 x7_3 hI
          refine lv_iload hx hb d_M_divided_116 (lv_at hl 7 rfl) ?_
          refine lv_ldc (v := (32768 : Int32)) hx hb hown (htw _ mm_776) d_M_divided_118 ?_
          refine lv_icmp_ge (tgt := 135) hx hb d_M_divided_120 (by decide) (fun c_120 => ?_) (fun c_120 => ?_)
          · have h := h.1 c_120
            refine lv_iload hx hb d_M_divided_135 (lv_at hl 4 rfl) ?_
            refine lv_iconst (v := (1 : Int32)) hx hb d_M_divided_137 (by decide) ?_
            refine lv_isub hx hb d_M_divided_138 ?_
            refine lv_topi (fun x7_4 ex7_4 => ?_)
            have h := h x7_4 ex7_4
            refine lv_istore (lv' := [(7, .int x7_4), (0, .ref (K 49)), (1, .ref a1), (2, .int p2), (3, .ref a3), (4, .int p4), (5, .ref a5), (6, .int x6_3)]) hx hb d_M_divided_139 hl (by decide) rfl (fun ls hl => ?_)
            obtain ⟨I_141, μ_141, h0_141, hs_141⟩ := h
            have loop_141 : ∀ (N : Nat) (x7_5 : Int32) (A_5 : gm_M) (H : Heap) (locs : List Loc) (ls : Array Slot), μ_141 x7_5 A_5 < N → I_141 x7_5 A_5 → va_P D gcls (gs_ws Λ F A_5 L) H → va_S (gw_A Λ) s.heap H locs → lv_has ls 18 [(0, .ref (K 49)), (1, .ref a1), (2, .int p2), (3, .ref a3), (4, .int p4), (5, .ref a5), (6, .int x6_3), (7, .int x7_5)] → W p l e rm_M_divided s m args below meth c H locs 0 0 Q (F0 m 141 ls []) := by
              intro N
              induction N with
              | zero => intro x7_5 A_5 H locs ls hμ; exact absurd hμ (Nat.not_lt_zero _)
              | succ N ih_141 =>
                intro x7_5 A_5 H locs ls hμ_141 hI hP hS hl
                have h := hs_141 x7_5 A_5 hI
                refine lv_iload hx hb d_M_divided_141 (lv_at hl 7 rfl) ?_
                refine lv_if_lt (tgt := 191) hx hb d_M_divided_143 (by decide) (fun c_143 => ?_) (fun c_143 => ?_)
                · have h := h.1 c_143
                  refine lv_aload_n hx hb d_M_divided_191 rfl (lv_at hl 1 rfl) ?_
                  refine lv_iload_n hx hb d_M_divided_192 rfl (lv_at hl 2 rfl) ?_
                  refine lv_iconst (v := (0 : Int32)) hx hb d_M_divided_193 (by decide) ?_
                  obtain ⟨hin, h⟩ := h
                  refine gs_ist hx hb hK hlo hP hS h1 hin d_M_divided_194 (fun A_6 eA_6 H locs hP hS => ?_)
                  have h := h A_6 eA_6
                  refine lv_iload_n hx hb d_M_divided_195 rfl (lv_at hl 2 rfl) ?_
                  refine lv_istore (lv' := [(7, .int p2), (0, .ref (K 49)), (1, .ref a1), (2, .int p2), (3, .ref a3), (4, .int p4), (5, .ref a5), (6, .int x6_3)]) hx hb d_M_divided_196 hl (by decide) rfl (fun ls hl => ?_)
                  obtain ⟨I_198, μ_198, h0_198, hs_198⟩ := h
                  have loop_198 : ∀ (N : Nat) (x7_7 : Int32) (A_7 : gm_M) (H : Heap) (locs : List Loc) (ls : Array Slot), μ_198 x7_7 A_7 < N → I_198 x7_7 A_7 → va_P D gcls (gs_ws Λ F A_7 L) H → va_S (gw_A Λ) s.heap H locs → lv_has ls 18 [(0, .ref (K 49)), (1, .ref a1), (2, .int p2), (4, .int p4), (5, .ref a5), (6, .int x6_3), (7, .int x7_7)] → W p l e rm_M_divided s m args below meth c H locs 0 0 Q (F0 m 198 ls []) := by
                    intro N
                    induction N with
                    | zero => intro x7_7 A_7 H locs ls hμ; exact absurd hμ (Nat.not_lt_zero _)
                    | succ N ih_198 =>
                      intro x7_7 A_7 H locs ls hμ_198 hI hP hS hl
                      have h := hs_198 x7_7 A_7 hI
                      refine lv_iload hx hb d_M_divided_198 (lv_at hl 6 rfl) ?_
                      refine lv_if_lt (tgt := 245) hx hb d_M_divided_200 (by decide) (fun c_200 => ?_) (fun c_200 => ?_)
                      · have h := h.1 c_200
                        refine lv_iload_n hx hb d_M_divided_245 rfl (lv_at hl 2 rfl) ?_
                        refine lv_iload hx hb d_M_divided_246 (lv_at hl 3 rfl) ?_
                        refine lv_isub hx hb d_M_divided_248 ?_
                        refine lv_topi (fun x7_8 ex7_8 => ?_)
                        have h := h x7_8 ex7_8
                        refine lv_istore (lv' := [(7, .int x7_8), (0, .ref (K 49)), (1, .ref a1), (2, .int p2), (4, .int p4), (5, .ref a5), (6, .int x6_3)]) hx hb d_M_divided_249 hl (by decide) rfl (fun ls hl => ?_)
                        obtain ⟨I_251, μ_251, h0_251, hs_251⟩ := h
                        have loop_251 : ∀ (N : Nat) (x7_9 : Int32) (A_9 : gm_M) (H : Heap) (locs : List Loc) (ls : Array Slot), μ_251 x7_9 A_9 < N → I_251 x7_9 A_9 → va_P D gcls (gs_ws Λ F A_9 L) H → va_S (gw_A Λ) s.heap H locs → lv_has ls 18 [(0, .ref (K 49)), (1, .ref a1), (2, .int p2), (4, .int p4), (5, .ref a5), (6, .int x6_3), (7, .int x7_9)] → W p l e rm_M_divided s m args below meth c H locs 0 0 Q (F0 m 251 ls []) := by
                          intro N
                          induction N with
                          | zero => intro x7_9 A_9 H locs ls hμ; exact absurd hμ (Nat.not_lt_zero _)
                          | succ N ih_251 =>
                            intro x7_9 A_9 H locs ls hμ_251 hI hP hS hl
                            have h := hs_251 x7_9 A_9 hI
                            refine lv_iload hx hb d_M_divided_251 (lv_at hl 6 rfl) ?_
                            refine lv_if_lt (tgt := 582) hx hb d_M_divided_253 (by decide) (fun c_253 => ?_) (fun c_253 => ?_)
                            · have h := h.1 c_253
                              refine lv_aload_n hx hb d_M_divided_582 rfl (lv_at hl 0 rfl) ?_
                              refine lv_aload hx hb d_M_divided_583 (lv_at hl 4 rfl) ?_
                              refine lv_iload_n hx hb d_M_divided_585 rfl (lv_at hl 2 rfl) ?_
                              refine lv_iload hx hb d_M_divided_586 (lv_at hl 3 rfl) ?_
                              refine lv_isub hx hb d_M_divided_588 ?_
                              refine lv_iconst (v := (1 : Int32)) hx hb d_M_divided_589 (by decide) ?_
                              refine lv_iadd hx hb d_M_divided_590 ?_
                              refine gw_goi (gw_runS (As := [.ref a5, .int ((p2 - p4) + (1 : Int32))]) (rest := [.ref (K 49)]) hx hb hml hown htw hK hP hS hl.1 (w_M_trim hlo a5 n5 ((p2 - p4) + (1 : Int32)) h5 F A_9 _ h) k_M_trim mm_725 ⟨Nat.le_of_ble_eq_true rfl, Nat.le_of_ble_eq_true rfl⟩ rfl rfl rfl rfl (Nat.le_of_ble_eq_true rfl) d_M_divided_591) hS (fun r_10 F_10 A_10 H locs hw hP hS => ?_)
                              obtain ⟨rfl, hw⟩ := hw
                              obtain ⟨rfl, hw⟩ := hw
                              have h := hw
                              refine gs_put (ty := .int) hx hb htw i_M tf_M tf_M_ok n_M hown hK hlo hP hS (gMd_0 hΜ) rfl 12 (by decide) rfl (htw _ mm_654) rfl (by decide +kernel) rfl rfl d_M_divided_594 (fun F_11 eF_11 H locs hP hS => ?_)
                              have h := h F_11 eF_11
                              refine lv_iconst (v := (0 : Int32)) hx hb d_M_divided_597 (by decide) ?_
                              refine lv_istore (lv' := [(7, .int (0 : Int32)), (0, .ref (K 49)), (1, .ref a1), (2, .int p2), (4, .int p4), (5, .ref a5), (6, .int x6_3)]) hx hb d_M_divided_598 hl (by decide) rfl (fun ls hl => ?_)
                              obtain ⟨I_600, μ_600, h0_600, hs_600⟩ := h
                              have loop_600 : ∀ (N : Nat) (x7_12 : Int32) (A_12 : gm_M) (H : Heap) (locs : List Loc) (ls : Array Slot), μ_600 x7_12 A_12 < N → I_600 x7_12 A_12 → va_P D gcls (gs_ws Λ F_11 A_12 L) H → va_S (gw_A Λ) s.heap H locs → lv_has ls 18 [(1, .ref a1), (4, .int p4), (6, .int x6_3), (7, .int x7_12)] → W p l e rm_M_divided s m args below meth c H locs 0 0 Q (F0 m 600 ls []) := by
                                intro N
                                induction N with
                                | zero => intro x7_12 A_12 H locs ls hμ; exact absurd hμ (Nat.not_lt_zero _)
                                | succ N ih_600 =>
                                  intro x7_12 A_12 H locs ls hμ_600 hI hP hS hl
                                  have h := hs_600 x7_12 A_12 hI
                                  refine lv_iload hx hb d_M_divided_600 (lv_at hl 3 rfl) ?_
                                  refine lv_iload hx hb d_M_divided_602 (lv_at hl 1 rfl) ?_
                                  refine lv_icmp_ge (tgt := 653) hx hb d_M_divided_604 (by decide) (fun c_604 => ?_) (fun c_604 => ?_)
                                  · have h := h.1 c_604
                                    refine lv_aload_n hx hb d_M_divided_653 rfl (lv_at hl 0 rfl) ?_
                                    refine lv_iload hx hb d_M_divided_654 (lv_at hl 1 rfl) ?_
                                    refine gw_goi (gw_runS (As := [.ref a1, .int p4]) (rest := []) hx hb hml hown htw hK hP hS hl.1 (w_M_trim hlo a1 n1 p4 h1 F_11 A_12 _ h) k_M_trim mm_725 ⟨Nat.le_of_ble_eq_true rfl, Nat.le_of_ble_eq_true rfl⟩ rfl rfl rfl rfl (Nat.le_of_ble_eq_true rfl) d_M_divided_656) hS (fun r_13 F_13 A_13 H locs hw hP hS => ?_)
                                    obtain ⟨rfl, hw⟩ := hw
                                    obtain ⟨rfl, hw⟩ := hw
                                    have h := hw
                                    rw [← hQe]
                                    exact gw_iret hx hb hr hlocks hP hK hS h d_M_divided_659
                                  · have h := h.2 c_604
                                    refine lv_aload_n hx hb d_M_divided_607 rfl (lv_at hl 0 rfl) ?_
                                    refine lv_iload hx hb d_M_divided_608 (lv_at hl 3 rfl) ?_
                                    refine lv_aload_n hx hb d_M_divided_610 rfl (lv_at hl 0 rfl) ?_
                                    refine lv_iload hx hb d_M_divided_611 (lv_at hl 3 rfl) ?_
                                    obtain ⟨hin, h⟩ := h
                                    refine gs_ild hx hb hK hP h1 hin d_M_divided_613 ?_
                                    refine lv_iload hx hb d_M_divided_614 (lv_at hl 2 rfl) ?_
                                    refine lv_ishr hx hb d_M_divided_616 ?_
                                    refine lv_iload hx hb d_M_divided_617 (lv_at hl 3 rfl) ?_
                                    refine lv_iconst (v := (1 : Int32)) hx hb d_M_divided_619 (by decide) ?_
                                    refine lv_iadd hx hb d_M_divided_620 ?_
                                    refine lv_iload hx hb d_M_divided_621 (lv_at hl 1 rfl) ?_
                                    refine lv_icmp_gt (tgt := 641) hx hb d_M_divided_623 (by decide) (fun c_623 => ?_) (fun c_623 => ?_)
                                    · have h := h.1 c_623
                                      refine lv_iconst (v := (0 : Int32)) hx hb d_M_divided_641 (by decide) ?_
                                      refine lv_ior hx hb d_M_divided_642 ?_
                                      refine lv_ldc (v := (65535 : Int32)) hx hb hown (htw _ mm_761) d_M_divided_643 ?_
                                      refine lv_iand hx hb d_M_divided_645 ?_
                                      obtain ⟨hin, h⟩ := h
                                      refine gs_ist hx hb hK hlo hP hS h1 hin d_M_divided_646 (fun A_14 eA_14 H locs hP hS => ?_)
                                      have h := h A_14 eA_14
                                      obtain ⟨x7_15, ex7_15⟩ : ∃ y : Int32, y = x7_12 + (1 : Int32) := ⟨_, rfl⟩
                                      have h := h x7_15 ex7_15
                                      refine lv_iinc (v := x7_15) (lv' := [(7, .int x7_15), (1, .ref a1), (4, .int p4), (6, .int x6_3)]) hx hb d_M_divided_647 hl (k := 3) rfl (by rw [ex7_15]; rfl) (by decide) rfl (fun ls hl => ?_)
                                      refine lv_goto (tgt := 600) hx hb d_M_divided_650 (by decide) ?_
                                      exact ih_600 x7_15 A_14 _ _ _ (Nat.lt_of_lt_of_le h.2 (Nat.le_of_lt_succ hμ_600)) h.1 hP hS (lv_sub hl [1, 2, 3, 0] rfl)
                                    · have h := h.2 c_623
                                      refine lv_aload_n hx hb d_M_divided_626 rfl (lv_at hl 0 rfl) ?_
                                      refine lv_iload hx hb d_M_divided_627 (lv_at hl 3 rfl) ?_
                                      refine lv_iconst (v := (1 : Int32)) hx hb d_M_divided_629 (by decide) ?_
                                      refine lv_iadd hx hb d_M_divided_630 ?_
                                      obtain ⟨hin, h⟩ := h
                                      refine gs_ild hx hb hK hP h1 hin d_M_divided_631 ?_
                                      refine lv_bipush (v := (16 : Int32)) hx hb d_M_divided_632 (by decide) ?_
                                      refine lv_iload hx hb d_M_divided_634 (lv_at hl 2 rfl) ?_
                                      refine lv_isub hx hb d_M_divided_636 ?_
                                      refine lv_ishl hx hb d_M_divided_637 ?_
                                      refine lv_goto (tgt := 642) hx hb d_M_divided_638 (by decide) ?_
                                      refine lv_ior hx hb d_M_divided_642 ?_
                                      refine lv_ldc (v := (65535 : Int32)) hx hb hown (htw _ mm_761) d_M_divided_643 ?_
                                      refine lv_iand hx hb d_M_divided_645 ?_
                                      obtain ⟨hin, h⟩ := h
                                      refine gs_ist hx hb hK hlo hP hS h1 hin d_M_divided_646 (fun A_16 eA_16 H locs hP hS => ?_)
                                      have h := h A_16 eA_16
                                      obtain ⟨x7_17, ex7_17⟩ : ∃ y : Int32, y = x7_12 + (1 : Int32) := ⟨_, rfl⟩
                                      have h := h x7_17 ex7_17
                                      refine lv_iinc (v := x7_17) (lv' := [(7, .int x7_17), (1, .ref a1), (4, .int p4), (6, .int x6_3)]) hx hb d_M_divided_647 hl (k := 3) rfl (by rw [ex7_17]; rfl) (by decide) rfl (fun ls hl => ?_)
                                      refine lv_goto (tgt := 600) hx hb d_M_divided_650 (by decide) ?_
                                      exact ih_600 x7_17 A_16 _ _ _ (Nat.lt_of_lt_of_le h.2 (Nat.le_of_lt_succ hμ_600)) h.1 hP hS (lv_sub hl [1, 2, 3, 0] rfl)
                              exact loop_600 (μ_600 (0 : Int32) A_9 + 1) (0 : Int32) A_9 _ _ _ (Nat.lt_succ_self _) h0_600 hP hS (lv_sub hl [2, 4, 6, 0] rfl)
                            · have h := h.2 c_253
                              refine lv_aload_n hx hb d_M_divided_256 rfl (lv_at hl 1 rfl) ?_
                              refine lv_iload hx hb d_M_divided_257 (lv_at hl 6 rfl) ?_
                              refine lv_iload hx hb d_M_divided_259 (lv_at hl 3 rfl) ?_
                              refine lv_iadd hx hb d_M_divided_261 ?_
                              obtain ⟨hin, h⟩ := h
                              refine gs_ild hx hb hK hP h1 hin d_M_divided_262 ?_
                              refine lv_i2l (v := ((A_9 a1 (x7_9 + p4).toNatClampNeg).toInt64)) hx hb d_M_divided_263 (by rfl) ?_
                              refine lv_bipush (v := (16 : Int32)) hx hb d_M_divided_264 (by decide) ?_
                              refine lv_lshl (v := (j_lshl ((A_9 a1 (x7_9 + p4).toNatClampNeg).toInt64) (16 : Int32))) hx hb d_M_divided_266 rfl ?_
                              refine lv_aload_n hx hb d_M_divided_267 rfl (lv_at hl 1 rfl) ?_
                              refine lv_iload hx hb d_M_divided_268 (lv_at hl 6 rfl) ?_
                              refine lv_iload hx hb d_M_divided_270 (lv_at hl 3 rfl) ?_
                              refine lv_iadd hx hb d_M_divided_272 ?_
                              refine lv_iconst (v := (1 : Int32)) hx hb d_M_divided_273 (by decide) ?_
                              refine lv_isub hx hb d_M_divided_274 ?_
                              obtain ⟨hin, h⟩ := h
                              refine gs_ild hx hb hK hP h1 hin d_M_divided_275 ?_
                              refine lv_i2l (v := ((A_9 a1 ((x7_9 + p4) - (1 : Int32)).toNatClampNeg).toInt64)) hx hb d_M_divided_276 (by rfl) ?_
                              refine lv_lor hx hb d_M_divided_277 ?_
                              refine lv_topl (fun x8_18 ex8_18 => ?_)
                              have h := h x8_18 ex8_18
                              refine lv_lstore (lv' := [(8, .long x8_18), (0, .ref (K 49)), (1, .ref a1), (2, .int p2), (4, .int p4), (5, .ref a5), (6, .int x6_3), (7, .int x7_9)]) hx hb d_M_divided_278 hl (by decide) rfl (fun ls hl => ?_)
                              refine lv_lload hx hb d_M_divided_280 (lv_at hl 0 rfl) ?_
                              refine lv_aload_n hx hb d_M_divided_282 rfl (lv_at hl 1 rfl) ?_
                              refine gs_get (v := .ref (K 60)) hx hb htw i_M hown hK hP (gMd_0 hΜ) rfl 13 (by decide) (htw _ mm_655) rfl d_M_divided_283 ?_
                              refine lv_iload hx hb d_M_divided_286 (lv_at hl 4 rfl) ?_
                              refine lv_iconst (v := (1 : Int32)) hx hb d_M_divided_288 (by decide) ?_
                              refine lv_isub hx hb d_M_divided_289 ?_
                              obtain ⟨hin, h⟩ := h
                              refine gs_ild hx hb hK hP (gMd_60 hΜ) hin d_M_divided_290 ?_
                              refine lv_i2l (v := ((A_9 (K 60) (p4 - (1 : Int32)).toNatClampNeg).toInt64)) hx hb d_M_divided_291 (by rfl) ?_
                              obtain ⟨hne, h⟩ := h
                              refine lv_ldiv hx hb d_M_divided_292 hne ?_
                              refine lv_topl (fun x10_19 ex10_19 => ?_)
                              have h := h x10_19 ex10_19
                              refine lv_lstore (lv' := [(10, .long x10_19), (8, .long x8_18), (0, .ref (K 49)), (1, .ref a1), (2, .int p2), (4, .int p4), (5, .ref a5), (6, .int x6_3), (7, .int x7_9)]) hx hb d_M_divided_293 hl (by decide) rfl (fun ls hl => ?_)
                              refine lv_lload hx hb d_M_divided_295 (lv_at hl 1 rfl) ?_
                              refine lv_aload_n hx hb d_M_divided_297 rfl (lv_at hl 2 rfl) ?_
                              refine gs_get (v := .ref (K 60)) hx hb htw i_M hown hK hP (gMd_0 hΜ) rfl 13 (by decide) (htw _ mm_655) rfl d_M_divided_298 ?_
                              refine lv_iload hx hb d_M_divided_301 (lv_at hl 5 rfl) ?_
                              refine lv_iconst (v := (1 : Int32)) hx hb d_M_divided_303 (by decide) ?_
                              refine lv_isub hx hb d_M_divided_304 ?_
                              obtain ⟨hin, h⟩ := h
                              refine gs_ild hx hb hK hP (gMd_60 hΜ) hin d_M_divided_305 ?_
                              refine lv_i2l (v := ((A_9 (K 60) (p4 - (1 : Int32)).toNatClampNeg).toInt64)) hx hb d_M_divided_306 (by rfl) ?_
                              obtain ⟨hne, h⟩ := h
                              refine lv_lrem hx hb d_M_divided_307 hne ?_
                              refine lv_topl (fun x12_20 ex12_20 => ?_)
                              have h := h x12_20 ex12_20
                              refine lv_lstore (lv' := [(12, .long x12_20), (10, .long x10_19), (8, .long x8_18), (0, .ref (K 49)), (1, .ref a1), (2, .int p2), (4, .int p4), (5, .ref a5), (6, .int x6_3), (7, .int x7_9)]) hx hb d_M_divided_308 hl (by decide) rfl (fun ls hl => ?_)
                              obtain ⟨I_310, μ_310, h0_310, hs_310⟩ := h
                              have loop_310 : ∀ (N : Nat) (x10_21 : Int64) (x12_21 : Int64) (H : Heap) (locs : List Loc) (ls : Array Slot), μ_310 x10_21 x12_21 < N → I_310 x10_21 x12_21 → va_P D gcls (gs_ws Λ F A_9 L) H → va_S (gw_A Λ) s.heap H locs → lv_has ls 18 [(0, .ref (K 49)), (1, .ref a1), (2, .int p2), (4, .int p4), (5, .ref a5), (6, .int x6_3), (7, .int x7_9), (10, .long x10_21), (12, .long x12_21)] → W p l e rm_M_divided s m args below meth c H locs 0 0 Q (F0 m 310 ls []) := by
                                intro N
                                induction N with
                                | zero => intro x10_21 x12_21 H locs ls hμ; exact absurd hμ (Nat.not_lt_zero _)
                                | succ N ih_310 =>
                                  intro x10_21 x12_21 H locs ls hμ_310 hI hP hS hl
                                  have h := hs_310 x10_21 x12_21 hI
                                  refine lv_lload hx hb d_M_divided_310 (lv_at hl 7 rfl) ?_
                                  refine lv_ldc2 (v := (65535 : Int64)) hx hb hown (htw _ mm_720) d_M_divided_312 ?_
                                  obtain ⟨J_385, h, hj_385⟩ := h
                                  have join_385 : ∀ (x10_22 : Int64) (H : Heap) (locs : List Loc) (ls : Array Slot), J_385 x10_22 → va_P D gcls (gs_ws Λ F A_9 L) H → va_S (gw_A Λ) s.heap H locs → lv_has ls 18 [(0, .ref (K 49)), (1, .ref a1), (2, .int p2), (4, .int p4), (5, .ref a5), (6, .int x6_3), (7, .int x7_9), (10, .long x10_22)] → W p l e rm_M_divided s m args below meth c H locs 0 0 Q (F0 m 385 ls []) := by
                                    intro x10_22 H locs ls hJ hP hS hl
                                    have h := hj_385 x10_22 hJ
                                    refine lv_lconst (v := (0 : Int64)) hx hb d_M_divided_385 (by decide) ?_
                                    refine lv_lstore (lv' := [(14, .long (0 : Int64)), (0, .ref (K 49)), (1, .ref a1), (2, .int p2), (4, .int p4), (5, .ref a5), (6, .int x6_3), (7, .int x7_9), (10, .long x10_22)]) hx hb d_M_divided_386 hl (by decide) rfl (fun ls hl => ?_)
                                    refine lv_iconst (v := (0 : Int32)) hx hb d_M_divided_388 (by decide) ?_
                                    refine lv_istore (lv' := [(16, .int (0 : Int32)), (14, .long (0 : Int64)), (0, .ref (K 49)), (1, .ref a1), (2, .int p2), (4, .int p4), (5, .ref a5), (6, .int x6_3), (7, .int x7_9), (10, .long x10_22)]) hx hb d_M_divided_389 hl (by decide) rfl (fun ls hl => ?_)
                                    obtain ⟨I_391, μ_391, h0_391, hs_391⟩ := h
                                    have loop_391 : ∀ (N : Nat) (x14_23 : Int64) (x16_23 : Int32) (A_23 : gm_M) (H : Heap) (locs : List Loc) (ls : Array Slot), μ_391 x14_23 x16_23 A_23 < N → I_391 x14_23 x16_23 A_23 → va_P D gcls (gs_ws Λ F A_23 L) H → va_S (gw_A Λ) s.heap H locs → lv_has ls 18 [(0, .ref (K 49)), (1, .ref a1), (2, .int p2), (4, .int p4), (5, .ref a5), (6, .int x6_3), (7, .int x7_9), (10, .long x10_22), (14, .long x14_23), (16, .int x16_23)] → W p l e rm_M_divided s m args below meth c H locs 0 0 Q (F0 m 391 ls []) := by
                                      intro N
                                      induction N with
                                      | zero => intro x14_23 x16_23 A_23 H locs ls hμ; exact absurd hμ (Nat.not_lt_zero _)
                                      | succ N ih_391 =>
                                        intro x14_23 x16_23 A_23 H locs ls hμ_391 hI hP hS hl
                                        have h := hs_391 x14_23 x16_23 A_23 hI
                                        refine lv_iload hx hb d_M_divided_391 (lv_at hl 9 rfl) ?_
                                        refine lv_iload hx hb d_M_divided_393 (lv_at hl 3 rfl) ?_
                                        refine lv_icmp_ge (tgt := 450) hx hb d_M_divided_395 (by decide) (fun c_395 => ?_) (fun c_395 => ?_)
                                        · have h := h.1 c_395
                                          refine lv_lload hx hb d_M_divided_450 (lv_at hl 8 rfl) ?_
                                          refine lv_aload_n hx hb d_M_divided_452 rfl (lv_at hl 1 rfl) ?_
                                          refine lv_iload hx hb d_M_divided_453 (lv_at hl 6 rfl) ?_
                                          refine lv_iload hx hb d_M_divided_455 (lv_at hl 3 rfl) ?_
                                          refine lv_iadd hx hb d_M_divided_457 ?_
                                          obtain ⟨hin, h⟩ := h
                                          refine gs_ild hx hb hK hP h1 hin d_M_divided_458 ?_
                                          refine lv_i2l (v := ((A_23 a1 (x7_9 + p4).toNatClampNeg).toInt64)) hx hb d_M_divided_459 (by rfl) ?_
                                          refine lv_ladd hx hb d_M_divided_460 ?_
                                          refine lv_topl (fun x14_24 ex14_24 => ?_)
                                          have h := h x14_24 ex14_24
                                          refine lv_lstore (lv' := [(14, .long x14_24), (0, .ref (K 49)), (1, .ref a1), (2, .int p2), (4, .int p4), (5, .ref a5), (6, .int x6_3), (7, .int x7_9), (10, .long x10_22), (16, .int x16_23)]) hx hb d_M_divided_461 hl (by decide) rfl (fun ls hl => ?_)
                                          refine lv_aload_n hx hb d_M_divided_463 rfl (lv_at hl 2 rfl) ?_
                                          refine lv_iload hx hb d_M_divided_464 (lv_at hl 7 rfl) ?_
                                          refine lv_iload hx hb d_M_divided_466 (lv_at hl 4 rfl) ?_
                                          refine lv_iadd hx hb d_M_divided_468 ?_
                                          refine lv_lload hx hb d_M_divided_469 (lv_at hl 0 rfl) ?_
                                          refine lv_ldc2 (v := (65535 : Int64)) hx hb hown (htw _ mm_720) d_M_divided_471 ?_
                                          refine lv_land hx hb d_M_divided_474 ?_
                                          refine lv_l2i (v := ((x14_24 &&& (65535 : Int64)).toInt32)) hx hb d_M_divided_475 (by rfl) ?_
                                          obtain ⟨hin, h⟩ := h
                                          refine gs_ist hx hb hK hlo hP hS h1 hin d_M_divided_476 (fun A_25 eA_25 H locs hP hS => ?_)
                                          have h := h A_25 eA_25
                                          refine lv_lload hx hb d_M_divided_477 (lv_at hl 0 rfl) ?_
                                          refine lv_lconst (v := (0 : Int64)) hx hb d_M_divided_479 (by decide) ?_
                                          refine gl_ge (tgt := 568) hx hb d_M_divided_480 d_M_divided_481 (by decide) (fun c_481 => ?_) (fun c_481 => ?_)
                                          · have h := h.1 c_481
                                            refine lv_aload hx hb d_M_divided_568 (lv_at hl 5 rfl) ?_
                                            refine lv_iload hx hb d_M_divided_570 (lv_at hl 7 rfl) ?_
                                            refine lv_lload hx hb d_M_divided_572 (lv_at hl 8 rfl) ?_
                                            refine lv_l2i (v := (x10_22.toInt32)) hx hb d_M_divided_574 (by rfl) ?_
                                            obtain ⟨hin, h⟩ := h
                                            refine gs_ist hx hb hK hlo hP hS h5 hin d_M_divided_575 (fun A_26 eA_26 H locs hP hS => ?_)
                                            have h := h A_26 eA_26
                                            obtain ⟨x7_27, ex7_27⟩ : ∃ y : Int32, y = x7_9 + (-1 : Int32) := ⟨_, rfl⟩
                                            have h := h x7_27 ex7_27
                                            refine lv_iinc (v := x7_27) (lv' := [(7, .int x7_27), (14, .long x14_24), (0, .ref (K 49)), (1, .ref a1), (2, .int p2), (4, .int p4), (5, .ref a5), (6, .int x6_3), (10, .long x10_22), (16, .int x16_23)]) hx hb d_M_divided_576 hl (k := 7) rfl (by rw [ex7_27]; rfl) (by decide) rfl (fun ls hl => ?_)
                                            refine lv_goto (tgt := 251) hx hb d_M_divided_579 (by decide) ?_
                                            exact ih_251 x7_27 A_26 _ _ _ (Nat.lt_of_lt_of_le h.2 (Nat.le_of_lt_succ hμ_251)) h.1 hP hS (lv_sub hl [2, 3, 4, 5, 6, 7, 0] rfl)
                                          · have h := h.2 c_481
                                            refine lv_lload hx hb d_M_divided_484 (lv_at hl 8 rfl) ?_
                                            refine lv_lconst (v := (1 : Int64)) hx hb d_M_divided_486 (by decide) ?_
                                            refine lv_lsub hx hb d_M_divided_487 ?_
                                            refine lv_topl (fun x10_28 ex10_28 => ?_)
                                            have h := h x10_28 ex10_28
                                            refine lv_lstore (lv' := [(10, .long x10_28), (14, .long x14_24), (0, .ref (K 49)), (1, .ref a1), (2, .int p2), (4, .int p4), (5, .ref a5), (6, .int x6_3), (7, .int x7_9), (16, .int x16_23)]) hx hb d_M_divided_488 hl (by decide) rfl (fun ls hl => ?_)
                                            refine lv_iconst (v := (0 : Int32)) hx hb d_M_divided_490 (by decide) ?_
                                            refine lv_istore (lv' := [(16, .int (0 : Int32)), (10, .long x10_28), (14, .long x14_24), (0, .ref (K 49)), (1, .ref a1), (2, .int p2), (4, .int p4), (5, .ref a5), (6, .int x6_3), (7, .int x7_9)]) hx hb d_M_divided_491 hl (by decide) rfl (fun ls hl => ?_)
                                            refine lv_iconst (v := (0 : Int32)) hx hb d_M_divided_493 (by decide) ?_
                                            refine lv_istore (lv' := [(17, .int (0 : Int32)), (16, .int (0 : Int32)), (10, .long x10_28), (14, .long x14_24), (0, .ref (K 49)), (1, .ref a1), (2, .int p2), (4, .int p4), (5, .ref a5), (6, .int x6_3), (7, .int x7_9)]) hx hb d_M_divided_494 hl (by decide) rfl (fun ls hl => ?_)
                                            obtain ⟨I_496, μ_496, h0_496, hs_496⟩ := h
                                            have loop_496 : ∀ (N : Nat) (x16_29 : Int32) (x17_29 : Int32) (A_29 : gm_M) (H : Heap) (locs : List Loc) (ls : Array Slot), μ_496 x16_29 x17_29 A_29 < N → I_496 x16_29 x17_29 A_29 → va_P D gcls (gs_ws Λ F A_29 L) H → va_S (gw_A Λ) s.heap H locs → lv_has ls 18 [(0, .ref (K 49)), (1, .ref a1), (2, .int p2), (4, .int p4), (5, .ref a5), (6, .int x6_3), (7, .int x7_9), (10, .long x10_28), (16, .int x16_29), (17, .int x17_29)] → W p l e rm_M_divided s m args below meth c H locs 0 0 Q (F0 m 496 ls []) := by
                                              intro N
                                              induction N with
                                              | zero => intro x16_29 x17_29 A_29 H locs ls hμ; exact absurd hμ (Nat.not_lt_zero _)
                                              | succ N ih_496 =>
                                                intro x16_29 x17_29 A_29 H locs ls hμ_496 hI hP hS hl
                                                have h := hs_496 x16_29 x17_29 A_29 hI
                                                refine lv_iload hx hb d_M_divided_496 (lv_at hl 9 rfl) ?_
                                                refine lv_iload hx hb d_M_divided_498 (lv_at hl 3 rfl) ?_
                                                refine lv_icmp_ge (tgt := 548) hx hb d_M_divided_500 (by decide) (fun c_500 => ?_) (fun c_500 => ?_)
                                                · have h := h.1 c_500
                                                  refine lv_aload_n hx hb d_M_divided_548 rfl (lv_at hl 1 rfl) ?_
                                                  refine lv_iload hx hb d_M_divided_549 (lv_at hl 6 rfl) ?_
                                                  refine lv_iload hx hb d_M_divided_551 (lv_at hl 3 rfl) ?_
                                                  refine lv_iadd hx hb d_M_divided_553 ?_
                                                  refine lv_aload_n hx hb d_M_divided_554 rfl (lv_at hl 1 rfl) ?_
                                                  refine lv_iload hx hb d_M_divided_555 (lv_at hl 6 rfl) ?_
                                                  refine lv_iload hx hb d_M_divided_557 (lv_at hl 3 rfl) ?_
                                                  refine lv_iadd hx hb d_M_divided_559 ?_
                                                  obtain ⟨hin, h⟩ := h
                                                  refine gs_ild hx hb hK hP h1 hin d_M_divided_560 ?_
                                                  refine lv_iload hx hb d_M_divided_561 (lv_at hl 8 rfl) ?_
                                                  refine lv_iadd hx hb d_M_divided_563 ?_
                                                  refine lv_ldc (v := (65535 : Int32)) hx hb hown (htw _ mm_761) d_M_divided_564 ?_
                                                  refine lv_iand hx hb d_M_divided_566 ?_
                                                  obtain ⟨hin, h⟩ := h
                                                  refine gs_ist hx hb hK hlo hP hS h1 hin d_M_divided_567 (fun A_30 eA_30 H locs hP hS => ?_)
                                                  have h := h A_30 eA_30
                                                  refine lv_aload hx hb d_M_divided_568 (lv_at hl 4 rfl) ?_
                                                  refine lv_iload hx hb d_M_divided_570 (lv_at hl 6 rfl) ?_
                                                  refine lv_lload hx hb d_M_divided_572 (lv_at hl 7 rfl) ?_
                                                  refine lv_l2i (v := (x10_28.toInt32)) hx hb d_M_divided_574 (by rfl) ?_
                                                  obtain ⟨hin, h⟩ := h
                                                  refine gs_ist hx hb hK hlo hP hS h5 hin d_M_divided_575 (fun A_31 eA_31 H locs hP hS => ?_)
                                                  have h := h A_31 eA_31
                                                  obtain ⟨x7_32, ex7_32⟩ : ∃ y : Int32, y = x7_9 + (-1 : Int32) := ⟨_, rfl⟩
                                                  have h := h x7_32 ex7_32
                                                  refine lv_iinc (v := x7_32) (lv' := [(7, .int x7_32), (0, .ref (K 49)), (1, .ref a1), (2, .int p2), (4, .int p4), (5, .ref a5), (6, .int x6_3), (10, .long x10_28), (16, .int x16_29), (17, .int x17_29)]) hx hb d_M_divided_576 hl (k := 6) rfl (by rw [ex7_32]; rfl) (by decide) rfl (fun ls hl => ?_)
                                                  refine lv_goto (tgt := 251) hx hb d_M_divided_579 (by decide) ?_
                                                  exact ih_251 x7_32 A_31 _ _ _ (Nat.lt_of_lt_of_le h.2 (Nat.le_of_lt_succ hμ_251)) h.1 hP hS (lv_sub hl [1, 2, 3, 4, 5, 6, 0] rfl)
                                                · have h := h.2 c_500
                                                  refine lv_iload hx hb d_M_divided_503 (lv_at hl 8 rfl) ?_
                                                  refine lv_aload_n hx hb d_M_divided_505 rfl (lv_at hl 1 rfl) ?_
                                                  refine lv_iload hx hb d_M_divided_506 (lv_at hl 6 rfl) ?_
                                                  refine lv_iload hx hb d_M_divided_508 (lv_at hl 9 rfl) ?_
                                                  refine lv_iadd hx hb d_M_divided_510 ?_
                                                  obtain ⟨hin, h⟩ := h
                                                  refine gs_ild hx hb hK hP h1 hin d_M_divided_511 ?_
                                                  refine lv_aload_n hx hb d_M_divided_512 rfl (lv_at hl 0 rfl) ?_
                                                  refine gs_get (v := .ref (K 60)) hx hb htw i_M hown hK hP (gMd_0 hΜ) rfl 13 (by decide) (htw _ mm_655) rfl d_M_divided_513 ?_
                                                  refine lv_iload hx hb d_M_divided_516 (lv_at hl 9 rfl) ?_
                                                  obtain ⟨hin, h⟩ := h
                                                  refine gs_ild hx hb hK hP (gMd_60 hΜ) hin d_M_divided_518 ?_
                                                  refine lv_iadd hx hb d_M_divided_519 ?_
                                                  refine lv_iadd hx hb d_M_divided_520 ?_
                                                  refine lv_topi (fun x16_33 ex16_33 => ?_)
                                                  have h := h x16_33 ex16_33
                                                  refine lv_istore (lv' := [(16, .int x16_33), (0, .ref (K 49)), (1, .ref a1), (2, .int p2), (4, .int p4), (5, .ref a5), (6, .int x6_3), (7, .int x7_9), (10, .long x10_28), (17, .int x17_29)]) hx hb d_M_divided_521 hl (by decide) rfl (fun ls hl => ?_)
                                                  refine lv_aload_n hx hb d_M_divided_523 rfl (lv_at hl 2 rfl) ?_
                                                  refine lv_iload hx hb d_M_divided_524 (lv_at hl 7 rfl) ?_
                                                  refine lv_iload hx hb d_M_divided_526 (lv_at hl 9 rfl) ?_
                                                  refine lv_iadd hx hb d_M_divided_528 ?_
                                                  refine lv_iload hx hb d_M_divided_529 (lv_at hl 0 rfl) ?_
                                                  refine lv_ldc (v := (65535 : Int32)) hx hb hown (htw _ mm_761) d_M_divided_531 ?_
                                                  refine lv_iand hx hb d_M_divided_533 ?_
                                                  obtain ⟨hin, h⟩ := h
                                                  refine gs_ist hx hb hK hlo hP hS h1 hin d_M_divided_534 (fun A_34 eA_34 H locs hP hS => ?_)
                                                  have h := h A_34 eA_34
                                                  refine lv_iload hx hb d_M_divided_535 (lv_at hl 0 rfl) ?_
                                                  refine lv_bipush (v := (16 : Int32)) hx hb d_M_divided_537 (by decide) ?_
                                                  refine lv_ishr hx hb d_M_divided_539 ?_
                                                  refine lv_topi (fun x16_35 ex16_35 => ?_)
                                                  have h := h x16_35 ex16_35
                                                  refine lv_istore (lv' := [(16, .int x16_35), (0, .ref (K 49)), (1, .ref a1), (2, .int p2), (4, .int p4), (5, .ref a5), (6, .int x6_3), (7, .int x7_9), (10, .long x10_28), (17, .int x17_29)]) hx hb d_M_divided_540 hl (by decide) rfl (fun ls hl => ?_)
                                                  obtain ⟨x17_36, ex17_36⟩ : ∃ y : Int32, y = x17_29 + (1 : Int32) := ⟨_, rfl⟩
                                                  have h := h x17_36 ex17_36
                                                  refine lv_iinc (v := x17_36) (lv' := [(17, .int x17_36), (16, .int x16_35), (0, .ref (K 49)), (1, .ref a1), (2, .int p2), (4, .int p4), (5, .ref a5), (6, .int x6_3), (7, .int x7_9), (10, .long x10_28)]) hx hb d_M_divided_542 hl (k := 9) rfl (by rw [ex17_36]; rfl) (by decide) rfl (fun ls hl => ?_)
                                                  refine lv_goto (tgt := 496) hx hb d_M_divided_545 (by decide) ?_
                                                  exact ih_496 x16_35 x17_36 A_34 _ _ _ (Nat.lt_of_lt_of_le h.2 (Nat.le_of_lt_succ hμ_496)) h.1 hP hS (lv_sub hl [2, 3, 4, 5, 6, 7, 8, 9, 1, 0] rfl)
                                            exact loop_496 (μ_496 (0 : Int32) (0 : Int32) A_25 + 1) (0 : Int32) (0 : Int32) A_25 _ _ _ (Nat.lt_succ_self _) h0_496 hP hS (lv_sub hl [4, 5, 6, 7, 8, 9, 10, 2, 1, 0] rfl)
                                        · have h := h.2 c_395
                                          refine lv_lload hx hb d_M_divided_398 (lv_at hl 8 rfl) ?_
                                          refine lv_aload_n hx hb d_M_divided_400 rfl (lv_at hl 1 rfl) ?_
                                          refine lv_iload hx hb d_M_divided_401 (lv_at hl 6 rfl) ?_
                                          refine lv_iload hx hb d_M_divided_403 (lv_at hl 9 rfl) ?_
                                          refine lv_iadd hx hb d_M_divided_405 ?_
                                          obtain ⟨hin, h⟩ := h
                                          refine gs_ild hx hb hK hP h1 hin d_M_divided_406 ?_
                                          refine lv_i2l (v := ((A_23 a1 (x7_9 + x16_23).toNatClampNeg).toInt64)) hx hb d_M_divided_407 (by rfl) ?_
                                          refine lv_lload hx hb d_M_divided_408 (lv_at hl 7 rfl) ?_
                                          refine lv_aload_n hx hb d_M_divided_410 rfl (lv_at hl 0 rfl) ?_
                                          refine gs_get (v := .ref (K 60)) hx hb htw i_M hown hK hP (gMd_0 hΜ) rfl 13 (by decide) (htw _ mm_655) rfl d_M_divided_411 ?_
                                          refine lv_iload hx hb d_M_divided_414 (lv_at hl 9 rfl) ?_
                                          obtain ⟨hin, h⟩ := h
                                          refine gs_ild hx hb hK hP (gMd_60 hΜ) hin d_M_divided_416 ?_
                                          refine lv_i2l (v := ((A_23 (K 60) x16_23.toNatClampNeg).toInt64)) hx hb d_M_divided_417 (by rfl) ?_
                                          refine lv_lmul hx hb d_M_divided_418 ?_
                                          refine lv_lsub hx hb d_M_divided_419 ?_
                                          refine lv_ladd hx hb d_M_divided_420 ?_
                                          refine lv_topl (fun x14_37 ex14_37 => ?_)
                                          have h := h x14_37 ex14_37
                                          refine lv_lstore (lv' := [(14, .long x14_37), (0, .ref (K 49)), (1, .ref a1), (2, .int p2), (4, .int p4), (5, .ref a5), (6, .int x6_3), (7, .int x7_9), (10, .long x10_22), (16, .int x16_23)]) hx hb d_M_divided_421 hl (by decide) rfl (fun ls hl => ?_)
                                          refine lv_aload_n hx hb d_M_divided_423 rfl (lv_at hl 2 rfl) ?_
                                          refine lv_iload hx hb d_M_divided_424 (lv_at hl 7 rfl) ?_
                                          refine lv_iload hx hb d_M_divided_426 (lv_at hl 9 rfl) ?_
                                          refine lv_iadd hx hb d_M_divided_428 ?_
                                          refine lv_lload hx hb d_M_divided_429 (lv_at hl 0 rfl) ?_
                                          refine lv_ldc2 (v := (65535 : Int64)) hx hb hown (htw _ mm_720) d_M_divided_431 ?_
                                          refine lv_land hx hb d_M_divided_434 ?_
                                          refine lv_l2i (v := ((x14_37 &&& (65535 : Int64)).toInt32)) hx hb d_M_divided_435 (by rfl) ?_
                                          obtain ⟨hin, h⟩ := h
                                          refine gs_ist hx hb hK hlo hP hS h1 hin d_M_divided_436 (fun A_38 eA_38 H locs hP hS => ?_)
                                          have h := h A_38 eA_38
                                          refine lv_lload hx hb d_M_divided_437 (lv_at hl 0 rfl) ?_
                                          refine lv_bipush (v := (16 : Int32)) hx hb d_M_divided_439 (by decide) ?_
                                          refine lv_lshr (v := (j_lshr x14_37 (16 : Int32))) hx hb d_M_divided_441 rfl ?_
                                          refine lv_topl (fun x14_39 ex14_39 => ?_)
                                          have h := h x14_39 ex14_39
                                          refine lv_lstore (lv' := [(14, .long x14_39), (0, .ref (K 49)), (1, .ref a1), (2, .int p2), (4, .int p4), (5, .ref a5), (6, .int x6_3), (7, .int x7_9), (10, .long x10_22), (16, .int x16_23)]) hx hb d_M_divided_442 hl (by decide) rfl (fun ls hl => ?_)
                                          obtain ⟨x16_40, ex16_40⟩ : ∃ y : Int32, y = x16_23 + (1 : Int32) := ⟨_, rfl⟩
                                          have h := h x16_40 ex16_40
                                          refine lv_iinc (v := x16_40) (lv' := [(16, .int x16_40), (14, .long x14_39), (0, .ref (K 49)), (1, .ref a1), (2, .int p2), (4, .int p4), (5, .ref a5), (6, .int x6_3), (7, .int x7_9), (10, .long x10_22)]) hx hb d_M_divided_444 hl (k := 9) rfl (by rw [ex16_40]; rfl) (by decide) rfl (fun ls hl => ?_)
                                          refine lv_goto (tgt := 391) hx hb d_M_divided_447 (by decide) ?_
                                          exact ih_391 x14_39 x16_40 A_38 _ _ _ (Nat.lt_of_lt_of_le h.2 (Nat.le_of_lt_succ hμ_391)) h.1 hP hS (lv_sub hl [2, 3, 4, 5, 6, 7, 8, 9, 1, 0] rfl)
                                    exact loop_391 (μ_391 (0 : Int64) (0 : Int32) A_9 + 1) (0 : Int64) (0 : Int32) A_9 _ _ _ (Nat.lt_succ_self _) h0_391 hP hS (lv_sub hl [2, 3, 4, 5, 6, 7, 8, 9, 1, 0] rfl)
                                  obtain ⟨J_352, h, hj_352⟩ := h
                                  have join_352 : ∀  (H : Heap) (locs : List Loc) (ls : Array Slot), J_352 → va_P D gcls (gs_ws Λ F A_9 L) H → va_S (gw_A Λ) s.heap H locs → lv_has ls 18 [(0, .ref (K 49)), (1, .ref a1), (2, .int p2), (4, .int p4), (5, .ref a5), (6, .int x6_3), (7, .int x7_9), (10, .long x10_21), (12, .long x12_21)] → W p l e rm_M_divided s m args below meth c H locs 0 0 Q (F0 m 352 ls []) := by
                                    intro  H locs ls hJ hP hS hl
                                    have h := hj_352  hJ
                                    refine lv_lload hx hb d_M_divided_352 (lv_at hl 7 rfl) ?_
                                    refine lv_lconst (v := (1 : Int64)) hx hb d_M_divided_354 (by decide) ?_
                                    refine lv_lsub hx hb d_M_divided_355 ?_
                                    refine lv_topl (fun x10_42 ex10_42 => ?_)
                                    have h := h x10_42 ex10_42
                                    refine lv_lstore (lv' := [(10, .long x10_42), (0, .ref (K 49)), (1, .ref a1), (2, .int p2), (4, .int p4), (5, .ref a5), (6, .int x6_3), (7, .int x7_9), (12, .long x12_21)]) hx hb d_M_divided_356 hl (by decide) rfl (fun ls hl => ?_)
                                    refine lv_lload hx hb d_M_divided_358 (lv_at hl 8 rfl) ?_
                                    refine lv_aload_n hx hb d_M_divided_360 rfl (lv_at hl 1 rfl) ?_
                                    refine gs_get (v := .ref (K 60)) hx hb htw i_M hown hK hP (gMd_0 hΜ) rfl 13 (by decide) (htw _ mm_655) rfl d_M_divided_361 ?_
                                    refine lv_iload hx hb d_M_divided_364 (lv_at hl 4 rfl) ?_
                                    refine lv_iconst (v := (1 : Int32)) hx hb d_M_divided_366 (by decide) ?_
                                    refine lv_isub hx hb d_M_divided_367 ?_
                                    obtain ⟨hin, h⟩ := h
                                    refine gs_ild hx hb hK hP (gMd_60 hΜ) hin d_M_divided_368 ?_
                                    refine lv_i2l (v := ((A_9 (K 60) (p4 - (1 : Int32)).toNatClampNeg).toInt64)) hx hb d_M_divided_369 (by rfl) ?_
                                    refine lv_ladd hx hb d_M_divided_370 ?_
                                    refine lv_topl (fun x12_43 ex12_43 => ?_)
                                    have h := h x12_43 ex12_43
                                    refine lv_lstore (lv' := [(12, .long x12_43), (10, .long x10_42), (0, .ref (K 49)), (1, .ref a1), (2, .int p2), (4, .int p4), (5, .ref a5), (6, .int x6_3), (7, .int x7_9)]) hx hb d_M_divided_371 hl (by decide) rfl (fun ls hl => ?_)
                                    refine lv_lload hx hb d_M_divided_373 (lv_at hl 0 rfl) ?_
                                    refine lv_ldc2 (v := (65535 : Int64)) hx hb hown (htw _ mm_720) d_M_divided_375 ?_
                                    refine gl_le (tgt := 310) hx hb d_M_divided_378 d_M_divided_379 (by decide) (fun c_379 => ?_) (fun c_379 => ?_)
                                    · have h := h.1 c_379
                                      exact ih_310 x10_42 x12_43 _ _ _ (Nat.lt_of_lt_of_le h.2 (Nat.le_of_lt_succ hμ_310)) h.1 hP hS (lv_sub hl [2, 3, 4, 5, 6, 7, 8, 1, 0] rfl)
                                    · have h := h.2 c_379
                                      refine lv_goto (tgt := 385) hx hb d_M_divided_382 (by decide) ?_
                                      exact join_385 x10_42 _ _ _ h hP hS (lv_sub hl [2, 3, 4, 5, 6, 7, 8, 1] rfl)
                                  refine gl_gt (tgt := 352) hx hb d_M_divided_315 d_M_divided_316 (by decide) (fun c_316 => ?_) (fun c_316 => ?_)
                                  · have h := h.1 c_316
                                    exact join_352 _ _ _ h hP hS hl
                                  · have h := h.2 c_316
                                    refine lv_lload hx hb d_M_divided_319 (lv_at hl 7 rfl) ?_
                                    refine lv_aload_n hx hb d_M_divided_321 rfl (lv_at hl 0 rfl) ?_
                                    refine gs_get (v := .ref (K 60)) hx hb htw i_M hown hK hP (gMd_0 hΜ) rfl 13 (by decide) (htw _ mm_655) rfl d_M_divided_322 ?_
                                    refine lv_iload hx hb d_M_divided_325 (lv_at hl 3 rfl) ?_
                                    refine lv_iconst (v := (2 : Int32)) hx hb d_M_divided_327 (by decide) ?_
                                    refine lv_isub hx hb d_M_divided_328 ?_
                                    obtain ⟨hin, h⟩ := h
                                    refine gs_ild hx hb hK hP (gMd_60 hΜ) hin d_M_divided_329 ?_
                                    refine lv_i2l (v := ((A_9 (K 60) (p4 - (2 : Int32)).toNatClampNeg).toInt64)) hx hb d_M_divided_330 (by rfl) ?_
                                    refine lv_lmul hx hb d_M_divided_331 ?_
                                    refine lv_lload hx hb d_M_divided_332 (lv_at hl 8 rfl) ?_
                                    refine lv_bipush (v := (16 : Int32)) hx hb d_M_divided_334 (by decide) ?_
                                    refine lv_lshl (v := (j_lshl x12_21 (16 : Int32))) hx hb d_M_divided_336 rfl ?_
                                    refine lv_aload_n hx hb d_M_divided_337 rfl (lv_at hl 1 rfl) ?_
                                    refine lv_iload hx hb d_M_divided_338 (lv_at hl 6 rfl) ?_
                                    refine lv_iload hx hb d_M_divided_340 (lv_at hl 3 rfl) ?_
                                    refine lv_iadd hx hb d_M_divided_342 ?_
                                    refine lv_iconst (v := (2 : Int32)) hx hb d_M_divided_343 (by decide) ?_
                                    refine lv_isub hx hb d_M_divided_344 ?_
                                    obtain ⟨hin, h⟩ := h
                                    refine gs_ild hx hb hK hP h1 hin d_M_divided_345 ?_
                                    refine lv_i2l (v := ((A_9 a1 ((x7_9 + p4) - (2 : Int32)).toNatClampNeg).toInt64)) hx hb d_M_divided_346 (by rfl) ?_
                                    refine lv_lor hx hb d_M_divided_347 ?_
                                    refine gl_le (tgt := 385) hx hb d_M_divided_348 d_M_divided_349 (by decide) (fun c_349 => ?_) (fun c_349 => ?_)
                                    · have h := h.1 c_349
                                      exact join_385 x10_21 _ _ _ h hP hS (lv_sub hl [0, 1, 2, 3, 4, 5, 6, 7] rfl)
                                    · have h := h.2 c_349
                                      exact join_352 _ _ _ h hP hS hl
                              exact loop_310 (μ_310 x10_19 x12_20 + 1) x10_19 x12_20 _ _ _ (Nat.lt_succ_self _) h0_310 hP hS (lv_sub hl [3, 4, 5, 6, 7, 8, 9, 1, 0] rfl)
                        exact loop_251 (μ_251 x7_8 A_7 + 1) x7_8 A_7 _ _ _ (Nat.lt_succ_self _) h0_251 hP hS (lv_sub hl [1, 2, 3, 4, 5, 6, 0] rfl)
                      · have h := h.2 c_200
                        refine lv_aload_n hx hb d_M_divided_203 rfl (lv_at hl 1 rfl) ?_
                        refine lv_iload hx hb d_M_divided_204 (lv_at hl 6 rfl) ?_
                        refine lv_aload_n hx hb d_M_divided_206 rfl (lv_at hl 1 rfl) ?_
                        refine lv_iload hx hb d_M_divided_207 (lv_at hl 6 rfl) ?_
                        obtain ⟨hin, h⟩ := h
                        refine gs_ild hx hb hK hP h1 hin d_M_divided_209 ?_
                        refine lv_iload hx hb d_M_divided_210 (lv_at hl 5 rfl) ?_
                        refine lv_ishl hx hb d_M_divided_212 ?_
                        refine lv_iload hx hb d_M_divided_213 (lv_at hl 6 rfl) ?_
                        refine lv_if_le (tgt := 233) hx hb d_M_divided_215 (by decide) (fun c_215 => ?_) (fun c_215 => ?_)
                        · have h := h.1 c_215
                          refine lv_iconst (v := (0 : Int32)) hx hb d_M_divided_233 (by decide) ?_
                          refine lv_ior hx hb d_M_divided_234 ?_
                          refine lv_ldc (v := (65535 : Int32)) hx hb hown (htw _ mm_761) d_M_divided_235 ?_
                          refine lv_iand hx hb d_M_divided_237 ?_
                          obtain ⟨hin, h⟩ := h
                          refine gs_ist hx hb hK hlo hP hS h1 hin d_M_divided_238 (fun A_44 eA_44 H locs hP hS => ?_)
                          have h := h A_44 eA_44
                          obtain ⟨x7_45, ex7_45⟩ : ∃ y : Int32, y = x7_7 + (-1 : Int32) := ⟨_, rfl⟩
                          have h := h x7_45 ex7_45
                          refine lv_iinc (v := x7_45) (lv' := [(7, .int x7_45), (0, .ref (K 49)), (1, .ref a1), (2, .int p2), (4, .int p4), (5, .ref a5), (6, .int x6_3)]) hx hb d_M_divided_239 hl (k := 6) rfl (by rw [ex7_45]; rfl) (by decide) rfl (fun ls hl => ?_)
                          refine lv_goto (tgt := 198) hx hb d_M_divided_242 (by decide) ?_
                          exact ih_198 x7_45 A_44 _ _ _ (Nat.lt_of_lt_of_le h.2 (Nat.le_of_lt_succ hμ_198)) h.1 hP hS (lv_sub hl [1, 2, 3, 4, 5, 6, 0] rfl)
                        · have h := h.2 c_215
                          refine lv_aload_n hx hb d_M_divided_218 rfl (lv_at hl 1 rfl) ?_
                          refine lv_iload hx hb d_M_divided_219 (lv_at hl 6 rfl) ?_
                          refine lv_iconst (v := (1 : Int32)) hx hb d_M_divided_221 (by decide) ?_
                          refine lv_isub hx hb d_M_divided_222 ?_
                          obtain ⟨hin, h⟩ := h
                          refine gs_ild hx hb hK hP h1 hin d_M_divided_223 ?_
                          refine lv_bipush (v := (16 : Int32)) hx hb d_M_divided_224 (by decide) ?_
                          refine lv_iload hx hb d_M_divided_226 (lv_at hl 5 rfl) ?_
                          refine lv_isub hx hb d_M_divided_228 ?_
                          refine lv_ishr hx hb d_M_divided_229 ?_
                          refine lv_goto (tgt := 234) hx hb d_M_divided_230 (by decide) ?_
                          refine lv_ior hx hb d_M_divided_234 ?_
                          refine lv_ldc (v := (65535 : Int32)) hx hb hown (htw _ mm_761) d_M_divided_235 ?_
                          refine lv_iand hx hb d_M_divided_237 ?_
                          obtain ⟨hin, h⟩ := h
                          refine gs_ist hx hb hK hlo hP hS h1 hin d_M_divided_238 (fun A_46 eA_46 H locs hP hS => ?_)
                          have h := h A_46 eA_46
                          obtain ⟨x7_47, ex7_47⟩ : ∃ y : Int32, y = x7_7 + (-1 : Int32) := ⟨_, rfl⟩
                          have h := h x7_47 ex7_47
                          refine lv_iinc (v := x7_47) (lv' := [(7, .int x7_47), (0, .ref (K 49)), (1, .ref a1), (2, .int p2), (4, .int p4), (5, .ref a5), (6, .int x6_3)]) hx hb d_M_divided_239 hl (k := 6) rfl (by rw [ex7_47]; rfl) (by decide) rfl (fun ls hl => ?_)
                          refine lv_goto (tgt := 198) hx hb d_M_divided_242 (by decide) ?_
                          exact ih_198 x7_47 A_46 _ _ _ (Nat.lt_of_lt_of_le h.2 (Nat.le_of_lt_succ hμ_198)) h.1 hP hS (lv_sub hl [1, 2, 3, 4, 5, 6, 0] rfl)
                  exact loop_198 (μ_198 p2 A_6 + 1) p2 A_6 _ _ _ (Nat.lt_succ_self _) h0_198 hP hS (lv_sub hl [1, 2, 3, 5, 6, 7, 0] rfl)
                · have h := h.2 c_143
                  refine lv_aload_n hx hb d_M_divided_146 rfl (lv_at hl 0 rfl) ?_
                  refine gs_get (v := .ref (K 60)) hx hb htw i_M hown hK hP (gMd_0 hΜ) rfl 13 (by decide) (htw _ mm_655) rfl d_M_divided_147 ?_
                  refine lv_iload hx hb d_M_divided_150 (lv_at hl 7 rfl) ?_
                  refine lv_aload_n hx hb d_M_divided_152 rfl (lv_at hl 3 rfl) ?_
                  refine lv_iload hx hb d_M_divided_153 (lv_at hl 7 rfl) ?_
                  obtain ⟨hin, h⟩ := h
                  refine gs_ild hx hb hK hP h3 hin d_M_divided_155 ?_
                  refine lv_iload hx hb d_M_divided_156 (lv_at hl 6 rfl) ?_
                  refine lv_ishl hx hb d_M_divided_158 ?_
                  refine lv_iload hx hb d_M_divided_159 (lv_at hl 7 rfl) ?_
                  refine lv_if_le (tgt := 179) hx hb d_M_divided_161 (by decide) (fun c_161 => ?_) (fun c_161 => ?_)
                  · have h := h.1 c_161
                    refine lv_iconst (v := (0 : Int32)) hx hb d_M_divided_179 (by decide) ?_
                    refine lv_ior hx hb d_M_divided_180 ?_
                    refine lv_ldc (v := (65535 : Int32)) hx hb hown (htw _ mm_761) d_M_divided_181 ?_
                    refine lv_iand hx hb d_M_divided_183 ?_
                    obtain ⟨hin, h⟩ := h
                    refine gs_ist hx hb hK hlo hP hS (gMd_60 hΜ) hin d_M_divided_184 (fun A_48 eA_48 H locs hP hS => ?_)
                    have h := h A_48 eA_48
                    obtain ⟨x7_49, ex7_49⟩ : ∃ y : Int32, y = x7_5 + (-1 : Int32) := ⟨_, rfl⟩
                    have h := h x7_49 ex7_49
                    refine lv_iinc (v := x7_49) (lv' := [(7, .int x7_49), (0, .ref (K 49)), (1, .ref a1), (2, .int p2), (3, .ref a3), (4, .int p4), (5, .ref a5), (6, .int x6_3)]) hx hb d_M_divided_185 hl (k := 7) rfl (by rw [ex7_49]; rfl) (by decide) rfl (fun ls hl => ?_)
                    refine lv_goto (tgt := 141) hx hb d_M_divided_188 (by decide) ?_
                    exact ih_141 x7_49 A_48 _ _ _ (Nat.lt_of_lt_of_le h.2 (Nat.le_of_lt_succ hμ_141)) h.1 hP hS (lv_sub hl [1, 2, 3, 4, 5, 6, 7, 0] rfl)
                  · have h := h.2 c_161
                    refine lv_aload_n hx hb d_M_divided_164 rfl (lv_at hl 3 rfl) ?_
                    refine lv_iload hx hb d_M_divided_165 (lv_at hl 7 rfl) ?_
                    refine lv_iconst (v := (1 : Int32)) hx hb d_M_divided_167 (by decide) ?_
                    refine lv_isub hx hb d_M_divided_168 ?_
                    obtain ⟨hin, h⟩ := h
                    refine gs_ild hx hb hK hP h3 hin d_M_divided_169 ?_
                    refine lv_bipush (v := (16 : Int32)) hx hb d_M_divided_170 (by decide) ?_
                    refine lv_iload hx hb d_M_divided_172 (lv_at hl 6 rfl) ?_
                    refine lv_isub hx hb d_M_divided_174 ?_
                    refine lv_ishr hx hb d_M_divided_175 ?_
                    refine lv_goto (tgt := 180) hx hb d_M_divided_176 (by decide) ?_
                    refine lv_ior hx hb d_M_divided_180 ?_
                    refine lv_ldc (v := (65535 : Int32)) hx hb hown (htw _ mm_761) d_M_divided_181 ?_
                    refine lv_iand hx hb d_M_divided_183 ?_
                    obtain ⟨hin, h⟩ := h
                    refine gs_ist hx hb hK hlo hP hS (gMd_60 hΜ) hin d_M_divided_184 (fun A_50 eA_50 H locs hP hS => ?_)
                    have h := h A_50 eA_50
                    obtain ⟨x7_51, ex7_51⟩ : ∃ y : Int32, y = x7_5 + (-1 : Int32) := ⟨_, rfl⟩
                    have h := h x7_51 ex7_51
                    refine lv_iinc (v := x7_51) (lv' := [(7, .int x7_51), (0, .ref (K 49)), (1, .ref a1), (2, .int p2), (3, .ref a3), (4, .int p4), (5, .ref a5), (6, .int x6_3)]) hx hb d_M_divided_185 hl (k := 7) rfl (by rw [ex7_51]; rfl) (by decide) rfl (fun ls hl => ?_)
                    refine lv_goto (tgt := 141) hx hb d_M_divided_188 (by decide) ?_
                    exact ih_141 x7_51 A_50 _ _ _ (Nat.lt_of_lt_of_le h.2 (Nat.le_of_lt_succ hμ_141)) h.1 hP hS (lv_sub hl [1, 2, 3, 4, 5, 6, 7, 0] rfl)
            exact loop_141 (μ_141 x7_4 A + 1) x7_4 A _ _ _ (Nat.lt_succ_self _) h0_141 hP hS (lv_sub hl [1, 2, 3, 4, 5, 6, 7, 0] rfl)
          · have h := h.2 c_120
            obtain ⟨x6_52, ex6_52⟩ : ∃ y : Int32, y = x6_3 + (1 : Int32) := ⟨_, rfl⟩
            have h := h x6_52 ex6_52
            refine lv_iinc (v := x6_52) (lv' := [(6, .int x6_52), (0, .ref (K 49)), (1, .ref a1), (2, .int p2), (3, .ref a3), (4, .int p4), (5, .ref a5), (7, .int x7_3)]) hx hb d_M_divided_123 hl (k := 6) rfl (by rw [ex6_52]; rfl) (by decide) rfl (fun ls hl => ?_)
            refine lv_iload hx hb d_M_divided_126 (lv_at hl 7 rfl) ?_
            refine lv_iconst (v := (1 : Int32)) hx hb d_M_divided_128 (by decide) ?_
            refine lv_ishl hx hb d_M_divided_129 ?_
            refine lv_topi (fun x7_53 ex7_53 => ?_)
            have h := h x7_53 ex7_53
            refine lv_istore (lv' := [(7, .int x7_53), (6, .int x6_52), (0, .ref (K 49)), (1, .ref a1), (2, .int p2), (3, .ref a3), (4, .int p4), (5, .ref a5)]) hx hb d_M_divided_130 hl (by decide) rfl (fun ls hl => ?_)
            refine lv_goto (tgt := 116) hx hb d_M_divided_132 (by decide) ?_
            exact ih_116 x6_52 x7_53 _ _ _ (Nat.lt_of_lt_of_le h.2 (Nat.le_of_lt_succ hμ_116)) h.1 hP hS (lv_sub hl [2, 3, 4, 5, 6, 7, 1, 0] rfl)
      exact loop_116 (μ_116 (0 : Int32) x7_2 + 1) (0 : Int32) x7_2 _ _ _ (Nat.lt_succ_self _) h0_116 hP hS (lv_sub hl [2, 3, 4, 5, 6, 7, 1, 0] rfl)
    · have h := h.2 c_21
      refine lv_lconst (v := (0 : Int64)) hx hb d_M_divided_24 (by decide) ?_
      refine lv_lstore (lv' := [(6, .long (0 : Int64)), (0, .ref (K 49)), (1, .ref a1), (2, .int p2), (3, .ref a3), (4, .int p4), (5, .ref a5)]) hx hb d_M_divided_25 hl (by decide) rfl (fun ls hl => ?_)
      refine lv_iload_n hx hb d_M_divided_27 rfl (lv_at hl 3 rfl) ?_
      refine lv_iconst (v := (1 : Int32)) hx hb d_M_divided_28 (by decide) ?_
      refine lv_isub hx hb d_M_divided_29 ?_
      refine lv_topi (fun x8_54 ex8_54 => ?_)
      have h := h x8_54 ex8_54
      refine lv_istore (lv' := [(8, .int x8_54), (6, .long (0 : Int64)), (0, .ref (K 49)), (1, .ref a1), (2, .int p2), (3, .ref a3), (4, .int p4), (5, .ref a5)]) hx hb d_M_divided_30 hl (by decide) rfl (fun ls hl => ?_)
      obtain ⟨I_32, μ_32, h0_32, hs_32⟩ := h
      have loop_32 : ∀ (N : Nat) (x6_55 : Int64) (x8_55 : Int32) (A_55 : gm_M) (H : Heap) (locs : List Loc) (ls : Array Slot), μ_32 x6_55 x8_55 A_55 < N → I_32 x6_55 x8_55 A_55 → va_P D gcls (gs_ws Λ F A_55 L) H → va_S (gw_A Λ) s.heap H locs → lv_has ls 18 [(0, .ref (K 49)), (1, .ref a1), (2, .int p2), (3, .ref a3), (5, .ref a5), (6, .long x6_55), (8, .int x8_55)] → W p l e rm_M_divided s m args below meth c H locs 0 0 Q (F0 m 32 ls []) := by
        intro N
        induction N with
        | zero => intro x6_55 x8_55 A_55 H locs ls hμ; exact absurd hμ (Nat.not_lt_zero _)
        | succ N ih_32 =>
          intro x6_55 x8_55 A_55 H locs ls hμ_32 hI hP hS hl
          have h := hs_32 x6_55 x8_55 A_55 hI
          refine lv_iload hx hb d_M_divided_32 (lv_at hl 6 rfl) ?_
          refine lv_if_lt (tgt := 83) hx hb d_M_divided_34 (by decide) (fun c_34 => ?_) (fun c_34 => ?_)
          · have h := h.1 c_34
            refine lv_aload_n hx hb d_M_divided_83 rfl (lv_at hl 0 rfl) ?_
            refine lv_aload hx hb d_M_divided_84 (lv_at hl 4 rfl) ?_
            refine lv_iload_n hx hb d_M_divided_86 rfl (lv_at hl 2 rfl) ?_
            refine gw_goi (gw_runS (As := [.ref a5, .int p2]) (rest := [.ref (K 49)]) hx hb hml hown htw hK hP hS hl.1 (w_M_trim hlo a5 n5 p2 h5 F A_55 _ h) k_M_trim mm_725 ⟨Nat.le_of_ble_eq_true rfl, Nat.le_of_ble_eq_true rfl⟩ rfl rfl rfl rfl (Nat.le_of_ble_eq_true rfl) d_M_divided_87) hS (fun r_56 F_56 A_56 H locs hw hP hS => ?_)
            obtain ⟨rfl, hw⟩ := hw
            obtain ⟨rfl, hw⟩ := hw
            have h := hw
            refine gs_put (ty := .int) hx hb htw i_M tf_M tf_M_ok n_M hown hK hlo hP hS (gMd_0 hΜ) rfl 12 (by decide) rfl (htw _ mm_654) rfl (by decide +kernel) rfl rfl d_M_divided_90 (fun F_57 eF_57 H locs hP hS => ?_)
            have h := h F_57 eF_57
            refine lv_aload_n hx hb d_M_divided_93 rfl (lv_at hl 1 rfl) ?_
            refine lv_iconst (v := (0 : Int32)) hx hb d_M_divided_94 (by decide) ?_
            refine lv_lload hx hb d_M_divided_95 (lv_at hl 5 rfl) ?_
            refine lv_l2i (v := (x6_55.toInt32)) hx hb d_M_divided_97 (by rfl) ?_
            obtain ⟨hin, h⟩ := h
            refine gs_ist hx hb hK hlo hP hS h1 hin d_M_divided_98 (fun A_58 eA_58 H locs hP hS => ?_)
            have h := h A_58 eA_58
            refine lv_aload_n hx hb d_M_divided_99 rfl (lv_at hl 1 rfl) ?_
            refine lv_iconst (v := (1 : Int32)) hx hb d_M_divided_100 (by decide) ?_
            refine gw_goi (gw_runS (As := [.ref a1, .int (1 : Int32)]) (rest := []) hx hb hml hown htw hK hP hS hl.1 (w_M_trim hlo a1 n1 (1 : Int32) h1 F_57 A_58 _ h) k_M_trim mm_725 ⟨Nat.le_of_ble_eq_true rfl, Nat.le_of_ble_eq_true rfl⟩ rfl rfl rfl rfl (Nat.le_of_ble_eq_true rfl) d_M_divided_101) hS (fun r_59 F_59 A_59 H locs hw hP hS => ?_)
            obtain ⟨rfl, hw⟩ := hw
            obtain ⟨rfl, hw⟩ := hw
            have h := hw
            rw [← hQe]
            exact gw_iret hx hb hr hlocks hP hK hS h d_M_divided_104
          · have h := h.2 c_34
            refine lv_lload hx hb d_M_divided_37 (lv_at hl 5 rfl) ?_
            refine lv_bipush (v := (16 : Int32)) hx hb d_M_divided_39 (by decide) ?_
            refine lv_lshl (v := (j_lshl x6_55 (16 : Int32))) hx hb d_M_divided_41 rfl ?_
            refine lv_aload_n hx hb d_M_divided_42 rfl (lv_at hl 1 rfl) ?_
            refine lv_iload hx hb d_M_divided_43 (lv_at hl 6 rfl) ?_
            obtain ⟨hin, h⟩ := h
            refine gs_ild hx hb hK hP h1 hin d_M_divided_45 ?_
            refine lv_i2l (v := ((A_55 a1 x8_55.toNatClampNeg).toInt64)) hx hb d_M_divided_46 (by rfl) ?_
            refine lv_lor hx hb d_M_divided_47 ?_
            refine lv_topl (fun x6_60 ex6_60 => ?_)
            have h := h x6_60 ex6_60
            refine lv_lstore (lv' := [(6, .long x6_60), (0, .ref (K 49)), (1, .ref a1), (2, .int p2), (3, .ref a3), (5, .ref a5), (8, .int x8_55)]) hx hb d_M_divided_48 hl (by decide) rfl (fun ls hl => ?_)
            refine lv_aload hx hb d_M_divided_50 (lv_at hl 5 rfl) ?_
            refine lv_iload hx hb d_M_divided_52 (lv_at hl 6 rfl) ?_
            refine lv_lload hx hb d_M_divided_54 (lv_at hl 0 rfl) ?_
            refine lv_aload_n hx hb d_M_divided_56 rfl (lv_at hl 4 rfl) ?_
            refine lv_iconst (v := (0 : Int32)) hx hb d_M_divided_57 (by decide) ?_
            obtain ⟨hin, h⟩ := h
            refine gs_ild hx hb hK hP h3 hin d_M_divided_58 ?_
            refine lv_i2l (v := ((A_55 a3 (0 : Int32).toNatClampNeg).toInt64)) hx hb d_M_divided_59 (by rfl) ?_
            obtain ⟨hne, h⟩ := h
            refine lv_ldiv hx hb d_M_divided_60 hne ?_
            refine lv_l2i (v := ((x6_60 / ((A_55 a3 (0 : Int32).toNatClampNeg).toInt64)).toInt32)) hx hb d_M_divided_61 (by rfl) ?_
            obtain ⟨hin, h⟩ := h
            refine gs_ist hx hb hK hlo hP hS h5 hin d_M_divided_62 (fun A_61 eA_61 H locs hP hS => ?_)
            have h := h A_61 eA_61
            refine lv_lload hx hb d_M_divided_63 (lv_at hl 0 rfl) ?_
            refine lv_aload_n hx hb d_M_divided_65 rfl (lv_at hl 4 rfl) ?_
            refine lv_iconst (v := (0 : Int32)) hx hb d_M_divided_66 (by decide) ?_
            obtain ⟨hin, h⟩ := h
            refine gs_ild hx hb hK hP h3 hin d_M_divided_67 ?_
            refine lv_i2l (v := ((A_61 a3 (0 : Int32).toNatClampNeg).toInt64)) hx hb d_M_divided_68 (by rfl) ?_
            obtain ⟨hne, h⟩ := h
            refine lv_lrem hx hb d_M_divided_69 hne ?_
            refine lv_topl (fun x6_62 ex6_62 => ?_)
            have h := h x6_62 ex6_62
            refine lv_lstore (lv' := [(6, .long x6_62), (0, .ref (K 49)), (1, .ref a1), (2, .int p2), (3, .ref a3), (5, .ref a5), (8, .int x8_55)]) hx hb d_M_divided_70 hl (by decide) rfl (fun ls hl => ?_)
            refine lv_aload_n hx hb d_M_divided_72 rfl (lv_at hl 2 rfl) ?_
            refine lv_iload hx hb d_M_divided_73 (lv_at hl 6 rfl) ?_
            refine lv_iconst (v := (0 : Int32)) hx hb d_M_divided_75 (by decide) ?_
            obtain ⟨hin, h⟩ := h
            refine gs_ist hx hb hK hlo hP hS h1 hin d_M_divided_76 (fun A_63 eA_63 H locs hP hS => ?_)
            have h := h A_63 eA_63
            obtain ⟨x8_64, ex8_64⟩ : ∃ y : Int32, y = x8_55 + (-1 : Int32) := ⟨_, rfl⟩
            have h := h x8_64 ex8_64
            refine lv_iinc (v := x8_64) (lv' := [(8, .int x8_64), (6, .long x6_62), (0, .ref (K 49)), (1, .ref a1), (2, .int p2), (3, .ref a3), (5, .ref a5)]) hx hb d_M_divided_77 hl (k := 6) rfl (by rw [ex8_64]; rfl) (by decide) rfl (fun ls hl => ?_)
            refine lv_goto (tgt := 32) hx hb d_M_divided_80 (by decide) ?_
            exact ih_32 x6_62 x8_64 A_63 _ _ _ (Nat.lt_of_lt_of_le h.2 (Nat.le_of_lt_succ hμ_32)) h.1 hP hS (lv_sub hl [2, 3, 4, 5, 6, 1, 0] rfl)
      exact loop_32 (μ_32 (0 : Int64) x8_54 A + 1) (0 : Int64) x8_54 A _ _ _ (Nat.lt_succ_self _) h0_32 hP hS (lv_sub hl [2, 3, 4, 5, 7, 1, 0] rfl)
  · have h := h.2 c_8
    refine lv_aload_n hx hb d_M_divided_11 rfl (lv_at hl 0 rfl) ?_
    refine lv_iconst (v := (0 : Int32)) hx hb d_M_divided_12 (by decide) ?_
    refine gs_put (ty := .int) hx hb htw i_M tf_M tf_M_ok n_M hown hK hlo hP hS (gMd_0 hΜ) rfl 12 (by decide) rfl (htw _ mm_654) rfl (by decide +kernel) rfl rfl d_M_divided_13 (fun F_65 eF_65 H locs hP hS => ?_)
    have h := h F_65 eF_65
    refine lv_iload_n hx hb d_M_divided_16 rfl (lv_at hl 2 rfl) ?_
    rw [← hQe]
    exact gw_iret hx hb hr hlocks hP hK hS h d_M_divided_17
