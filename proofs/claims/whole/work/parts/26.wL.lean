variable {l : Launch} {D : va_G} {cI cB cJ cW : ClassId} {Λ : gs_L} {L : Nat → Nat → Int64}
theorem mm_112 : (.methodLink R_L 7 y_K_set : Cond) ∈ gw_WS := gw_r1 112 (by decide +kernel) (by decide +kernel)
theorem mm_213 : (.methodLink R_L 15 y_K_line : Cond) ∈ gw_WS := gw_r1 213 (by decide +kernel) (by decide +kernel)
theorem mm_252 : (.methodLink R_L 21 y_K_read : Cond) ∈ gw_WS := gw_r2 12 (by decide +kernel) (by decide +kernel)
theorem mm_315 : (.methodLink R_L 27 y_K_show : Cond) ∈ gw_WS := gw_r2 75 (by decide +kernel) (by decide +kernel)
theorem mm_386 : (.methodLink R_L 30 y_K_letter : Cond) ∈ gw_WS := gw_r2 146 (by decide +kernel) (by decide +kernel)
theorem mm_394 : (.methodLink R_L 34 y_K_work : Cond) ∈ gw_WS := gw_r2 154 (by decide +kernel) (by decide +kernel)
theorem mm_444 : (.methodLink R_L 38 y_K_divide : Cond) ∈ gw_WS := gw_r2 204 (by decide +kernel) (by decide +kernel)
theorem mm_506 : (.methodLink R_L 42 y_K_shift : Cond) ∈ gw_WS := gw_r3 26 (by decide +kernel) (by decide +kernel)
theorem mm_532 : (.methodLink R_L 46 y_K_bits : Cond) ∈ gw_WS := gw_r3 52 (by decide +kernel) (by decide +kernel)
theorem mm_550 : (.methodLink R_L 49 y_K_power : Cond) ∈ gw_WS := gw_r3 70 (by decide +kernel) (by decide +kernel)
theorem mm_562 : (.methodLink R_L 52 y_K_residue : Cond) ∈ gw_WS := gw_r3 82 (by decide +kernel) (by decide +kernel)
theorem mm_583 : (.methodLink R_L 55 y_K_compare : Cond) ∈ gw_WS := gw_r3 103 (by decide +kernel) (by decide +kernel)
theorem mm_595 : (.methodLink R_L 58 y_K_small : Cond) ∈ gw_WS := gw_r3 115 (by decide +kernel) (by decide +kernel)
theorem mm_613 : (.methodLink R_L 62 y_K_low : Cond) ∈ gw_WS := gw_r3 133 (by decide +kernel) (by decide +kernel)
theorem mm_620 : (.methodLink R_L 65 y_K_folded : Cond) ∈ gw_WS := gw_r3 140 (by decide +kernel) (by decide +kernel)
theorem mm_632 : (.methodLink R_L 68 y_K_size : Cond) ∈ gw_WS := gw_r3 152 (by decide +kernel) (by decide +kernel)
abbrev rm_L_set : Room := { frames := 8, cells := 1, slots := 6, locals := 126 }
abbrev hh_L_set : List (Nat × Nat × Nat × Nat) := [(0, 11, 14, 13)]
set_option maxHeartbeats 4000000 in
set_option maxRecDepth 100000 in
theorem w_L_set (hfl : l.stackTraces = false) (hlo : gs_D Λ) (K : Nat → Nat) (p2 : Int32) (p3 : Int64) (hΛ : gK cI cB cW Λ K) (hO : (K 63, gJ cJ 1) ∈ Λ) (L : lm_M) (F A : gm_M) (post : Int32 → gm_M → gm_M → lm_M → Prop) (h : vc_L_set K p2 p3 L F A post) : Met l y_L_set (.codeWith y_L_set b_L_set 6 (some .int) hh_L_set :: gw_WS) rm_L_set (va_Pc [.ref (K 0), .int p2, .long p3, .ref (K 63)] (gw_PL D cI cB cJ cW Λ L F A)) (gl_Q D cI cB cJ cW Λ post) 1 6 (gw_A Λ) := by
  refine va_MetW (cc := b_L_set) (maxL := 6) (ret := (some .int)) (hh := hh_L_set) (by decide) rfl ?_
  intro p e s m args below meth c s₁ B hml hv
  obtain ⟨hargs, ⟨⟨hP, hK⟩, hN⟩, hno2, hno3⟩ := hv
  have hx := B.exec
  have hb := B.bytes
  have hr := B.returns
  have hlocks := B.notSynchronized
  have hts := atoms_spec (ws := .codeWith y_L_set b_L_set 6 (some .int) hh_L_set :: gw_WS) B.pre
  have htw : ∀ w ∈ gw_WS, w.before args s = true := fun w h9 => hts w (List.mem_cons_of_mem _ h9)
  have hown : s.vm.findClass "LimbDeskLaw" = some m.cls := findClass_of_methodNamed B.named
  obtain ⟨m9, meth9, c9, hn9, hm9, hc9, -, -, htab, -, -, -⟩ := Cond.codeWith_spec (hts _ List.mem_cons_self)
  cases B.named.symm.trans hn9
  cases B.method.symm.trans hm9
  cases (Stand.of_body B).code.symm.trans hc9
  have hS : va_S (gw_A Λ) s.heap s.heap [] := va_S.rf
  refine W.eq (g2 := entryFrame m ([.ref (K 0), .int p2, .long p3, .ref (K 63)] : List Value).toArray 6) (by rw [hargs]) ?_
  have hl := lv_entry ([.ref (K 0), .int p2, .long p3, .ref (K 63)]) (n := 6) (Nat.le_of_ble_eq_true rfl)
  rw [lg_entry_eq]
  generalize (lg_sl ([.ref (K 0), .int p2, .long p3, .ref (K 63)]) ++ List.replicate (6 - (lg_sl ([.ref (K 0), .int p2, .long p3, .ref (K 63)])).length) Slot.unset).toArray = ls at hl ⊢
  have hl : lv_has ls 6 [(0, .ref (K 0)), (1, .int p2), (2, .long p3), (4, .ref (K 63))] := hl
  generalize hQe : MQ below (gl_Q D cI cB cJ cW Λ post) args s 1 6 (gw_A Λ) = Q
  unfold vc_L_set at h
  refine lv_aload hx hb d_L_set_0 (lv_at hl 3 rfl) ?_
  refine lv_iconst (v := (0 : Int32)) hx hb d_L_set_2 (by decide) ?_
  refine lv_aload_n hx hb d_L_set_3 rfl (lv_at hl 0 rfl) ?_
  refine lv_iload_n hx hb d_L_set_4 rfl (lv_at hl 1 rfl) ?_
  refine lv_lload_n hx hb d_L_set_5 rfl (lv_at hl 2 rfl) ?_
  refine gx_goi (gx_runV (As := [.int p2, .long p3]) (rest := [.int (0 : Int32), .ref (K 63)]) hx hb hml hown htw gx_blind (gx_pre hP hK hS hN) hK hP hl.1 (w_K_set hfl hlo K p2 p3 hΛ F A _ _ h) k_K_set mm_112 ⟨Nat.le_of_ble_eq_true rfl, Nat.le_of_ble_eq_true rfl⟩ (Nat.le_of_ble_eq_true rfl) (Nat.le_of_ble_eq_true rfl) (gK_0 hΛ) rfl rfl rfl (Nat.le_of_ble_eq_true rfl) d_L_set_6) hS (fun r_1 F_1 A_1 H locs hw hP hS => ?_) (fun x_1 k_1 F_1 A_1 H locs hw hP hS => ?_)
  · have h := hw
    refine lv_i2l (v := (r_1.toInt64)) hx hb d_L_set_9 (by rfl) ?_
    refine gs_lst hx hb hK hlo hP hS hO (i := (0 : Int32)) (vp_in_nI (n := 0) (by decide) (by decide)) d_L_set_10 (fun L1 eL1 H locs hP hS => ?_)
    have h := h L1 eL1
    refine lv_goto (tgt := 18) hx hb d_L_set_11 (by decide) ?_
    refine lv_iconst (v := (0 : Int32)) hx hb d_L_set_18 (by decide) ?_
    refine W.widen (k := 1) (n := 6) (by omega) (by omega) ?_
    rw [← hQe]
    exact gl_ret hx hb hr hlocks hP hK hS h d_L_set_19
  · obtain ⟨rfl, h⟩ := hw
    refine gh_first (k := 1) hown htw htab cl_13 (by decide) (by decide) ?_
    refine lv_astore (lv' := [(5, .ref x_1), (0, .ref (K 0)), (1, .int p2), (2, .long p3), (4, .ref (K 63))]) hx hb d_L_set_14 hl (by decide) rfl (fun ls hl => ?_)
    refine lv_iconst (v := (1 : Int32)) hx hb d_L_set_16 (by decide) ?_
    refine W.widen (k := 1) (n := 6) (by omega) (by omega) ?_
    rw [← hQe]
    exact gl_ret hx hb hr hlocks hP hK hS h d_L_set_17
abbrev rm_L_line : Room := { frames := 7, cells := 1, slots := 6, locals := 105 }
abbrev hh_L_line : List (Nat × Nat × Nat × Nat) := [(0, 9, 12, 13), (0, 9, 16, 19)]
set_option maxHeartbeats 4000000 in
set_option maxRecDepth 100000 in
theorem w_L_line (hfl : l.stackTraces = false) (hlo : gs_D Λ) (K : Nat → Nat) (p2 : Int64) (hΛ : gK cI cB cW Λ K) (hO : (K 63, gJ cJ 1) ∈ Λ) (L : lm_M) (F A : gm_M) (post : Int32 → gm_M → gm_M → lm_M → Prop) (h : vc_L_line K p2 L F A post) : Met l y_L_line (.codeWith y_L_line b_L_line 5 (some .int) hh_L_line :: gw_WS) rm_L_line (va_Pc [.ref (K 0), .long p2, .ref (K 63)] (gw_PL D cI cB cJ cW Λ L F A)) (gl_Q D cI cB cJ cW Λ post) 1 6 (gw_A Λ) := by
  refine va_MetW (cc := b_L_line) (maxL := 5) (ret := (some .int)) (hh := hh_L_line) (by decide) rfl ?_
  intro p e s m args below meth c s₁ B hml hv
  obtain ⟨hargs, ⟨⟨hP, hK⟩, hN⟩, hno2, hno3⟩ := hv
  have hx := B.exec
  have hb := B.bytes
  have hr := B.returns
  have hlocks := B.notSynchronized
  have hts := atoms_spec (ws := .codeWith y_L_line b_L_line 5 (some .int) hh_L_line :: gw_WS) B.pre
  have htw : ∀ w ∈ gw_WS, w.before args s = true := fun w h9 => hts w (List.mem_cons_of_mem _ h9)
  have hown : s.vm.findClass "LimbDeskLaw" = some m.cls := findClass_of_methodNamed B.named
  obtain ⟨m9, meth9, c9, hn9, hm9, hc9, -, -, htab, -, -, -⟩ := Cond.codeWith_spec (hts _ List.mem_cons_self)
  cases B.named.symm.trans hn9
  cases B.method.symm.trans hm9
  cases (Stand.of_body B).code.symm.trans hc9
  have hS : va_S (gw_A Λ) s.heap s.heap [] := va_S.rf
  refine W.eq (g2 := entryFrame m ([.ref (K 0), .long p2, .ref (K 63)] : List Value).toArray 5) (by rw [hargs]) ?_
  have hl := lv_entry ([.ref (K 0), .long p2, .ref (K 63)]) (n := 5) (Nat.le_of_ble_eq_true rfl)
  rw [lg_entry_eq]
  generalize (lg_sl ([.ref (K 0), .long p2, .ref (K 63)]) ++ List.replicate (5 - (lg_sl ([.ref (K 0), .long p2, .ref (K 63)])).length) Slot.unset).toArray = ls at hl ⊢
  have hl : lv_has ls 5 [(0, .ref (K 0)), (1, .long p2), (3, .ref (K 63))] := hl
  generalize hQe : MQ below (gl_Q D cI cB cJ cW Λ post) args s 1 6 (gw_A Λ) = Q
  unfold vc_L_line at h
  refine lv_aload_n hx hb d_L_line_0 rfl (lv_at hl 2 rfl) ?_
  refine lv_iconst (v := (0 : Int32)) hx hb d_L_line_1 (by decide) ?_
  refine lv_aload_n hx hb d_L_line_2 rfl (lv_at hl 0 rfl) ?_
  refine lv_lload_n hx hb d_L_line_3 rfl (lv_at hl 1 rfl) ?_
  refine gx_goi (gx_runV (As := [.long p2]) (rest := [.int (0 : Int32), .ref (K 63)]) hx hb hml hown htw gx_blind (gx_pre hP hK hS hN) hK hP hl.1 (w_K_line hfl hlo K p2 hΛ F A _ _ h) k_K_line mm_213 ⟨Nat.le_of_ble_eq_true rfl, Nat.le_of_ble_eq_true rfl⟩ (Nat.le_of_ble_eq_true rfl) (Nat.le_of_ble_eq_true rfl) (gK_0 hΛ) rfl rfl rfl (Nat.le_of_ble_eq_true rfl) d_L_line_4) hS (fun r_1 F_1 A_1 H locs hw hP hS => ?_) (fun x_1 k_1 F_1 A_1 H locs hw hP hS => ?_)
  · have h := hw
    refine lv_i2l (v := (r_1.toInt64)) hx hb d_L_line_7 (by rfl) ?_
    refine gs_lst hx hb hK hlo hP hS hO (i := (0 : Int32)) (vp_in_nI (n := 0) (by decide) (by decide)) d_L_line_8 (fun L1 eL1 H locs hP hS => ?_)
    have h := h L1 eL1
    refine lv_goto (tgt := 20) hx hb d_L_line_9 (by decide) ?_
    refine lv_iconst (v := (0 : Int32)) hx hb d_L_line_20 (by decide) ?_
    refine W.widen (k := 1) (n := 6) (by omega) (by omega) ?_
    rw [← hQe]
    exact gl_ret hx hb hr hlocks hP hK hS h d_L_line_21
  · rcases hw with ⟨rfl, h⟩ | ⟨rfl, h⟩
    · refine gh_first (k := 1) hown htw htab cl_13 (by decide) (by decide) ?_
      refine lv_astore (lv' := [(4, .ref x_1), (0, .ref (K 0)), (1, .long p2), (3, .ref (K 63))]) hx hb d_L_line_12 hl (by decide) rfl (fun ls hl => ?_)
      refine lv_iconst (v := (1 : Int32)) hx hb d_L_line_14 (by decide) ?_
      refine W.widen (k := 1) (n := 6) (by omega) (by omega) ?_
      rw [← hQe]
      exact gl_ret hx hb hr hlocks hP hK hS h d_L_line_15
    · refine gh_second (k := 2) (k0 := 1) hown htw htab cl_13 cl_19 hno2 (by decide) (by decide) (by decide) (by decide) ?_
      refine lv_astore (lv' := [(4, .ref x_1), (0, .ref (K 0)), (1, .long p2), (3, .ref (K 63))]) hx hb d_L_line_16 hl (by decide) rfl (fun ls hl => ?_)
      refine lv_iconst (v := (2 : Int32)) hx hb d_L_line_18 (by decide) ?_
      refine W.widen (k := 1) (n := 6) (by omega) (by omega) ?_
      rw [← hQe]
      exact gl_ret hx hb hr hlocks hP hK hS h d_L_line_19
abbrev rm_L_read : Room := { frames := 9, cells := 1, slots := 6, locals := 147 }
abbrev hh_L_read : List (Nat × Nat × Nat × Nat) := [(0, 10, 13, 13), (0, 10, 17, 25)]
set_option maxHeartbeats 4000000 in
set_option maxRecDepth 100000 in
theorem w_L_read (hfl : l.stackTraces = false) (hlo : gs_D Λ) (K : Nat → Nat) (p2 : Int32) (p3 : Int32) (hΛ : gK cI cB cW Λ K) (hO : (K 63, gJ cJ 1) ∈ Λ) (L : lm_M) (F A : gm_M) (post : Int32 → gm_M → gm_M → lm_M → Prop) (h : vc_L_read K p2 p3 L F A post) : Met l y_L_read (.codeWith y_L_read b_L_read 5 (some .int) hh_L_read :: gw_WS) rm_L_read (va_Pc [.ref (K 0), .int p2, .int p3, .ref (K 63)] (gw_PL D cI cB cJ cW Λ L F A)) (gl_Q D cI cB cJ cW Λ post) 1 6 (gw_A Λ) := by
  refine va_MetW (cc := b_L_read) (maxL := 5) (ret := (some .int)) (hh := hh_L_read) (by decide) rfl ?_
  intro p e s m args below meth c s₁ B hml hv
  obtain ⟨hargs, ⟨⟨hP, hK⟩, hN⟩, hno2, hno3⟩ := hv
  have hx := B.exec
  have hb := B.bytes
  have hr := B.returns
  have hlocks := B.notSynchronized
  have hts := atoms_spec (ws := .codeWith y_L_read b_L_read 5 (some .int) hh_L_read :: gw_WS) B.pre
  have htw : ∀ w ∈ gw_WS, w.before args s = true := fun w h9 => hts w (List.mem_cons_of_mem _ h9)
  have hown : s.vm.findClass "LimbDeskLaw" = some m.cls := findClass_of_methodNamed B.named
  obtain ⟨m9, meth9, c9, hn9, hm9, hc9, -, -, htab, -, -, -⟩ := Cond.codeWith_spec (hts _ List.mem_cons_self)
  cases B.named.symm.trans hn9
  cases B.method.symm.trans hm9
  cases (Stand.of_body B).code.symm.trans hc9
  have hS : va_S (gw_A Λ) s.heap s.heap [] := va_S.rf
  refine W.eq (g2 := entryFrame m ([.ref (K 0), .int p2, .int p3, .ref (K 63)] : List Value).toArray 5) (by rw [hargs]) ?_
  have hl := lv_entry ([.ref (K 0), .int p2, .int p3, .ref (K 63)]) (n := 5) (Nat.le_of_ble_eq_true rfl)
  rw [lg_entry_eq]
  generalize (lg_sl ([.ref (K 0), .int p2, .int p3, .ref (K 63)]) ++ List.replicate (5 - (lg_sl ([.ref (K 0), .int p2, .int p3, .ref (K 63)])).length) Slot.unset).toArray = ls at hl ⊢
  have hl : lv_has ls 5 [(0, .ref (K 0)), (1, .int p2), (2, .int p3), (3, .ref (K 63))] := hl
  generalize hQe : MQ below (gl_Q D cI cB cJ cW Λ post) args s 1 6 (gw_A Λ) = Q
  unfold vc_L_read at h
  refine lv_aload_n hx hb d_L_read_0 rfl (lv_at hl 3 rfl) ?_
  refine lv_iconst (v := (0 : Int32)) hx hb d_L_read_1 (by decide) ?_
  refine lv_aload_n hx hb d_L_read_2 rfl (lv_at hl 0 rfl) ?_
  refine lv_iload_n hx hb d_L_read_3 rfl (lv_at hl 1 rfl) ?_
  refine lv_iload_n hx hb d_L_read_4 rfl (lv_at hl 2 rfl) ?_
  refine gx_goi (gx_runV (As := [.int p2, .int p3]) (rest := [.int (0 : Int32), .ref (K 63)]) hx hb hml hown htw gx_blind (gx_pre hP hK hS hN) hK hP hl.1 (w_K_read hfl hlo K p2 p3 hΛ F A _ _ h) k_K_read mm_252 ⟨Nat.le_of_ble_eq_true rfl, Nat.le_of_ble_eq_true rfl⟩ (Nat.le_of_ble_eq_true rfl) (Nat.le_of_ble_eq_true rfl) (gK_0 hΛ) rfl rfl rfl (Nat.le_of_ble_eq_true rfl) d_L_read_5) hS (fun r_1 F_1 A_1 H locs hw hP hS => ?_) (fun x_1 k_1 F_1 A_1 H locs hw hP hS => ?_)
  · have h := hw
    refine lv_i2l (v := (r_1.toInt64)) hx hb d_L_read_8 (by rfl) ?_
    refine gs_lst hx hb hK hlo hP hS hO (i := (0 : Int32)) (vp_in_nI (n := 0) (by decide) (by decide)) d_L_read_9 (fun L1 eL1 H locs hP hS => ?_)
    have h := h L1 eL1
    refine lv_goto (tgt := 21) hx hb d_L_read_10 (by decide) ?_
    refine lv_iconst (v := (0 : Int32)) hx hb d_L_read_21 (by decide) ?_
    refine W.widen (k := 1) (n := 6) (by omega) (by omega) ?_
    rw [← hQe]
    exact gl_ret hx hb hr hlocks hP hK hS h d_L_read_22
  · rcases hw with ⟨rfl, h⟩ | ⟨rfl, h⟩
    · refine gh_first (k := 1) hown htw htab cl_13 (by decide) (by decide) ?_
      refine lv_astore (lv' := [(4, .ref x_1), (0, .ref (K 0)), (1, .int p2), (2, .int p3), (3, .ref (K 63))]) hx hb d_L_read_13 hl (by decide) rfl (fun ls hl => ?_)
      refine lv_iconst (v := (1 : Int32)) hx hb d_L_read_15 (by decide) ?_
      refine W.widen (k := 1) (n := 6) (by omega) (by omega) ?_
      rw [← hQe]
      exact gl_ret hx hb hr hlocks hP hK hS h d_L_read_16
    · refine gh_second (k := 3) (k0 := 1) hown htw htab cl_13 cl_25 hno3 (by decide) (by decide) (by decide) (by decide) ?_
      refine lv_astore (lv' := [(4, .ref x_1), (0, .ref (K 0)), (1, .int p2), (2, .int p3), (3, .ref (K 63))]) hx hb d_L_read_17 hl (by decide) rfl (fun ls hl => ?_)
      refine lv_iconst (v := (2 : Int32)) hx hb d_L_read_19 (by decide) ?_
      refine W.widen (k := 1) (n := 6) (by omega) (by omega) ?_
      rw [← hQe]
      exact gl_ret hx hb hr hlocks hP hK hS h d_L_read_20
abbrev rm_L_show : Room := { frames := 8, cells := 1, slots := 6, locals := 159 }
abbrev hh_L_show : List (Nat × Nat × Nat × Nat) := [(0, 10, 13, 13)]
set_option maxHeartbeats 4000000 in
set_option maxRecDepth 100000 in
theorem w_L_show (hfl : l.stackTraces = false) (hlo : gs_D Λ) (K : Nat → Nat) (p2 : Int32) (p3 : Int32) (hΛ : gK cI cB cW Λ K) (hO : (K 63, gJ cJ 1) ∈ Λ) (L : lm_M) (F A : gm_M) (post : Int32 → gm_M → gm_M → lm_M → Prop) (h : vc_L_show K p2 p3 L F A post) : Met l y_L_show (.codeWith y_L_show b_L_show 5 (some .int) hh_L_show :: gw_WS) rm_L_show (va_Pc [.ref (K 0), .int p2, .int p3, .ref (K 63)] (gw_PL D cI cB cJ cW Λ L F A)) (gl_Q D cI cB cJ cW Λ post) 1 6 (gw_A Λ) := by
  refine va_MetW (cc := b_L_show) (maxL := 5) (ret := (some .int)) (hh := hh_L_show) (by decide) rfl ?_
  intro p e s m args below meth c s₁ B hml hv
  obtain ⟨hargs, ⟨⟨hP, hK⟩, hN⟩, hno2, hno3⟩ := hv
  have hx := B.exec
  have hb := B.bytes
  have hr := B.returns
  have hlocks := B.notSynchronized
  have hts := atoms_spec (ws := .codeWith y_L_show b_L_show 5 (some .int) hh_L_show :: gw_WS) B.pre
  have htw : ∀ w ∈ gw_WS, w.before args s = true := fun w h9 => hts w (List.mem_cons_of_mem _ h9)
  have hown : s.vm.findClass "LimbDeskLaw" = some m.cls := findClass_of_methodNamed B.named
  obtain ⟨m9, meth9, c9, hn9, hm9, hc9, -, -, htab, -, -, -⟩ := Cond.codeWith_spec (hts _ List.mem_cons_self)
  cases B.named.symm.trans hn9
  cases B.method.symm.trans hm9
  cases (Stand.of_body B).code.symm.trans hc9
  have hS : va_S (gw_A Λ) s.heap s.heap [] := va_S.rf
  refine W.eq (g2 := entryFrame m ([.ref (K 0), .int p2, .int p3, .ref (K 63)] : List Value).toArray 5) (by rw [hargs]) ?_
  have hl := lv_entry ([.ref (K 0), .int p2, .int p3, .ref (K 63)]) (n := 5) (Nat.le_of_ble_eq_true rfl)
  rw [lg_entry_eq]
  generalize (lg_sl ([.ref (K 0), .int p2, .int p3, .ref (K 63)]) ++ List.replicate (5 - (lg_sl ([.ref (K 0), .int p2, .int p3, .ref (K 63)])).length) Slot.unset).toArray = ls at hl ⊢
  have hl : lv_has ls 5 [(0, .ref (K 0)), (1, .int p2), (2, .int p3), (3, .ref (K 63))] := hl
  generalize hQe : MQ below (gl_Q D cI cB cJ cW Λ post) args s 1 6 (gw_A Λ) = Q
  unfold vc_L_show at h
  refine lv_aload_n hx hb d_L_show_0 rfl (lv_at hl 3 rfl) ?_
  refine lv_iconst (v := (0 : Int32)) hx hb d_L_show_1 (by decide) ?_
  refine lv_aload_n hx hb d_L_show_2 rfl (lv_at hl 0 rfl) ?_
  refine lv_iload_n hx hb d_L_show_3 rfl (lv_at hl 1 rfl) ?_
  refine lv_iload_n hx hb d_L_show_4 rfl (lv_at hl 2 rfl) ?_
  refine gx_goi (gx_runV (As := [.int p2, .int p3]) (rest := [.int (0 : Int32), .ref (K 63)]) hx hb hml hown htw gx_blind (gx_pre hP hK hS hN) hK hP hl.1 (w_K_show hfl hlo K p2 p3 hΛ F A _ _ h) k_K_show mm_315 ⟨Nat.le_of_ble_eq_true rfl, Nat.le_of_ble_eq_true rfl⟩ (Nat.le_of_ble_eq_true rfl) (Nat.le_of_ble_eq_true rfl) (gK_0 hΛ) rfl rfl rfl (Nat.le_of_ble_eq_true rfl) d_L_show_5) hS (fun r_1 F_1 A_1 H locs hw hP hS => ?_) (fun x_1 k_1 F_1 A_1 H locs hw hP hS => ?_)
  · have h := hw
    refine lv_i2l (v := (r_1.toInt64)) hx hb d_L_show_8 (by rfl) ?_
    refine gs_lst hx hb hK hlo hP hS hO (i := (0 : Int32)) (vp_in_nI (n := 0) (by decide) (by decide)) d_L_show_9 (fun L1 eL1 H locs hP hS => ?_)
    have h := h L1 eL1
    refine lv_goto (tgt := 17) hx hb d_L_show_10 (by decide) ?_
    refine lv_iconst (v := (0 : Int32)) hx hb d_L_show_17 (by decide) ?_
    refine W.widen (k := 1) (n := 6) (by omega) (by omega) ?_
    rw [← hQe]
    exact gl_ret hx hb hr hlocks hP hK hS h d_L_show_18
  · obtain ⟨rfl, h⟩ := hw
    refine gh_first (k := 1) hown htw htab cl_13 (by decide) (by decide) ?_
    refine lv_astore (lv' := [(4, .ref x_1), (0, .ref (K 0)), (1, .int p2), (2, .int p3), (3, .ref (K 63))]) hx hb d_L_show_13 hl (by decide) rfl (fun ls hl => ?_)
    refine lv_iconst (v := (1 : Int32)) hx hb d_L_show_15 (by decide) ?_
    refine W.widen (k := 1) (n := 6) (by omega) (by omega) ?_
    rw [← hQe]
    exact gl_ret hx hb hr hlocks hP hK hS h d_L_show_16
abbrev rm_L_letter : Room := { frames := 7, cells := 1, slots := 6, locals := 103 }
abbrev hh_L_letter : List (Nat × Nat × Nat × Nat) := [(0, 9, 12, 19)]
set_option maxHeartbeats 4000000 in
set_option maxRecDepth 100000 in
theorem w_L_letter (hfl : l.stackTraces = false) (hlo : gs_D Λ) (K : Nat → Nat) (p2 : Int32) (hΛ : gK cI cB cW Λ K) (hO : (K 63, gJ cJ 1) ∈ Λ) (L : lm_M) (F A : gm_M) (post : Int32 → gm_M → gm_M → lm_M → Prop) (h : vc_L_letter K p2 L F A post) : Met l y_L_letter (.codeWith y_L_letter b_L_letter 4 (some .int) hh_L_letter :: gw_WS) rm_L_letter (va_Pc [.ref (K 0), .int p2, .ref (K 63)] (gw_PL D cI cB cJ cW Λ L F A)) (gl_Q D cI cB cJ cW Λ post) 1 6 (gw_A Λ) := by
  refine va_MetW (cc := b_L_letter) (maxL := 4) (ret := (some .int)) (hh := hh_L_letter) (by decide) rfl ?_
  intro p e s m args below meth c s₁ B hml hv
  obtain ⟨hargs, ⟨⟨hP, hK⟩, hN⟩, hno2, hno3⟩ := hv
  have hx := B.exec
  have hb := B.bytes
  have hr := B.returns
  have hlocks := B.notSynchronized
  have hts := atoms_spec (ws := .codeWith y_L_letter b_L_letter 4 (some .int) hh_L_letter :: gw_WS) B.pre
  have htw : ∀ w ∈ gw_WS, w.before args s = true := fun w h9 => hts w (List.mem_cons_of_mem _ h9)
  have hown : s.vm.findClass "LimbDeskLaw" = some m.cls := findClass_of_methodNamed B.named
  obtain ⟨m9, meth9, c9, hn9, hm9, hc9, -, -, htab, -, -, -⟩ := Cond.codeWith_spec (hts _ List.mem_cons_self)
  cases B.named.symm.trans hn9
  cases B.method.symm.trans hm9
  cases (Stand.of_body B).code.symm.trans hc9
  have hS : va_S (gw_A Λ) s.heap s.heap [] := va_S.rf
  refine W.eq (g2 := entryFrame m ([.ref (K 0), .int p2, .ref (K 63)] : List Value).toArray 4) (by rw [hargs]) ?_
  have hl := lv_entry ([.ref (K 0), .int p2, .ref (K 63)]) (n := 4) (Nat.le_of_ble_eq_true rfl)
  rw [lg_entry_eq]
  generalize (lg_sl ([.ref (K 0), .int p2, .ref (K 63)]) ++ List.replicate (4 - (lg_sl ([.ref (K 0), .int p2, .ref (K 63)])).length) Slot.unset).toArray = ls at hl ⊢
  have hl : lv_has ls 4 [(0, .ref (K 0)), (1, .int p2), (2, .ref (K 63))] := hl
  generalize hQe : MQ below (gl_Q D cI cB cJ cW Λ post) args s 1 6 (gw_A Λ) = Q
  unfold vc_L_letter at h
  refine lv_aload_n hx hb d_L_letter_0 rfl (lv_at hl 2 rfl) ?_
  refine lv_iconst (v := (0 : Int32)) hx hb d_L_letter_1 (by decide) ?_
  refine lv_aload_n hx hb d_L_letter_2 rfl (lv_at hl 0 rfl) ?_
  refine lv_iload_n hx hb d_L_letter_3 rfl (lv_at hl 1 rfl) ?_
  refine gx_goi (gx_runV (As := [.int p2]) (rest := [.int (0 : Int32), .ref (K 63)]) hx hb hml hown htw gx_blind (gx_pre hP hK hS hN) hK hP hl.1 (w_K_letter hfl hlo K p2 hΛ F A _ _ h) k_K_letter mm_386 ⟨Nat.le_of_ble_eq_true rfl, Nat.le_of_ble_eq_true rfl⟩ (Nat.le_of_ble_eq_true rfl) (Nat.le_of_ble_eq_true rfl) (gK_0 hΛ) rfl rfl rfl (Nat.le_of_ble_eq_true rfl) d_L_letter_4) hS (fun r_1 F_1 A_1 H locs hw hP hS => ?_) (fun x_1 k_1 F_1 A_1 H locs hw hP hS => ?_)
  · obtain ⟨rfl, hw⟩ := hw
    obtain ⟨rfl, hw⟩ := hw
    have h := hw
    refine lv_i2l (v := (r_1.toInt64)) hx hb d_L_letter_7 (by rfl) ?_
    refine gs_lst hx hb hK hlo hP hS hO (i := (0 : Int32)) (vp_in_nI (n := 0) (by decide) (by decide)) d_L_letter_8 (fun L1 eL1 H locs hP hS => ?_)
    have h := h L1 eL1
    refine lv_goto (tgt := 15) hx hb d_L_letter_9 (by decide) ?_
    refine lv_iconst (v := (0 : Int32)) hx hb d_L_letter_15 (by decide) ?_
    refine W.widen (k := 1) (n := 6) (by omega) (by omega) ?_
    rw [← hQe]
    exact gl_ret hx hb hr hlocks hP hK hS h d_L_letter_16
  · obtain ⟨rfl, h⟩ := hw
    refine gh_first (k := 2) hown htw htab cl_19 (by decide) (by decide) ?_
    refine lv_astore_n (lv' := [(3, .ref x_1), (0, .ref (K 0)), (1, .int p2), (2, .ref (K 63))]) hx hb d_L_letter_12 rfl hl (by decide) rfl (fun ls hl => ?_)
    refine lv_iconst (v := (1 : Int32)) hx hb d_L_letter_13 (by decide) ?_
    refine W.widen (k := 1) (n := 6) (by omega) (by omega) ?_
    rw [← hQe]
    exact gl_ret hx hb hr hlocks hP hK hS h d_L_letter_14
abbrev rm_L_work : Room := { frames := 9, cells := 1, slots := 6, locals := 150 }
abbrev hh_L_work : List (Nat × Nat × Nat × Nat) := [(0, 14, 17, 13), (0, 14, 21, 25)]
set_option maxHeartbeats 4000000 in
set_option maxRecDepth 100000 in
theorem w_L_work (hfl : l.stackTraces = false) (hlo : gs_D Λ) (K : Nat → Nat) (p2 : Int32) (p3 : Int32) (p4 : Int32) (p5 : Int32) (hΛ : gK cI cB cW Λ K) (hO : (K 63, gJ cJ 1) ∈ Λ) (L : lm_M) (F A : gm_M) (post : Int32 → gm_M → gm_M → lm_M → Prop) (h : vc_L_work K p2 p3 p4 p5 L F A post) : Met l y_L_work (.codeWith y_L_work b_L_work 7 (some .int) hh_L_work :: gw_WS) rm_L_work (va_Pc [.ref (K 0), .int p2, .int p3, .int p4, .int p5, .ref (K 63)] (gw_PL D cI cB cJ cW Λ L F A)) (gl_Q D cI cB cJ cW Λ post) 1 6 (gw_A Λ) := by
  refine va_MetW (cc := b_L_work) (maxL := 7) (ret := (some .int)) (hh := hh_L_work) (by decide) rfl ?_
  intro p e s m args below meth c s₁ B hml hv
  obtain ⟨hargs, ⟨⟨hP, hK⟩, hN⟩, hno2, hno3⟩ := hv
  have hx := B.exec
  have hb := B.bytes
  have hr := B.returns
  have hlocks := B.notSynchronized
  have hts := atoms_spec (ws := .codeWith y_L_work b_L_work 7 (some .int) hh_L_work :: gw_WS) B.pre
  have htw : ∀ w ∈ gw_WS, w.before args s = true := fun w h9 => hts w (List.mem_cons_of_mem _ h9)
  have hown : s.vm.findClass "LimbDeskLaw" = some m.cls := findClass_of_methodNamed B.named
  obtain ⟨m9, meth9, c9, hn9, hm9, hc9, -, -, htab, -, -, -⟩ := Cond.codeWith_spec (hts _ List.mem_cons_self)
  cases B.named.symm.trans hn9
  cases B.method.symm.trans hm9
  cases (Stand.of_body B).code.symm.trans hc9
  have hS : va_S (gw_A Λ) s.heap s.heap [] := va_S.rf
  refine W.eq (g2 := entryFrame m ([.ref (K 0), .int p2, .int p3, .int p4, .int p5, .ref (K 63)] : List Value).toArray 7) (by rw [hargs]) ?_
  have hl := lv_entry ([.ref (K 0), .int p2, .int p3, .int p4, .int p5, .ref (K 63)]) (n := 7) (Nat.le_of_ble_eq_true rfl)
  rw [lg_entry_eq]
  generalize (lg_sl ([.ref (K 0), .int p2, .int p3, .int p4, .int p5, .ref (K 63)]) ++ List.replicate (7 - (lg_sl ([.ref (K 0), .int p2, .int p3, .int p4, .int p5, .ref (K 63)])).length) Slot.unset).toArray = ls at hl ⊢
  have hl : lv_has ls 7 [(0, .ref (K 0)), (1, .int p2), (2, .int p3), (3, .int p4), (4, .int p5), (5, .ref (K 63))] := hl
  generalize hQe : MQ below (gl_Q D cI cB cJ cW Λ post) args s 1 6 (gw_A Λ) = Q
  unfold vc_L_work at h
  refine lv_aload hx hb d_L_work_0 (lv_at hl 5 rfl) ?_
  refine lv_iconst (v := (0 : Int32)) hx hb d_L_work_2 (by decide) ?_
  refine lv_aload_n hx hb d_L_work_3 rfl (lv_at hl 0 rfl) ?_
  refine lv_iload_n hx hb d_L_work_4 rfl (lv_at hl 1 rfl) ?_
  refine lv_iload_n hx hb d_L_work_5 rfl (lv_at hl 2 rfl) ?_
  refine lv_iload_n hx hb d_L_work_6 rfl (lv_at hl 3 rfl) ?_
  refine lv_iload hx hb d_L_work_7 (lv_at hl 4 rfl) ?_
  refine gx_goi (gx_runV (As := [.int p2, .int p3, .int p4, .int p5]) (rest := [.int (0 : Int32), .ref (K 63)]) hx hb hml hown htw gx_blind (gx_pre hP hK hS hN) hK hP hl.1 (w_K_work hfl hlo K p2 p3 p4 p5 hΛ F A _ _ h) k_K_work mm_394 ⟨Nat.le_of_ble_eq_true rfl, Nat.le_of_ble_eq_true rfl⟩ (Nat.le_of_ble_eq_true rfl) (Nat.le_of_ble_eq_true rfl) (gK_0 hΛ) rfl rfl rfl (Nat.le_of_ble_eq_true rfl) d_L_work_9) hS (fun r_1 F_1 A_1 H locs hw hP hS => ?_) (fun x_1 k_1 F_1 A_1 H locs hw hP hS => ?_)
  · have h := hw
    refine lv_i2l (v := (r_1.toInt64)) hx hb d_L_work_12 (by rfl) ?_
    refine gs_lst hx hb hK hlo hP hS hO (i := (0 : Int32)) (vp_in_nI (n := 0) (by decide) (by decide)) d_L_work_13 (fun L1 eL1 H locs hP hS => ?_)
    have h := h L1 eL1
    refine lv_goto (tgt := 25) hx hb d_L_work_14 (by decide) ?_
    refine lv_iconst (v := (0 : Int32)) hx hb d_L_work_25 (by decide) ?_
    refine W.widen (k := 1) (n := 6) (by omega) (by omega) ?_
    rw [← hQe]
    exact gl_ret hx hb hr hlocks hP hK hS h d_L_work_26
  · rcases hw with ⟨rfl, h⟩ | ⟨rfl, h⟩
    · refine gh_first (k := 1) hown htw htab cl_13 (by decide) (by decide) ?_
      refine lv_astore (lv' := [(6, .ref x_1), (0, .ref (K 0)), (1, .int p2), (2, .int p3), (3, .int p4), (4, .int p5), (5, .ref (K 63))]) hx hb d_L_work_17 hl (by decide) rfl (fun ls hl => ?_)
      refine lv_iconst (v := (1 : Int32)) hx hb d_L_work_19 (by decide) ?_
      refine W.widen (k := 1) (n := 6) (by omega) (by omega) ?_
      rw [← hQe]
      exact gl_ret hx hb hr hlocks hP hK hS h d_L_work_20
    · refine gh_second (k := 3) (k0 := 1) hown htw htab cl_13 cl_25 hno3 (by decide) (by decide) (by decide) (by decide) ?_
      refine lv_astore (lv' := [(6, .ref x_1), (0, .ref (K 0)), (1, .int p2), (2, .int p3), (3, .int p4), (4, .int p5), (5, .ref (K 63))]) hx hb d_L_work_21 hl (by decide) rfl (fun ls hl => ?_)
      refine lv_iconst (v := (2 : Int32)) hx hb d_L_work_23 (by decide) ?_
      refine W.widen (k := 1) (n := 6) (by omega) (by omega) ?_
      rw [← hQe]
      exact gl_ret hx hb hr hlocks hP hK hS h d_L_work_24
abbrev rm_L_divide : Room := { frames := 9, cells := 1, slots := 6, locals := 193 }
abbrev hh_L_divide : List (Nat × Nat × Nat × Nat) := [(0, 16, 19, 13), (0, 16, 23, 25)]
set_option maxHeartbeats 4000000 in
set_option maxRecDepth 100000 in
theorem w_L_divide (hfl : l.stackTraces = false) (hlo : gs_D Λ) (K : Nat → Nat) (p2 : Int32) (p3 : Int32) (p4 : Int32) (p5 : Int32) (p6 : Int32) (hΛ : gK cI cB cW Λ K) (hO : (K 63, gJ cJ 1) ∈ Λ) (L : lm_M) (F A : gm_M) (post : Int32 → gm_M → gm_M → lm_M → Prop) (h : vc_L_divide K p2 p3 p4 p5 p6 L F A post) : Met l y_L_divide (.codeWith y_L_divide b_L_divide 8 (some .int) hh_L_divide :: gw_WS) rm_L_divide (va_Pc [.ref (K 0), .int p2, .int p3, .int p4, .int p5, .int p6, .ref (K 63)] (gw_PL D cI cB cJ cW Λ L F A)) (gl_Q D cI cB cJ cW Λ post) 1 6 (gw_A Λ) := by
  refine va_MetW (cc := b_L_divide) (maxL := 8) (ret := (some .int)) (hh := hh_L_divide) (by decide) rfl ?_
  intro p e s m args below meth c s₁ B hml hv
  obtain ⟨hargs, ⟨⟨hP, hK⟩, hN⟩, hno2, hno3⟩ := hv
  have hx := B.exec
  have hb := B.bytes
  have hr := B.returns
  have hlocks := B.notSynchronized
  have hts := atoms_spec (ws := .codeWith y_L_divide b_L_divide 8 (some .int) hh_L_divide :: gw_WS) B.pre
  have htw : ∀ w ∈ gw_WS, w.before args s = true := fun w h9 => hts w (List.mem_cons_of_mem _ h9)
  have hown : s.vm.findClass "LimbDeskLaw" = some m.cls := findClass_of_methodNamed B.named
  obtain ⟨m9, meth9, c9, hn9, hm9, hc9, -, -, htab, -, -, -⟩ := Cond.codeWith_spec (hts _ List.mem_cons_self)
  cases B.named.symm.trans hn9
  cases B.method.symm.trans hm9
  cases (Stand.of_body B).code.symm.trans hc9
  have hS : va_S (gw_A Λ) s.heap s.heap [] := va_S.rf
  refine W.eq (g2 := entryFrame m ([.ref (K 0), .int p2, .int p3, .int p4, .int p5, .int p6, .ref (K 63)] : List Value).toArray 8) (by rw [hargs]) ?_
  have hl := lv_entry ([.ref (K 0), .int p2, .int p3, .int p4, .int p5, .int p6, .ref (K 63)]) (n := 8) (Nat.le_of_ble_eq_true rfl)
  rw [lg_entry_eq]
  generalize (lg_sl ([.ref (K 0), .int p2, .int p3, .int p4, .int p5, .int p6, .ref (K 63)]) ++ List.replicate (8 - (lg_sl ([.ref (K 0), .int p2, .int p3, .int p4, .int p5, .int p6, .ref (K 63)])).length) Slot.unset).toArray = ls at hl ⊢
  have hl : lv_has ls 8 [(0, .ref (K 0)), (1, .int p2), (2, .int p3), (3, .int p4), (4, .int p5), (5, .int p6), (6, .ref (K 63))] := hl
  generalize hQe : MQ below (gl_Q D cI cB cJ cW Λ post) args s 1 6 (gw_A Λ) = Q
  unfold vc_L_divide at h
  refine lv_aload hx hb d_L_divide_0 (lv_at hl 6 rfl) ?_
  refine lv_iconst (v := (0 : Int32)) hx hb d_L_divide_2 (by decide) ?_
  refine lv_aload_n hx hb d_L_divide_3 rfl (lv_at hl 0 rfl) ?_
  refine lv_iload_n hx hb d_L_divide_4 rfl (lv_at hl 1 rfl) ?_
  refine lv_iload_n hx hb d_L_divide_5 rfl (lv_at hl 2 rfl) ?_
  refine lv_iload_n hx hb d_L_divide_6 rfl (lv_at hl 3 rfl) ?_
  refine lv_iload hx hb d_L_divide_7 (lv_at hl 4 rfl) ?_
  refine lv_iload hx hb d_L_divide_9 (lv_at hl 5 rfl) ?_
  refine gx_goi (gx_runV (As := [.int p2, .int p3, .int p4, .int p5, .int p6]) (rest := [.int (0 : Int32), .ref (K 63)]) hx hb hml hown htw gx_blind (gx_pre hP hK hS hN) hK hP hl.1 (w_K_divide hfl hlo K p2 p3 p4 p5 p6 hΛ F A _ _ h) k_K_divide mm_444 ⟨Nat.le_of_ble_eq_true rfl, Nat.le_of_ble_eq_true rfl⟩ (Nat.le_of_ble_eq_true rfl) (Nat.le_of_ble_eq_true rfl) (gK_0 hΛ) rfl rfl rfl (Nat.le_of_ble_eq_true rfl) d_L_divide_11) hS (fun r_1 F_1 A_1 H locs hw hP hS => ?_) (fun x_1 k_1 F_1 A_1 H locs hw hP hS => ?_)
  · have h := hw
    refine lv_i2l (v := (r_1.toInt64)) hx hb d_L_divide_14 (by rfl) ?_
    refine gs_lst hx hb hK hlo hP hS hO (i := (0 : Int32)) (vp_in_nI (n := 0) (by decide) (by decide)) d_L_divide_15 (fun L1 eL1 H locs hP hS => ?_)
    have h := h L1 eL1
    refine lv_goto (tgt := 27) hx hb d_L_divide_16 (by decide) ?_
    refine lv_iconst (v := (0 : Int32)) hx hb d_L_divide_27 (by decide) ?_
    refine W.widen (k := 1) (n := 6) (by omega) (by omega) ?_
    rw [← hQe]
    exact gl_ret hx hb hr hlocks hP hK hS h d_L_divide_28
  · rcases hw with ⟨rfl, h⟩ | ⟨rfl, h⟩
    · refine gh_first (k := 1) hown htw htab cl_13 (by decide) (by decide) ?_
      refine lv_astore (lv' := [(7, .ref x_1), (0, .ref (K 0)), (1, .int p2), (2, .int p3), (3, .int p4), (4, .int p5), (5, .int p6), (6, .ref (K 63))]) hx hb d_L_divide_19 hl (by decide) rfl (fun ls hl => ?_)
      refine lv_iconst (v := (1 : Int32)) hx hb d_L_divide_21 (by decide) ?_
      refine W.widen (k := 1) (n := 6) (by omega) (by omega) ?_
      rw [← hQe]
      exact gl_ret hx hb hr hlocks hP hK hS h d_L_divide_22
    · refine gh_second (k := 3) (k0 := 1) hown htw htab cl_13 cl_25 hno3 (by decide) (by decide) (by decide) (by decide) ?_
      refine lv_astore (lv' := [(7, .ref x_1), (0, .ref (K 0)), (1, .int p2), (2, .int p3), (3, .int p4), (4, .int p5), (5, .int p6), (6, .ref (K 63))]) hx hb d_L_divide_23 hl (by decide) rfl (fun ls hl => ?_)
      refine lv_iconst (v := (2 : Int32)) hx hb d_L_divide_25 (by decide) ?_
      refine W.widen (k := 1) (n := 6) (by omega) (by omega) ?_
      rw [← hQe]
      exact gl_ret hx hb hr hlocks hP hK hS h d_L_divide_26
abbrev rm_L_shift : Room := { frames := 9, cells := 1, slots := 6, locals := 148 }
abbrev hh_L_shift : List (Nat × Nat × Nat × Nat) := [(0, 12, 15, 13), (0, 12, 19, 25)]
set_option maxHeartbeats 4000000 in
set_option maxRecDepth 100000 in
theorem w_L_shift (hfl : l.stackTraces = false) (hlo : gs_D Λ) (K : Nat → Nat) (p2 : Int32) (p3 : Int32) (p4 : Int32) (hΛ : gK cI cB cW Λ K) (hO : (K 63, gJ cJ 1) ∈ Λ) (L : lm_M) (F A : gm_M) (post : Int32 → gm_M → gm_M → lm_M → Prop) (h : vc_L_shift K p2 p3 p4 L F A post) : Met l y_L_shift (.codeWith y_L_shift b_L_shift 6 (some .int) hh_L_shift :: gw_WS) rm_L_shift (va_Pc [.ref (K 0), .int p2, .int p3, .int p4, .ref (K 63)] (gw_PL D cI cB cJ cW Λ L F A)) (gl_Q D cI cB cJ cW Λ post) 1 6 (gw_A Λ) := by
  refine va_MetW (cc := b_L_shift) (maxL := 6) (ret := (some .int)) (hh := hh_L_shift) (by decide) rfl ?_
  intro p e s m args below meth c s₁ B hml hv
  obtain ⟨hargs, ⟨⟨hP, hK⟩, hN⟩, hno2, hno3⟩ := hv
  have hx := B.exec
  have hb := B.bytes
  have hr := B.returns
  have hlocks := B.notSynchronized
  have hts := atoms_spec (ws := .codeWith y_L_shift b_L_shift 6 (some .int) hh_L_shift :: gw_WS) B.pre
  have htw : ∀ w ∈ gw_WS, w.before args s = true := fun w h9 => hts w (List.mem_cons_of_mem _ h9)
  have hown : s.vm.findClass "LimbDeskLaw" = some m.cls := findClass_of_methodNamed B.named
  obtain ⟨m9, meth9, c9, hn9, hm9, hc9, -, -, htab, -, -, -⟩ := Cond.codeWith_spec (hts _ List.mem_cons_self)
  cases B.named.symm.trans hn9
  cases B.method.symm.trans hm9
  cases (Stand.of_body B).code.symm.trans hc9
  have hS : va_S (gw_A Λ) s.heap s.heap [] := va_S.rf
  refine W.eq (g2 := entryFrame m ([.ref (K 0), .int p2, .int p3, .int p4, .ref (K 63)] : List Value).toArray 6) (by rw [hargs]) ?_
  have hl := lv_entry ([.ref (K 0), .int p2, .int p3, .int p4, .ref (K 63)]) (n := 6) (Nat.le_of_ble_eq_true rfl)
  rw [lg_entry_eq]
  generalize (lg_sl ([.ref (K 0), .int p2, .int p3, .int p4, .ref (K 63)]) ++ List.replicate (6 - (lg_sl ([.ref (K 0), .int p2, .int p3, .int p4, .ref (K 63)])).length) Slot.unset).toArray = ls at hl ⊢
  have hl : lv_has ls 6 [(0, .ref (K 0)), (1, .int p2), (2, .int p3), (3, .int p4), (4, .ref (K 63))] := hl
  generalize hQe : MQ below (gl_Q D cI cB cJ cW Λ post) args s 1 6 (gw_A Λ) = Q
  unfold vc_L_shift at h
  refine lv_aload hx hb d_L_shift_0 (lv_at hl 4 rfl) ?_
  refine lv_iconst (v := (0 : Int32)) hx hb d_L_shift_2 (by decide) ?_
  refine lv_aload_n hx hb d_L_shift_3 rfl (lv_at hl 0 rfl) ?_
  refine lv_iload_n hx hb d_L_shift_4 rfl (lv_at hl 1 rfl) ?_
  refine lv_iload_n hx hb d_L_shift_5 rfl (lv_at hl 2 rfl) ?_
  refine lv_iload_n hx hb d_L_shift_6 rfl (lv_at hl 3 rfl) ?_
  refine gx_goi (gx_runV (As := [.int p2, .int p3, .int p4]) (rest := [.int (0 : Int32), .ref (K 63)]) hx hb hml hown htw gx_blind (gx_pre hP hK hS hN) hK hP hl.1 (w_K_shift hfl hlo K p2 p3 p4 hΛ F A _ _ h) k_K_shift mm_506 ⟨Nat.le_of_ble_eq_true rfl, Nat.le_of_ble_eq_true rfl⟩ (Nat.le_of_ble_eq_true rfl) (Nat.le_of_ble_eq_true rfl) (gK_0 hΛ) rfl rfl rfl (Nat.le_of_ble_eq_true rfl) d_L_shift_7) hS (fun r_1 F_1 A_1 H locs hw hP hS => ?_) (fun x_1 k_1 F_1 A_1 H locs hw hP hS => ?_)
  · have h := hw
    refine lv_i2l (v := (r_1.toInt64)) hx hb d_L_shift_10 (by rfl) ?_
    refine gs_lst hx hb hK hlo hP hS hO (i := (0 : Int32)) (vp_in_nI (n := 0) (by decide) (by decide)) d_L_shift_11 (fun L1 eL1 H locs hP hS => ?_)
    have h := h L1 eL1
    refine lv_goto (tgt := 23) hx hb d_L_shift_12 (by decide) ?_
    refine lv_iconst (v := (0 : Int32)) hx hb d_L_shift_23 (by decide) ?_
    refine W.widen (k := 1) (n := 6) (by omega) (by omega) ?_
    rw [← hQe]
    exact gl_ret hx hb hr hlocks hP hK hS h d_L_shift_24
  · rcases hw with ⟨rfl, h⟩ | ⟨rfl, h⟩
    · refine gh_first (k := 1) hown htw htab cl_13 (by decide) (by decide) ?_
      refine lv_astore (lv' := [(5, .ref x_1), (0, .ref (K 0)), (1, .int p2), (2, .int p3), (3, .int p4), (4, .ref (K 63))]) hx hb d_L_shift_15 hl (by decide) rfl (fun ls hl => ?_)
      refine lv_iconst (v := (1 : Int32)) hx hb d_L_shift_17 (by decide) ?_
      refine W.widen (k := 1) (n := 6) (by omega) (by omega) ?_
      rw [← hQe]
      exact gl_ret hx hb hr hlocks hP hK hS h d_L_shift_18
    · refine gh_second (k := 3) (k0 := 1) hown htw htab cl_13 cl_25 hno3 (by decide) (by decide) (by decide) (by decide) ?_
      refine lv_astore (lv' := [(5, .ref x_1), (0, .ref (K 0)), (1, .int p2), (2, .int p3), (3, .int p4), (4, .ref (K 63))]) hx hb d_L_shift_19 hl (by decide) rfl (fun ls hl => ?_)
      refine lv_iconst (v := (2 : Int32)) hx hb d_L_shift_21 (by decide) ?_
      refine W.widen (k := 1) (n := 6) (by omega) (by omega) ?_
      rw [← hQe]
      exact gl_ret hx hb hr hlocks hP hK hS h d_L_shift_22
abbrev rm_L_bits : Room := { frames := 9, cells := 1, slots := 6, locals := 148 }
abbrev hh_L_bits : List (Nat × Nat × Nat × Nat) := [(0, 14, 17, 13), (0, 14, 21, 25)]
set_option maxHeartbeats 4000000 in
set_option maxRecDepth 100000 in
theorem w_L_bits (hfl : l.stackTraces = false) (hlo : gs_D Λ) (K : Nat → Nat) (p2 : Int32) (p3 : Int32) (p4 : Int32) (p5 : Int32) (hΛ : gK cI cB cW Λ K) (hO : (K 63, gJ cJ 1) ∈ Λ) (L : lm_M) (F A : gm_M) (post : Int32 → gm_M → gm_M → lm_M → Prop) (h : vc_L_bits K p2 p3 p4 p5 L F A post) : Met l y_L_bits (.codeWith y_L_bits b_L_bits 7 (some .int) hh_L_bits :: gw_WS) rm_L_bits (va_Pc [.ref (K 0), .int p2, .int p3, .int p4, .int p5, .ref (K 63)] (gw_PL D cI cB cJ cW Λ L F A)) (gl_Q D cI cB cJ cW Λ post) 1 6 (gw_A Λ) := by
  refine va_MetW (cc := b_L_bits) (maxL := 7) (ret := (some .int)) (hh := hh_L_bits) (by decide) rfl ?_
  intro p e s m args below meth c s₁ B hml hv
  obtain ⟨hargs, ⟨⟨hP, hK⟩, hN⟩, hno2, hno3⟩ := hv
  have hx := B.exec
  have hb := B.bytes
  have hr := B.returns
  have hlocks := B.notSynchronized
  have hts := atoms_spec (ws := .codeWith y_L_bits b_L_bits 7 (some .int) hh_L_bits :: gw_WS) B.pre
  have htw : ∀ w ∈ gw_WS, w.before args s = true := fun w h9 => hts w (List.mem_cons_of_mem _ h9)
  have hown : s.vm.findClass "LimbDeskLaw" = some m.cls := findClass_of_methodNamed B.named
  obtain ⟨m9, meth9, c9, hn9, hm9, hc9, -, -, htab, -, -, -⟩ := Cond.codeWith_spec (hts _ List.mem_cons_self)
  cases B.named.symm.trans hn9
  cases B.method.symm.trans hm9
  cases (Stand.of_body B).code.symm.trans hc9
  have hS : va_S (gw_A Λ) s.heap s.heap [] := va_S.rf
  refine W.eq (g2 := entryFrame m ([.ref (K 0), .int p2, .int p3, .int p4, .int p5, .ref (K 63)] : List Value).toArray 7) (by rw [hargs]) ?_
  have hl := lv_entry ([.ref (K 0), .int p2, .int p3, .int p4, .int p5, .ref (K 63)]) (n := 7) (Nat.le_of_ble_eq_true rfl)
  rw [lg_entry_eq]
  generalize (lg_sl ([.ref (K 0), .int p2, .int p3, .int p4, .int p5, .ref (K 63)]) ++ List.replicate (7 - (lg_sl ([.ref (K 0), .int p2, .int p3, .int p4, .int p5, .ref (K 63)])).length) Slot.unset).toArray = ls at hl ⊢
  have hl : lv_has ls 7 [(0, .ref (K 0)), (1, .int p2), (2, .int p3), (3, .int p4), (4, .int p5), (5, .ref (K 63))] := hl
  generalize hQe : MQ below (gl_Q D cI cB cJ cW Λ post) args s 1 6 (gw_A Λ) = Q
  unfold vc_L_bits at h
  refine lv_aload hx hb d_L_bits_0 (lv_at hl 5 rfl) ?_
  refine lv_iconst (v := (0 : Int32)) hx hb d_L_bits_2 (by decide) ?_
  refine lv_aload_n hx hb d_L_bits_3 rfl (lv_at hl 0 rfl) ?_
  refine lv_iload_n hx hb d_L_bits_4 rfl (lv_at hl 1 rfl) ?_
  refine lv_iload_n hx hb d_L_bits_5 rfl (lv_at hl 2 rfl) ?_
  refine lv_iload_n hx hb d_L_bits_6 rfl (lv_at hl 3 rfl) ?_
  refine lv_iload hx hb d_L_bits_7 (lv_at hl 4 rfl) ?_
  refine gx_goi (gx_runV (As := [.int p2, .int p3, .int p4, .int p5]) (rest := [.int (0 : Int32), .ref (K 63)]) hx hb hml hown htw gx_blind (gx_pre hP hK hS hN) hK hP hl.1 (w_K_bits hfl hlo K p2 p3 p4 p5 hΛ F A _ _ h) k_K_bits mm_532 ⟨Nat.le_of_ble_eq_true rfl, Nat.le_of_ble_eq_true rfl⟩ (Nat.le_of_ble_eq_true rfl) (Nat.le_of_ble_eq_true rfl) (gK_0 hΛ) rfl rfl rfl (Nat.le_of_ble_eq_true rfl) d_L_bits_9) hS (fun r_1 F_1 A_1 H locs hw hP hS => ?_) (fun x_1 k_1 F_1 A_1 H locs hw hP hS => ?_)
  · have h := hw
    refine lv_i2l (v := (r_1.toInt64)) hx hb d_L_bits_12 (by rfl) ?_
    refine gs_lst hx hb hK hlo hP hS hO (i := (0 : Int32)) (vp_in_nI (n := 0) (by decide) (by decide)) d_L_bits_13 (fun L1 eL1 H locs hP hS => ?_)
    have h := h L1 eL1
    refine lv_goto (tgt := 25) hx hb d_L_bits_14 (by decide) ?_
    refine lv_iconst (v := (0 : Int32)) hx hb d_L_bits_25 (by decide) ?_
    refine W.widen (k := 1) (n := 6) (by omega) (by omega) ?_
    rw [← hQe]
    exact gl_ret hx hb hr hlocks hP hK hS h d_L_bits_26
  · rcases hw with ⟨rfl, h⟩ | ⟨rfl, h⟩
    · refine gh_first (k := 1) hown htw htab cl_13 (by decide) (by decide) ?_
      refine lv_astore (lv' := [(6, .ref x_1), (0, .ref (K 0)), (1, .int p2), (2, .int p3), (3, .int p4), (4, .int p5), (5, .ref (K 63))]) hx hb d_L_bits_17 hl (by decide) rfl (fun ls hl => ?_)
      refine lv_iconst (v := (1 : Int32)) hx hb d_L_bits_19 (by decide) ?_
      refine W.widen (k := 1) (n := 6) (by omega) (by omega) ?_
      rw [← hQe]
      exact gl_ret hx hb hr hlocks hP hK hS h d_L_bits_20
    · refine gh_second (k := 3) (k0 := 1) hown htw htab cl_13 cl_25 hno3 (by decide) (by decide) (by decide) (by decide) ?_
      refine lv_astore (lv' := [(6, .ref x_1), (0, .ref (K 0)), (1, .int p2), (2, .int p3), (3, .int p4), (4, .int p5), (5, .ref (K 63))]) hx hb d_L_bits_21 hl (by decide) rfl (fun ls hl => ?_)
      refine lv_iconst (v := (2 : Int32)) hx hb d_L_bits_23 (by decide) ?_
      refine W.widen (k := 1) (n := 6) (by omega) (by omega) ?_
      rw [← hQe]
      exact gl_ret hx hb hr hlocks hP hK hS h d_L_bits_24
abbrev rm_L_power : Room := { frames := 9, cells := 1, slots := 6, locals := 148 }
abbrev hh_L_power : List (Nat × Nat × Nat × Nat) := [(0, 12, 15, 13), (0, 12, 19, 25)]
set_option maxHeartbeats 4000000 in
set_option maxRecDepth 100000 in
theorem w_L_power (hfl : l.stackTraces = false) (hlo : gs_D Λ) (K : Nat → Nat) (p2 : Int32) (p3 : Int32) (p4 : Int32) (hΛ : gK cI cB cW Λ K) (hO : (K 63, gJ cJ 1) ∈ Λ) (L : lm_M) (F A : gm_M) (post : Int32 → gm_M → gm_M → lm_M → Prop) (h : vc_L_power K p2 p3 p4 L F A post) : Met l y_L_power (.codeWith y_L_power b_L_power 6 (some .int) hh_L_power :: gw_WS) rm_L_power (va_Pc [.ref (K 0), .int p2, .int p3, .int p4, .ref (K 63)] (gw_PL D cI cB cJ cW Λ L F A)) (gl_Q D cI cB cJ cW Λ post) 1 6 (gw_A Λ) := by
  refine va_MetW (cc := b_L_power) (maxL := 6) (ret := (some .int)) (hh := hh_L_power) (by decide) rfl ?_
  intro p e s m args below meth c s₁ B hml hv
  obtain ⟨hargs, ⟨⟨hP, hK⟩, hN⟩, hno2, hno3⟩ := hv
  have hx := B.exec
  have hb := B.bytes
  have hr := B.returns
  have hlocks := B.notSynchronized
  have hts := atoms_spec (ws := .codeWith y_L_power b_L_power 6 (some .int) hh_L_power :: gw_WS) B.pre
  have htw : ∀ w ∈ gw_WS, w.before args s = true := fun w h9 => hts w (List.mem_cons_of_mem _ h9)
  have hown : s.vm.findClass "LimbDeskLaw" = some m.cls := findClass_of_methodNamed B.named
  obtain ⟨m9, meth9, c9, hn9, hm9, hc9, -, -, htab, -, -, -⟩ := Cond.codeWith_spec (hts _ List.mem_cons_self)
  cases B.named.symm.trans hn9
  cases B.method.symm.trans hm9
  cases (Stand.of_body B).code.symm.trans hc9
  have hS : va_S (gw_A Λ) s.heap s.heap [] := va_S.rf
  refine W.eq (g2 := entryFrame m ([.ref (K 0), .int p2, .int p3, .int p4, .ref (K 63)] : List Value).toArray 6) (by rw [hargs]) ?_
  have hl := lv_entry ([.ref (K 0), .int p2, .int p3, .int p4, .ref (K 63)]) (n := 6) (Nat.le_of_ble_eq_true rfl)
  rw [lg_entry_eq]
  generalize (lg_sl ([.ref (K 0), .int p2, .int p3, .int p4, .ref (K 63)]) ++ List.replicate (6 - (lg_sl ([.ref (K 0), .int p2, .int p3, .int p4, .ref (K 63)])).length) Slot.unset).toArray = ls at hl ⊢
  have hl : lv_has ls 6 [(0, .ref (K 0)), (1, .int p2), (2, .int p3), (3, .int p4), (4, .ref (K 63))] := hl
  generalize hQe : MQ below (gl_Q D cI cB cJ cW Λ post) args s 1 6 (gw_A Λ) = Q
  unfold vc_L_power at h
  refine lv_aload hx hb d_L_power_0 (lv_at hl 4 rfl) ?_
  refine lv_iconst (v := (0 : Int32)) hx hb d_L_power_2 (by decide) ?_
  refine lv_aload_n hx hb d_L_power_3 rfl (lv_at hl 0 rfl) ?_
  refine lv_iload_n hx hb d_L_power_4 rfl (lv_at hl 1 rfl) ?_
  refine lv_iload_n hx hb d_L_power_5 rfl (lv_at hl 2 rfl) ?_
  refine lv_iload_n hx hb d_L_power_6 rfl (lv_at hl 3 rfl) ?_
  refine gx_goi (gx_runV (As := [.int p2, .int p3, .int p4]) (rest := [.int (0 : Int32), .ref (K 63)]) hx hb hml hown htw gx_blind (gx_pre hP hK hS hN) hK hP hl.1 (w_K_power hfl hlo K p2 p3 p4 hΛ F A _ _ h) k_K_power mm_550 ⟨Nat.le_of_ble_eq_true rfl, Nat.le_of_ble_eq_true rfl⟩ (Nat.le_of_ble_eq_true rfl) (Nat.le_of_ble_eq_true rfl) (gK_0 hΛ) rfl rfl rfl (Nat.le_of_ble_eq_true rfl) d_L_power_7) hS (fun r_1 F_1 A_1 H locs hw hP hS => ?_) (fun x_1 k_1 F_1 A_1 H locs hw hP hS => ?_)
  · have h := hw
    refine lv_i2l (v := (r_1.toInt64)) hx hb d_L_power_10 (by rfl) ?_
    refine gs_lst hx hb hK hlo hP hS hO (i := (0 : Int32)) (vp_in_nI (n := 0) (by decide) (by decide)) d_L_power_11 (fun L1 eL1 H locs hP hS => ?_)
    have h := h L1 eL1
    refine lv_goto (tgt := 23) hx hb d_L_power_12 (by decide) ?_
    refine lv_iconst (v := (0 : Int32)) hx hb d_L_power_23 (by decide) ?_
    refine W.widen (k := 1) (n := 6) (by omega) (by omega) ?_
    rw [← hQe]
    exact gl_ret hx hb hr hlocks hP hK hS h d_L_power_24
  · rcases hw with ⟨rfl, h⟩ | ⟨rfl, h⟩
    · refine gh_first (k := 1) hown htw htab cl_13 (by decide) (by decide) ?_
      refine lv_astore (lv' := [(5, .ref x_1), (0, .ref (K 0)), (1, .int p2), (2, .int p3), (3, .int p4), (4, .ref (K 63))]) hx hb d_L_power_15 hl (by decide) rfl (fun ls hl => ?_)
      refine lv_iconst (v := (1 : Int32)) hx hb d_L_power_17 (by decide) ?_
      refine W.widen (k := 1) (n := 6) (by omega) (by omega) ?_
      rw [← hQe]
      exact gl_ret hx hb hr hlocks hP hK hS h d_L_power_18
    · refine gh_second (k := 3) (k0 := 1) hown htw htab cl_13 cl_25 hno3 (by decide) (by decide) (by decide) (by decide) ?_
      refine lv_astore (lv' := [(5, .ref x_1), (0, .ref (K 0)), (1, .int p2), (2, .int p3), (3, .int p4), (4, .ref (K 63))]) hx hb d_L_power_19 hl (by decide) rfl (fun ls hl => ?_)
      refine lv_iconst (v := (2 : Int32)) hx hb d_L_power_21 (by decide) ?_
      refine W.widen (k := 1) (n := 6) (by omega) (by omega) ?_
      rw [← hQe]
      exact gl_ret hx hb hr hlocks hP hK hS h d_L_power_22
abbrev rm_L_residue : Room := { frames := 9, cells := 1, slots := 6, locals := 214 }
abbrev hh_L_residue : List (Nat × Nat × Nat × Nat) := [(0, 14, 17, 13), (0, 14, 21, 25)]
set_option maxHeartbeats 4000000 in
set_option maxRecDepth 100000 in
theorem w_L_residue (hfl : l.stackTraces = false) (hlo : gs_D Λ) (K : Nat → Nat) (p2 : Int32) (p3 : Int32) (p4 : Int32) (p5 : Int32) (hΛ : gK cI cB cW Λ K) (hO : (K 63, gJ cJ 1) ∈ Λ) (L : lm_M) (F A : gm_M) (post : Int32 → gm_M → gm_M → lm_M → Prop) (h : vc_L_residue K p2 p3 p4 p5 L F A post) : Met l y_L_residue (.codeWith y_L_residue b_L_residue 7 (some .int) hh_L_residue :: gw_WS) rm_L_residue (va_Pc [.ref (K 0), .int p2, .int p3, .int p4, .int p5, .ref (K 63)] (gw_PL D cI cB cJ cW Λ L F A)) (gl_Q D cI cB cJ cW Λ post) 1 6 (gw_A Λ) := by
  refine va_MetW (cc := b_L_residue) (maxL := 7) (ret := (some .int)) (hh := hh_L_residue) (by decide) rfl ?_
  intro p e s m args below meth c s₁ B hml hv
  obtain ⟨hargs, ⟨⟨hP, hK⟩, hN⟩, hno2, hno3⟩ := hv
  have hx := B.exec
  have hb := B.bytes
  have hr := B.returns
  have hlocks := B.notSynchronized
  have hts := atoms_spec (ws := .codeWith y_L_residue b_L_residue 7 (some .int) hh_L_residue :: gw_WS) B.pre
  have htw : ∀ w ∈ gw_WS, w.before args s = true := fun w h9 => hts w (List.mem_cons_of_mem _ h9)
  have hown : s.vm.findClass "LimbDeskLaw" = some m.cls := findClass_of_methodNamed B.named
  obtain ⟨m9, meth9, c9, hn9, hm9, hc9, -, -, htab, -, -, -⟩ := Cond.codeWith_spec (hts _ List.mem_cons_self)
  cases B.named.symm.trans hn9
  cases B.method.symm.trans hm9
  cases (Stand.of_body B).code.symm.trans hc9
  have hS : va_S (gw_A Λ) s.heap s.heap [] := va_S.rf
  refine W.eq (g2 := entryFrame m ([.ref (K 0), .int p2, .int p3, .int p4, .int p5, .ref (K 63)] : List Value).toArray 7) (by rw [hargs]) ?_
  have hl := lv_entry ([.ref (K 0), .int p2, .int p3, .int p4, .int p5, .ref (K 63)]) (n := 7) (Nat.le_of_ble_eq_true rfl)
  rw [lg_entry_eq]
  generalize (lg_sl ([.ref (K 0), .int p2, .int p3, .int p4, .int p5, .ref (K 63)]) ++ List.replicate (7 - (lg_sl ([.ref (K 0), .int p2, .int p3, .int p4, .int p5, .ref (K 63)])).length) Slot.unset).toArray = ls at hl ⊢
  have hl : lv_has ls 7 [(0, .ref (K 0)), (1, .int p2), (2, .int p3), (3, .int p4), (4, .int p5), (5, .ref (K 63))] := hl
  generalize hQe : MQ below (gl_Q D cI cB cJ cW Λ post) args s 1 6 (gw_A Λ) = Q
  unfold vc_L_residue at h
  refine lv_aload hx hb d_L_residue_0 (lv_at hl 5 rfl) ?_
  refine lv_iconst (v := (0 : Int32)) hx hb d_L_residue_2 (by decide) ?_
  refine lv_aload_n hx hb d_L_residue_3 rfl (lv_at hl 0 rfl) ?_
  refine lv_iload_n hx hb d_L_residue_4 rfl (lv_at hl 1 rfl) ?_
  refine lv_iload_n hx hb d_L_residue_5 rfl (lv_at hl 2 rfl) ?_
  refine lv_iload_n hx hb d_L_residue_6 rfl (lv_at hl 3 rfl) ?_
  refine lv_iload hx hb d_L_residue_7 (lv_at hl 4 rfl) ?_
  refine gx_goi (gx_runV (As := [.int p2, .int p3, .int p4, .int p5]) (rest := [.int (0 : Int32), .ref (K 63)]) hx hb hml hown htw gx_blind (gx_pre hP hK hS hN) hK hP hl.1 (w_K_residue hfl hlo K p2 p3 p4 p5 hΛ F A _ _ h) k_K_residue mm_562 ⟨Nat.le_of_ble_eq_true rfl, Nat.le_of_ble_eq_true rfl⟩ (Nat.le_of_ble_eq_true rfl) (Nat.le_of_ble_eq_true rfl) (gK_0 hΛ) rfl rfl rfl (Nat.le_of_ble_eq_true rfl) d_L_residue_9) hS (fun r_1 F_1 A_1 H locs hw hP hS => ?_) (fun x_1 k_1 F_1 A_1 H locs hw hP hS => ?_)
  · have h := hw
    refine lv_i2l (v := (r_1.toInt64)) hx hb d_L_residue_12 (by rfl) ?_
    refine gs_lst hx hb hK hlo hP hS hO (i := (0 : Int32)) (vp_in_nI (n := 0) (by decide) (by decide)) d_L_residue_13 (fun L1 eL1 H locs hP hS => ?_)
    have h := h L1 eL1
    refine lv_goto (tgt := 25) hx hb d_L_residue_14 (by decide) ?_
    refine lv_iconst (v := (0 : Int32)) hx hb d_L_residue_25 (by decide) ?_
    refine W.widen (k := 1) (n := 6) (by omega) (by omega) ?_
    rw [← hQe]
    exact gl_ret hx hb hr hlocks hP hK hS h d_L_residue_26
  · rcases hw with ⟨rfl, h⟩ | ⟨rfl, h⟩
    · refine gh_first (k := 1) hown htw htab cl_13 (by decide) (by decide) ?_
      refine lv_astore (lv' := [(6, .ref x_1), (0, .ref (K 0)), (1, .int p2), (2, .int p3), (3, .int p4), (4, .int p5), (5, .ref (K 63))]) hx hb d_L_residue_17 hl (by decide) rfl (fun ls hl => ?_)
      refine lv_iconst (v := (1 : Int32)) hx hb d_L_residue_19 (by decide) ?_
      refine W.widen (k := 1) (n := 6) (by omega) (by omega) ?_
      rw [← hQe]
      exact gl_ret hx hb hr hlocks hP hK hS h d_L_residue_20
    · refine gh_second (k := 3) (k0 := 1) hown htw htab cl_13 cl_25 hno3 (by decide) (by decide) (by decide) (by decide) ?_
      refine lv_astore (lv' := [(6, .ref x_1), (0, .ref (K 0)), (1, .int p2), (2, .int p3), (3, .int p4), (4, .int p5), (5, .ref (K 63))]) hx hb d_L_residue_21 hl (by decide) rfl (fun ls hl => ?_)
      refine lv_iconst (v := (2 : Int32)) hx hb d_L_residue_23 (by decide) ?_
      refine W.widen (k := 1) (n := 6) (by omega) (by omega) ?_
      rw [← hQe]
      exact gl_ret hx hb hr hlocks hP hK hS h d_L_residue_24
abbrev rm_L_compare : Room := { frames := 8, cells := 1, slots := 6, locals := 124 }
abbrev hh_L_compare : List (Nat × Nat × Nat × Nat) := [(0, 10, 13, 13)]
set_option maxHeartbeats 4000000 in
set_option maxRecDepth 100000 in
theorem w_L_compare (hfl : l.stackTraces = false) (hlo : gs_D Λ) (K : Nat → Nat) (p2 : Int32) (p3 : Int32) (hΛ : gK cI cB cW Λ K) (hO : (K 63, gJ cJ 1) ∈ Λ) (L : lm_M) (F A : gm_M) (post : Int32 → gm_M → gm_M → lm_M → Prop) (h : vc_L_compare K p2 p3 L F A post) : Met l y_L_compare (.codeWith y_L_compare b_L_compare 5 (some .int) hh_L_compare :: gw_WS) rm_L_compare (va_Pc [.ref (K 0), .int p2, .int p3, .ref (K 63)] (gw_PL D cI cB cJ cW Λ L F A)) (gl_Q D cI cB cJ cW Λ post) 1 6 (gw_A Λ) := by
  refine va_MetW (cc := b_L_compare) (maxL := 5) (ret := (some .int)) (hh := hh_L_compare) (by decide) rfl ?_
  intro p e s m args below meth c s₁ B hml hv
  obtain ⟨hargs, ⟨⟨hP, hK⟩, hN⟩, hno2, hno3⟩ := hv
  have hx := B.exec
  have hb := B.bytes
  have hr := B.returns
  have hlocks := B.notSynchronized
  have hts := atoms_spec (ws := .codeWith y_L_compare b_L_compare 5 (some .int) hh_L_compare :: gw_WS) B.pre
  have htw : ∀ w ∈ gw_WS, w.before args s = true := fun w h9 => hts w (List.mem_cons_of_mem _ h9)
  have hown : s.vm.findClass "LimbDeskLaw" = some m.cls := findClass_of_methodNamed B.named
  obtain ⟨m9, meth9, c9, hn9, hm9, hc9, -, -, htab, -, -, -⟩ := Cond.codeWith_spec (hts _ List.mem_cons_self)
  cases B.named.symm.trans hn9
  cases B.method.symm.trans hm9
  cases (Stand.of_body B).code.symm.trans hc9
  have hS : va_S (gw_A Λ) s.heap s.heap [] := va_S.rf
  refine W.eq (g2 := entryFrame m ([.ref (K 0), .int p2, .int p3, .ref (K 63)] : List Value).toArray 5) (by rw [hargs]) ?_
  have hl := lv_entry ([.ref (K 0), .int p2, .int p3, .ref (K 63)]) (n := 5) (Nat.le_of_ble_eq_true rfl)
  rw [lg_entry_eq]
  generalize (lg_sl ([.ref (K 0), .int p2, .int p3, .ref (K 63)]) ++ List.replicate (5 - (lg_sl ([.ref (K 0), .int p2, .int p3, .ref (K 63)])).length) Slot.unset).toArray = ls at hl ⊢
  have hl : lv_has ls 5 [(0, .ref (K 0)), (1, .int p2), (2, .int p3), (3, .ref (K 63))] := hl
  generalize hQe : MQ below (gl_Q D cI cB cJ cW Λ post) args s 1 6 (gw_A Λ) = Q
  unfold vc_L_compare at h
  refine lv_aload_n hx hb d_L_compare_0 rfl (lv_at hl 3 rfl) ?_
  refine lv_iconst (v := (0 : Int32)) hx hb d_L_compare_1 (by decide) ?_
  refine lv_aload_n hx hb d_L_compare_2 rfl (lv_at hl 0 rfl) ?_
  refine lv_iload_n hx hb d_L_compare_3 rfl (lv_at hl 1 rfl) ?_
  refine lv_iload_n hx hb d_L_compare_4 rfl (lv_at hl 2 rfl) ?_
  refine gx_goi (gx_runV (As := [.int p2, .int p3]) (rest := [.int (0 : Int32), .ref (K 63)]) hx hb hml hown htw gx_blind (gx_pre hP hK hS hN) hK hP hl.1 (w_K_compare hfl hlo K p2 p3 hΛ F A _ _ h) k_K_compare mm_583 ⟨Nat.le_of_ble_eq_true rfl, Nat.le_of_ble_eq_true rfl⟩ (Nat.le_of_ble_eq_true rfl) (Nat.le_of_ble_eq_true rfl) (gK_0 hΛ) rfl rfl rfl (Nat.le_of_ble_eq_true rfl) d_L_compare_5) hS (fun r_1 F_1 A_1 H locs hw hP hS => ?_) (fun x_1 k_1 F_1 A_1 H locs hw hP hS => ?_)
  · obtain ⟨rfl, hw⟩ := hw
    obtain ⟨rfl, hw⟩ := hw
    have h := hw
    refine lv_i2l (v := (r_1.toInt64)) hx hb d_L_compare_8 (by rfl) ?_
    refine gs_lst hx hb hK hlo hP hS hO (i := (0 : Int32)) (vp_in_nI (n := 0) (by decide) (by decide)) d_L_compare_9 (fun L1 eL1 H locs hP hS => ?_)
    have h := h L1 eL1
    refine lv_goto (tgt := 17) hx hb d_L_compare_10 (by decide) ?_
    refine lv_iconst (v := (0 : Int32)) hx hb d_L_compare_17 (by decide) ?_
    refine W.widen (k := 1) (n := 6) (by omega) (by omega) ?_
    rw [← hQe]
    exact gl_ret hx hb hr hlocks hP hK hS h d_L_compare_18
  · obtain ⟨rfl, h⟩ := hw
    refine gh_first (k := 1) hown htw htab cl_13 (by decide) (by decide) ?_
    refine lv_astore (lv' := [(4, .ref x_1), (0, .ref (K 0)), (1, .int p2), (2, .int p3), (3, .ref (K 63))]) hx hb d_L_compare_13 hl (by decide) rfl (fun ls hl => ?_)
    refine lv_iconst (v := (1 : Int32)) hx hb d_L_compare_15 (by decide) ?_
    refine W.widen (k := 1) (n := 6) (by omega) (by omega) ?_
    rw [← hQe]
    exact gl_ret hx hb hr hlocks hP hK hS h d_L_compare_16
abbrev rm_L_small : Room := { frames := 8, cells := 1, slots := 6, locals := 123 }
abbrev hh_L_small : List (Nat × Nat × Nat × Nat) := [(0, 8, 11, 13), (0, 8, 14, 25)]
set_option maxHeartbeats 4000000 in
set_option maxRecDepth 100000 in
theorem w_L_small (hfl : l.stackTraces = false) (hlo : gs_D Λ) (K : Nat → Nat) (p2 : Int32) (hΛ : gK cI cB cW Λ K) (hO : (K 63, gJ cJ 1) ∈ Λ) (L : lm_M) (F A : gm_M) (post : Int32 → gm_M → gm_M → lm_M → Prop) (h : vc_L_small K p2 L F A post) : Met l y_L_small (.codeWith y_L_small b_L_small 4 (some .int) hh_L_small :: gw_WS) rm_L_small (va_Pc [.ref (K 0), .int p2, .ref (K 63)] (gw_PL D cI cB cJ cW Λ L F A)) (gl_Q D cI cB cJ cW Λ post) 1 6 (gw_A Λ) := by
  refine va_MetW (cc := b_L_small) (maxL := 4) (ret := (some .int)) (hh := hh_L_small) (by decide) rfl ?_
  intro p e s m args below meth c s₁ B hml hv
  obtain ⟨hargs, ⟨⟨hP, hK⟩, hN⟩, hno2, hno3⟩ := hv
  have hx := B.exec
  have hb := B.bytes
  have hr := B.returns
  have hlocks := B.notSynchronized
  have hts := atoms_spec (ws := .codeWith y_L_small b_L_small 4 (some .int) hh_L_small :: gw_WS) B.pre
  have htw : ∀ w ∈ gw_WS, w.before args s = true := fun w h9 => hts w (List.mem_cons_of_mem _ h9)
  have hown : s.vm.findClass "LimbDeskLaw" = some m.cls := findClass_of_methodNamed B.named
  obtain ⟨m9, meth9, c9, hn9, hm9, hc9, -, -, htab, -, -, -⟩ := Cond.codeWith_spec (hts _ List.mem_cons_self)
  cases B.named.symm.trans hn9
  cases B.method.symm.trans hm9
  cases (Stand.of_body B).code.symm.trans hc9
  have hS : va_S (gw_A Λ) s.heap s.heap [] := va_S.rf
  refine W.eq (g2 := entryFrame m ([.ref (K 0), .int p2, .ref (K 63)] : List Value).toArray 4) (by rw [hargs]) ?_
  have hl := lv_entry ([.ref (K 0), .int p2, .ref (K 63)]) (n := 4) (Nat.le_of_ble_eq_true rfl)
  rw [lg_entry_eq]
  generalize (lg_sl ([.ref (K 0), .int p2, .ref (K 63)]) ++ List.replicate (4 - (lg_sl ([.ref (K 0), .int p2, .ref (K 63)])).length) Slot.unset).toArray = ls at hl ⊢
  have hl : lv_has ls 4 [(0, .ref (K 0)), (1, .int p2), (2, .ref (K 63))] := hl
  generalize hQe : MQ below (gl_Q D cI cB cJ cW Λ post) args s 1 6 (gw_A Λ) = Q
  unfold vc_L_small at h
  refine lv_aload_n hx hb d_L_small_0 rfl (lv_at hl 2 rfl) ?_
  refine lv_iconst (v := (0 : Int32)) hx hb d_L_small_1 (by decide) ?_
  refine lv_aload_n hx hb d_L_small_2 rfl (lv_at hl 0 rfl) ?_
  refine lv_iload_n hx hb d_L_small_3 rfl (lv_at hl 1 rfl) ?_
  refine gx_gol (gx_runV (As := [.int p2]) (rest := [.int (0 : Int32), .ref (K 63)]) hx hb hml hown htw gx_blind (gx_pre hP hK hS hN) hK hP hl.1 (w_K_small hfl hlo K p2 hΛ F A _ _ h) k_K_small mm_595 ⟨Nat.le_of_ble_eq_true rfl, Nat.le_of_ble_eq_true rfl⟩ (Nat.le_of_ble_eq_true rfl) (Nat.le_of_ble_eq_true rfl) (gK_0 hΛ) rfl rfl rfl (Nat.le_of_ble_eq_true rfl) d_L_small_4) hS (fun r_1 F_1 A_1 H locs hw hP hS => ?_) (fun x_1 k_1 F_1 A_1 H locs hw hP hS => ?_)
  · obtain ⟨rfl, hw⟩ := hw
    obtain ⟨rfl, hw⟩ := hw
    have h := hw
    refine gs_lst hx hb hK hlo hP hS hO (i := (0 : Int32)) (vp_in_nI (n := 0) (by decide) (by decide)) d_L_small_7 (fun L1 eL1 H locs hP hS => ?_)
    have h := h L1 eL1
    refine lv_goto (tgt := 17) hx hb d_L_small_8 (by decide) ?_
    refine lv_iconst (v := (0 : Int32)) hx hb d_L_small_17 (by decide) ?_
    refine W.widen (k := 1) (n := 6) (by omega) (by omega) ?_
    rw [← hQe]
    exact gl_ret hx hb hr hlocks hP hK hS h d_L_small_18
  · rcases hw with ⟨rfl, h⟩ | ⟨rfl, h⟩
    · refine gh_first (k := 1) hown htw htab cl_13 (by decide) (by decide) ?_
      refine lv_astore_n (lv' := [(3, .ref x_1), (0, .ref (K 0)), (1, .int p2), (2, .ref (K 63))]) hx hb d_L_small_11 rfl hl (by decide) rfl (fun ls hl => ?_)
      refine lv_iconst (v := (1 : Int32)) hx hb d_L_small_12 (by decide) ?_
      refine W.widen (k := 1) (n := 6) (by omega) (by omega) ?_
      rw [← hQe]
      exact gl_ret hx hb hr hlocks hP hK hS h d_L_small_13
    · refine gh_second (k := 3) (k0 := 1) hown htw htab cl_13 cl_25 hno3 (by decide) (by decide) (by decide) (by decide) ?_
      refine lv_astore_n (lv' := [(3, .ref x_1), (0, .ref (K 0)), (1, .int p2), (2, .ref (K 63))]) hx hb d_L_small_14 rfl hl (by decide) rfl (fun ls hl => ?_)
      refine lv_iconst (v := (2 : Int32)) hx hb d_L_small_15 (by decide) ?_
      refine W.widen (k := 1) (n := 6) (by omega) (by omega) ?_
      rw [← hQe]
      exact gl_ret hx hb hr hlocks hP hK hS h d_L_small_16
abbrev rm_L_low : Room := { frames := 8, cells := 1, slots := 6, locals := 123 }
abbrev hh_L_low : List (Nat × Nat × Nat × Nat) := [(0, 8, 11, 13)]
set_option maxHeartbeats 4000000 in
set_option maxRecDepth 100000 in
theorem w_L_low (hfl : l.stackTraces = false) (hlo : gs_D Λ) (K : Nat → Nat) (p2 : Int32) (hΛ : gK cI cB cW Λ K) (hO : (K 63, gJ cJ 1) ∈ Λ) (L : lm_M) (F A : gm_M) (post : Int32 → gm_M → gm_M → lm_M → Prop) (h : vc_L_low K p2 L F A post) : Met l y_L_low (.codeWith y_L_low b_L_low 4 (some .int) hh_L_low :: gw_WS) rm_L_low (va_Pc [.ref (K 0), .int p2, .ref (K 63)] (gw_PL D cI cB cJ cW Λ L F A)) (gl_Q D cI cB cJ cW Λ post) 1 6 (gw_A Λ) := by
  refine va_MetW (cc := b_L_low) (maxL := 4) (ret := (some .int)) (hh := hh_L_low) (by decide) rfl ?_
  intro p e s m args below meth c s₁ B hml hv
  obtain ⟨hargs, ⟨⟨hP, hK⟩, hN⟩, hno2, hno3⟩ := hv
  have hx := B.exec
  have hb := B.bytes
  have hr := B.returns
  have hlocks := B.notSynchronized
  have hts := atoms_spec (ws := .codeWith y_L_low b_L_low 4 (some .int) hh_L_low :: gw_WS) B.pre
  have htw : ∀ w ∈ gw_WS, w.before args s = true := fun w h9 => hts w (List.mem_cons_of_mem _ h9)
  have hown : s.vm.findClass "LimbDeskLaw" = some m.cls := findClass_of_methodNamed B.named
  obtain ⟨m9, meth9, c9, hn9, hm9, hc9, -, -, htab, -, -, -⟩ := Cond.codeWith_spec (hts _ List.mem_cons_self)
  cases B.named.symm.trans hn9
  cases B.method.symm.trans hm9
  cases (Stand.of_body B).code.symm.trans hc9
  have hS : va_S (gw_A Λ) s.heap s.heap [] := va_S.rf
  refine W.eq (g2 := entryFrame m ([.ref (K 0), .int p2, .ref (K 63)] : List Value).toArray 4) (by rw [hargs]) ?_
  have hl := lv_entry ([.ref (K 0), .int p2, .ref (K 63)]) (n := 4) (Nat.le_of_ble_eq_true rfl)
  rw [lg_entry_eq]
  generalize (lg_sl ([.ref (K 0), .int p2, .ref (K 63)]) ++ List.replicate (4 - (lg_sl ([.ref (K 0), .int p2, .ref (K 63)])).length) Slot.unset).toArray = ls at hl ⊢
  have hl : lv_has ls 4 [(0, .ref (K 0)), (1, .int p2), (2, .ref (K 63))] := hl
  generalize hQe : MQ below (gl_Q D cI cB cJ cW Λ post) args s 1 6 (gw_A Λ) = Q
  unfold vc_L_low at h
  refine lv_aload_n hx hb d_L_low_0 rfl (lv_at hl 2 rfl) ?_
  refine lv_iconst (v := (0 : Int32)) hx hb d_L_low_1 (by decide) ?_
  refine lv_aload_n hx hb d_L_low_2 rfl (lv_at hl 0 rfl) ?_
  refine lv_iload_n hx hb d_L_low_3 rfl (lv_at hl 1 rfl) ?_
  refine gx_gol (gx_runV (As := [.int p2]) (rest := [.int (0 : Int32), .ref (K 63)]) hx hb hml hown htw gx_blind (gx_pre hP hK hS hN) hK hP hl.1 (w_K_low hfl hlo K p2 hΛ F A _ _ h) k_K_low mm_613 ⟨Nat.le_of_ble_eq_true rfl, Nat.le_of_ble_eq_true rfl⟩ (Nat.le_of_ble_eq_true rfl) (Nat.le_of_ble_eq_true rfl) (gK_0 hΛ) rfl rfl rfl (Nat.le_of_ble_eq_true rfl) d_L_low_4) hS (fun r_1 F_1 A_1 H locs hw hP hS => ?_) (fun x_1 k_1 F_1 A_1 H locs hw hP hS => ?_)
  · obtain ⟨rfl, hw⟩ := hw
    obtain ⟨rfl, hw⟩ := hw
    have h := hw
    refine gs_lst hx hb hK hlo hP hS hO (i := (0 : Int32)) (vp_in_nI (n := 0) (by decide) (by decide)) d_L_low_7 (fun L1 eL1 H locs hP hS => ?_)
    have h := h L1 eL1
    refine lv_goto (tgt := 14) hx hb d_L_low_8 (by decide) ?_
    refine lv_iconst (v := (0 : Int32)) hx hb d_L_low_14 (by decide) ?_
    refine W.widen (k := 1) (n := 6) (by omega) (by omega) ?_
    rw [← hQe]
    exact gl_ret hx hb hr hlocks hP hK hS h d_L_low_15
  · obtain ⟨rfl, h⟩ := hw
    refine gh_first (k := 1) hown htw htab cl_13 (by decide) (by decide) ?_
    refine lv_astore_n (lv' := [(3, .ref x_1), (0, .ref (K 0)), (1, .int p2), (2, .ref (K 63))]) hx hb d_L_low_11 rfl hl (by decide) rfl (fun ls hl => ?_)
    refine lv_iconst (v := (1 : Int32)) hx hb d_L_low_12 (by decide) ?_
    refine W.widen (k := 1) (n := 6) (by omega) (by omega) ?_
    rw [← hQe]
    exact gl_ret hx hb hr hlocks hP hK hS h d_L_low_13
abbrev rm_L_folded : Room := { frames := 8, cells := 1, slots := 6, locals := 123 }
abbrev hh_L_folded : List (Nat × Nat × Nat × Nat) := [(0, 8, 11, 13)]
set_option maxHeartbeats 4000000 in
set_option maxRecDepth 100000 in
theorem w_L_folded (hfl : l.stackTraces = false) (hlo : gs_D Λ) (K : Nat → Nat) (p2 : Int32) (hΛ : gK cI cB cW Λ K) (hO : (K 63, gJ cJ 1) ∈ Λ) (L : lm_M) (F A : gm_M) (post : Int32 → gm_M → gm_M → lm_M → Prop) (h : vc_L_folded K p2 L F A post) : Met l y_L_folded (.codeWith y_L_folded b_L_folded 4 (some .int) hh_L_folded :: gw_WS) rm_L_folded (va_Pc [.ref (K 0), .int p2, .ref (K 63)] (gw_PL D cI cB cJ cW Λ L F A)) (gl_Q D cI cB cJ cW Λ post) 1 6 (gw_A Λ) := by
  refine va_MetW (cc := b_L_folded) (maxL := 4) (ret := (some .int)) (hh := hh_L_folded) (by decide) rfl ?_
  intro p e s m args below meth c s₁ B hml hv
  obtain ⟨hargs, ⟨⟨hP, hK⟩, hN⟩, hno2, hno3⟩ := hv
  have hx := B.exec
  have hb := B.bytes
  have hr := B.returns
  have hlocks := B.notSynchronized
  have hts := atoms_spec (ws := .codeWith y_L_folded b_L_folded 4 (some .int) hh_L_folded :: gw_WS) B.pre
  have htw : ∀ w ∈ gw_WS, w.before args s = true := fun w h9 => hts w (List.mem_cons_of_mem _ h9)
  have hown : s.vm.findClass "LimbDeskLaw" = some m.cls := findClass_of_methodNamed B.named
  obtain ⟨m9, meth9, c9, hn9, hm9, hc9, -, -, htab, -, -, -⟩ := Cond.codeWith_spec (hts _ List.mem_cons_self)
  cases B.named.symm.trans hn9
  cases B.method.symm.trans hm9
  cases (Stand.of_body B).code.symm.trans hc9
  have hS : va_S (gw_A Λ) s.heap s.heap [] := va_S.rf
  refine W.eq (g2 := entryFrame m ([.ref (K 0), .int p2, .ref (K 63)] : List Value).toArray 4) (by rw [hargs]) ?_
  have hl := lv_entry ([.ref (K 0), .int p2, .ref (K 63)]) (n := 4) (Nat.le_of_ble_eq_true rfl)
  rw [lg_entry_eq]
  generalize (lg_sl ([.ref (K 0), .int p2, .ref (K 63)]) ++ List.replicate (4 - (lg_sl ([.ref (K 0), .int p2, .ref (K 63)])).length) Slot.unset).toArray = ls at hl ⊢
  have hl : lv_has ls 4 [(0, .ref (K 0)), (1, .int p2), (2, .ref (K 63))] := hl
  generalize hQe : MQ below (gl_Q D cI cB cJ cW Λ post) args s 1 6 (gw_A Λ) = Q
  unfold vc_L_folded at h
  refine lv_aload_n hx hb d_L_folded_0 rfl (lv_at hl 2 rfl) ?_
  refine lv_iconst (v := (0 : Int32)) hx hb d_L_folded_1 (by decide) ?_
  refine lv_aload_n hx hb d_L_folded_2 rfl (lv_at hl 0 rfl) ?_
  refine lv_iload_n hx hb d_L_folded_3 rfl (lv_at hl 1 rfl) ?_
  refine gx_gol (gx_runV (As := [.int p2]) (rest := [.int (0 : Int32), .ref (K 63)]) hx hb hml hown htw gx_blind (gx_pre hP hK hS hN) hK hP hl.1 (w_K_folded hfl hlo K p2 hΛ F A _ _ h) k_K_folded mm_620 ⟨Nat.le_of_ble_eq_true rfl, Nat.le_of_ble_eq_true rfl⟩ (Nat.le_of_ble_eq_true rfl) (Nat.le_of_ble_eq_true rfl) (gK_0 hΛ) rfl rfl rfl (Nat.le_of_ble_eq_true rfl) d_L_folded_4) hS (fun r_1 F_1 A_1 H locs hw hP hS => ?_) (fun x_1 k_1 F_1 A_1 H locs hw hP hS => ?_)
  · obtain ⟨rfl, hw⟩ := hw
    obtain ⟨rfl, hw⟩ := hw
    have h := hw
    refine gs_lst hx hb hK hlo hP hS hO (i := (0 : Int32)) (vp_in_nI (n := 0) (by decide) (by decide)) d_L_folded_7 (fun L1 eL1 H locs hP hS => ?_)
    have h := h L1 eL1
    refine lv_goto (tgt := 14) hx hb d_L_folded_8 (by decide) ?_
    refine lv_iconst (v := (0 : Int32)) hx hb d_L_folded_14 (by decide) ?_
    refine W.widen (k := 1) (n := 6) (by omega) (by omega) ?_
    rw [← hQe]
    exact gl_ret hx hb hr hlocks hP hK hS h d_L_folded_15
  · obtain ⟨rfl, h⟩ := hw
    refine gh_first (k := 1) hown htw htab cl_13 (by decide) (by decide) ?_
    refine lv_astore_n (lv' := [(3, .ref x_1), (0, .ref (K 0)), (1, .int p2), (2, .ref (K 63))]) hx hb d_L_folded_11 rfl hl (by decide) rfl (fun ls hl => ?_)
    refine lv_iconst (v := (1 : Int32)) hx hb d_L_folded_12 (by decide) ?_
    refine W.widen (k := 1) (n := 6) (by omega) (by omega) ?_
    rw [← hQe]
    exact gl_ret hx hb hr hlocks hP hK hS h d_L_folded_13
abbrev rm_L_size : Room := { frames := 8, cells := 1, slots := 6, locals := 123 }
abbrev hh_L_size : List (Nat × Nat × Nat × Nat) := [(0, 9, 12, 13)]
set_option maxHeartbeats 4000000 in
set_option maxRecDepth 100000 in
theorem w_L_size (hfl : l.stackTraces = false) (hlo : gs_D Λ) (K : Nat → Nat) (p2 : Int32) (hΛ : gK cI cB cW Λ K) (hO : (K 63, gJ cJ 1) ∈ Λ) (L : lm_M) (F A : gm_M) (post : Int32 → gm_M → gm_M → lm_M → Prop) (h : vc_L_size K p2 L F A post) : Met l y_L_size (.codeWith y_L_size b_L_size 4 (some .int) hh_L_size :: gw_WS) rm_L_size (va_Pc [.ref (K 0), .int p2, .ref (K 63)] (gw_PL D cI cB cJ cW Λ L F A)) (gl_Q D cI cB cJ cW Λ post) 1 6 (gw_A Λ) := by
  refine va_MetW (cc := b_L_size) (maxL := 4) (ret := (some .int)) (hh := hh_L_size) (by decide) rfl ?_
  intro p e s m args below meth c s₁ B hml hv
  obtain ⟨hargs, ⟨⟨hP, hK⟩, hN⟩, hno2, hno3⟩ := hv
  have hx := B.exec
  have hb := B.bytes
  have hr := B.returns
  have hlocks := B.notSynchronized
  have hts := atoms_spec (ws := .codeWith y_L_size b_L_size 4 (some .int) hh_L_size :: gw_WS) B.pre
  have htw : ∀ w ∈ gw_WS, w.before args s = true := fun w h9 => hts w (List.mem_cons_of_mem _ h9)
  have hown : s.vm.findClass "LimbDeskLaw" = some m.cls := findClass_of_methodNamed B.named
  obtain ⟨m9, meth9, c9, hn9, hm9, hc9, -, -, htab, -, -, -⟩ := Cond.codeWith_spec (hts _ List.mem_cons_self)
  cases B.named.symm.trans hn9
  cases B.method.symm.trans hm9
  cases (Stand.of_body B).code.symm.trans hc9
  have hS : va_S (gw_A Λ) s.heap s.heap [] := va_S.rf
  refine W.eq (g2 := entryFrame m ([.ref (K 0), .int p2, .ref (K 63)] : List Value).toArray 4) (by rw [hargs]) ?_
  have hl := lv_entry ([.ref (K 0), .int p2, .ref (K 63)]) (n := 4) (Nat.le_of_ble_eq_true rfl)
  rw [lg_entry_eq]
  generalize (lg_sl ([.ref (K 0), .int p2, .ref (K 63)]) ++ List.replicate (4 - (lg_sl ([.ref (K 0), .int p2, .ref (K 63)])).length) Slot.unset).toArray = ls at hl ⊢
  have hl : lv_has ls 4 [(0, .ref (K 0)), (1, .int p2), (2, .ref (K 63))] := hl
  generalize hQe : MQ below (gl_Q D cI cB cJ cW Λ post) args s 1 6 (gw_A Λ) = Q
  unfold vc_L_size at h
  refine lv_aload_n hx hb d_L_size_0 rfl (lv_at hl 2 rfl) ?_
  refine lv_iconst (v := (0 : Int32)) hx hb d_L_size_1 (by decide) ?_
  refine lv_aload_n hx hb d_L_size_2 rfl (lv_at hl 0 rfl) ?_
  refine lv_iload_n hx hb d_L_size_3 rfl (lv_at hl 1 rfl) ?_
  refine gx_goi (gx_runV (As := [.int p2]) (rest := [.int (0 : Int32), .ref (K 63)]) hx hb hml hown htw gx_blind (gx_pre hP hK hS hN) hK hP hl.1 (w_K_size hfl hlo K p2 hΛ F A _ _ h) k_K_size mm_632 ⟨Nat.le_of_ble_eq_true rfl, Nat.le_of_ble_eq_true rfl⟩ (Nat.le_of_ble_eq_true rfl) (Nat.le_of_ble_eq_true rfl) (gK_0 hΛ) rfl rfl rfl (Nat.le_of_ble_eq_true rfl) d_L_size_4) hS (fun r_1 F_1 A_1 H locs hw hP hS => ?_) (fun x_1 k_1 F_1 A_1 H locs hw hP hS => ?_)
  · obtain ⟨rfl, hw⟩ := hw
    obtain ⟨rfl, hw⟩ := hw
    have h := hw
    refine lv_i2l (v := (r_1.toInt64)) hx hb d_L_size_7 (by rfl) ?_
    refine gs_lst hx hb hK hlo hP hS hO (i := (0 : Int32)) (vp_in_nI (n := 0) (by decide) (by decide)) d_L_size_8 (fun L1 eL1 H locs hP hS => ?_)
    have h := h L1 eL1
    refine lv_goto (tgt := 15) hx hb d_L_size_9 (by decide) ?_
    refine lv_iconst (v := (0 : Int32)) hx hb d_L_size_15 (by decide) ?_
    refine W.widen (k := 1) (n := 6) (by omega) (by omega) ?_
    rw [← hQe]
    exact gl_ret hx hb hr hlocks hP hK hS h d_L_size_16
  · obtain ⟨rfl, h⟩ := hw
    refine gh_first (k := 1) hown htw htab cl_13 (by decide) (by decide) ?_
    refine lv_astore_n (lv' := [(3, .ref x_1), (0, .ref (K 0)), (1, .int p2), (2, .ref (K 63))]) hx hb d_L_size_12 rfl hl (by decide) rfl (fun ls hl => ?_)
    refine lv_iconst (v := (1 : Int32)) hx hb d_L_size_13 (by decide) ?_
    refine W.widen (k := 1) (n := 6) (by omega) (by omega) ?_
    rw [← hQe]
    exact gl_ret hx hb hr hlocks hP hK hS h d_L_size_14
