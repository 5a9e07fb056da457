/-! addresses that are apart -/
def gn_ok (Λ0 Λ : gs_L) (a : Nat) (l : List Nat) : Prop := l.Nodup ∧ (∀ b ∈ l, (∃ sh, (b, sh) ∈ Λ) ∧ b ≠ a) ∧ (∀ b ∈ l, ∀ x ∈ Λ0, x.1 ≠ b) ∧ (∀ x ∈ Λ0, x.1 ≠ a → x ∈ Λ) ∧ ∃ sh, (a, sh) ∈ Λ
theorem gn_0 {Λ : gs_L} {a : Nat} {sh : gs_S} (h : (a, sh) ∈ Λ) : gn_ok Λ Λ a [] := ⟨List.nodup_nil, fun _ h => (List.not_mem_nil h).elim, fun _ h => (List.not_mem_nil h).elim, fun _ h _ => h, sh, h⟩
theorem gn_new {Λ0 Λ Λ1 : gs_L} {a q : Nat} {l : List Nat} {sh : gs_S} (h : gn_ok Λ0 Λ a l) (he : ∀ x ∈ Λ, x ∈ Λ1 ∧ x.1 ≠ q) (hq : (q, sh) ∈ Λ1) : gn_ok Λ0 Λ1 a (q :: l) := by
  obtain ⟨h1, h2, h3, h4, sa, h5⟩ := h
  have haq : a ≠ q := (he _ h5).2
  refine ⟨List.nodup_cons.mpr ⟨fun hm => ?_, h1⟩, fun b hb => ?_, fun b hb x hx => ?_, fun x hx hxa => (he _ (h4 x hx hxa)).1, sa, (he _ h5).1⟩
  · obtain ⟨⟨s1, hs⟩, -⟩ := h2 q hm
    exact (he _ hs).2 rfl
  · rcases List.mem_cons.mp hb with rfl | hb
    · exact ⟨⟨sh, hq⟩, fun h => haq h.symm⟩
    · obtain ⟨⟨s1, hs⟩, hne⟩ := h2 b hb
      exact ⟨⟨s1, (he _ hs).1⟩, hne⟩
  · rcases List.mem_cons.mp hb with rfl | hb
    · by_cases hxa : x.1 = a
      · rw [hxa]; exact haq
      · exact (he _ (h4 x hx hxa)).2
    · exact h3 b hb x hx
theorem gn_keep {Λ0 Λ Λ1 : gs_L} {a c : Nat} {l : List Nat} {sh : gs_S} (h : gn_ok Λ0 Λ a l) (hc : ∀ x ∈ Λ0, x.1 ≠ a → x.1 ≠ c) (he : ∀ x ∈ Λ, x.1 ≠ c → x ∈ Λ1) (hq : (c, sh) ∈ Λ1) : gn_ok Λ0 Λ1 a l := by
  obtain ⟨h1, h2, h3, h4, sa, h5⟩ := h
  refine ⟨h1, fun b hb => ⟨?_, (h2 b hb).2⟩, h3, fun x hx hxa => he _ (h4 x hx hxa) (hc x hx hxa), ?_⟩
  · by_cases hbc : b = c
    · exact ⟨sh, hbc ▸ hq⟩
    · obtain ⟨⟨s1, hs⟩, -⟩ := h2 b hb
      exact ⟨s1, he _ hs hbc⟩
  · by_cases hac : a = c
    · exact ⟨sh, hac ▸ hq⟩
    · exact ⟨sa, he _ h5 hac⟩
/-- a cell that a call on the cell c brought -/
theorem gn_call {Λ0 Λ Λ1 : gs_L} {a c q : Nat} {l : List Nat} {sh sc : gs_S} (h : gn_ok Λ0 Λ a l) (hcl : c ∈ l) (he : ∀ x ∈ Λ, x.1 ≠ c → x ∈ Λ1) (hc1 : (c, sc) ∈ Λ1) (hf : ∀ x ∈ Λ, x.1 ≠ q) (hq : (q, sh) ∈ Λ1) : gn_ok Λ0 Λ1 a (q :: l) := by
  obtain ⟨h1, h2, h3, h4, sa, h5⟩ := h
  have haq : a ≠ q := hf _ h5
  have hac : a ≠ c := fun h => (h2 c hcl).2 h.symm
  refine ⟨List.nodup_cons.mpr ⟨fun hm => ?_, h1⟩, fun b hb => ?_, fun b hb x hx => ?_, fun x hx hxa => he _ (h4 x hx hxa) (h3 c hcl x hx), sa, he _ h5 hac⟩
  · obtain ⟨⟨s1, hs⟩, -⟩ := h2 q hm
    exact hf _ hs rfl
  · rcases List.mem_cons.mp hb with rfl | hb
    · exact ⟨⟨sh, hq⟩, fun h => haq h.symm⟩
    · refine ⟨?_, (h2 b hb).2⟩
      by_cases hbc : b = c
      · exact ⟨sc, hbc ▸ hc1⟩
      · obtain ⟨⟨s1, hs⟩, -⟩ := h2 b hb
        exact ⟨s1, he _ hs hbc⟩
  · rcases List.mem_cons.mp hb with rfl | hb
    · by_cases hxa : x.1 = a
      · rw [hxa]; exact haq
      · exact hf _ (h4 x hx hxa)
    · exact h3 b hb x hx
theorem gn_inj {l : List Nat} {n : Nat} (h : l.Nodup) (hn : l.length = n) : ∀ i j, i < n → j < n → l.getD i 0 = l.getD j 0 → i = j := by
  subst hn
  intro i j hi hj e
  rw [List.getD_eq_getElem?_getD, List.getD_eq_getElem?_getD, List.getElem?_eq_getElem hi, List.getElem?_eq_getElem hj] at e
  exact (List.getElem?_inj hi h).mp (by rw [List.getElem?_eq_getElem hi, List.getElem?_eq_getElem hj]; exact congrArg some e)
theorem gn_mem {l : List Nat} {i : Nat} (hi : i < l.length) : l.getD i 0 ∈ l := by
  rw [List.getD_eq_getElem?_getD, List.getElem?_eq_getElem hi]
  exact List.getElem_mem hi
theorem oi_inst : (.instanceMethod objectInit : Cond) ∈ gw_WS := gw_r1 24 (by decide +kernel) (by decide +kernel)
theorem oi_code : (.code objectInit ⟨#[0xb1]⟩ 1 none : Cond) ∈ gw_WS := gw_r1 25 (by rfl) (by rfl)
theorem oi_W : (.methodLink R_W 3 objectInit : Cond) ∈ gw_WS := gw_r1 32 (by decide +kernel) (by decide +kernel)
theorem in_W : (.instantiable R_W 3 : Cond) ∈ gw_WS := gw_r1 28 (by decide +kernel) (by decide +kernel)
theorem ini_W : (.initialized R_W : Cond) ∈ gw_WS := gw_r1 2 (by decide +kernel) (by decide +kernel)
theorem oi_D : (.methodLink R_D 3 objectInit : Cond) ∈ gw_WS := gw_r1 71 (by decide +kernel) (by decide +kernel)
theorem in_D : (.instantiable R_D 4 : Cond) ∈ gw_WS := gw_r1 67 (by decide +kernel) (by decide +kernel)
theorem ini_D : (.initialized R_D : Cond) ∈ gw_WS := gw_r1 4 (by decide +kernel) (by decide +kernel)
theorem oi_T : (.methodLink R_T 3 objectInit : Cond) ∈ gw_WS := gw_r1 55 (by decide +kernel) (by decide +kernel)
theorem in_T : (.instantiable R_T 2 : Cond) ∈ gw_WS := gw_r1 51 (by decide +kernel) (by decide +kernel)
theorem ini_T : (.initialized R_T : Cond) ∈ gw_WS := gw_r1 3 (by decide +kernel) (by decide +kernel)
theorem oi_K : (.methodLink R_K 3 objectInit : Cond) ∈ gw_WS := gw_r1 23 (by decide +kernel) (by decide +kernel)
theorem in_K : (.instantiable R_K 6 : Cond) ∈ gw_WS := gw_r1 19 (by decide +kernel) (by decide +kernel)
theorem ini_K : (.initialized R_K : Cond) ∈ gw_WS := gw_r1 1 (by decide +kernel) (by decide +kernel)
theorem oi_M : (.methodLink R_M 1 objectInit : Cond) ∈ gw_WS := gw_r3 161 (by decide +kernel) (by decide +kernel)
theorem in_M : (.instantiable R_M 16 : Cond) ∈ gw_WS := gw_r3 157 (by decide +kernel) (by decide +kernel)
theorem ini_M : (.initialized R_M : Cond) ∈ gw_WS := gw_r1 5 (by decide +kernel) (by decide +kernel)
theorem ac_int : (.arrayClass .int : Cond) ∈ gw_WS := gw_r1 49 (by decide +kernel) (by decide +kernel)
theorem ac_byte : (.arrayClass .byte : Cond) ∈ gw_WS := gw_r1 65 (by decide +kernel) (by decide +kernel)
theorem ac_long : (.arrayClass .long : Cond) ∈ gw_WS := gw_r4 111 (by decide +kernel) (by decide +kernel)
section CT
variable {l : Launch} {D : va_G} {cI cB cJ cW : ClassId} {Λ : gs_L}
set_option maxHeartbeats 4000000 in
set_option maxRecDepth 100000 in
theorem ct_W_init (hlo : gs_D Λ) (a sz : Nat) (n : Nat) (hm : (a, (Sum.inl (0, [some none, none, none]) : gs_S)) ∈ Λ) (hn : n ≤ 100000) : Met l y_W_init (.code y_W_init b_W_init 2 none :: gw_WS) { frames := 1, cells := 1, slots := n, locals := 60 } (va_Pc [.ref a, .int (nI n)] (gc_P D cI cB cJ cW Λ sz)) (gc_Q D cI cB cJ cW Λ a sz (fun Λ1 => ∃ la, gW cI Λ1 a la n ∧ ∀ x ∈ Λ, x.1 ≠ la)) 1 n (gc_A Λ sz) := by
  have hn31 : n < 2 ^ 31 := by omega
  refine Met.ofW (cc := b_W_init) (maxL := 2) (ret := none) (by decide) rfl ?_
  intro p e s m args below meth c s₁ B hml hv
  obtain ⟨hargs, hsz, hP, hK⟩ := hv
  subst hsz
  have hx := B.exec
  have hb := B.bytes
  have hr := B.returns
  have hlocks := B.notSynchronized
  have htw : ∀ w ∈ gw_WS, w.before args s = true := fun w h9 => atoms_spec (ws := .code y_W_init b_W_init 2 none :: gw_WS) B.pre w (List.mem_cons_of_mem _ h9)
  have hown : s.vm.findClass R_W = some m.cls := findClass_of_methodNamed B.named
  have hin : meth.name = "<init>" := (name_of_methodNamed B.named B.method).1
  have hS : va_S (gc_A Λ s.heap.size) s.heap s.heap [] := va_S.rf
  have hA : ∀ q, s.heap.size ≤ q → gc_A Λ s.heap.size q := fun q h => Or.inr h
  have hAΛ : ∀ x ∈ Λ, gc_A Λ s.heap.size x.1 := fun x hx => Or.inl ⟨x.2, hx⟩
  have hg := gn_0 hm
  refine W.eq (g2 := entryFrame m ([.ref a, .int (nI n)] : List Value).toArray 2) (by rw [hargs]) ?_
  have hl := lv_entry ([.ref a, .int (nI n)]) (n := 2) (Nat.le_of_ble_eq_true rfl)
  rw [lg_entry_eq]
  generalize (lg_sl ([.ref a, .int (nI n)]) ++ List.replicate (2 - (lg_sl ([.ref a, .int (nI n)])).length) Slot.unset).toArray = ls at hl ⊢
  have hl : lv_has ls 2 [(0, .ref a), (1, .int (nI n))] := hl
  refine lv_aload_n hx hb d_W_init_0 rfl (lv_at hl 0 rfl) ?_
  refine W.objInit hx hb hown (htw _ oi_W) (htw _ oi_inst) (htw _ oi_code) rfl (by rw [hml]; exact hl.1) rfl d_W_init_1 (Nat.le_of_ble_eq_true rfl) (Nat.le_of_ble_eq_true rfl) ?_
  refine W.eq (g2 := F0 m 4 ls []) rfl ?_
  refine lv_aload_n hx hb d_W_init_4 rfl (lv_at hl 0 rfl) ?_
  refine lv_iload_n hx hb d_W_init_5 rfl (lv_at hl 1 rfl) ?_
  refine gz_newi hx hb htw ac_int hK hP hlo hAΛ hS hA n (nI_pos hn31) (nI_clamp hn31) hn (by show 0 + 1 ≤ 1; omega) (by show 0 + n ≤ n; omega) d_W_init_6 (fun q1 Λ1 H ex hq1 hlo hAΛ hP hS => ?_)
  have hg := gn_new hg ex hq1
  have hm := (ex _ hm).1
  refine gc_putF (ty := .array .int) hx hb htw i_W tf_W tf_W_ok n_W hown hK hP hlo hAΛ hS hm rfl 0 (by decide) rfl mm_33 rfl hin rfl (by decide +kernel) rfl rfl d_W_init_8 (fun Λp8 H locs kp hm hlo hAΛ hP hS => ?_)
  have hm : (a, (Sum.inl (0, [some (some q1), none, none]) : gs_S)) ∈ Λp8 := hm
  have hq1 := kp _ hq1 (hg.2.1 q1 (by simp)).2
  have hg := gn_keep hg (fun _ _ h => h) kp hm
  exact W.widen (k := 1) (n := n) (by omega) (by omega) (gc_ret hx hb hr hlocks ⟨q1, ⟨hm, hq1⟩, hg.2.2.1 q1 (by simp)⟩ hg.2.2.2.1 hlo hAΛ hP hK hS d_W_init_11)
set_option maxHeartbeats 4000000 in
set_option maxRecDepth 100000 in
theorem ct_T_init (hlo : gs_D Λ) (a sz : Nat) (hm : (a, (Sum.inl (2, [some none, none]) : gs_S)) ∈ Λ) : Met l y_T_init (.code y_T_init b_T_init 1 none :: gw_WS) { frames := 1, cells := 1, slots := 2100, locals := 60 } (va_Pc [.ref a] (gc_P D cI cB cJ cW Λ sz)) (gc_Q D cI cB cJ cW Λ a sz (fun Λ1 => ∃ rw, (a, (Sum.inl (2, [some (some rw), none]) : gs_S)) ∈ Λ1 ∧ (rw, gI cB 2100) ∈ Λ1 ∧ ∀ x ∈ Λ, x.1 ≠ rw)) 1 2100 (gc_A Λ sz) := by
  refine Met.ofW (cc := b_T_init) (maxL := 1) (ret := none) (by decide) rfl ?_
  intro p e s m args below meth c s₁ B hml hv
  obtain ⟨hargs, hsz, hP, hK⟩ := hv
  subst hsz
  have hx := B.exec
  have hb := B.bytes
  have hr := B.returns
  have hlocks := B.notSynchronized
  have htw : ∀ w ∈ gw_WS, w.before args s = true := fun w h9 => atoms_spec (ws := .code y_T_init b_T_init 1 none :: gw_WS) B.pre w (List.mem_cons_of_mem _ h9)
  have hown : s.vm.findClass R_T = some m.cls := findClass_of_methodNamed B.named
  have hin : meth.name = "<init>" := (name_of_methodNamed B.named B.method).1
  have hS : va_S (gc_A Λ s.heap.size) s.heap s.heap [] := va_S.rf
  have hA : ∀ q, s.heap.size ≤ q → gc_A Λ s.heap.size q := fun q h => Or.inr h
  have hAΛ : ∀ x ∈ Λ, gc_A Λ s.heap.size x.1 := fun x hx => Or.inl ⟨x.2, hx⟩
  have hg := gn_0 hm
  refine W.eq (g2 := entryFrame m ([.ref a] : List Value).toArray 1) (by rw [hargs]) ?_
  have hl := lv_entry ([.ref a]) (n := 1) (Nat.le_of_ble_eq_true rfl)
  rw [lg_entry_eq]
  generalize (lg_sl ([.ref a]) ++ List.replicate (1 - (lg_sl ([.ref a])).length) Slot.unset).toArray = ls at hl ⊢
  have hl : lv_has ls 1 [(0, .ref a)] := hl
  refine lv_aload_n hx hb d_T_init_0 rfl (lv_at hl 0 rfl) ?_
  refine W.objInit hx hb hown (htw _ oi_T) (htw _ oi_inst) (htw _ oi_code) rfl (by rw [hml]; exact hl.1) rfl d_T_init_1 (Nat.le_of_ble_eq_true rfl) (Nat.le_of_ble_eq_true rfl) ?_
  refine W.eq (g2 := F0 m 4 ls []) rfl ?_
  refine lv_aload_n hx hb d_T_init_4 rfl (lv_at hl 0 rfl) ?_
  refine lv_sipush (v := nI 2100) hx hb d_T_init_5 (by decide) ?_
  refine gz_newb hx hb htw ac_byte hK hP hlo hAΛ hS hA 2100 (nI_pos (by decide)) (nI_clamp (by decide)) (by decide) (Nat.le_of_ble_eq_true rfl) (Nat.le_of_ble_eq_true rfl) d_T_init_8 (fun q1 Λ1 H ex hq1 hlo hAΛ hP hS => ?_)
  have hg := gn_new hg ex hq1
  have hm := (ex _ hm).1
  refine gc_putF (ty := .array .byte) hx hb htw i_T tf_T tf_T_ok n_T hown hK hP hlo hAΛ hS hm rfl 0 (by decide) rfl mm_56 rfl hin rfl (by decide +kernel) rfl rfl d_T_init_10 (fun Λp10 H locs kp hm hlo hAΛ hP hS => ?_)
  have hm : (a, (Sum.inl (2, [some (some q1), none]) : gs_S)) ∈ Λp10 := hm
  have hq1 := kp _ hq1 (hg.2.1 q1 (by simp)).2
  have hg := gn_keep hg (fun _ _ h => h) kp hm
  exact W.widen (k := 1) (n := 2100) (by omega) (by omega) (gc_ret hx hb hr hlocks ⟨q1, hm, hq1, hg.2.2.1 q1 (by simp)⟩ hg.2.2.2.1 hlo hAΛ hP hK hS d_T_init_13)
set_option maxHeartbeats 4000000 in
set_option maxRecDepth 100000 in
theorem ct_M_init (hlo : gs_D Λ) (a sz : Nat) (hm : (a, (Sum.inl (4, [none, none, some none, some none, some none, some none, some none, some none, some none, some none, some none, some none, none, some none, some none, some none]) : gs_S)) ∈ Λ) : Met l y_M_init (.code y_M_init b_M_init 1 none :: gw_WS) { frames := 1, cells := 13, slots := 67454, locals := 60 } (va_Pc [.ref a] (gc_P D cI cB cJ cW Λ sz)) (gc_Q D cI cB cJ cW Λ a sz (fun Λ1 => ∃ z : Nat → Nat, (∀ i j, i < 13 → j < 13 → z i = z j → i = j) ∧ (∀ i, i < 13 → ∀ x ∈ Λ, x.1 ≠ z i) ∧ (a, (Sum.inl (4, [none, none, some (some (z 0)), some (some (z 1)), some (some (z 2)), some (some (z 3)), some (some (z 4)), some (some (z 5)), some (some (z 6)), some (some (z 7)), some (some (z 8)), some (some (z 9)), none, some (some (z 10)), some (some (z 11)), some (some (z 12))]) : gs_S)) ∈ Λ1 ∧ (z 0, gI cI 2064) ∈ Λ1 ∧ (z 1, gI cI 16) ∈ Λ1 ∧ (z 2, gI cI 16) ∈ Λ1 ∧ (z 3, gI cI 2100) ∈ Λ1 ∧ (z 4, gI cI 9000) ∈ Λ1 ∧ (z 5, gI cI 9000) ∈ Λ1 ∧ (z 6, gI cI 9000) ∈ Λ1 ∧ (z 7, gI cI 9000) ∈ Λ1 ∧ (z 8, gI cI 9000) ∈ Λ1 ∧ (z 9, gI cI 9000) ∈ Λ1 ∧ (z 10, gI cI 9000) ∈ Λ1 ∧ (z 11, gI cI 129) ∈ Λ1 ∧ (z 12, gI cI 129) ∈ Λ1)) 13 67454 (gc_A Λ sz) := by
  refine Met.ofW (cc := b_M_init) (maxL := 1) (ret := none) (by decide) rfl ?_
  intro p e s m args below meth c s₁ B hml hv
  obtain ⟨hargs, hsz, hP, hK⟩ := hv
  subst hsz
  have hx := B.exec
  have hb := B.bytes
  have hr := B.returns
  have hlocks := B.notSynchronized
  have htw : ∀ w ∈ gw_WS, w.before args s = true := fun w h9 => atoms_spec (ws := .code y_M_init b_M_init 1 none :: gw_WS) B.pre w (List.mem_cons_of_mem _ h9)
  have hown : s.vm.findClass R_M = some m.cls := findClass_of_methodNamed B.named
  have hin : meth.name = "<init>" := (name_of_methodNamed B.named B.method).1
  have hS : va_S (gc_A Λ s.heap.size) s.heap s.heap [] := va_S.rf
  have hA : ∀ q, s.heap.size ≤ q → gc_A Λ s.heap.size q := fun q h => Or.inr h
  have hAΛ : ∀ x ∈ Λ, gc_A Λ s.heap.size x.1 := fun x hx => Or.inl ⟨x.2, hx⟩
  have hg := gn_0 hm
  refine W.eq (g2 := entryFrame m ([.ref a] : List Value).toArray 1) (by rw [hargs]) ?_
  have hl := lv_entry ([.ref a]) (n := 1) (Nat.le_of_ble_eq_true rfl)
  rw [lg_entry_eq]
  generalize (lg_sl ([.ref a]) ++ List.replicate (1 - (lg_sl ([.ref a])).length) Slot.unset).toArray = ls at hl ⊢
  have hl : lv_has ls 1 [(0, .ref a)] := hl
  refine lv_aload_n hx hb d_M_init_0 rfl (lv_at hl 0 rfl) ?_
  refine W.objInit hx hb hown (htw _ oi_M) (htw _ oi_inst) (htw _ oi_code) rfl (by rw [hml]; exact hl.1) rfl d_M_init_1 (Nat.le_of_ble_eq_true rfl) (Nat.le_of_ble_eq_true rfl) ?_
  refine W.eq (g2 := F0 m 4 ls []) rfl ?_
  refine lv_aload_n hx hb d_M_init_4 rfl (lv_at hl 0 rfl) ?_
  refine lv_sipush (v := nI 2064) hx hb d_M_init_5 (by decide) ?_
  refine gz_newi hx hb htw ac_int hK hP hlo hAΛ hS hA 2064 (nI_pos (by decide)) (nI_clamp (by decide)) (by decide) (Nat.le_of_ble_eq_true rfl) (Nat.le_of_ble_eq_true rfl) d_M_init_8 (fun q1 Λ1 H ex hq1 hlo hAΛ hP hS => ?_)
  have hg := gn_new hg ex hq1
  have hm := (ex _ hm).1
  refine gc_putF (ty := .array .int) hx hb htw i_M tf_M tf_M_ok n_M hown hK hP hlo hAΛ hS hm rfl 2 (by decide) rfl mm_644 rfl hin rfl (by decide +kernel) rfl rfl d_M_init_10 (fun Λp10 H locs kp hm hlo hAΛ hP hS => ?_)
  have hm : (a, (Sum.inl (4, [none, none, some (some q1), some none, some none, some none, some none, some none, some none, some none, some none, some none, none, some none, some none, some none]) : gs_S)) ∈ Λp10 := hm
  have hq1 := kp _ hq1 (hg.2.1 q1 (by simp)).2
  have hg := gn_keep hg (fun _ _ h => h) kp hm
  refine lv_aload_n hx hb d_M_init_13 rfl (lv_at hl 0 rfl) ?_
  refine lv_bipush (v := nI 16) hx hb d_M_init_14 (by decide) ?_
  refine gz_newi hx hb htw ac_int hK hP hlo hAΛ hS hA 16 (nI_pos (by decide)) (nI_clamp (by decide)) (by decide) (Nat.le_of_ble_eq_true rfl) (Nat.le_of_ble_eq_true rfl) d_M_init_16 (fun q2 Λ2 H ex hq2 hlo hAΛ hP hS => ?_)
  have hg := gn_new hg ex hq2
  have hm := (ex _ hm).1
  have hq1 := (ex _ hq1).1
  refine gc_putF (ty := .array .int) hx hb htw i_M tf_M tf_M_ok n_M hown hK hP hlo hAΛ hS hm rfl 3 (by decide) rfl mm_645 rfl hin rfl (by decide +kernel) rfl rfl d_M_init_18 (fun Λp18 H locs kp hm hlo hAΛ hP hS => ?_)
  have hm : (a, (Sum.inl (4, [none, none, some (some q1), some (some q2), some none, some none, some none, some none, some none, some none, some none, some none, none, some none, some none, some none]) : gs_S)) ∈ Λp18 := hm
  have hq1 := kp _ hq1 (hg.2.1 q1 (by simp)).2
  have hq2 := kp _ hq2 (hg.2.1 q2 (by simp)).2
  have hg := gn_keep hg (fun _ _ h => h) kp hm
  refine lv_aload_n hx hb d_M_init_21 rfl (lv_at hl 0 rfl) ?_
  refine lv_bipush (v := nI 16) hx hb d_M_init_22 (by decide) ?_
  refine gz_newi hx hb htw ac_int hK hP hlo hAΛ hS hA 16 (nI_pos (by decide)) (nI_clamp (by decide)) (by decide) (Nat.le_of_ble_eq_true rfl) (Nat.le_of_ble_eq_true rfl) d_M_init_24 (fun q3 Λ3 H ex hq3 hlo hAΛ hP hS => ?_)
  have hg := gn_new hg ex hq3
  have hm := (ex _ hm).1
  have hq1 := (ex _ hq1).1
  have hq2 := (ex _ hq2).1
  refine gc_putF (ty := .array .int) hx hb htw i_M tf_M tf_M_ok n_M hown hK hP hlo hAΛ hS hm rfl 4 (by decide) rfl mm_646 rfl hin rfl (by decide +kernel) rfl rfl d_M_init_26 (fun Λp26 H locs kp hm hlo hAΛ hP hS => ?_)
  have hm : (a, (Sum.inl (4, [none, none, some (some q1), some (some q2), some (some q3), some none, some none, some none, some none, some none, some none, some none, none, some none, some none, some none]) : gs_S)) ∈ Λp26 := hm
  have hq1 := kp _ hq1 (hg.2.1 q1 (by simp)).2
  have hq2 := kp _ hq2 (hg.2.1 q2 (by simp)).2
  have hq3 := kp _ hq3 (hg.2.1 q3 (by simp)).2
  have hg := gn_keep hg (fun _ _ h => h) kp hm
  refine lv_aload_n hx hb d_M_init_29 rfl (lv_at hl 0 rfl) ?_
  refine lv_sipush (v := nI 2100) hx hb d_M_init_30 (by decide) ?_
  refine gz_newi hx hb htw ac_int hK hP hlo hAΛ hS hA 2100 (nI_pos (by decide)) (nI_clamp (by decide)) (by decide) (Nat.le_of_ble_eq_true rfl) (Nat.le_of_ble_eq_true rfl) d_M_init_33 (fun q4 Λ4 H ex hq4 hlo hAΛ hP hS => ?_)
  have hg := gn_new hg ex hq4
  have hm := (ex _ hm).1
  have hq1 := (ex _ hq1).1
  have hq2 := (ex _ hq2).1
  have hq3 := (ex _ hq3).1
  refine gc_putF (ty := .array .int) hx hb htw i_M tf_M tf_M_ok n_M hown hK hP hlo hAΛ hS hm rfl 5 (by decide) rfl mm_647 rfl hin rfl (by decide +kernel) rfl rfl d_M_init_35 (fun Λp35 H locs kp hm hlo hAΛ hP hS => ?_)
  have hm : (a, (Sum.inl (4, [none, none, some (some q1), some (some q2), some (some q3), some (some q4), some none, some none, some none, some none, some none, some none, none, some none, some none, some none]) : gs_S)) ∈ Λp35 := hm
  have hq1 := kp _ hq1 (hg.2.1 q1 (by simp)).2
  have hq2 := kp _ hq2 (hg.2.1 q2 (by simp)).2
  have hq3 := kp _ hq3 (hg.2.1 q3 (by simp)).2
  have hq4 := kp _ hq4 (hg.2.1 q4 (by simp)).2
  have hg := gn_keep hg (fun _ _ h => h) kp hm
  refine lv_aload_n hx hb d_M_init_38 rfl (lv_at hl 0 rfl) ?_
  refine lv_sipush (v := nI 9000) hx hb d_M_init_39 (by decide) ?_
  refine gz_newi hx hb htw ac_int hK hP hlo hAΛ hS hA 9000 (nI_pos (by decide)) (nI_clamp (by decide)) (by decide) (Nat.le_of_ble_eq_true rfl) (Nat.le_of_ble_eq_true rfl) d_M_init_42 (fun q5 Λ5 H ex hq5 hlo hAΛ hP hS => ?_)
  have hg := gn_new hg ex hq5
  have hm := (ex _ hm).1
  have hq1 := (ex _ hq1).1
  have hq2 := (ex _ hq2).1
  have hq3 := (ex _ hq3).1
  have hq4 := (ex _ hq4).1
  refine gc_putF (ty := .array .int) hx hb htw i_M tf_M tf_M_ok n_M hown hK hP hlo hAΛ hS hm rfl 6 (by decide) rfl mm_648 rfl hin rfl (by decide +kernel) rfl rfl d_M_init_44 (fun Λp44 H locs kp hm hlo hAΛ hP hS => ?_)
  have hm : (a, (Sum.inl (4, [none, none, some (some q1), some (some q2), some (some q3), some (some q4), some (some q5), some none, some none, some none, some none, some none, none, some none, some none, some none]) : gs_S)) ∈ Λp44 := hm
  have hq1 := kp _ hq1 (hg.2.1 q1 (by simp)).2
  have hq2 := kp _ hq2 (hg.2.1 q2 (by simp)).2
  have hq3 := kp _ hq3 (hg.2.1 q3 (by simp)).2
  have hq4 := kp _ hq4 (hg.2.1 q4 (by simp)).2
  have hq5 := kp _ hq5 (hg.2.1 q5 (by simp)).2
  have hg := gn_keep hg (fun _ _ h => h) kp hm
  refine lv_aload_n hx hb d_M_init_47 rfl (lv_at hl 0 rfl) ?_
  refine lv_sipush (v := nI 9000) hx hb d_M_init_48 (by decide) ?_
  refine gz_newi hx hb htw ac_int hK hP hlo hAΛ hS hA 9000 (nI_pos (by decide)) (nI_clamp (by decide)) (by decide) (Nat.le_of_ble_eq_true rfl) (Nat.le_of_ble_eq_true rfl) d_M_init_51 (fun q6 Λ6 H ex hq6 hlo hAΛ hP hS => ?_)
  have hg := gn_new hg ex hq6
  have hm := (ex _ hm).1
  have hq1 := (ex _ hq1).1
  have hq2 := (ex _ hq2).1
  have hq3 := (ex _ hq3).1
  have hq4 := (ex _ hq4).1
  have hq5 := (ex _ hq5).1
  refine gc_putF (ty := .array .int) hx hb htw i_M tf_M tf_M_ok n_M hown hK hP hlo hAΛ hS hm rfl 7 (by decide) rfl mm_649 rfl hin rfl (by decide +kernel) rfl rfl d_M_init_53 (fun Λp53 H locs kp hm hlo hAΛ hP hS => ?_)
  have hm : (a, (Sum.inl (4, [none, none, some (some q1), some (some q2), some (some q3), some (some q4), some (some q5), some (some q6), some none, some none, some none, some none, none, some none, some none, some none]) : gs_S)) ∈ Λp53 := hm
  have hq1 := kp _ hq1 (hg.2.1 q1 (by simp)).2
  have hq2 := kp _ hq2 (hg.2.1 q2 (by simp)).2
  have hq3 := kp _ hq3 (hg.2.1 q3 (by simp)).2
  have hq4 := kp _ hq4 (hg.2.1 q4 (by simp)).2
  have hq5 := kp _ hq5 (hg.2.1 q5 (by simp)).2
  have hq6 := kp _ hq6 (hg.2.1 q6 (by simp)).2
  have hg := gn_keep hg (fun _ _ h => h) kp hm
  refine lv_aload_n hx hb d_M_init_56 rfl (lv_at hl 0 rfl) ?_
  refine lv_sipush (v := nI 9000) hx hb d_M_init_57 (by decide) ?_
  refine gz_newi hx hb htw ac_int hK hP hlo hAΛ hS hA 9000 (nI_pos (by decide)) (nI_clamp (by decide)) (by decide) (Nat.le_of_ble_eq_true rfl) (Nat.le_of_ble_eq_true rfl) d_M_init_60 (fun q7 Λ7 H ex hq7 hlo hAΛ hP hS => ?_)
  have hg := gn_new hg ex hq7
  have hm := (ex _ hm).1
  have hq1 := (ex _ hq1).1
  have hq2 := (ex _ hq2).1
  have hq3 := (ex _ hq3).1
  have hq4 := (ex _ hq4).1
  have hq5 := (ex _ hq5).1
  have hq6 := (ex _ hq6).1
  refine gc_putF (ty := .array .int) hx hb htw i_M tf_M tf_M_ok n_M hown hK hP hlo hAΛ hS hm rfl 8 (by decide) rfl mm_650 rfl hin rfl (by decide +kernel) rfl rfl d_M_init_62 (fun Λp62 H locs kp hm hlo hAΛ hP hS => ?_)
  have hm : (a, (Sum.inl (4, [none, none, some (some q1), some (some q2), some (some q3), some (some q4), some (some q5), some (some q6), some (some q7), some none, some none, some none, none, some none, some none, some none]) : gs_S)) ∈ Λp62 := hm
  have hq1 := kp _ hq1 (hg.2.1 q1 (by simp)).2
  have hq2 := kp _ hq2 (hg.2.1 q2 (by simp)).2
  have hq3 := kp _ hq3 (hg.2.1 q3 (by simp)).2
  have hq4 := kp _ hq4 (hg.2.1 q4 (by simp)).2
  have hq5 := kp _ hq5 (hg.2.1 q5 (by simp)).2
  have hq6 := kp _ hq6 (hg.2.1 q6 (by simp)).2
  have hq7 := kp _ hq7 (hg.2.1 q7 (by simp)).2
  have hg := gn_keep hg (fun _ _ h => h) kp hm
  refine lv_aload_n hx hb d_M_init_65 rfl (lv_at hl 0 rfl) ?_
  refine lv_sipush (v := nI 9000) hx hb d_M_init_66 (by decide) ?_
  refine gz_newi hx hb htw ac_int hK hP hlo hAΛ hS hA 9000 (nI_pos (by decide)) (nI_clamp (by decide)) (by decide) (Nat.le_of_ble_eq_true rfl) (Nat.le_of_ble_eq_true rfl) d_M_init_69 (fun q8 Λ8 H ex hq8 hlo hAΛ hP hS => ?_)
  have hg := gn_new hg ex hq8
  have hm := (ex _ hm).1
  have hq1 := (ex _ hq1).1
  have hq2 := (ex _ hq2).1
  have hq3 := (ex _ hq3).1
  have hq4 := (ex _ hq4).1
  have hq5 := (ex _ hq5).1
  have hq6 := (ex _ hq6).1
  have hq7 := (ex _ hq7).1
  refine gc_putF (ty := .array .int) hx hb htw i_M tf_M tf_M_ok n_M hown hK hP hlo hAΛ hS hm rfl 9 (by decide) rfl mm_651 rfl hin rfl (by decide +kernel) rfl rfl d_M_init_71 (fun Λp71 H locs kp hm hlo hAΛ hP hS => ?_)
  have hm : (a, (Sum.inl (4, [none, none, some (some q1), some (some q2), some (some q3), some (some q4), some (some q5), some (some q6), some (some q7), some (some q8), some none, some none, none, some none, some none, some none]) : gs_S)) ∈ Λp71 := hm
  have hq1 := kp _ hq1 (hg.2.1 q1 (by simp)).2
  have hq2 := kp _ hq2 (hg.2.1 q2 (by simp)).2
  have hq3 := kp _ hq3 (hg.2.1 q3 (by simp)).2
  have hq4 := kp _ hq4 (hg.2.1 q4 (by simp)).2
  have hq5 := kp _ hq5 (hg.2.1 q5 (by simp)).2
  have hq6 := kp _ hq6 (hg.2.1 q6 (by simp)).2
  have hq7 := kp _ hq7 (hg.2.1 q7 (by simp)).2
  have hq8 := kp _ hq8 (hg.2.1 q8 (by simp)).2
  have hg := gn_keep hg (fun _ _ h => h) kp hm
  refine lv_aload_n hx hb d_M_init_74 rfl (lv_at hl 0 rfl) ?_
  refine lv_sipush (v := nI 9000) hx hb d_M_init_75 (by decide) ?_
  refine gz_newi hx hb htw ac_int hK hP hlo hAΛ hS hA 9000 (nI_pos (by decide)) (nI_clamp (by decide)) (by decide) (Nat.le_of_ble_eq_true rfl) (Nat.le_of_ble_eq_true rfl) d_M_init_78 (fun q9 Λ9 H ex hq9 hlo hAΛ hP hS => ?_)
  have hg := gn_new hg ex hq9
  have hm := (ex _ hm).1
  have hq1 := (ex _ hq1).1
  have hq2 := (ex _ hq2).1
  have hq3 := (ex _ hq3).1
  have hq4 := (ex _ hq4).1
  have hq5 := (ex _ hq5).1
  have hq6 := (ex _ hq6).1
  have hq7 := (ex _ hq7).1
  have hq8 := (ex _ hq8).1
  refine gc_putF (ty := .array .int) hx hb htw i_M tf_M tf_M_ok n_M hown hK hP hlo hAΛ hS hm rfl 10 (by decide) rfl mm_652 rfl hin rfl (by decide +kernel) rfl rfl d_M_init_80 (fun Λp80 H locs kp hm hlo hAΛ hP hS => ?_)
  have hm : (a, (Sum.inl (4, [none, none, some (some q1), some (some q2), some (some q3), some (some q4), some (some q5), some (some q6), some (some q7), some (some q8), some (some q9), some none, none, some none, some none, some none]) : gs_S)) ∈ Λp80 := hm
  have hq1 := kp _ hq1 (hg.2.1 q1 (by simp)).2
  have hq2 := kp _ hq2 (hg.2.1 q2 (by simp)).2
  have hq3 := kp _ hq3 (hg.2.1 q3 (by simp)).2
  have hq4 := kp _ hq4 (hg.2.1 q4 (by simp)).2
  have hq5 := kp _ hq5 (hg.2.1 q5 (by simp)).2
  have hq6 := kp _ hq6 (hg.2.1 q6 (by simp)).2
  have hq7 := kp _ hq7 (hg.2.1 q7 (by simp)).2
  have hq8 := kp _ hq8 (hg.2.1 q8 (by simp)).2
  have hq9 := kp _ hq9 (hg.2.1 q9 (by simp)).2
  have hg := gn_keep hg (fun _ _ h => h) kp hm
  refine lv_aload_n hx hb d_M_init_83 rfl (lv_at hl 0 rfl) ?_
  refine lv_sipush (v := nI 9000) hx hb d_M_init_84 (by decide) ?_
  refine gz_newi hx hb htw ac_int hK hP hlo hAΛ hS hA 9000 (nI_pos (by decide)) (nI_clamp (by decide)) (by decide) (Nat.le_of_ble_eq_true rfl) (Nat.le_of_ble_eq_true rfl) d_M_init_87 (fun q10 Λ10 H ex hq10 hlo hAΛ hP hS => ?_)
  have hg := gn_new hg ex hq10
  have hm := (ex _ hm).1
  have hq1 := (ex _ hq1).1
  have hq2 := (ex _ hq2).1
  have hq3 := (ex _ hq3).1
  have hq4 := (ex _ hq4).1
  have hq5 := (ex _ hq5).1
  have hq6 := (ex _ hq6).1
  have hq7 := (ex _ hq7).1
  have hq8 := (ex _ hq8).1
  have hq9 := (ex _ hq9).1
  refine gc_putF (ty := .array .int) hx hb htw i_M tf_M tf_M_ok n_M hown hK hP hlo hAΛ hS hm rfl 11 (by decide) rfl mm_653 rfl hin rfl (by decide +kernel) rfl rfl d_M_init_89 (fun Λp89 H locs kp hm hlo hAΛ hP hS => ?_)
  have hm : (a, (Sum.inl (4, [none, none, some (some q1), some (some q2), some (some q3), some (some q4), some (some q5), some (some q6), some (some q7), some (some q8), some (some q9), some (some q10), none, some none, some none, some none]) : gs_S)) ∈ Λp89 := hm
  have hq1 := kp _ hq1 (hg.2.1 q1 (by simp)).2
  have hq2 := kp _ hq2 (hg.2.1 q2 (by simp)).2
  have hq3 := kp _ hq3 (hg.2.1 q3 (by simp)).2
  have hq4 := kp _ hq4 (hg.2.1 q4 (by simp)).2
  have hq5 := kp _ hq5 (hg.2.1 q5 (by simp)).2
  have hq6 := kp _ hq6 (hg.2.1 q6 (by simp)).2
  have hq7 := kp _ hq7 (hg.2.1 q7 (by simp)).2
  have hq8 := kp _ hq8 (hg.2.1 q8 (by simp)).2
  have hq9 := kp _ hq9 (hg.2.1 q9 (by simp)).2
  have hq10 := kp _ hq10 (hg.2.1 q10 (by simp)).2
  have hg := gn_keep hg (fun _ _ h => h) kp hm
  refine lv_aload_n hx hb d_M_init_92 rfl (lv_at hl 0 rfl) ?_
  refine lv_sipush (v := nI 9000) hx hb d_M_init_93 (by decide) ?_
  refine gz_newi hx hb htw ac_int hK hP hlo hAΛ hS hA 9000 (nI_pos (by decide)) (nI_clamp (by decide)) (by decide) (Nat.le_of_ble_eq_true rfl) (Nat.le_of_ble_eq_true rfl) d_M_init_96 (fun q11 Λ11 H ex hq11 hlo hAΛ hP hS => ?_)
  have hg := gn_new hg ex hq11
  have hm := (ex _ hm).1
  have hq1 := (ex _ hq1).1
  have hq2 := (ex _ hq2).1
  have hq3 := (ex _ hq3).1
  have hq4 := (ex _ hq4).1
  have hq5 := (ex _ hq5).1
  have hq6 := (ex _ hq6).1
  have hq7 := (ex _ hq7).1
  have hq8 := (ex _ hq8).1
  have hq9 := (ex _ hq9).1
  have hq10 := (ex _ hq10).1
  refine gc_putF (ty := .array .int) hx hb htw i_M tf_M tf_M_ok n_M hown hK hP hlo hAΛ hS hm rfl 13 (by decide) rfl mm_655 rfl hin rfl (by decide +kernel) rfl rfl d_M_init_98 (fun Λp98 H locs kp hm hlo hAΛ hP hS => ?_)
  have hm : (a, (Sum.inl (4, [none, none, some (some q1), some (some q2), some (some q3), some (some q4), some (some q5), some (some q6), some (some q7), some (some q8), some (some q9), some (some q10), none, some (some q11), some none, some none]) : gs_S)) ∈ Λp98 := hm
  have hq1 := kp _ hq1 (hg.2.1 q1 (by simp)).2
  have hq2 := kp _ hq2 (hg.2.1 q2 (by simp)).2
  have hq3 := kp _ hq3 (hg.2.1 q3 (by simp)).2
  have hq4 := kp _ hq4 (hg.2.1 q4 (by simp)).2
  have hq5 := kp _ hq5 (hg.2.1 q5 (by simp)).2
  have hq6 := kp _ hq6 (hg.2.1 q6 (by simp)).2
  have hq7 := kp _ hq7 (hg.2.1 q7 (by simp)).2
  have hq8 := kp _ hq8 (hg.2.1 q8 (by simp)).2
  have hq9 := kp _ hq9 (hg.2.1 q9 (by simp)).2
  have hq10 := kp _ hq10 (hg.2.1 q10 (by simp)).2
  have hq11 := kp _ hq11 (hg.2.1 q11 (by simp)).2
  have hg := gn_keep hg (fun _ _ h => h) kp hm
  refine lv_aload_n hx hb d_M_init_101 rfl (lv_at hl 0 rfl) ?_
  refine lv_sipush (v := nI 129) hx hb d_M_init_102 (by decide) ?_
  refine gz_newi hx hb htw ac_int hK hP hlo hAΛ hS hA 129 (nI_pos (by decide)) (nI_clamp (by decide)) (by decide) (Nat.le_of_ble_eq_true rfl) (Nat.le_of_ble_eq_true rfl) d_M_init_105 (fun q12 Λ12 H ex hq12 hlo hAΛ hP hS => ?_)
  have hg := gn_new hg ex hq12
  have hm := (ex _ hm).1
  have hq1 := (ex _ hq1).1
  have hq2 := (ex _ hq2).1
  have hq3 := (ex _ hq3).1
  have hq4 := (ex _ hq4).1
  have hq5 := (ex _ hq5).1
  have hq6 := (ex _ hq6).1
  have hq7 := (ex _ hq7).1
  have hq8 := (ex _ hq8).1
  have hq9 := (ex _ hq9).1
  have hq10 := (ex _ hq10).1
  have hq11 := (ex _ hq11).1
  refine gc_putF (ty := .array .int) hx hb htw i_M tf_M tf_M_ok n_M hown hK hP hlo hAΛ hS hm rfl 14 (by decide) rfl mm_656 rfl hin rfl (by decide +kernel) rfl rfl d_M_init_107 (fun Λp107 H locs kp hm hlo hAΛ hP hS => ?_)
  have hm : (a, (Sum.inl (4, [none, none, some (some q1), some (some q2), some (some q3), some (some q4), some (some q5), some (some q6), some (some q7), some (some q8), some (some q9), some (some q10), none, some (some q11), some (some q12), some none]) : gs_S)) ∈ Λp107 := hm
  have hq1 := kp _ hq1 (hg.2.1 q1 (by simp)).2
  have hq2 := kp _ hq2 (hg.2.1 q2 (by simp)).2
  have hq3 := kp _ hq3 (hg.2.1 q3 (by simp)).2
  have hq4 := kp _ hq4 (hg.2.1 q4 (by simp)).2
  have hq5 := kp _ hq5 (hg.2.1 q5 (by simp)).2
  have hq6 := kp _ hq6 (hg.2.1 q6 (by simp)).2
  have hq7 := kp _ hq7 (hg.2.1 q7 (by simp)).2
  have hq8 := kp _ hq8 (hg.2.1 q8 (by simp)).2
  have hq9 := kp _ hq9 (hg.2.1 q9 (by simp)).2
  have hq10 := kp _ hq10 (hg.2.1 q10 (by simp)).2
  have hq11 := kp _ hq11 (hg.2.1 q11 (by simp)).2
  have hq12 := kp _ hq12 (hg.2.1 q12 (by simp)).2
  have hg := gn_keep hg (fun _ _ h => h) kp hm
  refine lv_aload_n hx hb d_M_init_110 rfl (lv_at hl 0 rfl) ?_
  refine lv_sipush (v := nI 129) hx hb d_M_init_111 (by decide) ?_
  refine gz_newi hx hb htw ac_int hK hP hlo hAΛ hS hA 129 (nI_pos (by decide)) (nI_clamp (by decide)) (by decide) (Nat.le_of_ble_eq_true rfl) (Nat.le_of_ble_eq_true rfl) d_M_init_114 (fun q13 Λ13 H ex hq13 hlo hAΛ hP hS => ?_)
  have hg := gn_new hg ex hq13
  have hm := (ex _ hm).1
  have hq1 := (ex _ hq1).1
  have hq2 := (ex _ hq2).1
  have hq3 := (ex _ hq3).1
  have hq4 := (ex _ hq4).1
  have hq5 := (ex _ hq5).1
  have hq6 := (ex _ hq6).1
  have hq7 := (ex _ hq7).1
  have hq8 := (ex _ hq8).1
  have hq9 := (ex _ hq9).1
  have hq10 := (ex _ hq10).1
  have hq11 := (ex _ hq11).1
  have hq12 := (ex _ hq12).1
  refine gc_putF (ty := .array .int) hx hb htw i_M tf_M tf_M_ok n_M hown hK hP hlo hAΛ hS hm rfl 15 (by decide) rfl mm_657 rfl hin rfl (by decide +kernel) rfl rfl d_M_init_116 (fun Λp116 H locs kp hm hlo hAΛ hP hS => ?_)
  have hm : (a, (Sum.inl (4, [none, none, some (some q1), some (some q2), some (some q3), some (some q4), some (some q5), some (some q6), some (some q7), some (some q8), some (some q9), some (some q10), none, some (some q11), some (some q12), some (some q13)]) : gs_S)) ∈ Λp116 := hm
  have hq1 := kp _ hq1 (hg.2.1 q1 (by simp)).2
  have hq2 := kp _ hq2 (hg.2.1 q2 (by simp)).2
  have hq3 := kp _ hq3 (hg.2.1 q3 (by simp)).2
  have hq4 := kp _ hq4 (hg.2.1 q4 (by simp)).2
  have hq5 := kp _ hq5 (hg.2.1 q5 (by simp)).2
  have hq6 := kp _ hq6 (hg.2.1 q6 (by simp)).2
  have hq7 := kp _ hq7 (hg.2.1 q7 (by simp)).2
  have hq8 := kp _ hq8 (hg.2.1 q8 (by simp)).2
  have hq9 := kp _ hq9 (hg.2.1 q9 (by simp)).2
  have hq10 := kp _ hq10 (hg.2.1 q10 (by simp)).2
  have hq11 := kp _ hq11 (hg.2.1 q11 (by simp)).2
  have hq12 := kp _ hq12 (hg.2.1 q12 (by simp)).2
  have hq13 := kp _ hq13 (hg.2.1 q13 (by simp)).2
  have hg := gn_keep hg (fun _ _ h => h) kp hm
  have hz : ∀ i j, i < 13 → j < 13 → ([q13, q12, q11, q10, q9, q8, q7, q6, q5, q4, q3, q2, q1] : List Nat).getD i 0 = ([q13, q12, q11, q10, q9, q8, q7, q6, q5, q4, q3, q2, q1] : List Nat).getD j 0 → i = j := gn_inj hg.1 rfl
  refine W.widen (k := 13) (n := 67454) (by omega) (by omega) (gc_ret hx hb hr hlocks ⟨(fun i => ([q13, q12, q11, q10, q9, q8, q7, q6, q5, q4, q3, q2, q1] : List Nat).getD (([12, 11, 10, 9, 8, 7, 6, 5, 4, 3, 2, 1, 0] : List Nat).getD i 0) 0), ?_, ?_, hm, hq1, hq2, hq3, hq4, hq5, hq6, hq7, hq8, hq9, hq10, hq11, hq12, hq13⟩ hg.2.2.2.1 hlo hAΛ hP hK hS d_M_init_119)
  · intro i j hi hj h
    have pi : ∀ k, k < 13 → ([12, 11, 10, 9, 8, 7, 6, 5, 4, 3, 2, 1, 0] : List Nat).getD k 0 < 13 := by decide
    have pj : ∀ k, k < 13 → ∀ k2, k2 < 13 → ([12, 11, 10, 9, 8, 7, 6, 5, 4, 3, 2, 1, 0] : List Nat).getD k 0 = ([12, 11, 10, 9, 8, 7, 6, 5, 4, 3, 2, 1, 0] : List Nat).getD k2 0 → k = k2 := by decide
    exact pj i hi j hj (hz _ _ (pi i hi) (pi j hj) h)
  · intro i hi
    have pi : ∀ k, k < 13 → ([12, 11, 10, 9, 8, 7, 6, 5, 4, 3, 2, 1, 0] : List Nat).getD k 0 < 13 := by decide
    exact hg.2.2.1 _ (gn_mem (pi i hi))
end CT
