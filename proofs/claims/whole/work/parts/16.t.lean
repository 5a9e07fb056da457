section GP
variable {p : Program} {l : Launch} {e : Env} {R : Room} {s : State} {m : MethodId} {args : Array Value} {below : List Frame} {meth : Method} {c : Code} {H : Heap} {locs : List Loc} {cells slots : Nat} {Q : State → Prop}
variable {cc bytes : ByteArray} {pc nL maxL index n : Nat} {ls : Array Slot} {rest st0 As : List Value} {y : MethodName} {own : String} {ret : Option FieldType} {rm : Room} {A : Nat → Prop} {b : Nat} {r : Option Value}
theorem gp_go {a : Array Value} (hr : va_Run p l e R s m args below meth c H locs 0 0 0 0 (F0 m pc ls st0) rest (gp_Q r a) (fun _ => False)) (kk : W p l e R s m args below meth c H locs 0 0 Q (F0 m (pc + 3) ls (r.toList ++ rest))) : W p l e R s m args below meth c H locs 0 0 Q (F0 m pc ls st0) := by
  intro T hT X
  obtain ⟨v, st₀, t, T', L', h0, X', hL, e1, e2, ⟨hv, hh⟩, st⟩ := hr T hT X
  cases hv
  have hnil : L' = [] := List.eq_nil_iff_forall_not_mem.mpr hL
  subst hnil
  rw [List.append_nil] at X'
  obtain ⟨t2, a1, b1⟩ := kk T' (by rw [e1, hh, h0]) X'
  exact ⟨t2, st t2 a1, b1⟩
theorem gp_runS (hexec : p.tables.exec = Jvm.exec) (hb : c.code = cc) (hml : c.maxLocals = nL) (hown : s.vm.findClass own = some m.cls) (htw : ∀ w ∈ gw_WS, w.before args s = true) {Pc : Array Value → State → Prop} (hbl : FrameBlind Pc) (hpre : ∀ U : State, U.heap = H → s.WarmedH U.vm → Pc As.toArray U) (hsize : ls.size = nL)
    (hM : Met l y (Cond.code y bytes maxL ret :: gw_WS) rm Pc (gp_Q r) 0 0 (fun _ => False)) (hy : gw_OKS y bytes maxL ret n) (hl : Cond.methodLink own index y ∈ gw_WS) (hR : rm.frames + 1 ≤ R.frames ∧ 8 + (maxL + 11) + rm.locals ≤ R.locals) (hrc : rm.cells = 0) (hrs : rm.slots = 0)
    (hn : As.length = n) (hst : st0 = As.reverse ++ rest) (hroom : (rest.map fun v => v.category).sum ≤ 8) (hdg : decode cc pc = .ok (.invokestatic index, 3)) :
    va_Run p l e R s m args below meth c H locs 0 0 0 0 (F0 m pc ls st0) rest (gp_Q r As.toArray) (fun _ => False) :=
  va_runS (As := As) (rest := rest) (Ts := gw_WS) ⟨hexec, hb, hml, hown, htw⟩ hM ⟨gw_cb htw hy.1 hl hR hrc hrs, htw _ hy.2⟩ ⟨hbl, hpre⟩ rfl hn hsize hst (lv_room hroom) hdg ⟨Nat.zero_le _, Nat.zero_le _⟩
theorem gp_runV (hexec : p.tables.exec = Jvm.exec) (hb : c.code = cc) (hml : c.maxLocals = nL) (hown : s.vm.findClass own = some m.cls) (htw : ∀ w ∈ gw_WS, w.before args s = true) {Pc : Array Value → State → Prop} (hbl : FrameBlind Pc) (hpre : ∀ U : State, U.heap = H → s.WarmedH U.vm → Pc (Value.ref b :: As).toArray U) (hsize : ls.size = nL) (hrecv : ∃ cell : Cell, H[b]? = some cell ∧ cell.vm.isStatics = false ∧ s.vm.findClass y.cls = some cell.cls)
    (hM : Met l y (Cond.code y bytes maxL ret :: gw_WS) rm Pc (gp_Q r) 0 0 (fun _ => False)) (hy : gw_OKV y bytes maxL ret n) (hl : Cond.methodLink own index y ∈ gw_WS) (hR : rm.frames + 1 ≤ R.frames ∧ 8 + (maxL + 11) + rm.locals ≤ R.locals) (hrc : rm.cells = 0) (hrs : rm.slots = 0)
    (hn : As.length = n) (hst : st0 = As.reverse ++ .ref b :: rest) (hroom : (rest.map fun v => v.category).sum ≤ 8) (hdg : decode cc pc = .ok (.invokevirtual index, 3)) :
    va_Run p l e R s m args below meth c H locs 0 0 0 0 (F0 m pc ls st0) rest (gp_Q r (Value.ref b :: As).toArray) (fun _ => False) :=
  va_runV (C := y.cls) (As := As) (rest := rest) (Ts := gw_WS) ⟨hexec, hb, hml, hown, htw⟩ hM ⟨gw_cb htw hy.1 hl hR hrc hrs, htw _ hy.2.1, htw _ hy.2.2⟩ ⟨hbl, hrecv, hpre⟩ rfl hn hsize hst (lv_room hroom) hdg ⟨Nat.zero_le _, Nat.zero_le _⟩
theorem gp_blind0 : FrameBlind (va_Pc As (fun _ => True)) := fun _ _ _ _ q => q
theorem gp_blindS {q v : Nat} : FrameBlind (va_Pc As (gx_Sq q v A)) := fun a U g mk h => ⟨h.1, gx_Sq.step (s := U) (U := U.calling g mk a) (Vm.Alike.refl U.vm) (fun _ _ _ => rfl) h.2⟩
theorem gp_preS {q v : Nat} (hS : va_S A s.heap H locs) (h : gx_Sq q v A s) : ∀ U : State, U.heap = H → s.WarmedH U.vm → va_Pc As (gx_Sq q v A) As.toArray U := fun U hU hW => ⟨rfl, h.step hW.alike (by rw [hU]; exact hS.2.1)⟩
end GP
section GP2
variable {l : Launch} {A : Nat → Prop}
set_option maxHeartbeats 4000000 in
theorem w_chk (i k : Int32) (v : Value) (hv : v = .null ∨ ∃ t, v = .ref t) (h1 : ¬ i < 0) (h2 : i < k) : Met l y_chk (.code y_chk b_chk 3 (some .int) :: gw_WS) { frames := 0, cells := 0, slots := 0, locals := 0 } (va_Pc [.int i, .int k, v] (fun _ => True)) (gp_Q (some (.int i))) 0 0 (fun _ => False) := by
  refine Met.ofW (cc := b_chk) (maxL := 3) (ret := some .int) (by decide) rfl ?_
  intro p e s m args below meth c s₁ B hml hh
  have hx := B.exec
  have hb := B.bytes
  have hr := B.returns
  have hlocks := B.notSynchronized
  refine W.eq (g2 := entryFrame m ([.int i, .int k, v] : List Value).toArray 3) (by rw [hh.1]) ?_
  have hlen : (lg_sl ([.int i, .int k, v] : List Value)).length ≤ 3 := by rcases hv with rfl | ⟨t, rfl⟩ <;> exact Nat.le_of_ble_eq_true rfl
  have hl := lv_entry ([.int i, .int k, v]) (n := 3) hlen
  rw [lg_entry_eq]
  generalize (lg_sl ([.int i, .int k, v]) ++ List.replicate (3 - (lg_sl ([.int i, .int k, v])).length) Slot.unset).toArray = ls at hl ⊢
  have hl : lv_has ls 3 [(0, .int i), (1, .int k)] := lv_sub hl [0, 1] rfl
  refine lv_iload_n hx hb d_chk_0 rfl (lv_at hl 0 rfl) ?_
  refine lv_if_lt (tgt := 9) hx hb d_chk_1 (by decide) (fun c => absurd c h1) (fun _ => ?_)
  refine lv_iload_n hx hb d_chk_4 rfl (lv_at hl 0 rfl) ?_
  refine lv_iload_n hx hb d_chk_5 rfl (lv_at hl 1 rfl) ?_
  refine lv_icmp_lt (tgt := 16) hx hb d_chk_6 (by decide) (fun _ => ?_) (fun c => absurd h2 c)
  refine lv_iload_n hx hb d_chk_16 rfl (lv_at hl 0 rfl) ?_
  exact W.iret hx hb hr (fun t ht _ => ⟨rfl, ht⟩) (fun _ h => by cases h) d_chk_17 hlocks
set_option maxHeartbeats 4000000 in
theorem w_sci (q v : Nat) (i k : Int32) (h1 : ¬ i < 0) (h2 : i < k) : Met l y_sci (.code y_sci b_sci 2 none :: gw_WS) { frames := 1, cells := 0, slots := 0, locals := 22 } (va_Pc [.int i, .int k] (gx_Sq q v A)) (gp_Q none) 0 0 (fun _ => False) := by
  refine Met.ofW (cc := b_sci) (maxL := 2) (ret := none) (by decide) rfl ?_
  intro p e s m args below meth c s₁ B hml hh
  have hx := B.exec
  have hb := B.bytes
  have hr := B.returns
  have hlocks := B.notSynchronized
  have htw : ∀ w ∈ gw_WS, w.before args s = true := fun w h9 => atoms_spec (ws := .code y_sci b_sci 2 none :: gw_WS) B.pre w (List.mem_cons_of_mem _ h9)
  have hown : s.vm.findClass "java/lang/String" = some m.cls := findClass_of_methodNamed B.named
  have hS : va_S A s.heap s.heap [] := va_S.rf
  refine W.eq (g2 := entryFrame m ([.int i, .int k] : List Value).toArray 2) (by rw [hh.1]) ?_
  have hl := lv_entry ([.int i, .int k]) (n := 2) (Nat.le_of_ble_eq_true rfl)
  rw [lg_entry_eq]
  generalize (lg_sl ([.int i, .int k]) ++ List.replicate (2 - (lg_sl ([.int i, .int k])).length) Slot.unset).toArray = ls at hl ⊢
  have hl : lv_has ls 2 [(0, .int i), (1, .int k)] := hl
  refine lv_iload_n hx hb d_sci_0 rfl (lv_at hl 0 rfl) ?_
  refine lv_iload_n hx hb d_sci_1 rfl (lv_at hl 1 rfl) ?_
  have key : ∀ (v : Value), (v = .null ∨ ∃ t, v = .ref t) → va_Z "jdk/internal/util/Preconditions" "SIOOBE_FORMATTER" "Ljava/util/function/BiFunction;" v A s s.heap → W p l e { frames := 1, cells := 0, slots := 0, locals := 22 } s m args below meth c s.heap [] 0 0 (MQ below (gp_Q none) args s 0 0 (fun _ => False)) (F0 m (0 + 1 + 1) ls [.int k, .int i]) := by
    intro v hv hZ
    refine va_gets hx hb hZ hS hown (htw _ fl_4) (fun _ h => h) d_sci_2 ?_
    refine gp_go (gp_runS (As := [.int i, .int k, v]) (rest := []) hx hb hml hown htw gp_blind0 (fun U _ _ => ⟨rfl, trivial⟩) hl.1 (w_chk i k v hv h1 h2) k_chk ml_5 ⟨Nat.le_of_ble_eq_true rfl, Nat.le_of_ble_eq_true rfl⟩ rfl rfl rfl rfl (Nat.le_of_ble_eq_true rfl) d_sci_5) ?_
    refine lv_pop hx hb d_sci_8 rfl ?_
    exact W.vret hx hb hr (fun t ht _ => ⟨rfl, ht⟩) (fun _ h => by cases h) d_sci_9 hlocks
  rcases hh.2.2.2.2.2.2 with hZ | ⟨t, hZ⟩
  · exact key _ (Or.inl rfl) hZ
  · exact key _ (Or.inr ⟨t, rfl⟩) hZ
set_option maxHeartbeats 4000000 in
theorem w_lat (q v : Nat) (i : Int32) (hi : vp_in i 36) : Met l y_lat (.code y_lat b_lat 2 (some .char) :: gw_WS) { frames := 2, cells := 0, slots := 0, locals := 43 } (va_Pc [.ref v, .int i] (gx_Sq q v A)) (gp_Q (some (.int (gx_dg i.toNatClampNeg)))) 0 0 (fun _ => False) := by
  refine Met.ofW (cc := b_lat) (maxL := 2) (ret := some .char) (by decide) rfl ?_
  intro p e s m args below meth c s₁ B hml hh
  have hx := B.exec
  have hb := B.bytes
  have hr := B.returns
  have hlocks := B.notSynchronized
  have htw : ∀ w ∈ gw_WS, w.before args s = true := fun w h9 => atoms_spec (ws := .code y_lat b_lat 2 (some .char) :: gw_WS) B.pre w (List.mem_cons_of_mem _ h9)
  have hown : s.vm.findClass "java/lang/StringLatin1" = some m.cls := findClass_of_methodNamed B.named
  have hS : va_S A s.heap s.heap [] := va_S.rf
  have hlt : i.toNatClampNeg < 36 := Nat.not_le.mp fun q => hi (Or.inr q)
  obtain ⟨j, hj, rfl⟩ := vp_in_of hi (by decide)
  refine W.eq (g2 := entryFrame m ([.ref v, .int (nI j)] : List Value).toArray 2) (by rw [hh.1]) ?_
  have hl := lv_entry ([.ref v, .int (nI j)]) (n := 2) (Nat.le_of_ble_eq_true rfl)
  rw [lg_entry_eq]
  generalize (lg_sl ([.ref v, .int (nI j)]) ++ List.replicate (2 - (lg_sl ([.ref v, .int (nI j)])).length) Slot.unset).toArray = ls at hl ⊢
  have hl : lv_has ls 2 [(0, .ref v), (1, .int (nI j))] := hl
  refine lv_iload_n hx hb d_lat_0 rfl (lv_at hl 1 rfl) ?_
  refine lv_aload_n hx hb d_lat_1 rfl (lv_at hl 0 rfl) ?_
  refine va_tlen (v := nI 36) hx hb hh.2.2.2.2.1 hS rfl d_lat_2 ?_
  refine gp_go (gp_runS (As := [.int (nI j), .int (nI 36)]) (rest := []) hx hb hml hown htw gp_blindS (gp_preS hS hh.2) hl.1 (w_sci q v (nI j) (nI 36) (nI_pos (by omega)) (nI_lt hj (by decide))) k_sci ml_4 ⟨Nat.le_of_ble_eq_true rfl, Nat.le_of_ble_eq_true rfl⟩ rfl rfl rfl rfl (Nat.le_of_ble_eq_true rfl) d_lat_3) ?_
  refine lv_aload_n hx hb d_lat_6 rfl (lv_at hl 0 rfl) ?_
  refine lv_iload_n hx hb d_lat_7 rfl (lv_at hl 1 rfl) ?_
  refine va_tb hx hb hh.2.2.2.2.1 hS hi rfl d_lat_8 ?_
  refine lv_sipush (v := 255) hx hb d_lat_9 (by decide) ?_
  refine lv_iand hx hb d_lat_12 ?_
  refine lv_i2c (v := gx_dg (nI j).toNatClampNeg) hx hb d_lat_13 (gx_dgc _ hlt) ?_
  refine W.zret hx hb hr ?_ (fun t ht _ => ⟨rfl, ht⟩) (fun _ h => by cases h) d_lat_14 hlocks
  rw [← gx_dgc _ hlt]
  exact pk_nc _
set_option maxHeartbeats 4000000 in
theorem w_isl (q v : Nat) : Met l y_isl (.code y_isl b_isl 1 (some .boolean) :: gw_WS) { frames := 0, cells := 0, slots := 0, locals := 0 } (va_Pc [.ref q] (gx_Sq q v A)) (gp_Q (some (.int 1))) 0 0 (fun _ => False) := by
  refine Met.ofW (cc := b_isl) (maxL := 1) (ret := some .boolean) (by decide) rfl ?_
  intro p e s m args below meth c s₁ B hml hh
  have hx := B.exec
  have hb := B.bytes
  have hr := B.returns
  have hlocks := B.notSynchronized
  have htw : ∀ w ∈ gw_WS, w.before args s = true := fun w h9 => atoms_spec (ws := .code y_isl b_isl 1 (some .boolean) :: gw_WS) B.pre w (List.mem_cons_of_mem _ h9)
  have hown : s.vm.findClass "java/lang/String" = some m.cls := findClass_of_methodNamed B.named
  have hS : va_S A s.heap s.heap [] := va_S.rf
  refine W.eq (g2 := entryFrame m ([.ref q] : List Value).toArray 1) (by rw [hh.1]) ?_
  have hl := lv_entry ([.ref q]) (n := 1) (Nat.le_of_ble_eq_true rfl)
  rw [lg_entry_eq]
  generalize (lg_sl ([.ref q]) ++ List.replicate (1 - (lg_sl ([.ref q])).length) Slot.unset).toArray = ls at hl ⊢
  have hl : lv_has ls 1 [(0, .ref q)] := hl
  refine va_gets hx hb hh.2.2.2.2.2.1 hS hown (htw _ fl_2) (fun _ h => h) d_isl_0 ?_
  refine lv_if_eq (tgt := 17) hx hb d_isl_3 (by decide) (fun c => absurd c (by decide)) (fun _ => ?_)
  refine lv_aload_n hx hb d_isl_6 rfl (lv_at hl 0 rfl) ?_
  refine vk_getf hx hb hh.2.2.1 hS hown (htw _ fl_3) (fun _ h => h) d_isl_7 ?_
  refine lv_if_ne (tgt := 17) hx hb d_isl_10 (by decide) (fun c => absurd rfl c) (fun _ => ?_)
  refine lv_iconst (v := 1) hx hb d_isl_13 (by decide) ?_
  refine lv_goto (tgt := 18) hx hb d_isl_14 (by decide) ?_
  exact W.zret hx hb hr rfl (fun t ht _ => ⟨rfl, ht⟩) (fun _ h => by cases h) d_isl_18 hlocks
set_option maxHeartbeats 4000000 in
theorem w_chA (q v : Nat) (i : Int32) (hi : vp_in i 36) : Met l y_chA (.code y_chA b_chA 2 (some .char) :: gw_WS) { frames := 3, cells := 0, slots := 0, locals := 64 } (va_Pc [.ref q, .int i] (gx_Sq q v A)) (gp_Q (some (.int (gx_dg i.toNatClampNeg)))) 0 0 (fun _ => False) := by
  refine Met.ofW (cc := b_chA) (maxL := 2) (ret := some .char) (by decide) rfl ?_
  intro p e s m args below meth c s₁ B hml hh
  have hx := B.exec
  have hb := B.bytes
  have hr := B.returns
  have hlocks := B.notSynchronized
  have htw : ∀ w ∈ gw_WS, w.before args s = true := fun w h9 => atoms_spec (ws := .code y_chA b_chA 2 (some .char) :: gw_WS) B.pre w (List.mem_cons_of_mem _ h9)
  have hown : s.vm.findClass "java/lang/String" = some m.cls := findClass_of_methodNamed B.named
  have hS : va_S A s.heap s.heap [] := va_S.rf
  have hlt : i.toNatClampNeg < 36 := Nat.not_le.mp fun q => hi (Or.inr q)
  refine W.eq (g2 := entryFrame m ([.ref q, .int i] : List Value).toArray 2) (by rw [hh.1]) ?_
  have hl := lv_entry ([.ref q, .int i]) (n := 2) (Nat.le_of_ble_eq_true rfl)
  rw [lg_entry_eq]
  generalize (lg_sl ([.ref q, .int i]) ++ List.replicate (2 - (lg_sl ([.ref q, .int i])).length) Slot.unset).toArray = ls at hl ⊢
  have hl : lv_has ls 2 [(0, .ref q), (1, .int i)] := hl
  obtain ⟨cellO, o1, o2, o3, -⟩ := hh.2.1
  refine lv_aload_n hx hb d_chA_0 rfl (lv_at hl 0 rfl) ?_
  refine gp_go (gp_runV (As := []) (rest := []) hx hb hml hown htw gp_blindS (gp_preS hS hh.2) hl.1 ⟨cellO, o1, o2, o3⟩ (w_isl q v) k_isl ml_2 ⟨Nat.le_of_ble_eq_true rfl, Nat.le_of_ble_eq_true rfl⟩ rfl rfl rfl rfl (Nat.le_of_ble_eq_true rfl) d_chA_1) ?_
  refine lv_if_eq (tgt := 16) hx hb d_chA_4 (by decide) (fun c => absurd c (by decide)) (fun _ => ?_)
  refine lv_aload_n hx hb d_chA_7 rfl (lv_at hl 0 rfl) ?_
  refine vk_getf hx hb hh.2.2.2.1 hS hown (htw _ fl_1) (fun _ h => h) d_chA_8 ?_
  refine lv_iload_n hx hb d_chA_11 rfl (lv_at hl 1 rfl) ?_
  refine gp_go (gp_runS (As := [.ref v, .int i]) (rest := []) hx hb hml hown htw gp_blindS (gp_preS hS hh.2) hl.1 (w_lat q v i hi) k_lat ml_3 ⟨Nat.le_of_ble_eq_true rfl, Nat.le_of_ble_eq_true rfl⟩ rfl rfl rfl rfl (Nat.le_of_ble_eq_true rfl) d_chA_12) ?_
  refine W.zret hx hb hr ?_ (fun t ht _ => ⟨rfl, ht⟩) (fun _ h => by cases h) d_chA_15 hlocks
  rw [← gx_dgc _ hlt]
  exact pk_nc _
end GP2
