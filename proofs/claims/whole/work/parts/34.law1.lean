theorem gy_N {args : Array Value} {s : State} (hts : ∀ w ∈ lw_tbl, w.before args s = true) (hg : gy_seen.before args s = true) {A : Nat → Prop} (hA : ∀ a : Nat, a < s.heap.size → ¬ A a) : gx_N A s ∧ va_AO "LimbDesk$Whole" s ∧ va_Nc (gx_name 2) (gx_name 1) s ∧ va_Nc (gx_name 3) (gx_name 1) s := by
  have u : ∀ w ∈ gy_words, w.before args s = true := fun w hw => gy_use hts hg (List.all_eq_true.mp gy_all w hw)
  have e1 : ∀ w ∈ gx_decl.map (fun x => Cond.declares x), w.before args s = true := fun w hw => u w (List.mem_append_left _ (List.mem_append_left _ (List.mem_append_left _ (List.mem_append_left _ (List.mem_append_left _ (List.mem_append_left _ hw))))))
  have e2 : ∀ w ∈ gx_cls.map (fun C => Cond.castable C C), w.before args s = true := fun w hw => u w (List.mem_append_left _ (List.mem_append_left _ (List.mem_append_left _ (List.mem_append_left _ (List.mem_append_left _ (List.mem_append_right _ hw))))))
  have e4 : ∀ w ∈ gx_msgs.map (fun q => Cond.stringRef q.1 q.2.1 q.2.2), w.before args s = true := fun w hw => u w (List.mem_append_left _ (List.mem_append_left _ (List.mem_append_left _ (List.mem_append_right _ hw))))
  have e5 : ∀ w ∈ gx_msgs.map (fun q => Cond.exactly (.string q.1 q.2.1) "java/lang/String"), w.before args s = true := fun w hw => u w (List.mem_append_left _ (List.mem_append_left _ (List.mem_append_right _ hw)))
  have e7 : ∀ w ∈ (List.range 36).map (fun j => Cond.eq (.elem gy_val (.int (Int32.ofNat j))) (.int (gx_dg j))), w.before args s = true := fun w hw => u w (List.mem_append_right _ hw)
  have v : ∀ w, gy_words.contains w = true → w.before args s = true := fun w hw => u w (by simpa using hw)
  have ex : ∀ q ∈ gx_msgs, ∃ a : Nat, (Term.string q.1 q.2.1).eval args s none [] s = some (.ref a) ∧ vk_R q.1 q.2.1 q.2.2 a s := fun q hq => by
    obtain ⟨a, c, cA, kA, q1, -⟩ := Cond.exactly_spec (args := args) (first := s) (o := none) (s := s) (idx := []) (t := .string q.1 q.2.1) (cls := "java/lang/String") (e5 _ (List.mem_map.mpr ⟨q, hq, rfl⟩))
    exact ⟨a, q1, vk_R.of (e4 _ (List.mem_map.mpr ⟨q, hq, rfl⟩)) q1⟩
  have wi : ∀ (i : Nat) (w : Cond), gy_words[i]? = some w → w.before args s = true := fun i w h => u w (List.mem_of_getElem? h)
  have z1 : gx_Z Bundle.tN "UNASSIGNED_STACK" Bundle.steD A s := gx_Z.of (wi 6 _ rfl) (wi 8 _ rfl) hA
  have z2 : gx_Z Bundle.tN "SUPPRESSED_SENTINEL" Bundle.listD A s := gx_Z.of (wi 7 _ rfl) (wi 9 _ rfl) hA
  have S : gx_S A s := by
    obtain ⟨a, q1, hR⟩ := ex ("LimbDesk$Letters", 75, "0123456789abcdefghijklmnopqrstuvwxyz") (List.mem_of_getElem? (i := 6) rfl)
    obtain ⟨t, ht, hT⟩ := va_Tof (f := fun j => .int (gx_dg j)) (A := A) (N := 36) (by decide) (wi 39 _ rfl) (va_eqt (wi 40 _ rfl)) (fun j hj => va_eqt (e7 _ (List.mem_map.mpr ⟨j, List.mem_range.mpr hj, rfl⟩))) hA
    refine ⟨a, t, hR, va_Oof (e5 _ (List.mem_map.mpr ⟨_, List.mem_of_getElem? (i := 6) rfl, rfl⟩)) q1 hA, vk_OFof q1 (va_eqt (wi 38 _ rfl)) hA, vk_OFof q1 ht hA, hT, va_Zof (wi 41 _ rfl) (wi 42 _ rfl) (va_eqt (wi 43 _ rfl)) hA, va_Zqof (wi 44 _ rfl) (wi 45 _ rfl) (wi 46 _ rfl) hA⟩
  exact ⟨⟨fun x hx => va_Nw.of rfl (e1 _ (List.mem_map.mpr ⟨x, hx, rfl⟩)), fun C hC => va_Nw.of rfl (e2 _ (List.mem_map.mpr ⟨C, hC, rfl⟩)), z1, z2, fun q hq => (by obtain ⟨a, -, h⟩ := ex q hq; exact ⟨a, h⟩), S⟩, va_AO.of (wi 47 _ rfl), va_Nc.of (wi 48 _ rfl), va_Nc.of (wi 49 _ rfl)⟩
theorem gy_K {args : Array Value} {s : State} (htw : ∀ w ∈ gw_WS, w.before args s = true) (hao : va_AO "LimbDesk$Whole" s) : ∃ (D : va_G) (cI cB cJ cW : ClassId), va_K D gcls (gtys cI cB cJ cW) s := by
  obtain ⟨c0, i0, k0⟩ := u_known htw i_W (htw _ in_W)
  obtain ⟨c1, i1, k1⟩ := u_known htw i_D (htw _ in_D)
  obtain ⟨c2, i2, k2⟩ := u_known htw i_T (htw _ in_T)
  obtain ⟨c3, i3, k3⟩ := u_known htw i_K (htw _ in_K)
  obtain ⟨c4, i4, k4⟩ := u_known htw i_M (htw _ in_M)
  obtain ⟨cI, kI, mI, a1, a2, a3⟩ := Cond.arrayClass_spec (htw _ ac_int)
  obtain ⟨cB, kB, mB, b1, b2, b3⟩ := Cond.arrayClass_spec (htw _ ac_byte)
  obtain ⟨cJ, kJ, mJ, j1, j2, j3⟩ := Cond.arrayClass_spec (htw _ ac_long)
  obtain ⟨mW, cW, kW, w1, w2, w3, w4, w5⟩ := Cond.arrayOver_spec hao
  refine ⟨(fun n => [c0, c1, c2, c3, c4].getD n 0, fun n => [i0, i1, i2, i3, i4].getD n (fun _ => 0)), cI, cB, cJ, cW, ?_, ?_⟩
  · intro n q hq
    match n, hq with
    | 0, hq => cases hq; exact k0
    | 1, hq => cases hq; exact k1
    | 2, hq => cases hq; exact k2
    | 3, hq => cases hq; exact k3
    | 4, hq => cases hq; exact k4
    | n + 5, hq => simp at hq
  · intro n q hq
    match n, hq with
    | 0, hq => cases hq; exact ⟨fun n z => ⟨fun k h => (by cases h), kI, a2, mI, a3⟩, a1⟩
    | 1, hq => cases hq; exact ⟨fun n z => ⟨fun k h => (by cases h), kB, b2, mB, b3⟩, b1⟩
    | 2, hq => cases hq; exact ⟨fun n z => ⟨fun k h => (by cases h), kJ, j2, mJ, j3⟩, j1⟩
    | 3, hq => cases hq; exact ⟨fun n z => ⟨fun k h => (by cases h), kW, w3, mW, w4⟩, kW, mW, w3, w4, w1, w5⟩
    | n + 4, hq => simp at hq
/-! calls in the law, at any room used -/
section GQ
variable {p : Program} {l : Launch} {e : Env} {R : Room} {s : State} {m : MethodId} {args : Array Value} {below : List Frame} {meth : Method} {c : Code} {H : Heap} {locs : List Loc} {cells slots : Nat} {Q : State → Prop}
variable {cc bytes : ByteArray} {pc nL maxL index n mc ms : Nat} {ls : Array Slot} {rest st0 As : List Value} {D : va_G} {b : Nat} {Λ : gs_L} {F A : gm_M} {L : lm_M} {cI cB cJ cW : ClassId} {y : MethodName} {own : String} {ret : Option FieldType} {rm : Room} {free : Addr → Prop}
theorem gq_runV (hexec : p.tables.exec = Jvm.exec) (hb : c.code = cc) (hml : c.maxLocals = nL) (hown : s.vm.findClass own = some m.cls) (htw : ∀ w ∈ gw_WS, w.before args s = true) (hK : va_K D gcls (gtys cI cB cJ cW) s) (hP : va_P D gcls (gs_ws Λ F A L) H) (hsize : ls.size = nL) {Qc : Array Value → State → Outcome → State → Prop}
    (hM : Met l y (Cond.code y bytes maxL ret :: gw_WS) rm (va_Pc (.ref b :: As) (gw_P D cI cB cJ cW Λ L F A)) Qc 0 0 (gw_A Λ)) (hy : gw_OKV y bytes maxL ret n) (hl : Cond.methodLink own index y ∈ gw_WS) (hR : rm.frames + 1 ≤ R.frames ∧ 8 + (maxL + 11) + rm.locals ≤ R.locals) (hrc : rm.cells = 0) (hrs : rm.slots = 0) (hf : cells ≤ R.cells ∧ slots ≤ R.slots)
    {ci N : Nat} {T : u_T} {rs : List gs_R} (hm : (b, Sum.inl (ci, rs)) ∈ Λ) (hc : gcls[ci]? = some (y.cls, T, N)) (hn : As.length = n) (hst : st0 = As.reverse ++ .ref b :: rest) (hroom : (rest.map fun v => v.category).sum ≤ 8) (hdg : decode cc pc = .ok (.invokevirtual index, 3)) :
    va_Run p l e R s m args below meth c H locs cells slots 0 0 (F0 m pc ls st0) rest (Qc (Value.ref b :: As).toArray) (gw_A Λ) := by
  obtain ⟨q0, -, hw⟩ := gs_ws_at (F := F) (A := A) (L := L) hm
  refine va_runV (C := y.cls) (As := As) (rest := rest) (Ts := gw_WS) ⟨hexec, hb, hml, hown, htw⟩ hM ⟨gw_cb htw hy.1 hl hR hrc hrs, htw _ hy.2.1, htw _ hy.2.2⟩ ⟨gw_blind, va_recv hK hP hc hw, fun U hU hW => ⟨rfl, by rw [hU]; exact hP, va_K.moved hW.alike hK⟩⟩ rfl hn hsize hst (lv_room hroom) hdg ⟨hf.1, hf.2⟩
theorem gq_goi {a : Array Value} {post : Int32 → gm_M → gm_M → Prop} (hr : va_Run p l e R s m args below meth c H locs cells slots 0 0 (F0 m pc ls st0) rest (gw_Qi D cI cB cJ cW Λ L post a) (gw_A Λ)) (hS : va_S (gw_A Λ) s.heap H locs)
    (kk : ∀ (r : Int32) (F1 A1 : gm_M) (H1 : Heap) (locs1 : List Loc), post r F1 A1 → va_P D gcls (gs_ws Λ F1 A1 L) H1 → va_S (gw_A Λ) s.heap H1 locs1 → W p l e R s m args below meth c H1 locs1 cells slots Q (F0 m (pc + 3) ls (.int r :: rest))) : W p l e R s m args below meth c H locs cells slots Q (F0 m pc ls st0) :=
  va_calli hr hS (fun _ _ h => h) (fun _ h => h) (fun r u t H1 locs1 ht _ hp hB _ _ hS1 => kk r u.1 u.2 H1 locs1 hp (by rw [← ht]; exact hB.1) hS1)
theorem gq_gol {a : Array Value} {post : Int64 → gm_M → gm_M → Prop} (hr : va_Run p l e R s m args below meth c H locs cells slots 0 0 (F0 m pc ls st0) rest (gw_Ql D cI cB cJ cW Λ L post a) (gw_A Λ)) (hS : va_S (gw_A Λ) s.heap H locs)
    (kk : ∀ (r : Int64) (F1 A1 : gm_M) (H1 : Heap) (locs1 : List Loc), post r F1 A1 → va_P D gcls (gs_ws Λ F1 A1 L) H1 → va_S (gw_A Λ) s.heap H1 locs1 → W p l e R s m args below meth c H1 locs1 cells slots Q (F0 m (pc + 3) ls (.long r :: rest))) : W p l e R s m args below meth c H locs cells slots Q (F0 m pc ls st0) :=
  va_calll hr hS (fun _ _ h => h) (fun _ h => h) (fun r u t H1 locs1 ht _ hp hB _ _ hS1 => kk r u.1 u.2 H1 locs1 hp (by rw [← ht]; exact hB.1) hS1)
theorem gl_goi {a : Array Value} {post : Int32 → gm_M → gm_M → lm_M → Prop} (hr : va_Run p l e R s m args below meth c H locs cells slots mc ms (F0 m pc ls st0) rest (gl_Q D cI cB cJ cW Λ post a) (gw_A Λ)) (hS : va_S (gw_A Λ) s.heap H locs)
    (kk : ∀ (r : Int32) (F1 A1 : gm_M) (L1 : lm_M) (H1 : Heap) (locs1 : List Loc), post r F1 A1 L1 → va_P D gcls (gs_ws Λ F1 A1 L1) H1 → va_S (gw_A Λ) s.heap H1 locs1 → W p l e R s m args below meth c H1 locs1 (cells + mc) (slots + ms) Q (F0 m (pc + 3) ls (.int r :: rest))) : W p l e R s m args below meth c H locs cells slots Q (F0 m pc ls st0) :=
  va_calli hr hS (fun _ _ h => h) (fun _ h => h) (fun r u t H1 locs1 ht _ hp hB _ _ hS1 => kk r u.1 u.2.1 u.2.2 H1 locs1 hp (by rw [← ht]; exact hB.1) hS1)
theorem gl_blind : FrameBlind (va_Pc As (gw_PL D cI cB cJ cW Λ L F A)) := by
  intro a U g mk q
  obtain ⟨q0, ⟨⟨qP, qK⟩, qN⟩, h2, h3⟩ := q
  exact ⟨q0, ⟨⟨qP, va_K.moved (u := U) (U := U.calling g mk a) (Vm.Alike.refl U.vm) qK⟩, gx_N.step (s := U) (U := U.calling g mk a) (State.WarmedH.refl U) (fun _ _ _ => rfl) qN⟩, va_Nc.moved (u := U) (U := U.calling g mk a) (Vm.Alike.refl U.vm) h2, va_Nc.moved (u := U) (U := U.calling g mk a) (Vm.Alike.refl U.vm) h3⟩
theorem gl_pre (hP : va_P D gcls (gs_ws Λ F A L) H) (hK : va_K D gcls (gtys cI cB cJ cW) s) (hS : va_S (gw_A Λ) s.heap H locs) (hN : gx_N (gw_A Λ) s) (h2 : va_Nc (gx_name 2) (gx_name 1) s) (h3 : va_Nc (gx_name 3) (gx_name 1) s) : ∀ U : State, U.heap = H → s.WarmedH U.vm → va_Pc As (gw_PL D cI cB cJ cW Λ L F A) As.toArray U :=
  fun U hU hW => ⟨rfl, ⟨⟨by rw [hU]; exact hP, va_K.moved hW.alike hK⟩, gx_N.step hW (by rw [hU]; exact hS.2.1) hN⟩, va_Nc.moved hW.alike h2, va_Nc.moved hW.alike h3⟩
theorem gl_runS {hh : List (Nat × Nat × Nat × Nat)} (hexec : p.tables.exec = Jvm.exec) (hb : c.code = cc) (hml : c.maxLocals = nL) (hown : s.vm.findClass own = some m.cls) (htw : ∀ w ∈ gw_WS, w.before args s = true) {Pc : Array Value → State → Prop} (hbl : FrameBlind Pc) (hpre : ∀ U : State, U.heap = H → s.WarmedH U.vm → Pc As.toArray U) (hsize : ls.size = nL) {Qc : Array Value → State → Outcome → State → Prop}
    (hM : Met l y (Cond.codeWith y bytes maxL ret hh :: gw_WS) rm Pc Qc mc ms free) (hcw : Cond.codeWith y bytes maxL ret hh ∈ gw_WS) (hst : Cond.static y ∈ gw_WS) (hini : Cond.initialized y.cls ∈ gw_WS) (hyy : y.cls ≠ "java/lang/invoke/MethodHandle" ∧ y.cls ≠ "java/lang/invoke/VarHandle" ∧ (parseMethodDescriptor y.desc).map (fun d => d.parameters.length) = some n) (hl : Cond.methodLink own index y ∈ gw_WS) (hR : rm.frames + 1 ≤ R.frames ∧ 8 + (maxL + 11) + rm.locals ≤ R.locals) (hrc : rm.cells = mc) (hrs : rm.slots = ms) (hf : cells + mc ≤ R.cells ∧ slots + ms ≤ R.slots)
    (hn : As.length = n) (hstk : st0 = As.reverse ++ rest) (hroom : (rest.map fun v => v.category).sum ≤ 8) (hdg : decode cc pc = .ok (.invokestatic index, 3)) :
    va_Run p l e R s m args below meth c H locs cells slots mc ms (F0 m pc ls st0) rest (Qc As.toArray) free := by
  have hws : ∀ w ∈ Cond.codeWith y bytes maxL ret hh :: gw_WS, ∀ (a' : Array Value) (U : State), s.WarmedH U.vm → w.before a' U = true := fun w hw a' U hW => by
    rcases List.mem_cons.mp hw with rfl | hw
    · exact word_at hW (gw_good hcw) (htw _ hcw)
    · exact word_at hW (gw_good hw) (htw _ hw)
  have hK : Back l R p e below s args y 3 8 (PreOf R mc ms Pc) (PostOf Qc mc ms free) := va_backW (hh := hh) (bytes := bytes) (maxL := maxL) (ret := ret) hM hbl hrc hrs hR.1 hR.2 hws List.mem_cons_self (fun a' U hW => word_at hW (gw_good hini) (htw _ hini))
  intro T hT X
  obtain ⟨mk, methM, cM, hnamed, hmethM, -, -, -, -, -, -, hsigM⟩ := Cond.codeWith_spec (htw _ hcw)
  have hstatic : methM.isStatic = true := Cond.static_spec hnamed hmethM (htw _ hst)
  obtain ⟨kP, hkP, -⟩ := className_of_methodNamed hnamed
  have hinitP : kP.init = .initialized := Cond.initialized_spec (findClass_of_methodNamed hnamed) hkP (htw _ hini)
  have hlen : As.length = methM.sig.parameters.length := by
    have h3 := hyy.2.2
    rw [hsigM] at h3
    exact hn.trans (Option.some.inj h3).symm
  obtain ⟨vm₁, X₁, hstep₁⟩ := X.invokestatic hexec hown (htw _ hl) hnamed hmethM hstatic hkP hinitP ⟨hyy.1, hyy.2.1⟩ (g := F0 m pc ls st0) rfl (argsL := As) (rest := rest) hlen hstk (by rw [hb]; exact hdg)
  obtain ⟨v, ⟨U', l2, c2, s2⟩, X', hpost, hsteps⟩ := hK m meth c ⟨T.setVm vm₁, locs, cells, slots⟩ { F0 m pc ls st0 with stack := rest } (.invokestatic index) mk As.toArray X₁ rfl (hsize.trans hml.symm) (by rw [hb]; exact hdg) (lv_room hroom) (X₁.named hnamed) ⟨hf.1, hf.2, hpre (T.setVm vm₁) hT X₁.warmed⟩
  obtain ⟨g', mk', t, L', e1, e2, hq, h1, hL, h2, h3⟩ := hpost
  dsimp only [Pt.U, Pt.locs, Pt.cells, Pt.slots] at X' e1 e2 h1 h2 h3 hsteps
  subst h1; subst h2; subst h3
  exact ⟨v, (T.setVm vm₁).calling g' mk' As.toArray, t, U', L', hT, X', hL, e1, e2, hq, fun target h => hstep₁ _ fun acts => by rw [doInvoke_state]; exact hsteps.trans h⟩
end GQ
