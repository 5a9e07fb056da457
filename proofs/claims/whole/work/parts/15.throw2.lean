section GX2
variable {p : Program} {l : Launch} {e : Env} {R : Room} {s : State} {m : MethodId} {args : Array Value} {below : List Frame} {meth : Method} {c : Code} {H : Heap} {locs : List Loc} {cells slots : Nat} {Q Q' : State → Prop}
variable {cc bytes : ByteArray} {pc nL maxL index n : Nat} {ls : Array Slot} {rest st0 As : List Value} {D : va_G} {b : Nat} {Λ : gs_L} {F A : gm_M} {L : Nat → Nat → Int64} {cI cB cJ cW : ClassId} {y : MethodName} {own : String} {ret : Option FieldType} {rm : Room} {pe : Nat → gm_M → gm_M → Prop}
/-- x is being thrown over the frame g -/
def WX (p : Program) (l : Launch) (e : Env) (R : Room) (s : State) (m : MethodId) (args : Array Value) (below : List Frame) (meth : Method) (c : Code) (H : Heap) (locs : List Loc) (cells slots : Nat) (Q : State → Prop) (g : JFrame) (x k : Nat) : Prop :=
  ∀ T : State, T.heap = H → gx_Ex k x T → Stand p l e R s m args below meth c T locs cells slots → ∃ t, Steps p.tables e below ((T.setTop g).pushFrame (.throwing x)) t ∧ Q t
def gx_Run (p : Program) (l : Launch) (e : Env) (R : Room) (s : State) (m : MethodId) (args : Array Value) (below : List Frame) (meth : Method) (c : Code) (H : Heap) (locs : List Loc) (g : JFrame) (rest : List Value) (Qa : State → Outcome → State → Prop) (free : Addr → Prop) : Prop :=
  ∀ T : State, T.heap = H → Stand p l e R s m args below meth c T locs 0 0 → ∃ (o : Outcome) (st₀ t T' : State) (L' : List Loc), st₀.heap = H ∧ (∀ q ∈ L', free q.base) ∧ Qa st₀ o t ∧ T'.heap = t.heap ∧ T'.vm = t.vm ∧
    ((∃ v, o = .returned v ∧ Stand p l e R s m args below meth c T' (locs ++ L') 0 0 ∧ ∀ tg, Steps p.tables e below (T'.setTop { g with pc := g.pc + 3, stack := v.toList ++ rest }) tg → Steps p.tables e below (T.setTop g) tg) ∨
     (∃ x, o = .threw x ∧ Stand p l e R s m args below meth c T' (locs ++ L') 1 6 ∧ ∀ tg, Steps p.tables e below ((T'.setTop { g with stack := rest }).pushFrame (.throwing x)) tg → Steps p.tables e below (T.setTop g) tg))
theorem gx_runV (hexec : p.tables.exec = Jvm.exec) (hb : c.code = cc) (hml : c.maxLocals = nL) (hown : s.vm.findClass own = some m.cls) (htw : ∀ w ∈ gw_WS, w.before args s = true) {Pc : Array Value → State → Prop} (hbl : FrameBlind Pc) (hpre : ∀ U : State, U.heap = H → s.WarmedH U.vm → Pc (Value.ref b :: As).toArray U) (hK : va_K D gcls (gtys cI cB cJ cW) s) (hP : va_P D gcls (gs_ws Λ F A L) H) (hsize : ls.size = nL) {Qc : Array Value → State → Outcome → State → Prop}
    (hM : MetX l y (Cond.code y bytes maxL ret :: gw_WS) rm Pc Qc (gw_A Λ)) (hy : gw_OKV y bytes maxL ret n) (hl : Cond.methodLink own index y ∈ gw_WS) (hR : rm.frames + 1 ≤ R.frames ∧ 8 + (maxL + 11) + rm.locals ≤ R.locals) (hrc : rm.cells ≤ R.cells) (hrs : rm.slots ≤ R.slots)
    {ci N : Nat} {T : u_T} {rs : List gs_R} (hm : (b, Sum.inl (ci, rs)) ∈ Λ) (hc : gcls[ci]? = some (y.cls, T, N)) (hn : As.length = n) (hst : st0 = As.reverse ++ .ref b :: rest) (hroom : (rest.map fun v => v.category).sum ≤ 8) (hdg : decode cc pc = .ok (.invokevirtual index, 3)) :
    gx_Run p l e R s m args below meth c H locs (F0 m pc ls st0) rest (Qc (Value.ref b :: As).toArray) (gw_A Λ) := by
  obtain ⟨q0, -, hw⟩ := gs_ws_at (F := F) (A := A) (L := L) hm
  obtain ⟨cellB, hcB, hobj, hcls⟩ := va_recv hK hP hc hw
  have hcb : CallB R s args own index y bytes maxL ret (Cond.code y bytes maxL ret :: gw_WS) rm rm.cells rm.slots n := gw_cb htw hy.1 hl hR rfl rfl
  obtain ⟨-, -, hfr, hlo, hws, hcw, hcode, hini, hyy, hlen, hlink⟩ := hcb
  have hinst := htw _ hy.2.1
  have hsel := htw _ hy.2.2
  intro U hU X
  obtain ⟨mk, methM, hnamed, hmethM, hstM, habM⟩ := Cond.instanceMethod_spec hinst
  obtain ⟨methM', cM, hmethM', -, -, -, -, -, -, hsigM⟩ := Cond.code_spec hnamed hcode
  cases hmethM.symm.trans hmethM'
  obtain ⟨c2, r2, m2, q1, q2, q3, q4, kP, hkP, hkPi⟩ := Cond.selects_spec hsel
  have hcls : s.vm.findClass y.cls = some cellB.cls := hcls
  cases hcls.symm.trans q1
  cases (State.methodFound?_of_named hnamed hyy).symm.trans q2
  cases hnamed.symm.trans q3
  have hselP : selectMethod e.platform s.vm cellB.cls mk = .method mk := by rw [Launch.admits_selectMethod X.admits]; exact q4
  obtain ⟨vm₁, X₁, hstep₁⟩ := X.invokevirtual hexec hown hlink hnamed hmethM hstM hkP hkPi hyy (a := b) (cell := cellB) (by rw [hU]; exact hcB)
    (fun z h => by rw [h] at hobj; cases hobj) hselP hmethM habM hkP hkPi (g := F0 m pc ls st0) rfl (argsL := As) (rest := rest) (hn.trans (hlen _ hsigM)) hst (by rw [hb]; exact hdg)
  obtain ⟨o, t, T', L', hL, hq, e1, e2, hend⟩ := gx_back (bytes := bytes) (maxL := maxL) (ret := ret) hM hbl hfr hlo hws hcw (fun a' V hW => word_at hW (gw_good hy.1.2.1) hini) X₁ (g := { F0 m pc ls st0 with stack := rest }) rfl (hsize.trans hml.symm) (by rw [hb]; exact hdg) (lv_room hroom) (X₁.named hnamed) (hpre _ hU X₁.warmed) (by omega) (by omega)
  refine ⟨o, _, t, T', L', ?_, hL, hq, e1, e2, ?_⟩
  · exact hU
  · rcases hend with ⟨v, rfl, X', st⟩ | ⟨x, rfl, X', st⟩
    · exact Or.inl ⟨v, rfl, X', fun tg h => hstep₁ _ fun acts => by rw [doInvoke_state]; exact st.trans h⟩
    · exact Or.inr ⟨x, rfl, X', fun tg h => hstep₁ _ fun acts => by rw [doInvoke_state]; exact st.trans h⟩
theorem gx_runS (hexec : p.tables.exec = Jvm.exec) (hb : c.code = cc) (hml : c.maxLocals = nL) (hown : s.vm.findClass own = some m.cls) (htw : ∀ w ∈ gw_WS, w.before args s = true) {Pc : Array Value → State → Prop} (hbl : FrameBlind Pc) (hpre : ∀ U : State, U.heap = H → s.WarmedH U.vm → Pc As.toArray U) (hsize : ls.size = nL) {Qc : Array Value → State → Outcome → State → Prop}
    (hM : MetX l y (Cond.code y bytes maxL ret :: gw_WS) rm Pc Qc (gw_A Λ)) (hy : gw_OKS y bytes maxL ret n) (hl : Cond.methodLink own index y ∈ gw_WS) (hR : rm.frames + 1 ≤ R.frames ∧ 8 + (maxL + 11) + rm.locals ≤ R.locals) (hrc : rm.cells ≤ R.cells) (hrs : rm.slots ≤ R.slots)
    (hn : As.length = n) (hst : st0 = As.reverse ++ rest) (hroom : (rest.map fun v => v.category).sum ≤ 8) (hdg : decode cc pc = .ok (.invokestatic index, 3)) :
    gx_Run p l e R s m args below meth c H locs (F0 m pc ls st0) rest (Qc As.toArray) (gw_A Λ) := by
  have hcb : CallB R s args own index y bytes maxL ret (Cond.code y bytes maxL ret :: gw_WS) rm rm.cells rm.slots n := gw_cb htw hy.1 hl hR rfl rfl
  obtain ⟨-, -, hfr, hlo, hws, hcw, hcode, hini, hyy, hlen, hlink⟩ := hcb
  have hstat := htw _ hy.2
  intro U hU X
  obtain ⟨mk, hnamed⟩ := Cond.code_named hcode
  obtain ⟨methM, cM, hmethM, -, -, -, -, -, -, hsigM⟩ := Cond.code_spec hnamed hcode
  have hstatic : methM.isStatic = true := Cond.static_spec hnamed hmethM hstat
  obtain ⟨kP, hkP, -⟩ := className_of_methodNamed hnamed
  have hinitP : kP.init = .initialized := Cond.initialized_spec (findClass_of_methodNamed hnamed) hkP hini
  obtain ⟨vm₁, X₁, hstep₁⟩ := X.invokestatic hexec hown hlink hnamed hmethM hstatic hkP hinitP hyy (g := F0 m pc ls st0) rfl (argsL := As) (rest := rest) (hn.trans (hlen _ hsigM)) hst (by rw [hb]; exact hdg)
  obtain ⟨o, t, T', L', hL, hq, e1, e2, hend⟩ := gx_back (bytes := bytes) (maxL := maxL) (ret := ret) hM hbl hfr hlo hws hcw (fun a' V hW => word_at hW (gw_good hy.1.2.1) hini) X₁ (g := { F0 m pc ls st0 with stack := rest }) rfl (hsize.trans hml.symm) (by rw [hb]; exact hdg) (lv_room hroom) (X₁.named hnamed) (hpre _ hU X₁.warmed) (by omega) (by omega)
  refine ⟨o, _, t, T', L', ?_, hL, hq, e1, e2, ?_⟩
  · exact hU
  · rcases hend with ⟨v, rfl, X', st⟩ | ⟨x, rfl, X', st⟩
    · exact Or.inl ⟨v, rfl, X', fun tg h => hstep₁ _ fun acts => by rw [doInvoke_state]; exact st.trans h⟩
    · exact Or.inr ⟨x, rfl, X', fun tg h => hstep₁ _ fun acts => by rw [doInvoke_state]; exact st.trans h⟩
/-- behind a call that may throw -/
theorem gx_go {a : Array Value} {pr : Option Value → gm_M → gm_M → Prop} (hr : gx_Run p l e R s m args below meth c H locs (F0 m pc ls st0) rest (gx_Q D cI cB cJ cW Λ L pr pe a) (gw_A Λ)) (hS : va_S (gw_A Λ) s.heap H locs)
    (kk : ∀ (v : Option Value) (F1 A1 : gm_M) (H1 : Heap) (locs1 : List Loc), pr v F1 A1 → va_P D gcls (gs_ws Λ F1 A1 L) H1 → va_S (gw_A Λ) s.heap H1 locs1 → W p l e R s m args below meth c H1 locs1 0 0 Q (F0 m (pc + 3) ls (v.toList ++ rest)))
    (kx : ∀ (x k : Nat) (F1 A1 : gm_M) (H1 : Heap) (locs1 : List Loc), pe k F1 A1 → va_P D gcls (gs_ws Λ F1 A1 L) H1 → va_S (gw_A Λ) s.heap H1 locs1 → WX p l e R s m args below meth c H1 locs1 1 6 Q (F0 m pc ls rest) x k) : W p l e R s m args below meth c H locs 0 0 Q (F0 m pc ls st0) := by
  intro T hT X
  obtain ⟨o, st₀, t, T', L', h0, hL, ⟨hq, hz, hk⟩, e1, e2, hend⟩ := hr T hT X
  rw [h0] at hz hk
  have hS1 : va_S (gw_A Λ) s.heap T'.heap (locs ++ L') := ⟨Nat.le_trans hS.1 (by rw [e1]; exact hz), fun q h1 h2 => by rw [e1, hk q (Nat.lt_of_lt_of_le h1 hS.1) h2]; exact hS.2.1 q h1 h2, fun q hq => by
      rcases List.mem_append.mp hq with h | h
      · exact hS.2.2 q h
      · exact hL q h⟩
  rcases hend with ⟨v, rfl, X', st⟩ | ⟨x, rfl, X', st⟩
  · rcases hq with ⟨v', u, hv, hp, hB⟩ | ⟨x', k', u, hv, -⟩
    · cases hv
      obtain ⟨t2, a1, b1⟩ := kk v u.1 u.2 T'.heap (locs ++ L') hp (by rw [e1]; exact hB.1) hS1 T' rfl X'
      exact ⟨t2, st t2 a1, b1⟩
    · cases hv
  · rcases hq with ⟨v', u, hv, -⟩ | ⟨x', k', u, hv, hp, hx, hB⟩
    · cases hv
    · cases hv
      obtain ⟨cell, c1, c2, c3⟩ := hx
      obtain ⟨t2, a1, b1⟩ := kx x k' u.1 u.2 T'.heap (locs ++ L') hp (by rw [e1]; exact hB.1) hS1 T' rfl ⟨cell, by rw [e1]; exact c1, by rw [e2]; exact c2, c3⟩ X'
      exact ⟨t2, st t2 a1, b1⟩
theorem gx_goi {a : Array Value} {post : Int32 → gm_M → gm_M → Prop} (hr : gx_Run p l e R s m args below meth c H locs (F0 m pc ls st0) rest (gx_Qi D cI cB cJ cW Λ L post pe a) (gw_A Λ)) (hS : va_S (gw_A Λ) s.heap H locs)
    (kk : ∀ (r : Int32) (F1 A1 : gm_M) (H1 : Heap) (locs1 : List Loc), post r F1 A1 → va_P D gcls (gs_ws Λ F1 A1 L) H1 → va_S (gw_A Λ) s.heap H1 locs1 → W p l e R s m args below meth c H1 locs1 0 0 Q (F0 m (pc + 3) ls (.int r :: rest)))
    (kx : ∀ (x k : Nat) (F1 A1 : gm_M) (H1 : Heap) (locs1 : List Loc), pe k F1 A1 → va_P D gcls (gs_ws Λ F1 A1 L) H1 → va_S (gw_A Λ) s.heap H1 locs1 → WX p l e R s m args below meth c H1 locs1 1 6 Q (F0 m pc ls rest) x k) : W p l e R s m args below meth c H locs 0 0 Q (F0 m pc ls st0) :=
  gx_go hr hS (fun v F1 A1 H1 locs1 ⟨r, hv, hp⟩ hP hS => by subst hv; exact kk r F1 A1 H1 locs1 hp hP hS) kx
theorem gx_gol {a : Array Value} {post : Int64 → gm_M → gm_M → Prop} (hr : gx_Run p l e R s m args below meth c H locs (F0 m pc ls st0) rest (gx_Ql D cI cB cJ cW Λ L post pe a) (gw_A Λ)) (hS : va_S (gw_A Λ) s.heap H locs)
    (kk : ∀ (r : Int64) (F1 A1 : gm_M) (H1 : Heap) (locs1 : List Loc), post r F1 A1 → va_P D gcls (gs_ws Λ F1 A1 L) H1 → va_S (gw_A Λ) s.heap H1 locs1 → W p l e R s m args below meth c H1 locs1 0 0 Q (F0 m (pc + 3) ls (.long r :: rest)))
    (kx : ∀ (x k : Nat) (F1 A1 : gm_M) (H1 : Heap) (locs1 : List Loc), pe k F1 A1 → va_P D gcls (gs_ws Λ F1 A1 L) H1 → va_S (gw_A Λ) s.heap H1 locs1 → WX p l e R s m args below meth c H1 locs1 1 6 Q (F0 m pc ls rest) x k) : W p l e R s m args below meth c H locs 0 0 Q (F0 m pc ls st0) :=
  gx_go hr hS (fun v F1 A1 H1 locs1 ⟨r, hv, hp⟩ hP hS => by subst hv; exact kk r F1 A1 H1 locs1 hp hP hS) kx
theorem gx_gov {a : Array Value} {post : gm_M → gm_M → Prop} (hr : gx_Run p l e R s m args below meth c H locs (F0 m pc ls st0) rest (gx_Qv D cI cB cJ cW Λ L post pe a) (gw_A Λ)) (hS : va_S (gw_A Λ) s.heap H locs)
    (kk : ∀ (F1 A1 : gm_M) (H1 : Heap) (locs1 : List Loc), post F1 A1 → va_P D gcls (gs_ws Λ F1 A1 L) H1 → va_S (gw_A Λ) s.heap H1 locs1 → W p l e R s m args below meth c H1 locs1 0 0 Q (F0 m (pc + 3) ls rest))
    (kx : ∀ (x k : Nat) (F1 A1 : gm_M) (H1 : Heap) (locs1 : List Loc), pe k F1 A1 → va_P D gcls (gs_ws Λ F1 A1 L) H1 → va_S (gw_A Λ) s.heap H1 locs1 → WX p l e R s m args below meth c H1 locs1 1 6 Q (F0 m pc ls rest) x k) : W p l e R s m args below meth c H locs 0 0 Q (F0 m pc ls st0) :=
  gx_go hr hS (fun v F1 A1 H1 locs1 ⟨hv, hp⟩ hP hS => by subst hv; exact kk F1 A1 H1 locs1 hp hP hS) kx
/-- what is thrown over a method without handlers goes on to its caller -/
theorem gx_out {x k : Nat} {pr : Option Value → gm_M → gm_M → Prop} (hout : c.exceptionTable.isEmpty = true) (hlocks : meth.locks = false) (hP : va_P D gcls (gs_ws Λ F A L) H) (hK : va_K D gcls (gtys cI cB cJ cW) s) (hS : va_S (gw_A Λ) s.heap H locs) (hp : pe k F A) : WX p l e R s m args below meth c H locs 1 6 (MQX below (gx_Q D cI cB cJ cW Λ L pr pe) args s (gw_A Λ)) (F0 m pc ls rest) x k := by
  intro T hT hx X
  have h0 : c.exceptionTable.toList = [] := List.eq_nil_of_length_eq_zero (by simpa [Array.isEmpty] using hout)
  obtain ⟨a1, a2, a3, a4, a5⟩ := X.leaveThrown x (g := F0 m pc ls rest) rfl rfl rfl (fun q hq => by rw [h0] at hq; cases hq) hlocks
  obtain ⟨cell, c1, c2, c3⟩ := hx
  refine ⟨_, a1, .threw x, a2, a3, ⟨Or.inr ⟨x, k, (F, A), rfl, hp, ⟨cell, c1, c2, c3⟩, ?_, ?_⟩, ?_⟩, locs, Or.inr ⟨x, rfl, a4, a5⟩, hS.2.2⟩
  · show va_P D gcls (gs_ws Λ F A L) T.heap
    rw [hT]; exact hP
  · exact va_K.moved a4.alike hK
  · exact hS.F hT
end GX2
