/-! methods that may throw -/
def gx_End (st : State) (o : Outcome) (t : State) (L : List Loc) : Prop := (∃ v, o = .returned v ∧ st.WarmedH t.vm ∧ st.sameButNew ({ t with vm := st.vm } : State) L 0 0) ∨ (∃ x, o = .threw x ∧ st.WarmedH t.vm ∧ st.sameButNew ({ t with vm := st.vm } : State) L 1 6)
def MetX (l : Launch) (y : MethodName) (ws : List Cond) (rm : Room) (Pc : Array Value → State → Prop) (Qc : Array Value → State → Outcome → State → Prop) (free : Addr → Prop) : Prop :=
  MetFree l y (headSpec ws rm) Pc (fun _ _ _ _ _ => True) (fun a st o t => Qc a st o t ∧ ∃ L, gx_End st o t L ∧ ∀ q ∈ L, free q.base)
def MQX (below : List Frame) (Qc : Array Value → State → Outcome → State → Prop) (a : Array Value) (s : State) (free : Addr → Prop) : State → Prop := fun t =>
  ∃ o, t.status = .running ∧ Ended t below o ∧ Qc a s o t ∧ ∃ L, gx_End s o t L ∧ ∀ q ∈ L, free q.base
theorem MetX.ofW {l : Launch} {y : MethodName} {ws ws' : List Cond} {rm : Room} {Pc : Array Value → State → Prop} {Qc : Array Value → State → Outcome → State → Prop} {free : Addr → Prop} {cc : ByteArray} {maxL : Nat} {ret : Option FieldType}
    (hy : plainName y.cls = true) (hw : ws = Cond.code y cc maxL ret :: ws')
    (body : ∀ p e s m args below meth c s₁, BodyLoose p l y (headSpec ws rm) cc maxL ret e s m args below meth c s₁ → c.maxLocals = maxL → Pc args s →
      W p l e (headSpec ws rm).room s m args below meth c s.heap [] 0 0 (MQX below Qc args s free) (entryFrame m args maxL)) : MetX l y ws rm Pc Qc free := by
  refine MetFree.of_bodyS (code := cc) (maxLocals := maxL) (ret := ret) hy ?_ ?_
  · intro args s m h hn
    obtain ⟨meth, c, h1, h2, h3, h4, h5, h6, -, -⟩ := Cond.code_spec hn (atoms_spec (ws := ws) h _ (by rw [hw]; exact List.mem_cons_self))
    exact ⟨meth, c, h1, h2, h3, h4, h5, h6⟩
  · intro p e s m args below meth c s₁ B hml hP _
    have hh0 : s₁.heap = s.heap := by rw [B.state]; rfl
    obtain ⟨t, a1, o, b1, b2, b3⟩ := body p e s m args below meth c s₁ B hml hP s₁ hh0 (Stand.of_body B)
    exact ⟨t, o, a1, b1, b2, ⟨b3.1, b3.2⟩⟩
def gx_name (k : Nat) : String := if k = 1 then "java/lang/IllegalArgumentException" else if k = 2 then "java/lang/IndexOutOfBoundsException" else "java/lang/ArithmeticException"
def gx_Ex (k x : Nat) (t : State) : Prop := ∃ cell : Cell, t.heap[x]? = some cell ∧ t.vm.findClass (gx_name k) = some cell.cls ∧ cell.vm = .none
def gx_Q (D : va_G) (cI cB cJ cW : ClassId) (Λ : gs_L) (L : Nat → Nat → Int64) (pr : Option Value → gm_M → gm_M → Prop) (pe : Nat → gm_M → gm_M → Prop) : Array Value → State → Outcome → State → Prop := fun _ st o t =>
  ((∃ (v : Option Value) (u : gm_M × gm_M), o = .returned v ∧ pr v u.1 u.2 ∧ gw_B D cI cB cJ cW Λ L u t) ∨ (∃ (x k : Nat) (u : gm_M × gm_M), o = .threw x ∧ pe k u.1 u.2 ∧ gx_Ex k x t ∧ gw_B D cI cB cJ cW Λ L u t)) ∧ va_F (gw_A Λ) st t
abbrev gx_Qi (D : va_G) (cI cB cJ cW : ClassId) (Λ : gs_L) (L : Nat → Nat → Int64) (post : Int32 → gm_M → gm_M → Prop) (pe : Nat → gm_M → gm_M → Prop) : Array Value → State → Outcome → State → Prop := gx_Q D cI cB cJ cW Λ L (fun v F A => ∃ r : Int32, v = some (.int r) ∧ post r F A) pe
abbrev gx_Ql (D : va_G) (cI cB cJ cW : ClassId) (Λ : gs_L) (L : Nat → Nat → Int64) (post : Int64 → gm_M → gm_M → Prop) (pe : Nat → gm_M → gm_M → Prop) : Array Value → State → Outcome → State → Prop := gx_Q D cI cB cJ cW Λ L (fun v F A => ∃ r : Int64, v = some (.long r) ∧ post r F A) pe
abbrev gx_Qv (D : va_G) (cI cB cJ cW : ClassId) (Λ : gs_L) (L : Nat → Nat → Int64) (post : gm_M → gm_M → Prop) (pe : Nat → gm_M → gm_M → Prop) : Array Value → State → Outcome → State → Prop := gx_Q D cI cB cJ cW Λ L (fun v F A => v = none ∧ post F A) pe
section GX
variable {p : Program} {l : Launch} {e : Env} {R : Room} {s : State} {m : MethodId} {args : Array Value} {below : List Frame} {meth : Method} {c : Code} {H : Heap} {locs : List Loc} {cells slots : Nat} {Q Q' : State → Prop}
theorem gx_mono {g : JFrame} (h : ∀ t, Q t → Q' t) (k : W p l e R s m args below meth c H locs cells slots Q g) : W p l e R s m args below meth c H locs cells slots Q' g := fun T hT X => by
  obtain ⟨t, a, b⟩ := k T hT X
  exact ⟨t, a, h t b⟩
variable {cc bytes : ByteArray} {pc nL maxL index n : Nat} {ls : Array Slot} {rest st0 As : List Value} {D : va_G} {b : Nat} {Λ : gs_L} {F A : gm_M} {L : Nat → Nat → Int64} {cI cB cJ cW : ClassId} {y : MethodName} {own : String} {ret : Option FieldType} {rm : Room} {pe : Nat → gm_M → gm_M → Prop}
theorem gx_iret {v : Int32} (hexec : p.tables.exec = Jvm.exec) (hb : c.code = cc) (hr : meth.sig.returnType = some .int) (hlocks : meth.locks = false) (hP : va_P D gcls (gs_ws Λ F A L) H) (hK : va_K D gcls (gtys cI cB cJ cW) s) (hS : va_S (gw_A Λ) s.heap H locs) {post : Int32 → gm_M → gm_M → Prop} (hp : post v F A) (hdg : decode cc pc = .ok (.ireturn, 1)) : W p l e R s m args below meth c H locs 0 0 (MQX below (gx_Qi D cI cB cJ cW Λ L post pe) args s (gw_A Λ)) (F0 m pc ls [.int v]) :=
  gx_mono (fun t ⟨o, h1, h2, ⟨⟨r, u, h3, h4, h5⟩, h6⟩, L', ⟨_, h7, h8⟩, h9⟩ => ⟨o, h1, h2, ⟨Or.inl ⟨_, u, h3, ⟨r, rfl, h4⟩, h5⟩, h6⟩, L', Or.inl ⟨_, h3, h7, h8⟩, h9⟩) (gw_iret (post := post) hexec hb hr hlocks hP hK hS hp hdg)
theorem gx_zret {v : Int32} (hexec : p.tables.exec = Jvm.exec) (hb : c.code = cc) (hr : meth.sig.returnType = some .boolean) (hlocks : meth.locks = false) (hP : va_P D gcls (gs_ws Λ F A L) H) (hK : va_K D gcls (gtys cI cB cJ cW) s) (hS : va_S (gw_A Λ) s.heap H locs) (hz : v = 0 ∨ v = 1) {post : Int32 → gm_M → gm_M → Prop} (hp : post v F A) (hdg : decode cc pc = .ok (.ireturn, 1)) : W p l e R s m args below meth c H locs 0 0 (MQX below (gx_Qi D cI cB cJ cW Λ L post pe) args s (gw_A Λ)) (F0 m pc ls [.int v]) :=
  gx_mono (fun t ⟨o, h1, h2, ⟨⟨r, u, h3, h4, h5⟩, h6⟩, L', ⟨_, h7, h8⟩, h9⟩ => ⟨o, h1, h2, ⟨Or.inl ⟨_, u, h3, ⟨r, rfl, h4⟩, h5⟩, h6⟩, L', Or.inl ⟨_, h3, h7, h8⟩, h9⟩) (gw_zret (post := post) hexec hb hr hlocks hP hK hS hz hp hdg)
theorem gx_lret {v : Int64} (hexec : p.tables.exec = Jvm.exec) (hb : c.code = cc) (hr : meth.sig.returnType = some .long) (hlocks : meth.locks = false) (hP : va_P D gcls (gs_ws Λ F A L) H) (hK : va_K D gcls (gtys cI cB cJ cW) s) (hS : va_S (gw_A Λ) s.heap H locs) {post : Int64 → gm_M → gm_M → Prop} (hp : post v F A) (hdg : decode cc pc = .ok (.lreturn, 1)) : W p l e R s m args below meth c H locs 0 0 (MQX below (gx_Ql D cI cB cJ cW Λ L post pe) args s (gw_A Λ)) (F0 m pc ls [.long v]) :=
  gx_mono (fun t ⟨o, h1, h2, ⟨⟨r, u, h3, h4, h5⟩, h6⟩, L', ⟨_, h7, h8⟩, h9⟩ => ⟨o, h1, h2, ⟨Or.inl ⟨_, u, h3, ⟨r, rfl, h4⟩, h5⟩, h6⟩, L', Or.inl ⟨_, h3, h7, h8⟩, h9⟩) (gw_lret (post := post) hexec hb hr hlocks hP hK hS hp hdg)
theorem gx_vret (hexec : p.tables.exec = Jvm.exec) (hb : c.code = cc) (hr : meth.sig.returnType = none) (hlocks : meth.locks = false) (hP : va_P D gcls (gs_ws Λ F A L) H) (hK : va_K D gcls (gtys cI cB cJ cW) s) (hS : va_S (gw_A Λ) s.heap H locs) {post : gm_M → gm_M → Prop} (hp : post F A) (hdg : decode cc pc = .ok (.return_, 1)) : W p l e R s m args below meth c H locs 0 0 (MQX below (gx_Qv D cI cB cJ cW Λ L post pe) args s (gw_A Λ)) (F0 m pc ls []) :=
  gx_mono (fun t ⟨o, h1, h2, ⟨⟨u, h3, h4, h5⟩, h6⟩, L', ⟨_, h7, h8⟩, h9⟩ => ⟨o, h1, h2, ⟨Or.inl ⟨_, u, h3, ⟨rfl, h4⟩, h5⟩, h6⟩, L', Or.inl ⟨_, h3, h7, h8⟩, h9⟩) (gw_vret (post := post) hexec hb hr hlocks hP hK hS hp hdg)
/-- a call of a method that may throw: it comes back, or its caller's frame stands with what was thrown over it -/
theorem gx_back {ws : List Cond} {Pc : Array Value → State → Prop} {Qc : Array Value → State → Outcome → State → Prop} {free : Addr → Prop} (hM : MetX l y ws rm Pc Qc free) (hbl : FrameBlind Pc) (hfr : rm.frames + 1 ≤ R.frames) (hlo : 8 + (maxL + 11) + rm.locals ≤ R.locals)
    (hws : ∀ w ∈ ws, ∀ (a' : Array Value) (U : State), s.WarmedH U.vm → w.before a' U = true) (hcode : Cond.code y bytes maxL ret ∈ ws) (hinit : ∀ (a' : Array Value) (U : State), s.WarmedH U.vm → (Cond.initialized y.cls).before a' U = true)
    {U : State} (X : Stand p l e R s m args below meth c U locs cells slots) {g : JFrame} (hg : g.method = m) (hsize : g.locals.size = c.maxLocals) {ig : Instr} {len : Nat} (hdg : decode c.code g.pc = .ok (ig, len)) (hW : 2 * g.monitorRoom + (g.stack.map fun v => v.category).sum ≤ 8)
    {mk : MethodId} (hn : U.methodNamed? y = some mk) {a : Array Value} (hp : Pc a U) (hc : cells + rm.cells ≤ R.cells) (hs : slots + rm.slots ≤ R.slots) :
    ∃ (o : Outcome) (t T' : State) (L' : List Loc), (∀ q ∈ L', free q.base) ∧ Qc a (U.calling g mk a) o t ∧ T'.heap = t.heap ∧ T'.vm = t.vm ∧
      ((∃ v, o = .returned v ∧ Stand p l e R s m args below meth c T' (locs ++ L') (cells + 0) (slots + 0) ∧ Steps p.tables e below (doInvoke e (U.setTop g) [] mk a).1 (T'.setTop { g with pc := g.pc + len, stack := v.toList ++ g.stack })) ∨
       (∃ x, o = .threw x ∧ Stand p l e R s m args below meth c T' (locs ++ L') (cells + 1) (slots + 6) ∧ Steps p.tables e below (doInvoke e (U.setTop g) [] mk a).1 ((T'.setTop g).pushFrame (.throwing x)))) := by
  have h2 := hws _ hcode a U X.warmed
  have h3 := hinit a U X.warmed
  obtain ⟨methY, cY, hmY, hcY, -, hlY, -, -, -, -⟩ := Cond.code_spec hn h2
  obtain ⟨kY, hkY, -⟩ := className_of_methodNamed hn
  have hinitY : kY.init = .initialized := Cond.initialized_spec (findClass_of_methodNamed hn) hkY h3
  have h : At U g.method c below := by rw [hg]; exact X.here
  have happ : (headSpec ws rm).appliesLoose y e.platform (U.calling g mk a) = true :=
    Spec.appliesLoose_calling (g := g) h hdg hn hkY hinitY
      (X.room_calling (g := g) (R' := (headSpec ws rm).room) hsize hmY hcY hfr (by rw [hlY]; show _ + rm.locals ≤ _; omega) hc hs) (atoms_intro fun w hw => hws w hw _ _ X.warmed)
  obtain ⟨mid, hmid⟩ := h.above
  have hfr' : (U.setTop g).frames = (.java g :: mid) ++ below := by rw [State.frames_setTop' g h.top, hmid]; rfl
  obtain ⟨o, t, hsteps, -, hend, hq, L', hE, hL⟩ := Steps.callFree hM p X.admits X.cas X.clock (acts := []) hfr' happ (hbl _ _ _ _ hp) trivial
  rw [State.frames_setTop' g h.top, X.tail] at hend
  rcases hE with ⟨v, rfl, hW₂, hsame⟩ | ⟨x, rfl, hW₂, hsame⟩
  · obtain ⟨T', X', -, -, rfl⟩ := X.outOf hg hdg hend hW₂ hsame
    exact ⟨_, _, T', L', hL, hq, by simp, by simp, Or.inl ⟨v, rfl, X', hsteps⟩⟩
  · obtain ⟨T', X', -, -, rfl⟩ := X.outOfThrown hg hend hW₂ hsame
    exact ⟨_, _, T', L', hL, hq, by simp [State.pushFrame], by simp [State.pushFrame], Or.inr ⟨x, rfl, X', hsteps⟩⟩
end GX
