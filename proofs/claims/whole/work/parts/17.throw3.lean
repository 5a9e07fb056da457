/-! what a throw needs beyond the warm words: static references, String constants, declared constructors -/
def gx_Z (C n d : String) (A : Nat → Prop) (U : State) : Prop := ∃ (cf : ClassId) (kf : Class) (fi : Nat) (f : Field) (a : Nat) (cell : Cell) (v : Value), U.vm.findClass C = some cf ∧ U.fieldFound? C n d = some (cf, kf, fi, f) ∧ f.isStatic = true ∧ kf.statics = some a ∧ U.heap[a]? = some cell ∧ cell.vm.isStatics = true ∧ cell.cls = cf ∧ f.slot < cell.slots.size ∧ kf.staticTypes[f.slot]? = some f.type ∧ cell.slots[f.slot]? = some v ∧ v.isRef = true ∧ ¬ A a
theorem gx_Z.step {C n d : String} {A : Nat → Prop} {s U : State} (hW : s.WarmedH U.vm) (hk : ∀ q : Nat, q < s.heap.size → ¬ A q → U.heap[q]? = s.heap[q]?) (h : gx_Z C n d A s) : gx_Z C n d A U := by
  obtain ⟨cf, kf, fi, f, a, cell, v, h0, h1, h2, h3, h4, h5, h6, h7, h8, h9, h10, h11⟩ := h
  obtain ⟨k', hi', he⟩ := State.fieldFound?_setVm hW.alike h1
  exact ⟨cf, k', fi, f, a, cell, v, by rw [hW.alike.findClass]; exact h0, hi', h2, by rw [he]; exact h3, by rw [hk a (Array.getElem?_eq_some_iff.mp h4).1 h11]; exact h4, h5, h6, h7, by rw [he]; exact h8, h9, h10, h11⟩
theorem gx_Z.lays {C n d : String} {A : Nat → Prop} {s : State} (h : gx_Z C n d A s) (args : Array Value) : (Cond.laysStatic C n d).before args s = true := by
  obtain ⟨cf, kf, fi, f, a, cell, v, h0, h1, h2, h3, h4, h5, h6, h7, h8, h9, h10, h11⟩ := h
  simp [Cond.before, Cond.holds, Cond.value, h0, h1, h2, h3, h4, h5, h6, h7, h8]
theorem gx_Z.ref {C n d : String} {A : Nat → Prop} {s : State} (h : gx_Z C n d A s) (args : Array Value) : (Cond.isRef (.static C n d)).before args s = true := by
  obtain ⟨cf, kf, fi, f, a, cell, v, h0, h1, h2, h3, h4, h5, h6, h7, h8, h9, h10, h11⟩ := h
  have he : (Term.static C n d).eval args s none [] s = some v := by
    simp [Term.eval, State.fieldNamed?, h1, h2, h3, h4, h5, h9]
  cases v <;> simp [Value.isRef] at h10 <;> simp [Cond.before, Cond.holds, Cond.value, he]
theorem gx_Z.of {C n d : String} {A : Nat → Prop} {args : Array Value} {s : State} (hl : (Cond.laysStatic C n d).before args s = true) (h : (Cond.isRef (.static C n d)).before args s = true) (hA : ∀ a : Nat, a < s.heap.size → ¬ A a) : gx_Z C n d A s := by
  obtain ⟨c, k, i, f, a, cell, hc, hi, hst, ha, hcell, hs, hcls, hlt, hty⟩ := Cond.laysStatic_spec hl
  cases hv : (Term.static C n d).eval args s none [] s with
  | none => simp [Cond.before, Cond.holds, Cond.value, hv] at h
  | some v =>
    obtain ⟨hst', a', cell', ha', hcell', -, hslot⟩ := Term.static_spec hi hv
    cases ha.symm.trans ha'
    cases hcell.symm.trans hcell'
    refine ⟨c, k, i, f, a, cell, v, hc, hi, hst, ha, hcell, hs, hcls, hlt, hty, hslot, ?_, hA a (Array.getElem?_eq_some_iff.mp hcell).1⟩
    cases v <;> simp [Cond.before, Cond.holds, Cond.value, hv] at h <;> rfl
def gx_decl : List MethodName := [Bundle.initS "java/lang/RuntimeException", Bundle.initS "java/lang/Exception", Bundle.initS Bundle.tN]
def gx_cls : List String := ["java/lang/IllegalArgumentException", "java/lang/IndexOutOfBoundsException", "java/lang/ArithmeticException"]
def gx_msgs : List (String × Nat × String) := [("LimbDesk", 199, "no such register"), ("LimbDesk", 59, "no letters, or one that is not 32..126"), ("LimbDesk", 70, "the line would be too long"), ("LimbDesk", 91, "no such register or base, or no number"), ("LimbDesk", 154, "too many bits"), ("LimbDesk", 96, "no such base"), ("LimbDesk$Letters", 75, "0123456789abcdefghijklmnopqrstuvwxyz"), ("LimbDesk", 105, "no such letter"), ("LimbDesk", 201, "no such kind of work"), ("LimbDesk", 133, "two results for one register"), ("LimbDesk", 137, "divided by 0"), ("LimbDesk", 152, "shifted too far"), ("LimbDesk", 166, "a power below 0"), ("LimbDesk", 190, "too many bits for a long")]
def gx_N (A : Nat → Prop) (U : State) : Prop := (∀ x ∈ gx_decl, va_Nw (.declares x) U) ∧ (∀ C ∈ gx_cls, va_Nw (.castable C C) U) ∧ gx_Z Bundle.tN "UNASSIGNED_STACK" Bundle.steD A U ∧ gx_Z Bundle.tN "SUPPRESSED_SENTINEL" Bundle.listD A U ∧ (∀ q ∈ gx_msgs, ∃ a, vk_R q.1 q.2.1 q.2.2 a U) ∧ gx_S A U
theorem gx_N.step {A : Nat → Prop} {s U : State} (hW : s.WarmedH U.vm) (hk : ∀ q : Nat, q < s.heap.size → ¬ A q → U.heap[q]? = s.heap[q]?) (h : gx_N A s) : gx_N A U := by
  obtain ⟨h1, h2, h3, h4, h5, h6⟩ := h
  refine ⟨fun x hx => va_Nw.warmD hW (h1 x hx), fun C hC => va_Nw.warmC hW (h2 C hC), h3.step hW hk, h4.step hW hk, fun q hq => ?_, h6.step hW hk⟩
  obtain ⟨a, ha⟩ := h5 q hq
  exact ⟨a, vk_R.warm hW ha⟩
def gx_xw : List Cond := [.laysStatic Bundle.tN "UNASSIGNED_STACK" Bundle.steD, .laysStatic Bundle.tN "SUPPRESSED_SENTINEL" Bundle.listD, .isRef (.static Bundle.tN "UNASSIGNED_STACK" Bundle.steD), .isRef (.static Bundle.tN "SUPPRESSED_SENTINEL" Bundle.listD)] ++ gx_decl.map (fun x => .declares x) ++ gx_cls.map (fun C => .castable C C)
theorem gx_N.words {A : Nat → Prop} {s : State} (h : gx_N A s) (args : Array Value) : ∀ w ∈ gx_xw, w.before args s = true := by
  obtain ⟨h1, h2, h3, h4, -, -⟩ := h
  intro w hw
  rcases List.mem_append.mp hw with hw | hw
  · rcases List.mem_append.mp hw with hw | hw
    · simp only [List.mem_cons, List.not_mem_nil, or_false] at hw
      rcases hw with rfl | rfl | rfl | rfl
      · exact h3.lays args
      · exact h4.lays args
      · exact h3.ref args
      · exact h4.ref args
    · obtain ⟨x, hx, rfl⟩ := List.mem_map.mp hw
      exact va_Nw.use rfl (h1 x hx)
  · obtain ⟨C, hC, rfl⟩ := List.mem_map.mp hw
    exact va_Nw.use rfl (h2 C hC)
theorem gs_nost {D : va_G} {cl : List vw_C} {Λ : gs_L} {F A : gm_M} {L : Nat → Nat → Int64} {H : Heap} {q : Nat} {sh : gs_S} {cell : Cell} (hP : va_P D cl (gs_ws Λ F A L) H) (hm : (q, sh) ∈ Λ) (hc : H[q]? = some cell) : cell.vm.isStatics = false := by
  obtain ⟨k, -, hk⟩ := gs_ws_at (F := F) (A := A) (L := L) hm
  have h := hP k _ hk
  rcases sh with ⟨ci, rs⟩ | ⟨cA, n⟩ | ⟨cA, n⟩ | ⟨cA, n, g⟩
  · obtain ⟨r, -, cell', g1, g2, g3, -⟩ := h
    cases hc.symm.trans g1
    rw [g3]; rfl
  · have h : H[q]? = some (vp_cell cA (n, .inl (A q))) := h
    cases hc.symm.trans h; rfl
  · have h : H[q]? = some (vp_cell cA (n, .inr (.inl (L q)))) := h
    cases hc.symm.trans h; rfl
  · have h : H[q]? = some (vp_cell cA (n, .inr (.inr (.inr (.inr g))))) := h
    cases hc.symm.trans h; rfl
theorem gs_lt {D : va_G} {cl : List vw_C} {Λ : gs_L} {F A : gm_M} {L : Nat → Nat → Int64} {H : Heap} (hP : va_P D cl (gs_ws Λ F A L) H) {k : Nat} {q : Nat × va_E} (hk : (gs_ws Λ F A L)[k]? = some q) : q.1 < H.size := (hP k q hk).lt
abbrev gx_up : List String := ["java/lang/RuntimeException", "java/lang/Exception"]
def gx_At (k ic icl : Nat) : Prop := (∀ w ∈ Bundle.ownAtoms "LimbDesk" ic (gx_name k) gx_up, w ∈ gw_WS ∨ w ∈ gx_xw) ∧ Bundle.fit (gx_name k) = true ∧ Cond.classLink "LimbDesk" icl (gx_name k) ∈ gw_WS ∧ Cond.instantiable (gx_name k) 6 ∈ gw_WS ∧ Cond.initialized (gx_name k) ∈ gw_WS
section GT2
variable {p : Program} {l : Launch} {e : Env} {R : Room} {s : State} {m : MethodId} {args : Array Value} {below : List Frame} {meth : Method} {c : Code} {H : Heap} {locs : List Loc} {cc : ByteArray} {pc nL : Nat} {ls : Array Slot} {D : va_G} {Λ : gs_L} {F A F0' A0' : gm_M} {L : Nat → Nat → Int64} {cI cB cJ cW : ClassId} {pe : Nat → gm_M → gm_M → Prop}
set_option maxHeartbeats 2000000 in
theorem gx_throw (hexec : p.tables.exec = Jvm.exec) (hb : c.code = cc) (hml : c.maxLocals = nL) (hown : s.vm.findClass "LimbDesk" = some m.cls) (htw : ∀ w ∈ gw_WS, w.before args s = true) (hfl : l.stackTraces = false) (hN : gx_N (gw_A Λ) s) (hnh : c.exceptionTable.isEmpty = true) (hlocks : meth.locks = false) (hP0 : va_P D gcls (gs_ws Λ F0' A0' L) s.heap) (hP : va_P D gcls (gs_ws Λ F A L) H) (hK : va_K D gcls (gtys cI cB cJ cW) s) (hS : va_S (gw_A Λ) s.heap H locs) (hsize : ls.size = nL)
    (k : Nat) {ic icl is : Nat} {tx : String} (hat : gx_At k ic icl) (hmsg : ("LimbDesk", is, tx) ∈ gx_msgs) (hR : 6 ≤ R.frames ∧ 82 ≤ R.locals ∧ 1 ≤ R.cells ∧ 6 ≤ R.slots)
    (d1 : decode cc pc = .ok (.new icl, 3)) (d2 : decode cc (pc + 3) = .ok (.dup, 1)) (d3 : decode cc (pc + 3 + 1) = .ok (.ldc is, 2)) (d4 : decode cc (pc + 3 + 1 + 2) = .ok (.invokespecial ic, 3)) (d5 : decode cc (pc + 3 + 1 + 2 + 3) = .ok (.athrow, 1))
    {pr : Option Value → gm_M → gm_M → Prop} (hp : pe k F A) : W p l e R s m args below meth c H locs 0 0 (MQX below (gx_Q D cI cB cJ cW Λ L pr pe) args s (gw_A Λ)) (F0 m pc ls []) := by
  obtain ⟨h1, h2, h3, h4, h5⟩ := hat
  obtain ⟨am, ham⟩ := hN.2.2.2.2.1 _ hmsg
  refine W.newc hexec hb hown (htw _ h3) (htw _ h4) (htw _ h5) rfl d1 (by omega) (by omega) (fun cC kC e1 e2 e3 e4 => ?_)
  refine lv_dup hexec hb d2 rfl ?_
  refine va_ldcS hexec hb hown ham d3 ?_
  intro T hT X
  have hfresh : T.heap[H.size]? = some (freshCell cC kC) := by rw [hT]; simp
  have h0 : c.exceptionTable.toList = [] := List.eq_nil_of_length_eq_zero (by simpa [Array.isEmpty] using hnh)
  obtain ⟨U, ce, a1, a2, a3, a4, a5, a6, a7, a8, a9, a10⟩ := gx_ctor X hexec (by rw [X.admits.platform]; exact hfl) hown h2 (fun n hn => by
      simp only [List.mem_cons, List.not_mem_nil, or_false] at hn
      rcases hn with rfl | rfl <;> decide +kernel) (fun w hw => (h1 w hw).elim (htw w) (hN.words args w))
    (fun x hx cell hc => by
      obtain ⟨sh, hsh⟩ := hS.2.2 x hx
      exact gs_nost hP0 hsh hc) e1 e2 hfresh hS.1 (msg := .ref am) rfl (g := F0 m (pc + 3 + 1 + 2) ls (.ref am :: .ref H.size :: .ref H.size :: [])) rfl (hsize.trans hml.symm) rfl rfl (rest := []) rfl (by rw [hb]; exact d4) (by rw [hb]; exact d5) (fun x hx => by rw [h0] at hx; cases hx)
    (by show 2 + 3 < R.frames; omega) (by show 2 * 0 + 1 + (13 * 3 + 42) ≤ R.locals; omega) hlocks
  have hold : ∀ q : Nat, q < H.size → U.heap[q]? = H[q]? := fun q hq => by
    rw [a10 q (Nat.ne_of_lt hq), hT, Array.getElem?_push_lt hq, Array.getElem?_eq_getElem hq]
  have hsz : H.size ≤ U.heap.size := by rw [a9, hT, Array.size_push]; omega
  refine ⟨U, a1, .threw H.size, a2, a3, ⟨Or.inr ⟨H.size, k, (F, A), rfl, hp, ⟨ce, a6, ?_, a8⟩, ?_, va_K.moved a4.alike hK⟩, ?_, ?_⟩, locs, Or.inr ⟨H.size, rfl, a4, ?_⟩, hS.2.2⟩
  · rw [a4.alike.findClass, a7]; exact e1
  · exact hP.kept (fun k' q hk' => hold _ (gs_lt hP hk'))
  · exact Nat.le_trans hS.1 hsz
  · intro q hq hA
    rw [hold q (Nat.lt_of_lt_of_le hq hS.1)]
    exact hS.2.1 q hq hA
  · exact a5.mono (by omega) (by omega)
end GT2
