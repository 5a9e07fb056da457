/-! the law's own methods: they catch what the desk throws, and put its answer into the long array -/
abbrev lm_M : Type := Nat → Nat → Int64
def lm_up (L : lm_M) (a k : Nat) (v : Int64) : lm_M := fun b => if b = a then vp_updL (L a) k v else L b
def gw_PL (D : va_G) (cI cB cJ cW : ClassId) (Λ : gs_L) (L : lm_M) (F A : gm_M) (U : State) : Prop := gw_PN D cI cB cJ cW Λ L F A U ∧ va_Nc (gx_name 2) (gx_name 1) U ∧ va_Nc (gx_name 3) (gx_name 1) U
def gl_B (D : va_G) (cI cB cJ cW : ClassId) (Λ : gs_L) (u : gm_M × gm_M × lm_M) (t : State) : Prop := va_P D gcls (gs_ws Λ u.1 u.2.1 u.2.2) t.heap ∧ va_K D gcls (gtys cI cB cJ cW) t
abbrev gl_Q (D : va_G) (cI cB cJ cW : ClassId) (Λ : gs_L) (post : Int32 → gm_M → gm_M → lm_M → Prop) : Array Value → State → Outcome → State → Prop := va_Qi (fun r (u : gm_M × gm_M × lm_M) => post r u.1 u.2.1 u.2.2) (gl_B D cI cB cJ cW Λ) (gw_A Λ)
section GLW
variable {p : Program} {l : Launch} {e : Env} {R : Room} {s : State} {m : MethodId} {args : Array Value} {below : List Frame} {meth : Method} {c : Code} {H : Heap} {locs : List Loc} {cells slots : Nat} {Q : State → Prop}
variable {cc bytes : ByteArray} {pc nL maxL index n : Nat} {ls : Array Slot} {rest st0 As : List Value} {D : va_G} {a : Nat} {Λ : gs_L} {F A : gm_M} {L : lm_M} {cI cB cJ cW : ClassId} {y : MethodName} {own : String} {ret : Option FieldType} {rm : Room}
theorem gs_lst (hexec : p.tables.exec = Jvm.exec) (hb : c.code = cc) (hK : va_K D gcls (gtys cI cB cJ cW) s) (hlo : gs_D Λ) (hP : va_P D gcls (gs_ws Λ F A L) H) (hS : va_S (gw_A Λ) s.heap H locs) {n : Nat} (hm : (a, gJ cJ n) ∈ Λ) {i : Int32} {x : Int64} (hin : vp_in i n) (hdg : decode cc pc = .ok (.lastore, 1))
    (kk : ∀ (L1 : lm_M), L1 = lm_up L a i.toNatClampNeg x → ∀ (H1 : Heap) (locs1 : List Loc), va_P D gcls (gs_ws Λ F A L1) H1 → va_S (gw_A Λ) s.heap H1 locs1 → W p l e R s m args below meth c H1 locs1 cells slots Q (F0 m (pc + 1) ls rest)) : W p l e R s m args below meth c H locs cells slots Q (F0 m pc ls (.long x :: .int i :: .ref a :: rest)) := by
  obtain ⟨q0, hq, hw⟩ := gs_ws_at (F := F) (A := A) (L := L) hm
  refine va_last hexec hb hK hP (hlo.va F A L) hS q0 2 hw rfl hin hdg (fun H1 locs1 hP1 _ hS1 => kk _ rfl H1 locs1 ?_ hS1)
  have e1 : (gs_ws Λ F A L).set q0 (a, .inl (cJ, n, .inr (.inl (vp_updL (L a) i.toNatClampNeg x)))) = gs_ws Λ F A (lm_up L a i.toNatClampNeg x) := by
    apply List.ext_getElem?
    intro j
    have hlt : q0 < Λ.length := (List.getElem?_eq_some_iff.mp hq).1
    by_cases hi : q0 = j
    · subst hi
      rw [List.getElem?_set_self (by unfold gs_ws; rw [List.length_map]; exact hlt)]
      unfold gs_ws
      rw [List.getElem?_map, hq]
      simp [gs_cell, lm_up]
    · rw [List.getElem?_set_ne hi]
      unfold gs_ws
      rw [List.getElem?_map, List.getElem?_map]
      cases hq' : Λ[j]? with
      | none => rfl
      | some q =>
        have hne : q.1 ≠ a := fun e => hi (hlo q0 j (a, gJ cJ n) q hq hq' e.symm)
        simp [lm_up, hne]
  rw [e1] at hP1
  exact hP1
theorem gl_ret {v : Int32} (hexec : p.tables.exec = Jvm.exec) (hb : c.code = cc) (hr : meth.sig.returnType = some .int) (hlocks : meth.locks = false) (hP : va_P D gcls (gs_ws Λ F A L) H) (hK : va_K D gcls (gtys cI cB cJ cW) s) (hS : va_S (gw_A Λ) s.heap H locs) {post : Int32 → gm_M → gm_M → lm_M → Prop} (hp : post v F A L) (hdg : decode cc pc = .ok (.ireturn, 1)) : W p l e R s m args below meth c H locs 1 6 (MQ below (gl_Q D cI cB cJ cW Λ post) args s 1 6 (gw_A Λ)) (F0 m pc ls [.int v]) :=
  W.iret hexec hb hr (fun t ht hW => ⟨⟨v, (F, A, L), rfl, hp, by rw [ht]; exact hP, va_K.moved hW.alike hK⟩, hS.F ht⟩) hS.2.2 hdg hlocks
theorem gh_first {x k ct hpc s0 e0 : Nat} {tl : List (Nat × Nat × Nat × Nat)} (hown : s.vm.findClass "LimbDeskLaw" = some m.cls) (htw : ∀ w ∈ gw_WS, w.before args s = true) (htab : c.exceptionTable.toList.map (fun h => (h.startPc, h.endPc, h.handlerPc, h.catchType)) = (s0, e0, hpc, ct) :: tl) (hcl : Cond.classLink "LimbDeskLaw" ct (gx_name k) ∈ gw_WS) (hcov : (decide (s0 ≤ pc) && decide (pc < e0)) = true) (hct : ct ≠ 0)
    (kk : W p l e R s m args below meth c H locs cells slots Q (F0 m hpc ls [.ref x])) : WX p l e R s m args below meth c H locs cells slots Q (F0 m pc ls rest) x k := by
  intro T hT hx X
  obtain ⟨cell, c1, c2, c3⟩ := hx
  have hpl : e.platform.magicAccessors = ({} : Platform).magicAccessors := by rw [X.admits.platform]
  obtain ⟨cX, hfX, hl⟩ := Cond.classLink_spec hown (htw _ hcl) e.platform hpl
  obtain ⟨hg1, hw1, hr1⟩ := State.classEntry (e := e) X.warmed hl
  have hfT : T.vm.findClass (gx_name k) = some cX := by rw [X.warmed.alike.findClass]; exact hfX
  have hcc : cell.cls = cX := Option.some.inj (c2.symm.trans hfT)
  cases ht : c.exceptionTable.toList with
  | nil => rw [ht] at htab; cases htab
  | cons h0 t0 =>
    rw [ht, List.map_cons] at htab
    have hh := (List.cons.inj htab).1
    have g1 : h0.startPc = s0 := congrArg (·.1) hh
    have g2 : h0.endPc = e0 := congrArg (·.2.1) hh
    have g3 : h0.handlerPc = hpc := congrArg (·.2.2.1) hh
    have g4 : h0.catchType = ct := congrArg (·.2.2.2) hh
    have hfc : (T.vm.noted m.cls ct (.cls cX)).findClass (gx_name k) = some cX := by rw [hw1.alike.findClass]; exact hfX
    have hfind : gh_Finds e ((T.setTop (F0 m pc ls rest)).pushFrame (.throwing x)) (F0 m pc ls rest) x hpc (T.vm.noted m.cls ct (.cls cX)) := by
      intro Q E d acts
      have hal : ((T.setTop (F0 m pc ls rest)).pushFrame (.throwing x)).vm.Alike (T.vm.noted m.cls ct (.cls cX)) := X.warmed.alike.symm.trans hw1.alike
      rw [W.findHandler_eq (meth := meth) (code := c) X.method' X.code, ht]
      refine (gh_class (s := (T.setTop (F0 m pc ls rest)).pushFrame (.throwing x)) (f := F0 m pc ls rest) (cell := cell) (c := cX) (vm' := T.vm.noted m.cls ct (.cls cX)) (by rw [← g1, ← g2] at hcov; exact hcov) (by rw [g4]; exact hct) (by rw [g4]; exact hg1) (by no_record) c1 (fun k' => by rw [c3]; simp) (by rw [hcc]; exact Vm.classAt_of_findClass hfc) (Vm.classAt_of_findClass hfc)).trans ?_
      rw [if_pos (by rw [hcc]; exact va_asg _ _), g3]
    obtain ⟨t, a1, b1⟩ := kk (T.setVm (T.vm.noted m.cls ct (.cls cX))) hT (X.noted hw1)
    exact ⟨t, gh_caught X.here hfind a1, b1⟩
theorem gh_second {x k k0 ct hpc s0 e0 ct0 hpc0 s1 e1 : Nat} {tl : List (Nat × Nat × Nat × Nat)} (hown : s.vm.findClass "LimbDeskLaw" = some m.cls) (htw : ∀ w ∈ gw_WS, w.before args s = true) (htab : c.exceptionTable.toList.map (fun h => (h.startPc, h.endPc, h.handlerPc, h.catchType)) = (s0, e0, hpc0, ct0) :: (s1, e1, hpc, ct) :: tl) (hcl0 : Cond.classLink "LimbDeskLaw" ct0 (gx_name k0) ∈ gw_WS) (hcl : Cond.classLink "LimbDeskLaw" ct (gx_name k) ∈ gw_WS) (hno : va_Nc (gx_name k) (gx_name k0) s) (hcov0 : (decide (s0 ≤ pc) && decide (pc < e0)) = true) (hcov : (decide (s1 ≤ pc) && decide (pc < e1)) = true) (hct0 : ct0 ≠ 0) (hct : ct ≠ 0)
    (kk : W p l e R s m args below meth c H locs cells slots Q (F0 m hpc ls [.ref x])) : WX p l e R s m args below meth c H locs cells slots Q (F0 m pc ls rest) x k := by
  intro T hT hx X
  obtain ⟨cell, c1, c2, c3⟩ := hx
  have hpl : e.platform.magicAccessors = ({} : Platform).magicAccessors := by rw [X.admits.platform]
  obtain ⟨cY, hfY, hlY⟩ := Cond.classLink_spec hown (htw _ hcl0) e.platform hpl
  obtain ⟨hgY, hwY, hrY⟩ := State.classEntry (e := e) X.warmed hlY
  obtain ⟨cX, hfX, hl⟩ := Cond.classLink_spec hown (htw _ hcl) e.platform hpl
  obtain ⟨hg1, hw1, hr1⟩ := State.classEntry (e := e) hwY hl
  have hfT : T.vm.findClass (gx_name k) = some cX := by rw [X.warmed.alike.findClass]; exact hfX
  have hcc : cell.cls = cX := Option.some.inj (c2.symm.trans hfT)
  cases ht : c.exceptionTable.toList with
  | nil => rw [ht] at htab; cases htab
  | cons h0 t0 =>
    rw [ht, List.map_cons] at htab
    have hh := (List.cons.inj htab).1
    have g1 : h0.startPc = s0 := congrArg (·.1) hh
    have g2 : h0.endPc = e0 := congrArg (·.2.1) hh
    have g4 : h0.catchType = ct0 := congrArg (·.2.2.2) hh
    have htab := (List.cons.inj htab).2
    cases t0 with
    | nil => cases htab
    | cons h1 t1 =>
    rw [List.map_cons] at htab
    have hh := (List.cons.inj htab).1
    have f1 : h1.startPc = s1 := congrArg (·.1) hh
    have f2 : h1.endPc = e1 := congrArg (·.2.1) hh
    have f3 : h1.handlerPc = hpc := congrArg (·.2.2.1) hh
    have f4 : h1.catchType = ct := congrArg (·.2.2.2) hh
    have hfc0 : (T.vm.noted m.cls ct0 (.cls cY)).findClass (gx_name k) = some cX := by rw [hwY.alike.findClass]; exact hfX
    have hfY0 : (T.vm.noted m.cls ct0 (.cls cY)).findClass (gx_name k0) = some cY := by rw [hwY.alike.findClass]; exact hfY
    have hfc1 : ((T.vm.noted m.cls ct0 (.cls cY)).noted m.cls ct (.cls cX)).findClass (gx_name k) = some cX := by rw [hw1.alike.findClass]; exact hfX
    have hna : (T.vm.noted m.cls ct0 (.cls cY)).assignable cX cY = false := by
      obtain ⟨a0, b0, n1, n2, n3⟩ := va_Nc.moved (U := T.setVm (T.vm.noted m.cls ct0 (.cls cY))) hwY.alike hno
      have n1 : (T.vm.noted m.cls ct0 (.cls cY)).findClass (gx_name k) = some a0 := n1
      have n2 : (T.vm.noted m.cls ct0 (.cls cY)).findClass (gx_name k0) = some b0 := n2
      cases hfc0.symm.trans n1
      cases hfY0.symm.trans n2
      exact n3
    have hfind : gh_Finds e ((T.setTop (F0 m pc ls rest)).pushFrame (.throwing x)) (F0 m pc ls rest) x hpc ((T.vm.noted m.cls ct0 (.cls cY)).noted m.cls ct (.cls cX)) := by
      intro Q E d acts
      have hal : ((T.setTop (F0 m pc ls rest)).pushFrame (.throwing x)).vm.Alike (T.vm.noted m.cls ct0 (.cls cY)) := X.warmed.alike.symm.trans hwY.alike
      have hal2 : (((T.setTop (F0 m pc ls rest)).pushFrame (.throwing x)).setVm (T.vm.noted m.cls ct0 (.cls cY))).vm.Alike ((T.vm.noted m.cls ct0 (.cls cY)).noted m.cls ct (.cls cX)) := hwY.alike.symm.trans hw1.alike
      rw [W.findHandler_eq (meth := meth) (code := c) X.method' X.code, ht]
      refine (gh_class (s := (T.setTop (F0 m pc ls rest)).pushFrame (.throwing x)) (f := F0 m pc ls rest) (cell := cell) (c := cY) (vm' := T.vm.noted m.cls ct0 (.cls cY)) (by rw [← g1, ← g2] at hcov0; exact hcov0) (by rw [g4]; exact hct0) (by rw [g4]; exact hgY) (by no_record) c1 (fun k' => by rw [c3]; simp) (by rw [hcc]; exact Vm.classAt_of_findClass hfc0) (Vm.classAt_of_findClass hfY0)).trans ?_
      rw [if_neg (by rw [hcc, hna]; decide)]
      refine (gh_class (s := ((T.setTop (F0 m pc ls rest)).pushFrame (.throwing x)).setVm (T.vm.noted m.cls ct0 (.cls cY))) (f := F0 m pc ls rest) (cell := cell) (c := cX) (vm' := (T.vm.noted m.cls ct0 (.cls cY)).noted m.cls ct (.cls cX)) (by rw [← f1, ← f2] at hcov; exact hcov) (by rw [f4]; exact hct) (by rw [f4]; exact hg1) (by no_record) c1 (fun k' => by rw [c3]; simp) (by rw [hcc]; exact Vm.classAt_of_findClass hfc1) (Vm.classAt_of_findClass hfc1)).trans ?_
      rw [if_pos (by rw [hcc]; exact va_asg _ _), f3]
      exact Iff.rfl
    obtain ⟨t, a1, b1⟩ := kk (T.setVm ((T.vm.noted m.cls ct0 (.cls cY)).noted m.cls ct (.cls cX))) hT (X.noted hw1)
    exact ⟨t, gh_caught X.here hfind a1, b1⟩
end GLW
