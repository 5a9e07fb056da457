/-! all that is made holds 0 -/
def zz : gm_M := fun _ _ => 0
def lz : lm_M := fun _ _ => 0
theorem zz_eq {F1 : gm_M} {q : Nat} (h1 : F1 q = fun _ => 0) (h2 : ∀ b, b ≠ q → F1 b = zz b) : F1 = zz := by
  funext b
  by_cases h : b = q
  · rw [h, h1]; rfl
  · exact h2 b h
/-- the end of a constructor: the layout has grown -/
def gc_Q (D : va_G) (cI cB cJ cW : ClassId) (Λ : gs_L) (a sz : Nat) (post : gs_L → Prop) : Array Value → State → Outcome → State → Prop := fun _ st o t =>
  o = .returned none ∧ (∃ Λ1 : gs_L, post Λ1 ∧ (∀ x ∈ Λ, x.1 ≠ a → x ∈ Λ1) ∧ gs_D Λ1 ∧ (∀ x ∈ Λ1, gc_A Λ sz x.1) ∧ va_P D gcls (gs_ws Λ1 zz zz lz) t.heap ∧ va_K D gcls (gtys cI cB cJ cW) t) ∧ va_F (gc_A Λ sz) st t
def gc_P (D : va_G) (cI cB cJ cW : ClassId) (Λ : gs_L) (sz : Nat) (U : State) : Prop := U.heap.size = sz ∧ va_P D gcls (gs_ws Λ zz zz lz) U.heap ∧ va_K D gcls (gtys cI cB cJ cW) U
section GCC
variable {p : Program} {l : Launch} {e : Env} {R : Room} {s : State} {m : MethodId} {args : Array Value} {below : List Frame} {meth : Method} {c : Code} {H : Heap} {locs : List Loc} {cells slots : Nat} {Q : State → Prop}
variable {cc bytes : ByteArray} {pc nL maxL index n mc ms : Nat} {ls : Array Slot} {rest st0 As : List Value} {D : va_G} {a b sz : Nat} {Λ : gs_L} {cI cB cJ cW : ClassId} {A : Nat → Prop} {H0 : Heap} {y : MethodName} {own : String} {rm : Room} {post : gs_L → Prop}
theorem gc_blind : FrameBlind (va_Pc As (gc_P D cI cB cJ cW Λ sz)) := by
  intro a U g mk q
  obtain ⟨q0, q1, qP, qK⟩ := q
  exact ⟨q0, q1, qP, va_K.moved (u := U) (U := U.calling g mk a) (Vm.Alike.refl U.vm) qK⟩
theorem gc_call (hexec : p.tables.exec = Jvm.exec) (hb : c.code = cc) (hml : c.maxLocals = nL) (hown : s.vm.findClass own = some m.cls) (htw : ∀ w ∈ gw_WS, w.before args s = true) (hK : va_K D gcls (gtys cI cB cJ cW) s) (hP : va_P D gcls (gs_ws Λ zz zz lz) H) (hAΛ : ∀ x ∈ Λ, A x.1) (hS : va_S A H0 H locs) (hA : ∀ q, H0.size ≤ q → A q) (hsize : ls.size = nL)
    (hM : Met l y (Cond.code y bytes maxL none :: gw_WS) rm (va_Pc (.ref b :: As) (gc_P D cI cB cJ cW Λ H.size)) (gc_Q D cI cB cJ cW Λ b H.size post) mc ms (gc_A Λ H.size)) (hy : gw_OK y bytes maxL none n) (hyi : Cond.instanceMethod y ∈ gw_WS) (hy1 : y.name = "<init>") (hl : Cond.methodLink own index y ∈ gw_WS) (hR : rm.frames + 1 ≤ R.frames ∧ 8 + (maxL + 11) + rm.locals ≤ R.locals) (hrc : rm.cells = mc) (hrs : rm.slots = ms)
    (hn : As.length = n) (hst : st0 = As.reverse ++ .ref b :: rest) (hroom : (rest.map fun v => v.category).sum ≤ 8) (hdg : decode cc pc = .ok (.invokespecial index, 3)) (hf : cells + mc ≤ R.cells ∧ slots + ms ≤ R.slots)
    (kk : ∀ (Λ1 : gs_L) (H1 : Heap) (locs1 : List Loc), post Λ1 → (∀ x ∈ Λ, x.1 ≠ b → x ∈ Λ1) → gs_D Λ1 → (∀ x ∈ Λ1, A x.1) → va_P D gcls (gs_ws Λ1 zz zz lz) H1 → va_S A H0 H1 locs1 → W p l e R s m args below meth c H1 locs1 (cells + mc) (slots + ms) Q (F0 m (pc + 3) ls rest)) : W p l e R s m args below meth c H locs cells slots Q (F0 m pc ls st0) := by
  have hA1 : ∀ q, gc_A Λ H.size q → A q := fun q h => by
    rcases h with ⟨sh, hsh⟩ | h
    · exact hAΛ _ hsh
    · exact hA q (Nat.le_trans hS.1 h)
  have hr := va_runI (As := As) (rest := rest) (Ts := gw_WS) (g := F0 m pc ls st0) (H := H) (locs := locs) (cells := cells) (slots := slots) (below := below) (meth := meth) (e := e) ⟨hexec, hb, hml, hown, htw⟩ hM ⟨gw_cb htw hy hl hR hrc hrs, hy1, htw _ hyi⟩ ⟨gc_blind, fun U hU hW => ⟨rfl, by rw [hU], by rw [hU]; exact hP, va_K.moved hW.alike hK⟩⟩ rfl hn hsize hst (lv_room hroom) hdg hf
  intro T hT X
  obtain ⟨v, st₀, t, T', L', h0, X', hL, e1, e2, ⟨hv, ⟨Λ1, k1, k2, k3, k4, k5, -⟩, hz, hk⟩, st⟩ := hr T hT X
  cases hv
  rw [h0] at hz hk
  obtain ⟨t2, a1, b1⟩ := kk Λ1 T'.heap (locs ++ L') k1 k2 k3 (fun x hx => hA1 _ (k4 x hx)) (by rw [e1]; exact k5)
    ⟨Nat.le_trans hS.1 (by rw [e1]; exact hz), fun q h1 h2 => by rw [e1, hk q (Nat.lt_of_lt_of_le h1 hS.1) (fun z => h2 (hA1 q z))]; exact hS.2.1 q h1 h2, fun q hq => by
      rcases List.mem_append.mp hq with h | h
      · exact hS.2.2 q h
      · exact hA1 _ (hL q h)⟩ T' rfl X'
  exact ⟨t2, st t2 a1, b1⟩
theorem gc_ret (hexec : p.tables.exec = Jvm.exec) (hb : c.code = cc) (hr : meth.sig.returnType = none) (hlocks : meth.locks = false) {Λ0 : gs_L} (hpost : post Λ) (hold : ∀ x ∈ Λ0, x.1 ≠ a → x ∈ Λ) (hD : gs_D Λ) (hAΛ : ∀ x ∈ Λ, gc_A Λ0 s.heap.size x.1) (hP : va_P D gcls (gs_ws Λ zz zz lz) H) (hK : va_K D gcls (gtys cI cB cJ cW) s) (hS : va_S (gc_A Λ0 s.heap.size) s.heap H locs) (hdg : decode cc pc = .ok (.return_, 1)) : W p l e R s m args below meth c H locs cells slots (MQ below (gc_Q D cI cB cJ cW Λ0 a s.heap.size post) args s cells slots (gc_A Λ0 s.heap.size)) (F0 m pc ls []) :=
  W.vret hexec hb hr (fun t ht hW => ⟨rfl, ⟨Λ, hpost, hold, hD, hAΛ, by rw [ht]; exact hP, va_K.moved hW.alike hK⟩, hS.F ht⟩) hS.2.2 hdg hlocks
theorem gz_new (hexec : p.tables.exec = Jvm.exec) (hb : c.code = cc) {own C : String} {T : u_T} {N ci index : Nat} (htw : ∀ w ∈ gw_WS, w.before args s = true) (hin : ∀ w ∈ u_ws C T N, w ∈ gw_WS) (ty : Nat → FieldType) (hty : ∀ k, k < N → parseFieldDescriptor (T k).2.2.1 = some (ty k)) (hown : s.vm.findClass own = some m.cls) (hcl : Cond.classLink own index C ∈ gw_WS) (hinst : Cond.instantiable C N ∈ gw_WS) (hini : Cond.initialized C ∈ gw_WS)
    (hK : va_K D gcls (gtys cI cB cJ cW) s) (hP : va_P D gcls (gs_ws Λ zz zz lz) H) (hD : gs_D Λ) (hAΛ : ∀ x ∈ Λ, A x.1) (hS : va_S A H0 H locs) (hA : ∀ q, H0.size ≤ q → A q) (hc : gcls[ci]? = some (C, T, N)) (rs : List gs_R) (hfs : ∀ j, j < N → defaultValue (ty j) = vp_V (gs_vals (fun _ => 0) 0 rs) j) (hcells : cells + 1 ≤ R.cells) (hslots : slots + N ≤ R.slots) (hdg : decode cc pc = .ok (.new index, 3))
    (kk : ∀ (q : Nat) (Λ1 : gs_L) (H1 : Heap), (∀ x ∈ Λ, x ∈ Λ1 ∧ x.1 ≠ q) → (q, Sum.inl (ci, rs)) ∈ Λ1 → gs_D Λ1 → (∀ x ∈ Λ1, A x.1) → va_P D gcls (gs_ws Λ1 zz zz lz) H1 → va_S A H0 H1 locs → W p l e R s m args below meth c H1 locs (cells + 1) (slots + N) Q (F0 m (pc + 3) ls (.ref q :: rest))) : W p l e R s m args below meth c H locs cells slots Q (F0 m pc ls rest) :=
  gc_new hexec hb htw hin ty hty hown hcl hinst hini hK hP hD hAΛ hS hA hc rs hfs hcells hslots hdg (fun q Λ1 F1 H1 h1 h2 h3 h4 h5 h6 h7 h8 => kk q Λ1 H1 h1 h2 h3 h4 (by rw [zz_eq h5 h6] at h7; exact h7) h8)
theorem gz_newi (hexec : p.tables.exec = Jvm.exec) (hb : c.code = cc) (htw : ∀ w ∈ gw_WS, w.before args s = true) (harr : Cond.arrayClass .int ∈ gw_WS) (hK : va_K D gcls (gtys cI cB cJ cW) s) (hP : va_P D gcls (gs_ws Λ zz zz lz) H) (hD : gs_D Λ) (hAΛ : ∀ x ∈ Λ, A x.1) (hS : va_S A H0 H locs) (hA : ∀ q, H0.size ≤ q → A q)
    {n : Int32} (N : Nat) (hn : ¬ n < 0) (hN : n.toNatClampNeg = N) (hbytes : N ≤ 100000) (hcells : cells + 1 ≤ R.cells) (hslots : slots + N ≤ R.slots) (hdg : decode cc pc = .ok (.newarray .int, 2))
    (kk : ∀ (q : Nat) (Λ1 : gs_L) (H1 : Heap), (∀ x ∈ Λ, x ∈ Λ1 ∧ x.1 ≠ q) → (q, gI cI N) ∈ Λ1 → gs_D Λ1 → (∀ x ∈ Λ1, A x.1) → va_P D gcls (gs_ws Λ1 zz zz lz) H1 → va_S A H0 H1 locs → W p l e R s m args below meth c H1 locs (cells + 1) (slots + N) Q (F0 m (pc + 2) ls (.ref q :: rest))) : W p l e R s m args below meth c H locs cells slots Q (F0 m pc ls (.int n :: rest)) :=
  gc_newi hexec hb htw harr hK hP hD hAΛ hS hA N hn hN hbytes hcells hslots hdg (fun q Λ1 M1 H1 h1 h2 h3 h4 h5 h6 h7 h8 => kk q Λ1 H1 h1 h2 h3 h4 (by rw [zz_eq h5 h6] at h7; exact h7) h8)
theorem gz_newb (hexec : p.tables.exec = Jvm.exec) (hb : c.code = cc) (htw : ∀ w ∈ gw_WS, w.before args s = true) (harr : Cond.arrayClass .byte ∈ gw_WS) (hK : va_K D gcls (gtys cI cB cJ cW) s) (hP : va_P D gcls (gs_ws Λ zz zz lz) H) (hD : gs_D Λ) (hAΛ : ∀ x ∈ Λ, A x.1) (hS : va_S A H0 H locs) (hA : ∀ q, H0.size ≤ q → A q)
    {n : Int32} (N : Nat) (hn : ¬ n < 0) (hN : n.toNatClampNeg = N) (hbytes : N ≤ 100000) (hcells : cells + 1 ≤ R.cells) (hslots : slots + N ≤ R.slots) (hdg : decode cc pc = .ok (.newarray .byte, 2))
    (kk : ∀ (q : Nat) (Λ1 : gs_L) (H1 : Heap), (∀ x ∈ Λ, x ∈ Λ1 ∧ x.1 ≠ q) → (q, gI cB N) ∈ Λ1 → gs_D Λ1 → (∀ x ∈ Λ1, A x.1) → va_P D gcls (gs_ws Λ1 zz zz lz) H1 → va_S A H0 H1 locs → W p l e R s m args below meth c H1 locs (cells + 1) (slots + N) Q (F0 m (pc + 2) ls (.ref q :: rest))) : W p l e R s m args below meth c H locs cells slots Q (F0 m pc ls (.int n :: rest)) :=
  gc_newb hexec hb htw harr hK hP hD hAΛ hS hA N hn hN hbytes hcells hslots hdg (fun q Λ1 M1 H1 h1 h2 h3 h4 h5 h6 h7 h8 => kk q Λ1 H1 h1 h2 h3 h4 (by rw [zz_eq h5 h6] at h7; exact h7) h8)
end GCC
