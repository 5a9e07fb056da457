section GCR
variable {p : Program} {l : Launch} {e : Env} {R : Room} {s : State} {m : MethodId} {args : Array Value} {below : List Frame} {meth : Method} {c : Code} {H : Heap} {locs : List Loc} {cells slots : Nat} {Q : State → Prop}
variable {cc : ByteArray} {pc : Nat} {ls : Array Slot} {rest : List Value} {D : va_G} {a : Nat} {Λ : gs_L} {F M : gm_M} {L : lm_M} {cI cB cJ cW : ClassId} {A : Nat → Prop} {H0 : Heap}
theorem gc_new (hexec : p.tables.exec = Jvm.exec) (hb : c.code = cc) {own C : String} {T : u_T} {N ci index : Nat} (htw : ∀ w ∈ gw_WS, w.before args s = true) (hin : ∀ w ∈ u_ws C T N, w ∈ gw_WS) (ty : Nat → FieldType) (hty : ∀ k, k < N → parseFieldDescriptor (T k).2.2.1 = some (ty k)) (hown : s.vm.findClass own = some m.cls) (hcl : Cond.classLink own index C ∈ gw_WS) (hinst : Cond.instantiable C N ∈ gw_WS) (hini : Cond.initialized C ∈ gw_WS)
    (hK : va_K D gcls (gtys cI cB cJ cW) s) (hP : va_P D gcls (gs_ws Λ F M L) H) (hD : gs_D Λ) (hAΛ : ∀ x ∈ Λ, A x.1) (hS : va_S A H0 H locs) (hA : ∀ q, H0.size ≤ q → A q) (hc : gcls[ci]? = some (C, T, N)) (rs : List gs_R) (hfs : ∀ j, j < N → defaultValue (ty j) = vp_V (gs_vals (fun _ => 0) 0 rs) j) (hcells : cells + 1 ≤ R.cells) (hslots : slots + N ≤ R.slots) (hdg : decode cc pc = .ok (.new index, 3))
    (kk : ∀ (q : Nat) (Λ1 : gs_L) (F1 : gm_M) (H1 : Heap), (∀ x ∈ Λ, x ∈ Λ1 ∧ x.1 ≠ q) → (q, Sum.inl (ci, rs)) ∈ Λ1 → gs_D Λ1 → (∀ x ∈ Λ1, A x.1) → F1 q = (fun _ => 0) → (∀ b, b ≠ q → F1 b = F b) → va_P D gcls (gs_ws Λ1 F1 M L) H1 → va_S A H0 H1 locs → W p l e R s m args below meth c H1 locs (cells + 1) (slots + N) Q (F0 m (pc + 3) ls (.ref q :: rest))) : W p l e R s m args below meth c H locs cells slots Q (F0 m pc ls rest) := by
  refine va_new hexec hb htw hin ty hty hown (htw _ hcl) (htw _ hinst) (htw _ hini) hK hP (gc_D hD hAΛ F M L) hS hA hc hfs hcells hslots hdg (fun q H1 hP1 hD1 hS1 => ?_)
  obtain ⟨h1, h2, h3, h4⟩ := gc_push (F1 := gm_new F q) (M1 := M) (sh := Sum.inl (ci, rs)) (fun b hb => gm_new_off hb) (fun _ _ => rfl) (by rw [gm_new_at]; rfl) hD hAΛ hP1 hD1
  exact kk q _ _ H1 (fun x hx => ⟨List.mem_append_left _ hx, h1 x hx⟩) (List.mem_append_right _ (List.mem_singleton.mpr rfl)) h2 h3 (gm_new_at F q) (fun b hb => gm_new_off hb) h4 hS1
theorem gc_newi (hexec : p.tables.exec = Jvm.exec) (hb : c.code = cc) (htw : ∀ w ∈ gw_WS, w.before args s = true) (harr : Cond.arrayClass .int ∈ gw_WS) (hK : va_K D gcls (gtys cI cB cJ cW) s) (hP : va_P D gcls (gs_ws Λ F M L) H) (hD : gs_D Λ) (hAΛ : ∀ x ∈ Λ, A x.1) (hS : va_S A H0 H locs) (hA : ∀ q, H0.size ≤ q → A q)
    {n : Int32} (N : Nat) (hn : ¬ n < 0) (hN : n.toNatClampNeg = N) (hbytes : N ≤ 100000) (hcells : cells + 1 ≤ R.cells) (hslots : slots + N ≤ R.slots) (hdg : decode cc pc = .ok (.newarray .int, 2))
    (kk : ∀ (q : Nat) (Λ1 : gs_L) (M1 : gm_M) (H1 : Heap), (∀ x ∈ Λ, x ∈ Λ1 ∧ x.1 ≠ q) → (q, gI cI N) ∈ Λ1 → gs_D Λ1 → (∀ x ∈ Λ1, A x.1) → M1 q = (fun _ => 0) → (∀ b, b ≠ q → M1 b = M b) → va_P D gcls (gs_ws Λ1 F M1 L) H1 → va_S A H0 H1 locs → W p l e R s m args below meth c H1 locs (cells + 1) (slots + N) Q (F0 m (pc + 2) ls (.ref q :: rest))) : W p l e R s m args below meth c H locs cells slots Q (F0 m pc ls (.int n :: rest)) := by
  refine va_newa hexec hb (atype := .int) (htw _ harr) (ty := .int) rfl hK hP (gc_D hD hAΛ F M L) hS hA (N' := N) (a0 := (N, .inl (fun _ => 0))) (fun _ => rfl) hn hN (by show N * 4 ≤ _; omega) hcells hslots hdg (fun q cA H1 hK1 hP1 hD1 hS1 => ?_)
  have hcA : cA = cI := Option.some.inj ((va_nm_int (hK1.2 4 _ rfl).2).symm.trans (va_nm_int (hK.2 0 _ rfl).2))
  subst hcA
  obtain ⟨h1, h2, h3, h4⟩ := gc_push (F1 := F) (M1 := gm_new M q) (sh := gI cA N) (fun _ _ => rfl) (fun b hb => gm_new_off hb) (by rw [gm_new_at]; rfl) hD hAΛ hP1 hD1
  exact kk q _ _ H1 (fun x hx => ⟨List.mem_append_left _ hx, h1 x hx⟩) (List.mem_append_right _ (List.mem_singleton.mpr rfl)) h2 h3 (gm_new_at M q) (fun b hb => gm_new_off hb) h4 hS1
theorem gc_newb (hexec : p.tables.exec = Jvm.exec) (hb : c.code = cc) (htw : ∀ w ∈ gw_WS, w.before args s = true) (harr : Cond.arrayClass .byte ∈ gw_WS) (hK : va_K D gcls (gtys cI cB cJ cW) s) (hP : va_P D gcls (gs_ws Λ F M L) H) (hD : gs_D Λ) (hAΛ : ∀ x ∈ Λ, A x.1) (hS : va_S A H0 H locs) (hA : ∀ q, H0.size ≤ q → A q)
    {n : Int32} (N : Nat) (hn : ¬ n < 0) (hN : n.toNatClampNeg = N) (hbytes : N ≤ 100000) (hcells : cells + 1 ≤ R.cells) (hslots : slots + N ≤ R.slots) (hdg : decode cc pc = .ok (.newarray .byte, 2))
    (kk : ∀ (q : Nat) (Λ1 : gs_L) (M1 : gm_M) (H1 : Heap), (∀ x ∈ Λ, x ∈ Λ1 ∧ x.1 ≠ q) → (q, gI cB N) ∈ Λ1 → gs_D Λ1 → (∀ x ∈ Λ1, A x.1) → M1 q = (fun _ => 0) → (∀ b, b ≠ q → M1 b = M b) → va_P D gcls (gs_ws Λ1 F M1 L) H1 → va_S A H0 H1 locs → W p l e R s m args below meth c H1 locs (cells + 1) (slots + N) Q (F0 m (pc + 2) ls (.ref q :: rest))) : W p l e R s m args below meth c H locs cells slots Q (F0 m pc ls (.int n :: rest)) := by
  refine va_newa hexec hb (atype := .byte) (htw _ harr) (ty := .byte) rfl hK hP (gc_D hD hAΛ F M L) hS hA (N' := N) (a0 := (N, .inl (fun _ => 0))) (fun _ => rfl) hn hN (by show N * 1 ≤ _; omega) hcells hslots hdg (fun q cA H1 hK1 hP1 hD1 hS1 => ?_)
  have hcA : cA = cB := Option.some.inj ((va_nm_byte (hK1.2 4 _ rfl).2).symm.trans (va_nm_byte (hK.2 1 _ rfl).2))
  subst hcA
  obtain ⟨h1, h2, h3, h4⟩ := gc_push (F1 := F) (M1 := gm_new M q) (sh := gI cA N) (fun _ _ => rfl) (fun b hb => gm_new_off hb) (by rw [gm_new_at]; rfl) hD hAΛ hP1 hD1
  exact kk q _ _ H1 (fun x hx => ⟨List.mem_append_left _ hx, h1 x hx⟩) (List.mem_append_right _ (List.mem_singleton.mpr rfl)) h2 h3 (gm_new_at M q) (fun b hb => gm_new_off hb) h4 hS1
theorem gc_newr (hexec : p.tables.exec = Jvm.exec) (hb : c.code = cc) {own : String} {index : Nat} (hown : s.vm.findClass own = some m.cls) (htw : ∀ w ∈ gw_WS, w.before args s = true) (hcl : Cond.classLink own index "LimbDesk$Whole" ∈ gw_WS) (hover : va_AO "LimbDesk$Whole" s) (hK : va_K D gcls (gtys cI cB cJ cW) s) (hP : va_P D gcls (gs_ws Λ F M L) H) (hD : gs_D Λ) (hAΛ : ∀ x ∈ Λ, A x.1) (hS : va_S A H0 H locs) (hA : ∀ q, H0.size ≤ q → A q)
    {n : Int32} (N : Nat) (hn : ¬ n < 0) (hN : n.toNatClampNeg = N) (hbytes : N ≤ 100000) (hcells : cells + 1 ≤ R.cells) (hslots : slots + N ≤ R.slots) (hdg : decode cc pc = .ok (.anewarray index, 3))
    (kk : ∀ (q : Nat) (Λ1 : gs_L) (H1 : Heap), (∀ x ∈ Λ, x ∈ Λ1 ∧ x.1 ≠ q) → (q, gRf cW N (fun _ => none)) ∈ Λ1 → gs_D Λ1 → (∀ x ∈ Λ1, A x.1) → va_P D gcls (gs_ws Λ1 F M L) H1 → va_S A H0 H1 locs → W p l e R s m args below meth c H1 locs (cells + 1) (slots + N) Q (F0 m (pc + 3) ls (.ref q :: rest))) : W p l e R s m args below meth c H locs cells slots Q (F0 m pc ls (.int n :: rest)) := by
  refine va_newq hexec hb hown (htw _ hcl) hover hK hP (gc_D hD hAΛ F M L) hS hA hn hN (by omega) hcells hslots hdg (fun q cA H1 hK1 hP1 hD1 hS1 => ?_)
  have hcA : cA = cW := by
    obtain ⟨kA, comp, -, -, -, g1⟩ := (hK1.2 4 _ rfl).2
    obtain ⟨kA', comp', -, -, -, g2⟩ := (hK.2 3 _ rfl).2
    exact Option.some.inj (g1.symm.trans g2)
  subst hcA
  obtain ⟨h1, h2, h3, h4⟩ := gc_push (F1 := F) (M1 := M) (sh := gRf cA N (fun _ => none)) (fun _ _ => rfl) (fun _ _ => rfl) rfl hD hAΛ hP1 hD1
  exact kk q _ H1 (fun x hx => ⟨List.mem_append_left _ hx, h1 x hx⟩) (List.mem_append_right _ (List.mem_singleton.mpr rfl)) h2 h3 h4 hS1
theorem gc_putF (hexec : p.tables.exec = Jvm.exec) (hb : c.code = cc) {own C : String} {T : u_T} {N ci index : Nat} (htw : ∀ w ∈ gw_WS, w.before args s = true) (hin : ∀ w ∈ u_ws C T N, w ∈ gw_WS) (ty0 : Nat → FieldType) (hty : ∀ k, k < N → parseFieldDescriptor (T k).2.2.1 = some (ty0 k)) (hnm : ∀ a, a < N → ∀ b, b < N → a ≠ b → (T a).2.1 ≠ (T b).2.1) (hown : s.vm.findClass own = some m.cls) (hK : va_K D gcls (gtys cI cB cJ cW) s) (hP : va_P D gcls (gs_ws Λ F M L) H) (hD : gs_D Λ) (hAΛ : ∀ x ∈ Λ, A x.1) (hS : va_S A H0 H locs)
    {rs : List gs_R} (hm : (a, Sum.inl (ci, rs)) ∈ Λ) (hc : gcls[ci]? = some (C, T, N)) (k : Nat) (hk : k < N) (hr : rs[k]? = some (some none)) (hlink : Cond.fieldLink own index (T k).1 (T k).2.1 (T k).2.2.1 ∈ gw_WS) (hfin : (T k).2.2.2 = true) (hin2 : meth.name = "<init>") (hdecl : (T k).1 = own) {ty : FieldType} {q : Nat} (hd : parseFieldDescriptor (T k).2.2.1 = some ty) (hn : narrow ty (.ref q) = .ref q) (hfit : fits ty (.ref q) = true) (hdg : decode cc pc = .ok (.putfield index, 3))
    (kk : ∀ (Λ1 : gs_L) (H1 : Heap) (locs1 : List Loc), (∀ x ∈ Λ, x.1 ≠ a → x ∈ Λ1) → (a, Sum.inl (ci, rs.set k (some (some q)))) ∈ Λ1 → gs_D Λ1 → (∀ x ∈ Λ1, A x.1) → va_P D gcls (gs_ws Λ1 F M L) H1 → va_S A H0 H1 locs1 → W p l e R s m args below meth c H1 locs1 cells slots Q (F0 m (pc + 3) ls rest)) : W p l e R s m args below meth c H locs cells slots Q (F0 m pc ls (.ref q :: .ref a :: rest)) := by
  obtain ⟨q0, hq, hw⟩ := gs_ws_at (F := F) (A := M) (L := L) hm
  obtain ⟨h1, h2, h3, h4, h5, -⟩ := gc_set (F := F) (M := M) (L := L) (sh1 := Sum.inl (ci, rs.set k (some (some q)))) hD hAΛ hq rfl
  refine va_putF hexec hb htw hin ty0 hty hnm hown hK hP (gc_D hD hAΛ F M L) hS q0 hw hc k hk (htw _ hlink) (fun _ h => h) hfin hin2 hdecl hd hn hfit ?_ hdg (fun H1 locs1 hP1 _ hS1 => kk _ H1 locs1 h1 h2 h3 h4 ?_ hS1)
  · rw [gs_vals_len]; exact (List.getElem?_eq_some_iff.mp hr).1
  · rw [← h5]
    show va_P D gcls ((gs_ws Λ F M L).set q0 (a, .inr (ci, gs_vals (F a) 0 (rs.set k (some (some q)))))) H1
    rw [← gs_vals_ref (F a) q rs 0 k hr]
    exact hP1
theorem gc_ast (hexec : p.tables.exec = Jvm.exec) (hb : c.code = cc) (hK : va_K D gcls (gtys cI cB cJ cW) s) (hP : va_P D gcls (gs_ws Λ F M L) H) (hD : gs_D Λ) (hAΛ : ∀ x ∈ Λ, A x.1) (hS : va_S A H0 H locs) {n v : Nat} {f : Nat → Option Nat} {rs : List gs_R} (hm : (a, gRf cW n f) ∈ Λ) (hv : (v, Sum.inl (0, rs)) ∈ Λ) {i : Int32} (hin : vp_in i n) (hdg : decode cc pc = .ok (.aastore, 1))
    (kk : ∀ (Λ1 : gs_L) (H1 : Heap) (locs1 : List Loc), (∀ x ∈ Λ, x.1 ≠ a → x ∈ Λ1) → (a, gRf cW n (va_up f i.toNatClampNeg (some v))) ∈ Λ1 → gs_D Λ1 → (∀ x ∈ Λ1, A x.1) → va_P D gcls (gs_ws Λ1 F M L) H1 → va_S A H0 H1 locs1 → W p l e R s m args below meth c H1 locs1 cells slots Q (F0 m (pc + 1) ls rest)) : W p l e R s m args below meth c H locs cells slots Q (F0 m pc ls (.ref v :: .int i :: .ref a :: rest)) := by
  obtain ⟨q0, hq, hw⟩ := gs_ws_at (F := F) (A := M) (L := L) hm
  obtain ⟨qv, -, hwv⟩ := gs_ws_at (F := F) (A := M) (L := L) hv
  obtain ⟨h1, h2, h3, h4, h5, -⟩ := gc_set (F := F) (M := M) (L := L) (sh1 := gRf cW n (va_up f i.toNatClampNeg (some v))) hD hAΛ hq rfl
  refine va_astq hexec hb hK hP (gc_D hD hAΛ F M L) hS q0 3 qv 0 (r := (R_W, F_W, 3)) hw rfl hwv rfl hin hdg (fun H1 locs1 hP1 _ hS1 => kk _ H1 locs1 h1 h2 h3 h4 ?_ hS1)
  rw [← h5]
  exact hP1
end GCR
