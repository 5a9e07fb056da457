/-! FLAT MEMORY: int fields by address and slot (F), int and byte arrays by address and place (A), long arrays (L, never changed by the class); references are fixed in the layout Λ. -/
abbrev gm_M : Type := Nat → Nat → Int32
def gm_up (F : gm_M) (a k : Nat) (v : Int32) : gm_M := fun b => if b = a then upd (F a) k v else F b
theorem gm_at (F : gm_M) (a k : Nat) (v : Int32) : gm_up F a k v a = upd (F a) k v := if_pos rfl
theorem gm_off {F : gm_M} {a b k : Nat} {v : Int32} (h : b ≠ a) : gm_up F a k v b = F b := if_neg h
def gm_cpy (A : gm_M) (a b n : Nat) : gm_M := fun c => if c = b then va_cpy (A a) (A b) 0 0 n else A c
theorem gm_cat (A : gm_M) (a b n : Nat) : gm_cpy A a b n b = va_cpy (A a) (A b) 0 0 n := if_pos rfl
theorem gm_coff {A : gm_M} {a b c n : Nat} (h : c ≠ b) : gm_cpy A a b n c = A c := if_neg h
def j_iushr (x y : Int32) : Int32 := (x.toUInt32 >>> (y.toUInt32 &&& Int32.toUInt32 31)).toInt32
def j_lushr (x : Int64) (y : Int32) : Int64 := (x.toUInt64 >>> (y.toInt64.toUInt64 &&& Int64.toUInt64 63)).toInt64
def j_lshl (x : Int64) (y : Int32) : Int64 := x <<< (y.toInt64 &&& 63)
def j_lshr (x : Int64) (y : Int32) : Int64 := x >>> (y.toInt64 &&& 63)
abbrev gs_R : Type := Option (Option Nat)
abbrev gs_S : Type := (Nat × List gs_R) ⊕ (ClassId × Nat) ⊕ (ClassId × Nat) ⊕ (ClassId × Nat × (Nat → Option Nat))
abbrev gs_L : Type := List (Nat × gs_S)
def gs_vals (f : Nat → Int32) : Nat → List gs_R → List Value
  | _, [] => []
  | k, none :: r => .int (f k) :: gs_vals f (k + 1) r
  | k, some none :: r => .null :: gs_vals f (k + 1) r
  | k, some (some q) :: r => .ref q :: gs_vals f (k + 1) r
theorem gs_vals_len (f : Nat → Int32) : ∀ (rs : List gs_R) (k : Nat), (gs_vals f k rs).length = rs.length
  | [], _ => rfl
  | none :: r, k => by simp [gs_vals, gs_vals_len f r]
  | some none :: r, k => by simp [gs_vals, gs_vals_len f r]
  | some (some q) :: r, k => by simp [gs_vals, gs_vals_len f r]
theorem gs_vals_low (f : Nat → Int32) (x : Int32) (n : Nat) : ∀ (rs : List gs_R) (k : Nat), n < k → gs_vals (upd f n x) k rs = gs_vals f k rs
  | [], _, _ => rfl
  | none :: r, k, h => by
    simp only [gs_vals, gs_vals_low f x n r (k + 1) (by omega)]
    rw [show upd f n x k = f k from if_neg (by omega)]
  | some none :: r, k, h => by simp only [gs_vals, gs_vals_low f x n r (k + 1) (by omega)]
  | some (some q) :: r, k, h => by simp only [gs_vals, gs_vals_low f x n r (k + 1) (by omega)]
theorem gs_vals_set (f : Nat → Int32) (x : Int32) : ∀ (rs : List gs_R) (j k : Nat), rs[k]? = some none → (gs_vals f j rs).set k (.int x) = gs_vals (upd f (j + k) x) j rs
  | [], _, _, h => by simp at h
  | none :: r, j, 0, _ => by
    simp only [gs_vals, List.set_cons_zero, Nat.add_zero, gs_vals_low f x j r (j + 1) (by omega)]
    rw [show upd f j x j = x from if_pos rfl]
  | none :: r, j, k + 1, h => by
    have h := gs_vals_set f x r (j + 1) k (by simpa using h)
    rw [show j + 1 + k = j + (k + 1) by omega] at h
    simp only [gs_vals, List.set_cons_succ, h]
    rw [show upd f (j + (k + 1)) x j = f j from if_neg (by omega)]
  | some none :: r, j, 0, h => by simp at h
  | some (some q) :: r, j, 0, h => by simp at h
  | some none :: r, j, k + 1, h => by
    have h := gs_vals_set f x r (j + 1) k (by simpa using h)
    rw [show j + 1 + k = j + (k + 1) by omega] at h
    simp only [gs_vals, List.set_cons_succ, h]
  | some (some q) :: r, j, k + 1, h => by
    have h := gs_vals_set f x r (j + 1) k (by simpa using h)
    rw [show j + 1 + k = j + (k + 1) by omega] at h
    simp only [gs_vals, List.set_cons_succ, h]
def gs_cell (f g : Nat → Int32) (h : Nat → Int64) : gs_S → va_E
  | .inl (ci, rs) => .inr (ci, gs_vals f 0 rs)
  | .inr (.inl (cA, n)) => .inl (cA, n, .inl g)
  | .inr (.inr (.inl (cA, n))) => .inl (cA, n, .inr (.inl h))
  | .inr (.inr (.inr (cA, n, q))) => .inl (cA, n, .inr (.inr (.inr (.inr q))))
def gs_ws (Λ : gs_L) (F A : gm_M) (L : Nat → Nat → Int64) : va_W := Λ.map (fun q => (q.1, gs_cell (F q.1) (A q.1) (L q.1) q.2))
def gw_A (Λ : gs_L) : Nat → Prop := fun q => ∃ sh : gs_S, (q, sh) ∈ Λ
def gs_D (Λ : gs_L) : Prop := ∀ (i j : Nat) (p q : Nat × gs_S), Λ[i]? = some p → Λ[j]? = some q → p.1 = q.1 → i = j
theorem gs_ws_get {Λ : gs_L} {F A : gm_M} {L : Nat → Nat → Int64} {k : Nat} {q : Nat × va_E} (h : (gs_ws Λ F A L)[k]? = some q) : ∃ p, Λ[k]? = some p ∧ q = (p.1, gs_cell (F p.1) (A p.1) (L p.1) p.2) := by
  unfold gs_ws at h
  rw [List.getElem?_map] at h
  cases hp : Λ[k]? with
  | none => rw [hp] at h; cases h
  | some p => rw [hp] at h; exact ⟨p, rfl, (Option.some.inj h).symm⟩
theorem gs_D.va {Λ : gs_L} (h : gs_D Λ) (F A : gm_M) (L : Nat → Nat → Int64) : va_D (gw_A Λ) (gs_ws Λ F A L) := by
  refine ⟨fun i j p q hi hj e => ?_, fun k q hk => ?_⟩
  · obtain ⟨p', h1, rfl⟩ := gs_ws_get hi
    obtain ⟨q', h2, rfl⟩ := gs_ws_get hj
    exact h i j p' q' h1 h2 e
  · obtain ⟨p', h1, rfl⟩ := gs_ws_get hk
    exact ⟨p'.2, List.mem_of_getElem? h1⟩
theorem gs_ws_at {Λ : gs_L} {F A : gm_M} {L : Nat → Nat → Int64} {a : Nat} {sh : gs_S} (h : (a, sh) ∈ Λ) : ∃ k : Nat, Λ[k]? = some (a, sh) ∧ (gs_ws Λ F A L)[k]? = some (a, gs_cell (F a) (A a) (L a) sh) := by
  obtain ⟨k, hk⟩ := List.getElem?_of_mem h
  refine ⟨k, hk, ?_⟩
  unfold gs_ws
  rw [List.getElem?_map, hk]
  rfl
theorem gs_ws_set {Λ : gs_L} {F A F' A' : gm_M} {L : Nat → Nat → Int64} {a k : Nat} {sh : gs_S} {e : va_E} (hD : gs_D Λ) (hk : Λ[k]? = some (a, sh)) (hF : ∀ b, b ≠ a → F' b = F b) (hA : ∀ b, b ≠ a → A' b = A b) (he : gs_cell (F' a) (A' a) (L a) sh = e) : (gs_ws Λ F A L).set k (a, e) = gs_ws Λ F' A' L := by
  subst he
  apply List.ext_getElem?
  intro i
  have hlt : k < Λ.length := (List.getElem?_eq_some_iff.mp hk).1
  by_cases hi : k = i
  · subst hi
    rw [List.getElem?_set_self (by unfold gs_ws; rw [List.length_map]; exact hlt)]
    unfold gs_ws
    rw [List.getElem?_map, hk]
    rfl
  · rw [List.getElem?_set_ne hi]
    unfold gs_ws
    rw [List.getElem?_map, List.getElem?_map]
    cases hq : Λ[i]? with
    | none => rfl
    | some q =>
      have hne : q.1 ≠ a := fun e => hi (hD k i (a, sh) q hk hq e.symm)
      simp only [Option.map_some, hF _ hne, hA _ hne]
abbrev gI (cI : ClassId) (n : Nat) : gs_S := .inr (.inl (cI, n))
abbrev gJ (cJ : ClassId) (n : Nat) : gs_S := .inr (.inr (.inl (cJ, n)))
abbrev gRf (cW : ClassId) (n : Nat) (g : Nat → Option Nat) : gs_S := .inr (.inr (.inr (cW, n, g)))
abbrev gWo (la : Nat) : gs_S := .inl (0, [some (some la), none, none])
def gW (cI : ClassId) (Λ : gs_L) (a la n : Nat) : Prop := (a, gWo la) ∈ Λ ∧ (la, gI cI n) ∈ Λ
theorem gz_n {v : Int32} (h : v = 0 ∨ v = 1) : narrow .boolean (.int v) = .int v := by
  rcases h with rfl | rfl <;> rfl
theorem gz_f {v : Int32} (h : v = 0 ∨ v = 1) : fits .boolean (.int v) = true := by
  rcases h with rfl | rfl <;> rfl
abbrev gtys (cI cB cJ cW : ClassId) : List (ClassId × FieldType) := [(cI, .int), (cB, .byte), (cJ, .long), (cW, .object "LimbDesk$Whole")]
section GR
variable {p : Program} {l : Launch} {e : Env} {R : Room} {s : State} {m : MethodId} {args : Array Value} {below : List Frame} {meth : Method} {c : Code} {H : Heap} {locs : List Loc} {cells slots : Nat} {Q : State → Prop}
variable {cc : ByteArray} {pc : Nat} {ls : Array Slot} {rest : List Value} {D : va_G} {cl : List vw_C} {a : Nat} {tys : List (ClassId × FieldType)} {H0 : Heap} {Λ : gs_L} {F A : gm_M} {L : Nat → Nat → Int64} {cI cB cJ cW : ClassId}
theorem gs_get (hexec : p.tables.exec = Jvm.exec) (hb : c.code = cc) {own C : String} {T : u_T} {N ci index : Nat} {Ts : List Cond} (hts : ∀ w ∈ Ts, w.before args s = true) (hin : ∀ w ∈ u_ws C T N, w ∈ Ts) (hown : s.vm.findClass own = some m.cls) (hK : va_K D cl tys s) (hP : va_P D cl (gs_ws Λ F A L) H) {rs : List gs_R} (hm : (a, Sum.inl (ci, rs)) ∈ Λ) (hc : cl[ci]? = some (C, T, N)) (k : Nat) (hk : k < N) (hlink : (Cond.fieldLink own index (T k).1 (T k).2.1 (T k).2.2.1).before args s = true) {v : Value} (hv : (gs_vals (F a) 0 rs)[k]? = some v) (hdg : decode cc pc = .ok (.getfield index, 3))
    (kk : W p l e R s m args below meth c H locs cells slots Q (F0 m (pc + 3) ls (v :: rest))) : W p l e R s m args below meth c H locs cells slots Q (F0 m pc ls (.ref a :: rest)) := by
  obtain ⟨q0, -, hw⟩ := gs_ws_at (F := F) (A := A) (L := L) hm
  exact va_get hexec hb hts hin hown hK hP q0 hw hc k hk hlink (fun _ h => h) hv hdg kk
theorem gs_put (hexec : p.tables.exec = Jvm.exec) (hb : c.code = cc) {own C : String} {T : u_T} {N ci index : Nat} {Ts : List Cond} (hts : ∀ w ∈ Ts, w.before args s = true) (hin : ∀ w ∈ u_ws C T N, w ∈ Ts) (ty0 : Nat → FieldType) (hty : ∀ k, k < N → parseFieldDescriptor (T k).2.2.1 = some (ty0 k)) (hnm : ∀ a, a < N → ∀ b, b < N → a ≠ b → (T a).2.1 ≠ (T b).2.1) (hown : s.vm.findClass own = some m.cls) (hK : va_K D cl tys s) (hlo : gs_D Λ) (hP : va_P D cl (gs_ws Λ F A L) H) (hS : va_S (gw_A Λ) H0 H locs) {rs : List gs_R} (hm : (a, Sum.inl (ci, rs)) ∈ Λ) (hc : cl[ci]? = some (C, T, N)) (k : Nat) (hk : k < N) (hr : rs[k]? = some none) (hlink : (Cond.fieldLink own index (T k).1 (T k).2.1 (T k).2.2.1).before args s = true) (hfin : (T k).2.2.2 = false) {ty : FieldType} {v : Int32} (hd : parseFieldDescriptor (T k).2.2.1 = some ty) (hn : narrow ty (.int v) = .int v) (hfit : fits ty (.int v) = true) (hdg : decode cc pc = .ok (.putfield index, 3))
    (kk : ∀ (F1 : gm_M), F1 = gm_up F a k v → ∀ (H1 : Heap) (locs1 : List Loc), va_P D cl (gs_ws Λ F1 A L) H1 → va_S (gw_A Λ) H0 H1 locs1 → W p l e R s m args below meth c H1 locs1 cells slots Q (F0 m (pc + 3) ls rest)) : W p l e R s m args below meth c H locs cells slots Q (F0 m pc ls (.int v :: .ref a :: rest)) := by
  obtain ⟨q0, hq, hw⟩ := gs_ws_at (F := F) (A := A) (L := L) hm
  refine va_put hexec hb hts hin ty0 hty hnm hown hK hP (hlo.va F A L) hS q0 hw hc k hk hlink (fun _ h => h) hfin hd hn hfit ?_ hdg (fun H1 locs1 hP1 _ hS1 => kk _ rfl H1 locs1 ?_ hS1)
  · rw [gs_vals_len]; exact (List.getElem?_eq_some_iff.mp hr).1
  · rw [← gs_ws_set (A' := A) (F' := gm_up F a k v) hlo hq (fun b hb => gm_off hb) (fun _ _ => rfl) rfl]
    rw [gm_at]
    show va_P D cl ((gs_ws Λ F A L).set q0 (a, .inr (ci, gs_vals (upd (F a) k v) 0 rs))) H1
    rw [← Nat.zero_add k, ← gs_vals_set (F a) v rs 0 k hr]
    exact hP1
theorem gs_ild (hexec : p.tables.exec = Jvm.exec) (hb : c.code = cc) (hK : va_K D cl (gtys cI cB cJ cW) s) (hP : va_P D cl (gs_ws Λ F A L) H) {n : Nat} (hm : (a, gI cI n) ∈ Λ) {i : Int32} (hin : vp_in i n) (hdg : decode cc pc = .ok (.iaload, 1))
    (kk : W p l e R s m args below meth c H locs cells slots Q (F0 m (pc + 1) ls (.int (A a i.toNatClampNeg) :: rest))) : W p l e R s m args below meth c H locs cells slots Q (F0 m pc ls (.int i :: .ref a :: rest)) := by
  obtain ⟨q0, -, hw⟩ := gs_ws_at (F := F) (A := A) (L := L) hm
  exact va_iald hexec hb hK hP q0 0 hw rfl hin hdg kk
theorem gs_bld (hexec : p.tables.exec = Jvm.exec) (hb : c.code = cc) (hK : va_K D cl (gtys cI cB cJ cW) s) (hP : va_P D cl (gs_ws Λ F A L) H) {n : Nat} (hm : (a, gI cB n) ∈ Λ) {i : Int32} (hin : vp_in i n) (hdg : decode cc pc = .ok (.baload, 1))
    (kk : W p l e R s m args below meth c H locs cells slots Q (F0 m (pc + 1) ls (.int (A a i.toNatClampNeg) :: rest))) : W p l e R s m args below meth c H locs cells slots Q (F0 m pc ls (.int i :: .ref a :: rest)) := by
  obtain ⟨q0, -, hw⟩ := gs_ws_at (F := F) (A := A) (L := L) hm
  exact va_bald hexec hb hK hP q0 1 hw rfl hin hdg kk
theorem gs_ald (hexec : p.tables.exec = Jvm.exec) (hb : c.code = cc) (hK : va_K D cl (gtys cI cB cJ cW) s) (hP : va_P D cl (gs_ws Λ F A L) H) {n : Nat} {g : Nat → Nat} (hm : (a, gRf cW n (fun j => some (g j))) ∈ Λ) {i : Int32} (hin : vp_in i n) (hdg : decode cc pc = .ok (.aaload, 1))
    (kk : W p l e R s m args below meth c H locs cells slots Q (F0 m (pc + 1) ls (.ref (g i.toNatClampNeg) :: rest))) : W p l e R s m args below meth c H locs cells slots Q (F0 m pc ls (.int i :: .ref a :: rest)) := by
  obtain ⟨q0, -, hw⟩ := gs_ws_at (F := F) (A := A) (L := L) hm
  exact va_aldq hexec hb hK hP q0 3 hw rfl hin hdg kk
theorem gs_ist (hexec : p.tables.exec = Jvm.exec) (hb : c.code = cc) (hK : va_K D cl (gtys cI cB cJ cW) s) (hlo : gs_D Λ) (hP : va_P D cl (gs_ws Λ F A L) H) (hS : va_S (gw_A Λ) H0 H locs) {n : Nat} (hm : (a, gI cI n) ∈ Λ) {i x : Int32} (hin : vp_in i n) (hdg : decode cc pc = .ok (.iastore, 1))
    (kk : ∀ (A1 : gm_M), A1 = gm_up A a i.toNatClampNeg x → ∀ (H1 : Heap) (locs1 : List Loc), va_P D cl (gs_ws Λ F A1 L) H1 → va_S (gw_A Λ) H0 H1 locs1 → W p l e R s m args below meth c H1 locs1 cells slots Q (F0 m (pc + 1) ls rest)) : W p l e R s m args below meth c H locs cells slots Q (F0 m pc ls (.int x :: .int i :: .ref a :: rest)) := by
  obtain ⟨q0, hq, hw⟩ := gs_ws_at (F := F) (A := A) (L := L) hm
  refine va_iast hexec hb hK hP (hlo.va F A L) hS q0 0 hw rfl hin hdg (fun H1 locs1 hP1 _ hS1 => kk _ rfl H1 locs1 ?_ hS1)
  rw [← gs_ws_set (F' := F) (A' := gm_up A a i.toNatClampNeg x) hlo hq (fun _ _ => rfl) (fun b hb => gm_off hb) rfl, gm_at]
  exact hP1
theorem gs_bst (hexec : p.tables.exec = Jvm.exec) (hb : c.code = cc) (hK : va_K D cl (gtys cI cB cJ cW) s) (hlo : gs_D Λ) (hP : va_P D cl (gs_ws Λ F A L) H) (hS : va_S (gw_A Λ) H0 H locs) {n : Nat} (hm : (a, gI cB n) ∈ Λ) {i x : Int32} (hin : vp_in i n) (hdg : decode cc pc = .ok (.bastore, 1))
    (kk : ∀ (A1 : gm_M), A1 = gm_up A a i.toNatClampNeg (vp_nar .byte x) → ∀ (H1 : Heap) (locs1 : List Loc), va_P D cl (gs_ws Λ F A1 L) H1 → va_S (gw_A Λ) H0 H1 locs1 → W p l e R s m args below meth c H1 locs1 cells slots Q (F0 m (pc + 1) ls rest)) : W p l e R s m args below meth c H locs cells slots Q (F0 m pc ls (.int x :: .int i :: .ref a :: rest)) := by
  obtain ⟨q0, hq, hw⟩ := gs_ws_at (F := F) (A := A) (L := L) hm
  refine va_bast hexec hb hK hP (hlo.va F A L) hS q0 1 hw rfl hin hdg (fun H1 locs1 hP1 _ hS1 => kk _ rfl H1 locs1 ?_ hS1)
  rw [← gs_ws_set (F' := F) (A' := gm_up A a i.toNatClampNeg (vp_nar .byte x)) hlo hq (fun _ _ => rfl) (fun b hb => gm_off hb) rfl, gm_at]
  exact hP1
theorem gs_copy (hexec : p.tables.exec = Jvm.exec) (hb : c.code = cc) (hml : c.maxLocals = ls.size) {own : String} {index : Nat} (hown : s.vm.findClass own = some m.cls) (hlink : (Cond.methodLink own index arraycopyName).before args s = true) (hnat : (Cond.native arraycopyName).before args s = true) (hstat : (Cond.static arraycopyName).before args s = true) (hini : (Cond.initialized "java/lang/System").before args s = true)
    (hK : va_K D cl (gtys cI cB cJ cW) s) (hlo : gs_D Λ) (hP : va_P D cl (gs_ws Λ F A L) H) (hS : va_S (gw_A Λ) H0 H locs) {b n0 n1 : Nat} (hm0 : (b, gI cI n0) ∈ Λ) (hm1 : (a, gI cI n1) ∈ Λ) {n : Int32} (h3 : ¬ n < 0) (h4 : n.toNatClampNeg ≤ n0) (h5 : n.toNatClampNeg ≤ n1)
    (hframes : 1 ≤ R.frames) (hlocals : (rest.map fun v => v.category).sum + (nativeFrameWords "java/lang/System" "arraycopy" 5 + 11) ≤ R.locals) (hdg : decode cc pc = .ok (.invokestatic index, 3))
    (kk : ∀ (A1 : gm_M), A1 = gm_cpy A b a n.toNatClampNeg → ∀ (H1 : Heap) (locs1 : List Loc), va_P D cl (gs_ws Λ F A1 L) H1 → va_S (gw_A Λ) H0 H1 locs1 → W p l e R s m args below meth c H1 locs1 cells slots Q (F0 m (pc + 3) ls rest)) : W p l e R s m args below meth c H locs cells slots Q (F0 m pc ls (.int n :: .int (0 : Int32) :: .ref a :: .int (0 : Int32) :: .ref b :: rest)) := by
  obtain ⟨q0, hq, hw⟩ := gs_ws_at (F := F) (A := A) (L := L) hm0
  obtain ⟨q1, hq1, hw1⟩ := gs_ws_at (F := F) (A := A) (L := L) hm1
  have z0 : (0 : Int32).toNatClampNeg = 0 := by decide
  refine va_copyi hexec hb hml hown hlink hnat hstat hini hK hP (hlo.va F A L) hS q0 q1 0 0 (ty := .int) hw hw1 rfl rfl rfl (by decide) (by decide) h3 (by rw [z0]; omega) (by rw [z0]; omega) (fun _ _ => rfl) hframes hlocals hdg (fun H1 locs1 hP1 _ hS1 => kk _ rfl H1 locs1 ?_ hS1)
  rw [← gs_ws_set (F' := F) (A' := gm_cpy A b a n.toNatClampNeg) hlo hq1 (fun _ _ => rfl) (fun b hb => gm_coff hb) rfl, gm_cat]
  rw [z0] at hP1
  exact hP1
theorem gl_ge (hexec : p.tables.exec = Jvm.exec) (hb : c.code = cc) {x y : Int64} {off : Int} {tgt : Nat} (h1 : decode cc pc = .ok (.lcmp, 1)) (h2 : decode cc (pc + 1) = .ok (.ifCond .ge off, 3)) (ht : ((pc + 1 : Nat) : Int) + off = (tgt : Int)) (kt : y ≤ x → W p l e R s m args below meth c H locs cells slots Q (F0 m tgt ls rest)) (kf : ¬ y ≤ x → W p l e R s m args below meth c H locs cells slots Q (F0 m (pc + 1 + 3) ls rest)) : W p l e R s m args below meth c H locs cells slots Q (F0 m pc ls (.long y :: .long x :: rest)) :=
  W.lcmp hexec hb h1 (lv_if_ge hexec hb h2 ht (fun q => kt ((lg_cmp_ge x y).mp q)) (fun q => kf (fun z => q ((lg_cmp_ge x y).mpr z))))
theorem gl_lt (hexec : p.tables.exec = Jvm.exec) (hb : c.code = cc) {x y : Int64} {off : Int} {tgt : Nat} (h1 : decode cc pc = .ok (.lcmp, 1)) (h2 : decode cc (pc + 1) = .ok (.ifCond .lt off, 3)) (ht : ((pc + 1 : Nat) : Int) + off = (tgt : Int)) (kt : x < y → W p l e R s m args below meth c H locs cells slots Q (F0 m tgt ls rest)) (kf : ¬ x < y → W p l e R s m args below meth c H locs cells slots Q (F0 m (pc + 1 + 3) ls rest)) : W p l e R s m args below meth c H locs cells slots Q (F0 m pc ls (.long y :: .long x :: rest)) :=
  W.lcmp hexec hb h1 (lv_if_lt hexec hb h2 ht (fun q => kt ((lg_cmp_lt x y).mp q)) (fun q => kf (fun z => q ((lg_cmp_lt x y).mpr z))))
theorem gl_gt (hexec : p.tables.exec = Jvm.exec) (hb : c.code = cc) {x y : Int64} {off : Int} {tgt : Nat} (h1 : decode cc pc = .ok (.lcmp, 1)) (h2 : decode cc (pc + 1) = .ok (.ifCond .gt off, 3)) (ht : ((pc + 1 : Nat) : Int) + off = (tgt : Int)) (kt : y < x → W p l e R s m args below meth c H locs cells slots Q (F0 m tgt ls rest)) (kf : ¬ y < x → W p l e R s m args below meth c H locs cells slots Q (F0 m (pc + 1 + 3) ls rest)) : W p l e R s m args below meth c H locs cells slots Q (F0 m pc ls (.long y :: .long x :: rest)) :=
  W.lcmp hexec hb h1 (lv_if_gt hexec hb h2 ht (fun q => kt ((lg_cmp_gt x y).mp q)) (fun q => kf (fun z => q ((lg_cmp_gt x y).mpr z))))
theorem gl_le (hexec : p.tables.exec = Jvm.exec) (hb : c.code = cc) {x y : Int64} {off : Int} {tgt : Nat} (h1 : decode cc pc = .ok (.lcmp, 1)) (h2 : decode cc (pc + 1) = .ok (.ifCond .le off, 3)) (ht : ((pc + 1 : Nat) : Int) + off = (tgt : Int)) (kt : x ≤ y → W p l e R s m args below meth c H locs cells slots Q (F0 m tgt ls rest)) (kf : ¬ x ≤ y → W p l e R s m args below meth c H locs cells slots Q (F0 m (pc + 1 + 3) ls rest)) : W p l e R s m args below meth c H locs cells slots Q (F0 m pc ls (.long y :: .long x :: rest)) :=
  W.lcmp hexec hb h1 (lv_if_le hexec hb h2 ht (fun q => kt ((lg_cmp_le x y).mp q)) (fun q => kf (fun z => q ((lg_cmp_le x y).mpr z))))
theorem gl_eq (hexec : p.tables.exec = Jvm.exec) (hb : c.code = cc) {x y : Int64} {off : Int} {tgt : Nat} (h1 : decode cc pc = .ok (.lcmp, 1)) (h2 : decode cc (pc + 1) = .ok (.ifCond .eq off, 3)) (ht : ((pc + 1 : Nat) : Int) + off = (tgt : Int)) (kt : x = y → W p l e R s m args below meth c H locs cells slots Q (F0 m tgt ls rest)) (kf : ¬ x = y → W p l e R s m args below meth c H locs cells slots Q (F0 m (pc + 1 + 3) ls rest)) : W p l e R s m args below meth c H locs cells slots Q (F0 m pc ls (.long y :: .long x :: rest)) :=
  W.lcmp hexec hb h1 (lv_if_eq hexec hb h2 ht (fun q => kt ((lg_cmp_eq x y).mp q)) (fun q => kf (fun z => q ((lg_cmp_eq x y).mpr z))))
theorem gl_ne (hexec : p.tables.exec = Jvm.exec) (hb : c.code = cc) {x y : Int64} {off : Int} {tgt : Nat} (h1 : decode cc pc = .ok (.lcmp, 1)) (h2 : decode cc (pc + 1) = .ok (.ifCond .ne off, 3)) (ht : ((pc + 1 : Nat) : Int) + off = (tgt : Int)) (kt : ¬ x = y → W p l e R s m args below meth c H locs cells slots Q (F0 m tgt ls rest)) (kf : x = y → W p l e R s m args below meth c H locs cells slots Q (F0 m (pc + 1 + 3) ls rest)) : W p l e R s m args below meth c H locs cells slots Q (F0 m pc ls (.long y :: .long x :: rest)) :=
  W.lcmp hexec hb h1 (lv_if_ne hexec hb h2 ht (fun q => kt (fun z => q ((lg_cmp_eq x y).mpr z))) (fun q => kf ((lg_cmp_eq x y).mp q)))
end GR
