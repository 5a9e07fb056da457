/-! the law's loop and its start -/
def lw_all (K : Nat → Nat) (Inv : gm_M → gm_M → lm_M → Prop) : Prop := lc_set K Inv ∧ lc_line K Inv ∧ lc_read K Inv ∧ lc_show K Inv ∧ lc_letter K Inv ∧ lc_work K Inv ∧ lc_divide K Inv ∧ lc_shift K Inv ∧ lc_bits K Inv ∧ lc_power K Inv ∧ lc_residue K Inv ∧ lc_compare K Inv ∧ lc_small K Inv ∧ lc_low K Inv ∧ lc_folded K Inv ∧ lc_size K Inv
def lw_pure : Prop := ∀ K : Nat → Nat, (∀ i j, i < 64 → j < 64 → K i = K j → i = j) → ∃ Inv : gm_M → gm_M → lm_M → Prop, Inv zz zz lz ∧ lw_all K Inv
def lw_P (b : Addr) (xs : List Int32) (args : Array Value) (s : State) : Prop := args = #[.ref b] ∧ s.IntsAt b xs ∧ xs.length ≤ 3072 ∧ (Jvm.Cond.and given_1 narrow_1).before args s = true
def lw_Q (_ : Array Value) (s : State) (o : Outcome) (t : State) : Prop := o = .returned (some (.int 1)) ∧ Framed s o t [] 601024 7293034
def lw_Z (below : List Frame) (a : Array Value) (s : State) : State → Prop := fun t => ∃ o, t.status = .running ∧ Ended t below o ∧ lw_Q a s o t
theorem lw_ret {p : Program} {l : Launch} {e : Env} {s : State} {m : MethodId} {below : List Frame} {meth : Method} {c : Code} {b : Nat} (hx : p.tables.exec = Jvm.exec) (hb : c.code = code) (hr : meth.sig.returnType = ret) (hlocks : meth.locks = false) {pc : Nat} {H : Heap} {ls : Array Slot} (hdg : decode code pc = .ok (.ireturn, 1)) : W p l e room_1 s m #[Value.ref b] below meth c H [] 601024 7293034 (lw_Z below #[Value.ref b] s) (F0 m pc ls [.int 1]) := by
  intro T hT X
  obtain ⟨fs, hret, hrun, hended, hW, hframe⟩ := X.leave (v := some (.int 1)) (hlocks := hlocks) (fun h => by rw [hr] at h; cases h)
  have hmeth' : T.vm.method? m = some meth := X.method'
  refine ⟨T.setFrames fs, ?_, .returned (some (.int 1)), hrun, hended, rfl, ⟨_, rfl⟩, hW, hframe⟩
  jvm_step X.here [X.here.top, hx, hb, hdg, hmeth', hr, ret, narrow_b1]
  (try refine ⟨rfl, ?_⟩); (try refine ⟨rfl, ?_⟩)
  first | (intro acts; rw [hret _ acts rfl rfl rfl]) | rw [hret _ _ rfl rfl rfl]
  exact Steps.refl _
theorem lw_and (y : Int32) : 0 ≤ (y &&& 15).toInt ∧ (y &&& 15).toInt < 16 := by
  have h1 : (y &&& 15).toBitVec.toNat < 16 := by
    rw [Int32.toBitVec_and, BitVec.toNat_and]
    exact Nat.lt_of_le_of_lt Nat.and_le_right (by decide)
  have h2 : (y &&& 15).toInt = ((y &&& 15).toBitVec.toNat : Int) := by
    show (y &&& 15).toBitVec.toInt = _
    exact BitVec.toInt_eq_toNat_of_lt (by omega)
  rw [h2]
  omega
theorem lw_cmp {Ln i : Nat} (h1 : Ln ≤ 3072) (h2 : i ≤ 4000) : Int32.ofNat Ln - 6 < nI i ↔ Ln < i + 6 := by
  rw [Int32.lt_iff_toInt_lt, nI_toInt (by omega), Int32.toInt_sub, show (Int32.ofNat Ln).toInt = (Ln : Int) from nI_toInt (by omega), show (6 : Int32).toInt = 6 from rfl]
  rw [Int.bmod_eq_of_le (by omega) (by omega)]
  omega
section LWL
variable {p : Program} {l : Launch} {e : Env} {s : State} {m : MethodId} {below : List Frame} {meth : Method} {c : Code} {D : va_G} {Λ : gs_L} {cI cB cJ cW : ClassId} {K : Nat → Nat} {b Ln : Nat} {xs : Nat → Int32}
set_option maxHeartbeats 4000000 in
set_option maxRecDepth 100000 in
theorem lw_loop (C : lw_C p l s m c #[Value.ref b] b Ln xs Λ D cI cB cJ cW K) (hr : meth.sig.returnType = ret) (hlocks : meth.locks = false) (hold : ∀ x ∈ Λ, s.heap.size ≤ x.1) {Inv : gm_M → gm_M → lm_M → Prop} (hall : lw_all K Inv) : ∀ (N i cells slots : Nat) (F A : gm_M) (L : lm_M) (H : Heap) (locs : List Loc) (ls : Array Slot), Ln < i + 6 * (N + 1) → i ≤ Ln + 6 → cells + N ≤ 601024 → slots + 6 * N ≤ 7293034 → Inv F A L → va_P D gcls (gs_ws Λ F A L) H → va_S (gw_A Λ) s.heap H locs → lv_has ls 8 [(0, .ref b), (1, .ref (K 0)), (2, .ref (K 49)), (3, .ref (K 63)), (4, .int (nI i))] → W p l e room_1 s m #[Value.ref b] below meth c H locs cells slots (lw_Z below #[Value.ref b] s) (F0 m 23 ls []) := by
  have C' := C
  obtain ⟨hx, hb, hml, hown, htw, hK, hlo, hΛ, hΜ, hO, hN, hn2, hn3, hX, hbl, hbA, hfl, hLn⟩ := C'
  obtain ⟨a0, a1, a2, a3, a4, a5, a6, a7, a8, a9, a10, a11, a12, a13, a14, a15⟩ := hall
  intro N
  induction N with
  | zero =>
    intro i cells slots F A L H locs ls hi hi2 hf1 hf2 hI hP hS hl
    refine lv_iload hx hb d_L_law_23 (lv_at hl 4 rfl) ?_
    refine lv_aload_n hx hb d_L_law_25 rfl (lv_at hl 0 rfl) ?_
    refine va_slen hx hb hX hbl hbA hS d_L_law_26 ?_
    refine lv_bipush (v := (6 : Int32)) hx hb d_L_law_27 (by decide) ?_
    refine lv_isub hx hb d_L_law_29 ?_
    refine lv_icmp_gt (tgt := 1351) hx hb d_L_law_30 (by decide) (fun h => ?_) (fun h => absurd ((lw_cmp hLn (by omega)).mpr (by omega)) h)
    refine lv_iconst (v := (1 : Int32)) hx hb d_L_law_1351 (by decide) ?_
    refine W.widen (k := 601024) (n := 7293034) (by omega) (by omega) ?_
    refine va_forget (fun q hq => ?_) (lw_ret hx hb hr hlocks d_L_law_1352)
    obtain ⟨sh, hsh⟩ := hS.2.2 q hq
    exact hold _ hsh
  | succ N ih =>
    intro i cells slots F A L H locs ls hi hi2 hf1 hf2 hI hP hS hl
    refine lv_iload hx hb d_L_law_23 (lv_at hl 4 rfl) ?_
    refine lv_aload_n hx hb d_L_law_25 rfl (lv_at hl 0 rfl) ?_
    refine va_slen hx hb hX hbl hbA hS d_L_law_26 ?_
    refine lv_bipush (v := (6 : Int32)) hx hb d_L_law_27 (by decide) ?_
    refine lv_isub hx hb d_L_law_29 ?_
    refine lv_icmp_gt (tgt := 1351) hx hb d_L_law_30 (by decide) (fun h => ?_) (fun h => ?_)
    · refine lv_iconst (v := (1 : Int32)) hx hb d_L_law_1351 (by decide) ?_
      refine W.widen (k := 601024) (n := 7293034) (by omega) (by omega) ?_
      refine va_forget (fun q hq => ?_) (lw_ret hx hb hr hlocks d_L_law_1352)
      obtain ⟨sh, hsh⟩ := hS.2.2 q hq
      exact hold _ hsh
    · have h6 : i + 6 ≤ Ln := Nat.not_lt.mp fun q => h ((lw_cmp hLn (by omega)).mpr q)
      refine lv_aload_n hx hb d_L_law_33 rfl (lv_at hl 0 rfl) ?_
      refine lv_iload hx hb d_L_law_34 (lv_at hl 4 rfl) ?_
      refine va_sld hx hb hX hbl hbA hS (vp_in_nI (n := i) (by omega) (by omega)) d_L_law_36 ?_
      rw [nI_clamp (by omega)]
      refine lv_bipush (v := (15 : Int32)) hx hb d_L_law_37 (by decide) ?_
      refine lv_iand hx hb d_L_law_39 ?_
      have hf : cells + 1 ≤ 601024 ∧ slots + 6 ≤ 7293034 := ⟨by omega, by omega⟩
      have kk : ∀ (F A : gm_M) (L : lm_M) (H : Heap) (locs : List Loc) (ls : Array Slot), Inv F A L → va_P D gcls (gs_ws Λ F A L) H → va_S (gw_A Λ) s.heap H locs → lv_has ls 8 [(0, .ref b), (1, .ref (K 0)), (2, .ref (K 49)), (3, .ref (K 63)), (4, .int (nI i))] → W p l e room_1 s m #[Value.ref b] below meth c H locs (cells + 1) (slots + 6) (lw_Z below #[Value.ref b] s) (F0 m 1345 ls []) := by
        intro F A L H locs ls hI hP hS hl
        refine lv_iinc (v := nI (i + 6)) (lv' := [(4, .int (nI (i + 6))), (0, .ref b), (1, .ref (K 0)), (2, .ref (K 49)), (3, .ref (K 63))]) hx hb d_L_law_1345 hl (k := 4) rfl (nI_add i 6) (by decide) rfl (fun ls hl => ?_)
        refine lv_goto (tgt := 23) hx hb d_L_law_1348 (by decide) ?_
        exact ih (i + 6) (cells + 1) (slots + 6) F A L H locs ls (by omega) (by omega) (by omega) (by omega) hI hP hS (lv_sub hl [1, 2, 3, 4, 0] rfl)
      have hr16 := lw_and (xs i)
      generalize xs i &&& 15 = y at hr16 ⊢
      have hy : y.toInt = 0 ∨ y.toInt = 1 ∨ y.toInt = 2 ∨ y.toInt = 3 ∨ y.toInt = 4 ∨ y.toInt = 5 ∨ y.toInt = 6 ∨ y.toInt = 7 ∨ y.toInt = 8 ∨ y.toInt = 9 ∨ y.toInt = 10 ∨ y.toInt = 11 ∨ y.toInt = 12 ∨ y.toInt = 13 ∨ y.toInt = 14 ∨ y.toInt = 15 := by omega
      rcases hy with h | h | h | h | h | h | h | h | h | h | h | h | h | h | h | h
      · exact lv_tableIn (tgt := 120) hx hb d_L_law_40 (by rw [h]; decide) (by rw [h]; decide) (by rw [h]; rfl) (by decide) (lw_set C a0 hI hP hS h6 hl hf kk)
      · exact lv_tableIn (tgt := 220) hx hb d_L_law_40 (by rw [h]; decide) (by rw [h]; decide) (by rw [h]; rfl) (by decide) (lw_line C a1 hI hP hS h6 hl hf kk)
      · exact lv_tableIn (tgt := 308) hx hb d_L_law_40 (by rw [h]; decide) (by rw [h]; decide) (by rw [h]; rfl) (by decide) (lw_read C a2 hI hP hS h6 hl hf kk)
      · exact lv_tableIn (tgt := 376) hx hb d_L_law_40 (by rw [h]; decide) (by rw [h]; decide) (by rw [h]; rfl) (by decide) (lw_show C a3 hI hP hS h6 hl hf kk)
      · exact lv_tableIn (tgt := 444) hx hb d_L_law_40 (by rw [h]; decide) (by rw [h]; decide) (by rw [h]; rfl) (by decide) (lw_letter C a4 hI hP hS h6 hl hf kk)
      · exact lv_tableIn (tgt := 500) hx hb d_L_law_40 (by rw [h]; decide) (by rw [h]; decide) (by rw [h]; rfl) (by decide) (lw_work C a5 hI hP hS h6 hl hf kk)
      · exact lv_tableIn (tgt := 592) hx hb d_L_law_40 (by rw [h]; decide) (by rw [h]; decide) (by rw [h]; rfl) (by decide) (lw_divide C a6 hI hP hS h6 hl hf kk)
      · exact lv_tableIn (tgt := 712) hx hb d_L_law_40 (by rw [h]; decide) (by rw [h]; decide) (by rw [h]; rfl) (by decide) (lw_shift C a7 hI hP hS h6 hl hf kk)
      · exact lv_tableIn (tgt := 792) hx hb d_L_law_40 (by rw [h]; decide) (by rw [h]; decide) (by rw [h]; rfl) (by decide) (lw_bits C a8 hI hP hS h6 hl hf kk)
      · exact lv_tableIn (tgt := 884) hx hb d_L_law_40 (by rw [h]; decide) (by rw [h]; decide) (by rw [h]; rfl) (by decide) (lw_power C a9 hI hP hS h6 hl hf kk)
      · exact lv_tableIn (tgt := 964) hx hb d_L_law_40 (by rw [h]; decide) (by rw [h]; decide) (by rw [h]; rfl) (by decide) (lw_residue C a10 hI hP hS h6 hl hf kk)
      · exact lv_tableIn (tgt := 1056) hx hb d_L_law_40 (by rw [h]; decide) (by rw [h]; decide) (by rw [h]; rfl) (by decide) (lw_compare C a11 hI hP hS h6 hl hf kk)
      · exact lv_tableIn (tgt := 1124) hx hb d_L_law_40 (by rw [h]; decide) (by rw [h]; decide) (by rw [h]; rfl) (by decide) (lw_small C a12 hI hP hS h6 hl hf kk)
      · exact lv_tableIn (tgt := 1179) hx hb d_L_law_40 (by rw [h]; decide) (by rw [h]; decide) (by rw [h]; rfl) (by decide) (lw_low C a13 hI hP hS h6 hl hf kk)
      · exact lv_tableIn (tgt := 1234) hx hb d_L_law_40 (by rw [h]; decide) (by rw [h]; decide) (by rw [h]; rfl) (by decide) (lw_folded C a14 hI hP hS h6 hl hf kk)
      · exact lv_tableIn (tgt := 1289) hx hb d_L_law_40 (by rw [h]; decide) (by rw [h]; decide) (by rw [h]; rfl) (by decide) (lw_size C a15 hI hP hS h6 hl hf kk)
end LWL
theorem gK_mem {cI cB cW : ClassId} {Λ : gs_L} {K : Nat → Nat} (h : gK cI cB cW Λ K) (i : Nat) (hi : i < 49) : ∃ sh, (K i, sh) ∈ Λ := by
  by_cases h7 : i < 7
  · have : i = 0 ∨ i = 1 ∨ i = 2 ∨ i = 3 ∨ i = 4 ∨ i = 5 ∨ i = 6 := by omega
    rcases this with rfl | rfl | rfl | rfl | rfl | rfl | rfl
    · exact ⟨_, gK_0 h⟩
    · exact ⟨_, gK_1 h⟩
    · exact ⟨_, gK_2 h⟩
    · exact ⟨_, gK_3 h⟩
    · exact ⟨_, gK_4 h⟩
    · exact ⟨_, gK_5 h⟩
    · exact ⟨_, gK_6 h⟩
  · rcases Nat.mod_two_eq_zero_or_one (i - 7) with e | e
    · have := (gK_w h ((i - 7) / 2) (by omega)).1
      rw [show 7 + 2 * ((i - 7) / 2) = i by omega] at this
      exact ⟨_, this⟩
    · have := (gK_w h ((i - 7) / 2) (by omega)).2
      rw [show 8 + 2 * ((i - 7) / 2) = i by omega] at this
      exact ⟨_, this⟩
theorem gK_ext {cI cB cW : ClassId} {Λ Λ1 : gs_L} {K K0 : Nat → Nat} (h : gK cI cB cW Λ K0) (ag : ∀ i, i < 49 → K i = K0 i) (kz : ∀ x ∈ Λ, x.1 ≠ K0 1 → x ∈ Λ1) (hq : (K0 1, gRf cW 16 (fun j => some (K (7 + 2 * j)))) ∈ Λ1) (ne : ∀ i, i < 49 → i ≠ 1 → K0 i ≠ K0 1) : gK cI cB cW Λ1 K := by
  intro x hx
  rcases List.mem_append.mp hx with hx | hx
  · simp only [List.mem_cons, List.not_mem_nil, or_false] at hx
    rcases hx with rfl | rfl | rfl | rfl | rfl | rfl | rfl
    · rw [ag 0 (by decide), ag 1 (by decide), ag 2 (by decide), ag 4 (by decide), ag 43 (by decide), ag 45 (by decide), ag 47 (by decide)]
      exact kz _ (gK_0 h) (ne 0 (by decide) (by decide))
    · rw [ag 1 (by decide)]; exact hq
    · rw [ag 2 (by decide), ag 3 (by decide)]; exact kz _ (gK_2 h) (ne 2 (by decide) (by decide))
    · rw [ag 3 (by decide)]; exact kz _ (gK_3 h) (ne 3 (by decide) (by decide))
    · rw [ag 4 (by decide), ag 39 (by decide), ag 41 (by decide), ag 5 (by decide), ag 6 (by decide)]
      exact kz _ (gK_4 h) (ne 4 (by decide) (by decide))
    · rw [ag 5 (by decide)]; exact kz _ (gK_5 h) (ne 5 (by decide) (by decide))
    · rw [ag 6 (by decide)]; exact kz _ (gK_6 h) (ne 6 (by decide) (by decide))
  · obtain ⟨w, hw, hx⟩ := List.mem_flatMap.mp hx
    have hw := List.mem_range.mp hw
    simp only [List.mem_cons, List.not_mem_nil, or_false] at hx
    rcases hx with rfl | rfl
    · rw [ag _ (by omega), ag _ (by omega)]; exact kz _ (gK_w h w hw).1 (ne _ (by omega) (by omega))
    · rw [ag _ (by omega)]; exact kz _ (gK_w h w hw).2 (ne _ (by omega) (by omega))
section GCD
variable {p : Program} {l : Launch} {e : Env} {R : Room} {s : State} {m : MethodId} {args : Array Value} {below : List Frame} {meth : Method} {c : Code} {H : Heap} {locs : List Loc} {cells slots : Nat} {Q : State → Prop}
variable {cc bytes : ByteArray} {pc nL maxL index n mc ms : Nat} {ls : Array Slot} {rest st0 As : List Value} {D : va_G} {a b sz : Nat} {Λ : gs_L} {cI cB cJ cW : ClassId} {A : Nat → Prop} {H0 : Heap} {y : MethodName} {own : String} {rm : Room} {post : gs_L → Prop}
theorem gc_blindK : FrameBlind (va_Pc As (gc_PK D cI cB cJ cW Λ sz)) := by
  intro a U g mk q
  obtain ⟨q0, ⟨q1, qP, qK⟩, qA⟩ := q
  exact ⟨q0, ⟨q1, qP, va_K.moved (u := U) (U := U.calling g mk a) (Vm.Alike.refl U.vm) qK⟩, va_AO.moved (u := U) (U := U.calling g mk a) (Vm.Alike.refl U.vm) qA⟩
theorem gc_callK (hexec : p.tables.exec = Jvm.exec) (hb : c.code = cc) (hml : c.maxLocals = nL) (hown : s.vm.findClass own = some m.cls) (htw : ∀ w ∈ gw_WS, w.before args s = true) (hAO : va_AO "LimbDesk$Whole" s) (hK : va_K D gcls (gtys cI cB cJ cW) s) (hP : va_P D gcls (gs_ws Λ zz zz lz) H) (hAΛ : ∀ x ∈ Λ, A x.1) (hS : va_S A H0 H locs) (hA : ∀ q, H0.size ≤ q → A q) (hsize : ls.size = nL)
    (hM : Met l y (Cond.code y bytes maxL none :: gw_WS) rm (va_Pc (.ref b :: As) (gc_PK D cI cB cJ cW Λ H.size)) (gc_Q D cI cB cJ cW Λ b H.size post) mc ms (gc_A Λ H.size)) (hy : gw_OK y bytes maxL none n) (hyi : Cond.instanceMethod y ∈ gw_WS) (hy1 : y.name = "<init>") (hl : Cond.methodLink own index y ∈ gw_WS) (hR : rm.frames + 1 ≤ R.frames ∧ 8 + (maxL + 11) + rm.locals ≤ R.locals) (hrc : rm.cells = mc) (hrs : rm.slots = ms)
    (hn : As.length = n) (hst : st0 = As.reverse ++ .ref b :: rest) (hroom : (rest.map fun v => v.category).sum ≤ 8) (hdg : decode cc pc = .ok (.invokespecial index, 3)) (hf : cells + mc ≤ R.cells ∧ slots + ms ≤ R.slots)
    (kk : ∀ (Λ1 : gs_L) (H1 : Heap) (locs1 : List Loc), post Λ1 → (∀ x ∈ Λ, x.1 ≠ b → x ∈ Λ1) → gs_D Λ1 → (∀ x ∈ Λ1, A x.1) → va_P D gcls (gs_ws Λ1 zz zz lz) H1 → va_S A H0 H1 locs1 → W p l e R s m args below meth c H1 locs1 (cells + mc) (slots + ms) Q (F0 m (pc + 3) ls rest)) : W p l e R s m args below meth c H locs cells slots Q (F0 m pc ls st0) := by
  have hA1 : ∀ q, gc_A Λ H.size q → A q := fun q h => by
    rcases h with ⟨sh, hsh⟩ | h
    · exact hAΛ _ hsh
    · exact hA q (Nat.le_trans hS.1 h)
  have hr := va_runI (As := As) (rest := rest) (Ts := gw_WS) (g := F0 m pc ls st0) (H := H) (locs := locs) (cells := cells) (slots := slots) (below := below) (meth := meth) (e := e) ⟨hexec, hb, hml, hown, htw⟩ hM ⟨gw_cb htw hy hl hR hrc hrs, hy1, htw _ hyi⟩ ⟨gc_blindK, fun U hU hW => ⟨rfl, ⟨by rw [hU], by rw [hU]; exact hP, va_K.moved hW.alike hK⟩, va_AO.moved hW.alike hAO⟩⟩ rfl hn hsize hst (lv_room hroom) hdg hf
  intro T hT X
  obtain ⟨v, st₀, t, T', L', h0, X', hL, e1, e2, ⟨hv, ⟨Λ1, k1, k2, k3, k4, k5, -⟩, hz, hk⟩, st⟩ := hr T hT X
  cases hv
  rw [h0] at hz hk
  obtain ⟨t2, a1, b1⟩ := kk Λ1 T'.heap (locs ++ L') k1 k2 k3 (fun x hx => hA1 _ (k4 x hx)) (by rw [e1]; exact k5)
    ⟨Nat.le_trans hS.1 (by rw [e1]; exact hz), fun q h1 h2 => by rw [e1, hk q (Nat.lt_of_lt_of_le h1 hS.1) (fun z => h2 (hA1 q z))]; exact hS.2.1 q h1 h2, fun q hq => by
      rcases List.mem_append.mp hq with h | h
      · exact hS.2.2 q h
      · exact hA1 _ (hL q h)⟩ T' rfl X'
  exact ⟨t2, st t2 a1, b1⟩
theorem gz_newl (hexec : p.tables.exec = Jvm.exec) (hb : c.code = cc) (htw : ∀ w ∈ gw_WS, w.before args s = true) (hK : va_K D gcls (gtys cI cB cJ cW) s) (hP : va_P D gcls (gs_ws Λ zz zz lz) H) (hD : gs_D Λ) (hAΛ : ∀ x ∈ Λ, A x.1) (hS : va_S A H0 H locs) (hA : ∀ q, H0.size ≤ q → A q)
    {n : Int32} (N : Nat) (hn : ¬ n < 0) (hN : n.toNatClampNeg = N) (hbytes : N ≤ 100000) (hcells : cells + 1 ≤ R.cells) (hslots : slots + N ≤ R.slots) (hdg : decode cc pc = .ok (.newarray .long, 2))
    (kk : ∀ (q : Nat) (Λ1 : gs_L) (H1 : Heap), (∀ x ∈ Λ, x ∈ Λ1 ∧ x.1 ≠ q) → (q, gJ cJ N) ∈ Λ1 → gs_D Λ1 → (∀ x ∈ Λ1, A x.1) → va_P D gcls (gs_ws Λ1 zz zz lz) H1 → va_S A H0 H1 locs → W p l e R s m args below meth c H1 locs (cells + 1) (slots + N) Q (F0 m (pc + 2) ls (.ref q :: rest))) : W p l e R s m args below meth c H locs cells slots Q (F0 m pc ls (.int n :: rest)) := by
  refine va_newa hexec hb (atype := .long) (htw _ ac_long) (ty := .long) rfl hK hP (gc_D hD hAΛ zz zz lz) hS hA (N' := N) (a0 := (N, .inr (.inl (fun _ => 0)))) (fun _ => rfl) hn hN (by show N * 8 ≤ _; omega) hcells hslots hdg (fun q cA H1 hK1 hP1 hD1 hS1 => ?_)
  have hcA : cA = cJ := Option.some.inj ((va_nm_long (hK1.2 4 _ rfl).2).symm.trans (va_nm_long (hK.2 2 _ rfl).2))
  subst hcA
  obtain ⟨h1, h2, h3, h4⟩ := gc_push (F1 := zz) (M1 := zz) (sh := gJ cA N) (fun _ _ => rfl) (fun _ _ => rfl) rfl hD hAΛ hP1 hD1
  exact kk q _ H1 (fun x hx => ⟨List.mem_append_left _ hx, h1 x hx⟩) (List.mem_append_right _ (List.mem_singleton.mpr rfl)) h2 h3 h4 hS1
end GCD
