def lw_K (K0 z : Nat → Nat) (mq oq i : Nat) : Nat := if i < 49 then K0 i else if i = 49 then mq else if i < 63 then z (i - 50) else oq
def R_law : String := "LimbDeskLaw"
def lw_At (p : Program) (s : State) (m : MethodId) (meth : Method) (c : Code) (b L : Nat) (xs : Nat → Int32) : Prop :=
  p.tables.exec = Jvm.exec ∧ c.code = code ∧ meth.sig.returnType = ret ∧ c.maxLocals = 8 ∧ s.vm.findClass R_law = some m.cls ∧ (∀ w ∈ lw_tbl, w.before #[Value.ref b] s = true) ∧ va_X b L xs s s.heap ∧ b < s.heap.size ∧ meth.locks = false ∧ (Jvm.Cond.and given_1 narrow_1).before #[Value.ref b] s = true
set_option maxHeartbeats 8000000 in
set_option maxRecDepth 100000 in
theorem whole_start (hpu : lw_pure) {p : Program} {e : Env} {s : State} {m : MethodId} {below : List Frame} {meth : Method} {c : Code} (l : Launch) (hfl : l.stackTraces = false) {b L : Nat} {xs : Nat → Int32} (hL : L ≤ 3072) (C0 : lw_At p s m meth c b L xs) : W p l e room_1 s m #[Value.ref b] below meth c s.heap [] 0 0 (lw_Z below #[Value.ref b] s) (entryFrame m ([Value.ref b] : List Value).toArray 8) := by
  obtain ⟨hx, hb, hr, hml, hown, hts, hX, hbl, hlocks, hgv⟩ := C0
  have hown : s.vm.findClass R_L = some m.cls := hown
  have htw : ∀ w ∈ gw_WS, w.before #[Value.ref b] s = true := fun w hw => hts w (List.mem_filter.mp hw).1
  obtain ⟨-, hAO, hn2, hn3⟩ := gy_N hts hgv (A := fun _ => False) (fun _ _ h => h)
  obtain ⟨D, cI, cB, cJ, cW, hK⟩ := gy_K htw hAO
  have hP : va_P D gcls (gs_ws [] zz zz lz) s.heap := fun k q h => by simp [gs_ws] at h
  have hD : gs_D [] := fun i j p q h => by simp at h
  have hAΛ : ∀ x ∈ ([] : gs_L), gc_A [] s.heap.size x.1 := fun x h => (List.not_mem_nil h).elim
  have hS : va_S (gc_A [] s.heap.size) s.heap s.heap [] := va_S.rf
  have hA : ∀ q, s.heap.size ≤ q → gc_A [] s.heap.size q := fun q h => Or.inr h
  have hl := lv_entry ([.ref b]) (n := 8) (Nat.le_of_ble_eq_true rfl)
  rw [lg_entry_eq]
  generalize (lg_sl ([.ref b]) ++ List.replicate (8 - (lg_sl ([.ref b])).length) Slot.unset).toArray = ls at hl ⊢
  have hl : lv_has ls 8 [(0, .ref b)] := hl
  refine gz_new (ci := 3) hx hb htw i_K tf_K tf_K_ok hown lq_c8 in_K ini_K hK hP hD hAΛ hS hA rfl [some none, some none, some none, some none, some none, some none] (fun j hj => by rcases (show j = 0 ∨ j = 1 ∨ j = 2 ∨ j = 3 ∨ j = 4 ∨ j = 5 by omega) with rfl | rfl | rfl | rfl | rfl | rfl <;> rfl) (Nat.le_of_ble_eq_true rfl) (Nat.le_of_ble_eq_true rfl) d_L_law_0 (fun q Λ1 H ex1 hq hlo hAΛ hP hS => ?_)
  refine lv_dup hx hb d_L_law_3 rfl ?_
  refine gc_callK (As := []) (rest := [.ref q]) hx hb hml hown htw hAO hK hP hAΛ hS hA hl.1 (ct_K_init hlo q H.size hq) ko_K_init ki_K_init rfl lq_m71 ⟨Nat.le_of_ble_eq_true rfl, Nat.le_of_ble_eq_true rfl⟩ rfl rfl rfl rfl (Nat.le_of_ble_eq_true rfl) d_L_law_4 ⟨Nat.le_of_ble_eq_true rfl, Nat.le_of_ble_eq_true rfl⟩ (fun Λ2 H locs hpo kp2 hlo hAΛ hP hS => ?_)
  obtain ⟨K0, e0, inj0, -, hg2⟩ := hpo
  subst e0
  refine lv_astore_n (lv' := [(1, .ref (K0 0)), (0, .ref b)]) hx hb d_L_law_7 rfl hl (by decide) rfl (fun ls hl => ?_)
  refine gz_new (ci := 4) hx hb htw i_M tf_M tf_M_ok hown lq_c72 in_M ini_M hK hP hlo hAΛ hS hA rfl [none, none, some none, some none, some none, some none, some none, some none, some none, some none, some none, some none, none, some none, some none, some none] (fun j hj => by rcases (show j = 0 ∨ j = 1 ∨ j = 2 ∨ j = 3 ∨ j = 4 ∨ j = 5 ∨ j = 6 ∨ j = 7 ∨ j = 8 ∨ j = 9 ∨ j = 10 ∨ j = 11 ∨ j = 12 ∨ j = 13 ∨ j = 14 ∨ j = 15 by omega) with rfl | rfl | rfl | rfl | rfl | rfl | rfl | rfl | rfl | rfl | rfl | rfl | rfl | rfl | rfl | rfl <;> rfl) (Nat.le_of_ble_eq_true rfl) (Nat.le_of_ble_eq_true rfl) d_L_law_8 (fun mq Λ3 H ex3 hmq hlo hAΛ hP hS => ?_)
  refine lv_dup hx hb d_L_law_11 rfl ?_
  refine gc_call (As := []) (rest := [.ref mq]) hx hb hml hown htw hK hP hAΛ hS hA hl.1 (ct_M_init hlo mq H.size hmq) ko_M_init ki_M_init rfl lq_m74 ⟨Nat.le_of_ble_eq_true rfl, Nat.le_of_ble_eq_true rfl⟩ rfl rfl rfl rfl (Nat.le_of_ble_eq_true rfl) d_L_law_12 ⟨Nat.le_of_ble_eq_true rfl, Nat.le_of_ble_eq_true rfl⟩ (fun Λ4 H locs hpo kp4 hlo hAΛ hP hS => ?_)
  obtain ⟨z, injz, frz, hm4, z0, z1, z2, z3, z4, z5, z6, z7, z8, z9, z10, z11, z12⟩ := hpo
  refine lv_astore_n (lv' := [(2, .ref mq), (1, .ref (K0 0)), (0, .ref b)]) hx hb d_L_law_15 rfl hl (by decide) rfl (fun ls hl => ?_)
  refine lv_iconst (v := nI 1) hx hb d_L_law_16 (by decide) ?_
  refine gz_newl hx hb htw hK hP hlo hAΛ hS hA 1 (nI_pos (by decide)) (nI_clamp (by decide)) (by decide) (Nat.le_of_ble_eq_true rfl) (Nat.le_of_ble_eq_true rfl) d_L_law_17 (fun oq Λ5 H ex5 hoq hlo hAΛ hP hS => ?_)
  refine lv_astore_n (lv' := [(3, .ref oq), (2, .ref mq), (1, .ref (K0 0)), (0, .ref b)]) hx hb d_L_law_19 rfl hl (by decide) rfl (fun ls hl => ?_)
  refine lv_iconst (v := nI 0) hx hb d_L_law_20 (by decide) ?_
  refine lv_istore (lv' := [(4, .int (nI 0)), (3, .ref oq), (2, .ref mq), (1, .ref (K0 0)), (0, .ref b)]) hx hb d_L_law_21 hl (by decide) rfl (fun ls hl => ?_)
  have hg3 : gK cI cB cW Λ3 K0 := fun x hx => (ex3 _ (hg2 x hx)).1
  have hg4 : gK cI cB cW Λ4 K0 := fun x hx => kp4 _ (hg3 x hx) (ex3 _ (hg2 x hx)).2
  have hg5 : gK cI cB cW Λ5 K0 := fun x hx => (ex5 _ (hg4 x hx)).1
  have ag : ∀ i, i < 49 → lw_K K0 z mq oq i = K0 i := fun i hi => if_pos hi
  have hlo5 := hlo
  obtain ⟨Λ6, kz, hqz, hlo, hAΛ, hP⟩ := gc_same (g1 := fun j => some (lw_K K0 z mq oq (7 + 2 * j))) hlo hAΛ (gK_1 hg5) (fun j hj => by rw [ag _ (by omega)]) hP
  have n1 : ∀ i, i < 49 → i ≠ 1 → K0 i ≠ K0 1 := fun i hi h1 e => h1 (inj0 _ _ hi (by decide) e)
  have hgK : gK cI cB cW Λ6 (lw_K K0 z mq oq) := gK_ext hg5 ag kz hqz n1
  have mK : ∀ i, i < 49 → K0 i ≠ mq := fun i hi => by
    obtain ⟨sh, h⟩ := gK_mem hg2 i hi
    exact (ex3 _ h).2
  have zK : ∀ i, i < 49 → ∀ j, j < 13 → K0 i ≠ z j := fun i hi j hj => by
    obtain ⟨sh, h⟩ := gK_mem hg3 i hi
    exact frz j hj _ h
  have zm : ∀ j, j < 13 → mq ≠ z j := fun j hj => frz j hj _ hmq
  have oK : ∀ i, i < 49 → K0 i ≠ oq := fun i hi => by
    obtain ⟨sh, h⟩ := gK_mem hg4 i hi
    exact (ex5 _ h).2
  have om : mq ≠ oq := (ex5 _ hm4).2
  have zin : ∀ j, j < 13 → ∃ sh, (z j, sh) ∈ Λ4 := fun j hj => by
    rcases (show j = 0 ∨ j = 1 ∨ j = 2 ∨ j = 3 ∨ j = 4 ∨ j = 5 ∨ j = 6 ∨ j = 7 ∨ j = 8 ∨ j = 9 ∨ j = 10 ∨ j = 11 ∨ j = 12 by omega) with rfl | rfl | rfl | rfl | rfl | rfl | rfl | rfl | rfl | rfl | rfl | rfl | rfl
    · exact ⟨_, z0⟩
    · exact ⟨_, z1⟩
    · exact ⟨_, z2⟩
    · exact ⟨_, z3⟩
    · exact ⟨_, z4⟩
    · exact ⟨_, z5⟩
    · exact ⟨_, z6⟩
    · exact ⟨_, z7⟩
    · exact ⟨_, z8⟩
    · exact ⟨_, z9⟩
    · exact ⟨_, z10⟩
    · exact ⟨_, z11⟩
    · exact ⟨_, z12⟩
  have oz : ∀ j, j < 13 → z j ≠ oq := fun j hj => by
    obtain ⟨sh, h⟩ := zin j hj
    exact (ex5 _ h).2
  have up : ∀ x ∈ Λ4, x.1 ≠ K0 1 → x ∈ Λ6 := fun x h h1 => kz _ (ex5 _ h).1 h1
  have e49 : lw_K K0 z mq oq 49 = mq := rfl
  have hgM : gMd cI Λ6 (lw_K K0 z mq oq) := by
    intro x hx
    have hx : x ∈ ([(mq, .inl (4, [none, none, some (some (z 0)), some (some (z 1)), some (some (z 2)), some (some (z 3)), some (some (z 4)), some (some (z 5)), some (some (z 6)), some (some (z 7)), some (some (z 8)), some (some (z 9)), none, some (some (z 10)), some (some (z 11)), some (some (z 12))])), (z 0, gI cI 2064), (z 1, gI cI 16), (z 2, gI cI 16), (z 3, gI cI 2100), (z 4, gI cI 9000), (z 5, gI cI 9000), (z 6, gI cI 9000), (z 7, gI cI 9000), (z 8, gI cI 9000), (z 9, gI cI 9000), (z 10, gI cI 9000), (z 11, gI cI 129), (z 12, gI cI 129)] : gs_L) := hx
    have zn : ∀ j, j < 13 → z j ≠ K0 1 := fun j hj e => zK 1 (by decide) j hj e.symm
    simp only [List.mem_cons, List.not_mem_nil, or_false] at hx
    rcases hx with rfl | rfl | rfl | rfl | rfl | rfl | rfl | rfl | rfl | rfl | rfl | rfl | rfl | rfl
    · exact up _ hm4 (fun e => mK 1 (by decide) e.symm)
    · exact up _ z0 (zn 0 (by decide))
    · exact up _ z1 (zn 1 (by decide))
    · exact up _ z2 (zn 2 (by decide))
    · exact up _ z3 (zn 3 (by decide))
    · exact up _ z4 (zn 4 (by decide))
    · exact up _ z5 (zn 5 (by decide))
    · exact up _ z6 (zn 6 (by decide))
    · exact up _ z7 (zn 7 (by decide))
    · exact up _ z8 (zn 8 (by decide))
    · exact up _ z9 (zn 9 (by decide))
    · exact up _ z10 (zn 10 (by decide))
    · exact up _ z11 (zn 11 (by decide))
    · exact up _ z12 (zn 12 (by decide))
  have hO : (lw_K K0 z mq oq 63, gJ cJ 1) ∈ Λ6 := kz _ hoq (fun e => oK 1 (by decide) e.symm)
  have inj : ∀ i j, i < 64 → j < 64 → lw_K K0 z mq oq i = lw_K K0 z mq oq j → i = j := by
    have cl : ∀ i, i < 64 → (i < 49 ∧ lw_K K0 z mq oq i = K0 i) ∨ (i = 49 ∧ lw_K K0 z mq oq i = mq) ∨ (50 ≤ i ∧ i < 63 ∧ lw_K K0 z mq oq i = z (i - 50)) ∨ (i = 63 ∧ lw_K K0 z mq oq i = oq) := fun i hi => by
      by_cases h1 : i < 49
      · exact Or.inl ⟨h1, ag i h1⟩
      · by_cases h2 : i = 49
        · subst h2; exact Or.inr (Or.inl ⟨rfl, rfl⟩)
        · by_cases h3 : i < 63
          · exact Or.inr (Or.inr (Or.inl ⟨by omega, h3, by unfold lw_K; rw [if_neg h1, if_neg h2, if_pos h3]⟩))
          · have : i = 63 := by omega
            subst this
            exact Or.inr (Or.inr (Or.inr ⟨rfl, rfl⟩))
    intro i j hi hj e
    rcases cl i hi with ⟨p1, p2⟩ | ⟨p1, p2⟩ | ⟨p1, p3, p2⟩ | ⟨p1, p2⟩ <;> rcases cl j hj with ⟨q1, q2⟩ | ⟨q1, q2⟩ | ⟨q1, q3, q2⟩ | ⟨q1, q2⟩ <;> rw [p2, q2] at e
    · exact inj0 _ _ p1 q1 e
    · exact absurd e (mK i p1)
    · exact absurd e (zK i p1 _ (by omega))
    · exact absurd e (oK i p1)
    · exact absurd e.symm (mK j q1)
    · omega
    · exact absurd e (zm _ (by omega))
    · exact absurd e om
    · exact absurd e.symm (zK j q1 _ (by omega))
    · exact absurd e.symm (zm _ (by omega))
    · have := injz _ _ (by omega) (by omega) e
      omega
    · exact absurd e (oz _ (by omega))
    · exact absurd e.symm (oK j q1)
    · exact absurd e.symm om
    · exact absurd e.symm (oz _ (by omega))
    · omega
  obtain ⟨Inv, hI0, hall⟩ := hpu _ inj
  have hold : ∀ x ∈ Λ6, s.heap.size ≤ x.1 := fun x hx => by
    rcases hAΛ x hx with ⟨sh, h⟩ | h
    · exact (List.not_mem_nil h).elim
    · exact h
  have hnA : ∀ a : Nat, a < s.heap.size → ¬ gw_A Λ6 a := fun a ha ⟨sh, h⟩ => by
    have := hold _ h
    omega
  obtain ⟨hN, -, -, -⟩ := gy_N hts hgv (A := gw_A Λ6) hnA
  refine va_forget (fun q hq => ?_) ?_
  · rcases hS.2.2 q hq with ⟨sh, h⟩ | h
    · exact (List.not_mem_nil h).elim
    · exact h
  have hS6 : va_S (gw_A Λ6) s.heap H [] := ⟨hS.1, fun q h1 _ => hS.2.1 q h1 (fun h => by
    rcases h with ⟨sh, h⟩ | h
    · exact List.not_mem_nil h
    · omega), fun _ h => (List.not_mem_nil h).elim⟩
  exact lw_loop (Ln := L) (K := lw_K K0 z mq oq) ⟨hx, hb, hml, hown, htw, hK, hlo, hgK, hgM, hO, hN, hn2, hn3, hX, hbl, hnA b hbl, hfl, hL⟩ hr hlocks hold hall 512 0 _ _ zz zz lz _ _ _ (by omega) (by omega) (Nat.le_of_ble_eq_true rfl) (Nat.le_of_ble_eq_true rfl) hI0 hP hS6 (lv_sub hl [4, 3, 2, 1, 0] rfl)
set_option maxHeartbeats 4000000 in
theorem lw_walk (hpu : lw_pure) (l : Launch) (hfl : l.stackTraces = false) (b : Addr) (xs : List Int32) : MetFree l x (headSpec (Jvm.Cond.code x code maxLocals ret :: tables_1) room_1) (lw_P b xs) (fun _ _ _ _ _ => True) lw_Q := by
  refine MetFree.of_bodyS (code := code) (maxLocals := maxLocals) (ret := ret) (by decide) ?_ ?_
  · intro args s m h hn
    obtain ⟨meth, c, h1, h2, h3, h4, h5, h6, -, -⟩ := Cond.code_spec hn (atoms_spec (ws := Jvm.Cond.code x code maxLocals ret :: tables_1) h _ List.mem_cons_self)
    exact ⟨meth, c, h1, h2, h3, h4, h5, h6⟩
  · intro p e s m args below meth c s₁ B hml0 hP _
    obtain ⟨rfl, hx, hbd, hgv⟩ := hP
    obtain ⟨scr, harrAt, hlist, hof, hsmall⟩ := hx
    obtain ⟨hcb, hkn, -, -⟩ := State.arrayAt?_spec harrAt
    have hown : s.vm.findClass R_law = some m.cls := findClass_of_methodNamed B.named
    have hts0 : ∀ c ∈ (Jvm.Cond.code x code maxLocals ret :: tables_1), c.before #[Value.ref b] s = true := atoms_spec (ws := Jvm.Cond.code x code maxLocals ret :: tables_1) B.pre
    have hts : ∀ w ∈ lw_tbl, w.before #[Value.ref b] s = true := k2_hts_sels lw_privs (fun w hw => hts0 w (List.mem_cons_of_mem _ hw)) lw_privs_ok
    have hml : c.maxLocals = 8 := B.maxLocals_eq (hts0 _ List.mem_cons_self)
    have X₀ : Stand p l e room_1 s m #[Value.ref b] below meth c s₁ [] 0 0 := Stand.of_body B
    have hh0 : s₁.heap = s.heap := by rw [B.state]; rfl
    have hsz : scr.slots.size = xs.length := by rw [← Array.length_toList, hlist, List.length_map]
    have hval : ∀ j : Nat, j < xs.length → scr.slots[j]? = some (.int (xs.getD j 0)) := fun j hj => by
      rw [← Array.getElem?_toList, hlist]
      simp [hj]
    have hbl : b < s.heap.size := (Array.getElem?_eq_some_iff.mp hcb).1
    have hX : va_X b xs.length (fun j => xs.getD j 0) s s.heap := ⟨scr, hcb, hof, hkn, hsz, hval⟩
    have K : W p l e room_1 s m #[Value.ref b] below meth c s₁.heap [] 0 0 (lw_Z below #[Value.ref b] s) (entryFrame m ([Value.ref b] : List Value).toArray 8) := by
      rw [hh0]
      exact whole_start hpu l hfl hbd ⟨B.exec, B.bytes, B.returns, hml, hown, hts, hX, hbl, B.notSynchronized, hgv⟩
    obtain ⟨t, a1, o, b1, b2, b3⟩ := K s₁ rfl X₀
    exact ⟨t, o, a1, b1, b2, b3⟩
theorem lw_pre_spec {args : Array Value} {s : State} (h : (Jvm.Cond.and given_1 narrow_1).before args s = true) (hr : rest_1_c.before args s = true) : ∃ (b : Addr) (xs : List Int32), lw_P b xs args s := by
  have hs := flat_of_before _ h
  have hq := flat_of_before _ hr
  have hc : (Cond.count 1).before args s = true := hs _ (by decide +kernel)
  have harr : (Cond.arrayOf (.arg 0) .int).before args s = true := hs _ (by decide +kernel)
  have hle : (Cond.le (.length (.arg 0)) (.int 3072)).before args s = true := hs _ (by decide +kernel)
  have hlen : (Cond.isInt (.length (.arg 0))).before args s = true := hq _ (by decide +kernel)
  have hall : (Cond.all (.arg 0) (.isInt (.elem (.arg 0) (.index 0)))).before args s = true := hq _ (by decide +kernel)
  obtain ⟨b, xs, hb, hx⟩ := State.ints_of_pre rfl harr hlen hall
  have hsm : xs.length < 2 ^ 31 := hx.choose_spec.2.2.2
  have hev : (Term.length (.arg 0)).eval args s none [] s = some (.int xs.length.toInt32) := hx.length_eval hb
  have hv := Cond.le_ints hev (show (Term.int 3072).eval args s none [] s = some (.int 3072) from rfl)
  have hd : xs.length.toInt32 ≤ 3072 := by
    simpa [Cond.before, Cond.holds, hv] using hle
  have hN : xs.length ≤ 3072 := (Int32.ofNat_le_ofNat hsm (by decide)).mp (show Int32.ofNat xs.length ≤ Int32.ofNat 3072 from hd)
  exact ⟨b, xs, Cond.one_arg hc (show args[0]? = some (.ref b) from hb), hx, hN, h⟩
theorem lw_comes (hpu : lw_pure) (l : Launch) (hfl : l.stackTraces = false) : Comes l x (Jvm.Cond.code x code maxLocals ret :: tables_1) room_1 (fun tb e args s => Calls_1 tb e args s ∧ rest_1 tb e args s ∧ Pre_1 tb e args s)
    (fun _ _ args s o t => lw_Q args s o t) := by
  intro p e ha hc hk s m args below hf hfit hheap happ hpre
  obtain ⟨b, xs, hP⟩ := lw_pre_spec hpre.2.2 hpre.2.1
  obtain ⟨k, o, h1, h2, h3, hQ⟩ := lw_walk hpu l hfl b xs p e ha hc hk s m args below hf ((Spec.applies_iff_loose hf).mp happ).1 hP trivial
  exact ⟨k, o, h1, h2, h3, hQ⟩
theorem lw_frame {s t : State} {o : Outcome} {args : Array Value} (h : Framed s o t [] 601024 7293034) :
    Framed s o t (fieldLocs frame_1_writes args s ++ arrayLocs frame_1_arrays args s ++ staticLocs frame_1_statics s) 601024 7293034 := h
theorem lw_notr {l : Launch} (h : l.flags = flags0) : l.stackTraces = false := by
  unfold Launch.stackTraces
  rw [h]
  decide +kernel
theorem lw_limb (hpu : lw_pure) (L : Cond) (hL : ∀ (args : Array Value) (s t : State), L.after args s (.returned (some (.int 1))) t = true) :
    ArmFor flags0 classFile x code maxLocals ret World_1 tables_1 room_1 Calls_1 rest_1 Pre_1
      (fun tb e a s o t => postC L tb e a s o t ∧ Framed s o t (fieldLocs frame_1_writes a s ++ arrayLocs frame_1_arrays a s ++ staticLocs frame_1_statics s) 601024 7293034) := by
  intro l hfl _ _ p e ha hc hk s m args below hf hfit hheap happ hpre
  obtain ⟨k, o, h1, h2, h3, rfl, hF⟩ := lw_comes hpu l (lw_notr hfl) p e ha hc hk s m args below hf hfit hheap happ hpre
  exact ⟨k, _, h1, h2, h3, hL args s _, lw_frame hF⟩
theorem i_vc_of (hpu : lw_pure) : Claimed_1_1 ∧ Claimed_1_2 := ⟨lw_limb hpu limb_1_1 (fun args s t => by simp [limb_1_1, Cond.after, Cond.holds, Cond.value]), lw_limb hpu limb_1_2 (fun args s t => Cond.after_iff.mpr (by
  first | (rw [show limb_1_2 = Cond.eq .result (.int 1) from rfl, Cond.eq_ints (x := 1) (y := 1) rfl rfl]; simp; done) | (simp [limb_1_2, Cond.value, Term.eval]; done)))⟩
