theorem cD_9 : (.classLink R_D 9 R_W : Cond) ∈ gw_WS := gw_r1 72 (by decide +kernel) (by decide +kernel)
theorem mD_11 : (.methodLink R_D 11 y_W_init : Cond) ∈ gw_WS := gw_r1 73 (by decide +kernel) (by decide +kernel)
theorem fD_14 : (.fieldLink R_D 14 R_D "quotient" "LLimbDesk$Whole;" : Cond) ∈ gw_WS := gw_r1 74 (by decide +kernel) (by decide +kernel)
theorem fD_20 : (.fieldLink R_D 20 R_D "rest" "LLimbDesk$Whole;" : Cond) ∈ gw_WS := gw_r1 76 (by decide +kernel) (by decide +kernel)
theorem fD_23 : (.fieldLink R_D 23 R_D "dividend" "[I" : Cond) ∈ gw_WS := gw_r1 78 (by decide +kernel) (by decide +kernel)
theorem fD_27 : (.fieldLink R_D 27 R_D "divisor" "[I" : Cond) ∈ gw_WS := gw_r1 79 (by decide +kernel) (by decide +kernel)
section CT2
variable {p : Program} {l : Launch} {e : Env} {R : Room} {s : State} {m : MethodId} {args : Array Value} {below : List Frame} {meth : Method} {c : Code} {H : Heap} {locs : List Loc} {cells slots : Nat} {Q : State → Prop}
variable {cc : ByteArray} {pc nL : Nat} {ls : Array Slot} {rest : List Value} {D : va_G} {a : Nat} {Λ : gs_L} {cI cB cJ cW : ClassId} {A : Nat → Prop} {H0 : Heap}
set_option maxHeartbeats 1000000 in
/-- new Whole(n) -/
theorem gz_whole (hexec : p.tables.exec = Jvm.exec) (hb : c.code = cc) (hml : c.maxLocals = nL) {own : String} (hown : s.vm.findClass own = some m.cls) (htw : ∀ w ∈ gw_WS, w.before args s = true) (hK : va_K D gcls (gtys cI cB cJ cW) s) (hP : va_P D gcls (gs_ws Λ zz zz lz) H) (hD : gs_D Λ) (hAΛ : ∀ x ∈ Λ, A x.1) (hS : va_S A H0 H locs) (hA : ∀ q, H0.size ≤ q → A q) (hsize : ls.size = nL)
    {ix iy : Nat} (hcl : Cond.classLink own ix R_W ∈ gw_WS) (hl : Cond.methodLink own iy y_W_init ∈ gw_WS) (n w : Nat) (hn : n ≤ 100000) (d1 : decode cc pc = .ok (.new ix, 3)) (d2 : decode cc (pc + 3) = .ok (.dup, 1))
    (hpush : ∀ (H : Heap) (locs : List Loc) (cells slots : Nat) (st : List Value), W p l e R s m args below meth c H locs cells slots Q (F0 m (pc + 3 + 1 + w) ls (.int (nI n) :: st)) → W p l e R s m args below meth c H locs cells slots Q (F0 m (pc + 3 + 1) ls st))
    (d4 : decode cc (pc + 3 + 1 + w) = .ok (.invokespecial iy, 3)) (hroom : ((rest.map fun v => v.category).sum + 1) ≤ 8) (hR : 2 ≤ R.frames ∧ 81 ≤ R.locals) (hc : cells + 2 ≤ R.cells) (hs : slots + (3 + n) ≤ R.slots)
    (kk : ∀ (q la : Nat) (Λ1 : gs_L) (H1 : Heap) (locs1 : List Loc), (∀ x ∈ Λ, x ∈ Λ1 ∧ x.1 ≠ q ∧ x.1 ≠ la) → q ≠ la → gW cI Λ1 q la n → gs_D Λ1 → (∀ x ∈ Λ1, A x.1) → va_P D gcls (gs_ws Λ1 zz zz lz) H1 → va_S A H0 H1 locs1 → W p l e R s m args below meth c H1 locs1 (cells + 2) (slots + (3 + n)) Q (F0 m (pc + 3 + 1 + w + 3) ls (.ref q :: rest))) : W p l e R s m args below meth c H locs cells slots Q (F0 m pc ls rest) := by
  refine gz_new (ci := 0) hexec hb htw i_W tf_W tf_W_ok hown hcl in_W ini_W hK hP hD hAΛ hS hA rfl [some none, none, none] (fun j hj => by rcases (show j = 0 ∨ j = 1 ∨ j = 2 by omega) with rfl | rfl | rfl <;> rfl) (by omega) (by omega) d1 (fun q Λ1 H1 ex hq hD1 hA1 hP1 hS1 => ?_)
  refine lv_dup hexec hb d2 rfl ?_
  refine hpush _ _ _ _ _ ?_
  refine gc_call (As := [.int (nI n)]) (rest := .ref q :: rest) hexec hb hml hown htw hK hP1 hA1 hS1 hA hsize (ct_W_init hD1 q H1.size n hq hn) ko_W_init ki_W_init rfl hl ⟨hR.1, hR.2⟩ rfl rfl rfl rfl (by show 1 + (rest.map fun v => v.category).sum ≤ 8; omega) d4 ⟨by omega, by omega⟩ (fun Λ2 H2 locs2 hpo kp hD2 hA2 hP2 hS2 => ?_)
  obtain ⟨la, hw, hf⟩ := hpo
  refine W.widen (k := cells + 2) (n := slots + (3 + n)) (by omega) (by omega) ?_
  exact kk q la Λ2 H2 locs2 (fun x hx => ⟨kp _ (ex x hx).1 (ex x hx).2, (ex x hx).2, hf _ (ex x hx).1⟩) (hf _ hq) hw hD2 hA2 hP2 hS2
end CT2
section CT3
variable {l : Launch} {D : va_G} {cI cB cJ cW : ClassId} {Λ : gs_L}
def gc_postD (cI : ClassId) (Λ : gs_L) (a : Nat) (Λ1 : gs_L) : Prop := ∃ q lq r lr dd ds : Nat, ([q, lq, r, lr, dd, ds] : List Nat).Nodup ∧ (∀ b ∈ ([q, lq, r, lr, dd, ds] : List Nat), ∀ x ∈ Λ, x.1 ≠ b) ∧ (a, (Sum.inl (1, [some (some q), some (some r), some (some dd), some (some ds)]) : gs_S)) ∈ Λ1 ∧ gW cI Λ1 q lq 135 ∧ gW cI Λ1 r lr 135 ∧ (dd, gI cI 135) ∈ Λ1 ∧ (ds, gI cI 68) ∈ Λ1
set_option maxHeartbeats 4000000 in
set_option maxRecDepth 100000 in
theorem ct_D_init (hlo : gs_D Λ) (a sz : Nat) (hm : (a, (Sum.inl (1, [some none, some none, some none, some none]) : gs_S)) ∈ Λ) : Met l y_D_init (.code y_D_init b_D_init 1 none :: gw_WS) { frames := 2, cells := 6, slots := 479, locals := 81 } (va_Pc [.ref a] (gc_P D cI cB cJ cW Λ sz)) (gc_Q D cI cB cJ cW Λ a sz (gc_postD cI Λ a)) 6 479 (gc_A Λ sz) := by
  refine Met.ofW (cc := b_D_init) (maxL := 1) (ret := none) (by decide) rfl ?_
  intro p e s m args below meth c s₁ B hml hv
  obtain ⟨hargs, hsz, hP, hK⟩ := hv
  subst hsz
  have hx := B.exec
  have hb := B.bytes
  have hr := B.returns
  have hlocks := B.notSynchronized
  have htw : ∀ w ∈ gw_WS, w.before args s = true := fun w h9 => atoms_spec (ws := .code y_D_init b_D_init 1 none :: gw_WS) B.pre w (List.mem_cons_of_mem _ h9)
  have hown : s.vm.findClass R_D = some m.cls := findClass_of_methodNamed B.named
  have hin : meth.name = "<init>" := (name_of_methodNamed B.named B.method).1
  have hS : va_S (gc_A Λ s.heap.size) s.heap s.heap [] := va_S.rf
  have hA : ∀ q, s.heap.size ≤ q → gc_A Λ s.heap.size q := fun q h => Or.inr h
  have hAΛ : ∀ x ∈ Λ, gc_A Λ s.heap.size x.1 := fun x hx => Or.inl ⟨x.2, hx⟩
  have hold : ∀ x ∈ Λ, x.1 ≠ a → x ∈ Λ := fun x h _ => h
  refine W.eq (g2 := entryFrame m ([.ref a] : List Value).toArray 1) (by rw [hargs]) ?_
  have hl := lv_entry ([.ref a]) (n := 1) (Nat.le_of_ble_eq_true rfl)
  rw [lg_entry_eq]
  generalize (lg_sl ([.ref a]) ++ List.replicate (1 - (lg_sl ([.ref a])).length) Slot.unset).toArray = ls at hl ⊢
  have hl : lv_has ls 1 [(0, .ref a)] := hl
  refine lv_aload_n hx hb d_D_init_0 rfl (lv_at hl 0 rfl) ?_
  refine W.objInit hx hb hown (htw _ oi_D) (htw _ oi_inst) (htw _ oi_code) rfl (by rw [hml]; exact hl.1) rfl d_D_init_1 (Nat.le_of_ble_eq_true rfl) (Nat.le_of_ble_eq_true rfl) ?_
  refine W.eq (g2 := F0 m 4 ls []) rfl ?_
  refine lv_aload_n hx hb d_D_init_4 rfl (lv_at hl 0 rfl) ?_
  refine gz_whole hx hb hml hown htw hK hP hlo hAΛ hS hA hl.1 cD_9 mD_11 135 3 (by decide) d_D_init_5 d_D_init_8 (fun H locs cells slots st k => lv_sipush (v := nI 135) hx hb d_D_init_9 (by decide) k) d_D_init_12 (Nat.le_of_ble_eq_true rfl) ⟨Nat.le_of_ble_eq_true rfl, Nat.le_of_ble_eq_true rfl⟩ (Nat.le_of_ble_eq_true rfl) (Nat.le_of_ble_eq_true rfl) (fun q lq Λ1 H locs ex n1 hw1 hlo hAΛ hP hS => ?_)
  have aq := (ex _ hm).2.1
  have alq := (ex _ hm).2.2
  have o1 : ∀ x ∈ Λ, x.1 ≠ q := fun x h => (ex x h).2.1
  have o2 : ∀ x ∈ Λ, x.1 ≠ lq := fun x h => (ex x h).2.2
  have hold : ∀ x ∈ Λ, x.1 ≠ a → x ∈ Λ1 := fun x h _ => (ex x h).1
  have hm := (ex _ hm).1
  refine gc_putF (ty := .object "LimbDesk$Whole") hx hb htw i_D tf_D tf_D_ok n_D hown hK hP hlo hAΛ hS hm rfl 0 (by decide) rfl fD_14 rfl hin rfl (by decide +kernel) rfl rfl d_D_init_15 (fun Λ2 H locs kp hm hlo hAΛ hP hS => ?_)
  have hold : ∀ x ∈ Λ, x.1 ≠ a → x ∈ Λ2 := fun x h ha => kp _ (hold x h ha) ha
  have hw1 : gW cI Λ2 q lq 135 := ⟨kp _ hw1.1 (Ne.symm aq), kp _ hw1.2 (Ne.symm alq)⟩
  refine lv_aload_n hx hb d_D_init_18 rfl (lv_at hl 0 rfl) ?_
  refine gz_whole hx hb hml hown htw hK hP hlo hAΛ hS hA hl.1 cD_9 mD_11 135 3 (by decide) d_D_init_19 d_D_init_22 (fun H locs cells slots st k => lv_sipush (v := nI 135) hx hb d_D_init_23 (by decide) k) d_D_init_26 (Nat.le_of_ble_eq_true rfl) ⟨Nat.le_of_ble_eq_true rfl, Nat.le_of_ble_eq_true rfl⟩ (Nat.le_of_ble_eq_true rfl) (Nat.le_of_ble_eq_true rfl) (fun r lr Λ3 H locs ex n2 hw2 hlo hAΛ hP hS => ?_)
  have ar := (ex _ hm).2.1
  have alr := (ex _ hm).2.2
  have qr := (ex _ hw1.1).2.1
  have qlr := (ex _ hw1.1).2.2
  have lqr := (ex _ hw1.2).2.1
  have lqlr := (ex _ hw1.2).2.2
  have o3 : ∀ x ∈ Λ, x.1 ≠ r := fun x h => by
    by_cases ha : x.1 = a
    · rw [ha]; exact ar
    · exact (ex x (hold x h ha)).2.1
  have o4 : ∀ x ∈ Λ, x.1 ≠ lr := fun x h => by
    by_cases ha : x.1 = a
    · rw [ha]; exact alr
    · exact (ex x (hold x h ha)).2.2
  have hold : ∀ x ∈ Λ, x.1 ≠ a → x ∈ Λ3 := fun x h ha => (ex x (hold x h ha)).1
  have hw1 : gW cI Λ3 q lq 135 := ⟨(ex _ hw1.1).1, (ex _ hw1.2).1⟩
  have hm := (ex _ hm).1
  refine gc_putF (ty := .object "LimbDesk$Whole") hx hb htw i_D tf_D tf_D_ok n_D hown hK hP hlo hAΛ hS hm rfl 1 (by decide) rfl fD_20 rfl hin rfl (by decide +kernel) rfl rfl d_D_init_29 (fun Λ4 H locs kp hm hlo hAΛ hP hS => ?_)
  have hold : ∀ x ∈ Λ, x.1 ≠ a → x ∈ Λ4 := fun x h ha => kp _ (hold x h ha) ha
  have hw1 : gW cI Λ4 q lq 135 := ⟨kp _ hw1.1 (Ne.symm aq), kp _ hw1.2 (Ne.symm alq)⟩
  have hw2 : gW cI Λ4 r lr 135 := ⟨kp _ hw2.1 (Ne.symm ar), kp _ hw2.2 (Ne.symm alr)⟩
  refine lv_aload_n hx hb d_D_init_32 rfl (lv_at hl 0 rfl) ?_
  refine lv_sipush (v := nI 135) hx hb d_D_init_33 (by decide) ?_
  refine gz_newi hx hb htw ac_int hK hP hlo hAΛ hS hA 135 (nI_pos (by decide)) (nI_clamp (by decide)) (by decide) (Nat.le_of_ble_eq_true rfl) (Nat.le_of_ble_eq_true rfl) d_D_init_36 (fun dd Λ5 H ex hdd hlo hAΛ hP hS => ?_)
  have ad := (ex _ hm).2
  have qd := (ex _ hw1.1).2
  have lqd := (ex _ hw1.2).2
  have rd := (ex _ hw2.1).2
  have lrd := (ex _ hw2.2).2
  have o5 : ∀ x ∈ Λ, x.1 ≠ dd := fun x h => by
    by_cases ha : x.1 = a
    · rw [ha]; exact ad
    · exact (ex x (hold x h ha)).2
  have hold : ∀ x ∈ Λ, x.1 ≠ a → x ∈ Λ5 := fun x h ha => (ex x (hold x h ha)).1
  have hw1 : gW cI Λ5 q lq 135 := ⟨(ex _ hw1.1).1, (ex _ hw1.2).1⟩
  have hw2 : gW cI Λ5 r lr 135 := ⟨(ex _ hw2.1).1, (ex _ hw2.2).1⟩
  have hm := (ex _ hm).1
  refine gc_putF (ty := .array .int) hx hb htw i_D tf_D tf_D_ok n_D hown hK hP hlo hAΛ hS hm rfl 2 (by decide) rfl fD_23 rfl hin rfl (by decide +kernel) rfl rfl d_D_init_38 (fun Λ6 H locs kp hm hlo hAΛ hP hS => ?_)
  have hold : ∀ x ∈ Λ, x.1 ≠ a → x ∈ Λ6 := fun x h ha => kp _ (hold x h ha) ha
  have hw1 : gW cI Λ6 q lq 135 := ⟨kp _ hw1.1 (Ne.symm aq), kp _ hw1.2 (Ne.symm alq)⟩
  have hw2 : gW cI Λ6 r lr 135 := ⟨kp _ hw2.1 (Ne.symm ar), kp _ hw2.2 (Ne.symm alr)⟩
  have hdd := kp _ hdd (Ne.symm ad)
  refine lv_aload_n hx hb d_D_init_41 rfl (lv_at hl 0 rfl) ?_
  refine lv_bipush (v := nI 68) hx hb d_D_init_42 (by decide) ?_
  refine gz_newi hx hb htw ac_int hK hP hlo hAΛ hS hA 68 (nI_pos (by decide)) (nI_clamp (by decide)) (by decide) (Nat.le_of_ble_eq_true rfl) (Nat.le_of_ble_eq_true rfl) d_D_init_44 (fun ds Λ7 H ex hds hlo hAΛ hP hS => ?_)
  have as := (ex _ hm).2
  have qs := (ex _ hw1.1).2
  have lqs := (ex _ hw1.2).2
  have rs := (ex _ hw2.1).2
  have lrs := (ex _ hw2.2).2
  have dds := (ex _ hdd).2
  have o6 : ∀ x ∈ Λ, x.1 ≠ ds := fun x h => by
    by_cases ha : x.1 = a
    · rw [ha]; exact as
    · exact (ex x (hold x h ha)).2
  have hold : ∀ x ∈ Λ, x.1 ≠ a → x ∈ Λ7 := fun x h ha => (ex x (hold x h ha)).1
  have hw1 : gW cI Λ7 q lq 135 := ⟨(ex _ hw1.1).1, (ex _ hw1.2).1⟩
  have hw2 : gW cI Λ7 r lr 135 := ⟨(ex _ hw2.1).1, (ex _ hw2.2).1⟩
  have hdd := (ex _ hdd).1
  have hm := (ex _ hm).1
  refine gc_putF (ty := .array .int) hx hb htw i_D tf_D tf_D_ok n_D hown hK hP hlo hAΛ hS hm rfl 3 (by decide) rfl fD_27 rfl hin rfl (by decide +kernel) rfl rfl d_D_init_46 (fun Λ8 H locs kp hm hlo hAΛ hP hS => ?_)
  have hold : ∀ x ∈ Λ, x.1 ≠ a → x ∈ Λ8 := fun x h ha => kp _ (hold x h ha) ha
  have hw1 : gW cI Λ8 q lq 135 := ⟨kp _ hw1.1 (Ne.symm aq), kp _ hw1.2 (Ne.symm alq)⟩
  have hw2 : gW cI Λ8 r lr 135 := ⟨kp _ hw2.1 (Ne.symm ar), kp _ hw2.2 (Ne.symm alr)⟩
  have hdd := kp _ hdd (Ne.symm ad)
  have hds := kp _ hds (Ne.symm as)
  refine W.widen (k := 6) (n := 479) (Nat.le_of_ble_eq_true rfl) (Nat.le_of_ble_eq_true rfl) ?_
  refine gc_ret hx hb hr hlocks ⟨q, lq, r, lr, dd, ds, ?_, ?_, hm, hw1, hw2, hdd, hds⟩ hold hlo hAΛ hP hK hS d_D_init_49
  · have n1 : q ≠ lq := n1
    have qr : q ≠ r := qr
    have qlr : q ≠ lr := qlr
    have lqr : lq ≠ r := lqr
    have lqlr : lq ≠ lr := lqlr
    have qd : q ≠ dd := qd
    have lqd : lq ≠ dd := lqd
    have rd : r ≠ dd := rd
    have lrd : lr ≠ dd := lrd
    have qs : q ≠ ds := qs
    have lqs : lq ≠ ds := lqs
    have rs : r ≠ ds := rs
    have lrs : lr ≠ ds := lrs
    have dds : dd ≠ ds := dds
    simp [n1, n2, qr, qlr, lqr, lqlr, qd, lqd, rd, lrd, qs, lqs, rs, lrs, dds]
  · intro b hb x hx
    simp only [List.mem_cons, List.not_mem_nil, or_false] at hb
    rcases hb with rfl | rfl | rfl | rfl | rfl | rfl
    · exact o1 x hx
    · exact o2 x hx
    · exact o3 x hx
    · exact o4 x hx
    · exact o5 x hx
    · exact o6 x hx
end CT3
