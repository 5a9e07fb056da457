section CT4
variable {l : Launch} {D : va_G} {cI cB cJ cW : ClassId} {Λ : gs_L}
set_option maxHeartbeats 8000000 in
set_option maxRecDepth 100000 in
theorem ct_K_init (hlo : gs_D Λ) (a sz : Nat) (hm : (a, (Sum.inl (3, [some none, some none, some none, some none, some none, some none]) : gs_S)) ∈ Λ) : Met l y_K_init (.code y_K_init b_K_init 2 none :: gw_WS) { frames := 3, cells := 48, slots := 4067, locals := 101 } (va_Pc [.ref a] (gc_PK D cI cB cJ cW Λ sz)) (gc_Q D cI cB cJ cW Λ a sz (gc_postK cI cB cW Λ a)) 48 4067 (gc_A Λ sz) := by
  refine Met.ofW (cc := b_K_init) (maxL := 2) (ret := none) (by decide) rfl ?_
  intro p e s m args below meth c s₁ B hml hv
  obtain ⟨hargs, ⟨hsz, hP, hK⟩, hAO⟩ := hv
  subst hsz
  have hx := B.exec
  have hb := B.bytes
  have hr := B.returns
  have hlocks := B.notSynchronized
  have htw : ∀ w ∈ gw_WS, w.before args s = true := fun w h9 => atoms_spec (ws := .code y_K_init b_K_init 2 none :: gw_WS) B.pre w (List.mem_cons_of_mem _ h9)
  have hown : s.vm.findClass R_K = some m.cls := findClass_of_methodNamed B.named
  have hin : meth.name = "<init>" := (name_of_methodNamed B.named B.method).1
  have hS : va_S (gc_A Λ s.heap.size) s.heap s.heap [] := va_S.rf
  have hA : ∀ q, s.heap.size ≤ q → gc_A Λ s.heap.size q := fun q h => Or.inr h
  have hAΛ : ∀ x ∈ Λ, gc_A Λ s.heap.size x.1 := fun x hx => Or.inl ⟨x.2, hx⟩
  refine W.eq (g2 := entryFrame m ([.ref a] : List Value).toArray 2) (by rw [hargs]) ?_
  have hl := lv_entry ([.ref a]) (n := 2) (Nat.le_of_ble_eq_true rfl)
  rw [lg_entry_eq]
  generalize (lg_sl ([.ref a]) ++ List.replicate (2 - (lg_sl ([.ref a])).length) Slot.unset).toArray = ls at hl ⊢
  have hl : lv_has ls 2 [(0, .ref a)] := hl
  refine lv_aload_n hx hb d_K_init_0 rfl (lv_at hl 0 rfl) ?_
  refine W.objInit hx hb hown (htw _ oi_K) (htw _ oi_inst) (htw _ oi_code) rfl (by rw [hml]; exact hl.1) rfl d_K_init_1 (Nat.le_of_ble_eq_true rfl) (Nat.le_of_ble_eq_true rfl) ?_
  refine W.eq (g2 := F0 m 4 ls []) rfl ?_
  refine lv_aload_n hx hb d_K_init_4 rfl (lv_at hl 0 rfl) ?_
  refine lv_bipush (v := nI 16) hx hb d_K_init_5 (by decide) ?_
  refine gc_newr hx hb hown htw cK_9 hAO hK hP hlo hAΛ hS hA 16 (nI_pos (by decide)) (nI_clamp (by decide)) (by decide) (Nat.le_of_ble_eq_true rfl) (Nat.le_of_ble_eq_true rfl) d_K_init_7 (fun qa Λ1 H ex hqa hlo hAΛ hP hS => ?_)
  have aqa := (ex _ hm).2
  have hm := (ex _ hm).1
  refine gc_putF (ty := .array (.object "LimbDesk$Whole")) hx hb htw i_K tf_K tf_K_ok n_K hown hK hP hlo hAΛ hS hm rfl 0 (by decide) rfl fK_11 rfl hin rfl (by decide +kernel) rfl rfl d_K_init_10 (fun Λ2 H locs kp hm hlo hAΛ hP hS => ?_)
  have hm : (a, (Sum.inl (3, [some (some qa), some none, some none, some none, some none, some none]) : gs_S)) ∈ Λ2 := hm
  have hI : gk_I cI cW Λ a qa 0 (fun _ => 0) (fun _ => none) Λ2 := ⟨hm, aqa, kp _ hqa (Ne.symm aqa), fun j hj => absurd hj (Nat.not_lt_zero _), fun j hj => absurd hj (Nat.not_lt_zero _), fun i j hi => absurd hi (by omega), fun i hi => absurd hi (by omega), fun x hx ha => kp _ (ex x hx).1 ha, fun x hx => (ex x hx).2⟩
  refine lv_iconst (v := nI 0) hx hb d_K_init_13 (by decide) ?_
  refine lv_istore_n (lv' := [(1, .int (nI 0)), (0, .ref a)]) hx hb d_K_init_14 rfl hl (by decide) rfl (fun ls hl => ?_)
  generalize hQe : MQ below (gc_Q D cI cB cJ cW Λ a s.heap.size (gc_postK cI cB cW Λ a)) args s 48 4067 (gc_A Λ s.heap.size) = Q
  have loop : ∀ (k r : Nat) (z : Nat → Nat) (g : Nat → Option Nat) (Λ3 : gs_L) (H : Heap) (locs : List Loc) (ls : Array Slot), r + k = 16 → gk_I cI cW Λ a qa r z g Λ3 → gs_D Λ3 → (∀ x ∈ Λ3, gc_A Λ s.heap.size x.1) → va_P D gcls (gs_ws Λ3 zz zz lz) H → va_S (gc_A Λ s.heap.size) s.heap H locs → lv_has ls 2 [(0, .ref a), (1, .int (nI r))] → W p l e { frames := 3, cells := 48, slots := 4067, locals := 101 } s m args below meth c H locs (1 + 2 * r) (16 + 70 * r) Q (F0 m 15 ls []) := by
    intro k
    induction k with
    | zero =>
      intro r z g Λe H locs ls hrk hI hlo hAΛ hP hS hl
      have hr16 : r = 16 := by omega
      subst hr16
      refine lv_iload_n hx hb d_K_init_15 rfl (lv_at hl 1 rfl) ?_
      refine lv_bipush (v := nI 16) hx hb d_K_init_16 (by decide) ?_
      refine lv_icmp_ge (tgt := 42) hx hb d_K_init_18 (by decide) (fun _ => ?_) (fun h => absurd (Int32.le_refl _) h)
      have hm := hI.1
      have hg := gn_0 hm
      refine lv_aload_n hx hb d_K_init_42 rfl (lv_at hl 0 rfl) ?_
      refine gz_new (ci := 2) hx hb htw i_T tf_T tf_T_ok hown cK_18 in_T ini_T hK hP hlo hAΛ hS hA rfl [some none, none] (fun j hj => by rcases (show j = 0 ∨ j = 1 by omega) with rfl | rfl <;> rfl) (Nat.le_of_ble_eq_true rfl) (Nat.le_of_ble_eq_true rfl) d_K_init_43 (fun lt Λ4 H ex hT hlo hAΛ hP hS => ?_)
      have hg := gn_add (l2 := [lt]) hg (fun x hx => ⟨x.2, (ex x hx).1⟩) (fun x _ _ hx => (ex x hx).1) (by simp) (fun b hb => by rw [List.mem_singleton.mp hb]; exact ⟨⟨_, hT⟩, fun x hx => (ex x hx).2⟩)
      have hm := (ex _ hm).1
      refine lv_dup hx hb d_K_init_46 rfl ?_
      refine gc_call (As := []) (rest := [.ref lt, .ref a]) hx hb hml hown htw hK hP hAΛ hS hA hl.1 (ct_T_init hlo lt H.size hT) ko_T_init ki_T_init rfl mK_20 ⟨Nat.le_of_ble_eq_true rfl, Nat.le_of_ble_eq_true rfl⟩ rfl rfl rfl rfl (Nat.le_of_ble_eq_true rfl) d_K_init_47 ⟨Nat.le_of_ble_eq_true rfl, Nat.le_of_ble_eq_true rfl⟩ (fun Λ5 H locs hpo kp hlo hAΛ hP hS => ?_)
      obtain ⟨rw, hT, hR, hf⟩ := hpo
      have hg1 := hg
      have hm := kp _ hm (fun h => (hg.2.1 lt (by simp)).2 h.symm)
      have hg := gn_add (Λ1 := Λ5) (l2 := [rw]) hg (fun x hx => by
        by_cases hxl : x.1 = lt
        · exact ⟨_, hxl ▸ hT⟩
        · exact ⟨x.2, kp _ hx hxl⟩) (fun x h1 h2 hx => kp _ hx (hg1.2.2.1 lt (by simp) x h1)) (by simp) (fun b hb => by rw [List.mem_singleton.mp hb]; exact ⟨⟨_, hR⟩, hf⟩)
      refine gc_putF (ty := .object "LimbDesk$Letters") hx hb htw i_K tf_K tf_K_ok n_K hown hK hP hlo hAΛ hS hm rfl 1 (by decide) rfl fK_21 rfl hin rfl (by decide +kernel) rfl rfl d_K_init_50 (fun Λ6 H locs kp hm hlo hAΛ hP hS => ?_)
      have hm : (a, (Sum.inl (3, [some (some qa), some (some lt), some none, some none, some none, some none]) : gs_S)) ∈ Λ6 := hm
      have hT := kp _ hT (hg.2.1 lt (by simp)).2
      have hR := kp _ hR (hg.2.1 rw (by simp)).2
      have hg := gn_keep hg (fun _ _ h => h) kp hm
      refine lv_aload_n hx hb d_K_init_53 rfl (lv_at hl 0 rfl) ?_
      refine gz_new (ci := 1) hx hb htw i_D tf_D tf_D_ok hown cK_25 in_D ini_D hK hP hlo hAΛ hS hA rfl [some none, some none, some none, some none] (fun j hj => by rcases (show j = 0 ∨ j = 1 ∨ j = 2 ∨ j = 3 by omega) with rfl | rfl | rfl | rfl <;> rfl) (Nat.le_of_ble_eq_true rfl) (Nat.le_of_ble_eq_true rfl) d_K_init_54 (fun dv Λ7 H ex hV hlo hAΛ hP hS => ?_)
      have hg := gn_add (l2 := [dv]) hg (fun x hx => ⟨x.2, (ex x hx).1⟩) (fun x _ _ hx => (ex x hx).1) (by simp) (fun b hb => by rw [List.mem_singleton.mp hb]; exact ⟨⟨_, hV⟩, fun x hx => (ex x hx).2⟩)
      have hdlt : lt ≠ dv := (ex _ hT).2
      have hdrw : rw ≠ dv := (ex _ hR).2
      have hm := (ex _ hm).1
      have hT := (ex _ hT).1
      have hR := (ex _ hR).1
      refine lv_dup hx hb d_K_init_57 rfl ?_
      refine gc_call (As := []) (rest := [.ref dv, .ref a]) hx hb hml hown htw hK hP hAΛ hS hA hl.1 (ct_D_init hlo dv H.size hV) ko_D_init ki_D_init rfl mK_27 ⟨Nat.le_of_ble_eq_true rfl, Nat.le_of_ble_eq_true rfl⟩ rfl rfl rfl rfl (Nat.le_of_ble_eq_true rfl) d_K_init_58 ⟨Nat.le_of_ble_eq_true rfl, Nat.le_of_ble_eq_true rfl⟩ (fun Λ8 H locs hpo kp hlo hAΛ hP hS => ?_)
      obtain ⟨q, lq, r, lr, dd, ds, hnd, hfr, hV, hw1, hw2, hdd, hds⟩ := hpo
      have hg1 := hg
      have hm := kp _ hm (fun h => (hg.2.1 dv (by simp)).2 h.symm)
      have hT := kp _ hT hdlt
      have hR := kp _ hR hdrw
      have hg := gn_add (Λ1 := Λ8) (l2 := [q, lq, r, lr, dd, ds]) hg (fun x hx => by
        by_cases hxl : x.1 = dv
        · exact ⟨_, hxl ▸ hV⟩
        · exact ⟨x.2, kp _ hx hxl⟩) (fun x h1 h2 hx => kp _ hx (hg1.2.2.1 dv (by simp) x h1)) hnd (fun b hb => ⟨by
          simp only [List.mem_cons, List.not_mem_nil, or_false] at hb
          rcases hb with rfl | rfl | rfl | rfl | rfl | rfl
          · exact ⟨_, hw1.1⟩
          · exact ⟨_, hw1.2⟩
          · exact ⟨_, hw2.1⟩
          · exact ⟨_, hw2.2⟩
          · exact ⟨_, hdd⟩
          · exact ⟨_, hds⟩, hfr b hb⟩)
      refine gc_putF (ty := .object "LimbDesk$Divider") hx hb htw i_K tf_K tf_K_ok n_K hown hK hP hlo hAΛ hS hm rfl 2 (by decide) rfl fK_28 rfl hin rfl (by decide +kernel) rfl rfl d_K_init_61 (fun Λ9 H locs kp hm hlo hAΛ hP hS => ?_)
      have hm : (a, (Sum.inl (3, [some (some qa), some (some lt), some (some dv), some none, some none, some none]) : gs_S)) ∈ Λ9 := hm
      have hT := kp _ hT (hg.2.1 lt (by simp)).2
      have hR := kp _ hR (hg.2.1 rw (by simp)).2
      have hV := kp _ hV (hg.2.1 dv (by simp)).2
      have hdd := kp _ hdd (hg.2.1 dd (by simp)).2
      have hds := kp _ hds (hg.2.1 ds (by simp)).2
      have hw1 : gW cI Λ9 q lq 135 := ⟨kp _ hw1.1 (hg.2.1 q (by simp)).2, kp _ hw1.2 (hg.2.1 lq (by simp)).2⟩
      have hw2 : gW cI Λ9 r lr 135 := ⟨kp _ hw2.1 (hg.2.1 r (by simp)).2, kp _ hw2.2 (hg.2.1 lr (by simp)).2⟩
      have hg := gn_keep hg (fun _ _ h => h) kp hm
      refine lv_aload_n hx hb d_K_init_64 rfl (lv_at hl 0 rfl) ?_
      refine gz_whole hx hb hml hown htw hK hP hlo hAΛ hS hA hl.1 cK_9 mK_15 135 3 (by decide) d_K_init_65 d_K_init_68 (fun H locs cells slots st k => lv_sipush (v := nI 135) hx hb d_K_init_69 (by decide) k) d_K_init_72 (Nat.le_of_ble_eq_true rfl) ⟨Nat.le_of_ble_eq_true rfl, Nat.le_of_ble_eq_true rfl⟩ (Nat.le_of_ble_eq_true rfl) (Nat.le_of_ble_eq_true rfl) (fun o lo ΛA H locs ex n1 hw5 hlo hAΛ hP hS => ?_)
      have hg := gn_add (l2 := [o, lo]) hg (fun x hx => ⟨x.2, (ex x hx).1⟩) (fun x _ _ hx => (ex x hx).1) (by simp [n1]) (fun b hb => by
        simp only [List.mem_cons, List.not_mem_nil, or_false] at hb
        rcases hb with rfl | rfl
        · exact ⟨⟨_, hw5.1⟩, fun x hx => (ex x hx).2.1⟩
        · exact ⟨⟨_, hw5.2⟩, fun x hx => (ex x hx).2.2⟩)
      have hm := (ex _ hm).1
      have hT := (ex _ hT).1
      have hR := (ex _ hR).1
      have hV := (ex _ hV).1
      have hdd := (ex _ hdd).1
      have hds := (ex _ hds).1
      have hw1 : gW cI ΛA q lq 135 := ⟨(ex _ hw1.1).1, (ex _ hw1.2).1⟩
      have hw2 : gW cI ΛA r lr 135 := ⟨(ex _ hw2.1).1, (ex _ hw2.2).1⟩
      refine gc_putF (ty := .object "LimbDesk$Whole") hx hb htw i_K tf_K tf_K_ok n_K hown hK hP hlo hAΛ hS hm rfl 3 (by decide) rfl fK_32 rfl hin rfl (by decide +kernel) rfl rfl d_K_init_75 (fun ΛB H locs kp hm hlo hAΛ hP hS => ?_)
      have hm : (a, (Sum.inl (3, [some (some qa), some (some lt), some (some dv), some (some o), some none, some none]) : gs_S)) ∈ ΛB := hm
      have hT := kp _ hT (hg.2.1 lt (by simp)).2
      have hR := kp _ hR (hg.2.1 rw (by simp)).2
      have hV := kp _ hV (hg.2.1 dv (by simp)).2
      have hdd := kp _ hdd (hg.2.1 dd (by simp)).2
      have hds := kp _ hds (hg.2.1 ds (by simp)).2
      have hw1 : gW cI ΛB q lq 135 := ⟨kp _ hw1.1 (hg.2.1 q (by simp)).2, kp _ hw1.2 (hg.2.1 lq (by simp)).2⟩
      have hw2 : gW cI ΛB r lr 135 := ⟨kp _ hw2.1 (hg.2.1 r (by simp)).2, kp _ hw2.2 (hg.2.1 lr (by simp)).2⟩
      have hw5 : gW cI ΛB o lo 135 := ⟨kp _ hw5.1 (hg.2.1 o (by simp)).2, kp _ hw5.2 (hg.2.1 lo (by simp)).2⟩
      have hg := gn_keep hg (fun _ _ h => h) kp hm
      refine lv_aload_n hx hb d_K_init_78 rfl (lv_at hl 0 rfl) ?_
      refine gz_whole hx hb hml hown htw hK hP hlo hAΛ hS hA hl.1 cK_9 mK_15 135 3 (by decide) d_K_init_79 d_K_init_82 (fun H locs cells slots st k => lv_sipush (v := nI 135) hx hb d_K_init_83 (by decide) k) d_K_init_86 (Nat.le_of_ble_eq_true rfl) ⟨Nat.le_of_ble_eq_true rfl, Nat.le_of_ble_eq_true rfl⟩ (Nat.le_of_ble_eq_true rfl) (Nat.le_of_ble_eq_true rfl) (fun pr lpr ΛC H locs ex n1 hw6 hlo hAΛ hP hS => ?_)
      have hg := gn_add (l2 := [pr, lpr]) hg (fun x hx => ⟨x.2, (ex x hx).1⟩) (fun x _ _ hx => (ex x hx).1) (by simp [n1]) (fun b hb => by
        simp only [List.mem_cons, List.not_mem_nil, or_false] at hb
        rcases hb with rfl | rfl
        · exact ⟨⟨_, hw6.1⟩, fun x hx => (ex x hx).2.1⟩
        · exact ⟨⟨_, hw6.2⟩, fun x hx => (ex x hx).2.2⟩)
      have hm := (ex _ hm).1
      have hT := (ex _ hT).1
      have hR := (ex _ hR).1
      have hV := (ex _ hV).1
      have hdd := (ex _ hdd).1
      have hds := (ex _ hds).1
      have hw1 : gW cI ΛC q lq 135 := ⟨(ex _ hw1.1).1, (ex _ hw1.2).1⟩
      have hw2 : gW cI ΛC r lr 135 := ⟨(ex _ hw2.1).1, (ex _ hw2.2).1⟩
      have hw5 : gW cI ΛC o lo 135 := ⟨(ex _ hw5.1).1, (ex _ hw5.2).1⟩
      refine gc_putF (ty := .object "LimbDesk$Whole") hx hb htw i_K tf_K tf_K_ok n_K hown hK hP hlo hAΛ hS hm rfl 4 (by decide) rfl fK_36 rfl hin rfl (by decide +kernel) rfl rfl d_K_init_89 (fun ΛE H locs kp hm hlo hAΛ hP hS => ?_)
      have hm : (a, (Sum.inl (3, [some (some qa), some (some lt), some (some dv), some (some o), some (some pr), some none]) : gs_S)) ∈ ΛE := hm
      have hT := kp _ hT (hg.2.1 lt (by simp)).2
      have hR := kp _ hR (hg.2.1 rw (by simp)).2
      have hV := kp _ hV (hg.2.1 dv (by simp)).2
      have hdd := kp _ hdd (hg.2.1 dd (by simp)).2
      have hds := kp _ hds (hg.2.1 ds (by simp)).2
      have hw1 : gW cI ΛE q lq 135 := ⟨kp _ hw1.1 (hg.2.1 q (by simp)).2, kp _ hw1.2 (hg.2.1 lq (by simp)).2⟩
      have hw2 : gW cI ΛE r lr 135 := ⟨kp _ hw2.1 (hg.2.1 r (by simp)).2, kp _ hw2.2 (hg.2.1 lr (by simp)).2⟩
      have hw5 : gW cI ΛE o lo 135 := ⟨kp _ hw5.1 (hg.2.1 o (by simp)).2, kp _ hw5.2 (hg.2.1 lo (by simp)).2⟩
      have hw6 : gW cI ΛE pr lpr 135 := ⟨kp _ hw6.1 (hg.2.1 pr (by simp)).2, kp _ hw6.2 (hg.2.1 lpr (by simp)).2⟩
      have hg := gn_keep hg (fun _ _ h => h) kp hm
      refine lv_aload_n hx hb d_K_init_92 rfl (lv_at hl 0 rfl) ?_
      refine gz_whole hx hb hml hown htw hK hP hlo hAΛ hS hA hl.1 cK_9 mK_15 67 2 (by decide) d_K_init_93 d_K_init_96 (fun H locs cells slots st k => lv_bipush (v := nI 67) hx hb d_K_init_97 (by decide) k) d_K_init_99 (Nat.le_of_ble_eq_true rfl) ⟨Nat.le_of_ble_eq_true rfl, Nat.le_of_ble_eq_true rfl⟩ (Nat.le_of_ble_eq_true rfl) (Nat.le_of_ble_eq_true rfl) (fun fa lfa ΛG H locs ex n1 hw7 hlo hAΛ hP hS => ?_)
      have hg := gn_add (l2 := [fa, lfa]) hg (fun x hx => ⟨x.2, (ex x hx).1⟩) (fun x _ _ hx => (ex x hx).1) (by simp [n1]) (fun b hb => by
        simp only [List.mem_cons, List.not_mem_nil, or_false] at hb
        rcases hb with rfl | rfl
        · exact ⟨⟨_, hw7.1⟩, fun x hx => (ex x hx).2.1⟩
        · exact ⟨⟨_, hw7.2⟩, fun x hx => (ex x hx).2.2⟩)
      have hm := (ex _ hm).1
      have hT := (ex _ hT).1
      have hR := (ex _ hR).1
      have hV := (ex _ hV).1
      have hdd := (ex _ hdd).1
      have hds := (ex _ hds).1
      have hw1 : gW cI ΛG q lq 135 := ⟨(ex _ hw1.1).1, (ex _ hw1.2).1⟩
      have hw2 : gW cI ΛG r lr 135 := ⟨(ex _ hw2.1).1, (ex _ hw2.2).1⟩
      have hw5 : gW cI ΛG o lo 135 := ⟨(ex _ hw5.1).1, (ex _ hw5.2).1⟩
      have hw6 : gW cI ΛG pr lpr 135 := ⟨(ex _ hw6.1).1, (ex _ hw6.2).1⟩
      refine gc_putF (ty := .object "LimbDesk$Whole") hx hb htw i_K tf_K tf_K_ok n_K hown hK hP hlo hAΛ hS hm rfl 5 (by decide) rfl fK_39 rfl hin rfl (by decide +kernel) rfl rfl d_K_init_102 (fun ΛH H locs kp hm hlo hAΛ hP hS => ?_)
      have hm : (a, (Sum.inl (3, [some (some qa), some (some lt), some (some dv), some (some o), some (some pr), some (some fa)]) : gs_S)) ∈ ΛH := hm
      have hT := kp _ hT (hg.2.1 lt (by simp)).2
      have hR := kp _ hR (hg.2.1 rw (by simp)).2
      have hV := kp _ hV (hg.2.1 dv (by simp)).2
      have hdd := kp _ hdd (hg.2.1 dd (by simp)).2
      have hds := kp _ hds (hg.2.1 ds (by simp)).2
      have hw1 : gW cI ΛH q lq 135 := ⟨kp _ hw1.1 (hg.2.1 q (by simp)).2, kp _ hw1.2 (hg.2.1 lq (by simp)).2⟩
      have hw2 : gW cI ΛH r lr 135 := ⟨kp _ hw2.1 (hg.2.1 r (by simp)).2, kp _ hw2.2 (hg.2.1 lr (by simp)).2⟩
      have hw5 : gW cI ΛH o lo 135 := ⟨kp _ hw5.1 (hg.2.1 o (by simp)).2, kp _ hw5.2 (hg.2.1 lo (by simp)).2⟩
      have hw6 : gW cI ΛH pr lpr 135 := ⟨kp _ hw6.1 (hg.2.1 pr (by simp)).2, kp _ hw6.2 (hg.2.1 lpr (by simp)).2⟩
      have hw7 : gW cI ΛH fa lfa 67 := ⟨kp _ hw7.1 (hg.2.1 fa (by simp)).2, kp _ hw7.2 (hg.2.1 lfa (by simp)).2⟩
      have hg : gn_ok Λe ΛH a [lt, rw, dv, q, lq, r, lr, dd, ds, o, lo, pr, lpr, fa, lfa] := gn_keep hg (fun _ _ h => h) kp hm
      have hqa : (qa, gRf cW 16 g) ∈ ΛH := hg.2.2.2.1 _ hI.2.2.1 (Ne.symm hI.2.1)
      obtain ⟨ΛZ, kz, hqz, hlo, hAΛ, hP⟩ := gc_same (g1 := fun j => some (gk_K a qa z [lt, rw, dv, q, lq, r, lr, dd, ds, o, lo, pr, lpr, fa, lfa] (7 + 2 * j))) hlo hAΛ hqa (fun j hj => by
        rw [hI.2.2.2.1 j hj]
        unfold gk_K
        rw [if_neg (by omega), if_neg (by omega), if_pos (by omega), show 7 + 2 * j - 7 = 2 * j by omega]) hP
      rw [← hQe]
      refine W.widen (k := 48) (n := 4067) (Nat.le_of_ble_eq_true rfl) (Nat.le_of_ble_eq_true rfl) ?_
      obtain ⟨j1, j2⟩ := gk_inj hI hg rfl
      refine gc_ret hx hb hr hlocks ⟨gk_K a qa z [lt, rw, dv, q, lq, r, lr, dd, ds, o, lo, pr, lpr, fa, lfa], rfl, j1, j2, gk_end (Λ := Λ) hI kz hg hqz hm hT hR hV hw1 hw2 hdd hds hw5 hw6 hw7⟩ (fun x hx ha => kz _ (hg.2.2.2.1 _ (hI.2.2.2.2.2.2.2.1 x hx ha) ha) (hI.2.2.2.2.2.2.2.2 x hx)) hlo hAΛ hP hK hS d_K_init_105
    | succ k ih =>
      intro r z g Λ3 H locs ls hrk hI hlo hAΛ hP hS hl
      refine lv_iload_n hx hb d_K_init_15 rfl (lv_at hl 1 rfl) ?_
      refine lv_bipush (v := nI 16) hx hb d_K_init_16 (by decide) ?_
      refine lv_icmp_ge (tgt := 42) hx hb d_K_init_18 (by decide) (fun h => absurd h (nI_ge (by omega) (by decide))) (fun _ => ?_)
      have hm := hI.1
      refine lv_aload_n hx hb d_K_init_21 rfl (lv_at hl 0 rfl) ?_
      refine gs_get (v := .ref qa) hx hb htw i_K hown hK hP hm rfl 0 (by decide) (htw _ fK_11) rfl d_K_init_22 ?_
      refine lv_iload_n hx hb d_K_init_25 rfl (lv_at hl 1 rfl) ?_
      refine gz_whole hx hb hml hown htw hK hP hlo hAΛ hS hA hl.1 cK_9 mK_15 67 2 (by decide) d_K_init_26 d_K_init_29 (fun H locs cells slots st k => lv_bipush (v := nI 67) hx hb d_K_init_30 (by decide) k) d_K_init_32 (Nat.le_of_ble_eq_true rfl) ⟨Nat.le_of_ble_eq_true rfl, Nat.le_of_ble_eq_true rfl⟩ (by show 1 + 2 * r + 2 ≤ 48; omega) (by show 16 + 70 * r + (3 + 67) ≤ 4067; omega) (fun q la Λ4 H locs ex n1 hw hlo hAΛ hP hS => ?_)
      refine gc_ast hx hb hK hP hlo hAΛ hS (ex _ hI.2.2.1).1 hw.1 (nI_in (by omega) (by decide)) d_K_init_35 (fun Λ5 H locs kp hqr hlo hAΛ hP hS => ?_)
      have hcl : (nI r).toNatClampNeg = r := nI_clamp (by omega)
      rw [hcl] at hqr
      have hI' := gk_step hI ex n1 hw kp hqr
      refine lv_iinc (v := nI (r + 1)) (lv' := [(1, .int (nI (r + 1))), (0, .ref a)]) hx hb d_K_init_36 hl (k := 1) rfl (nI_succ r).symm (by decide) rfl (fun ls hl => ?_)
      refine lv_goto (tgt := 15) hx hb d_K_init_39 (by decide) ?_
      refine W.widen (k := 1 + 2 * (r + 1)) (n := 16 + 70 * (r + 1)) (by omega) (by omega) ?_
      exact ih (r + 1) _ _ Λ5 _ _ _ (by omega) hI' hlo hAΛ hP hS (lv_sub hl [1, 0] rfl)
  exact loop 16 0 _ _ Λ2 _ _ _ rfl hI hlo hAΛ hP hS (lv_sub hl [1, 0] rfl)
end CT4
