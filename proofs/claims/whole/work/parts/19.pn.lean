/-! methods that need what a throw needs -/
def gw_PN (D : va_G) (cI cB cJ cW : ClassId) (Λ : gs_L) (L : Nat → Nat → Int64) (F A : gm_M) (U : State) : Prop := gw_P D cI cB cJ cW Λ L F A U ∧ gx_N (gw_A Λ) U
section GN
variable {p : Program} {l : Launch} {e : Env} {R : Room} {s : State} {m : MethodId} {args : Array Value} {below : List Frame} {meth : Method} {c : Code} {H : Heap} {locs : List Loc} {Q : State → Prop}
variable {cc bytes : ByteArray} {pc nL maxL index n : Nat} {ls : Array Slot} {rest st0 As : List Value} {D : va_G} {b : Nat} {Λ : gs_L} {F A : gm_M} {L : Nat → Nat → Int64} {cI cB cJ cW : ClassId} {y : MethodName} {own : String} {ret : Option FieldType} {rm : Room}
theorem gx_blind : FrameBlind (va_Pc As (gw_PN D cI cB cJ cW Λ L F A)) := by
  intro a U g mk q
  obtain ⟨q0, ⟨qP, qK⟩, qN⟩ := q
  exact ⟨q0, ⟨qP, va_K.moved (u := U) (U := U.calling g mk a) (Vm.Alike.refl U.vm) qK⟩, gx_N.step (s := U) (U := U.calling g mk a) (State.WarmedH.refl U) (fun _ _ _ => rfl) qN⟩
theorem gx_pre (hP : va_P D gcls (gs_ws Λ F A L) H) (hK : va_K D gcls (gtys cI cB cJ cW) s) (hS : va_S (gw_A Λ) s.heap H locs) (hN : gx_N (gw_A Λ) s) : ∀ U : State, U.heap = H → s.WarmedH U.vm → va_Pc As (gw_PN D cI cB cJ cW Λ L F A) As.toArray U :=
  fun U hU hW => ⟨rfl, ⟨by rw [hU]; exact hP, va_K.moved hW.alike hK⟩, gx_N.step hW (by rw [hU]; exact hS.2.1) hN⟩
theorem gn_runV (hexec : p.tables.exec = Jvm.exec) (hb : c.code = cc) (hml : c.maxLocals = nL) (hown : s.vm.findClass own = some m.cls) (htw : ∀ w ∈ gw_WS, w.before args s = true) {Pc : Array Value → State → Prop} (hbl : FrameBlind Pc) (hpre : ∀ U : State, U.heap = H → s.WarmedH U.vm → Pc (Value.ref b :: As).toArray U) (hK : va_K D gcls (gtys cI cB cJ cW) s) (hP : va_P D gcls (gs_ws Λ F A L) H) (hsize : ls.size = nL) {Qc : Array Value → State → Outcome → State → Prop}
    (hM : Met l y (Cond.code y bytes maxL ret :: gw_WS) rm Pc Qc 0 0 (gw_A Λ)) (hy : gw_OKV y bytes maxL ret n) (hl : Cond.methodLink own index y ∈ gw_WS) (hR : rm.frames + 1 ≤ R.frames ∧ 8 + (maxL + 11) + rm.locals ≤ R.locals) (hrc : rm.cells = 0) (hrs : rm.slots = 0)
    {ci N : Nat} {T : u_T} {rs : List gs_R} (hm : (b, Sum.inl (ci, rs)) ∈ Λ) (hc : gcls[ci]? = some (y.cls, T, N)) (hn : As.length = n) (hst : st0 = As.reverse ++ .ref b :: rest) (hroom : (rest.map fun v => v.category).sum ≤ 8) (hdg : decode cc pc = .ok (.invokevirtual index, 3)) :
    va_Run p l e R s m args below meth c H locs 0 0 0 0 (F0 m pc ls st0) rest (Qc (Value.ref b :: As).toArray) (gw_A Λ) := by
  obtain ⟨q0, -, hw⟩ := gs_ws_at (F := F) (A := A) (L := L) hm
  exact va_runV (C := y.cls) (As := As) (rest := rest) (Ts := gw_WS) ⟨hexec, hb, hml, hown, htw⟩ hM ⟨gw_cb htw hy.1 hl hR hrc hrs, htw _ hy.2.1, htw _ hy.2.2⟩ ⟨hbl, va_recv hK hP hc hw, hpre⟩ rfl hn hsize hst (lv_room hroom) hdg ⟨Nat.zero_le _, Nat.zero_le _⟩
/-- charAt of the digits -/
theorem gs_charAt (hexec : p.tables.exec = Jvm.exec) (hb : c.code = cc) (hml : c.maxLocals = nL) (hown : s.vm.findClass "LimbDesk$Letters" = some m.cls) (htw : ∀ w ∈ gw_WS, w.before args s = true) (hS : va_S (gw_A Λ) s.heap H locs) (hsize : ls.size = nL) {q v : Nat} (hq : gx_Sq q v (gw_A Λ) s) {i : Int32} (hi : vp_in i 36) (hR : 4 ≤ R.frames ∧ 85 ≤ R.locals) (hroom : (rest.map fun v => v.category).sum ≤ 8) (hdg : decode cc pc = .ok (.invokevirtual 77, 3))
    (kk : W p l e R s m args below meth c H locs 0 0 Q (F0 m (pc + 3) ls (.int (gx_dg i.toNatClampNeg) :: rest))) : W p l e R s m args below meth c H locs 0 0 Q (F0 m pc ls (.int i :: .ref q :: rest)) := by
  obtain ⟨cellO, o1, o2, o3, -⟩ := hq.1.kept hS.2.1
  exact gp_go (gp_runV (As := [.int i]) (rest := rest) hexec hb hml hown htw gp_blindS (gp_preS hS hq) hsize ⟨cellO, o1, o2, o3⟩ (w_chA q v i hi) k_chA ml_1 ⟨hR.1, hR.2⟩ rfl rfl rfl rfl hroom hdg) kk
end GN
