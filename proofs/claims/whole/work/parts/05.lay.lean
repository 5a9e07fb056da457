/-! the layout of the desk and of the reference: addresses by number (K): 0 the desk, 1 its registers, 2 the letters, 3 their row, 4 the divider, 5 dividend, 6 divisor, 7 + 2 w and 8 + 2 w: the number w and its limbs (0..15 registers, 16 quotient, 17 rest, 18 outcome, 19 product, 20 factor); 49 the reference, 50..62 its arrays -/
def gN (w : Nat) : Nat := if 16 ≤ w ∧ w < 20 then 135 else 67
def gK_l (cI cB cW : ClassId) (K : Nat → Nat) : gs_L := [(K 0, .inl (3, [some (some (K 1)), some (some (K 2)), some (some (K 4)), some (some (K 43)), some (some (K 45)), some (some (K 47))])), (K 1, gRf cW 16 (fun j => some (K (7 + 2 * j)))), (K 2, .inl (2, [some (some (K 3)), none])), (K 3, gI cB 2100), (K 4, .inl (1, [some (some (K 39)), some (some (K 41)), some (some (K 5)), some (some (K 6))])), (K 5, gI cI 135), (K 6, gI cI 68)] ++ (List.range 21).flatMap (fun w => [(K (7 + 2 * w), gWo (K (8 + 2 * w))), (K (8 + 2 * w), gI cI (gN w))])
def gK (cI cB cW : ClassId) (Λ : gs_L) (K : Nat → Nat) : Prop := ∀ q ∈ gK_l cI cB cW K, q ∈ Λ
section GL
variable {cI cB cW : ClassId} {Λ : gs_L} {K : Nat → Nat}
theorem gK_0 (h : gK cI cB cW Λ K) : (K 0, (Sum.inl (3, [some (some (K 1)), some (some (K 2)), some (some (K 4)), some (some (K 43)), some (some (K 45)), some (some (K 47))]) : gs_S)) ∈ Λ := h _ (List.mem_append_left _ (List.mem_of_getElem? (i := 0) rfl))
theorem gK_1 (h : gK cI cB cW Λ K) : (K 1, gRf cW 16 (fun j => some (K (7 + 2 * j)))) ∈ Λ := h _ (List.mem_append_left _ (List.mem_of_getElem? (i := 1) rfl))
theorem gK_2 (h : gK cI cB cW Λ K) : (K 2, (Sum.inl (2, [some (some (K 3)), none]) : gs_S)) ∈ Λ := h _ (List.mem_append_left _ (List.mem_of_getElem? (i := 2) rfl))
theorem gK_3 (h : gK cI cB cW Λ K) : (K 3, gI cB 2100) ∈ Λ := h _ (List.mem_append_left _ (List.mem_of_getElem? (i := 3) rfl))
theorem gK_4 (h : gK cI cB cW Λ K) : (K 4, (Sum.inl (1, [some (some (K 39)), some (some (K 41)), some (some (K 5)), some (some (K 6))]) : gs_S)) ∈ Λ := h _ (List.mem_append_left _ (List.mem_of_getElem? (i := 4) rfl))
theorem gK_5 (h : gK cI cB cW Λ K) : (K 5, gI cI 135) ∈ Λ := h _ (List.mem_append_left _ (List.mem_of_getElem? (i := 5) rfl))
theorem gK_6 (h : gK cI cB cW Λ K) : (K 6, gI cI 68) ∈ Λ := h _ (List.mem_append_left _ (List.mem_of_getElem? (i := 6) rfl))
theorem gK_w (h : gK cI cB cW Λ K) (w : Nat) (hw : w < 21) : gW cI Λ (K (7 + 2 * w)) (K (8 + 2 * w)) (gN w) := by
  have g : ∀ q ∈ ([(K (7 + 2 * w), gWo (K (8 + 2 * w))), (K (8 + 2 * w), gI cI (gN w))] : gs_L), q ∈ Λ := fun q hq => h q (List.mem_append_right _ (List.mem_flatMap.mpr ⟨w, List.mem_range.mpr hw, hq⟩))
  exact ⟨g _ List.mem_cons_self, g _ (List.mem_cons_of_mem _ List.mem_cons_self)⟩
theorem gK_r (h : gK cI cB cW Λ K) {i : Int32} (hi : vp_in i 16) : gW cI Λ (K (7 + 2 * i.toNatClampNeg)) (K (8 + 2 * i.toNatClampNeg)) 67 := by
  have hlt : i.toNatClampNeg < 16 := Nat.not_le.mp fun q => hi (Or.inr q)
  have g := gK_w h i.toNatClampNeg (by omega)
  rw [show gN i.toNatClampNeg = 67 from if_neg (by omega)] at g
  exact g
theorem gK_w16 (h : gK cI cB cW Λ K) : gW cI Λ (K 39) (K 40) 135 := gK_w h 16 (by decide)
theorem gK_w17 (h : gK cI cB cW Λ K) : gW cI Λ (K 41) (K 42) 135 := gK_w h 17 (by decide)
theorem gK_w18 (h : gK cI cB cW Λ K) : gW cI Λ (K 43) (K 44) 135 := gK_w h 18 (by decide)
theorem gK_w19 (h : gK cI cB cW Λ K) : gW cI Λ (K 45) (K 46) 135 := gK_w h 19 (by decide)
theorem gK_w20 (h : gK cI cB cW Λ K) : gW cI Λ (K 47) (K 48) 67 := gK_w h 20 (by decide)
def gMd_l (cI : ClassId) (K : Nat → Nat) : gs_L := [(K 49, .inl (4, [none, none, some (some (K 50)), some (some (K 51)), some (some (K 52)), some (some (K 53)), some (some (K 54)), some (some (K 55)), some (some (K 56)), some (some (K 57)), some (some (K 58)), some (some (K 59)), none, some (some (K 60)), some (some (K 61)), some (some (K 62))])), (K 50, gI cI 2064), (K 51, gI cI 16), (K 52, gI cI 16), (K 53, gI cI 2100), (K 54, gI cI 9000), (K 55, gI cI 9000), (K 56, gI cI 9000), (K 57, gI cI 9000), (K 58, gI cI 9000), (K 59, gI cI 9000), (K 60, gI cI 9000), (K 61, gI cI 129), (K 62, gI cI 129)]
def gMd (cI : ClassId) (Λ : gs_L) (K : Nat → Nat) : Prop := ∀ q ∈ gMd_l cI K, q ∈ Λ
theorem gMd_0 (h : gMd cI Λ K) : (K 49, (Sum.inl (4, [none, none, some (some (K 50)), some (some (K 51)), some (some (K 52)), some (some (K 53)), some (some (K 54)), some (some (K 55)), some (some (K 56)), some (some (K 57)), some (some (K 58)), some (some (K 59)), none, some (some (K 60)), some (some (K 61)), some (some (K 62))]) : gs_S)) ∈ Λ := h _ (List.mem_of_getElem? (i := 0) rfl)
theorem gMd_50 (h : gMd cI Λ K) : (K 50, gI cI 2064) ∈ Λ := h _ (List.mem_of_getElem? (i := 1) rfl)
theorem gMd_51 (h : gMd cI Λ K) : (K 51, gI cI 16) ∈ Λ := h _ (List.mem_of_getElem? (i := 2) rfl)
theorem gMd_52 (h : gMd cI Λ K) : (K 52, gI cI 16) ∈ Λ := h _ (List.mem_of_getElem? (i := 3) rfl)
theorem gMd_53 (h : gMd cI Λ K) : (K 53, gI cI 2100) ∈ Λ := h _ (List.mem_of_getElem? (i := 4) rfl)
theorem gMd_54 (h : gMd cI Λ K) : (K 54, gI cI 9000) ∈ Λ := h _ (List.mem_of_getElem? (i := 5) rfl)
theorem gMd_55 (h : gMd cI Λ K) : (K 55, gI cI 9000) ∈ Λ := h _ (List.mem_of_getElem? (i := 6) rfl)
theorem gMd_56 (h : gMd cI Λ K) : (K 56, gI cI 9000) ∈ Λ := h _ (List.mem_of_getElem? (i := 7) rfl)
theorem gMd_57 (h : gMd cI Λ K) : (K 57, gI cI 9000) ∈ Λ := h _ (List.mem_of_getElem? (i := 8) rfl)
theorem gMd_58 (h : gMd cI Λ K) : (K 58, gI cI 9000) ∈ Λ := h _ (List.mem_of_getElem? (i := 9) rfl)
theorem gMd_59 (h : gMd cI Λ K) : (K 59, gI cI 9000) ∈ Λ := h _ (List.mem_of_getElem? (i := 10) rfl)
theorem gMd_60 (h : gMd cI Λ K) : (K 60, gI cI 9000) ∈ Λ := h _ (List.mem_of_getElem? (i := 11) rfl)
theorem gMd_61 (h : gMd cI Λ K) : (K 61, gI cI 129) ∈ Λ := h _ (List.mem_of_getElem? (i := 12) rfl)
theorem gMd_62 (h : gMd cI Λ K) : (K 62, gI cI 129) ∈ Λ := h _ (List.mem_of_getElem? (i := 13) rfl)
end GL
