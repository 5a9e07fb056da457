section
-- ===== PART A: goes FIRST, ahead of the names: the tables' words, and 'selects' of the private methods out of them =====
/-- a private method of a class that the tables say can be made, by its rows of tables_1 -/
def lw_okq (q : MethodName × Nat) : Prop := (q.1.cls ≠ "java/lang/invoke/MethodHandle" ∧ q.1.cls ≠ "java/lang/invoke/VarHandle") ∧ Cond.instantiable q.1.cls q.2 ∈ tables_1 ∧ Cond.privateMethod q.1 ∈ tables_1 ∧ Cond.instanceMethod q.1 ∈ tables_1
theorem lw_p0 : lw_okq (⟨"java/lang/Throwable", "fillInStackTrace", "(I)Ljava/lang/Throwable;"⟩, 6) := ⟨⟨by decide +kernel, by decide +kernel⟩, List.mem_of_getElem? (i := 161) (by decide +kernel), List.mem_of_getElem? (i := 159) (by decide +kernel), List.mem_of_getElem? (i := 160) (by decide +kernel)⟩
theorem lw_p1 : lw_okq (⟨"LimbDesk$Letters", "put", "(I)V"⟩, 2) := ⟨⟨by decide +kernel, by decide +kernel⟩, List.mem_of_getElem? (i := 51) (by decide +kernel), List.mem_of_getElem? (i := 245) (by decide +kernel), List.mem_of_getElem? (i := 246) (by decide +kernel)⟩
theorem lw_p2 : lw_okq (⟨"LimbDesk$Letters", "haveMinus", "()Z"⟩, 2) := ⟨⟨by decide +kernel, by decide +kernel⟩, List.mem_of_getElem? (i := 51) (by decide +kernel), List.mem_of_getElem? (i := 264) (by decide +kernel), List.mem_of_getElem? (i := 265) (by decide +kernel)⟩
theorem lw_p3 : lw_okq (⟨"LimbDesk", "keep", "(LLimbDesk$Whole;I)V"⟩, 6) := ⟨⟨by decide +kernel, by decide +kernel⟩, List.mem_of_getElem? (i := 19) (by decide +kernel), List.mem_of_getElem? (i := 283) (by decide +kernel), List.mem_of_getElem? (i := 284) (by decide +kernel)⟩
theorem lw_p4 : lw_okq (⟨"LimbDesk$Letters", "putDigits", "(III)V"⟩, 2) := ⟨⟨by decide +kernel, by decide +kernel⟩, List.mem_of_getElem? (i := 51) (by decide +kernel), List.mem_of_getElem? (i := 335) (by decide +kernel), List.mem_of_getElem? (i := 336) (by decide +kernel)⟩
theorem lw_p5 : lw_okq (⟨"LimbDesk$Letters", "turnRound", "()V"⟩, 2) := ⟨⟨by decide +kernel, by decide +kernel⟩, List.mem_of_getElem? (i := 51) (by decide +kernel), List.mem_of_getElem? (i := 380) (by decide +kernel), List.mem_of_getElem? (i := 381) (by decide +kernel)⟩
theorem lw_p6 : lw_okq (⟨"LimbDesk$Whole", "addSizes", "(LLimbDesk$Whole;LLimbDesk$Whole;)V"⟩, 3) := ⟨⟨by decide +kernel, by decide +kernel⟩, List.mem_of_getElem? (i := 28) (by decide +kernel), List.mem_of_getElem? (i := 410) (by decide +kernel), List.mem_of_getElem? (i := 411) (by decide +kernel)⟩
theorem lw_p7 : lw_okq (⟨"LimbDesk$Whole", "subtractSizes", "(LLimbDesk$Whole;LLimbDesk$Whole;)V"⟩, 3) := ⟨⟨by decide +kernel, by decide +kernel⟩, List.mem_of_getElem? (i := 28) (by decide +kernel), List.mem_of_getElem? (i := 425) (by decide +kernel), List.mem_of_getElem? (i := 426) (by decide +kernel)⟩
theorem lw_p8 : lw_okq (⟨"LimbDesk$Whole", "addRow", "(JLLimbDesk$Whole;I)V"⟩, 3) := ⟨⟨by decide +kernel, by decide +kernel⟩, List.mem_of_getElem? (i := 28) (by decide +kernel), List.mem_of_getElem? (i := 434) (by decide +kernel), List.mem_of_getElem? (i := 435) (by decide +kernel)⟩
theorem lw_p9 : lw_okq (⟨"LimbDesk$Divider", "digitAt", "(II)I"⟩, 4) := ⟨⟨by decide +kernel, by decide +kernel⟩, List.mem_of_getElem? (i := 67) (by decide +kernel), List.mem_of_getElem? (i := 468) (by decide +kernel), List.mem_of_getElem? (i := 469) (by decide +kernel)⟩
theorem lw_p10 : lw_okq (⟨"LimbDesk$Divider", "guessAt", "(II)J"⟩, 4) := ⟨⟨by decide +kernel, by decide +kernel⟩, List.mem_of_getElem? (i := 67) (by decide +kernel), List.mem_of_getElem? (i := 472) (by decide +kernel), List.mem_of_getElem? (i := 473) (by decide +kernel)⟩
theorem lw_p11 : lw_okq (⟨"LimbDesk$Divider", "takeAway", "(JII)Z"⟩, 4) := ⟨⟨by decide +kernel, by decide +kernel⟩, List.mem_of_getElem? (i := 67) (by decide +kernel), List.mem_of_getElem? (i := 480) (by decide +kernel), List.mem_of_getElem? (i := 481) (by decide +kernel)⟩
theorem lw_p12 : lw_okq (⟨"LimbDesk$Divider", "giveBack", "(II)V"⟩, 4) := ⟨⟨by decide +kernel, by decide +kernel⟩, List.mem_of_getElem? (i := 67) (by decide +kernel), List.mem_of_getElem? (i := 484) (by decide +kernel), List.mem_of_getElem? (i := 485) (by decide +kernel)⟩
theorem lw_p13 : lw_okq (⟨"LimbDesk$Divider", "lowerRest", "(II)V"⟩, 4) := ⟨⟨by decide +kernel, by decide +kernel⟩, List.mem_of_getElem? (i := 67) (by decide +kernel), List.mem_of_getElem? (i := 489) (by decide +kernel), List.mem_of_getElem? (i := 490) (by decide +kernel)⟩
theorem lw_p14 : lw_okq (⟨"LimbDesk$Whole", "hasOnesUnder", "(II)Z"⟩, 3) := ⟨⟨by decide +kernel, by decide +kernel⟩, List.mem_of_getElem? (i := 28) (by decide +kernel), List.mem_of_getElem? (i := 521) (by decide +kernel), List.mem_of_getElem? (i := 522) (by decide +kernel)⟩
theorem lw_p15 : lw_okq (⟨"LimbDesk$Whole", "lowestLimb", "()I"⟩, 3) := ⟨⟨by decide +kernel, by decide +kernel⟩, List.mem_of_getElem? (i := 28) (by decide +kernel), List.mem_of_getElem? (i := 525) (by decide +kernel), List.mem_of_getElem? (i := 526) (by decide +kernel)⟩
def lw_privs_1 : List (MethodName × Nat) := [(⟨"java/lang/Throwable", "fillInStackTrace", "(I)Ljava/lang/Throwable;"⟩, 6), (⟨"LimbDesk$Letters", "put", "(I)V"⟩, 2), (⟨"LimbDesk$Letters", "haveMinus", "()Z"⟩, 2), (⟨"LimbDesk", "keep", "(LLimbDesk$Whole;I)V"⟩, 6), (⟨"LimbDesk$Letters", "putDigits", "(III)V"⟩, 2), (⟨"LimbDesk$Letters", "turnRound", "()V"⟩, 2), (⟨"LimbDesk$Whole", "addSizes", "(LLimbDesk$Whole;LLimbDesk$Whole;)V"⟩, 3), (⟨"LimbDesk$Whole", "subtractSizes", "(LLimbDesk$Whole;LLimbDesk$Whole;)V"⟩, 3), (⟨"LimbDesk$Whole", "addRow", "(JLLimbDesk$Whole;I)V"⟩, 3), (⟨"LimbDesk$Divider", "digitAt", "(II)I"⟩, 4), (⟨"LimbDesk$Divider", "guessAt", "(II)J"⟩, 4), (⟨"LimbDesk$Divider", "takeAway", "(JII)Z"⟩, 4), (⟨"LimbDesk$Divider", "giveBack", "(II)V"⟩, 4), (⟨"LimbDesk$Divider", "lowerRest", "(II)V"⟩, 4), (⟨"LimbDesk$Whole", "hasOnesUnder", "(II)Z"⟩, 3), (⟨"LimbDesk$Whole", "lowestLimb", "()I"⟩, 3)]
theorem lw_r1 : ∀ q ∈ lw_privs_1, lw_okq q := List.forall_mem_cons.mpr ⟨lw_p0, List.forall_mem_cons.mpr ⟨lw_p1, List.forall_mem_cons.mpr ⟨lw_p2, List.forall_mem_cons.mpr ⟨lw_p3, List.forall_mem_cons.mpr ⟨lw_p4, List.forall_mem_cons.mpr ⟨lw_p5, List.forall_mem_cons.mpr ⟨lw_p6, List.forall_mem_cons.mpr ⟨lw_p7, List.forall_mem_cons.mpr ⟨lw_p8, List.forall_mem_cons.mpr ⟨lw_p9, List.forall_mem_cons.mpr ⟨lw_p10, List.forall_mem_cons.mpr ⟨lw_p11, List.forall_mem_cons.mpr ⟨lw_p12, List.forall_mem_cons.mpr ⟨lw_p13, List.forall_mem_cons.mpr ⟨lw_p14, List.forall_mem_cons.mpr ⟨lw_p15, fun _ h => absurd h List.not_mem_nil⟩⟩⟩⟩⟩⟩⟩⟩⟩⟩⟩⟩⟩⟩⟩⟩
theorem lw_p16 : lw_okq (⟨"LimbDesk$Whole", "endlessLimb", "(II)I"⟩, 3) := ⟨⟨by decide +kernel, by decide +kernel⟩, List.mem_of_getElem? (i := 28) (by decide +kernel), List.mem_of_getElem? (i := 541) (by decide +kernel), List.mem_of_getElem? (i := 542) (by decide +kernel)⟩
theorem lw_p17 : lw_okq (⟨"LimbDesk", "multiplyOutcome", "(LLimbDesk$Whole;)V"⟩, 6) := ⟨⟨by decide +kernel, by decide +kernel⟩, List.mem_of_getElem? (i := 19) (by decide +kernel), List.mem_of_getElem? (i := 556) (by decide +kernel), List.mem_of_getElem? (i := 557) (by decide +kernel)⟩
theorem lw_p18 : lw_okq (⟨"LimbDesk", "raiseWithin", "(LLimbDesk$Whole;LLimbDesk$Whole;LLimbDesk$Whole;)V"⟩, 6) := ⟨⟨by decide +kernel, by decide +kernel⟩, List.mem_of_getElem? (i := 19) (by decide +kernel), List.mem_of_getElem? (i := 567) (by decide +kernel), List.mem_of_getElem? (i := 568) (by decide +kernel)⟩
theorem lw_p19 : lw_okq (⟨"LimbDesk", "reduceProduct", "(LLimbDesk$Whole;)V"⟩, 6) := ⟨⟨by decide +kernel, by decide +kernel⟩, List.mem_of_getElem? (i := 19) (by decide +kernel), List.mem_of_getElem? (i := 572) (by decide +kernel), List.mem_of_getElem? (i := 573) (by decide +kernel)⟩
theorem lw_p20 : lw_okq (⟨"LimbDeskModel", "fails", "(ZI)Z"⟩, 16) := ⟨⟨by decide +kernel, by decide +kernel⟩, List.mem_of_getElem? (i := 637) (by decide +kernel), List.mem_of_getElem? (i := 706) (by decide +kernel), List.mem_of_getElem? (i := 707) (by decide +kernel)⟩
theorem lw_p21 : lw_okq (⟨"LimbDeskModel", "size0", "(I)I"⟩, 16) := ⟨⟨by decide +kernel, by decide +kernel⟩, List.mem_of_getElem? (i := 637) (by decide +kernel), List.mem_of_getElem? (i := 710) (by decide +kernel), List.mem_of_getElem? (i := 711) (by decide +kernel)⟩
theorem lw_p22 : lw_okq (⟨"LimbDeskModel", "load", "(I[I)I"⟩, 16) := ⟨⟨by decide +kernel, by decide +kernel⟩, List.mem_of_getElem? (i := 637) (by decide +kernel), List.mem_of_getElem? (i := 714) (by decide +kernel), List.mem_of_getElem? (i := 715) (by decide +kernel)⟩
theorem lw_p23 : lw_okq (⟨"LimbDeskModel", "keep", "(II[III)Z"⟩, 16) := ⟨⟨by decide +kernel, by decide +kernel⟩, List.mem_of_getElem? (i := 637) (by decide +kernel), List.mem_of_getElem? (i := 722) (by decide +kernel), List.mem_of_getElem? (i := 723) (by decide +kernel)⟩
theorem lw_p24 : lw_okq (⟨"LimbDeskModel", "divided", "([II[II[I)I"⟩, 16) := ⟨⟨by decide +kernel, by decide +kernel⟩, List.mem_of_getElem? (i := 637) (by decide +kernel), List.mem_of_getElem? (i := 773) (by decide +kernel), List.mem_of_getElem? (i := 774) (by decide +kernel)⟩
theorem lw_p25 : lw_okq (⟨"LimbDeskModel", "low64", "(I)J"⟩, 16) := ⟨⟨by decide +kernel, by decide +kernel⟩, List.mem_of_getElem? (i := 637) (by decide +kernel), List.mem_of_getElem? (i := 812) (by decide +kernel), List.mem_of_getElem? (i := 813) (by decide +kernel)⟩
def lw_privs_2 : List (MethodName × Nat) := [(⟨"LimbDesk$Whole", "endlessLimb", "(II)I"⟩, 3), (⟨"LimbDesk", "multiplyOutcome", "(LLimbDesk$Whole;)V"⟩, 6), (⟨"LimbDesk", "raiseWithin", "(LLimbDesk$Whole;LLimbDesk$Whole;LLimbDesk$Whole;)V"⟩, 6), (⟨"LimbDesk", "reduceProduct", "(LLimbDesk$Whole;)V"⟩, 6), (⟨"LimbDeskModel", "fails", "(ZI)Z"⟩, 16), (⟨"LimbDeskModel", "size0", "(I)I"⟩, 16), (⟨"LimbDeskModel", "load", "(I[I)I"⟩, 16), (⟨"LimbDeskModel", "keep", "(II[III)Z"⟩, 16), (⟨"LimbDeskModel", "divided", "([II[II[I)I"⟩, 16), (⟨"LimbDeskModel", "low64", "(I)J"⟩, 16)]
theorem lw_r2 : ∀ q ∈ lw_privs_2, lw_okq q := List.forall_mem_cons.mpr ⟨lw_p16, List.forall_mem_cons.mpr ⟨lw_p17, List.forall_mem_cons.mpr ⟨lw_p18, List.forall_mem_cons.mpr ⟨lw_p19, List.forall_mem_cons.mpr ⟨lw_p20, List.forall_mem_cons.mpr ⟨lw_p21, List.forall_mem_cons.mpr ⟨lw_p22, List.forall_mem_cons.mpr ⟨lw_p23, List.forall_mem_cons.mpr ⟨lw_p24, List.forall_mem_cons.mpr ⟨lw_p25, fun _ h => absurd h List.not_mem_nil⟩⟩⟩⟩⟩⟩⟩⟩⟩⟩
def lw_privs : List (MethodName × Nat) := lw_privs_1 ++ (lw_privs_2)
def lw_tbl : List Cond := k2_sels lw_privs ++ tables_1
theorem lw_privs_ok : ∀ q ∈ lw_privs, lw_okq q := by
  show ∀ q ∈ lw_privs_1 ++ (lw_privs_2), lw_okq q
  exact List.forall_mem_append.mpr ⟨lw_r1, lw_r2⟩
/-! the classes: names, fields, types -/
def R_W : String := "LimbDesk$Whole"
def F_W : u_T := fun k => match k with
  | 0 => ("LimbDesk$Whole", "limbs", "[I", true)
  | 1 => ("LimbDesk$Whole", "used", "I", false)
  | _ => ("LimbDesk$Whole", "below", "Z", false)
def tf_W : Nat → FieldType := fun k => match k with
  | 0 => .array .int
  | 1 => .int
  | _ => .boolean
theorem n_W : ∀ a, a < 3 → ∀ b, b < 3 → a ≠ b → (F_W a).2.1 ≠ (F_W b).2.1 := by decide +kernel
theorem tf_W_ok : ∀ k, k < 3 → parseFieldDescriptor (F_W k).2.2.1 = some (tf_W k) := by decide +kernel
def R_D : String := "LimbDesk$Divider"
def F_D : u_T := fun k => match k with
  | 0 => ("LimbDesk$Divider", "quotient", "LLimbDesk$Whole;", true)
  | 1 => ("LimbDesk$Divider", "rest", "LLimbDesk$Whole;", true)
  | 2 => ("LimbDesk$Divider", "dividend", "[I", true)
  | _ => ("LimbDesk$Divider", "divisor", "[I", true)
def tf_D : Nat → FieldType := fun k => match k with
  | 0 => .object "LimbDesk$Whole"
  | 1 => .object "LimbDesk$Whole"
  | 2 => .array .int
  | _ => .array .int
theorem n_D : ∀ a, a < 4 → ∀ b, b < 4 → a ≠ b → (F_D a).2.1 ≠ (F_D b).2.1 := by decide +kernel
theorem tf_D_ok : ∀ k, k < 4 → parseFieldDescriptor (F_D k).2.2.1 = some (tf_D k) := by decide +kernel
def R_T : String := "LimbDesk$Letters"
def F_T : u_T := fun k => match k with
  | 0 => ("LimbDesk$Letters", "row", "[B", true)
  | _ => ("LimbDesk$Letters", "count", "I", false)
def tf_T : Nat → FieldType := fun k => match k with
  | 0 => .array .byte
  | _ => .int
theorem n_T : ∀ a, a < 2 → ∀ b, b < 2 → a ≠ b → (F_T a).2.1 ≠ (F_T b).2.1 := by decide +kernel
theorem tf_T_ok : ∀ k, k < 2 → parseFieldDescriptor (F_T k).2.2.1 = some (tf_T k) := by decide +kernel
def R_K : String := "LimbDesk"
def F_K : u_T := fun k => match k with
  | 0 => ("LimbDesk", "registers", "[LLimbDesk$Whole;", true)
  | 1 => ("LimbDesk", "letters", "LLimbDesk$Letters;", true)
  | 2 => ("LimbDesk", "divider", "LLimbDesk$Divider;", true)
  | 3 => ("LimbDesk", "outcome", "LLimbDesk$Whole;", true)
  | 4 => ("LimbDesk", "product", "LLimbDesk$Whole;", true)
  | _ => ("LimbDesk", "factor", "LLimbDesk$Whole;", true)
def tf_K : Nat → FieldType := fun k => match k with
  | 0 => .array (.object "LimbDesk$Whole")
  | 1 => .object "LimbDesk$Letters"
  | 2 => .object "LimbDesk$Divider"
  | 3 => .object "LimbDesk$Whole"
  | 4 => .object "LimbDesk$Whole"
  | _ => .object "LimbDesk$Whole"
theorem n_K : ∀ a, a < 6 → ∀ b, b < 6 → a ≠ b → (F_K a).2.1 ≠ (F_K b).2.1 := by decide +kernel
theorem tf_K_ok : ∀ k, k < 6 → parseFieldDescriptor (F_K k).2.2.1 = some (tf_K k) := by decide +kernel
def R_M : String := "LimbDeskModel"
def F_M : u_T := fun k => match k with
  | 0 => ("LimbDeskModel", "err", "I", false)
  | 1 => ("LimbDeskModel", "length", "I", false)
  | 2 => ("LimbDeskModel", "limbs", "[I", true)
  | 3 => ("LimbDeskModel", "count", "[I", true)
  | 4 => ("LimbDeskModel", "sign", "[I", true)
  | 5 => ("LimbDeskModel", "text", "[I", true)
  | 6 => ("LimbDeskModel", "ra", "[I", true)
  | 7 => ("LimbDeskModel", "rb", "[I", true)
  | 8 => ("LimbDeskModel", "rc", "[I", true)
  | 9 => ("LimbDeskModel", "rd", "[I", true)
  | 10 => ("LimbDeskModel", "rm", "[I", true)
  | 11 => ("LimbDeskModel", "rt", "[I", true)
  | 12 => ("LimbDeskModel", "quotientSize", "I", false)
  | 13 => ("LimbDeskModel", "rs", "[I", true)
  | 14 => ("LimbDeskModel", "power", "[I", true)
  | _ => ("LimbDeskModel", "base", "[I", true)
def tf_M : Nat → FieldType := fun k => match k with
  | 0 => .int
  | 1 => .int
  | 2 => .array .int
  | 3 => .array .int
  | 4 => .array .int
  | 5 => .array .int
  | 6 => .array .int
  | 7 => .array .int
  | 8 => .array .int
  | 9 => .array .int
  | 10 => .array .int
  | 11 => .array .int
  | 12 => .int
  | 13 => .array .int
  | 14 => .array .int
  | _ => .array .int
theorem n_M : ∀ a, a < 16 → ∀ b, b < 16 → a ≠ b → (F_M a).2.1 ≠ (F_M b).2.1 := by decide +kernel
theorem tf_M_ok : ∀ k, k < 16 → parseFieldDescriptor (F_M k).2.2.1 = some (tf_M k) := by decide +kernel
def R_L : String := "LimbDeskLaw"
abbrev gcls : List vw_C := [(R_W, F_W, 3), (R_D, F_D, 4), (R_T, F_T, 2), (R_K, F_K, 6), (R_M, F_M, 16)]
/-- the tables' words that hold wherever the tables are warmer -/
def gw_WS : List Cond := lw_tbl.filter goodWord
theorem gw_mem {w : Cond} (h : w ∈ lw_tbl) (g : goodWord w = true) : w ∈ gw_WS := List.mem_filter.mpr ⟨h, g⟩
theorem gw_r1 {w : Cond} (i : Nat) (h : tables_1_1[i]? = some w) (g : goodWord w = true) : w ∈ gw_WS := gw_mem (List.mem_append_right _ (List.mem_append_left _ (List.mem_of_getElem? h))) g
theorem gw_r2 {w : Cond} (i : Nat) (h : tables_1_2[i]? = some w) (g : goodWord w = true) : w ∈ gw_WS := gw_mem (List.mem_append_right _ (List.mem_append_right _ (List.mem_append_left _ (List.mem_of_getElem? h)))) g
theorem gw_r3 {w : Cond} (i : Nat) (h : tables_1_3[i]? = some w) (g : goodWord w = true) : w ∈ gw_WS := gw_mem (List.mem_append_right _ (List.mem_append_right _ (List.mem_append_right _ (List.mem_append_left _ (List.mem_of_getElem? h))))) g
theorem gw_r4 {w : Cond} (i : Nat) (h : tables_1_4[i]? = some w) (g : goodWord w = true) : w ∈ gw_WS := gw_mem (List.mem_append_right _ (List.mem_append_right _ (List.mem_append_right _ (List.mem_append_right _ (List.mem_of_getElem? h))))) g
theorem gw_sel {w : Cond} (i : Nat) (h : (k2_sels lw_privs)[i]? = some w) (g : goodWord w = true) : w ∈ gw_WS := gw_mem (List.mem_append_left _ (List.mem_of_getElem? h)) g
theorem il_W_0 : u_lay R_W F_W 0 ∈ gw_WS := gw_r1 42 (by decide +kernel) (by decide +kernel)
theorem il_W_1 : u_lay R_W F_W 1 ∈ gw_WS := gw_r1 44 (by decide +kernel) (by decide +kernel)
theorem il_W_2 : u_lay R_W F_W 2 ∈ gw_WS := gw_r1 46 (by decide +kernel) (by decide +kernel)
theorem i_W : ∀ w ∈ u_ws R_W F_W 3, w ∈ gw_WS := by
  intro w h
  obtain ⟨k, hk, rfl⟩ := List.mem_map.mp h
  have hk := List.mem_range.mp hk
  match k, hk with
  | 0, _ => exact il_W_0
  | 1, _ => exact il_W_1
  | 2, _ => exact il_W_2
  | k + 3, hk => exact absurd hk (by omega)
theorem il_D_0 : u_lay R_D F_D 0 ∈ gw_WS := gw_r1 80 (by decide +kernel) (by decide +kernel)
theorem il_D_1 : u_lay R_D F_D 1 ∈ gw_WS := gw_r1 82 (by decide +kernel) (by decide +kernel)
theorem il_D_2 : u_lay R_D F_D 2 ∈ gw_WS := gw_r1 84 (by decide +kernel) (by decide +kernel)
theorem il_D_3 : u_lay R_D F_D 3 ∈ gw_WS := gw_r1 86 (by decide +kernel) (by decide +kernel)
theorem i_D : ∀ w ∈ u_ws R_D F_D 4, w ∈ gw_WS := by
  intro w h
  obtain ⟨k, hk, rfl⟩ := List.mem_map.mp h
  have hk := List.mem_range.mp hk
  match k, hk with
  | 0, _ => exact il_D_0
  | 1, _ => exact il_D_1
  | 2, _ => exact il_D_2
  | 3, _ => exact il_D_3
  | k + 4, hk => exact absurd hk (by omega)
theorem il_T_0 : u_lay R_T F_T 0 ∈ gw_WS := gw_r1 60 (by decide +kernel) (by decide +kernel)
theorem il_T_1 : u_lay R_T F_T 1 ∈ gw_WS := gw_r1 62 (by decide +kernel) (by decide +kernel)
theorem i_T : ∀ w ∈ u_ws R_T F_T 2, w ∈ gw_WS := by
  intro w h
  obtain ⟨k, hk, rfl⟩ := List.mem_map.mp h
  have hk := List.mem_range.mp hk
  match k, hk with
  | 0, _ => exact il_T_0
  | 1, _ => exact il_T_1
  | k + 2, hk => exact absurd hk (by omega)
theorem il_K_0 : u_lay R_K F_K 0 ∈ gw_WS := gw_r1 95 (by decide +kernel) (by decide +kernel)
theorem il_K_1 : u_lay R_K F_K 1 ∈ gw_WS := gw_r1 97 (by decide +kernel) (by decide +kernel)
theorem il_K_2 : u_lay R_K F_K 2 ∈ gw_WS := gw_r1 99 (by decide +kernel) (by decide +kernel)
theorem il_K_3 : u_lay R_K F_K 3 ∈ gw_WS := gw_r1 101 (by decide +kernel) (by decide +kernel)
theorem il_K_4 : u_lay R_K F_K 4 ∈ gw_WS := gw_r1 103 (by decide +kernel) (by decide +kernel)
theorem il_K_5 : u_lay R_K F_K 5 ∈ gw_WS := gw_r1 105 (by decide +kernel) (by decide +kernel)
theorem i_K : ∀ w ∈ u_ws R_K F_K 6, w ∈ gw_WS := by
  intro w h
  obtain ⟨k, hk, rfl⟩ := List.mem_map.mp h
  have hk := List.mem_range.mp hk
  match k, hk with
  | 0, _ => exact il_K_0
  | 1, _ => exact il_K_1
  | 2, _ => exact il_K_2
  | 3, _ => exact il_K_3
  | 4, _ => exact il_K_4
  | 5, _ => exact il_K_5
  | k + 6, hk => exact absurd hk (by omega)
theorem il_M_0 : u_lay R_M F_M 0 ∈ gw_WS := gw_r3 178 (by decide +kernel) (by decide +kernel)
theorem il_M_1 : u_lay R_M F_M 1 ∈ gw_WS := gw_r3 180 (by decide +kernel) (by decide +kernel)
theorem il_M_2 : u_lay R_M F_M 2 ∈ gw_WS := gw_r3 182 (by decide +kernel) (by decide +kernel)
theorem il_M_3 : u_lay R_M F_M 3 ∈ gw_WS := gw_r3 184 (by decide +kernel) (by decide +kernel)
theorem il_M_4 : u_lay R_M F_M 4 ∈ gw_WS := gw_r3 186 (by decide +kernel) (by decide +kernel)
theorem il_M_5 : u_lay R_M F_M 5 ∈ gw_WS := gw_r3 188 (by decide +kernel) (by decide +kernel)
theorem il_M_6 : u_lay R_M F_M 6 ∈ gw_WS := gw_r3 190 (by decide +kernel) (by decide +kernel)
theorem il_M_7 : u_lay R_M F_M 7 ∈ gw_WS := gw_r3 192 (by decide +kernel) (by decide +kernel)
theorem il_M_8 : u_lay R_M F_M 8 ∈ gw_WS := gw_r3 194 (by decide +kernel) (by decide +kernel)
theorem il_M_9 : u_lay R_M F_M 9 ∈ gw_WS := gw_r3 196 (by decide +kernel) (by decide +kernel)
theorem il_M_10 : u_lay R_M F_M 10 ∈ gw_WS := gw_r3 198 (by decide +kernel) (by decide +kernel)
theorem il_M_11 : u_lay R_M F_M 11 ∈ gw_WS := gw_r3 200 (by decide +kernel) (by decide +kernel)
theorem il_M_12 : u_lay R_M F_M 12 ∈ gw_WS := gw_r3 202 (by decide +kernel) (by decide +kernel)
theorem il_M_13 : u_lay R_M F_M 13 ∈ gw_WS := gw_r3 204 (by decide +kernel) (by decide +kernel)
theorem il_M_14 : u_lay R_M F_M 14 ∈ gw_WS := gw_r3 206 (by decide +kernel) (by decide +kernel)
theorem il_M_15 : u_lay R_M F_M 15 ∈ gw_WS := gw_r3 208 (by decide +kernel) (by decide +kernel)
theorem i_M : ∀ w ∈ u_ws R_M F_M 16, w ∈ gw_WS := by
  intro w h
  obtain ⟨k, hk, rfl⟩ := List.mem_map.mp h
  have hk := List.mem_range.mp hk
  match k, hk with
  | 0, _ => exact il_M_0
  | 1, _ => exact il_M_1
  | 2, _ => exact il_M_2
  | 3, _ => exact il_M_3
  | 4, _ => exact il_M_4
  | 5, _ => exact il_M_5
  | 6, _ => exact il_M_6
  | 7, _ => exact il_M_7
  | 8, _ => exact il_M_8
  | 9, _ => exact il_M_9
  | 10, _ => exact il_M_10
  | 11, _ => exact il_M_11
  | 12, _ => exact il_M_12
  | 13, _ => exact il_M_13
  | 14, _ => exact il_M_14
  | 15, _ => exact il_M_15
  | k + 16, hk => exact absurd hk (by omega)
/-! methods: codes, names, words -/
abbrev b_W_init : ByteArray := prog_4_method_1_code
def y_W_init : MethodName := ⟨"LimbDesk$Whole", "<init>", "(I)V"⟩
theorem kc_W_init : Cond.code y_W_init b_W_init 2 none ∈ gw_WS := gw_r1 31 (by rfl) (by rfl)
theorem ko_W_init : Cond.code y_W_init b_W_init 2 none ∈ gw_WS ∧ Cond.initialized y_W_init.cls ∈ gw_WS ∧ (y_W_init.cls ≠ "java/lang/invoke/MethodHandle" ∧ y_W_init.cls ≠ "java/lang/invoke/VarHandle" ∧ (parseMethodDescriptor y_W_init.desc).map (fun d => d.parameters.length) = some 1) := ⟨kc_W_init, gw_r1 2 (by decide +kernel) (by decide +kernel), by decide +kernel⟩
theorem ki_W_init : Cond.instanceMethod y_W_init ∈ gw_WS := gw_r1 30 (by decide +kernel) (by decide +kernel)
abbrev b_W_sign : ByteArray := prog_4_method_2_code
def y_W_sign : MethodName := ⟨"LimbDesk$Whole", "sign", "()I"⟩
theorem kc_W_sign : Cond.code y_W_sign b_W_sign 1 (some .int) ∈ gw_WS := gw_r2 200 (by rfl) (by rfl)
theorem ko_W_sign : Cond.code y_W_sign b_W_sign 1 (some .int) ∈ gw_WS ∧ Cond.initialized y_W_sign.cls ∈ gw_WS ∧ (y_W_sign.cls ≠ "java/lang/invoke/MethodHandle" ∧ y_W_sign.cls ≠ "java/lang/invoke/VarHandle" ∧ (parseMethodDescriptor y_W_sign.desc).map (fun d => d.parameters.length) = some 0) := ⟨kc_W_sign, gw_r1 2 (by decide +kernel) (by decide +kernel), by decide +kernel⟩
theorem ki_W_sign : Cond.instanceMethod y_W_sign ∈ gw_WS := gw_r2 198 (by decide +kernel) (by decide +kernel)
theorem kv_W_sign : Cond.selects y_W_sign.cls y_W_sign y_W_sign ∈ gw_WS := gw_r2 199 (by decide +kernel) (by decide +kernel)
abbrev b_W_limbAt : ByteArray := prog_4_method_3_code
def y_W_limbAt : MethodName := ⟨"LimbDesk$Whole", "limbAt", "(I)I"⟩
theorem kc_W_limbAt : Cond.code y_W_limbAt b_W_limbAt 2 (some .int) ∈ gw_WS := gw_r2 179 (by rfl) (by rfl)
theorem ko_W_limbAt : Cond.code y_W_limbAt b_W_limbAt 2 (some .int) ∈ gw_WS ∧ Cond.initialized y_W_limbAt.cls ∈ gw_WS ∧ (y_W_limbAt.cls ≠ "java/lang/invoke/MethodHandle" ∧ y_W_limbAt.cls ≠ "java/lang/invoke/VarHandle" ∧ (parseMethodDescriptor y_W_limbAt.desc).map (fun d => d.parameters.length) = some 1) := ⟨kc_W_limbAt, gw_r1 2 (by decide +kernel) (by decide +kernel), by decide +kernel⟩
theorem ki_W_limbAt : Cond.instanceMethod y_W_limbAt ∈ gw_WS := gw_r2 177 (by decide +kernel) (by decide +kernel)
theorem kv_W_limbAt : Cond.selects y_W_limbAt.cls y_W_limbAt y_W_limbAt ∈ gw_WS := gw_r2 178 (by decide +kernel) (by decide +kernel)
abbrev b_W_countBits : ByteArray := prog_4_method_4_code
def y_W_countBits : MethodName := ⟨"LimbDesk$Whole", "countBits", "()I"⟩
theorem kc_W_countBits : Cond.code y_W_countBits b_W_countBits 1 (some .int) ∈ gw_WS := gw_r1 192 (by rfl) (by rfl)
theorem ko_W_countBits : Cond.code y_W_countBits b_W_countBits 1 (some .int) ∈ gw_WS ∧ Cond.initialized y_W_countBits.cls ∈ gw_WS ∧ (y_W_countBits.cls ≠ "java/lang/invoke/MethodHandle" ∧ y_W_countBits.cls ≠ "java/lang/invoke/VarHandle" ∧ (parseMethodDescriptor y_W_countBits.desc).map (fun d => d.parameters.length) = some 0) := ⟨kc_W_countBits, gw_r1 2 (by decide +kernel) (by decide +kernel), by decide +kernel⟩
theorem ki_W_countBits : Cond.instanceMethod y_W_countBits ∈ gw_WS := gw_r1 190 (by decide +kernel) (by decide +kernel)
theorem kv_W_countBits : Cond.selects y_W_countBits.cls y_W_countBits y_W_countBits ∈ gw_WS := gw_r1 191 (by decide +kernel) (by decide +kernel)
abbrev b_W_bitsIn : ByteArray := prog_4_method_5_code
def y_W_bitsIn : MethodName := ⟨"LimbDesk$Whole", "bitsIn", "(I)I"⟩
theorem kc_W_bitsIn : Cond.code y_W_bitsIn b_W_bitsIn 2 (some .int) ∈ gw_WS := gw_r1 195 (by rfl) (by rfl)
theorem ko_W_bitsIn : Cond.code y_W_bitsIn b_W_bitsIn 2 (some .int) ∈ gw_WS ∧ Cond.initialized y_W_bitsIn.cls ∈ gw_WS ∧ (y_W_bitsIn.cls ≠ "java/lang/invoke/MethodHandle" ∧ y_W_bitsIn.cls ≠ "java/lang/invoke/VarHandle" ∧ (parseMethodDescriptor y_W_bitsIn.desc).map (fun d => d.parameters.length) = some 1) := ⟨kc_W_bitsIn, gw_r1 2 (by decide +kernel) (by decide +kernel), by decide +kernel⟩
theorem ks_W_bitsIn : Cond.static y_W_bitsIn ∈ gw_WS := gw_r1 194 (by decide +kernel) (by decide +kernel)
abbrev b_W_hasBit : ByteArray := prog_4_method_6_code
def y_W_hasBit : MethodName := ⟨"LimbDesk$Whole", "hasBit", "(I)Z"⟩
theorem kc_W_hasBit : Cond.code y_W_hasBit b_W_hasBit 2 (some .boolean) ∈ gw_WS := gw_r3 98 (by rfl) (by rfl)
theorem ko_W_hasBit : Cond.code y_W_hasBit b_W_hasBit 2 (some .boolean) ∈ gw_WS ∧ Cond.initialized y_W_hasBit.cls ∈ gw_WS ∧ (y_W_hasBit.cls ≠ "java/lang/invoke/MethodHandle" ∧ y_W_hasBit.cls ≠ "java/lang/invoke/VarHandle" ∧ (parseMethodDescriptor y_W_hasBit.desc).map (fun d => d.parameters.length) = some 1) := ⟨kc_W_hasBit, gw_r1 2 (by decide +kernel) (by decide +kernel), by decide +kernel⟩
theorem ki_W_hasBit : Cond.instanceMethod y_W_hasBit ∈ gw_WS := gw_r3 96 (by decide +kernel) (by decide +kernel)
theorem kv_W_hasBit : Cond.selects y_W_hasBit.cls y_W_hasBit y_W_hasBit ∈ gw_WS := gw_r3 97 (by decide +kernel) (by decide +kernel)
abbrev b_W_trim : ByteArray := prog_4_method_7_code
def y_W_trim : MethodName := ⟨"LimbDesk$Whole", "trim", "(I)V"⟩
theorem kc_W_trim : Cond.code y_W_trim b_W_trim 2 none ∈ gw_WS := gw_r1 204 (by rfl) (by rfl)
theorem ko_W_trim : Cond.code y_W_trim b_W_trim 2 none ∈ gw_WS ∧ Cond.initialized y_W_trim.cls ∈ gw_WS ∧ (y_W_trim.cls ≠ "java/lang/invoke/MethodHandle" ∧ y_W_trim.cls ≠ "java/lang/invoke/VarHandle" ∧ (parseMethodDescriptor y_W_trim.desc).map (fun d => d.parameters.length) = some 1) := ⟨kc_W_trim, gw_r1 2 (by decide +kernel) (by decide +kernel), by decide +kernel⟩
theorem ki_W_trim : Cond.instanceMethod y_W_trim ∈ gw_WS := gw_r1 202 (by decide +kernel) (by decide +kernel)
theorem kv_W_trim : Cond.selects y_W_trim.cls y_W_trim y_W_trim ∈ gw_WS := gw_r1 203 (by decide +kernel) (by decide +kernel)
abbrev b_W_setBelow : ByteArray := prog_4_method_8_code
def y_W_setBelow : MethodName := ⟨"LimbDesk$Whole", "setBelow", "(Z)V"⟩
theorem kc_W_setBelow : Cond.code y_W_setBelow b_W_setBelow 2 none ∈ gw_WS := gw_r1 208 (by rfl) (by rfl)
theorem ko_W_setBelow : Cond.code y_W_setBelow b_W_setBelow 2 none ∈ gw_WS ∧ Cond.initialized y_W_setBelow.cls ∈ gw_WS ∧ (y_W_setBelow.cls ≠ "java/lang/invoke/MethodHandle" ∧ y_W_setBelow.cls ≠ "java/lang/invoke/VarHandle" ∧ (parseMethodDescriptor y_W_setBelow.desc).map (fun d => d.parameters.length) = some 1) := ⟨kc_W_setBelow, gw_r1 2 (by decide +kernel) (by decide +kernel), by decide +kernel⟩
theorem ki_W_setBelow : Cond.instanceMethod y_W_setBelow ∈ gw_WS := gw_r1 206 (by decide +kernel) (by decide +kernel)
theorem kv_W_setBelow : Cond.selects y_W_setBelow.cls y_W_setBelow y_W_setBelow ∈ gw_WS := gw_r1 207 (by decide +kernel) (by decide +kernel)
abbrev b_W_takeLong : ByteArray := prog_4_method_9_code
def y_W_takeLong : MethodName := ⟨"LimbDesk$Whole", "takeLong", "(J)V"⟩
theorem kc_W_takeLong : Cond.code y_W_takeLong b_W_takeLong 5 none ∈ gw_WS := gw_r1 199 (by rfl) (by rfl)
theorem ko_W_takeLong : Cond.code y_W_takeLong b_W_takeLong 5 none ∈ gw_WS ∧ Cond.initialized y_W_takeLong.cls ∈ gw_WS ∧ (y_W_takeLong.cls ≠ "java/lang/invoke/MethodHandle" ∧ y_W_takeLong.cls ≠ "java/lang/invoke/VarHandle" ∧ (parseMethodDescriptor y_W_takeLong.desc).map (fun d => d.parameters.length) = some 1) := ⟨kc_W_takeLong, gw_r1 2 (by decide +kernel) (by decide +kernel), by decide +kernel⟩
theorem ki_W_takeLong : Cond.instanceMethod y_W_takeLong ∈ gw_WS := gw_r1 197 (by decide +kernel) (by decide +kernel)
theorem kv_W_takeLong : Cond.selects y_W_takeLong.cls y_W_takeLong y_W_takeLong ∈ gw_WS := gw_r1 198 (by decide +kernel) (by decide +kernel)
abbrev b_W_takeCopy : ByteArray := prog_4_method_10_code
def y_W_takeCopy : MethodName := ⟨"LimbDesk$Whole", "takeCopy", "(LLimbDesk$Whole;)V"⟩
theorem kc_W_takeCopy : Cond.code y_W_takeCopy b_W_takeCopy 2 none ∈ gw_WS := gw_r2 68 (by rfl) (by rfl)
theorem ko_W_takeCopy : Cond.code y_W_takeCopy b_W_takeCopy 2 none ∈ gw_WS ∧ Cond.initialized y_W_takeCopy.cls ∈ gw_WS ∧ (y_W_takeCopy.cls ≠ "java/lang/invoke/MethodHandle" ∧ y_W_takeCopy.cls ≠ "java/lang/invoke/VarHandle" ∧ (parseMethodDescriptor y_W_takeCopy.desc).map (fun d => d.parameters.length) = some 1) := ⟨kc_W_takeCopy, gw_r1 2 (by decide +kernel) (by decide +kernel), by decide +kernel⟩
theorem ki_W_takeCopy : Cond.instanceMethod y_W_takeCopy ∈ gw_WS := gw_r2 66 (by decide +kernel) (by decide +kernel)
theorem kv_W_takeCopy : Cond.selects y_W_takeCopy.cls y_W_takeCopy y_W_takeCopy ∈ gw_WS := gw_r2 67 (by decide +kernel) (by decide +kernel)
abbrev b_W_fitsLong : ByteArray := prog_4_method_11_code
def y_W_fitsLong : MethodName := ⟨"LimbDesk$Whole", "fitsLong", "()Z"⟩
theorem kc_W_fitsLong : Cond.code y_W_fitsLong b_W_fitsLong 1 (some .boolean) ∈ gw_WS := gw_r3 122 (by rfl) (by rfl)
theorem ko_W_fitsLong : Cond.code y_W_fitsLong b_W_fitsLong 1 (some .boolean) ∈ gw_WS ∧ Cond.initialized y_W_fitsLong.cls ∈ gw_WS ∧ (y_W_fitsLong.cls ≠ "java/lang/invoke/MethodHandle" ∧ y_W_fitsLong.cls ≠ "java/lang/invoke/VarHandle" ∧ (parseMethodDescriptor y_W_fitsLong.desc).map (fun d => d.parameters.length) = some 0) := ⟨kc_W_fitsLong, gw_r1 2 (by decide +kernel) (by decide +kernel), by decide +kernel⟩
theorem ki_W_fitsLong : Cond.instanceMethod y_W_fitsLong ∈ gw_WS := gw_r3 120 (by decide +kernel) (by decide +kernel)
theorem kv_W_fitsLong : Cond.selects y_W_fitsLong.cls y_W_fitsLong y_W_fitsLong ∈ gw_WS := gw_r3 121 (by decide +kernel) (by decide +kernel)
abbrev b_W_lowestBits : ByteArray := prog_4_method_12_code
def y_W_lowestBits : MethodName := ⟨"LimbDesk$Whole", "lowestBits", "()J"⟩
theorem kc_W_lowestBits : Cond.code y_W_lowestBits b_W_lowestBits 3 (some .long) ∈ gw_WS := gw_r3 127 (by rfl) (by rfl)
theorem ko_W_lowestBits : Cond.code y_W_lowestBits b_W_lowestBits 3 (some .long) ∈ gw_WS ∧ Cond.initialized y_W_lowestBits.cls ∈ gw_WS ∧ (y_W_lowestBits.cls ≠ "java/lang/invoke/MethodHandle" ∧ y_W_lowestBits.cls ≠ "java/lang/invoke/VarHandle" ∧ (parseMethodDescriptor y_W_lowestBits.desc).map (fun d => d.parameters.length) = some 0) := ⟨kc_W_lowestBits, gw_r1 2 (by decide +kernel) (by decide +kernel), by decide +kernel⟩
theorem ki_W_lowestBits : Cond.instanceMethod y_W_lowestBits ∈ gw_WS := gw_r3 125 (by decide +kernel) (by decide +kernel)
theorem kv_W_lowestBits : Cond.selects y_W_lowestBits.cls y_W_lowestBits y_W_lowestBits ∈ gw_WS := gw_r3 126 (by decide +kernel) (by decide +kernel)
abbrev b_W_foldedBits : ByteArray := prog_4_method_13_code
def y_W_foldedBits : MethodName := ⟨"LimbDesk$Whole", "foldedBits", "()J"⟩
theorem kc_W_foldedBits : Cond.code y_W_foldedBits b_W_foldedBits 6 (some .long) ∈ gw_WS := gw_r3 147 (by rfl) (by rfl)
theorem ko_W_foldedBits : Cond.code y_W_foldedBits b_W_foldedBits 6 (some .long) ∈ gw_WS ∧ Cond.initialized y_W_foldedBits.cls ∈ gw_WS ∧ (y_W_foldedBits.cls ≠ "java/lang/invoke/MethodHandle" ∧ y_W_foldedBits.cls ≠ "java/lang/invoke/VarHandle" ∧ (parseMethodDescriptor y_W_foldedBits.desc).map (fun d => d.parameters.length) = some 0) := ⟨kc_W_foldedBits, gw_r1 2 (by decide +kernel) (by decide +kernel), by decide +kernel⟩
theorem ki_W_foldedBits : Cond.instanceMethod y_W_foldedBits ∈ gw_WS := gw_r3 145 (by decide +kernel) (by decide +kernel)
theorem kv_W_foldedBits : Cond.selects y_W_foldedBits.cls y_W_foldedBits y_W_foldedBits ∈ gw_WS := gw_r3 146 (by decide +kernel) (by decide +kernel)
abbrev b_W_orderTo : ByteArray := prog_4_method_14_code
def y_W_orderTo : MethodName := ⟨"LimbDesk$Whole", "orderTo", "(LLimbDesk$Whole;)I"⟩
theorem kc_W_orderTo : Cond.code y_W_orderTo b_W_orderTo 2 (some .int) ∈ gw_WS := gw_r3 110 (by rfl) (by rfl)
theorem ko_W_orderTo : Cond.code y_W_orderTo b_W_orderTo 2 (some .int) ∈ gw_WS ∧ Cond.initialized y_W_orderTo.cls ∈ gw_WS ∧ (y_W_orderTo.cls ≠ "java/lang/invoke/MethodHandle" ∧ y_W_orderTo.cls ≠ "java/lang/invoke/VarHandle" ∧ (parseMethodDescriptor y_W_orderTo.desc).map (fun d => d.parameters.length) = some 1) := ⟨kc_W_orderTo, gw_r1 2 (by decide +kernel) (by decide +kernel), by decide +kernel⟩
theorem ki_W_orderTo : Cond.instanceMethod y_W_orderTo ∈ gw_WS := gw_r3 108 (by decide +kernel) (by decide +kernel)
theorem kv_W_orderTo : Cond.selects y_W_orderTo.cls y_W_orderTo y_W_orderTo ∈ gw_WS := gw_r3 109 (by decide +kernel) (by decide +kernel)
abbrev b_W_orderOfSizes : ByteArray := prog_4_method_15_code
def y_W_orderOfSizes : MethodName := ⟨"LimbDesk$Whole", "orderOfSizes", "(LLimbDesk$Whole;)I"⟩
theorem kc_W_orderOfSizes : Cond.code y_W_orderOfSizes b_W_orderOfSizes 3 (some .int) ∈ gw_WS := gw_r2 183 (by rfl) (by rfl)
theorem ko_W_orderOfSizes : Cond.code y_W_orderOfSizes b_W_orderOfSizes 3 (some .int) ∈ gw_WS ∧ Cond.initialized y_W_orderOfSizes.cls ∈ gw_WS ∧ (y_W_orderOfSizes.cls ≠ "java/lang/invoke/MethodHandle" ∧ y_W_orderOfSizes.cls ≠ "java/lang/invoke/VarHandle" ∧ (parseMethodDescriptor y_W_orderOfSizes.desc).map (fun d => d.parameters.length) = some 1) := ⟨kc_W_orderOfSizes, gw_r1 2 (by decide +kernel) (by decide +kernel), by decide +kernel⟩
theorem ki_W_orderOfSizes : Cond.instanceMethod y_W_orderOfSizes ∈ gw_WS := gw_r2 181 (by decide +kernel) (by decide +kernel)
theorem kv_W_orderOfSizes : Cond.selects y_W_orderOfSizes.cls y_W_orderOfSizes y_W_orderOfSizes ∈ gw_WS := gw_r2 182 (by decide +kernel) (by decide +kernel)
abbrev b_W_takeSum : ByteArray := prog_4_method_16_code
def y_W_takeSum : MethodName := ⟨"LimbDesk$Whole", "takeSum", "(LLimbDesk$Whole;LLimbDesk$Whole;Z)V"⟩
theorem kc_W_takeSum : Cond.code y_W_takeSum b_W_takeSum 5 none ∈ gw_WS := gw_r2 168 (by rfl) (by rfl)
theorem ko_W_takeSum : Cond.code y_W_takeSum b_W_takeSum 5 none ∈ gw_WS ∧ Cond.initialized y_W_takeSum.cls ∈ gw_WS ∧ (y_W_takeSum.cls ≠ "java/lang/invoke/MethodHandle" ∧ y_W_takeSum.cls ≠ "java/lang/invoke/VarHandle" ∧ (parseMethodDescriptor y_W_takeSum.desc).map (fun d => d.parameters.length) = some 3) := ⟨kc_W_takeSum, gw_r1 2 (by decide +kernel) (by decide +kernel), by decide +kernel⟩
theorem ki_W_takeSum : Cond.instanceMethod y_W_takeSum ∈ gw_WS := gw_r2 166 (by decide +kernel) (by decide +kernel)
theorem kv_W_takeSum : Cond.selects y_W_takeSum.cls y_W_takeSum y_W_takeSum ∈ gw_WS := gw_r2 167 (by decide +kernel) (by decide +kernel)
abbrev b_W_addSizes : ByteArray := prog_4_method_17_code
def y_W_addSizes : MethodName := ⟨"LimbDesk$Whole", "addSizes", "(LLimbDesk$Whole;LLimbDesk$Whole;)V"⟩
theorem kc_W_addSizes : Cond.code y_W_addSizes b_W_addSizes 9 none ∈ gw_WS := gw_r2 172 (by rfl) (by rfl)
theorem ko_W_addSizes : Cond.code y_W_addSizes b_W_addSizes 9 none ∈ gw_WS ∧ Cond.initialized y_W_addSizes.cls ∈ gw_WS ∧ (y_W_addSizes.cls ≠ "java/lang/invoke/MethodHandle" ∧ y_W_addSizes.cls ≠ "java/lang/invoke/VarHandle" ∧ (parseMethodDescriptor y_W_addSizes.desc).map (fun d => d.parameters.length) = some 2) := ⟨kc_W_addSizes, gw_r1 2 (by decide +kernel) (by decide +kernel), by decide +kernel⟩
theorem ki_W_addSizes : Cond.instanceMethod y_W_addSizes ∈ gw_WS := gw_r2 171 (by decide +kernel) (by decide +kernel)
theorem kv_W_addSizes : Cond.selects y_W_addSizes.cls y_W_addSizes y_W_addSizes ∈ gw_WS := gw_sel 6 (by decide +kernel) (by decide +kernel)
abbrev b_W_subtractSizes : ByteArray := prog_4_method_18_code
def y_W_subtractSizes : MethodName := ⟨"LimbDesk$Whole", "subtractSizes", "(LLimbDesk$Whole;LLimbDesk$Whole;)V"⟩
theorem kc_W_subtractSizes : Cond.code y_W_subtractSizes b_W_subtractSizes 7 none ∈ gw_WS := gw_r2 187 (by rfl) (by rfl)
theorem ko_W_subtractSizes : Cond.code y_W_subtractSizes b_W_subtractSizes 7 none ∈ gw_WS ∧ Cond.initialized y_W_subtractSizes.cls ∈ gw_WS ∧ (y_W_subtractSizes.cls ≠ "java/lang/invoke/MethodHandle" ∧ y_W_subtractSizes.cls ≠ "java/lang/invoke/VarHandle" ∧ (parseMethodDescriptor y_W_subtractSizes.desc).map (fun d => d.parameters.length) = some 2) := ⟨kc_W_subtractSizes, gw_r1 2 (by decide +kernel) (by decide +kernel), by decide +kernel⟩
theorem ki_W_subtractSizes : Cond.instanceMethod y_W_subtractSizes ∈ gw_WS := gw_r2 186 (by decide +kernel) (by decide +kernel)
theorem kv_W_subtractSizes : Cond.selects y_W_subtractSizes.cls y_W_subtractSizes y_W_subtractSizes ∈ gw_WS := gw_sel 7 (by decide +kernel) (by decide +kernel)
abbrev b_W_growByOne : ByteArray := prog_4_method_19_code
def y_W_growByOne : MethodName := ⟨"LimbDesk$Whole", "growByOne", "()V"⟩
theorem kc_W_growByOne : Cond.code y_W_growByOne b_W_growByOne 1 none ∈ gw_WS := gw_r3 21 (by rfl) (by rfl)
theorem ko_W_growByOne : Cond.code y_W_growByOne b_W_growByOne 1 none ∈ gw_WS ∧ Cond.initialized y_W_growByOne.cls ∈ gw_WS ∧ (y_W_growByOne.cls ≠ "java/lang/invoke/MethodHandle" ∧ y_W_growByOne.cls ≠ "java/lang/invoke/VarHandle" ∧ (parseMethodDescriptor y_W_growByOne.desc).map (fun d => d.parameters.length) = some 0) := ⟨kc_W_growByOne, gw_r1 2 (by decide +kernel) (by decide +kernel), by decide +kernel⟩
theorem ki_W_growByOne : Cond.instanceMethod y_W_growByOne ∈ gw_WS := gw_r3 19 (by decide +kernel) (by decide +kernel)
theorem kv_W_growByOne : Cond.selects y_W_growByOne.cls y_W_growByOne y_W_growByOne ∈ gw_WS := gw_r3 20 (by decide +kernel) (by decide +kernel)
abbrev b_W_growBy : ByteArray := prog_4_method_20_code
def y_W_growBy : MethodName := ⟨"LimbDesk$Whole", "growBy", "(JJ)V"⟩
theorem kc_W_growBy : Cond.code y_W_growBy b_W_growBy 10 none ∈ gw_WS := gw_r2 39 (by rfl) (by rfl)
theorem ko_W_growBy : Cond.code y_W_growBy b_W_growBy 10 none ∈ gw_WS ∧ Cond.initialized y_W_growBy.cls ∈ gw_WS ∧ (y_W_growBy.cls ≠ "java/lang/invoke/MethodHandle" ∧ y_W_growBy.cls ≠ "java/lang/invoke/VarHandle" ∧ (parseMethodDescriptor y_W_growBy.desc).map (fun d => d.parameters.length) = some 2) := ⟨kc_W_growBy, gw_r1 2 (by decide +kernel) (by decide +kernel), by decide +kernel⟩
theorem ki_W_growBy : Cond.instanceMethod y_W_growBy ∈ gw_WS := gw_r2 37 (by decide +kernel) (by decide +kernel)
theorem kv_W_growBy : Cond.selects y_W_growBy.cls y_W_growBy y_W_growBy ∈ gw_WS := gw_r2 38 (by decide +kernel) (by decide +kernel)
abbrev b_W_cutBy : ByteArray := prog_4_method_21_code
def y_W_cutBy : MethodName := ⟨"LimbDesk$Whole", "cutBy", "(I)I"⟩
theorem kc_W_cutBy : Cond.code y_W_cutBy b_W_cutBy 7 (some .int) ∈ gw_WS := gw_r2 93 (by rfl) (by rfl)
theorem ko_W_cutBy : Cond.code y_W_cutBy b_W_cutBy 7 (some .int) ∈ gw_WS ∧ Cond.initialized y_W_cutBy.cls ∈ gw_WS ∧ (y_W_cutBy.cls ≠ "java/lang/invoke/MethodHandle" ∧ y_W_cutBy.cls ≠ "java/lang/invoke/VarHandle" ∧ (parseMethodDescriptor y_W_cutBy.desc).map (fun d => d.parameters.length) = some 1) := ⟨kc_W_cutBy, gw_r1 2 (by decide +kernel) (by decide +kernel), by decide +kernel⟩
theorem ki_W_cutBy : Cond.instanceMethod y_W_cutBy ∈ gw_WS := gw_r2 91 (by decide +kernel) (by decide +kernel)
theorem kv_W_cutBy : Cond.selects y_W_cutBy.cls y_W_cutBy y_W_cutBy ∈ gw_WS := gw_r2 92 (by decide +kernel) (by decide +kernel)
abbrev b_W_takeProduct : ByteArray := prog_4_method_22_code
def y_W_takeProduct : MethodName := ⟨"LimbDesk$Whole", "takeProduct", "(LLimbDesk$Whole;LLimbDesk$Whole;)V"⟩
theorem kc_W_takeProduct : Cond.code y_W_takeProduct b_W_takeProduct 5 none ∈ gw_WS := gw_r2 192 (by rfl) (by rfl)
theorem ko_W_takeProduct : Cond.code y_W_takeProduct b_W_takeProduct 5 none ∈ gw_WS ∧ Cond.initialized y_W_takeProduct.cls ∈ gw_WS ∧ (y_W_takeProduct.cls ≠ "java/lang/invoke/MethodHandle" ∧ y_W_takeProduct.cls ≠ "java/lang/invoke/VarHandle" ∧ (parseMethodDescriptor y_W_takeProduct.desc).map (fun d => d.parameters.length) = some 2) := ⟨kc_W_takeProduct, gw_r1 2 (by decide +kernel) (by decide +kernel), by decide +kernel⟩
theorem ki_W_takeProduct : Cond.instanceMethod y_W_takeProduct ∈ gw_WS := gw_r2 190 (by decide +kernel) (by decide +kernel)
theorem kv_W_takeProduct : Cond.selects y_W_takeProduct.cls y_W_takeProduct y_W_takeProduct ∈ gw_WS := gw_r2 191 (by decide +kernel) (by decide +kernel)
abbrev b_W_addRow : ByteArray := prog_4_method_23_code
def y_W_addRow : MethodName := ⟨"LimbDesk$Whole", "addRow", "(JLLimbDesk$Whole;I)V"⟩
theorem kc_W_addRow : Cond.code y_W_addRow b_W_addRow 10 none ∈ gw_WS := gw_r2 196 (by rfl) (by rfl)
theorem ko_W_addRow : Cond.code y_W_addRow b_W_addRow 10 none ∈ gw_WS ∧ Cond.initialized y_W_addRow.cls ∈ gw_WS ∧ (y_W_addRow.cls ≠ "java/lang/invoke/MethodHandle" ∧ y_W_addRow.cls ≠ "java/lang/invoke/VarHandle" ∧ (parseMethodDescriptor y_W_addRow.desc).map (fun d => d.parameters.length) = some 3) := ⟨kc_W_addRow, gw_r1 2 (by decide +kernel) (by decide +kernel), by decide +kernel⟩
theorem ki_W_addRow : Cond.instanceMethod y_W_addRow ∈ gw_WS := gw_r2 195 (by decide +kernel) (by decide +kernel)
theorem kv_W_addRow : Cond.selects y_W_addRow.cls y_W_addRow y_W_addRow ∈ gw_WS := gw_sel 8 (by decide +kernel) (by decide +kernel)
abbrev b_W_takeRaised : ByteArray := prog_4_method_24_code
def y_W_takeRaised : MethodName := ⟨"LimbDesk$Whole", "takeRaised", "(LLimbDesk$Whole;I)V"⟩
theorem kc_W_takeRaised : Cond.code y_W_takeRaised b_W_takeRaised 5 none ∈ gw_WS := gw_r3 34 (by rfl) (by rfl)
theorem ko_W_takeRaised : Cond.code y_W_takeRaised b_W_takeRaised 5 none ∈ gw_WS ∧ Cond.initialized y_W_takeRaised.cls ∈ gw_WS ∧ (y_W_takeRaised.cls ≠ "java/lang/invoke/MethodHandle" ∧ y_W_takeRaised.cls ≠ "java/lang/invoke/VarHandle" ∧ (parseMethodDescriptor y_W_takeRaised.desc).map (fun d => d.parameters.length) = some 2) := ⟨kc_W_takeRaised, gw_r1 2 (by decide +kernel) (by decide +kernel), by decide +kernel⟩
theorem ki_W_takeRaised : Cond.instanceMethod y_W_takeRaised ∈ gw_WS := gw_r3 32 (by decide +kernel) (by decide +kernel)
theorem kv_W_takeRaised : Cond.selects y_W_takeRaised.cls y_W_takeRaised y_W_takeRaised ∈ gw_WS := gw_r3 33 (by decide +kernel) (by decide +kernel)
abbrev b_W_raiseInto : ByteArray := prog_4_method_25_code
def y_W_raiseInto : MethodName := ⟨"LimbDesk$Whole", "raiseInto", "([III)V"⟩
theorem kc_W_raiseInto : Cond.code y_W_raiseInto b_W_raiseInto 9 none ∈ gw_WS := gw_r2 226 (by rfl) (by rfl)
theorem ko_W_raiseInto : Cond.code y_W_raiseInto b_W_raiseInto 9 none ∈ gw_WS ∧ Cond.initialized y_W_raiseInto.cls ∈ gw_WS ∧ (y_W_raiseInto.cls ≠ "java/lang/invoke/MethodHandle" ∧ y_W_raiseInto.cls ≠ "java/lang/invoke/VarHandle" ∧ (parseMethodDescriptor y_W_raiseInto.desc).map (fun d => d.parameters.length) = some 3) := ⟨kc_W_raiseInto, gw_r1 2 (by decide +kernel) (by decide +kernel), by decide +kernel⟩
theorem ki_W_raiseInto : Cond.instanceMethod y_W_raiseInto ∈ gw_WS := gw_r2 224 (by decide +kernel) (by decide +kernel)
theorem kv_W_raiseInto : Cond.selects y_W_raiseInto.cls y_W_raiseInto y_W_raiseInto ∈ gw_WS := gw_r2 225 (by decide +kernel) (by decide +kernel)
abbrev b_W_takeLowered : ByteArray := prog_4_method_26_code
def y_W_takeLowered : MethodName := ⟨"LimbDesk$Whole", "takeLowered", "(LLimbDesk$Whole;I)V"⟩
theorem kc_W_takeLowered : Cond.code y_W_takeLowered b_W_takeLowered 9 none ∈ gw_WS := gw_r3 39 (by rfl) (by rfl)
theorem ko_W_takeLowered : Cond.code y_W_takeLowered b_W_takeLowered 9 none ∈ gw_WS ∧ Cond.initialized y_W_takeLowered.cls ∈ gw_WS ∧ (y_W_takeLowered.cls ≠ "java/lang/invoke/MethodHandle" ∧ y_W_takeLowered.cls ≠ "java/lang/invoke/VarHandle" ∧ (parseMethodDescriptor y_W_takeLowered.desc).map (fun d => d.parameters.length) = some 2) := ⟨kc_W_takeLowered, gw_r1 2 (by decide +kernel) (by decide +kernel), by decide +kernel⟩
theorem ki_W_takeLowered : Cond.instanceMethod y_W_takeLowered ∈ gw_WS := gw_r3 37 (by decide +kernel) (by decide +kernel)
theorem kv_W_takeLowered : Cond.selects y_W_takeLowered.cls y_W_takeLowered y_W_takeLowered ∈ gw_WS := gw_r3 38 (by decide +kernel) (by decide +kernel)
abbrev b_W_hasOnesUnder : ByteArray := prog_4_method_27_code
def y_W_hasOnesUnder : MethodName := ⟨"LimbDesk$Whole", "hasOnesUnder", "(II)Z"⟩
theorem kc_W_hasOnesUnder : Cond.code y_W_hasOnesUnder b_W_hasOnesUnder 4 (some .boolean) ∈ gw_WS := gw_r3 43 (by rfl) (by rfl)
theorem ko_W_hasOnesUnder : Cond.code y_W_hasOnesUnder b_W_hasOnesUnder 4 (some .boolean) ∈ gw_WS ∧ Cond.initialized y_W_hasOnesUnder.cls ∈ gw_WS ∧ (y_W_hasOnesUnder.cls ≠ "java/lang/invoke/MethodHandle" ∧ y_W_hasOnesUnder.cls ≠ "java/lang/invoke/VarHandle" ∧ (parseMethodDescriptor y_W_hasOnesUnder.desc).map (fun d => d.parameters.length) = some 2) := ⟨kc_W_hasOnesUnder, gw_r1 2 (by decide +kernel) (by decide +kernel), by decide +kernel⟩
theorem ki_W_hasOnesUnder : Cond.instanceMethod y_W_hasOnesUnder ∈ gw_WS := gw_r3 42 (by decide +kernel) (by decide +kernel)
theorem kv_W_hasOnesUnder : Cond.selects y_W_hasOnesUnder.cls y_W_hasOnesUnder y_W_hasOnesUnder ∈ gw_WS := gw_sel 14 (by decide +kernel) (by decide +kernel)
abbrev b_W_lowestLimb : ByteArray := prog_4_method_28_code
def y_W_lowestLimb : MethodName := ⟨"LimbDesk$Whole", "lowestLimb", "()I"⟩
theorem kc_W_lowestLimb : Cond.code y_W_lowestLimb b_W_lowestLimb 2 (some .int) ∈ gw_WS := gw_r3 47 (by rfl) (by rfl)
theorem ko_W_lowestLimb : Cond.code y_W_lowestLimb b_W_lowestLimb 2 (some .int) ∈ gw_WS ∧ Cond.initialized y_W_lowestLimb.cls ∈ gw_WS ∧ (y_W_lowestLimb.cls ≠ "java/lang/invoke/MethodHandle" ∧ y_W_lowestLimb.cls ≠ "java/lang/invoke/VarHandle" ∧ (parseMethodDescriptor y_W_lowestLimb.desc).map (fun d => d.parameters.length) = some 0) := ⟨kc_W_lowestLimb, gw_r1 2 (by decide +kernel) (by decide +kernel), by decide +kernel⟩
theorem ki_W_lowestLimb : Cond.instanceMethod y_W_lowestLimb ∈ gw_WS := gw_r3 46 (by decide +kernel) (by decide +kernel)
theorem kv_W_lowestLimb : Cond.selects y_W_lowestLimb.cls y_W_lowestLimb y_W_lowestLimb ∈ gw_WS := gw_sel 15 (by decide +kernel) (by decide +kernel)
abbrev b_W_takeBits : ByteArray := prog_4_method_29_code
def y_W_takeBits : MethodName := ⟨"LimbDesk$Whole", "takeBits", "(ILLimbDesk$Whole;LLimbDesk$Whole;)V"⟩
theorem kc_W_takeBits : Cond.code y_W_takeBits b_W_takeBits 8 none ∈ gw_WS := gw_r3 59 (by rfl) (by rfl)
theorem ko_W_takeBits : Cond.code y_W_takeBits b_W_takeBits 8 none ∈ gw_WS ∧ Cond.initialized y_W_takeBits.cls ∈ gw_WS ∧ (y_W_takeBits.cls ≠ "java/lang/invoke/MethodHandle" ∧ y_W_takeBits.cls ≠ "java/lang/invoke/VarHandle" ∧ (parseMethodDescriptor y_W_takeBits.desc).map (fun d => d.parameters.length) = some 3) := ⟨kc_W_takeBits, gw_r1 2 (by decide +kernel) (by decide +kernel), by decide +kernel⟩
theorem ki_W_takeBits : Cond.instanceMethod y_W_takeBits ∈ gw_WS := gw_r3 57 (by decide +kernel) (by decide +kernel)
theorem kv_W_takeBits : Cond.selects y_W_takeBits.cls y_W_takeBits y_W_takeBits ∈ gw_WS := gw_r3 58 (by decide +kernel) (by decide +kernel)
abbrev b_W_joined : ByteArray := prog_4_method_30_code
def y_W_joined : MethodName := ⟨"LimbDesk$Whole", "joined", "(III)I"⟩
theorem kc_W_joined : Cond.code y_W_joined b_W_joined 3 (some .int) ∈ gw_WS := gw_r3 66 (by rfl) (by rfl)
theorem ko_W_joined : Cond.code y_W_joined b_W_joined 3 (some .int) ∈ gw_WS ∧ Cond.initialized y_W_joined.cls ∈ gw_WS ∧ (y_W_joined.cls ≠ "java/lang/invoke/MethodHandle" ∧ y_W_joined.cls ≠ "java/lang/invoke/VarHandle" ∧ (parseMethodDescriptor y_W_joined.desc).map (fun d => d.parameters.length) = some 3) := ⟨kc_W_joined, gw_r1 2 (by decide +kernel) (by decide +kernel), by decide +kernel⟩
theorem ks_W_joined : Cond.static y_W_joined ∈ gw_WS := gw_r3 65 (by decide +kernel) (by decide +kernel)
abbrev b_W_endlessLimb : ByteArray := prog_4_method_31_code
def y_W_endlessLimb : MethodName := ⟨"LimbDesk$Whole", "endlessLimb", "(II)I"⟩
theorem kc_W_endlessLimb : Cond.code y_W_endlessLimb b_W_endlessLimb 3 (some .int) ∈ gw_WS := gw_r3 63 (by rfl) (by rfl)
theorem ko_W_endlessLimb : Cond.code y_W_endlessLimb b_W_endlessLimb 3 (some .int) ∈ gw_WS ∧ Cond.initialized y_W_endlessLimb.cls ∈ gw_WS ∧ (y_W_endlessLimb.cls ≠ "java/lang/invoke/MethodHandle" ∧ y_W_endlessLimb.cls ≠ "java/lang/invoke/VarHandle" ∧ (parseMethodDescriptor y_W_endlessLimb.desc).map (fun d => d.parameters.length) = some 2) := ⟨kc_W_endlessLimb, gw_r1 2 (by decide +kernel) (by decide +kernel), by decide +kernel⟩
theorem ki_W_endlessLimb : Cond.instanceMethod y_W_endlessLimb ∈ gw_WS := gw_r3 62 (by decide +kernel) (by decide +kernel)
theorem kv_W_endlessLimb : Cond.selects y_W_endlessLimb.cls y_W_endlessLimb y_W_endlessLimb ∈ gw_WS := gw_sel 16 (by decide +kernel) (by decide +kernel)
abbrev b_D_init : ByteArray := prog_2_method_1_code
def y_D_init : MethodName := ⟨"LimbDesk$Divider", "<init>", "()V"⟩
theorem kc_D_init : Cond.code y_D_init b_D_init 1 none ∈ gw_WS := gw_r1 70 (by rfl) (by rfl)
theorem ko_D_init : Cond.code y_D_init b_D_init 1 none ∈ gw_WS ∧ Cond.initialized y_D_init.cls ∈ gw_WS ∧ (y_D_init.cls ≠ "java/lang/invoke/MethodHandle" ∧ y_D_init.cls ≠ "java/lang/invoke/VarHandle" ∧ (parseMethodDescriptor y_D_init.desc).map (fun d => d.parameters.length) = some 0) := ⟨kc_D_init, gw_r1 4 (by decide +kernel) (by decide +kernel), by decide +kernel⟩
theorem ki_D_init : Cond.instanceMethod y_D_init ∈ gw_WS := gw_r1 69 (by decide +kernel) (by decide +kernel)
abbrev b_D_cutSigned : ByteArray := prog_2_method_2_code
def y_D_cutSigned : MethodName := ⟨"LimbDesk$Divider", "cutSigned", "(LLimbDesk$Whole;LLimbDesk$Whole;)V"⟩
theorem kc_D_cutSigned : Cond.code y_D_cutSigned b_D_cutSigned 3 none ∈ gw_WS := gw_r2 213 (by rfl) (by rfl)
theorem ko_D_cutSigned : Cond.code y_D_cutSigned b_D_cutSigned 3 none ∈ gw_WS ∧ Cond.initialized y_D_cutSigned.cls ∈ gw_WS ∧ (y_D_cutSigned.cls ≠ "java/lang/invoke/MethodHandle" ∧ y_D_cutSigned.cls ≠ "java/lang/invoke/VarHandle" ∧ (parseMethodDescriptor y_D_cutSigned.desc).map (fun d => d.parameters.length) = some 2) := ⟨kc_D_cutSigned, gw_r1 4 (by decide +kernel) (by decide +kernel), by decide +kernel⟩
theorem ki_D_cutSigned : Cond.instanceMethod y_D_cutSigned ∈ gw_WS := gw_r2 211 (by decide +kernel) (by decide +kernel)
theorem kv_D_cutSigned : Cond.selects y_D_cutSigned.cls y_D_cutSigned y_D_cutSigned ∈ gw_WS := gw_r2 212 (by decide +kernel) (by decide +kernel)
abbrev b_D_roundDown : ByteArray := prog_2_method_3_code
def y_D_roundDown : MethodName := ⟨"LimbDesk$Divider", "roundDown", "(LLimbDesk$Whole;)V"⟩
theorem kc_D_roundDown : Cond.code y_D_roundDown b_D_roundDown 2 none ∈ gw_WS := gw_r3 15 (by rfl) (by rfl)
theorem ko_D_roundDown : Cond.code y_D_roundDown b_D_roundDown 2 none ∈ gw_WS ∧ Cond.initialized y_D_roundDown.cls ∈ gw_WS ∧ (y_D_roundDown.cls ≠ "java/lang/invoke/MethodHandle" ∧ y_D_roundDown.cls ≠ "java/lang/invoke/VarHandle" ∧ (parseMethodDescriptor y_D_roundDown.desc).map (fun d => d.parameters.length) = some 1) := ⟨kc_D_roundDown, gw_r1 4 (by decide +kernel) (by decide +kernel), by decide +kernel⟩
theorem ki_D_roundDown : Cond.instanceMethod y_D_roundDown ∈ gw_WS := gw_r3 13 (by decide +kernel) (by decide +kernel)
theorem kv_D_roundDown : Cond.selects y_D_roundDown.cls y_D_roundDown y_D_roundDown ∈ gw_WS := gw_r3 14 (by decide +kernel) (by decide +kernel)
abbrev b_D_cut : ByteArray := prog_2_method_4_code
def y_D_cut : MethodName := ⟨"LimbDesk$Divider", "cut", "(LLimbDesk$Whole;LLimbDesk$Whole;)V"⟩
theorem kc_D_cut : Cond.code y_D_cut b_D_cut 7 none ∈ gw_WS := gw_r2 217 (by rfl) (by rfl)
theorem ko_D_cut : Cond.code y_D_cut b_D_cut 7 none ∈ gw_WS ∧ Cond.initialized y_D_cut.cls ∈ gw_WS ∧ (y_D_cut.cls ≠ "java/lang/invoke/MethodHandle" ∧ y_D_cut.cls ≠ "java/lang/invoke/VarHandle" ∧ (parseMethodDescriptor y_D_cut.desc).map (fun d => d.parameters.length) = some 2) := ⟨kc_D_cut, gw_r1 4 (by decide +kernel) (by decide +kernel), by decide +kernel⟩
theorem ki_D_cut : Cond.instanceMethod y_D_cut ∈ gw_WS := gw_r2 215 (by decide +kernel) (by decide +kernel)
theorem kv_D_cut : Cond.selects y_D_cut.cls y_D_cut y_D_cut ∈ gw_WS := gw_r2 216 (by decide +kernel) (by decide +kernel)
abbrev b_D_digitAt : ByteArray := prog_2_method_5_code
def y_D_digitAt : MethodName := ⟨"LimbDesk$Divider", "digitAt", "(II)I"⟩
theorem kc_D_digitAt : Cond.code y_D_digitAt b_D_digitAt 5 (some .int) ∈ gw_WS := gw_r2 230 (by rfl) (by rfl)
theorem ko_D_digitAt : Cond.code y_D_digitAt b_D_digitAt 5 (some .int) ∈ gw_WS ∧ Cond.initialized y_D_digitAt.cls ∈ gw_WS ∧ (y_D_digitAt.cls ≠ "java/lang/invoke/MethodHandle" ∧ y_D_digitAt.cls ≠ "java/lang/invoke/VarHandle" ∧ (parseMethodDescriptor y_D_digitAt.desc).map (fun d => d.parameters.length) = some 2) := ⟨kc_D_digitAt, gw_r1 4 (by decide +kernel) (by decide +kernel), by decide +kernel⟩
theorem ki_D_digitAt : Cond.instanceMethod y_D_digitAt ∈ gw_WS := gw_r2 229 (by decide +kernel) (by decide +kernel)
theorem kv_D_digitAt : Cond.selects y_D_digitAt.cls y_D_digitAt y_D_digitAt ∈ gw_WS := gw_sel 9 (by decide +kernel) (by decide +kernel)
abbrev b_D_guessAt : ByteArray := prog_2_method_6_code
def y_D_guessAt : MethodName := ⟨"LimbDesk$Divider", "guessAt", "(II)J"⟩
theorem kc_D_guessAt : Cond.code y_D_guessAt b_D_guessAt 16 (some .long) ∈ gw_WS := gw_r2 234 (by rfl) (by rfl)
theorem ko_D_guessAt : Cond.code y_D_guessAt b_D_guessAt 16 (some .long) ∈ gw_WS ∧ Cond.initialized y_D_guessAt.cls ∈ gw_WS ∧ (y_D_guessAt.cls ≠ "java/lang/invoke/MethodHandle" ∧ y_D_guessAt.cls ≠ "java/lang/invoke/VarHandle" ∧ (parseMethodDescriptor y_D_guessAt.desc).map (fun d => d.parameters.length) = some 2) := ⟨kc_D_guessAt, gw_r1 4 (by decide +kernel) (by decide +kernel), by decide +kernel⟩
theorem ki_D_guessAt : Cond.instanceMethod y_D_guessAt ∈ gw_WS := gw_r2 233 (by decide +kernel) (by decide +kernel)
theorem kv_D_guessAt : Cond.selects y_D_guessAt.cls y_D_guessAt y_D_guessAt ∈ gw_WS := gw_sel 10 (by decide +kernel) (by decide +kernel)
abbrev b_D_takeAway : ByteArray := prog_2_method_7_code
def y_D_takeAway : MethodName := ⟨"LimbDesk$Divider", "takeAway", "(JII)Z"⟩
theorem kc_D_takeAway : Cond.code y_D_takeAway b_D_takeAway 10 (some .boolean) ∈ gw_WS := gw_r3 2 (by rfl) (by rfl)
theorem ko_D_takeAway : Cond.code y_D_takeAway b_D_takeAway 10 (some .boolean) ∈ gw_WS ∧ Cond.initialized y_D_takeAway.cls ∈ gw_WS ∧ (y_D_takeAway.cls ≠ "java/lang/invoke/MethodHandle" ∧ y_D_takeAway.cls ≠ "java/lang/invoke/VarHandle" ∧ (parseMethodDescriptor y_D_takeAway.desc).map (fun d => d.parameters.length) = some 3) := ⟨kc_D_takeAway, gw_r1 4 (by decide +kernel) (by decide +kernel), by decide +kernel⟩
theorem ki_D_takeAway : Cond.instanceMethod y_D_takeAway ∈ gw_WS := gw_r3 1 (by decide +kernel) (by decide +kernel)
theorem kv_D_takeAway : Cond.selects y_D_takeAway.cls y_D_takeAway y_D_takeAway ∈ gw_WS := gw_sel 11 (by decide +kernel) (by decide +kernel)
abbrev b_D_giveBack : ByteArray := prog_2_method_8_code
def y_D_giveBack : MethodName := ⟨"LimbDesk$Divider", "giveBack", "(II)V"⟩
theorem kc_D_giveBack : Cond.code y_D_giveBack b_D_giveBack 8 none ∈ gw_WS := gw_r3 6 (by rfl) (by rfl)
theorem ko_D_giveBack : Cond.code y_D_giveBack b_D_giveBack 8 none ∈ gw_WS ∧ Cond.initialized y_D_giveBack.cls ∈ gw_WS ∧ (y_D_giveBack.cls ≠ "java/lang/invoke/MethodHandle" ∧ y_D_giveBack.cls ≠ "java/lang/invoke/VarHandle" ∧ (parseMethodDescriptor y_D_giveBack.desc).map (fun d => d.parameters.length) = some 2) := ⟨kc_D_giveBack, gw_r1 4 (by decide +kernel) (by decide +kernel), by decide +kernel⟩
theorem ki_D_giveBack : Cond.instanceMethod y_D_giveBack ∈ gw_WS := gw_r3 5 (by decide +kernel) (by decide +kernel)
theorem kv_D_giveBack : Cond.selects y_D_giveBack.cls y_D_giveBack y_D_giveBack ∈ gw_WS := gw_sel 12 (by decide +kernel) (by decide +kernel)
abbrev b_D_lowerRest : ByteArray := prog_2_method_9_code
def y_D_lowerRest : MethodName := ⟨"LimbDesk$Divider", "lowerRest", "(II)V"⟩
theorem kc_D_lowerRest : Cond.code y_D_lowerRest b_D_lowerRest 6 none ∈ gw_WS := gw_r3 11 (by rfl) (by rfl)
theorem ko_D_lowerRest : Cond.code y_D_lowerRest b_D_lowerRest 6 none ∈ gw_WS ∧ Cond.initialized y_D_lowerRest.cls ∈ gw_WS ∧ (y_D_lowerRest.cls ≠ "java/lang/invoke/MethodHandle" ∧ y_D_lowerRest.cls ≠ "java/lang/invoke/VarHandle" ∧ (parseMethodDescriptor y_D_lowerRest.desc).map (fun d => d.parameters.length) = some 2) := ⟨kc_D_lowerRest, gw_r1 4 (by decide +kernel) (by decide +kernel), by decide +kernel⟩
theorem ki_D_lowerRest : Cond.instanceMethod y_D_lowerRest ∈ gw_WS := gw_r3 10 (by decide +kernel) (by decide +kernel)
theorem kv_D_lowerRest : Cond.selects y_D_lowerRest.cls y_D_lowerRest y_D_lowerRest ∈ gw_WS := gw_sel 13 (by decide +kernel) (by decide +kernel)
abbrev b_T_init : ByteArray := prog_3_method_1_code
def y_T_init : MethodName := ⟨"LimbDesk$Letters", "<init>", "()V"⟩
theorem kc_T_init : Cond.code y_T_init b_T_init 1 none ∈ gw_WS := gw_r1 54 (by rfl) (by rfl)
theorem ko_T_init : Cond.code y_T_init b_T_init 1 none ∈ gw_WS ∧ Cond.initialized y_T_init.cls ∈ gw_WS ∧ (y_T_init.cls ≠ "java/lang/invoke/MethodHandle" ∧ y_T_init.cls ≠ "java/lang/invoke/VarHandle" ∧ (parseMethodDescriptor y_T_init.desc).map (fun d => d.parameters.length) = some 0) := ⟨kc_T_init, gw_r1 3 (by decide +kernel) (by decide +kernel), by decide +kernel⟩
theorem ki_T_init : Cond.instanceMethod y_T_init ∈ gw_WS := gw_r1 53 (by decide +kernel) (by decide +kernel)
abbrev b_T_countIn : ByteArray := prog_3_method_2_code
def y_T_countIn : MethodName := ⟨"LimbDesk$Letters", "countIn", "(J)I"⟩
theorem kc_T_countIn : Cond.code y_T_countIn b_T_countIn 4 (some .int) ∈ gw_WS := gw_r1 219 (by rfl) (by rfl)
theorem ko_T_countIn : Cond.code y_T_countIn b_T_countIn 4 (some .int) ∈ gw_WS ∧ Cond.initialized y_T_countIn.cls ∈ gw_WS ∧ (y_T_countIn.cls ≠ "java/lang/invoke/MethodHandle" ∧ y_T_countIn.cls ≠ "java/lang/invoke/VarHandle" ∧ (parseMethodDescriptor y_T_countIn.desc).map (fun d => d.parameters.length) = some 1) := ⟨kc_T_countIn, gw_r1 3 (by decide +kernel) (by decide +kernel), by decide +kernel⟩
theorem ks_T_countIn : Cond.static y_T_countIn ∈ gw_WS := gw_r1 218 (by decide +kernel) (by decide +kernel)
abbrev b_T_octetOf : ByteArray := prog_3_method_3_code
def y_T_octetOf : MethodName := ⟨"LimbDesk$Letters", "octetOf", "(JI)I"⟩
theorem kc_T_octetOf : Cond.code y_T_octetOf b_T_octetOf 3 (some .int) ∈ gw_WS := gw_r1 222 (by rfl) (by rfl)
theorem ko_T_octetOf : Cond.code y_T_octetOf b_T_octetOf 3 (some .int) ∈ gw_WS ∧ Cond.initialized y_T_octetOf.cls ∈ gw_WS ∧ (y_T_octetOf.cls ≠ "java/lang/invoke/MethodHandle" ∧ y_T_octetOf.cls ≠ "java/lang/invoke/VarHandle" ∧ (parseMethodDescriptor y_T_octetOf.desc).map (fun d => d.parameters.length) = some 2) := ⟨kc_T_octetOf, gw_r1 3 (by decide +kernel) (by decide +kernel), by decide +kernel⟩
theorem ks_T_octetOf : Cond.static y_T_octetOf ∈ gw_WS := gw_r1 221 (by decide +kernel) (by decide +kernel)
abbrev b_T_append : ByteArray := prog_3_method_4_code
def y_T_append : MethodName := ⟨"LimbDesk$Letters", "append", "(JI)V"⟩
theorem kc_T_append : Cond.code y_T_append b_T_append 5 none ∈ gw_WS := gw_r2 3 (by rfl) (by rfl)
theorem ko_T_append : Cond.code y_T_append b_T_append 5 none ∈ gw_WS ∧ Cond.initialized y_T_append.cls ∈ gw_WS ∧ (y_T_append.cls ≠ "java/lang/invoke/MethodHandle" ∧ y_T_append.cls ≠ "java/lang/invoke/VarHandle" ∧ (parseMethodDescriptor y_T_append.desc).map (fun d => d.parameters.length) = some 2) := ⟨kc_T_append, gw_r1 3 (by decide +kernel) (by decide +kernel), by decide +kernel⟩
theorem ki_T_append : Cond.instanceMethod y_T_append ∈ gw_WS := gw_r2 1 (by decide +kernel) (by decide +kernel)
theorem kv_T_append : Cond.selects y_T_append.cls y_T_append y_T_append ∈ gw_WS := gw_r2 2 (by decide +kernel) (by decide +kernel)
abbrev b_T_put : ByteArray := prog_3_method_5_code
def y_T_put : MethodName := ⟨"LimbDesk$Letters", "put", "(I)V"⟩
theorem kc_T_put : Cond.code y_T_put b_T_put 2 none ∈ gw_WS := gw_r2 7 (by rfl) (by rfl)
theorem ko_T_put : Cond.code y_T_put b_T_put 2 none ∈ gw_WS ∧ Cond.initialized y_T_put.cls ∈ gw_WS ∧ (y_T_put.cls ≠ "java/lang/invoke/MethodHandle" ∧ y_T_put.cls ≠ "java/lang/invoke/VarHandle" ∧ (parseMethodDescriptor y_T_put.desc).map (fun d => d.parameters.length) = some 1) := ⟨kc_T_put, gw_r1 3 (by decide +kernel) (by decide +kernel), by decide +kernel⟩
theorem ki_T_put : Cond.instanceMethod y_T_put ∈ gw_WS := gw_r2 6 (by decide +kernel) (by decide +kernel)
theorem kv_T_put : Cond.selects y_T_put.cls y_T_put y_T_put ∈ gw_WS := gw_sel 1 (by decide +kernel) (by decide +kernel)
abbrev b_T_haveMinus : ByteArray := prog_3_method_6_code
def y_T_haveMinus : MethodName := ⟨"LimbDesk$Letters", "haveMinus", "()Z"⟩
theorem kc_T_haveMinus : Cond.code y_T_haveMinus b_T_haveMinus 1 (some .boolean) ∈ gw_WS := gw_r2 26 (by rfl) (by rfl)
theorem ko_T_haveMinus : Cond.code y_T_haveMinus b_T_haveMinus 1 (some .boolean) ∈ gw_WS ∧ Cond.initialized y_T_haveMinus.cls ∈ gw_WS ∧ (y_T_haveMinus.cls ≠ "java/lang/invoke/MethodHandle" ∧ y_T_haveMinus.cls ≠ "java/lang/invoke/VarHandle" ∧ (parseMethodDescriptor y_T_haveMinus.desc).map (fun d => d.parameters.length) = some 0) := ⟨kc_T_haveMinus, gw_r1 3 (by decide +kernel) (by decide +kernel), by decide +kernel⟩
theorem ki_T_haveMinus : Cond.instanceMethod y_T_haveMinus ∈ gw_WS := gw_r2 25 (by decide +kernel) (by decide +kernel)
theorem kv_T_haveMinus : Cond.selects y_T_haveMinus.cls y_T_haveMinus y_T_haveMinus ∈ gw_WS := gw_sel 2 (by decide +kernel) (by decide +kernel)
abbrev b_T_areNumber : ByteArray := prog_3_method_7_code
def y_T_areNumber : MethodName := ⟨"LimbDesk$Letters", "areNumber", "(I)Z"⟩
theorem kc_T_areNumber : Cond.code y_T_areNumber b_T_areNumber 4 (some .boolean) ∈ gw_WS := gw_r2 22 (by rfl) (by rfl)
theorem ko_T_areNumber : Cond.code y_T_areNumber b_T_areNumber 4 (some .boolean) ∈ gw_WS ∧ Cond.initialized y_T_areNumber.cls ∈ gw_WS ∧ (y_T_areNumber.cls ≠ "java/lang/invoke/MethodHandle" ∧ y_T_areNumber.cls ≠ "java/lang/invoke/VarHandle" ∧ (parseMethodDescriptor y_T_areNumber.desc).map (fun d => d.parameters.length) = some 1) := ⟨kc_T_areNumber, gw_r1 3 (by decide +kernel) (by decide +kernel), by decide +kernel⟩
theorem ki_T_areNumber : Cond.instanceMethod y_T_areNumber ∈ gw_WS := gw_r2 20 (by decide +kernel) (by decide +kernel)
theorem kv_T_areNumber : Cond.selects y_T_areNumber.cls y_T_areNumber y_T_areNumber ∈ gw_WS := gw_r2 21 (by decide +kernel) (by decide +kernel)
abbrev b_T_digitOf : ByteArray := prog_3_method_8_code
def y_T_digitOf : MethodName := ⟨"LimbDesk$Letters", "digitOf", "(I)I"⟩
theorem kc_T_digitOf : Cond.code y_T_digitOf b_T_digitOf 1 (some .int) ∈ gw_WS := gw_r2 29 (by rfl) (by rfl)
theorem ko_T_digitOf : Cond.code y_T_digitOf b_T_digitOf 1 (some .int) ∈ gw_WS ∧ Cond.initialized y_T_digitOf.cls ∈ gw_WS ∧ (y_T_digitOf.cls ≠ "java/lang/invoke/MethodHandle" ∧ y_T_digitOf.cls ≠ "java/lang/invoke/VarHandle" ∧ (parseMethodDescriptor y_T_digitOf.desc).map (fun d => d.parameters.length) = some 1) := ⟨kc_T_digitOf, gw_r1 3 (by decide +kernel) (by decide +kernel), by decide +kernel⟩
theorem ks_T_digitOf : Cond.static y_T_digitOf ∈ gw_WS := gw_r2 28 (by decide +kernel) (by decide +kernel)
abbrev b_T_writeTo : ByteArray := prog_3_method_9_code
def y_T_writeTo : MethodName := ⟨"LimbDesk$Letters", "writeTo", "(LLimbDesk$Whole;I)V"⟩
theorem kc_T_writeTo : Cond.code y_T_writeTo b_T_writeTo 8 none ∈ gw_WS := gw_r2 33 (by rfl) (by rfl)
theorem ko_T_writeTo : Cond.code y_T_writeTo b_T_writeTo 8 none ∈ gw_WS ∧ Cond.initialized y_T_writeTo.cls ∈ gw_WS ∧ (y_T_writeTo.cls ≠ "java/lang/invoke/MethodHandle" ∧ y_T_writeTo.cls ≠ "java/lang/invoke/VarHandle" ∧ (parseMethodDescriptor y_T_writeTo.desc).map (fun d => d.parameters.length) = some 2) := ⟨kc_T_writeTo, gw_r1 3 (by decide +kernel) (by decide +kernel), by decide +kernel⟩
theorem ki_T_writeTo : Cond.instanceMethod y_T_writeTo ∈ gw_WS := gw_r2 31 (by decide +kernel) (by decide +kernel)
theorem kv_T_writeTo : Cond.selects y_T_writeTo.cls y_T_writeTo y_T_writeTo ∈ gw_WS := gw_r2 32 (by decide +kernel) (by decide +kernel)
abbrev b_T_takeNumber : ByteArray := prog_3_method_10_code
def y_T_takeNumber : MethodName := ⟨"LimbDesk$Letters", "takeNumber", "(LLimbDesk$Whole;I)V"⟩
theorem kc_T_takeNumber : Cond.code y_T_takeNumber b_T_takeNumber 8 none ∈ gw_WS := gw_r2 83 (by rfl) (by rfl)
theorem ko_T_takeNumber : Cond.code y_T_takeNumber b_T_takeNumber 8 none ∈ gw_WS ∧ Cond.initialized y_T_takeNumber.cls ∈ gw_WS ∧ (y_T_takeNumber.cls ≠ "java/lang/invoke/MethodHandle" ∧ y_T_takeNumber.cls ≠ "java/lang/invoke/VarHandle" ∧ (parseMethodDescriptor y_T_takeNumber.desc).map (fun d => d.parameters.length) = some 2) := ⟨kc_T_takeNumber, gw_r1 3 (by decide +kernel) (by decide +kernel), by decide +kernel⟩
theorem ki_T_takeNumber : Cond.instanceMethod y_T_takeNumber ∈ gw_WS := gw_r2 81 (by decide +kernel) (by decide +kernel)
theorem kv_T_takeNumber : Cond.selects y_T_takeNumber.cls y_T_takeNumber y_T_takeNumber ∈ gw_WS := gw_r2 82 (by decide +kernel) (by decide +kernel)
abbrev b_T_digitsInLimb : ByteArray := prog_3_method_11_code
def y_T_digitsInLimb : MethodName := ⟨"LimbDesk$Letters", "digitsInLimb", "(I)I"⟩
theorem kc_T_digitsInLimb : Cond.code y_T_digitsInLimb b_T_digitsInLimb 4 (some .int) ∈ gw_WS := gw_r2 86 (by rfl) (by rfl)
theorem ko_T_digitsInLimb : Cond.code y_T_digitsInLimb b_T_digitsInLimb 4 (some .int) ∈ gw_WS ∧ Cond.initialized y_T_digitsInLimb.cls ∈ gw_WS ∧ (y_T_digitsInLimb.cls ≠ "java/lang/invoke/MethodHandle" ∧ y_T_digitsInLimb.cls ≠ "java/lang/invoke/VarHandle" ∧ (parseMethodDescriptor y_T_digitsInLimb.desc).map (fun d => d.parameters.length) = some 1) := ⟨kc_T_digitsInLimb, gw_r1 3 (by decide +kernel) (by decide +kernel), by decide +kernel⟩
theorem ks_T_digitsInLimb : Cond.static y_T_digitsInLimb ∈ gw_WS := gw_r2 85 (by decide +kernel) (by decide +kernel)
abbrev b_T_powerOf : ByteArray := prog_3_method_12_code
def y_T_powerOf : MethodName := ⟨"LimbDesk$Letters", "powerOf", "(II)I"⟩
theorem kc_T_powerOf : Cond.code y_T_powerOf b_T_powerOf 4 (some .int) ∈ gw_WS := gw_r2 89 (by rfl) (by rfl)
theorem ko_T_powerOf : Cond.code y_T_powerOf b_T_powerOf 4 (some .int) ∈ gw_WS ∧ Cond.initialized y_T_powerOf.cls ∈ gw_WS ∧ (y_T_powerOf.cls ≠ "java/lang/invoke/MethodHandle" ∧ y_T_powerOf.cls ≠ "java/lang/invoke/VarHandle" ∧ (parseMethodDescriptor y_T_powerOf.desc).map (fun d => d.parameters.length) = some 2) := ⟨kc_T_powerOf, gw_r1 3 (by decide +kernel) (by decide +kernel), by decide +kernel⟩
theorem ks_T_powerOf : Cond.static y_T_powerOf ∈ gw_WS := gw_r2 88 (by decide +kernel) (by decide +kernel)
abbrev b_T_putDigits : ByteArray := prog_3_method_13_code
def y_T_putDigits : MethodName := ⟨"LimbDesk$Letters", "putDigits", "(III)V"⟩
theorem kc_T_putDigits : Cond.code y_T_putDigits b_T_putDigits 6 none ∈ gw_WS := gw_r2 97 (by rfl) (by rfl)
theorem ko_T_putDigits : Cond.code y_T_putDigits b_T_putDigits 6 none ∈ gw_WS ∧ Cond.initialized y_T_putDigits.cls ∈ gw_WS ∧ (y_T_putDigits.cls ≠ "java/lang/invoke/MethodHandle" ∧ y_T_putDigits.cls ≠ "java/lang/invoke/VarHandle" ∧ (parseMethodDescriptor y_T_putDigits.desc).map (fun d => d.parameters.length) = some 3) := ⟨kc_T_putDigits, gw_r1 3 (by decide +kernel) (by decide +kernel), by decide +kernel⟩
theorem ki_T_putDigits : Cond.instanceMethod y_T_putDigits ∈ gw_WS := gw_r2 96 (by decide +kernel) (by decide +kernel)
theorem kv_T_putDigits : Cond.selects y_T_putDigits.cls y_T_putDigits y_T_putDigits ∈ gw_WS := gw_sel 4 (by decide +kernel) (by decide +kernel)
abbrev b_T_turnRound : ByteArray := prog_3_method_14_code
def y_T_turnRound : MethodName := ⟨"LimbDesk$Letters", "turnRound", "()V"⟩
theorem kc_T_turnRound : Cond.code y_T_turnRound b_T_turnRound 3 none ∈ gw_WS := gw_r2 142 (by rfl) (by rfl)
theorem ko_T_turnRound : Cond.code y_T_turnRound b_T_turnRound 3 none ∈ gw_WS ∧ Cond.initialized y_T_turnRound.cls ∈ gw_WS ∧ (y_T_turnRound.cls ≠ "java/lang/invoke/MethodHandle" ∧ y_T_turnRound.cls ≠ "java/lang/invoke/VarHandle" ∧ (parseMethodDescriptor y_T_turnRound.desc).map (fun d => d.parameters.length) = some 0) := ⟨kc_T_turnRound, gw_r1 3 (by decide +kernel) (by decide +kernel), by decide +kernel⟩
theorem ki_T_turnRound : Cond.instanceMethod y_T_turnRound ∈ gw_WS := gw_r2 141 (by decide +kernel) (by decide +kernel)
theorem kv_T_turnRound : Cond.selects y_T_turnRound.cls y_T_turnRound y_T_turnRound ∈ gw_WS := gw_sel 5 (by decide +kernel) (by decide +kernel)
abbrev b_K_init : ByteArray := prog_1_method_1_code
def y_K_init : MethodName := ⟨"LimbDesk", "<init>", "()V"⟩
theorem kc_K_init : Cond.code y_K_init b_K_init 2 none ∈ gw_WS := gw_r1 22 (by rfl) (by rfl)
theorem ko_K_init : Cond.code y_K_init b_K_init 2 none ∈ gw_WS ∧ Cond.initialized y_K_init.cls ∈ gw_WS ∧ (y_K_init.cls ≠ "java/lang/invoke/MethodHandle" ∧ y_K_init.cls ≠ "java/lang/invoke/VarHandle" ∧ (parseMethodDescriptor y_K_init.desc).map (fun d => d.parameters.length) = some 0) := ⟨kc_K_init, gw_r1 1 (by decide +kernel) (by decide +kernel), by decide +kernel⟩
theorem ki_K_init : Cond.instanceMethod y_K_init ∈ gw_WS := gw_r1 21 (by decide +kernel) (by decide +kernel)
abbrev b_K_set : ByteArray := prog_1_method_2_code
def y_K_set : MethodName := ⟨"LimbDesk", "set", "(IJ)I"⟩
theorem kc_K_set : Cond.code y_K_set b_K_set 5 (some .int) ∈ gw_WS := gw_r1 115 (by rfl) (by rfl)
theorem ko_K_set : Cond.code y_K_set b_K_set 5 (some .int) ∈ gw_WS ∧ Cond.initialized y_K_set.cls ∈ gw_WS ∧ (y_K_set.cls ≠ "java/lang/invoke/MethodHandle" ∧ y_K_set.cls ≠ "java/lang/invoke/VarHandle" ∧ (parseMethodDescriptor y_K_set.desc).map (fun d => d.parameters.length) = some 2) := ⟨kc_K_set, gw_r1 1 (by decide +kernel) (by decide +kernel), by decide +kernel⟩
theorem ki_K_set : Cond.instanceMethod y_K_set ∈ gw_WS := gw_r1 113 (by decide +kernel) (by decide +kernel)
theorem kv_K_set : Cond.selects y_K_set.cls y_K_set y_K_set ∈ gw_WS := gw_r1 114 (by decide +kernel) (by decide +kernel)
abbrev b_K_line : ByteArray := prog_1_method_3_code
def y_K_line : MethodName := ⟨"LimbDesk", "line", "(J)I"⟩
theorem kc_K_line : Cond.code y_K_line b_K_line 4 (some .int) ∈ gw_WS := gw_r1 216 (by rfl) (by rfl)
theorem ko_K_line : Cond.code y_K_line b_K_line 4 (some .int) ∈ gw_WS ∧ Cond.initialized y_K_line.cls ∈ gw_WS ∧ (y_K_line.cls ≠ "java/lang/invoke/MethodHandle" ∧ y_K_line.cls ≠ "java/lang/invoke/VarHandle" ∧ (parseMethodDescriptor y_K_line.desc).map (fun d => d.parameters.length) = some 1) := ⟨kc_K_line, gw_r1 1 (by decide +kernel) (by decide +kernel), by decide +kernel⟩
theorem ki_K_line : Cond.instanceMethod y_K_line ∈ gw_WS := gw_r1 214 (by decide +kernel) (by decide +kernel)
theorem kv_K_line : Cond.selects y_K_line.cls y_K_line y_K_line ∈ gw_WS := gw_r1 215 (by decide +kernel) (by decide +kernel)
abbrev b_K_read : ByteArray := prog_1_method_4_code
def y_K_read : MethodName := ⟨"LimbDesk", "read", "(II)I"⟩
theorem kc_K_read : Cond.code y_K_read b_K_read 4 (some .int) ∈ gw_WS := gw_r2 15 (by rfl) (by rfl)
theorem ko_K_read : Cond.code y_K_read b_K_read 4 (some .int) ∈ gw_WS ∧ Cond.initialized y_K_read.cls ∈ gw_WS ∧ (y_K_read.cls ≠ "java/lang/invoke/MethodHandle" ∧ y_K_read.cls ≠ "java/lang/invoke/VarHandle" ∧ (parseMethodDescriptor y_K_read.desc).map (fun d => d.parameters.length) = some 2) := ⟨kc_K_read, gw_r1 1 (by decide +kernel) (by decide +kernel), by decide +kernel⟩
theorem ki_K_read : Cond.instanceMethod y_K_read ∈ gw_WS := gw_r2 13 (by decide +kernel) (by decide +kernel)
theorem kv_K_read : Cond.selects y_K_read.cls y_K_read y_K_read ∈ gw_WS := gw_r2 14 (by decide +kernel) (by decide +kernel)
abbrev b_K_show : ByteArray := prog_1_method_5_code
def y_K_show : MethodName := ⟨"LimbDesk", "show", "(II)I"⟩
theorem kc_K_show : Cond.code y_K_show b_K_show 3 (some .int) ∈ gw_WS := gw_r2 78 (by rfl) (by rfl)
theorem ko_K_show : Cond.code y_K_show b_K_show 3 (some .int) ∈ gw_WS ∧ Cond.initialized y_K_show.cls ∈ gw_WS ∧ (y_K_show.cls ≠ "java/lang/invoke/MethodHandle" ∧ y_K_show.cls ≠ "java/lang/invoke/VarHandle" ∧ (parseMethodDescriptor y_K_show.desc).map (fun d => d.parameters.length) = some 2) := ⟨kc_K_show, gw_r1 1 (by decide +kernel) (by decide +kernel), by decide +kernel⟩
theorem ki_K_show : Cond.instanceMethod y_K_show ∈ gw_WS := gw_r2 76 (by decide +kernel) (by decide +kernel)
theorem kv_K_show : Cond.selects y_K_show.cls y_K_show y_K_show ∈ gw_WS := gw_r2 77 (by decide +kernel) (by decide +kernel)
abbrev b_K_letter : ByteArray := prog_1_method_6_code
def y_K_letter : MethodName := ⟨"LimbDesk", "letter", "(I)I"⟩
theorem kc_K_letter : Cond.code y_K_letter b_K_letter 2 (some .int) ∈ gw_WS := gw_r2 149 (by rfl) (by rfl)
theorem ko_K_letter : Cond.code y_K_letter b_K_letter 2 (some .int) ∈ gw_WS ∧ Cond.initialized y_K_letter.cls ∈ gw_WS ∧ (y_K_letter.cls ≠ "java/lang/invoke/MethodHandle" ∧ y_K_letter.cls ≠ "java/lang/invoke/VarHandle" ∧ (parseMethodDescriptor y_K_letter.desc).map (fun d => d.parameters.length) = some 1) := ⟨kc_K_letter, gw_r1 1 (by decide +kernel) (by decide +kernel), by decide +kernel⟩
theorem ki_K_letter : Cond.instanceMethod y_K_letter ∈ gw_WS := gw_r2 147 (by decide +kernel) (by decide +kernel)
theorem kv_K_letter : Cond.selects y_K_letter.cls y_K_letter y_K_letter ∈ gw_WS := gw_r2 148 (by decide +kernel) (by decide +kernel)
abbrev b_K_work : ByteArray := prog_1_method_7_code
def y_K_work : MethodName := ⟨"LimbDesk", "work", "(IIII)I"⟩
theorem kc_K_work : Cond.code y_K_work b_K_work 7 (some .int) ∈ gw_WS := gw_r2 157 (by rfl) (by rfl)
theorem ko_K_work : Cond.code y_K_work b_K_work 7 (some .int) ∈ gw_WS ∧ Cond.initialized y_K_work.cls ∈ gw_WS ∧ (y_K_work.cls ≠ "java/lang/invoke/MethodHandle" ∧ y_K_work.cls ≠ "java/lang/invoke/VarHandle" ∧ (parseMethodDescriptor y_K_work.desc).map (fun d => d.parameters.length) = some 4) := ⟨kc_K_work, gw_r1 1 (by decide +kernel) (by decide +kernel), by decide +kernel⟩
theorem ki_K_work : Cond.instanceMethod y_K_work ∈ gw_WS := gw_r2 155 (by decide +kernel) (by decide +kernel)
theorem kv_K_work : Cond.selects y_K_work.cls y_K_work y_K_work ∈ gw_WS := gw_r2 156 (by decide +kernel) (by decide +kernel)
abbrev b_K_divide : ByteArray := prog_1_method_8_code
def y_K_divide : MethodName := ⟨"LimbDesk", "divide", "(ZIIII)I"⟩
theorem kc_K_divide : Cond.code y_K_divide b_K_divide 7 (some .int) ∈ gw_WS := gw_r2 207 (by rfl) (by rfl)
theorem ko_K_divide : Cond.code y_K_divide b_K_divide 7 (some .int) ∈ gw_WS ∧ Cond.initialized y_K_divide.cls ∈ gw_WS ∧ (y_K_divide.cls ≠ "java/lang/invoke/MethodHandle" ∧ y_K_divide.cls ≠ "java/lang/invoke/VarHandle" ∧ (parseMethodDescriptor y_K_divide.desc).map (fun d => d.parameters.length) = some 5) := ⟨kc_K_divide, gw_r1 1 (by decide +kernel) (by decide +kernel), by decide +kernel⟩
theorem ki_K_divide : Cond.instanceMethod y_K_divide ∈ gw_WS := gw_r2 205 (by decide +kernel) (by decide +kernel)
theorem kv_K_divide : Cond.selects y_K_divide.cls y_K_divide y_K_divide ∈ gw_WS := gw_r2 206 (by decide +kernel) (by decide +kernel)
abbrev b_K_shift : ByteArray := prog_1_method_9_code
def y_K_shift : MethodName := ⟨"LimbDesk", "shift", "(III)I"⟩
theorem kc_K_shift : Cond.code y_K_shift b_K_shift 5 (some .int) ∈ gw_WS := gw_r3 29 (by rfl) (by rfl)
theorem ko_K_shift : Cond.code y_K_shift b_K_shift 5 (some .int) ∈ gw_WS ∧ Cond.initialized y_K_shift.cls ∈ gw_WS ∧ (y_K_shift.cls ≠ "java/lang/invoke/MethodHandle" ∧ y_K_shift.cls ≠ "java/lang/invoke/VarHandle" ∧ (parseMethodDescriptor y_K_shift.desc).map (fun d => d.parameters.length) = some 3) := ⟨kc_K_shift, gw_r1 1 (by decide +kernel) (by decide +kernel), by decide +kernel⟩
theorem ki_K_shift : Cond.instanceMethod y_K_shift ∈ gw_WS := gw_r3 27 (by decide +kernel) (by decide +kernel)
theorem kv_K_shift : Cond.selects y_K_shift.cls y_K_shift y_K_shift ∈ gw_WS := gw_r3 28 (by decide +kernel) (by decide +kernel)
abbrev b_K_bits : ByteArray := prog_1_method_10_code
def y_K_bits : MethodName := ⟨"LimbDesk", "bits", "(IIII)I"⟩
theorem kc_K_bits : Cond.code y_K_bits b_K_bits 5 (some .int) ∈ gw_WS := gw_r3 55 (by rfl) (by rfl)
theorem ko_K_bits : Cond.code y_K_bits b_K_bits 5 (some .int) ∈ gw_WS ∧ Cond.initialized y_K_bits.cls ∈ gw_WS ∧ (y_K_bits.cls ≠ "java/lang/invoke/MethodHandle" ∧ y_K_bits.cls ≠ "java/lang/invoke/VarHandle" ∧ (parseMethodDescriptor y_K_bits.desc).map (fun d => d.parameters.length) = some 4) := ⟨kc_K_bits, gw_r1 1 (by decide +kernel) (by decide +kernel), by decide +kernel⟩
theorem ki_K_bits : Cond.instanceMethod y_K_bits ∈ gw_WS := gw_r3 53 (by decide +kernel) (by decide +kernel)
theorem kv_K_bits : Cond.selects y_K_bits.cls y_K_bits y_K_bits ∈ gw_WS := gw_r3 54 (by decide +kernel) (by decide +kernel)
abbrev b_K_power : ByteArray := prog_1_method_11_code
def y_K_power : MethodName := ⟨"LimbDesk", "power", "(III)I"⟩
theorem kc_K_power : Cond.code y_K_power b_K_power 5 (some .int) ∈ gw_WS := gw_r3 73 (by rfl) (by rfl)
theorem ko_K_power : Cond.code y_K_power b_K_power 5 (some .int) ∈ gw_WS ∧ Cond.initialized y_K_power.cls ∈ gw_WS ∧ (y_K_power.cls ≠ "java/lang/invoke/MethodHandle" ∧ y_K_power.cls ≠ "java/lang/invoke/VarHandle" ∧ (parseMethodDescriptor y_K_power.desc).map (fun d => d.parameters.length) = some 3) := ⟨kc_K_power, gw_r1 1 (by decide +kernel) (by decide +kernel), by decide +kernel⟩
theorem ki_K_power : Cond.instanceMethod y_K_power ∈ gw_WS := gw_r3 71 (by decide +kernel) (by decide +kernel)
theorem kv_K_power : Cond.selects y_K_power.cls y_K_power y_K_power ∈ gw_WS := gw_r3 72 (by decide +kernel) (by decide +kernel)
abbrev b_K_residue : ByteArray := prog_1_method_12_code
def y_K_residue : MethodName := ⟨"LimbDesk", "residue", "(IIII)I"⟩
theorem kc_K_residue : Cond.code y_K_residue b_K_residue 5 (some .int) ∈ gw_WS := gw_r3 85 (by rfl) (by rfl)
theorem ko_K_residue : Cond.code y_K_residue b_K_residue 5 (some .int) ∈ gw_WS ∧ Cond.initialized y_K_residue.cls ∈ gw_WS ∧ (y_K_residue.cls ≠ "java/lang/invoke/MethodHandle" ∧ y_K_residue.cls ≠ "java/lang/invoke/VarHandle" ∧ (parseMethodDescriptor y_K_residue.desc).map (fun d => d.parameters.length) = some 4) := ⟨kc_K_residue, gw_r1 1 (by decide +kernel) (by decide +kernel), by decide +kernel⟩
theorem ki_K_residue : Cond.instanceMethod y_K_residue ∈ gw_WS := gw_r3 83 (by decide +kernel) (by decide +kernel)
theorem kv_K_residue : Cond.selects y_K_residue.cls y_K_residue y_K_residue ∈ gw_WS := gw_r3 84 (by decide +kernel) (by decide +kernel)
abbrev b_K_compare : ByteArray := prog_1_method_13_code
def y_K_compare : MethodName := ⟨"LimbDesk", "compare", "(II)I"⟩
theorem kc_K_compare : Cond.code y_K_compare b_K_compare 3 (some .int) ∈ gw_WS := gw_r3 106 (by rfl) (by rfl)
theorem ko_K_compare : Cond.code y_K_compare b_K_compare 3 (some .int) ∈ gw_WS ∧ Cond.initialized y_K_compare.cls ∈ gw_WS ∧ (y_K_compare.cls ≠ "java/lang/invoke/MethodHandle" ∧ y_K_compare.cls ≠ "java/lang/invoke/VarHandle" ∧ (parseMethodDescriptor y_K_compare.desc).map (fun d => d.parameters.length) = some 2) := ⟨kc_K_compare, gw_r1 1 (by decide +kernel) (by decide +kernel), by decide +kernel⟩
theorem ki_K_compare : Cond.instanceMethod y_K_compare ∈ gw_WS := gw_r3 104 (by decide +kernel) (by decide +kernel)
theorem kv_K_compare : Cond.selects y_K_compare.cls y_K_compare y_K_compare ∈ gw_WS := gw_r3 105 (by decide +kernel) (by decide +kernel)
abbrev b_K_small : ByteArray := prog_1_method_14_code
def y_K_small : MethodName := ⟨"LimbDesk", "small", "(I)J"⟩
theorem kc_K_small : Cond.code y_K_small b_K_small 2 (some .long) ∈ gw_WS := gw_r3 118 (by rfl) (by rfl)
theorem ko_K_small : Cond.code y_K_small b_K_small 2 (some .long) ∈ gw_WS ∧ Cond.initialized y_K_small.cls ∈ gw_WS ∧ (y_K_small.cls ≠ "java/lang/invoke/MethodHandle" ∧ y_K_small.cls ≠ "java/lang/invoke/VarHandle" ∧ (parseMethodDescriptor y_K_small.desc).map (fun d => d.parameters.length) = some 1) := ⟨kc_K_small, gw_r1 1 (by decide +kernel) (by decide +kernel), by decide +kernel⟩
theorem ki_K_small : Cond.instanceMethod y_K_small ∈ gw_WS := gw_r3 116 (by decide +kernel) (by decide +kernel)
theorem kv_K_small : Cond.selects y_K_small.cls y_K_small y_K_small ∈ gw_WS := gw_r3 117 (by decide +kernel) (by decide +kernel)
abbrev b_K_low : ByteArray := prog_1_method_15_code
def y_K_low : MethodName := ⟨"LimbDesk", "low", "(I)J"⟩
theorem kc_K_low : Cond.code y_K_low b_K_low 2 (some .long) ∈ gw_WS := gw_r3 136 (by rfl) (by rfl)
theorem ko_K_low : Cond.code y_K_low b_K_low 2 (some .long) ∈ gw_WS ∧ Cond.initialized y_K_low.cls ∈ gw_WS ∧ (y_K_low.cls ≠ "java/lang/invoke/MethodHandle" ∧ y_K_low.cls ≠ "java/lang/invoke/VarHandle" ∧ (parseMethodDescriptor y_K_low.desc).map (fun d => d.parameters.length) = some 1) := ⟨kc_K_low, gw_r1 1 (by decide +kernel) (by decide +kernel), by decide +kernel⟩
theorem ki_K_low : Cond.instanceMethod y_K_low ∈ gw_WS := gw_r3 134 (by decide +kernel) (by decide +kernel)
theorem kv_K_low : Cond.selects y_K_low.cls y_K_low y_K_low ∈ gw_WS := gw_r3 135 (by decide +kernel) (by decide +kernel)
abbrev b_K_folded : ByteArray := prog_1_method_16_code
def y_K_folded : MethodName := ⟨"LimbDesk", "folded", "(I)J"⟩
theorem kc_K_folded : Cond.code y_K_folded b_K_folded 2 (some .long) ∈ gw_WS := gw_r3 143 (by rfl) (by rfl)
theorem ko_K_folded : Cond.code y_K_folded b_K_folded 2 (some .long) ∈ gw_WS ∧ Cond.initialized y_K_folded.cls ∈ gw_WS ∧ (y_K_folded.cls ≠ "java/lang/invoke/MethodHandle" ∧ y_K_folded.cls ≠ "java/lang/invoke/VarHandle" ∧ (parseMethodDescriptor y_K_folded.desc).map (fun d => d.parameters.length) = some 1) := ⟨kc_K_folded, gw_r1 1 (by decide +kernel) (by decide +kernel), by decide +kernel⟩
theorem ki_K_folded : Cond.instanceMethod y_K_folded ∈ gw_WS := gw_r3 141 (by decide +kernel) (by decide +kernel)
theorem kv_K_folded : Cond.selects y_K_folded.cls y_K_folded y_K_folded ∈ gw_WS := gw_r3 142 (by decide +kernel) (by decide +kernel)
abbrev b_K_size : ByteArray := prog_1_method_17_code
def y_K_size : MethodName := ⟨"LimbDesk", "size", "(I)I"⟩
theorem kc_K_size : Cond.code y_K_size b_K_size 2 (some .int) ∈ gw_WS := gw_r3 155 (by rfl) (by rfl)
theorem ko_K_size : Cond.code y_K_size b_K_size 2 (some .int) ∈ gw_WS ∧ Cond.initialized y_K_size.cls ∈ gw_WS ∧ (y_K_size.cls ≠ "java/lang/invoke/MethodHandle" ∧ y_K_size.cls ≠ "java/lang/invoke/VarHandle" ∧ (parseMethodDescriptor y_K_size.desc).map (fun d => d.parameters.length) = some 1) := ⟨kc_K_size, gw_r1 1 (by decide +kernel) (by decide +kernel), by decide +kernel⟩
theorem ki_K_size : Cond.instanceMethod y_K_size ∈ gw_WS := gw_r3 153 (by decide +kernel) (by decide +kernel)
theorem kv_K_size : Cond.selects y_K_size.cls y_K_size y_K_size ∈ gw_WS := gw_r3 154 (by decide +kernel) (by decide +kernel)
abbrev b_K_isRegister : ByteArray := prog_1_method_18_code
def y_K_isRegister : MethodName := ⟨"LimbDesk", "isRegister", "(I)Z"⟩
theorem kc_K_isRegister : Cond.code y_K_isRegister b_K_isRegister 1 (some .boolean) ∈ gw_WS := gw_r1 121 (by rfl) (by rfl)
theorem ko_K_isRegister : Cond.code y_K_isRegister b_K_isRegister 1 (some .boolean) ∈ gw_WS ∧ Cond.initialized y_K_isRegister.cls ∈ gw_WS ∧ (y_K_isRegister.cls ≠ "java/lang/invoke/MethodHandle" ∧ y_K_isRegister.cls ≠ "java/lang/invoke/VarHandle" ∧ (parseMethodDescriptor y_K_isRegister.desc).map (fun d => d.parameters.length) = some 1) := ⟨kc_K_isRegister, gw_r1 1 (by decide +kernel) (by decide +kernel), by decide +kernel⟩
theorem ks_K_isRegister : Cond.static y_K_isRegister ∈ gw_WS := gw_r1 120 (by decide +kernel) (by decide +kernel)
abbrev b_K_isBase : ByteArray := prog_1_method_19_code
def y_K_isBase : MethodName := ⟨"LimbDesk", "isBase", "(I)Z"⟩
theorem kc_K_isBase : Cond.code y_K_isBase b_K_isBase 1 (some .boolean) ∈ gw_WS := gw_r2 18 (by rfl) (by rfl)
theorem ko_K_isBase : Cond.code y_K_isBase b_K_isBase 1 (some .boolean) ∈ gw_WS ∧ Cond.initialized y_K_isBase.cls ∈ gw_WS ∧ (y_K_isBase.cls ≠ "java/lang/invoke/MethodHandle" ∧ y_K_isBase.cls ≠ "java/lang/invoke/VarHandle" ∧ (parseMethodDescriptor y_K_isBase.desc).map (fun d => d.parameters.length) = some 1) := ⟨kc_K_isBase, gw_r1 1 (by decide +kernel) (by decide +kernel), by decide +kernel⟩
theorem ks_K_isBase : Cond.static y_K_isBase ∈ gw_WS := gw_r2 17 (by decide +kernel) (by decide +kernel)
abbrev b_K_needRegister : ByteArray := prog_1_method_20_code
def y_K_needRegister : MethodName := ⟨"LimbDesk", "needRegister", "(I)V"⟩
theorem kc_K_needRegister : Cond.code y_K_needRegister b_K_needRegister 1 none ∈ gw_WS := gw_r1 118 (by rfl) (by rfl)
theorem ko_K_needRegister : Cond.code y_K_needRegister b_K_needRegister 1 none ∈ gw_WS ∧ Cond.initialized y_K_needRegister.cls ∈ gw_WS ∧ (y_K_needRegister.cls ≠ "java/lang/invoke/MethodHandle" ∧ y_K_needRegister.cls ≠ "java/lang/invoke/VarHandle" ∧ (parseMethodDescriptor y_K_needRegister.desc).map (fun d => d.parameters.length) = some 1) := ⟨kc_K_needRegister, gw_r1 1 (by decide +kernel) (by decide +kernel), by decide +kernel⟩
theorem ks_K_needRegister : Cond.static y_K_needRegister ∈ gw_WS := gw_r1 117 (by decide +kernel) (by decide +kernel)
abbrev b_K_needRegisters : ByteArray := prog_1_method_21_code
def y_K_needRegisters : MethodName := ⟨"LimbDesk", "needRegisters", "(III)V"⟩
theorem kc_K_needRegisters : Cond.code y_K_needRegisters b_K_needRegisters 3 none ∈ gw_WS := gw_r2 164 (by rfl) (by rfl)
theorem ko_K_needRegisters : Cond.code y_K_needRegisters b_K_needRegisters 3 none ∈ gw_WS ∧ Cond.initialized y_K_needRegisters.cls ∈ gw_WS ∧ (y_K_needRegisters.cls ≠ "java/lang/invoke/MethodHandle" ∧ y_K_needRegisters.cls ≠ "java/lang/invoke/VarHandle" ∧ (parseMethodDescriptor y_K_needRegisters.desc).map (fun d => d.parameters.length) = some 3) := ⟨kc_K_needRegisters, gw_r1 1 (by decide +kernel) (by decide +kernel), by decide +kernel⟩
theorem ks_K_needRegisters : Cond.static y_K_needRegisters ∈ gw_WS := gw_r2 163 (by decide +kernel) (by decide +kernel)
abbrev b_K_needKind : ByteArray := prog_1_method_22_code
def y_K_needKind : MethodName := ⟨"LimbDesk", "needKind", "(I)V"⟩
theorem kc_K_needKind : Cond.code y_K_needKind b_K_needKind 1 none ∈ gw_WS := gw_r2 160 (by rfl) (by rfl)
theorem ko_K_needKind : Cond.code y_K_needKind b_K_needKind 1 none ∈ gw_WS ∧ Cond.initialized y_K_needKind.cls ∈ gw_WS ∧ (y_K_needKind.cls ≠ "java/lang/invoke/MethodHandle" ∧ y_K_needKind.cls ≠ "java/lang/invoke/VarHandle" ∧ (parseMethodDescriptor y_K_needKind.desc).map (fun d => d.parameters.length) = some 1) := ⟨kc_K_needKind, gw_r1 1 (by decide +kernel) (by decide +kernel), by decide +kernel⟩
theorem ks_K_needKind : Cond.static y_K_needKind ∈ gw_WS := gw_r2 159 (by decide +kernel) (by decide +kernel)
abbrev b_K_needFit : ByteArray := prog_1_method_23_code
def y_K_needFit : MethodName := ⟨"LimbDesk", "needFit", "(LLimbDesk$Whole;)V"⟩
theorem kc_K_needFit : Cond.code y_K_needFit b_K_needFit 1 none ∈ gw_WS := gw_r2 48 (by rfl) (by rfl)
theorem ko_K_needFit : Cond.code y_K_needFit b_K_needFit 1 none ∈ gw_WS ∧ Cond.initialized y_K_needFit.cls ∈ gw_WS ∧ (y_K_needFit.cls ≠ "java/lang/invoke/MethodHandle" ∧ y_K_needFit.cls ≠ "java/lang/invoke/VarHandle" ∧ (parseMethodDescriptor y_K_needFit.desc).map (fun d => d.parameters.length) = some 1) := ⟨kc_K_needFit, gw_r1 1 (by decide +kernel) (by decide +kernel), by decide +kernel⟩
theorem ks_K_needFit : Cond.static y_K_needFit ∈ gw_WS := gw_r2 47 (by decide +kernel) (by decide +kernel)
abbrev b_K_keep : ByteArray := prog_1_method_24_code
def y_K_keep : MethodName := ⟨"LimbDesk", "keep", "(LLimbDesk$Whole;I)V"⟩
theorem kc_K_keep : Cond.code y_K_keep b_K_keep 3 none ∈ gw_WS := gw_r2 45 (by rfl) (by rfl)
theorem ko_K_keep : Cond.code y_K_keep b_K_keep 3 none ∈ gw_WS ∧ Cond.initialized y_K_keep.cls ∈ gw_WS ∧ (y_K_keep.cls ≠ "java/lang/invoke/MethodHandle" ∧ y_K_keep.cls ≠ "java/lang/invoke/VarHandle" ∧ (parseMethodDescriptor y_K_keep.desc).map (fun d => d.parameters.length) = some 2) := ⟨kc_K_keep, gw_r1 1 (by decide +kernel) (by decide +kernel), by decide +kernel⟩
theorem ki_K_keep : Cond.instanceMethod y_K_keep ∈ gw_WS := gw_r2 44 (by decide +kernel) (by decide +kernel)
theorem kv_K_keep : Cond.selects y_K_keep.cls y_K_keep y_K_keep ∈ gw_WS := gw_sel 3 (by decide +kernel) (by decide +kernel)
abbrev b_K_multiplyOutcome : ByteArray := prog_1_method_25_code
def y_K_multiplyOutcome : MethodName := ⟨"LimbDesk", "multiplyOutcome", "(LLimbDesk$Whole;)V"⟩
theorem kc_K_multiplyOutcome : Cond.code y_K_multiplyOutcome b_K_multiplyOutcome 2 none ∈ gw_WS := gw_r3 78 (by rfl) (by rfl)
theorem ko_K_multiplyOutcome : Cond.code y_K_multiplyOutcome b_K_multiplyOutcome 2 none ∈ gw_WS ∧ Cond.initialized y_K_multiplyOutcome.cls ∈ gw_WS ∧ (y_K_multiplyOutcome.cls ≠ "java/lang/invoke/MethodHandle" ∧ y_K_multiplyOutcome.cls ≠ "java/lang/invoke/VarHandle" ∧ (parseMethodDescriptor y_K_multiplyOutcome.desc).map (fun d => d.parameters.length) = some 1) := ⟨kc_K_multiplyOutcome, gw_r1 1 (by decide +kernel) (by decide +kernel), by decide +kernel⟩
theorem ki_K_multiplyOutcome : Cond.instanceMethod y_K_multiplyOutcome ∈ gw_WS := gw_r3 77 (by decide +kernel) (by decide +kernel)
theorem kv_K_multiplyOutcome : Cond.selects y_K_multiplyOutcome.cls y_K_multiplyOutcome y_K_multiplyOutcome ∈ gw_WS := gw_sel 17 (by decide +kernel) (by decide +kernel)
abbrev b_K_raiseWithin : ByteArray := prog_1_method_26_code
def y_K_raiseWithin : MethodName := ⟨"LimbDesk", "raiseWithin", "(LLimbDesk$Whole;LLimbDesk$Whole;LLimbDesk$Whole;)V"⟩
theorem kc_K_raiseWithin : Cond.code y_K_raiseWithin b_K_raiseWithin 5 none ∈ gw_WS := gw_r3 89 (by rfl) (by rfl)
theorem ko_K_raiseWithin : Cond.code y_K_raiseWithin b_K_raiseWithin 5 none ∈ gw_WS ∧ Cond.initialized y_K_raiseWithin.cls ∈ gw_WS ∧ (y_K_raiseWithin.cls ≠ "java/lang/invoke/MethodHandle" ∧ y_K_raiseWithin.cls ≠ "java/lang/invoke/VarHandle" ∧ (parseMethodDescriptor y_K_raiseWithin.desc).map (fun d => d.parameters.length) = some 3) := ⟨kc_K_raiseWithin, gw_r1 1 (by decide +kernel) (by decide +kernel), by decide +kernel⟩
theorem ki_K_raiseWithin : Cond.instanceMethod y_K_raiseWithin ∈ gw_WS := gw_r3 88 (by decide +kernel) (by decide +kernel)
theorem kv_K_raiseWithin : Cond.selects y_K_raiseWithin.cls y_K_raiseWithin y_K_raiseWithin ∈ gw_WS := gw_sel 18 (by decide +kernel) (by decide +kernel)
abbrev b_K_reduceProduct : ByteArray := prog_1_method_27_code
def y_K_reduceProduct : MethodName := ⟨"LimbDesk", "reduceProduct", "(LLimbDesk$Whole;)V"⟩
theorem kc_K_reduceProduct : Cond.code y_K_reduceProduct b_K_reduceProduct 2 none ∈ gw_WS := gw_r3 94 (by rfl) (by rfl)
theorem ko_K_reduceProduct : Cond.code y_K_reduceProduct b_K_reduceProduct 2 none ∈ gw_WS ∧ Cond.initialized y_K_reduceProduct.cls ∈ gw_WS ∧ (y_K_reduceProduct.cls ≠ "java/lang/invoke/MethodHandle" ∧ y_K_reduceProduct.cls ≠ "java/lang/invoke/VarHandle" ∧ (parseMethodDescriptor y_K_reduceProduct.desc).map (fun d => d.parameters.length) = some 1) := ⟨kc_K_reduceProduct, gw_r1 1 (by decide +kernel) (by decide +kernel), by decide +kernel⟩
theorem ki_K_reduceProduct : Cond.instanceMethod y_K_reduceProduct ∈ gw_WS := gw_r3 93 (by decide +kernel) (by decide +kernel)
theorem kv_K_reduceProduct : Cond.selects y_K_reduceProduct.cls y_K_reduceProduct y_K_reduceProduct ∈ gw_WS := gw_sel 19 (by decide +kernel) (by decide +kernel)
abbrev b_M_init : ByteArray := prog_6_method_1_code
def y_M_init : MethodName := ⟨"LimbDeskModel", "<init>", "()V"⟩
theorem kc_M_init : Cond.code y_M_init b_M_init 1 none ∈ gw_WS := gw_r3 160 (by rfl) (by rfl)
theorem ko_M_init : Cond.code y_M_init b_M_init 1 none ∈ gw_WS ∧ Cond.initialized y_M_init.cls ∈ gw_WS ∧ (y_M_init.cls ≠ "java/lang/invoke/MethodHandle" ∧ y_M_init.cls ≠ "java/lang/invoke/VarHandle" ∧ (parseMethodDescriptor y_M_init.desc).map (fun d => d.parameters.length) = some 0) := ⟨kc_M_init, gw_r1 5 (by decide +kernel) (by decide +kernel), by decide +kernel⟩
theorem ki_M_init : Cond.instanceMethod y_M_init ∈ gw_WS := gw_r3 159 (by decide +kernel) (by decide +kernel)
abbrev b_M_thrown : ByteArray := prog_6_method_2_code
def y_M_thrown : MethodName := ⟨"LimbDeskModel", "thrown", "()I"⟩
theorem kc_M_thrown : Cond.code y_M_thrown b_M_thrown 1 (some .int) ∈ gw_WS := gw_r3 214 (by rfl) (by rfl)
theorem ko_M_thrown : Cond.code y_M_thrown b_M_thrown 1 (some .int) ∈ gw_WS ∧ Cond.initialized y_M_thrown.cls ∈ gw_WS ∧ (y_M_thrown.cls ≠ "java/lang/invoke/MethodHandle" ∧ y_M_thrown.cls ≠ "java/lang/invoke/VarHandle" ∧ (parseMethodDescriptor y_M_thrown.desc).map (fun d => d.parameters.length) = some 0) := ⟨kc_M_thrown, gw_r1 5 (by decide +kernel) (by decide +kernel), by decide +kernel⟩
theorem ki_M_thrown : Cond.instanceMethod y_M_thrown ∈ gw_WS := gw_r3 212 (by decide +kernel) (by decide +kernel)
theorem kv_M_thrown : Cond.selects y_M_thrown.cls y_M_thrown y_M_thrown ∈ gw_WS := gw_r3 213 (by decide +kernel) (by decide +kernel)
abbrev b_M_compared : ByteArray := prog_6_method_3_code
def y_M_compared : MethodName := ⟨"LimbDeskModel", "compared", "([II[II)I"⟩
theorem kc_M_compared : Cond.code y_M_compared b_M_compared 5 (some .int) ∈ gw_WS := gw_r4 44 (by rfl) (by rfl)
theorem ko_M_compared : Cond.code y_M_compared b_M_compared 5 (some .int) ∈ gw_WS ∧ Cond.initialized y_M_compared.cls ∈ gw_WS ∧ (y_M_compared.cls ≠ "java/lang/invoke/MethodHandle" ∧ y_M_compared.cls ≠ "java/lang/invoke/VarHandle" ∧ (parseMethodDescriptor y_M_compared.desc).map (fun d => d.parameters.length) = some 4) := ⟨kc_M_compared, gw_r1 5 (by decide +kernel) (by decide +kernel), by decide +kernel⟩
theorem ks_M_compared : Cond.static y_M_compared ∈ gw_WS := gw_r4 43 (by decide +kernel) (by decide +kernel)
abbrev b_M_plus : ByteArray := prog_6_method_4_code
def y_M_plus : MethodName := ⟨"LimbDeskModel", "plus", "([II[II[I)I"⟩
theorem kc_M_plus : Cond.code y_M_plus b_M_plus 8 (some .int) ∈ gw_WS := gw_r4 40 (by rfl) (by rfl)
theorem ko_M_plus : Cond.code y_M_plus b_M_plus 8 (some .int) ∈ gw_WS ∧ Cond.initialized y_M_plus.cls ∈ gw_WS ∧ (y_M_plus.cls ≠ "java/lang/invoke/MethodHandle" ∧ y_M_plus.cls ≠ "java/lang/invoke/VarHandle" ∧ (parseMethodDescriptor y_M_plus.desc).map (fun d => d.parameters.length) = some 5) := ⟨kc_M_plus, gw_r1 5 (by decide +kernel) (by decide +kernel), by decide +kernel⟩
theorem ks_M_plus : Cond.static y_M_plus ∈ gw_WS := gw_r4 39 (by decide +kernel) (by decide +kernel)
abbrev b_M_less : ByteArray := prog_6_method_5_code
def y_M_less : MethodName := ⟨"LimbDeskModel", "less", "([II[II[I)I"⟩
theorem kc_M_less : Cond.code y_M_less b_M_less 7 (some .int) ∈ gw_WS := gw_r4 47 (by rfl) (by rfl)
theorem ko_M_less : Cond.code y_M_less b_M_less 7 (some .int) ∈ gw_WS ∧ Cond.initialized y_M_less.cls ∈ gw_WS ∧ (y_M_less.cls ≠ "java/lang/invoke/MethodHandle" ∧ y_M_less.cls ≠ "java/lang/invoke/VarHandle" ∧ (parseMethodDescriptor y_M_less.desc).map (fun d => d.parameters.length) = some 5) := ⟨kc_M_less, gw_r1 5 (by decide +kernel) (by decide +kernel), by decide +kernel⟩
theorem ks_M_less : Cond.static y_M_less ∈ gw_WS := gw_r4 46 (by decide +kernel) (by decide +kernel)
abbrev b_M_trim : ByteArray := prog_6_method_6_code
def y_M_trim : MethodName := ⟨"LimbDeskModel", "trim", "([II)I"⟩
theorem kc_M_trim : Cond.code y_M_trim b_M_trim 3 (some .int) ∈ gw_WS := gw_r4 7 (by rfl) (by rfl)
theorem ko_M_trim : Cond.code y_M_trim b_M_trim 3 (some .int) ∈ gw_WS ∧ Cond.initialized y_M_trim.cls ∈ gw_WS ∧ (y_M_trim.cls ≠ "java/lang/invoke/MethodHandle" ∧ y_M_trim.cls ≠ "java/lang/invoke/VarHandle" ∧ (parseMethodDescriptor y_M_trim.desc).map (fun d => d.parameters.length) = some 2) := ⟨kc_M_trim, gw_r1 5 (by decide +kernel) (by decide +kernel), by decide +kernel⟩
theorem ks_M_trim : Cond.static y_M_trim ∈ gw_WS := gw_r4 6 (by decide +kernel) (by decide +kernel)
abbrev b_M_times : ByteArray := prog_6_method_7_code
def y_M_times : MethodName := ⟨"LimbDeskModel", "times", "([II[II[I)I"⟩
theorem kc_M_times : Cond.code y_M_times b_M_times 9 (some .int) ∈ gw_WS := gw_r4 37 (by rfl) (by rfl)
theorem ko_M_times : Cond.code y_M_times b_M_times 9 (some .int) ∈ gw_WS ∧ Cond.initialized y_M_times.cls ∈ gw_WS ∧ (y_M_times.cls ≠ "java/lang/invoke/MethodHandle" ∧ y_M_times.cls ≠ "java/lang/invoke/VarHandle" ∧ (parseMethodDescriptor y_M_times.desc).map (fun d => d.parameters.length) = some 5) := ⟨kc_M_times, gw_r1 5 (by decide +kernel) (by decide +kernel), by decide +kernel⟩
theorem ks_M_times : Cond.static y_M_times ∈ gw_WS := gw_r4 36 (by decide +kernel) (by decide +kernel)
abbrev b_M_divided : ByteArray := prog_6_method_8_code
def y_M_divided : MethodName := ⟨"LimbDeskModel", "divided", "([II[II[I)I"⟩
theorem kc_M_divided : Cond.code y_M_divided b_M_divided 18 (some .int) ∈ gw_WS := gw_r4 55 (by rfl) (by rfl)
theorem ko_M_divided : Cond.code y_M_divided b_M_divided 18 (some .int) ∈ gw_WS ∧ Cond.initialized y_M_divided.cls ∈ gw_WS ∧ (y_M_divided.cls ≠ "java/lang/invoke/MethodHandle" ∧ y_M_divided.cls ≠ "java/lang/invoke/VarHandle" ∧ (parseMethodDescriptor y_M_divided.desc).map (fun d => d.parameters.length) = some 5) := ⟨kc_M_divided, gw_r1 5 (by decide +kernel) (by decide +kernel), by decide +kernel⟩
theorem ki_M_divided : Cond.instanceMethod y_M_divided ∈ gw_WS := gw_r4 54 (by decide +kernel) (by decide +kernel)
theorem kv_M_divided : Cond.selects y_M_divided.cls y_M_divided y_M_divided ∈ gw_WS := gw_sel 24 (by decide +kernel) (by decide +kernel)
abbrev b_M_shiftedLeft : ByteArray := prog_6_method_9_code
def y_M_shiftedLeft : MethodName := ⟨"LimbDeskModel", "shiftedLeft", "([III[I)I"⟩
theorem kc_M_shiftedLeft : Cond.code y_M_shiftedLeft b_M_shiftedLeft 7 (some .int) ∈ gw_WS := gw_r4 63 (by rfl) (by rfl)
theorem ko_M_shiftedLeft : Cond.code y_M_shiftedLeft b_M_shiftedLeft 7 (some .int) ∈ gw_WS ∧ Cond.initialized y_M_shiftedLeft.cls ∈ gw_WS ∧ (y_M_shiftedLeft.cls ≠ "java/lang/invoke/MethodHandle" ∧ y_M_shiftedLeft.cls ≠ "java/lang/invoke/VarHandle" ∧ (parseMethodDescriptor y_M_shiftedLeft.desc).map (fun d => d.parameters.length) = some 4) := ⟨kc_M_shiftedLeft, gw_r1 5 (by decide +kernel) (by decide +kernel), by decide +kernel⟩
theorem ks_M_shiftedLeft : Cond.static y_M_shiftedLeft ∈ gw_WS := gw_r4 62 (by decide +kernel) (by decide +kernel)
abbrev b_M_isBit : ByteArray := prog_6_method_10_code
def y_M_isBit : MethodName := ⟨"LimbDeskModel", "isBit", "([III)Z"⟩
theorem kc_M_isBit : Cond.code y_M_isBit b_M_isBit 3 (some .boolean) ∈ gw_WS := gw_r4 66 (by rfl) (by rfl)
theorem ko_M_isBit : Cond.code y_M_isBit b_M_isBit 3 (some .boolean) ∈ gw_WS ∧ Cond.initialized y_M_isBit.cls ∈ gw_WS ∧ (y_M_isBit.cls ≠ "java/lang/invoke/MethodHandle" ∧ y_M_isBit.cls ≠ "java/lang/invoke/VarHandle" ∧ (parseMethodDescriptor y_M_isBit.desc).map (fun d => d.parameters.length) = some 3) := ⟨kc_M_isBit, gw_r1 5 (by decide +kernel) (by decide +kernel), by decide +kernel⟩
theorem ks_M_isBit : Cond.static y_M_isBit ∈ gw_WS := gw_r4 65 (by decide +kernel) (by decide +kernel)
abbrev b_M_in : ByteArray := prog_6_method_11_code
def y_M_in : MethodName := ⟨"LimbDeskModel", "in", "(III)Z"⟩
theorem kc_M_in : Cond.code y_M_in b_M_in 3 (some .boolean) ∈ gw_WS := gw_r3 224 (by rfl) (by rfl)
theorem ko_M_in : Cond.code y_M_in b_M_in 3 (some .boolean) ∈ gw_WS ∧ Cond.initialized y_M_in.cls ∈ gw_WS ∧ (y_M_in.cls ≠ "java/lang/invoke/MethodHandle" ∧ y_M_in.cls ≠ "java/lang/invoke/VarHandle" ∧ (parseMethodDescriptor y_M_in.desc).map (fun d => d.parameters.length) = some 3) := ⟨kc_M_in, gw_r1 5 (by decide +kernel) (by decide +kernel), by decide +kernel⟩
theorem ks_M_in : Cond.static y_M_in ∈ gw_WS := gw_r3 223 (by decide +kernel) (by decide +kernel)
abbrev b_M_fails : ByteArray := prog_6_method_12_code
def y_M_fails : MethodName := ⟨"LimbDeskModel", "fails", "(ZI)Z"⟩
theorem kc_M_fails : Cond.code y_M_fails b_M_fails 3 (some .boolean) ∈ gw_WS := gw_r3 228 (by rfl) (by rfl)
theorem ko_M_fails : Cond.code y_M_fails b_M_fails 3 (some .boolean) ∈ gw_WS ∧ Cond.initialized y_M_fails.cls ∈ gw_WS ∧ (y_M_fails.cls ≠ "java/lang/invoke/MethodHandle" ∧ y_M_fails.cls ≠ "java/lang/invoke/VarHandle" ∧ (parseMethodDescriptor y_M_fails.desc).map (fun d => d.parameters.length) = some 2) := ⟨kc_M_fails, gw_r1 5 (by decide +kernel) (by decide +kernel), by decide +kernel⟩
theorem ki_M_fails : Cond.instanceMethod y_M_fails ∈ gw_WS := gw_r3 227 (by decide +kernel) (by decide +kernel)
theorem kv_M_fails : Cond.selects y_M_fails.cls y_M_fails y_M_fails ∈ gw_WS := gw_sel 20 (by decide +kernel) (by decide +kernel)
abbrev b_M_isRegister : ByteArray := prog_6_method_13_code
def y_M_isRegister : MethodName := ⟨"LimbDeskModel", "isRegister", "(I)Z"⟩
theorem kc_M_isRegister : Cond.code y_M_isRegister b_M_isRegister 1 (some .boolean) ∈ gw_WS := gw_r3 221 (by rfl) (by rfl)
theorem ko_M_isRegister : Cond.code y_M_isRegister b_M_isRegister 1 (some .boolean) ∈ gw_WS ∧ Cond.initialized y_M_isRegister.cls ∈ gw_WS ∧ (y_M_isRegister.cls ≠ "java/lang/invoke/MethodHandle" ∧ y_M_isRegister.cls ≠ "java/lang/invoke/VarHandle" ∧ (parseMethodDescriptor y_M_isRegister.desc).map (fun d => d.parameters.length) = some 1) := ⟨kc_M_isRegister, gw_r1 5 (by decide +kernel) (by decide +kernel), by decide +kernel⟩
theorem ks_M_isRegister : Cond.static y_M_isRegister ∈ gw_WS := gw_r3 220 (by decide +kernel) (by decide +kernel)
abbrev b_M_load : ByteArray := prog_6_method_14_code
def y_M_load : MethodName := ⟨"LimbDeskModel", "load", "(I[I)I"⟩
theorem kc_M_load : Cond.code y_M_load b_M_load 4 (some .int) ∈ gw_WS := gw_r3 236 (by rfl) (by rfl)
theorem ko_M_load : Cond.code y_M_load b_M_load 4 (some .int) ∈ gw_WS ∧ Cond.initialized y_M_load.cls ∈ gw_WS ∧ (y_M_load.cls ≠ "java/lang/invoke/MethodHandle" ∧ y_M_load.cls ≠ "java/lang/invoke/VarHandle" ∧ (parseMethodDescriptor y_M_load.desc).map (fun d => d.parameters.length) = some 2) := ⟨kc_M_load, gw_r1 5 (by decide +kernel) (by decide +kernel), by decide +kernel⟩
theorem ki_M_load : Cond.instanceMethod y_M_load ∈ gw_WS := gw_r3 235 (by decide +kernel) (by decide +kernel)
theorem kv_M_load : Cond.selects y_M_load.cls y_M_load y_M_load ∈ gw_WS := gw_sel 22 (by decide +kernel) (by decide +kernel)
abbrev b_M_bits : ByteArray := prog_6_method_15_code
def y_M_bits : MethodName := ⟨"LimbDeskModel", "bits", "([II)I"⟩
theorem kc_M_bits : Cond.code y_M_bits b_M_bits 4 (some .int) ∈ gw_WS := gw_r3 239 (by rfl) (by rfl)
theorem ko_M_bits : Cond.code y_M_bits b_M_bits 4 (some .int) ∈ gw_WS ∧ Cond.initialized y_M_bits.cls ∈ gw_WS ∧ (y_M_bits.cls ≠ "java/lang/invoke/MethodHandle" ∧ y_M_bits.cls ≠ "java/lang/invoke/VarHandle" ∧ (parseMethodDescriptor y_M_bits.desc).map (fun d => d.parameters.length) = some 2) := ⟨kc_M_bits, gw_r1 5 (by decide +kernel) (by decide +kernel), by decide +kernel⟩
theorem ks_M_bits : Cond.static y_M_bits ∈ gw_WS := gw_r3 238 (by decide +kernel) (by decide +kernel)
abbrev b_M_size0 : ByteArray := prog_6_method_16_code
def y_M_size0 : MethodName := ⟨"LimbDeskModel", "size0", "(I)I"⟩
theorem kc_M_size0 : Cond.code y_M_size0 b_M_size0 3 (some .int) ∈ gw_WS := gw_r3 232 (by rfl) (by rfl)
theorem ko_M_size0 : Cond.code y_M_size0 b_M_size0 3 (some .int) ∈ gw_WS ∧ Cond.initialized y_M_size0.cls ∈ gw_WS ∧ (y_M_size0.cls ≠ "java/lang/invoke/MethodHandle" ∧ y_M_size0.cls ≠ "java/lang/invoke/VarHandle" ∧ (parseMethodDescriptor y_M_size0.desc).map (fun d => d.parameters.length) = some 1) := ⟨kc_M_size0, gw_r1 5 (by decide +kernel) (by decide +kernel), by decide +kernel⟩
theorem ki_M_size0 : Cond.instanceMethod y_M_size0 ∈ gw_WS := gw_r3 231 (by decide +kernel) (by decide +kernel)
theorem kv_M_size0 : Cond.selects y_M_size0.cls y_M_size0 y_M_size0 ∈ gw_WS := gw_sel 21 (by decide +kernel) (by decide +kernel)
abbrev b_M_keep : ByteArray := prog_6_method_17_code
def y_M_keep : MethodName := ⟨"LimbDeskModel", "keep", "(II[III)Z"⟩
theorem kc_M_keep : Cond.code y_M_keep b_M_keep 8 (some .boolean) ∈ gw_WS := gw_r4 4 (by rfl) (by rfl)
theorem ko_M_keep : Cond.code y_M_keep b_M_keep 8 (some .boolean) ∈ gw_WS ∧ Cond.initialized y_M_keep.cls ∈ gw_WS ∧ (y_M_keep.cls ≠ "java/lang/invoke/MethodHandle" ∧ y_M_keep.cls ≠ "java/lang/invoke/VarHandle" ∧ (parseMethodDescriptor y_M_keep.desc).map (fun d => d.parameters.length) = some 5) := ⟨kc_M_keep, gw_r1 5 (by decide +kernel) (by decide +kernel), by decide +kernel⟩
theorem ki_M_keep : Cond.instanceMethod y_M_keep ∈ gw_WS := gw_r4 3 (by decide +kernel) (by decide +kernel)
theorem kv_M_keep : Cond.selects y_M_keep.cls y_M_keep y_M_keep ∈ gw_WS := gw_sel 23 (by decide +kernel) (by decide +kernel)
abbrev b_M_set : ByteArray := prog_6_method_18_code
def y_M_set : MethodName := ⟨"LimbDeskModel", "set", "(IJ)I"⟩
theorem kc_M_set : Cond.code y_M_set b_M_set 8 (some .int) ∈ gw_WS := gw_r3 218 (by rfl) (by rfl)
theorem ko_M_set : Cond.code y_M_set b_M_set 8 (some .int) ∈ gw_WS ∧ Cond.initialized y_M_set.cls ∈ gw_WS ∧ (y_M_set.cls ≠ "java/lang/invoke/MethodHandle" ∧ y_M_set.cls ≠ "java/lang/invoke/VarHandle" ∧ (parseMethodDescriptor y_M_set.desc).map (fun d => d.parameters.length) = some 2) := ⟨kc_M_set, gw_r1 5 (by decide +kernel) (by decide +kernel), by decide +kernel⟩
theorem ki_M_set : Cond.instanceMethod y_M_set ∈ gw_WS := gw_r3 216 (by decide +kernel) (by decide +kernel)
theorem kv_M_set : Cond.selects y_M_set.cls y_M_set y_M_set ∈ gw_WS := gw_r3 217 (by decide +kernel) (by decide +kernel)
abbrev b_M_line : ByteArray := prog_6_method_19_code
def y_M_line : MethodName := ⟨"LimbDeskModel", "line", "(J)I"⟩
theorem kc_M_line : Cond.code y_M_line b_M_line 6 (some .int) ∈ gw_WS := gw_r4 11 (by rfl) (by rfl)
theorem ko_M_line : Cond.code y_M_line b_M_line 6 (some .int) ∈ gw_WS ∧ Cond.initialized y_M_line.cls ∈ gw_WS ∧ (y_M_line.cls ≠ "java/lang/invoke/MethodHandle" ∧ y_M_line.cls ≠ "java/lang/invoke/VarHandle" ∧ (parseMethodDescriptor y_M_line.desc).map (fun d => d.parameters.length) = some 1) := ⟨kc_M_line, gw_r1 5 (by decide +kernel) (by decide +kernel), by decide +kernel⟩
theorem ki_M_line : Cond.instanceMethod y_M_line ∈ gw_WS := gw_r4 9 (by decide +kernel) (by decide +kernel)
theorem kv_M_line : Cond.selects y_M_line.cls y_M_line y_M_line ∈ gw_WS := gw_r4 10 (by decide +kernel) (by decide +kernel)
abbrev b_M_digit : ByteArray := prog_6_method_20_code
def y_M_digit : MethodName := ⟨"LimbDeskModel", "digit", "(I)I"⟩
theorem kc_M_digit : Cond.code y_M_digit b_M_digit 1 (some .int) ∈ gw_WS := gw_r4 19 (by rfl) (by rfl)
theorem ko_M_digit : Cond.code y_M_digit b_M_digit 1 (some .int) ∈ gw_WS ∧ Cond.initialized y_M_digit.cls ∈ gw_WS ∧ (y_M_digit.cls ≠ "java/lang/invoke/MethodHandle" ∧ y_M_digit.cls ≠ "java/lang/invoke/VarHandle" ∧ (parseMethodDescriptor y_M_digit.desc).map (fun d => d.parameters.length) = some 1) := ⟨kc_M_digit, gw_r1 5 (by decide +kernel) (by decide +kernel), by decide +kernel⟩
theorem ks_M_digit : Cond.static y_M_digit ∈ gw_WS := gw_r4 18 (by decide +kernel) (by decide +kernel)
abbrev b_M_timesSmall : ByteArray := prog_6_method_21_code
def y_M_timesSmall : MethodName := ⟨"LimbDeskModel", "timesSmall", "([IIII)I"⟩
theorem kc_M_timesSmall : Cond.code y_M_timesSmall b_M_timesSmall 7 (some .int) ∈ gw_WS := gw_r4 22 (by rfl) (by rfl)
theorem ko_M_timesSmall : Cond.code y_M_timesSmall b_M_timesSmall 7 (some .int) ∈ gw_WS ∧ Cond.initialized y_M_timesSmall.cls ∈ gw_WS ∧ (y_M_timesSmall.cls ≠ "java/lang/invoke/MethodHandle" ∧ y_M_timesSmall.cls ≠ "java/lang/invoke/VarHandle" ∧ (parseMethodDescriptor y_M_timesSmall.desc).map (fun d => d.parameters.length) = some 4) := ⟨kc_M_timesSmall, gw_r1 5 (by decide +kernel) (by decide +kernel), by decide +kernel⟩
theorem ks_M_timesSmall : Cond.static y_M_timesSmall ∈ gw_WS := gw_r4 21 (by decide +kernel) (by decide +kernel)
abbrev b_M_read : ByteArray := prog_6_method_22_code
def y_M_read : MethodName := ⟨"LimbDeskModel", "read", "(II)I"⟩
theorem kc_M_read : Cond.code y_M_read b_M_read 7 (some .int) ∈ gw_WS := gw_r4 16 (by rfl) (by rfl)
theorem ko_M_read : Cond.code y_M_read b_M_read 7 (some .int) ∈ gw_WS ∧ Cond.initialized y_M_read.cls ∈ gw_WS ∧ (y_M_read.cls ≠ "java/lang/invoke/MethodHandle" ∧ y_M_read.cls ≠ "java/lang/invoke/VarHandle" ∧ (parseMethodDescriptor y_M_read.desc).map (fun d => d.parameters.length) = some 2) := ⟨kc_M_read, gw_r1 5 (by decide +kernel) (by decide +kernel), by decide +kernel⟩
theorem ki_M_read : Cond.instanceMethod y_M_read ∈ gw_WS := gw_r4 14 (by decide +kernel) (by decide +kernel)
theorem kv_M_read : Cond.selects y_M_read.cls y_M_read y_M_read ∈ gw_WS := gw_r4 15 (by decide +kernel) (by decide +kernel)
abbrev b_M_show : ByteArray := prog_6_method_23_code
def y_M_show : MethodName := ⟨"LimbDeskModel", "show", "(II)I"⟩
theorem kc_M_show : Cond.code y_M_show b_M_show 8 (some .int) ∈ gw_WS := gw_r4 26 (by rfl) (by rfl)
theorem ko_M_show : Cond.code y_M_show b_M_show 8 (some .int) ∈ gw_WS ∧ Cond.initialized y_M_show.cls ∈ gw_WS ∧ (y_M_show.cls ≠ "java/lang/invoke/MethodHandle" ∧ y_M_show.cls ≠ "java/lang/invoke/VarHandle" ∧ (parseMethodDescriptor y_M_show.desc).map (fun d => d.parameters.length) = some 2) := ⟨kc_M_show, gw_r1 5 (by decide +kernel) (by decide +kernel), by decide +kernel⟩
theorem ki_M_show : Cond.instanceMethod y_M_show ∈ gw_WS := gw_r4 24 (by decide +kernel) (by decide +kernel)
theorem kv_M_show : Cond.selects y_M_show.cls y_M_show y_M_show ∈ gw_WS := gw_r4 25 (by decide +kernel) (by decide +kernel)
abbrev b_M_letter : ByteArray := prog_6_method_24_code
def y_M_letter : MethodName := ⟨"LimbDeskModel", "letter", "(I)I"⟩
theorem kc_M_letter : Cond.code y_M_letter b_M_letter 2 (some .int) ∈ gw_WS := gw_r4 30 (by rfl) (by rfl)
theorem ko_M_letter : Cond.code y_M_letter b_M_letter 2 (some .int) ∈ gw_WS ∧ Cond.initialized y_M_letter.cls ∈ gw_WS ∧ (y_M_letter.cls ≠ "java/lang/invoke/MethodHandle" ∧ y_M_letter.cls ≠ "java/lang/invoke/VarHandle" ∧ (parseMethodDescriptor y_M_letter.desc).map (fun d => d.parameters.length) = some 1) := ⟨kc_M_letter, gw_r1 5 (by decide +kernel) (by decide +kernel), by decide +kernel⟩
theorem ki_M_letter : Cond.instanceMethod y_M_letter ∈ gw_WS := gw_r4 28 (by decide +kernel) (by decide +kernel)
theorem kv_M_letter : Cond.selects y_M_letter.cls y_M_letter y_M_letter ∈ gw_WS := gw_r4 29 (by decide +kernel) (by decide +kernel)
abbrev b_M_work : ByteArray := prog_6_method_25_code
def y_M_work : MethodName := ⟨"LimbDeskModel", "work", "(IIII)I"⟩
theorem kc_M_work : Cond.code y_M_work b_M_work 10 (some .int) ∈ gw_WS := gw_r4 34 (by rfl) (by rfl)
theorem ko_M_work : Cond.code y_M_work b_M_work 10 (some .int) ∈ gw_WS ∧ Cond.initialized y_M_work.cls ∈ gw_WS ∧ (y_M_work.cls ≠ "java/lang/invoke/MethodHandle" ∧ y_M_work.cls ≠ "java/lang/invoke/VarHandle" ∧ (parseMethodDescriptor y_M_work.desc).map (fun d => d.parameters.length) = some 4) := ⟨kc_M_work, gw_r1 5 (by decide +kernel) (by decide +kernel), by decide +kernel⟩
theorem ki_M_work : Cond.instanceMethod y_M_work ∈ gw_WS := gw_r4 32 (by decide +kernel) (by decide +kernel)
theorem kv_M_work : Cond.selects y_M_work.cls y_M_work y_M_work ∈ gw_WS := gw_r4 33 (by decide +kernel) (by decide +kernel)
abbrev b_M_divide : ByteArray := prog_6_method_26_code
def y_M_divide : MethodName := ⟨"LimbDeskModel", "divide", "(ZIIII)I"⟩
theorem kc_M_divide : Cond.code y_M_divide b_M_divide 11 (some .int) ∈ gw_WS := gw_r4 51 (by rfl) (by rfl)
theorem ko_M_divide : Cond.code y_M_divide b_M_divide 11 (some .int) ∈ gw_WS ∧ Cond.initialized y_M_divide.cls ∈ gw_WS ∧ (y_M_divide.cls ≠ "java/lang/invoke/MethodHandle" ∧ y_M_divide.cls ≠ "java/lang/invoke/VarHandle" ∧ (parseMethodDescriptor y_M_divide.desc).map (fun d => d.parameters.length) = some 5) := ⟨kc_M_divide, gw_r1 5 (by decide +kernel) (by decide +kernel), by decide +kernel⟩
theorem ki_M_divide : Cond.instanceMethod y_M_divide ∈ gw_WS := gw_r4 49 (by decide +kernel) (by decide +kernel)
theorem kv_M_divide : Cond.selects y_M_divide.cls y_M_divide y_M_divide ∈ gw_WS := gw_r4 50 (by decide +kernel) (by decide +kernel)
abbrev b_M_shift : ByteArray := prog_6_method_27_code
def y_M_shift : MethodName := ⟨"LimbDeskModel", "shift", "(III)I"⟩
theorem kc_M_shift : Cond.code y_M_shift b_M_shift 10 (some .int) ∈ gw_WS := gw_r4 60 (by rfl) (by rfl)
theorem ko_M_shift : Cond.code y_M_shift b_M_shift 10 (some .int) ∈ gw_WS ∧ Cond.initialized y_M_shift.cls ∈ gw_WS ∧ (y_M_shift.cls ≠ "java/lang/invoke/MethodHandle" ∧ y_M_shift.cls ≠ "java/lang/invoke/VarHandle" ∧ (parseMethodDescriptor y_M_shift.desc).map (fun d => d.parameters.length) = some 3) := ⟨kc_M_shift, gw_r1 5 (by decide +kernel) (by decide +kernel), by decide +kernel⟩
theorem ki_M_shift : Cond.instanceMethod y_M_shift ∈ gw_WS := gw_r4 58 (by decide +kernel) (by decide +kernel)
theorem kv_M_shift : Cond.selects y_M_shift.cls y_M_shift y_M_shift ∈ gw_WS := gw_r4 59 (by decide +kernel) (by decide +kernel)
abbrev b_M_twos : ByteArray := prog_6_method_28_code
def y_M_twos : MethodName := ⟨"LimbDeskModel", "twos", "([IIIZ)V"⟩
theorem kc_M_twos : Cond.code y_M_twos b_M_twos 6 none ∈ gw_WS := gw_r4 73 (by rfl) (by rfl)
theorem ko_M_twos : Cond.code y_M_twos b_M_twos 6 none ∈ gw_WS ∧ Cond.initialized y_M_twos.cls ∈ gw_WS ∧ (y_M_twos.cls ≠ "java/lang/invoke/MethodHandle" ∧ y_M_twos.cls ≠ "java/lang/invoke/VarHandle" ∧ (parseMethodDescriptor y_M_twos.desc).map (fun d => d.parameters.length) = some 4) := ⟨kc_M_twos, gw_r1 5 (by decide +kernel) (by decide +kernel), by decide +kernel⟩
theorem ks_M_twos : Cond.static y_M_twos ∈ gw_WS := gw_r4 72 (by decide +kernel) (by decide +kernel)
abbrev b_M_bits2 : ByteArray := prog_6_method_29_code
def y_M_bits2 : MethodName := ⟨"LimbDeskModel", "bits", "(IIII)I"⟩
theorem kc_M_bits2 : Cond.code y_M_bits2 b_M_bits2 9 (some .int) ∈ gw_WS := gw_r4 70 (by rfl) (by rfl)
theorem ko_M_bits2 : Cond.code y_M_bits2 b_M_bits2 9 (some .int) ∈ gw_WS ∧ Cond.initialized y_M_bits2.cls ∈ gw_WS ∧ (y_M_bits2.cls ≠ "java/lang/invoke/MethodHandle" ∧ y_M_bits2.cls ≠ "java/lang/invoke/VarHandle" ∧ (parseMethodDescriptor y_M_bits2.desc).map (fun d => d.parameters.length) = some 4) := ⟨kc_M_bits2, gw_r1 5 (by decide +kernel) (by decide +kernel), by decide +kernel⟩
theorem ki_M_bits2 : Cond.instanceMethod y_M_bits2 ∈ gw_WS := gw_r4 68 (by decide +kernel) (by decide +kernel)
theorem kv_M_bits2 : Cond.selects y_M_bits2.cls y_M_bits2 y_M_bits2 ∈ gw_WS := gw_r4 69 (by decide +kernel) (by decide +kernel)
abbrev b_M_power : ByteArray := prog_6_method_30_code
def y_M_power : MethodName := ⟨"LimbDeskModel", "power", "(III)I"⟩
theorem kc_M_power : Cond.code y_M_power b_M_power 10 (some .int) ∈ gw_WS := gw_r4 77 (by rfl) (by rfl)
theorem ko_M_power : Cond.code y_M_power b_M_power 10 (some .int) ∈ gw_WS ∧ Cond.initialized y_M_power.cls ∈ gw_WS ∧ (y_M_power.cls ≠ "java/lang/invoke/MethodHandle" ∧ y_M_power.cls ≠ "java/lang/invoke/VarHandle" ∧ (parseMethodDescriptor y_M_power.desc).map (fun d => d.parameters.length) = some 3) := ⟨kc_M_power, gw_r1 5 (by decide +kernel) (by decide +kernel), by decide +kernel⟩
theorem ki_M_power : Cond.instanceMethod y_M_power ∈ gw_WS := gw_r4 75 (by decide +kernel) (by decide +kernel)
theorem kv_M_power : Cond.selects y_M_power.cls y_M_power y_M_power ∈ gw_WS := gw_r4 76 (by decide +kernel) (by decide +kernel)
abbrev b_M_residue : ByteArray := prog_6_method_31_code
def y_M_residue : MethodName := ⟨"LimbDeskModel", "residue", "(IIII)I"⟩
theorem kc_M_residue : Cond.code y_M_residue b_M_residue 13 (some .int) ∈ gw_WS := gw_r4 82 (by rfl) (by rfl)
theorem ko_M_residue : Cond.code y_M_residue b_M_residue 13 (some .int) ∈ gw_WS ∧ Cond.initialized y_M_residue.cls ∈ gw_WS ∧ (y_M_residue.cls ≠ "java/lang/invoke/MethodHandle" ∧ y_M_residue.cls ≠ "java/lang/invoke/VarHandle" ∧ (parseMethodDescriptor y_M_residue.desc).map (fun d => d.parameters.length) = some 4) := ⟨kc_M_residue, gw_r1 5 (by decide +kernel) (by decide +kernel), by decide +kernel⟩
theorem ki_M_residue : Cond.instanceMethod y_M_residue ∈ gw_WS := gw_r4 80 (by decide +kernel) (by decide +kernel)
theorem kv_M_residue : Cond.selects y_M_residue.cls y_M_residue y_M_residue ∈ gw_WS := gw_r4 81 (by decide +kernel) (by decide +kernel)
abbrev b_M_compare : ByteArray := prog_6_method_32_code
def y_M_compare : MethodName := ⟨"LimbDeskModel", "compare", "(II)I"⟩
theorem kc_M_compare : Cond.code y_M_compare b_M_compare 5 (some .int) ∈ gw_WS := gw_r4 86 (by rfl) (by rfl)
theorem ko_M_compare : Cond.code y_M_compare b_M_compare 5 (some .int) ∈ gw_WS ∧ Cond.initialized y_M_compare.cls ∈ gw_WS ∧ (y_M_compare.cls ≠ "java/lang/invoke/MethodHandle" ∧ y_M_compare.cls ≠ "java/lang/invoke/VarHandle" ∧ (parseMethodDescriptor y_M_compare.desc).map (fun d => d.parameters.length) = some 2) := ⟨kc_M_compare, gw_r1 5 (by decide +kernel) (by decide +kernel), by decide +kernel⟩
theorem ki_M_compare : Cond.instanceMethod y_M_compare ∈ gw_WS := gw_r4 84 (by decide +kernel) (by decide +kernel)
theorem kv_M_compare : Cond.selects y_M_compare.cls y_M_compare y_M_compare ∈ gw_WS := gw_r4 85 (by decide +kernel) (by decide +kernel)
abbrev b_M_small : ByteArray := prog_6_method_33_code
def y_M_small : MethodName := ⟨"LimbDeskModel", "small", "(I)J"⟩
theorem kc_M_small : Cond.code y_M_small b_M_small 6 (some .long) ∈ gw_WS := gw_r4 90 (by rfl) (by rfl)
theorem ko_M_small : Cond.code y_M_small b_M_small 6 (some .long) ∈ gw_WS ∧ Cond.initialized y_M_small.cls ∈ gw_WS ∧ (y_M_small.cls ≠ "java/lang/invoke/MethodHandle" ∧ y_M_small.cls ≠ "java/lang/invoke/VarHandle" ∧ (parseMethodDescriptor y_M_small.desc).map (fun d => d.parameters.length) = some 1) := ⟨kc_M_small, gw_r1 5 (by decide +kernel) (by decide +kernel), by decide +kernel⟩
theorem ki_M_small : Cond.instanceMethod y_M_small ∈ gw_WS := gw_r4 88 (by decide +kernel) (by decide +kernel)
theorem kv_M_small : Cond.selects y_M_small.cls y_M_small y_M_small ∈ gw_WS := gw_r4 89 (by decide +kernel) (by decide +kernel)
abbrev b_M_low64 : ByteArray := prog_6_method_34_code
def y_M_low64 : MethodName := ⟨"LimbDeskModel", "low64", "(I)J"⟩
theorem kc_M_low64 : Cond.code y_M_low64 b_M_low64 5 (some .long) ∈ gw_WS := gw_r4 94 (by rfl) (by rfl)
theorem ko_M_low64 : Cond.code y_M_low64 b_M_low64 5 (some .long) ∈ gw_WS ∧ Cond.initialized y_M_low64.cls ∈ gw_WS ∧ (y_M_low64.cls ≠ "java/lang/invoke/MethodHandle" ∧ y_M_low64.cls ≠ "java/lang/invoke/VarHandle" ∧ (parseMethodDescriptor y_M_low64.desc).map (fun d => d.parameters.length) = some 1) := ⟨kc_M_low64, gw_r1 5 (by decide +kernel) (by decide +kernel), by decide +kernel⟩
theorem ki_M_low64 : Cond.instanceMethod y_M_low64 ∈ gw_WS := gw_r4 93 (by decide +kernel) (by decide +kernel)
theorem kv_M_low64 : Cond.selects y_M_low64.cls y_M_low64 y_M_low64 ∈ gw_WS := gw_sel 25 (by decide +kernel) (by decide +kernel)
abbrev b_M_low : ByteArray := prog_6_method_35_code
def y_M_low : MethodName := ⟨"LimbDeskModel", "low", "(I)J"⟩
theorem kc_M_low : Cond.code y_M_low b_M_low 4 (some .long) ∈ gw_WS := gw_r4 99 (by rfl) (by rfl)
theorem ko_M_low : Cond.code y_M_low b_M_low 4 (some .long) ∈ gw_WS ∧ Cond.initialized y_M_low.cls ∈ gw_WS ∧ (y_M_low.cls ≠ "java/lang/invoke/MethodHandle" ∧ y_M_low.cls ≠ "java/lang/invoke/VarHandle" ∧ (parseMethodDescriptor y_M_low.desc).map (fun d => d.parameters.length) = some 1) := ⟨kc_M_low, gw_r1 5 (by decide +kernel) (by decide +kernel), by decide +kernel⟩
theorem ki_M_low : Cond.instanceMethod y_M_low ∈ gw_WS := gw_r4 97 (by decide +kernel) (by decide +kernel)
theorem kv_M_low : Cond.selects y_M_low.cls y_M_low y_M_low ∈ gw_WS := gw_r4 98 (by decide +kernel) (by decide +kernel)
abbrev b_M_folded : ByteArray := prog_6_method_36_code
def y_M_folded : MethodName := ⟨"LimbDeskModel", "folded", "(I)J"⟩
theorem kc_M_folded : Cond.code y_M_folded b_M_folded 9 (some .long) ∈ gw_WS := gw_r4 103 (by rfl) (by rfl)
theorem ko_M_folded : Cond.code y_M_folded b_M_folded 9 (some .long) ∈ gw_WS ∧ Cond.initialized y_M_folded.cls ∈ gw_WS ∧ (y_M_folded.cls ≠ "java/lang/invoke/MethodHandle" ∧ y_M_folded.cls ≠ "java/lang/invoke/VarHandle" ∧ (parseMethodDescriptor y_M_folded.desc).map (fun d => d.parameters.length) = some 1) := ⟨kc_M_folded, gw_r1 5 (by decide +kernel) (by decide +kernel), by decide +kernel⟩
theorem ki_M_folded : Cond.instanceMethod y_M_folded ∈ gw_WS := gw_r4 101 (by decide +kernel) (by decide +kernel)
theorem kv_M_folded : Cond.selects y_M_folded.cls y_M_folded y_M_folded ∈ gw_WS := gw_r4 102 (by decide +kernel) (by decide +kernel)
abbrev b_M_size : ByteArray := prog_6_method_37_code
def y_M_size : MethodName := ⟨"LimbDeskModel", "size", "(I)I"⟩
theorem kc_M_size : Cond.code y_M_size b_M_size 2 (some .int) ∈ gw_WS := gw_r4 109 (by rfl) (by rfl)
theorem ko_M_size : Cond.code y_M_size b_M_size 2 (some .int) ∈ gw_WS ∧ Cond.initialized y_M_size.cls ∈ gw_WS ∧ (y_M_size.cls ≠ "java/lang/invoke/MethodHandle" ∧ y_M_size.cls ≠ "java/lang/invoke/VarHandle" ∧ (parseMethodDescriptor y_M_size.desc).map (fun d => d.parameters.length) = some 1) := ⟨kc_M_size, gw_r1 5 (by decide +kernel) (by decide +kernel), by decide +kernel⟩
theorem ki_M_size : Cond.instanceMethod y_M_size ∈ gw_WS := gw_r4 107 (by decide +kernel) (by decide +kernel)
theorem kv_M_size : Cond.selects y_M_size.cls y_M_size y_M_size ∈ gw_WS := gw_r4 108 (by decide +kernel) (by decide +kernel)
abbrev b_L_set : ByteArray := method_3_code
def y_L_set : MethodName := ⟨"LimbDeskLaw", "set", "(LLimbDesk;IJ[J)I"⟩
abbrev b_L_line : ByteArray := method_4_code
def y_L_line : MethodName := ⟨"LimbDeskLaw", "line", "(LLimbDesk;J[J)I"⟩
abbrev b_L_read : ByteArray := method_5_code
def y_L_read : MethodName := ⟨"LimbDeskLaw", "read", "(LLimbDesk;II[J)I"⟩
abbrev b_L_show : ByteArray := method_6_code
def y_L_show : MethodName := ⟨"LimbDeskLaw", "show", "(LLimbDesk;II[J)I"⟩
abbrev b_L_letter : ByteArray := method_7_code
def y_L_letter : MethodName := ⟨"LimbDeskLaw", "letter", "(LLimbDesk;I[J)I"⟩
abbrev b_L_work : ByteArray := method_8_code
def y_L_work : MethodName := ⟨"LimbDeskLaw", "work", "(LLimbDesk;IIII[J)I"⟩
abbrev b_L_divide : ByteArray := method_9_code
def y_L_divide : MethodName := ⟨"LimbDeskLaw", "divide", "(LLimbDesk;ZIIII[J)I"⟩
abbrev b_L_shift : ByteArray := method_10_code
def y_L_shift : MethodName := ⟨"LimbDeskLaw", "shift", "(LLimbDesk;III[J)I"⟩
abbrev b_L_bits : ByteArray := method_11_code
def y_L_bits : MethodName := ⟨"LimbDeskLaw", "bits", "(LLimbDesk;IIII[J)I"⟩
abbrev b_L_power : ByteArray := method_12_code
def y_L_power : MethodName := ⟨"LimbDeskLaw", "power", "(LLimbDesk;III[J)I"⟩
abbrev b_L_residue : ByteArray := method_13_code
def y_L_residue : MethodName := ⟨"LimbDeskLaw", "residue", "(LLimbDesk;IIII[J)I"⟩
abbrev b_L_compare : ByteArray := method_14_code
def y_L_compare : MethodName := ⟨"LimbDeskLaw", "compare", "(LLimbDesk;II[J)I"⟩
abbrev b_L_small : ByteArray := method_15_code
def y_L_small : MethodName := ⟨"LimbDeskLaw", "small", "(LLimbDesk;I[J)I"⟩
abbrev b_L_low : ByteArray := method_16_code
def y_L_low : MethodName := ⟨"LimbDeskLaw", "low", "(LLimbDesk;I[J)I"⟩
abbrev b_L_folded : ByteArray := method_17_code
def y_L_folded : MethodName := ⟨"LimbDeskLaw", "folded", "(LLimbDesk;I[J)I"⟩
abbrev b_L_size : ByteArray := method_18_code
def y_L_size : MethodName := ⟨"LimbDeskLaw", "size", "(LLimbDesk;I[J)I"⟩
end
section
/-! FLAT MEMORY: int fields by address and slot (F), int and byte arrays by address and place (A), long arrays (L, never changed by the class); references are fixed in the layout Λ. -/
abbrev gm_M : Type := Nat → Nat → Int32
def gm_up (F : gm_M) (a k : Nat) (v : Int32) : gm_M := fun b => if b = a then upd (F a) k v else F b
theorem gm_at (F : gm_M) (a k : Nat) (v : Int32) : gm_up F a k v a = upd (F a) k v := if_pos rfl
theorem gm_off {F : gm_M} {a b k : Nat} {v : Int32} (h : b ≠ a) : gm_up F a k v b = F b := if_neg h
def gm_cpy (A : gm_M) (a b n : Nat) : gm_M := fun c => if c = b then va_cpy (A a) (A b) 0 0 n else A c
theorem gm_cat (A : gm_M) (a b n : Nat) : gm_cpy A a b n b = va_cpy (A a) (A b) 0 0 n := if_pos rfl
theorem gm_coff {A : gm_M} {a b c n : Nat} (h : c ≠ b) : gm_cpy A a b n c = A c := if_neg h
def j_iushr (x y : Int32) : Int32 := (x.toUInt32 >>> (y.toUInt32 &&& Int32.toUInt32 31)).toInt32
def j_lushr (x : Int64) (y : Int32) : Int64 := (x.toUInt64 >>> (y.toInt64.toUInt64 &&& Int64.toUInt64 63)).toInt64
def j_lshl (x : Int64) (y : Int32) : Int64 := x <<< (y.toInt64 &&& 63)
def j_lshr (x : Int64) (y : Int32) : Int64 := x >>> (y.toInt64 &&& 63)
abbrev gs_R : Type := Option (Option Nat)
abbrev gs_S : Type := (Nat × List gs_R) ⊕ (ClassId × Nat) ⊕ (ClassId × Nat) ⊕ (ClassId × Nat × (Nat → Option Nat))
abbrev gs_L : Type := List (Nat × gs_S)
def gs_vals (f : Nat → Int32) : Nat → List gs_R → List Value
  | _, [] => []
  | k, none :: r => .int (f k) :: gs_vals f (k + 1) r
  | k, some none :: r => .null :: gs_vals f (k + 1) r
  | k, some (some q) :: r => .ref q :: gs_vals f (k + 1) r
theorem gs_vals_len (f : Nat → Int32) : ∀ (rs : List gs_R) (k : Nat), (gs_vals f k rs).length = rs.length
  | [], _ => rfl
  | none :: r, k => by simp [gs_vals, gs_vals_len f r]
  | some none :: r, k => by simp [gs_vals, gs_vals_len f r]
  | some (some q) :: r, k => by simp [gs_vals, gs_vals_len f r]
theorem gs_vals_low (f : Nat → Int32) (x : Int32) (n : Nat) : ∀ (rs : List gs_R) (k : Nat), n < k → gs_vals (upd f n x) k rs = gs_vals f k rs
  | [], _, _ => rfl
  | none :: r, k, h => by
    simp only [gs_vals, gs_vals_low f x n r (k + 1) (by omega)]
    rw [show upd f n x k = f k from if_neg (by omega)]
  | some none :: r, k, h => by simp only [gs_vals, gs_vals_low f x n r (k + 1) (by omega)]
  | some (some q) :: r, k, h => by simp only [gs_vals, gs_vals_low f x n r (k + 1) (by omega)]
theorem gs_vals_set (f : Nat → Int32) (x : Int32) : ∀ (rs : List gs_R) (j k : Nat), rs[k]? = some none → (gs_vals f j rs).set k (.int x) = gs_vals (upd f (j + k) x) j rs
  | [], _, _, h => by simp at h
  | none :: r, j, 0, _ => by
    simp only [gs_vals, List.set_cons_zero, Nat.add_zero, gs_vals_low f x j r (j + 1) (by omega)]
    rw [show upd f j x j = x from if_pos rfl]
  | none :: r, j, k + 1, h => by
    have h := gs_vals_set f x r (j + 1) k (by simpa using h)
    rw [show j + 1 + k = j + (k + 1) by omega] at h
    simp only [gs_vals, List.set_cons_succ, h]
    rw [show upd f (j + (k + 1)) x j = f j from if_neg (by omega)]
  | some none :: r, j, 0, h => by simp at h
  | some (some q) :: r, j, 0, h => by simp at h
  | some none :: r, j, k + 1, h => by
    have h := gs_vals_set f x r (j + 1) k (by simpa using h)
    rw [show j + 1 + k = j + (k + 1) by omega] at h
    simp only [gs_vals, List.set_cons_succ, h]
  | some (some q) :: r, j, k + 1, h => by
    have h := gs_vals_set f x r (j + 1) k (by simpa using h)
    rw [show j + 1 + k = j + (k + 1) by omega] at h
    simp only [gs_vals, List.set_cons_succ, h]
def gs_cell (f g : Nat → Int32) (h : Nat → Int64) : gs_S → va_E
  | .inl (ci, rs) => .inr (ci, gs_vals f 0 rs)
  | .inr (.inl (cA, n)) => .inl (cA, n, .inl g)
  | .inr (.inr (.inl (cA, n))) => .inl (cA, n, .inr (.inl h))
  | .inr (.inr (.inr (cA, n, q))) => .inl (cA, n, .inr (.inr (.inr (.inr q))))
def gs_ws (Λ : gs_L) (F A : gm_M) (L : Nat → Nat → Int64) : va_W := Λ.map (fun q => (q.1, gs_cell (F q.1) (A q.1) (L q.1) q.2))
def gw_A (Λ : gs_L) : Nat → Prop := fun q => ∃ sh : gs_S, (q, sh) ∈ Λ
def gs_D (Λ : gs_L) : Prop := ∀ (i j : Nat) (p q : Nat × gs_S), Λ[i]? = some p → Λ[j]? = some q → p.1 = q.1 → i = j
theorem gs_ws_get {Λ : gs_L} {F A : gm_M} {L : Nat → Nat → Int64} {k : Nat} {q : Nat × va_E} (h : (gs_ws Λ F A L)[k]? = some q) : ∃ p, Λ[k]? = some p ∧ q = (p.1, gs_cell (F p.1) (A p.1) (L p.1) p.2) := by
  unfold gs_ws at h
  rw [List.getElem?_map] at h
  cases hp : Λ[k]? with
  | none => rw [hp] at h; cases h
  | some p => rw [hp] at h; exact ⟨p, rfl, (Option.some.inj h).symm⟩
theorem gs_D.va {Λ : gs_L} (h : gs_D Λ) (F A : gm_M) (L : Nat → Nat → Int64) : va_D (gw_A Λ) (gs_ws Λ F A L) := by
  refine ⟨fun i j p q hi hj e => ?_, fun k q hk => ?_⟩
  · obtain ⟨p', h1, rfl⟩ := gs_ws_get hi
    obtain ⟨q', h2, rfl⟩ := gs_ws_get hj
    exact h i j p' q' h1 h2 e
  · obtain ⟨p', h1, rfl⟩ := gs_ws_get hk
    exact ⟨p'.2, List.mem_of_getElem? h1⟩
theorem gs_ws_at {Λ : gs_L} {F A : gm_M} {L : Nat → Nat → Int64} {a : Nat} {sh : gs_S} (h : (a, sh) ∈ Λ) : ∃ k : Nat, Λ[k]? = some (a, sh) ∧ (gs_ws Λ F A L)[k]? = some (a, gs_cell (F a) (A a) (L a) sh) := by
  obtain ⟨k, hk⟩ := List.getElem?_of_mem h
  refine ⟨k, hk, ?_⟩
  unfold gs_ws
  rw [List.getElem?_map, hk]
  rfl
theorem gs_ws_set {Λ : gs_L} {F A F' A' : gm_M} {L : Nat → Nat → Int64} {a k : Nat} {sh : gs_S} {e : va_E} (hD : gs_D Λ) (hk : Λ[k]? = some (a, sh)) (hF : ∀ b, b ≠ a → F' b = F b) (hA : ∀ b, b ≠ a → A' b = A b) (he : gs_cell (F' a) (A' a) (L a) sh = e) : (gs_ws Λ F A L).set k (a, e) = gs_ws Λ F' A' L := by
  subst he
  apply List.ext_getElem?
  intro i
  have hlt : k < Λ.length := (List.getElem?_eq_some_iff.mp hk).1
  by_cases hi : k = i
  · subst hi
    rw [List.getElem?_set_self (by unfold gs_ws; rw [List.length_map]; exact hlt)]
    unfold gs_ws
    rw [List.getElem?_map, hk]
    rfl
  · rw [List.getElem?_set_ne hi]
    unfold gs_ws
    rw [List.getElem?_map, List.getElem?_map]
    cases hq : Λ[i]? with
    | none => rfl
    | some q =>
      have hne : q.1 ≠ a := fun e => hi (hD k i (a, sh) q hk hq e.symm)
      simp only [Option.map_some, hF _ hne, hA _ hne]
abbrev gI (cI : ClassId) (n : Nat) : gs_S := .inr (.inl (cI, n))
abbrev gJ (cJ : ClassId) (n : Nat) : gs_S := .inr (.inr (.inl (cJ, n)))
abbrev gRf (cW : ClassId) (n : Nat) (g : Nat → Option Nat) : gs_S := .inr (.inr (.inr (cW, n, g)))
abbrev gWo (la : Nat) : gs_S := .inl (0, [some (some la), none, none])
def gW (cI : ClassId) (Λ : gs_L) (a la n : Nat) : Prop := (a, gWo la) ∈ Λ ∧ (la, gI cI n) ∈ Λ
theorem gz_n {v : Int32} (h : v = 0 ∨ v = 1) : narrow .boolean (.int v) = .int v := by
  rcases h with rfl | rfl <;> rfl
theorem gz_f {v : Int32} (h : v = 0 ∨ v = 1) : fits .boolean (.int v) = true := by
  rcases h with rfl | rfl <;> rfl
abbrev gtys (cI cB cJ cW : ClassId) : List (ClassId × FieldType) := [(cI, .int), (cB, .byte), (cJ, .long), (cW, .object "LimbDesk$Whole")]
section GR
variable {p : Program} {l : Launch} {e : Env} {R : Room} {s : State} {m : MethodId} {args : Array Value} {below : List Frame} {meth : Method} {c : Code} {H : Heap} {locs : List Loc} {cells slots : Nat} {Q : State → Prop}
variable {cc : ByteArray} {pc : Nat} {ls : Array Slot} {rest : List Value} {D : va_G} {cl : List vw_C} {a : Nat} {tys : List (ClassId × FieldType)} {H0 : Heap} {Λ : gs_L} {F A : gm_M} {L : Nat → Nat → Int64} {cI cB cJ cW : ClassId}
theorem gs_get (hexec : p.tables.exec = Jvm.exec) (hb : c.code = cc) {own C : String} {T : u_T} {N ci index : Nat} {Ts : List Cond} (hts : ∀ w ∈ Ts, w.before args s = true) (hin : ∀ w ∈ u_ws C T N, w ∈ Ts) (hown : s.vm.findClass own = some m.cls) (hK : va_K D cl tys s) (hP : va_P D cl (gs_ws Λ F A L) H) {rs : List gs_R} (hm : (a, Sum.inl (ci, rs)) ∈ Λ) (hc : cl[ci]? = some (C, T, N)) (k : Nat) (hk : k < N) (hlink : (Cond.fieldLink own index (T k).1 (T k).2.1 (T k).2.2.1).before args s = true) {v : Value} (hv : (gs_vals (F a) 0 rs)[k]? = some v) (hdg : decode cc pc = .ok (.getfield index, 3))
    (kk : W p l e R s m args below meth c H locs cells slots Q (F0 m (pc + 3) ls (v :: rest))) : W p l e R s m args below meth c H locs cells slots Q (F0 m pc ls (.ref a :: rest)) := by
  obtain ⟨q0, -, hw⟩ := gs_ws_at (F := F) (A := A) (L := L) hm
  exact va_get hexec hb hts hin hown hK hP q0 hw hc k hk hlink (fun _ h => h) hv hdg kk
theorem gs_put (hexec : p.tables.exec = Jvm.exec) (hb : c.code = cc) {own C : String} {T : u_T} {N ci index : Nat} {Ts : List Cond} (hts : ∀ w ∈ Ts, w.before args s = true) (hin : ∀ w ∈ u_ws C T N, w ∈ Ts) (ty0 : Nat → FieldType) (hty : ∀ k, k < N → parseFieldDescriptor (T k).2.2.1 = some (ty0 k)) (hnm : ∀ a, a < N → ∀ b, b < N → a ≠ b → (T a).2.1 ≠ (T b).2.1) (hown : s.vm.findClass own = some m.cls) (hK : va_K D cl tys s) (hlo : gs_D Λ) (hP : va_P D cl (gs_ws Λ F A L) H) (hS : va_S (gw_A Λ) H0 H locs) {rs : List gs_R} (hm : (a, Sum.inl (ci, rs)) ∈ Λ) (hc : cl[ci]? = some (C, T, N)) (k : Nat) (hk : k < N) (hr : rs[k]? = some none) (hlink : (Cond.fieldLink own index (T k).1 (T k).2.1 (T k).2.2.1).before args s = true) (hfin : (T k).2.2.2 = false) {ty : FieldType} {v : Int32} (hd : parseFieldDescriptor (T k).2.2.1 = some ty) (hn : narrow ty (.int v) = .int v) (hfit : fits ty (.int v) = true) (hdg : decode cc pc = .ok (.putfield index, 3))
    (kk : ∀ (F1 : gm_M), F1 = gm_up F a k v → ∀ (H1 : Heap) (locs1 : List Loc), va_P D cl (gs_ws Λ F1 A L) H1 → va_S (gw_A Λ) H0 H1 locs1 → W p l e R s m args below meth c H1 locs1 cells slots Q (F0 m (pc + 3) ls rest)) : W p l e R s m args below meth c H locs cells slots Q (F0 m pc ls (.int v :: .ref a :: rest)) := by
  obtain ⟨q0, hq, hw⟩ := gs_ws_at (F := F) (A := A) (L := L) hm
  refine va_put hexec hb hts hin ty0 hty hnm hown hK hP (hlo.va F A L) hS q0 hw hc k hk hlink (fun _ h => h) hfin hd hn hfit ?_ hdg (fun H1 locs1 hP1 _ hS1 => kk _ rfl H1 locs1 ?_ hS1)
  · rw [gs_vals_len]; exact (List.getElem?_eq_some_iff.mp hr).1
  · rw [← gs_ws_set (A' := A) (F' := gm_up F a k v) hlo hq (fun b hb => gm_off hb) (fun _ _ => rfl) rfl]
    rw [gm_at]
    show va_P D cl ((gs_ws Λ F A L).set q0 (a, .inr (ci, gs_vals (upd (F a) k v) 0 rs))) H1
    rw [← Nat.zero_add k, ← gs_vals_set (F a) v rs 0 k hr]
    exact hP1
theorem gs_ild (hexec : p.tables.exec = Jvm.exec) (hb : c.code = cc) (hK : va_K D cl (gtys cI cB cJ cW) s) (hP : va_P D cl (gs_ws Λ F A L) H) {n : Nat} (hm : (a, gI cI n) ∈ Λ) {i : Int32} (hin : vp_in i n) (hdg : decode cc pc = .ok (.iaload, 1))
    (kk : W p l e R s m args below meth c H locs cells slots Q (F0 m (pc + 1) ls (.int (A a i.toNatClampNeg) :: rest))) : W p l e R s m args below meth c H locs cells slots Q (F0 m pc ls (.int i :: .ref a :: rest)) := by
  obtain ⟨q0, -, hw⟩ := gs_ws_at (F := F) (A := A) (L := L) hm
  exact va_iald hexec hb hK hP q0 0 hw rfl hin hdg kk
theorem gs_bld (hexec : p.tables.exec = Jvm.exec) (hb : c.code = cc) (hK : va_K D cl (gtys cI cB cJ cW) s) (hP : va_P D cl (gs_ws Λ F A L) H) {n : Nat} (hm : (a, gI cB n) ∈ Λ) {i : Int32} (hin : vp_in i n) (hdg : decode cc pc = .ok (.baload, 1))
    (kk : W p l e R s m args below meth c H locs cells slots Q (F0 m (pc + 1) ls (.int (A a i.toNatClampNeg) :: rest))) : W p l e R s m args below meth c H locs cells slots Q (F0 m pc ls (.int i :: .ref a :: rest)) := by
  obtain ⟨q0, -, hw⟩ := gs_ws_at (F := F) (A := A) (L := L) hm
  exact va_bald hexec hb hK hP q0 1 hw rfl hin hdg kk
theorem gs_ald (hexec : p.tables.exec = Jvm.exec) (hb : c.code = cc) (hK : va_K D cl (gtys cI cB cJ cW) s) (hP : va_P D cl (gs_ws Λ F A L) H) {n : Nat} {g : Nat → Nat} (hm : (a, gRf cW n (fun j => some (g j))) ∈ Λ) {i : Int32} (hin : vp_in i n) (hdg : decode cc pc = .ok (.aaload, 1))
    (kk : W p l e R s m args below meth c H locs cells slots Q (F0 m (pc + 1) ls (.ref (g i.toNatClampNeg) :: rest))) : W p l e R s m args below meth c H locs cells slots Q (F0 m pc ls (.int i :: .ref a :: rest)) := by
  obtain ⟨q0, -, hw⟩ := gs_ws_at (F := F) (A := A) (L := L) hm
  exact va_aldq hexec hb hK hP q0 3 hw rfl hin hdg kk
theorem gs_ist (hexec : p.tables.exec = Jvm.exec) (hb : c.code = cc) (hK : va_K D cl (gtys cI cB cJ cW) s) (hlo : gs_D Λ) (hP : va_P D cl (gs_ws Λ F A L) H) (hS : va_S (gw_A Λ) H0 H locs) {n : Nat} (hm : (a, gI cI n) ∈ Λ) {i x : Int32} (hin : vp_in i n) (hdg : decode cc pc = .ok (.iastore, 1))
    (kk : ∀ (A1 : gm_M), A1 = gm_up A a i.toNatClampNeg x → ∀ (H1 : Heap) (locs1 : List Loc), va_P D cl (gs_ws Λ F A1 L) H1 → va_S (gw_A Λ) H0 H1 locs1 → W p l e R s m args below meth c H1 locs1 cells slots Q (F0 m (pc + 1) ls rest)) : W p l e R s m args below meth c H locs cells slots Q (F0 m pc ls (.int x :: .int i :: .ref a :: rest)) := by
  obtain ⟨q0, hq, hw⟩ := gs_ws_at (F := F) (A := A) (L := L) hm
  refine va_iast hexec hb hK hP (hlo.va F A L) hS q0 0 hw rfl hin hdg (fun H1 locs1 hP1 _ hS1 => kk _ rfl H1 locs1 ?_ hS1)
  rw [← gs_ws_set (F' := F) (A' := gm_up A a i.toNatClampNeg x) hlo hq (fun _ _ => rfl) (fun b hb => gm_off hb) rfl, gm_at]
  exact hP1
theorem gs_bst (hexec : p.tables.exec = Jvm.exec) (hb : c.code = cc) (hK : va_K D cl (gtys cI cB cJ cW) s) (hlo : gs_D Λ) (hP : va_P D cl (gs_ws Λ F A L) H) (hS : va_S (gw_A Λ) H0 H locs) {n : Nat} (hm : (a, gI cB n) ∈ Λ) {i x : Int32} (hin : vp_in i n) (hdg : decode cc pc = .ok (.bastore, 1))
    (kk : ∀ (A1 : gm_M), A1 = gm_up A a i.toNatClampNeg (vp_nar .byte x) → ∀ (H1 : Heap) (locs1 : List Loc), va_P D cl (gs_ws Λ F A1 L) H1 → va_S (gw_A Λ) H0 H1 locs1 → W p l e R s m args below meth c H1 locs1 cells slots Q (F0 m (pc + 1) ls rest)) : W p l e R s m args below meth c H locs cells slots Q (F0 m pc ls (.int x :: .int i :: .ref a :: rest)) := by
  obtain ⟨q0, hq, hw⟩ := gs_ws_at (F := F) (A := A) (L := L) hm
  refine va_bast hexec hb hK hP (hlo.va F A L) hS q0 1 hw rfl hin hdg (fun H1 locs1 hP1 _ hS1 => kk _ rfl H1 locs1 ?_ hS1)
  rw [← gs_ws_set (F' := F) (A' := gm_up A a i.toNatClampNeg (vp_nar .byte x)) hlo hq (fun _ _ => rfl) (fun b hb => gm_off hb) rfl, gm_at]
  exact hP1
theorem gs_copy (hexec : p.tables.exec = Jvm.exec) (hb : c.code = cc) (hml : c.maxLocals = ls.size) {own : String} {index : Nat} (hown : s.vm.findClass own = some m.cls) (hlink : (Cond.methodLink own index arraycopyName).before args s = true) (hnat : (Cond.native arraycopyName).before args s = true) (hstat : (Cond.static arraycopyName).before args s = true) (hini : (Cond.initialized "java/lang/System").before args s = true)
    (hK : va_K D cl (gtys cI cB cJ cW) s) (hlo : gs_D Λ) (hP : va_P D cl (gs_ws Λ F A L) H) (hS : va_S (gw_A Λ) H0 H locs) {b n0 n1 : Nat} (hm0 : (b, gI cI n0) ∈ Λ) (hm1 : (a, gI cI n1) ∈ Λ) {n : Int32} (h3 : ¬ n < 0) (h4 : n.toNatClampNeg ≤ n0) (h5 : n.toNatClampNeg ≤ n1)
    (hframes : 1 ≤ R.frames) (hlocals : (rest.map fun v => v.category).sum + (nativeFrameWords "java/lang/System" "arraycopy" 5 + 11) ≤ R.locals) (hdg : decode cc pc = .ok (.invokestatic index, 3))
    (kk : ∀ (A1 : gm_M), A1 = gm_cpy A b a n.toNatClampNeg → ∀ (H1 : Heap) (locs1 : List Loc), va_P D cl (gs_ws Λ F A1 L) H1 → va_S (gw_A Λ) H0 H1 locs1 → W p l e R s m args below meth c H1 locs1 cells slots Q (F0 m (pc + 3) ls rest)) : W p l e R s m args below meth c H locs cells slots Q (F0 m pc ls (.int n :: .int (0 : Int32) :: .ref a :: .int (0 : Int32) :: .ref b :: rest)) := by
  obtain ⟨q0, hq, hw⟩ := gs_ws_at (F := F) (A := A) (L := L) hm0
  obtain ⟨q1, hq1, hw1⟩ := gs_ws_at (F := F) (A := A) (L := L) hm1
  have z0 : (0 : Int32).toNatClampNeg = 0 := by decide
  refine va_copyi hexec hb hml hown hlink hnat hstat hini hK hP (hlo.va F A L) hS q0 q1 0 0 (ty := .int) hw hw1 rfl rfl rfl (by decide) (by decide) h3 (by rw [z0]; omega) (by rw [z0]; omega) (fun _ _ => rfl) hframes hlocals hdg (fun H1 locs1 hP1 _ hS1 => kk _ rfl H1 locs1 ?_ hS1)
  rw [← gs_ws_set (F' := F) (A' := gm_cpy A b a n.toNatClampNeg) hlo hq1 (fun _ _ => rfl) (fun b hb => gm_coff hb) rfl, gm_cat]
  rw [z0] at hP1
  exact hP1
theorem gl_ge (hexec : p.tables.exec = Jvm.exec) (hb : c.code = cc) {x y : Int64} {off : Int} {tgt : Nat} (h1 : decode cc pc = .ok (.lcmp, 1)) (h2 : decode cc (pc + 1) = .ok (.ifCond .ge off, 3)) (ht : ((pc + 1 : Nat) : Int) + off = (tgt : Int)) (kt : y ≤ x → W p l e R s m args below meth c H locs cells slots Q (F0 m tgt ls rest)) (kf : ¬ y ≤ x → W p l e R s m args below meth c H locs cells slots Q (F0 m (pc + 1 + 3) ls rest)) : W p l e R s m args below meth c H locs cells slots Q (F0 m pc ls (.long y :: .long x :: rest)) :=
  W.lcmp hexec hb h1 (lv_if_ge hexec hb h2 ht (fun q => kt ((lg_cmp_ge x y).mp q)) (fun q => kf (fun z => q ((lg_cmp_ge x y).mpr z))))
theorem gl_lt (hexec : p.tables.exec = Jvm.exec) (hb : c.code = cc) {x y : Int64} {off : Int} {tgt : Nat} (h1 : decode cc pc = .ok (.lcmp, 1)) (h2 : decode cc (pc + 1) = .ok (.ifCond .lt off, 3)) (ht : ((pc + 1 : Nat) : Int) + off = (tgt : Int)) (kt : x < y → W p l e R s m args below meth c H locs cells slots Q (F0 m tgt ls rest)) (kf : ¬ x < y → W p l e R s m args below meth c H locs cells slots Q (F0 m (pc + 1 + 3) ls rest)) : W p l e R s m args below meth c H locs cells slots Q (F0 m pc ls (.long y :: .long x :: rest)) :=
  W.lcmp hexec hb h1 (lv_if_lt hexec hb h2 ht (fun q => kt ((lg_cmp_lt x y).mp q)) (fun q => kf (fun z => q ((lg_cmp_lt x y).mpr z))))
theorem gl_gt (hexec : p.tables.exec = Jvm.exec) (hb : c.code = cc) {x y : Int64} {off : Int} {tgt : Nat} (h1 : decode cc pc = .ok (.lcmp, 1)) (h2 : decode cc (pc + 1) = .ok (.ifCond .gt off, 3)) (ht : ((pc + 1 : Nat) : Int) + off = (tgt : Int)) (kt : y < x → W p l e R s m args below meth c H locs cells slots Q (F0 m tgt ls rest)) (kf : ¬ y < x → W p l e R s m args below meth c H locs cells slots Q (F0 m (pc + 1 + 3) ls rest)) : W p l e R s m args below meth c H locs cells slots Q (F0 m pc ls (.long y :: .long x :: rest)) :=
  W.lcmp hexec hb h1 (lv_if_gt hexec hb h2 ht (fun q => kt ((lg_cmp_gt x y).mp q)) (fun q => kf (fun z => q ((lg_cmp_gt x y).mpr z))))
theorem gl_le (hexec : p.tables.exec = Jvm.exec) (hb : c.code = cc) {x y : Int64} {off : Int} {tgt : Nat} (h1 : decode cc pc = .ok (.lcmp, 1)) (h2 : decode cc (pc + 1) = .ok (.ifCond .le off, 3)) (ht : ((pc + 1 : Nat) : Int) + off = (tgt : Int)) (kt : x ≤ y → W p l e R s m args below meth c H locs cells slots Q (F0 m tgt ls rest)) (kf : ¬ x ≤ y → W p l e R s m args below meth c H locs cells slots Q (F0 m (pc + 1 + 3) ls rest)) : W p l e R s m args below meth c H locs cells slots Q (F0 m pc ls (.long y :: .long x :: rest)) :=
  W.lcmp hexec hb h1 (lv_if_le hexec hb h2 ht (fun q => kt ((lg_cmp_le x y).mp q)) (fun q => kf (fun z => q ((lg_cmp_le x y).mpr z))))
theorem gl_eq (hexec : p.tables.exec = Jvm.exec) (hb : c.code = cc) {x y : Int64} {off : Int} {tgt : Nat} (h1 : decode cc pc = .ok (.lcmp, 1)) (h2 : decode cc (pc + 1) = .ok (.ifCond .eq off, 3)) (ht : ((pc + 1 : Nat) : Int) + off = (tgt : Int)) (kt : x = y → W p l e R s m args below meth c H locs cells slots Q (F0 m tgt ls rest)) (kf : ¬ x = y → W p l e R s m args below meth c H locs cells slots Q (F0 m (pc + 1 + 3) ls rest)) : W p l e R s m args below meth c H locs cells slots Q (F0 m pc ls (.long y :: .long x :: rest)) :=
  W.lcmp hexec hb h1 (lv_if_eq hexec hb h2 ht (fun q => kt ((lg_cmp_eq x y).mp q)) (fun q => kf (fun z => q ((lg_cmp_eq x y).mpr z))))
theorem gl_ne (hexec : p.tables.exec = Jvm.exec) (hb : c.code = cc) {x y : Int64} {off : Int} {tgt : Nat} (h1 : decode cc pc = .ok (.lcmp, 1)) (h2 : decode cc (pc + 1) = .ok (.ifCond .ne off, 3)) (ht : ((pc + 1 : Nat) : Int) + off = (tgt : Int)) (kt : ¬ x = y → W p l e R s m args below meth c H locs cells slots Q (F0 m tgt ls rest)) (kf : x = y → W p l e R s m args below meth c H locs cells slots Q (F0 m (pc + 1 + 3) ls rest)) : W p l e R s m args below meth c H locs cells slots Q (F0 m pc ls (.long y :: .long x :: rest)) :=
  W.lcmp hexec hb h1 (lv_if_ne hexec hb h2 ht (fun q => kt (fun z => q ((lg_cmp_eq x y).mpr z))) (fun q => kf ((lg_cmp_eq x y).mp q)))
end GR
end
section
/-! calls and returns over the flat memory -/
theorem gw_good {w : Cond} (h : w ∈ gw_WS) : ((w.onTables && w.keeps) = true ∨ ∃ ty, w = .arrayClass ty) := good_of_word (List.mem_filter.mp h).2
theorem gw_GI {w : Cond} (h : w ∈ gw_WS) : GoodIn gw_WS (w :: gw_WS) := by
  intro v hv
  rcases List.mem_cons.mp hv with rfl | hv
  · exact ⟨h, gw_good h⟩
  · exact ⟨hv, gw_good hv⟩
def gw_P (D : va_G) (cI cB cJ cW : ClassId) (Λ : gs_L) (L : Nat → Nat → Int64) (F A : gm_M) (U : State) : Prop := va_P D gcls (gs_ws Λ F A L) U.heap ∧ va_K D gcls (gtys cI cB cJ cW) U
def gw_B (D : va_G) (cI cB cJ cW : ClassId) (Λ : gs_L) (L : Nat → Nat → Int64) (u : gm_M × gm_M) (t : State) : Prop := va_P D gcls (gs_ws Λ u.1 u.2 L) t.heap ∧ va_K D gcls (gtys cI cB cJ cW) t
abbrev gw_Qi (D : va_G) (cI cB cJ cW : ClassId) (Λ : gs_L) (L : Nat → Nat → Int64) (post : Int32 → gm_M → gm_M → Prop) : Array Value → State → Outcome → State → Prop := va_Qi (fun r (u : gm_M × gm_M) => post r u.1 u.2) (gw_B D cI cB cJ cW Λ L) (gw_A Λ)
abbrev gw_Ql (D : va_G) (cI cB cJ cW : ClassId) (Λ : gs_L) (L : Nat → Nat → Int64) (post : Int64 → gm_M → gm_M → Prop) : Array Value → State → Outcome → State → Prop := va_Ql (fun r (u : gm_M × gm_M) => post r u.1 u.2) (gw_B D cI cB cJ cW Λ L) (gw_A Λ)
abbrev gw_Qv (D : va_G) (cI cB cJ cW : ClassId) (Λ : gs_L) (L : Nat → Nat → Int64) (post : gm_M → gm_M → Prop) : Array Value → State → Outcome → State → Prop := va_Qv (fun (u : gm_M × gm_M) => post u.1 u.2) (gw_B D cI cB cJ cW Λ L) (gw_A Λ)
theorem gw_blind {D : va_G} {cI cB cJ cW : ClassId} {Λ : gs_L} {L : Nat → Nat → Int64} {F A : gm_M} {av : List Value} : FrameBlind (va_Pc av (gw_P D cI cB cJ cW Λ L F A)) := by
  intro a U g mk q
  obtain ⟨q0, qP, qK⟩ := q
  exact ⟨q0, qP, va_K.moved (u := U) (U := U.calling g mk a) (Vm.Alike.refl U.vm) qK⟩
def gw_OK (y : MethodName) (bytes : ByteArray) (maxL : Nat) (ret : Option FieldType) (n : Nat) : Prop := Cond.code y bytes maxL ret ∈ gw_WS ∧ Cond.initialized y.cls ∈ gw_WS ∧ (y.cls ≠ "java/lang/invoke/MethodHandle" ∧ y.cls ≠ "java/lang/invoke/VarHandle" ∧ (parseMethodDescriptor y.desc).map (fun d => d.parameters.length) = some n)
def gw_OKV (y : MethodName) (bytes : ByteArray) (maxL : Nat) (ret : Option FieldType) (n : Nat) : Prop := gw_OK y bytes maxL ret n ∧ Cond.instanceMethod y ∈ gw_WS ∧ Cond.selects y.cls y y ∈ gw_WS
def gw_OKS (y : MethodName) (bytes : ByteArray) (maxL : Nat) (ret : Option FieldType) (n : Nat) : Prop := gw_OK y bytes maxL ret n ∧ Cond.static y ∈ gw_WS
section GC
variable {p : Program} {l : Launch} {e : Env} {R : Room} {s : State} {m : MethodId} {args : Array Value} {below : List Frame} {meth : Method} {c : Code} {H : Heap} {locs : List Loc} {Q : State → Prop}
variable {cc bytes : ByteArray} {pc nL maxL index n : Nat} {ls : Array Slot} {rest st0 As : List Value} {D : va_G} {b : Nat} {Λ : gs_L} {F A : gm_M} {L : Nat → Nat → Int64} {cI cB cJ cW : ClassId} {y : MethodName} {own : String} {ret : Option FieldType} {rm : Room}
theorem gw_iret {v : Int32} (hexec : p.tables.exec = Jvm.exec) (hb : c.code = cc) (hr : meth.sig.returnType = some .int) (hlocks : meth.locks = false) (hP : va_P D gcls (gs_ws Λ F A L) H) (hK : va_K D gcls (gtys cI cB cJ cW) s) (hS : va_S (gw_A Λ) s.heap H locs) {post : Int32 → gm_M → gm_M → Prop} (hp : post v F A) (hdg : decode cc pc = .ok (.ireturn, 1)) : W p l e R s m args below meth c H locs 0 0 (MQ below (gw_Qi D cI cB cJ cW Λ L post) args s 0 0 (gw_A Λ)) (F0 m pc ls [.int v]) :=
  W.iret hexec hb hr (fun t ht hW => ⟨⟨v, (F, A), rfl, hp, by rw [ht]; exact hP, va_K.moved hW.alike hK⟩, hS.F ht⟩) hS.2.2 hdg hlocks
theorem gw_zret {v : Int32} (hexec : p.tables.exec = Jvm.exec) (hb : c.code = cc) (hr : meth.sig.returnType = some .boolean) (hlocks : meth.locks = false) (hP : va_P D gcls (gs_ws Λ F A L) H) (hK : va_K D gcls (gtys cI cB cJ cW) s) (hS : va_S (gw_A Λ) s.heap H locs) (hz : v = 0 ∨ v = 1) {post : Int32 → gm_M → gm_M → Prop} (hp : post v F A) (hdg : decode cc pc = .ok (.ireturn, 1)) : W p l e R s m args below meth c H locs 0 0 (MQ below (gw_Qi D cI cB cJ cW Λ L post) args s 0 0 (gw_A Λ)) (F0 m pc ls [.int v]) :=
  W.zret hexec hb hr (gz_n hz) (fun t ht hW => ⟨⟨v, (F, A), rfl, hp, by rw [ht]; exact hP, va_K.moved hW.alike hK⟩, hS.F ht⟩) hS.2.2 hdg hlocks
theorem gw_lret {v : Int64} (hexec : p.tables.exec = Jvm.exec) (hb : c.code = cc) (hr : meth.sig.returnType = some .long) (hlocks : meth.locks = false) (hP : va_P D gcls (gs_ws Λ F A L) H) (hK : va_K D gcls (gtys cI cB cJ cW) s) (hS : va_S (gw_A Λ) s.heap H locs) {post : Int64 → gm_M → gm_M → Prop} (hp : post v F A) (hdg : decode cc pc = .ok (.lreturn, 1)) : W p l e R s m args below meth c H locs 0 0 (MQ below (gw_Ql D cI cB cJ cW Λ L post) args s 0 0 (gw_A Λ)) (F0 m pc ls [.long v]) :=
  W.lret hexec hb hr (fun t ht hW => ⟨⟨v, (F, A), rfl, hp, by rw [ht]; exact hP, va_K.moved hW.alike hK⟩, hS.F ht⟩) hS.2.2 hdg hlocks
theorem gw_vret (hexec : p.tables.exec = Jvm.exec) (hb : c.code = cc) (hr : meth.sig.returnType = none) (hlocks : meth.locks = false) (hP : va_P D gcls (gs_ws Λ F A L) H) (hK : va_K D gcls (gtys cI cB cJ cW) s) (hS : va_S (gw_A Λ) s.heap H locs) {post : gm_M → gm_M → Prop} (hp : post F A) (hdg : decode cc pc = .ok (.return_, 1)) : W p l e R s m args below meth c H locs 0 0 (MQ below (gw_Qv D cI cB cJ cW Λ L post) args s 0 0 (gw_A Λ)) (F0 m pc ls []) :=
  W.vret hexec hb hr (fun t ht hW => ⟨⟨(F, A), rfl, hp, by rw [ht]; exact hP, va_K.moved hW.alike hK⟩, hS.F ht⟩) hS.2.2 hdg hlocks
theorem gw_cb (htw : ∀ w ∈ gw_WS, w.before args s = true) (hy : gw_OK y bytes maxL ret n) (hl : Cond.methodLink own index y ∈ gw_WS) (hR : rm.frames + 1 ≤ R.frames ∧ 8 + (maxL + 11) + rm.locals ≤ R.locals) {mc ms : Nat} (hrc : rm.cells = mc) (hrs : rm.slots = ms) : CallB R s args own index y bytes maxL ret (Cond.code y bytes maxL ret :: gw_WS) rm mc ms n :=
  callB_of n htw (gw_GI hy.1) rfl hrc hrs (htw _ hy.2.1) (htw _ hl) hy.2.2 hR
theorem gw_runV (hexec : p.tables.exec = Jvm.exec) (hb : c.code = cc) (hml : c.maxLocals = nL) (hown : s.vm.findClass own = some m.cls) (htw : ∀ w ∈ gw_WS, w.before args s = true) (hK : va_K D gcls (gtys cI cB cJ cW) s) (hP : va_P D gcls (gs_ws Λ F A L) H) (hS : va_S (gw_A Λ) s.heap H locs) (hsize : ls.size = nL) {Qc : Array Value → State → Outcome → State → Prop}
    (hM : Met l y (Cond.code y bytes maxL ret :: gw_WS) rm (va_Pc (.ref b :: As) (gw_P D cI cB cJ cW Λ L F A)) Qc 0 0 (gw_A Λ)) (hy : gw_OKV y bytes maxL ret n) (hl : Cond.methodLink own index y ∈ gw_WS) (hR : rm.frames + 1 ≤ R.frames ∧ 8 + (maxL + 11) + rm.locals ≤ R.locals) (hrc : rm.cells = 0) (hrs : rm.slots = 0)
    {ci N : Nat} {T : u_T} {rs : List gs_R} (hm : (b, Sum.inl (ci, rs)) ∈ Λ) (hc : gcls[ci]? = some (y.cls, T, N)) (hn : As.length = n) (hst : st0 = As.reverse ++ .ref b :: rest) (hroom : (rest.map fun v => v.category).sum ≤ 8) (hdg : decode cc pc = .ok (.invokevirtual index, 3)) :
    va_Run p l e R s m args below meth c H locs 0 0 0 0 (F0 m pc ls st0) rest (Qc (Value.ref b :: As).toArray) (gw_A Λ) := by
  obtain ⟨q0, -, hw⟩ := gs_ws_at (F := F) (A := A) (L := L) hm
  refine va_runV (C := y.cls) (As := As) (rest := rest) (Ts := gw_WS) ⟨hexec, hb, hml, hown, htw⟩ hM ⟨gw_cb htw hy.1 hl hR hrc hrs, htw _ hy.2.1, htw _ hy.2.2⟩ ⟨gw_blind, va_recv hK hP hc hw, fun U hU hW => ⟨rfl, by rw [hU]; exact hP, va_K.moved hW.alike hK⟩⟩ rfl hn hsize hst (lv_room hroom) hdg ⟨Nat.zero_le _, Nat.zero_le _⟩
theorem gw_runS (hexec : p.tables.exec = Jvm.exec) (hb : c.code = cc) (hml : c.maxLocals = nL) (hown : s.vm.findClass own = some m.cls) (htw : ∀ w ∈ gw_WS, w.before args s = true) (hK : va_K D gcls (gtys cI cB cJ cW) s) (hP : va_P D gcls (gs_ws Λ F A L) H) (hS : va_S (gw_A Λ) s.heap H locs) (hsize : ls.size = nL) {Qc : Array Value → State → Outcome → State → Prop}
    (hM : Met l y (Cond.code y bytes maxL ret :: gw_WS) rm (va_Pc As (gw_P D cI cB cJ cW Λ L F A)) Qc 0 0 (gw_A Λ)) (hy : gw_OKS y bytes maxL ret n) (hl : Cond.methodLink own index y ∈ gw_WS) (hR : rm.frames + 1 ≤ R.frames ∧ 8 + (maxL + 11) + rm.locals ≤ R.locals) (hrc : rm.cells = 0) (hrs : rm.slots = 0)
    (hn : As.length = n) (hst : st0 = As.reverse ++ rest) (hroom : (rest.map fun v => v.category).sum ≤ 8) (hdg : decode cc pc = .ok (.invokestatic index, 3)) :
    va_Run p l e R s m args below meth c H locs 0 0 0 0 (F0 m pc ls st0) rest (Qc As.toArray) (gw_A Λ) := by
  refine va_runS (As := As) (rest := rest) (Ts := gw_WS) ⟨hexec, hb, hml, hown, htw⟩ hM ⟨gw_cb htw hy.1 hl hR hrc hrs, htw _ hy.2⟩ ⟨gw_blind, fun U hU hW => ⟨rfl, by rw [hU]; exact hP, va_K.moved hW.alike hK⟩⟩ rfl hn hsize hst (lv_room hroom) hdg ⟨Nat.zero_le _, Nat.zero_le _⟩
theorem gw_goi {a : Array Value} {post : Int32 → gm_M → gm_M → Prop} (hr : va_Run p l e R s m args below meth c H locs 0 0 0 0 (F0 m pc ls st0) rest (gw_Qi D cI cB cJ cW Λ L post a) (gw_A Λ)) (hS : va_S (gw_A Λ) s.heap H locs)
    (kk : ∀ (r : Int32) (F1 A1 : gm_M) (H1 : Heap) (locs1 : List Loc), post r F1 A1 → va_P D gcls (gs_ws Λ F1 A1 L) H1 → va_S (gw_A Λ) s.heap H1 locs1 → W p l e R s m args below meth c H1 locs1 0 0 Q (F0 m (pc + 3) ls (.int r :: rest))) : W p l e R s m args below meth c H locs 0 0 Q (F0 m pc ls st0) :=
  va_calli hr hS (fun _ _ h => h) (fun _ h => h) (fun r u t H1 locs1 ht _ hp hB _ _ hS1 => kk r u.1 u.2 H1 locs1 hp (by rw [← ht]; exact hB.1) hS1)
theorem gw_gol {a : Array Value} {post : Int64 → gm_M → gm_M → Prop} (hr : va_Run p l e R s m args below meth c H locs 0 0 0 0 (F0 m pc ls st0) rest (gw_Ql D cI cB cJ cW Λ L post a) (gw_A Λ)) (hS : va_S (gw_A Λ) s.heap H locs)
    (kk : ∀ (r : Int64) (F1 A1 : gm_M) (H1 : Heap) (locs1 : List Loc), post r F1 A1 → va_P D gcls (gs_ws Λ F1 A1 L) H1 → va_S (gw_A Λ) s.heap H1 locs1 → W p l e R s m args below meth c H1 locs1 0 0 Q (F0 m (pc + 3) ls (.long r :: rest))) : W p l e R s m args below meth c H locs 0 0 Q (F0 m pc ls st0) :=
  va_calll hr hS (fun _ _ h => h) (fun _ h => h) (fun r u t H1 locs1 ht _ hp hB _ _ hS1 => kk r u.1 u.2 H1 locs1 hp (by rw [← ht]; exact hB.1) hS1)
theorem gw_gov {a : Array Value} {post : gm_M → gm_M → Prop} (hr : va_Run p l e R s m args below meth c H locs 0 0 0 0 (F0 m pc ls st0) rest (gw_Qv D cI cB cJ cW Λ L post a) (gw_A Λ)) (hS : va_S (gw_A Λ) s.heap H locs)
    (kk : ∀ (F1 A1 : gm_M) (H1 : Heap) (locs1 : List Loc), post F1 A1 → va_P D gcls (gs_ws Λ F1 A1 L) H1 → va_S (gw_A Λ) s.heap H1 locs1 → W p l e R s m args below meth c H1 locs1 0 0 Q (F0 m (pc + 3) ls rest)) : W p l e R s m args below meth c H locs 0 0 Q (F0 m pc ls st0) :=
  va_callv hr hS (fun _ _ h => h) (fun _ h => h) (fun u t H1 locs1 ht _ hp hB _ _ hS1 => kk u.1 u.2 H1 locs1 hp (by rw [← ht]; exact hB.1) hS1)
end GC
end
section
/-! the layout of the desk and of the reference: addresses by number (K): 0 the desk, 1 its registers, 2 the letters, 3 their row, 4 the divider, 5 dividend, 6 divisor, 7 + 2 w and 8 + 2 w: the number w and its limbs (0..15 registers, 16 quotient, 17 rest, 18 outcome, 19 product, 20 factor); 49 the reference, 50..62 its arrays -/
def gN (w : Nat) : Nat := if 16 ≤ w ∧ w < 20 then 135 else 67
def gK_l (cI cB cW : ClassId) (K : Nat → Nat) : gs_L := [(K 0, .inl (3, [some (some (K 1)), some (some (K 2)), some (some (K 4)), some (some (K 43)), some (some (K 45)), some (some (K 47))])), (K 1, gRf cW 16 (fun j => some (K (7 + 2 * j)))), (K 2, .inl (2, [some (some (K 3)), none])), (K 3, gI cB 2100), (K 4, .inl (1, [some (some (K 39)), some (some (K 41)), some (some (K 5)), some (some (K 6))])), (K 5, gI cI 135), (K 6, gI cI 68)] ++ (List.range 21).flatMap (fun w => [(K (7 + 2 * w), gWo (K (8 + 2 * w))), (K (8 + 2 * w), gI cI (gN w))])
def gK (cI cB cW : ClassId) (Λ : gs_L) (K : Nat → Nat) : Prop := ∀ q ∈ gK_l cI cB cW K, q ∈ Λ
section GL
variable {cI cB cW : ClassId} {Λ : gs_L} {K : Nat → Nat}
theorem gK_0 (h : gK cI cB cW Λ K) : (K 0, (Sum.inl (3, [some (some (K 1)), some (some (K 2)), some (some (K 4)), some (some (K 43)), some (some (K 45)), some (some (K 47))]) : gs_S)) ∈ Λ := h _ (List.mem_append_left _ (List.mem_of_getElem? (i := 0) rfl))
theorem gK_1 (h : gK cI cB cW Λ K) : (K 1, gRf cW 16 (fun j => some (K (7 + 2 * j)))) ∈ Λ := h _ (List.mem_append_left _ (List.mem_of_getElem? (i := 1) rfl))
theorem gK_2 (h : gK cI cB cW Λ K) : (K 2, (Sum.inl (2, [some (some (K 3)), none]) : gs_S)) ∈ Λ := h _ (List.mem_append_left _ (List.mem_of_getElem? (i := 2) rfl))
theorem gK_3 (h : gK cI cB cW Λ K) : (K 3, gI cB 2100) ∈ Λ := h _ (List.mem_append_left _ (List.mem_of_getElem? (i := 3) rfl))
theorem gK_4 (h : gK cI cB cW Λ K) : (K 4, (Sum.inl (1, [some (some (K 39)), some (some (K 41)), some (some (K 5)), some (some (K 6))]) : gs_S)) ∈ Λ := h _ (List.mem_append_left _ (List.mem_of_getElem? (i := 4) rfl))
theorem gK_5 (h : gK cI cB cW Λ K) : (K 5, gI cI 135) ∈ Λ := h _ (List.mem_append_left _ (List.mem_of_getElem? (i := 5) rfl))
theorem gK_6 (h : gK cI cB cW Λ K) : (K 6, gI cI 68) ∈ Λ := h _ (List.mem_append_left _ (List.mem_of_getElem? (i := 6) rfl))
theorem gK_w (h : gK cI cB cW Λ K) (w : Nat) (hw : w < 21) : gW cI Λ (K (7 + 2 * w)) (K (8 + 2 * w)) (gN w) := by
  have g : ∀ q ∈ ([(K (7 + 2 * w), gWo (K (8 + 2 * w))), (K (8 + 2 * w), gI cI (gN w))] : gs_L), q ∈ Λ := fun q hq => h q (List.mem_append_right _ (List.mem_flatMap.mpr ⟨w, List.mem_range.mpr hw, hq⟩))
  exact ⟨g _ List.mem_cons_self, g _ (List.mem_cons_of_mem _ List.mem_cons_self)⟩
theorem gK_r (h : gK cI cB cW Λ K) {i : Int32} (hi : vp_in i 16) : gW cI Λ (K (7 + 2 * i.toNatClampNeg)) (K (8 + 2 * i.toNatClampNeg)) 67 := by
  have hlt : i.toNatClampNeg < 16 := Nat.not_le.mp fun q => hi (Or.inr q)
  have g := gK_w h i.toNatClampNeg (by omega)
  rw [show gN i.toNatClampNeg = 67 from if_neg (by omega)] at g
  exact g
theorem gK_w16 (h : gK cI cB cW Λ K) : gW cI Λ (K 39) (K 40) 135 := gK_w h 16 (by decide)
theorem gK_w17 (h : gK cI cB cW Λ K) : gW cI Λ (K 41) (K 42) 135 := gK_w h 17 (by decide)
theorem gK_w18 (h : gK cI cB cW Λ K) : gW cI Λ (K 43) (K 44) 135 := gK_w h 18 (by decide)
theorem gK_w19 (h : gK cI cB cW Λ K) : gW cI Λ (K 45) (K 46) 135 := gK_w h 19 (by decide)
theorem gK_w20 (h : gK cI cB cW Λ K) : gW cI Λ (K 47) (K 48) 67 := gK_w h 20 (by decide)
def gMd_l (cI : ClassId) (K : Nat → Nat) : gs_L := [(K 49, .inl (4, [none, none, some (some (K 50)), some (some (K 51)), some (some (K 52)), some (some (K 53)), some (some (K 54)), some (some (K 55)), some (some (K 56)), some (some (K 57)), some (some (K 58)), some (some (K 59)), none, some (some (K 60)), some (some (K 61)), some (some (K 62))])), (K 50, gI cI 2064), (K 51, gI cI 16), (K 52, gI cI 16), (K 53, gI cI 2100), (K 54, gI cI 9000), (K 55, gI cI 9000), (K 56, gI cI 9000), (K 57, gI cI 9000), (K 58, gI cI 9000), (K 59, gI cI 9000), (K 60, gI cI 9000), (K 61, gI cI 129), (K 62, gI cI 129)]
def gMd (cI : ClassId) (Λ : gs_L) (K : Nat → Nat) : Prop := ∀ q ∈ gMd_l cI K, q ∈ Λ
theorem gMd_0 (h : gMd cI Λ K) : (K 49, (Sum.inl (4, [none, none, some (some (K 50)), some (some (K 51)), some (some (K 52)), some (some (K 53)), some (some (K 54)), some (some (K 55)), some (some (K 56)), some (some (K 57)), some (some (K 58)), some (some (K 59)), none, some (some (K 60)), some (some (K 61)), some (some (K 62))]) : gs_S)) ∈ Λ := h _ (List.mem_of_getElem? (i := 0) rfl)
theorem gMd_50 (h : gMd cI Λ K) : (K 50, gI cI 2064) ∈ Λ := h _ (List.mem_of_getElem? (i := 1) rfl)
theorem gMd_51 (h : gMd cI Λ K) : (K 51, gI cI 16) ∈ Λ := h _ (List.mem_of_getElem? (i := 2) rfl)
theorem gMd_52 (h : gMd cI Λ K) : (K 52, gI cI 16) ∈ Λ := h _ (List.mem_of_getElem? (i := 3) rfl)
theorem gMd_53 (h : gMd cI Λ K) : (K 53, gI cI 2100) ∈ Λ := h _ (List.mem_of_getElem? (i := 4) rfl)
theorem gMd_54 (h : gMd cI Λ K) : (K 54, gI cI 9000) ∈ Λ := h _ (List.mem_of_getElem? (i := 5) rfl)
theorem gMd_55 (h : gMd cI Λ K) : (K 55, gI cI 9000) ∈ Λ := h _ (List.mem_of_getElem? (i := 6) rfl)
theorem gMd_56 (h : gMd cI Λ K) : (K 56, gI cI 9000) ∈ Λ := h _ (List.mem_of_getElem? (i := 7) rfl)
theorem gMd_57 (h : gMd cI Λ K) : (K 57, gI cI 9000) ∈ Λ := h _ (List.mem_of_getElem? (i := 8) rfl)
theorem gMd_58 (h : gMd cI Λ K) : (K 58, gI cI 9000) ∈ Λ := h _ (List.mem_of_getElem? (i := 9) rfl)
theorem gMd_59 (h : gMd cI Λ K) : (K 59, gI cI 9000) ∈ Λ := h _ (List.mem_of_getElem? (i := 10) rfl)
theorem gMd_60 (h : gMd cI Λ K) : (K 60, gI cI 9000) ∈ Λ := h _ (List.mem_of_getElem? (i := 11) rfl)
theorem gMd_61 (h : gMd cI Λ K) : (K 61, gI cI 129) ∈ Λ := h _ (List.mem_of_getElem? (i := 12) rfl)
theorem gMd_62 (h : gMd cI Λ K) : (K 62, gI cI 129) ∈ Λ := h _ (List.mem_of_getElem? (i := 13) rfl)
end GL
end
