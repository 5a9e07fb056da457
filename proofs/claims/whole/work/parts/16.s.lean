/-! the String of the digits, and String.charAt as the JDK's code -/
def gx_digs : List Int32 := [48, 49, 50, 51, 52, 53, 54, 55, 56, 57, 97, 98, 99, 100, 101, 102, 103, 104, 105, 106, 107, 108, 109, 110, 111, 112, 113, 114, 115, 116, 117, 118, 119, 120, 121, 122]
def gx_dg (j : Nat) : Int32 := gx_digs.getD j 0
theorem gx_dgc : ∀ j, j < 36 → ((gx_dg j &&& 255).toUInt32 % 65536).toInt32 = gx_dg j := by decide +kernel
theorem gx_dgn : ∀ j, j < 36 → gx_dg j = if j < 10 then nI (48 + j) else nI (87 + j) := by decide +kernel
def gx_Sq (q v : Nat) (A : Nat → Prop) (U : State) : Prop := va_O "java/lang/String" q A U U.heap ∧ va_OF "java/lang/String" "coder" "B" (.int 0) q A U U.heap ∧ va_OF "java/lang/String" "value" "[B" (.ref v) q A U U.heap ∧ va_T .byte v 36 (fun j => .int (gx_dg j)) A U U.heap ∧ va_Z "java/lang/String" "COMPACT_STRINGS" "Z" (.int 1) A U U.heap ∧ va_Zq "jdk/internal/util/Preconditions" "SIOOBE_FORMATTER" "Ljava/util/function/BiFunction;" A U U.heap
theorem gx_Sq.step {q v : Nat} {A : Nat → Prop} {s U : State} (hvm : s.vm.Alike U.vm) (hk : ∀ q : Nat, q < s.heap.size → ¬ A q → U.heap[q]? = s.heap[q]?) (h : gx_Sq q v A s) : gx_Sq q v A U := by
  obtain ⟨h1, h2, h3, h4, h5, h6⟩ := h
  exact ⟨(h1.kept hk).moved hvm, (h2.kept hk).moved hvm, (h3.kept hk).moved hvm, (h4.kept hk).moved hvm, (h5.kept hk).moved hvm, (h6.kept hk).moved hvm⟩
def gx_S (A : Nat → Prop) (U : State) : Prop := ∃ q v : Nat, vk_R "LimbDesk$Letters" 75 "0123456789abcdefghijklmnopqrstuvwxyz" q U ∧ gx_Sq q v A U
theorem gx_S.step {A : Nat → Prop} {s U : State} (hW : s.WarmedH U.vm) (hk : ∀ q : Nat, q < s.heap.size → ¬ A q → U.heap[q]? = s.heap[q]?) (h : gx_S A s) : gx_S A U := by
  obtain ⟨q, v, h1, h2⟩ := h
  exact ⟨q, v, vk_R.warm hW h1, h2.step hW.alike hk⟩
def gp_Q (r : Option Value) : Array Value → State → Outcome → State → Prop := fun _ st o t => o = .returned r ∧ t.heap = st.heap
abbrev b_chA : ByteArray := prog_13_method_56_code
def y_chA : MethodName := ⟨"java/lang/String", "charAt", "(I)C"⟩
theorem kc_chA : (Cond.code y_chA b_chA 2 (some .char) : Cond) ∈ gw_WS := gw_r2 102 (by rfl) (by rfl)
theorem ko_chA : gw_OK y_chA b_chA 2 (some .char) 1 := ⟨kc_chA, gw_r1 13 (by decide +kernel) (by decide +kernel), by decide +kernel⟩
theorem k_chA : gw_OKV y_chA b_chA 2 (some .char) 1 := ⟨ko_chA, gw_r2 100 (by decide +kernel) (by decide +kernel), gw_r2 101 (by decide +kernel) (by decide +kernel)⟩
abbrev b_isl : ByteArray := prog_13_method_154_code
def y_isl : MethodName := ⟨"java/lang/String", "isLatin1", "()Z"⟩
theorem kc_isl : (Cond.code y_isl b_isl 1 (some .boolean) : Cond) ∈ gw_WS := gw_r2 106 (by rfl) (by rfl)
theorem ko_isl : gw_OK y_isl b_isl 1 (some .boolean) 0 := ⟨kc_isl, gw_r1 13 (by decide +kernel) (by decide +kernel), by decide +kernel⟩
theorem k_isl : gw_OKV y_isl b_isl 1 (some .boolean) 0 := ⟨ko_isl, gw_r2 104 (by decide +kernel) (by decide +kernel), gw_r2 105 (by decide +kernel) (by decide +kernel)⟩
abbrev b_lat : ByteArray := prog_14_method_2_code
def y_lat : MethodName := ⟨"java/lang/StringLatin1", "charAt", "([BI)C"⟩
theorem kc_lat : (Cond.code y_lat b_lat 2 (some .char) : Cond) ∈ gw_WS := gw_r2 111 (by rfl) (by rfl)
theorem ko_lat : gw_OK y_lat b_lat 2 (some .char) 2 := ⟨kc_lat, gw_r1 14 (by decide +kernel) (by decide +kernel), by decide +kernel⟩
theorem k_lat : gw_OKS y_lat b_lat 2 (some .char) 2 := ⟨ko_lat, gw_r2 110 (by decide +kernel) (by decide +kernel)⟩
abbrev b_sci : ByteArray := prog_13_method_155_code
def y_sci : MethodName := ⟨"java/lang/String", "checkIndex", "(II)V"⟩
theorem kc_sci : (Cond.code y_sci b_sci 2 none : Cond) ∈ gw_WS := gw_r2 114 (by rfl) (by rfl)
theorem ko_sci : gw_OK y_sci b_sci 2 none 2 := ⟨kc_sci, gw_r1 13 (by decide +kernel) (by decide +kernel), by decide +kernel⟩
theorem k_sci : gw_OKS y_sci b_sci 2 none 2 := ⟨ko_sci, gw_r2 113 (by decide +kernel) (by decide +kernel)⟩
abbrev b_chk : ByteArray := prog_18_method_11_code
def y_chk : MethodName := ⟨"jdk/internal/util/Preconditions", "checkIndex", "(IILjava/util/function/BiFunction;)I"⟩
theorem kc_chk : (Cond.code y_chk b_chk 3 (some .int) : Cond) ∈ gw_WS := gw_r2 119 (by rfl) (by rfl)
theorem ko_chk : gw_OK y_chk b_chk 3 (some .int) 3 := ⟨kc_chk, gw_r1 15 (by decide +kernel) (by decide +kernel), by decide +kernel⟩
theorem k_chk : gw_OKS y_chk b_chk 3 (some .int) 3 := ⟨ko_chk, gw_r2 118 (by decide +kernel) (by decide +kernel)⟩
theorem ml_1 : (.methodLink "LimbDesk$Letters" 77 y_chA : Cond) ∈ gw_WS := gw_r2 99 (by decide +kernel) (by decide +kernel)
theorem ml_2 : (.methodLink "java/lang/String" 492 y_isl : Cond) ∈ gw_WS := gw_r2 103 (by decide +kernel) (by decide +kernel)
theorem ml_3 : (.methodLink "java/lang/String" 495 y_lat : Cond) ∈ gw_WS := gw_r2 109 (by decide +kernel) (by decide +kernel)
theorem ml_4 : (.methodLink "java/lang/StringLatin1" 9 y_sci : Cond) ∈ gw_WS := gw_r2 112 (by decide +kernel) (by decide +kernel)
theorem ml_5 : (.methodLink "java/lang/String" 1059 y_chk : Cond) ∈ gw_WS := gw_r2 117 (by decide +kernel) (by decide +kernel)
theorem fl_1 : (.fieldLink "java/lang/String" 9 "java/lang/String" "value" "[B" : Cond) ∈ gw_WS := gw_r4 114 (by decide +kernel) (by decide +kernel)
theorem fl_2 : (.fieldLink "java/lang/String" 38 "java/lang/String" "COMPACT_STRINGS" "Z" : Cond) ∈ gw_WS := gw_r2 107 (by decide +kernel) (by decide +kernel)
theorem fl_3 : (.fieldLink "java/lang/String" 15 "java/lang/String" "coder" "B" : Cond) ∈ gw_WS := gw_r4 113 (by decide +kernel) (by decide +kernel)
theorem fl_4 : (.fieldLink "java/lang/String" 1053 "jdk/internal/util/Preconditions" "SIOOBE_FORMATTER" "Ljava/util/function/BiFunction;" : Cond) ∈ gw_WS := gw_r2 115 (by decide +kernel) (by decide +kernel)
theorem d_chA_0 : decode b_chA 0 = .ok (.aload_n 0, 1) := by decide +kernel
theorem d_chA_1 : decode b_chA 1 = .ok (.invokevirtual 492, 3) := by decide +kernel
theorem d_chA_4 : decode b_chA 4 = .ok (.ifCond .eq 12, 3) := by decide +kernel
theorem d_chA_7 : decode b_chA 7 = .ok (.aload_n 0, 1) := by decide +kernel
theorem d_chA_8 : decode b_chA 8 = .ok (.getfield 9, 3) := by decide +kernel
theorem d_chA_11 : decode b_chA 11 = .ok (.iload_n 1, 1) := by decide +kernel
theorem d_chA_12 : decode b_chA 12 = .ok (.invokestatic 495, 3) := by decide +kernel
theorem d_chA_15 : decode b_chA 15 = .ok (.ireturn, 1) := by decide +kernel
theorem d_isl_0 : decode b_isl 0 = .ok (.getstatic 38, 3) := by decide +kernel
theorem d_isl_3 : decode b_isl 3 = .ok (.ifCond .eq 14, 3) := by decide +kernel
theorem d_isl_6 : decode b_isl 6 = .ok (.aload_n 0, 1) := by decide +kernel
theorem d_isl_7 : decode b_isl 7 = .ok (.getfield 15, 3) := by decide +kernel
theorem d_isl_10 : decode b_isl 10 = .ok (.ifCond .ne 7, 3) := by decide +kernel
theorem d_isl_13 : decode b_isl 13 = .ok (.iconst 1, 1) := by decide +kernel
theorem d_isl_14 : decode b_isl 14 = .ok (.goto 4, 3) := by decide +kernel
theorem d_isl_18 : decode b_isl 18 = .ok (.ireturn, 1) := by decide +kernel
theorem d_lat_0 : decode b_lat 0 = .ok (.iload_n 1, 1) := by decide +kernel
theorem d_lat_1 : decode b_lat 1 = .ok (.aload_n 0, 1) := by decide +kernel
theorem d_lat_2 : decode b_lat 2 = .ok (.arraylength, 1) := by decide +kernel
theorem d_lat_3 : decode b_lat 3 = .ok (.invokestatic 9, 3) := by decide +kernel
theorem d_lat_6 : decode b_lat 6 = .ok (.aload_n 0, 1) := by decide +kernel
theorem d_lat_7 : decode b_lat 7 = .ok (.iload_n 1, 1) := by decide +kernel
theorem d_lat_8 : decode b_lat 8 = .ok (.baload, 1) := by decide +kernel
theorem d_lat_9 : decode b_lat 9 = .ok (.sipush 255, 3) := by decide +kernel
theorem d_lat_12 : decode b_lat 12 = .ok (.iand, 1) := by decide +kernel
theorem d_lat_13 : decode b_lat 13 = .ok (.i2c, 1) := by decide +kernel
theorem d_lat_14 : decode b_lat 14 = .ok (.ireturn, 1) := by decide +kernel
theorem d_sci_0 : decode b_sci 0 = .ok (.iload_n 0, 1) := by decide +kernel
theorem d_sci_1 : decode b_sci 1 = .ok (.iload_n 1, 1) := by decide +kernel
theorem d_sci_2 : decode b_sci 2 = .ok (.getstatic 1053, 3) := by decide +kernel
theorem d_sci_5 : decode b_sci 5 = .ok (.invokestatic 1059, 3) := by decide +kernel
theorem d_sci_8 : decode b_sci 8 = .ok (.pop, 1) := by decide +kernel
theorem d_sci_9 : decode b_sci 9 = .ok (.return_, 1) := by decide +kernel
theorem d_chk_0 : decode b_chk 0 = .ok (.iload_n 0, 1) := by decide +kernel
theorem d_chk_1 : decode b_chk 1 = .ok (.ifCond .lt 8, 3) := by decide +kernel
theorem d_chk_4 : decode b_chk 4 = .ok (.iload_n 0, 1) := by decide +kernel
theorem d_chk_5 : decode b_chk 5 = .ok (.iload_n 1, 1) := by decide +kernel
theorem d_chk_6 : decode b_chk 6 = .ok (.if_icmp .lt 10, 3) := by decide +kernel
theorem d_chk_16 : decode b_chk 16 = .ok (.iload_n 0, 1) := by decide +kernel
theorem d_chk_17 : decode b_chk 17 = .ok (.ireturn, 1) := by decide +kernel
