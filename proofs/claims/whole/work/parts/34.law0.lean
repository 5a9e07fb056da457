/-! the law's start: what the tables and the premises give -/
def gy_seen : Jvm.Cond := Jvm.Cond.and given_1 narrow_1
def gy_have (w : Cond) : Bool := decide (w ∈ lw_tbl) || decide (w ∈ flatC gy_seen)
theorem gy_use {args : Array Value} {s : State} (hts : ∀ w ∈ lw_tbl, w.before args s = true) (hg : gy_seen.before args s = true) {w : Cond} (h : gy_have w = true) : w.before args s = true := by
  unfold gy_have at h
  simp only [Bool.or_eq_true, decide_eq_true_eq] at h
  exact h.elim (hts w) (flat_of_before _ hg w)
abbrev gy_val : Term := .field (.string "LimbDesk$Letters" 75) "java/lang/String" "value" "[B"
def gy_words : List Cond := gx_decl.map (fun x => .declares x) ++ gx_cls.map (fun C => .castable C C) ++ [.laysStatic Bundle.tN "UNASSIGNED_STACK" Bundle.steD, .laysStatic Bundle.tN "SUPPRESSED_SENTINEL" Bundle.listD, .isRef (.static Bundle.tN "UNASSIGNED_STACK" Bundle.steD), .isRef (.static Bundle.tN "SUPPRESSED_SENTINEL" Bundle.listD)] ++ gx_msgs.map (fun q => .stringRef q.1 q.2.1 q.2.2) ++ gx_msgs.map (fun q => .exactly (.string q.1 q.2.1) "java/lang/String") ++
  [.eq (.field (.string "LimbDesk$Letters" 75) "java/lang/String" "coder" "B") (.int 0), .arrayOf gy_val .byte, .eq (.length gy_val) (.int (Int32.ofNat 36)), .laysStatic "java/lang/String" "COMPACT_STRINGS" "Z", .initialized "java/lang/String", .eq (.static "java/lang/String" "COMPACT_STRINGS" "Z") (.int 1), .laysStatic "jdk/internal/util/Preconditions" "SIOOBE_FORMATTER" "Ljava/util/function/BiFunction;", .initialized "jdk/internal/util/Preconditions", .isRef (.static "jdk/internal/util/Preconditions" "SIOOBE_FORMATTER" "Ljava/util/function/BiFunction;"), .arrayOver (.object "LimbDesk$Whole"), .not (.castable (gx_name 2) (gx_name 1)), .not (.castable (gx_name 3) (gx_name 1))] ++ (List.range 36).map (fun j => .eq (.elem gy_val (.int (Int32.ofNat j))) (.int (gx_dg j)))
set_option maxRecDepth 100000 in
theorem gy_all : gy_words.all gy_have = true := by decide +kernel
