/-! bits as if there were endlessly many -/
def opN (w a b : Nat) : Nat := if w = 0 then a &&& b else if w = 1 then a ||| b else a ^^^ b
theorem op_tb (w a b i : Nat) : (opN w a b).testBit i = if w = 0 then (a.testBit i && b.testBit i) else if w = 1 then (a.testBit i || b.testBit i) else (a.testBit i ^^ b.testBit i) := by
  unfold opN
  split
  · rw [Nat.testBit_and]
  · split
    · rw [Nat.testBit_or]
    · rw [Nat.testBit_xor]
theorem op_lt {w a b k : Nat} (ha : a < 2 ^ k) (hb : b < 2 ^ k) : opN w a b < 2 ^ k := by
  unfold opN
  split
  · exact Nat.and_lt_two_pow _ hb
  · split
    · exact Nat.or_lt_two_pow ha hb
    · exact Nat.xor_lt_two_pow ha hb
theorem op_split {w a b c d k : Nat} (hb : b < 2 ^ k) (hd : d < 2 ^ k) : opN w (2 ^ k * a + b) (2 ^ k * c + d) = 2 ^ k * opN w a c + opN w b d := by
  apply Nat.eq_of_testBit_eq
  intro i
  rw [op_tb, Nat.testBit_two_pow_mul_add _ hb, Nat.testBit_two_pow_mul_add _ hd, Nat.testBit_two_pow_mul_add _ (op_lt hb hd), op_tb, op_tb]
  by_cases h : i < k <;> simp [h]
theorem ev_op {w k : Nat} {d e : Nat → Nat} (n : Nat) (hd : ∀ j, j < n → d j < 2 ^ k) (he : ∀ j, j < n → e j < 2 ^ k) : ev (2 ^ k) (fun i => opN w (d i) (e i)) n = opN w (ev (2 ^ k) d n) (ev (2 ^ k) e n) := by
  induction n with
  | zero =>
    simp only [ev]
    unfold opN
    simp
  | succ n ih =>
    simp only [ev]
    rw [ih (fun j hj => hd j (by omega)) (fun j hj => he j (by omega))]
    have h1 : ev (2 ^ k) d n < (2 ^ k) ^ n := ev_lt (fun j hj => hd j (by omega))
    have h2 : ev (2 ^ k) e n < (2 ^ k) ^ n := ev_lt (fun j hj => he j (by omega))
    rw [← Nat.pow_mul] at h1 h2 ⊢
    rw [Nat.add_comm (ev _ d n), Nat.add_comm (ev _ e n), Nat.mul_comm (d n), Nat.mul_comm (e n), op_split h1 h2, Nat.add_comm, Nat.mul_comm (opN w (d n) (e n))]
def b01 (x : Int) : Nat := if x < 0 then 1 else 0
/-- x as N bits -/
def md (N : Nat) (x : Int) : Nat := (x % ((2 ^ N : Nat) : Int)).toNat
def bop (N w : Nat) (x y : Int) : Int := (opN w (md N x) (md N y) : Int) - (opN w (b01 x) (b01 y) : Int) * ((2 ^ N : Nat) : Int)
theorem b01_le (x : Int) : b01 x ≤ 1 := by unfold b01; split <;> omega
theorem md_lt (N : Nat) (x : Int) : md N x < 2 ^ N := by
  have hp := Nat.two_pow_pos N
  have h1 := Int.emod_lt_of_pos x (show (0 : Int) < ((2 ^ N : Nat) : Int) by omega)
  have h2 := Int.emod_nonneg x (show ((2 ^ N : Nat) : Int) ≠ 0 by omega)
  unfold md
  omega
theorem md_pos {N : Nat} {x : Int} (h0 : 0 ≤ x) (h : x.natAbs < 2 ^ N) : md N x = x.natAbs := by
  unfold md
  rw [Int.emod_eq_of_lt h0 (by omega)]
  omega
theorem md_neg {N : Nat} {x : Int} (h0 : x < 0) (h : x.natAbs ≤ 2 ^ N) : md N x = 2 ^ N - x.natAbs := by
  have hp := Nat.two_pow_pos N
  unfold md
  rw [← Int.add_emod_right, Int.emod_eq_of_lt (by omega) (by omega)]
  omega
/-- a number of at most N bits, by more bits -/
theorem md_more {N t : Nat} {x : Int} (h : x.natAbs < 2 ^ N) : md (N + t) x = 2 ^ N * (b01 x * (2 ^ t - 1)) + md N x := by
  have hpn := Nat.two_pow_pos t
  have hpN := Nat.two_pow_pos N
  have hle : 2 ^ N ≤ 2 ^ (N + t) := Nat.pow_le_pow_right (by decide) (by omega)
  unfold b01
  by_cases hx : x < 0
  · rw [if_pos hx, Nat.one_mul, md_neg hx (by omega), md_neg hx (by omega), Nat.pow_add]
    rw [Nat.pow_add] at hle
    obtain ⟨Y, hY⟩ : ∃ Y, 2 ^ t = Y + 1 := ⟨2 ^ t - 1, by omega⟩
    rw [hY] at hle ⊢
    rw [Nat.add_sub_cancel, Nat.mul_add, Nat.mul_one]
    omega
  · rw [if_neg hx, Nat.zero_mul, Nat.mul_zero, Nat.zero_add, md_pos (by omega) (by omega), md_pos (by omega) h]
theorem op_ones (w a b t : Nat) (ha : a ≤ 1) (hb : b ≤ 1) : opN w (a * (2 ^ t - 1)) (b * (2 ^ t - 1)) = opN w a b * (2 ^ t - 1) := by
  unfold opN
  rcases (show a = 0 ∨ a = 1 by omega) with rfl | rfl <;> rcases (show b = 0 ∨ b = 1 by omega) with rfl | rfl
  · simp
  · split
    · simp
    · split <;> simp
  · split
    · simp
    · split <;> simp
  · split
    · simp
    · split <;> simp
theorem bop_more {N : Nat} {x y : Int} (w t : Nat) (hx : x.natAbs < 2 ^ N) (hy : y.natAbs < 2 ^ N) : ((opN w (md (N + t) x) (md (N + t) y) : Nat) : Int) - ((opN w (b01 x) (b01 y) : Nat) : Int) * ((2 ^ (N + t) : Nat) : Int) = bop N w x y := by
  rw [md_more hx, md_more hy, op_split (md_lt N x) (md_lt N y), op_ones _ _ _ _ (b01_le x) (b01_le y)]
  unfold bop
  have hpn := Nat.two_pow_pos t
  generalize opN w (md N x) (md N y) = P
  generalize opN w (b01 x) (b01 y) = s
  rw [Int.natCast_add, Int.natCast_mul, Int.natCast_mul, Int.natCast_sub hpn, Nat.pow_add, Int.natCast_mul]
  generalize ((2 ^ N : Nat) : Int) = X
  generalize ((2 ^ t : Nat) : Int) = Y
  grind
theorem op01 {w a b : Nat} (ha : a ≤ 1) (hb : b ≤ 1) : opN w a b ≤ 1 := by
  have := op_lt (w := w) (a := a) (b := b) (k := 1) (by omega) (by omega)
  omega
theorem bop_rng (N w : Nat) (x y : Int) : (bop N w x y).natAbs ≤ 2 ^ N ∧ (bop N w x y < 0 ↔ opN w (b01 x) (b01 y) = 1) := by
  have h1 := op_lt (w := w) (md_lt N x) (md_lt N y)
  have h2 := op01 (w := w) (b01_le x) (b01_le y)
  have hp := Nat.two_pow_pos N
  unfold bop
  generalize opN w (md N x) (md N y) = P at h1 ⊢
  generalize opN w (b01 x) (b01 y) = s at h2 ⊢
  rcases (show s = 0 ∨ s = 1 by omega) with rfl | rfl
  · rw [show ((0 : Nat) : Int) * ((2 ^ N : Nat) : Int) = 0 from Int.zero_mul _]
    omega
  · rw [show ((1 : Nat) : Int) * ((2 ^ N : Nat) : Int) = ((2 ^ N : Nat) : Int) from Int.one_mul _]
    omega
/-- the digits of a number below 0, from its digits without the sign and its lowest digit not 0 -/
def en (B : Nat) (neg : Bool) (d : Nat → Nat) (f i : Nat) : Nat := if neg then (if i < f then 0 else if i = f then B - d f else B - 1 - d i) else d i
theorem en_ev {B : Nat} {d : Nat → Nat} {f n : Nat} (hB : 0 < B) (hd : ∀ j, j < n → d j < B) (hz : ∀ j, j < f → d j = 0) (h0 : d f ≠ 0) (hf : f < n) : ev B (en B true d f) n + ev B d n = B ^ n := by
  obtain ⟨t, rfl⟩ : ∃ t, n = f + 1 + t := ⟨n - f - 1, by omega⟩
  induction t with
  | zero =>
    simp only [ev, Nat.add_zero]
    rw [ev_zero hz, ev_zero (fun j hj => by unfold en; rw [if_pos rfl, if_pos hj])]
    have : en B true d f f = B - d f := by unfold en; rw [if_pos rfl, if_neg (Nat.lt_irrefl _), if_pos rfl]
    rw [this, Nat.zero_add, Nat.zero_add, ← Nat.add_mul, Nat.sub_add_cancel (Nat.le_of_lt (hd f (by omega))), Nat.pow_succ, Nat.mul_comm]
  | succ t ih =>
    have ih := ih (fun j hj => hd j (by omega)) (by omega)
    rw [← Nat.add_assoc]
    simp only [ev]
    have e1 : en B true d f (f + 1 + t) = B - 1 - d (f + 1 + t) := by unfold en; rw [if_pos rfl, if_neg (by omega), if_neg (by omega)]
    have hl := hd (f + 1 + t) (by omega)
    rw [e1, Nat.pow_succ]
    have e2 : (B - 1 - d (f + 1 + t) + d (f + 1 + t)) * B ^ (f + 1 + t) + B ^ (f + 1 + t) = B ^ (f + 1 + t) * B := by
      rw [show B - 1 - d (f + 1 + t) + d (f + 1 + t) = B - 1 by omega]
      obtain ⟨b, rfl⟩ : ∃ b, B = b + 1 := ⟨B - 1, by omega⟩
      rw [Nat.add_sub_cancel, Nat.mul_add, Nat.mul_one, Nat.mul_comm b]
    rw [Nat.add_mul] at e2
    omega
theorem en_lt {B : Nat} {neg : Bool} {d : Nat → Nat} {f i : Nat} (hB : 0 < B) (hd : d i < B) (h0 : neg = true → d f ≠ 0) : en B neg d f i < B := by
  unfold en
  split
  · split
    · exact hB
    · split
      · have := h0 ‹_›; omega
      · omega
  · exact hd
theorem not31 {d : Nat} (h : d < 2147483648) : (nI d ^^^ (-1 : Int32)) &&& (2147483647 : Int32) = nI (2147483647 - d) := by
  have e : (nI d ^^^ (-1 : Int32)).toBitVec.toNat = 4294967295 - d := by
    rw [Int32.toBitVec_xor, show (-1 : Int32).toBitVec = BitVec.allOnes 32 by decide, BitVec.xor_allOnes, BitVec.toNat_not, pk_tn (by omega)]
  rw [pk_and _ 31 (by decide), e]
  congr 1
  omega
theorem neg31 {d : Nat} (h : d < 2147483648) : (-nI d) &&& (2147483647 : Int32) = nI (if d = 0 then 0 else 2147483648 - d) := by
  rw [iZ_nI d, iZ_neg, iZ_mask _ 31 _ (by decide) (by decide), iZ_nI]
  congr 1
  split <;> omega
section W7
variable {F A : gm_M} {a0 l0 n0 u v : Nat}
theorem s_W_endlessLimb {A' : gm_M} {neg : Bool} {f i : Nat} {p q : Int32} (hu : u ≤ n0 ∧ F a0 1 = nI u ∧ dk 2147483648 A l0 u) (hb : F a0 2 = if neg then 1 else 0) (hn : n0 < 2 ^ 31) (hp : p = nI i) (hq : q = nI f) (hi : i < 2 ^ 31) (hf : f < 2 ^ 31) (hg : A' l0 i = A l0 i) (hz : ∀ j, j < f → dz A l0 u j = 0) (h0 : neg = true → dz A l0 u f ≠ 0) {post : Int32 → Prop} (h : post (nI (en 2147483648 neg (dz A l0 u) f i))) : vc_W_endlessLimb a0 l0 n0 p q F A' post := by
  subst hp hq
  unfold vc_W_endlessLimb
  rw [hb]
  have hd := dz_lt (i := i) hu.2.2
  cases neg with
  | false =>
    refine (pk_eq 0 0 (fun _ => ?_) (fun e => absurd rfl e)).symm
    exact s_limb hu hn rfl hi hg h
  | true =>
    refine (pk_eq 1 0 (fun e => absurd e (by decide)) (fun _ => ?_)).symm
    refine pk_lt f i (fun c => ?_) (fun c => ?_)
    · refine s_limb hu hn rfl hi hg ?_
      rw [not31 hd]
      unfold en at h
      rw [if_pos rfl, if_neg (by omega), if_neg (by omega)] at h
      exact h
    · refine s_limb hu hn rfl hi hg ?_
      rw [neg31 hd]
      unfold en at h
      rw [if_pos rfl] at h
      by_cases c2 : i < f
      · rw [if_pos c2] at h
        rw [if_pos (hz i c2)]; exact h
      · have : i = f := by omega
        subst this
        rw [if_neg c2, if_pos rfl] at h
        rw [if_neg (h0 rfl)]; exact h
theorem s_W_joined {w a b : Nat} {p x y : Int32} (hp : p = nI w) (hw : w ≤ 2) (hx : x = nI a) (hy : y = nI b) (ha : a < 2 ^ 31) (hb : b < 2 ^ 31) {post : Int32 → Prop} (h : post (nI (opN w a b))) : vc_W_joined p x y F A post := by
  subst hp hx hy
  unfold vc_W_joined
  unfold opN at h
  refine (pk_eq w 0 (fun e => ?_) (fun e => (pk_eq w 1 (fun e1 => ?_) (fun e1 => ?_)).symm)).symm
  · rw [if_pos e] at h; rw [i_and (by omega) (by omega)]; exact h
  · rw [if_neg e, if_pos e1] at h; rw [i_or (by omega) (by omega)]; exact h
  · rw [if_neg e, if_neg e1] at h; rw [i_xor (by omega) (by omega)]; exact h
end W7
