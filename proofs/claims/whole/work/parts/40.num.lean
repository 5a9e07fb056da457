/-! numbers by digits, the lowest first -/
def ev (B : Nat) (d : Nat → Nat) : Nat → Nat
  | 0 => 0
  | n + 1 => ev B d n + d n * B ^ n
theorem ev_congr {B : Nat} {d e : Nat → Nat} {n : Nat} (h : ∀ j, j < n → d j = e j) : ev B d n = ev B e n := by
  induction n with
  | zero => rfl
  | succ n ih =>
    simp only [ev]
    rw [ih (fun j hj => h j (Nat.lt_succ_of_lt hj)), h n (Nat.lt_succ_self n)]
theorem ev_lt {B : Nat} {d : Nat → Nat} {n : Nat} (h : ∀ j, j < n → d j < B) : ev B d n < B ^ n := by
  induction n with
  | zero => simp [ev]
  | succ n ih =>
    have h1 := ih (fun j hj => h j (Nat.lt_succ_of_lt hj))
    have h2 : (d n + 1) * B ^ n ≤ B * B ^ n := Nat.mul_le_mul_right _ (h n (Nat.lt_succ_self n))
    simp only [ev]
    rw [Nat.pow_succ, Nat.mul_comm (B ^ n) B]
    rw [Nat.add_mul, Nat.one_mul] at h2
    omega
theorem ev_add (B : Nat) (d : Nat → Nat) (m n : Nat) : ev B d (m + n) = ev B d m + B ^ m * ev B (fun j => d (m + j)) n := by
  induction n with
  | zero => simp [ev]
  | succ n ih =>
    rw [← Nat.add_assoc]
    simp only [ev]
    rw [ih, Nat.mul_add, Nat.pow_add, Nat.add_assoc, Nat.mul_left_comm]
theorem ev_zero {B : Nat} {d : Nat → Nat} {n : Nat} (h : ∀ j, j < n → d j = 0) : ev B d n = 0 := by
  induction n with
  | zero => rfl
  | succ n ih =>
    simp only [ev]
    rw [ih (fun j hj => h j (Nat.lt_succ_of_lt hj)), h n (Nat.lt_succ_self n)]
    simp
theorem ev_top {B : Nat} {d : Nat → Nat} {n : Nat} (h : d n ≠ 0) : B ^ n ≤ ev B d (n + 1) := by
  simp only [ev]
  have : 1 * B ^ n ≤ d n * B ^ n := Nat.mul_le_mul_right _ (by omega)
  omega
/-- the first difference from the top decides -/
theorem ev_cmp {B : Nat} {d e : Nat → Nat} {n k : Nat} (hk : k < n) (hd : ∀ j, j < n → d j < B) (hab : ∀ j, k < j → j < n → d j = e j) (hlt : d k < e k) : ev B d n < ev B e n := by
  induction n with
  | zero => omega
  | succ n ih =>
    simp only [ev]
    by_cases hkn : k = n
    · subst hkn
      have h1 := ev_lt (fun j hj => hd j (Nat.lt_succ_of_lt hj))
      have h2 : (d k + 1) * B ^ k ≤ e k * B ^ k := Nat.mul_le_mul_right _ hlt
      rw [Nat.add_mul, Nat.one_mul] at h2
      omega
    · have h1 := ih (by omega) (fun j hj => hd j (by omega)) (fun j h1 h2 => hab j h1 (by omega))
      rw [hab n (by omega) (by omega)]
      omega
/-- bits of a number -/
theorem bl_ex (v : Nat) : ∃ b, v < 2 ^ b := ⟨v, Nat.lt_two_pow_self⟩
def bl (v : Nat) : Nat := if v = 0 then 0 else Nat.log2 v + 1
theorem bl_lt (v : Nat) : v < 2 ^ bl v := by
  unfold bl
  by_cases h : v = 0
  · simp [h]
  · rw [if_neg h]; exact Nat.lt_log2_self
theorem bl_le {v : Nat} (h : v ≠ 0) : 2 ^ (bl v - 1) ≤ v := by
  unfold bl
  rw [if_neg h, Nat.add_sub_cancel]
  exact Nat.log2_self_le h
theorem bl_eq {v b : Nat} (h0 : v ≠ 0) (h1 : 2 ^ (b - 1) ≤ v) (h2 : v < 2 ^ b) : bl v = b := by
  have g1 := bl_le h0
  have g2 := bl_lt v
  have hb : 0 < b := by
    rcases Nat.eq_zero_or_pos b with rfl | h
    · simp at h2; omega
    · exact h
  have hv : 0 < bl v := by unfold bl; rw [if_neg h0]; omega
  rcases Nat.lt_trichotomy (bl v) b with h | h | h
  · have := Nat.pow_le_pow_right (n := 2) (by omega) (show bl v ≤ b - 1 by omega)
    omega
  · exact h
  · have := Nat.pow_le_pow_right (n := 2) (by omega) (show b ≤ bl v - 1 by omega)
    omega
theorem bl_0 : bl 0 = 0 := rfl
theorem bl_pos {v : Nat} (h : v ≠ 0) : 0 < bl v := by unfold bl; rw [if_neg h]; omega
theorem bl_le_iff {v b : Nat} : bl v ≤ b ↔ v < 2 ^ b := by
  constructor
  · intro h
    exact Nat.lt_of_lt_of_le (bl_lt v) (Nat.pow_le_pow_right (by omega) h)
  · intro h
    by_cases h0 : v = 0
    · subst h0; exact Nat.zero_le _
    · have g1 := bl_le h0
      have g3 := bl_pos h0
      rcases Nat.lt_or_ge b (bl v) with h' | h'
      · have := Nat.pow_le_pow_right (n := 2) (by omega) (show b ≤ bl v - 1 by omega)
        omega
      · exact h'
