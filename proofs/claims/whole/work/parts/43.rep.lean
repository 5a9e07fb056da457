/-! digits in arrays -/
def dg (A : gm_M) (l k : Nat) : Nat := (A l k).toNatClampNeg
def dk (B : Nat) (A : gm_M) (l n : Nat) : Prop := ∀ k, k < n → A l k = nI (dg A l k) ∧ dg A l k < B
def dz (A : gm_M) (l u i : Nat) : Nat := if i < u then dg A l i else 0
theorem dg_of {A : gm_M} {l k v : Nat} (h : A l k = nI v) (hv : v < 2 ^ 31) : dg A l k = v := by
  unfold dg; rw [h, nI_clamp hv]
theorem up_at (A : gm_M) (l k : Nat) (x : Int32) : gm_up A l k x l k = x := by rw [gm_at]; exact if_pos rfl
theorem up_ne (A : gm_M) {l k j : Nat} (x : Int32) (h : j ≠ k) : gm_up A l k x l j = A l j := by rw [gm_at]; exact if_neg h
theorem dg_at (A : gm_M) (l k : Nat) {v : Nat} (hv : v < 2 ^ 31) : dg (gm_up A l k (nI v)) l k = v := dg_of (up_at _ _ _ _) hv
theorem dg_ne (A : gm_M) {l k j : Nat} (x : Int32) (h : j ≠ k) : dg (gm_up A l k x) l j = dg A l j := by unfold dg; rw [up_ne _ _ h]
theorem dg_off (A : gm_M) {l k j b : Nat} (x : Int32) (h : b ≠ l) : dg (gm_up A l k x) b j = dg A b j := by unfold dg; rw [gm_off h]
theorem dk_le {B : Nat} {A : gm_M} {l m n : Nat} (h : dk B A l n) (hm : m ≤ n) : dk B A l m := fun k hk => h k (by omega)
theorem dk_congr {B : Nat} {A A' : gm_M} {l l' n : Nat} (h : dk B A l n) (e : ∀ k, k < n → A' l' k = A l k) : dk B A' l' n := fun k hk => by
  have h1 := h k hk
  unfold dg at h1 ⊢
  rw [e k hk]; exact h1
theorem dg_congr {A A' : gm_M} {l l' k : Nat} (e : A' l' k = A l k) : dg A' l' k = dg A l k := by unfold dg; rw [e]
theorem dk_up {B : Nat} {A : gm_M} {l i v : Nat} (h : dk B A l i) (hv : v < B) (hB : B ≤ 2 ^ 31) : dk B (gm_up A l i (nI v)) l (i + 1) := fun k hk => by
  by_cases e : k = i
  · subst e
    rw [dg_at A l k (by omega), up_at]; exact ⟨rfl, hv⟩
  · rw [dg_ne A _ e, up_ne A _ e]; exact h k (by omega)
theorem ev_at {B : Nat} {A : gm_M} {l i v : Nat} (hv : v < 2 ^ 31) : ev B (dg (gm_up A l i (nI v)) l) (i + 1) = ev B (dg A l) i + v * B ^ i := by
  simp only [ev]
  rw [dg_at A l i hv, ev_congr (fun j hj => dg_ne A _ (by omega))]
theorem ev_lo {B : Nat} {A : gm_M} {l i n : Nat} (x : Int32) (h : n ≤ i) : ev B (dg (gm_up A l i x) l) n = ev B (dg A l) n := ev_congr (fun j hj => dg_ne A _ (by omega))
theorem ev_of {B : Nat} {A A' : gm_M} {l l' n : Nat} (e : ∀ k, k < n → A' l' k = A l k) : ev B (dg A' l') n = ev B (dg A l) n := ev_congr (fun j hj => dg_congr (e j hj))
theorem dz_lt {A : gm_M} {l u i : Nat} (h : dk 2147483648 A l u) : dz A l u i < 2147483648 := by
  unfold dz; split
  · exact (h i ‹_›).2
  · decide
theorem dz_lt16 {A : gm_M} {l u i : Nat} (h : dk 65536 A l u) : dz A l u i < 65536 := by
  unfold dz; split
  · exact (h i ‹_›).2
  · decide
theorem ev_dz {B : Nat} {A : gm_M} {l u n : Nat} (h : u ≤ n) : ev B (dz A l u) n = ev B (dg A l) u := by
  obtain ⟨t, rfl⟩ : ∃ t, n = u + t := ⟨n - u, by omega⟩
  rw [ev_add, ev_zero (d := fun j => dz A l u (u + j)) (fun j _ => if_neg (by omega)), Nat.mul_zero, Nat.add_zero]
  exact ev_congr (fun j hj => if_pos hj)
/-! from i on unchanged; below i unchanged -/
def sm (A A' : gm_M) (l i : Nat) : Prop := (∀ b, b ≠ l → A' b = A b) ∧ ∀ j, i ≤ j → A' l j = A l j
def smd (A A' : gm_M) (l i : Nat) : Prop := (∀ b, b ≠ l → A' b = A b) ∧ ∀ j, j < i → A' l j = A l j
theorem sm.rf {A : gm_M} {l i : Nat} : sm A A l i := ⟨fun _ _ => rfl, fun _ _ => rfl⟩
theorem smd.rf {A : gm_M} {l i : Nat} : smd A A l i := ⟨fun _ _ => rfl, fun _ _ => rfl⟩
theorem sm.get {A A' : gm_M} {l i : Nat} (h : sm A A' l i) (b : Nat) {j : Nat} (hj : i ≤ j) : A' b j = A b j := by
  by_cases e : b = l
  · subst e; exact h.2 j hj
  · rw [h.1 b e]
theorem smd.get {A A' : gm_M} {l i : Nat} (h : smd A A' l i) (b : Nat) {j : Nat} (hj : j < i) : A' b j = A b j := by
  by_cases e : b = l
  · subst e; exact h.2 j hj
  · rw [h.1 b e]
theorem sm.up {A A' : gm_M} {l i k : Nat} (h : sm A A' l i) (x : Int32) (hk : k < i + 1) : sm A (gm_up A' l k x) l (i + 1) := ⟨fun b hb => by rw [gm_off hb]; exact h.1 b hb, fun j hj => by rw [up_ne _ _ (by omega)]; exact h.2 j (by omega)⟩
theorem smd.up {A A' : gm_M} {l i : Nat} (h : smd A A' l (i + 1)) (x : Int32) : smd A (gm_up A' l i x) l i := ⟨fun b hb => by rw [gm_off hb]; exact h.1 b hb, fun j hj => by rw [up_ne _ _ (by omega)]; exact h.2 j (by omega)⟩
theorem sm.mono {A A' : gm_M} {l i k : Nat} (h : sm A A' l i) (hk : i ≤ k) : sm A A' l k := ⟨h.1, fun j hj => h.2 j (by omega)⟩
/-- one step of a carry -/
theorem ev_car (B i s : Nat) : s % B * B ^ i + s / B * B ^ (i + 1) = s * B ^ i := by
  have h : s = s % B + B * (s / B) := (Nat.mod_add_div s B).symm
  have h2 : s * B ^ i = (s % B + B * (s / B)) * B ^ i := by rw [← h]
  rw [h2, Nat.pow_succ]
  grind
/-! a number of the desk: u limbs of 31 bits -/
def wU (F A : gm_M) (a l n u v : Nat) : Prop := u ≤ n ∧ F a 1 = nI u ∧ dk 2147483648 A l u ∧ (∀ t, u = t + 1 → dg A l t ≠ 0) ∧ ev 2147483648 (dg A l) u = v
def wM (F A : gm_M) (a l n v : Nat) : Prop := ∃ u, wU F A a l n u v
def sb (x : Int) : Int32 := if x < 0 then 1 else 0
def wR (F A : gm_M) (a l n : Nat) (x : Int) : Prop := wM F A a l n x.natAbs ∧ F a 2 = sb x
theorem wU.congr {F A F' A' : gm_M} {a l n u v : Nat} (h : wU F A a l n u v) (h1 : F' a = F a) (h2 : A' l = A l) : wU F' A' a l n u v := by
  obtain ⟨p1, p2, p3, p4, p5⟩ := h
  have e : ∀ k, k < u → A' l k = A l k := fun k _ => by rw [h2]
  refine ⟨p1, by rw [h1]; exact p2, dk_congr p3 e, fun t ht => ?_, (ev_of e).trans p5⟩
  rw [dg_congr (e t (by omega))]
  exact p4 t ht
theorem wM.congr {F A F' A' : gm_M} {a l n v : Nat} (h : wM F A a l n v) (h1 : F' a = F a) (h2 : A' l = A l) : wM F' A' a l n v := by
  obtain ⟨u, h⟩ := h
  exact ⟨u, h.congr h1 h2⟩
theorem wR.congr {F A F' A' : gm_M} {a l n : Nat} {x : Int} (h : wR F A a l n x) (h1 : F' a = F a) (h2 : A' l = A l) : wR F' A' a l n x := ⟨h.1.congr h1 h2, by rw [h1]; exact h.2⟩
theorem sb01 (x : Int) : sb x = 0 ∨ sb x = 1 := by
  unfold sb; split
  · exact Or.inr rfl
  · exact Or.inl rfl
theorem pow31 (j : Nat) : 2147483648 ^ j = 2 ^ (31 * j) := by rw [Nat.pow_mul]
theorem pow16 (j : Nat) : 65536 ^ j = 2 ^ (16 * j) := by rw [Nat.pow_mul]
theorem ev_dig {B : Nat} {d : Nat → Nat} {n j : Nat} (h : ∀ k, k < n → d k < B) (hj : j < n) (hB : 0 < B) : ev B d n / B ^ j % B = d j := by
  obtain ⟨t, rfl⟩ : ∃ t, n = j + 1 + t := ⟨n - j - 1, by omega⟩
  have hp : 0 < B ^ j := Nat.pow_pos hB
  rw [ev_add]
  simp only [ev]
  have h1 : ev B d j < B ^ j := ev_lt (fun k hk => h k (by omega))
  rw [show ev B d j + d j * B ^ j + B ^ (j + 1) * ev B (fun k => d (j + 1 + k)) t = ev B d j + B ^ j * (d j + B * ev B (fun k => d (j + 1 + k)) t) by rw [Nat.pow_succ]; grind]
  rw [Nat.add_mul_div_left _ _ hp, Nat.div_eq_of_lt h1, Nat.zero_add, Nat.add_mul_mod_self_left, Nat.mod_eq_of_lt (h j (by omega))]
theorem ev_high {B : Nat} {d : Nat → Nat} {n j : Nat} (h : ∀ k, k < n → d k < B) (hj : n ≤ j) (hB : 0 < B) : ev B d n / B ^ j = 0 :=
  Nat.div_eq_of_lt (Nat.lt_of_lt_of_le (ev_lt h) (Nat.pow_le_pow_right hB hj))
theorem wU.lt {F A : gm_M} {a l n u v : Nat} (h : wU F A a l n u v) : v < 2147483648 ^ u := by
  rw [← h.2.2.2.2]; exact ev_lt (fun k hk => (h.2.2.1 k hk).2)
theorem wU.dig {F A : gm_M} {a l n u v : Nat} (h : wU F A a l n u v) (j : Nat) : v / 2147483648 ^ j % 2147483648 = dz A l u j := by
  obtain ⟨-, -, p3, -, p5⟩ := h
  rw [← p5]
  unfold dz
  by_cases hj : j < u
  · rw [if_pos hj]; exact ev_dig (fun k hk => (p3 k hk).2) hj (by decide)
  · rw [if_neg hj, ev_high (fun k hk => (p3 k hk).2) (by omega) (by decide)]
theorem wU.pos {F A : gm_M} {a l n u v : Nat} (h : wU F A a l n u v) : u = 0 ↔ v = 0 := by
  obtain ⟨-, -, p3, p4, p5⟩ := h
  constructor
  · intro e; subst e; exact p5.symm
  · intro e
    match u, p4, p5 with
    | 0, _, _ => rfl
    | t + 1, p4, p5 =>
      have h1 := ev_top (B := 2147483648) (p4 t rfl)
      have h2 : 0 < 2147483648 ^ t := Nat.pow_pos (by decide)
      omega
theorem wU.ge {F A : gm_M} {a l n t v : Nat} (h : wU F A a l n (t + 1) v) : 2147483648 ^ t ≤ v := by
  obtain ⟨-, -, p3, p4, p5⟩ := h
  rw [← p5]; exact ev_top (p4 t rfl)
/-- v below 2 to the b: at most b / 31 rounded up limbs -/
theorem wU.le {F A : gm_M} {a l n u v b : Nat} (h : wU F A a l n u v) (hv : v < 2 ^ b) : 31 * u < b + 31 := by
  match u, h with
  | 0, _ => omega
  | t + 1, h =>
    have h1 := h.ge
    rw [pow31] at h1
    have h2 : 2 ^ (31 * t) < 2 ^ b := by omega
    have := (Nat.pow_lt_pow_iff_right (by decide : 1 < 2)).mp h2
    omega
theorem bl_ev {d : Nat → Nat} {t : Nat} (h : ∀ k, k < t + 1 → d k < 2147483648) (ht : d t ≠ 0) : bl (ev 2147483648 d (t + 1)) = 31 * t + bl (d t) := by
  have h1 : ev 2147483648 d t < 2147483648 ^ t := ev_lt (fun k hk => h k (by omega))
  have h2 := bl_le ht
  have h3 := bl_lt (d t)
  have h4 := bl_pos ht
  have hp : 0 < 2147483648 ^ t := Nat.pow_pos (by decide)
  have e1 : ev 2147483648 d (t + 1) = ev 2147483648 d t + d t * 2147483648 ^ t := rfl
  refine bl_eq ?_ ?_ ?_
  · have := Nat.mul_le_mul_right (2147483648 ^ t) (show 1 ≤ d t by omega)
    omega
  · rw [show 31 * t + bl (d t) - 1 = (bl (d t) - 1) + 31 * t by omega, Nat.pow_add, ← pow31]
    have := Nat.mul_le_mul_right (2147483648 ^ t) h2
    omega
  · rw [Nat.add_comm (31 * t), Nat.pow_add, ← pow31]
    have := Nat.mul_le_mul_right (2147483648 ^ t) (show d t + 1 ≤ 2 ^ bl (d t) from h3)
    rw [Nat.add_mul] at this
    omega
