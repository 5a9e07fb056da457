/-! making the objects: the layout grows -/
def gc_A (Λ : gs_L) (sz : Nat) : Nat → Prop := fun q => (∃ sh : gs_S, (q, sh) ∈ Λ) ∨ sz ≤ q
def gm_new (F : gm_M) (q : Nat) : gm_M := fun b => if b = q then fun _ => 0 else F b
theorem gm_new_at (F : gm_M) (q : Nat) : gm_new F q q = fun _ => 0 := if_pos rfl
theorem gm_new_off {F : gm_M} {q b : Nat} (h : b ≠ q) : gm_new F q b = F b := if_neg h
theorem gc_D {A : Nat → Prop} {Λ : gs_L} (h : gs_D Λ) (hA : ∀ x ∈ Λ, A x.1) (F M : gm_M) (L : lm_M) : va_D A (gs_ws Λ F M L) := by
  refine ⟨fun i j p q hi hj e => ?_, fun k q hk => ?_⟩
  · obtain ⟨p', h1, rfl⟩ := gs_ws_get hi
    obtain ⟨q', h2, rfl⟩ := gs_ws_get hj
    exact h i j p' q' h1 h2 e
  · obtain ⟨p', h1, rfl⟩ := gs_ws_get hk
    exact hA p' (List.mem_of_getElem? h1)
/-- a new cell behind the others -/
theorem gc_push {A : Nat → Prop} {D : va_G} {cl : List vw_C} {Λ : gs_L} {F M F1 M1 : gm_M} {L : lm_M} {H : Heap} {q : Nat} {sh : gs_S} {e : va_E} (hF : ∀ b, b ≠ q → F1 b = F b) (hM : ∀ b, b ≠ q → M1 b = M b) (he : gs_cell (F1 q) (M1 q) (L q) sh = e) (hD : gs_D Λ) (hA : ∀ x ∈ Λ, A x.1) (hP : va_P D cl (gs_ws Λ F M L ++ [(q, e)]) H) (hDq : va_D A (gs_ws Λ F M L ++ [(q, e)])) :
    (∀ x ∈ Λ, x.1 ≠ q) ∧ gs_D (Λ ++ [(q, sh)]) ∧ (∀ x ∈ Λ ++ [(q, sh)], A x.1) ∧ va_P D cl (gs_ws (Λ ++ [(q, sh)]) F1 M1 L) H := by
  have hlen : (gs_ws Λ F M L).length = Λ.length := by unfold gs_ws; rw [List.length_map]
  have hlast : (gs_ws Λ F M L ++ [(q, e)])[Λ.length]? = some (q, e) := by
    rw [List.getElem?_append_right (by omega), hlen]; simp
  have hne : ∀ x ∈ Λ, x.1 ≠ q := fun x hx hq => by
    obtain ⟨k, hk, hw⟩ := gs_ws_at (F := F) (A := M) (L := L) (show (x.1, x.2) ∈ Λ from hx)
    have hlt : k < Λ.length := (List.getElem?_eq_some_iff.mp hk).1
    have h1 : (gs_ws Λ F M L ++ [(q, e)])[k]? = some (x.1, gs_cell (F x.1) (M x.1) (L x.1) x.2) := by
      rw [List.getElem?_append_left (by omega)]; exact hw
    have := hDq.1 k Λ.length _ _ h1 hlast hq
    omega
  refine ⟨hne, ?_, ?_, ?_⟩
  · intro i j x y hi hj hxy
    rcases Nat.lt_or_ge i Λ.length with h1 | h1 <;> rcases Nat.lt_or_ge j Λ.length with h2 | h2
    · rw [List.getElem?_append_left h1] at hi
      rw [List.getElem?_append_left h2] at hj
      exact hD i j x y hi hj hxy
    · rw [List.getElem?_append_left h1] at hi
      rw [List.getElem?_append_right h2] at hj
      have : y = (q, sh) := by
        have := List.mem_of_getElem? hj; simpa using this
      exact absurd (by rw [hxy, this]) (hne x (List.mem_of_getElem? hi))
    · rw [List.getElem?_append_right h1] at hi
      rw [List.getElem?_append_left h2] at hj
      have : x = (q, sh) := by
        have := List.mem_of_getElem? hi; simpa using this
      exact absurd (by rw [← hxy, this]) (hne y (List.mem_of_getElem? hj))
    · rw [List.getElem?_append_right h1] at hi
      rw [List.getElem?_append_right h2] at hj
      have a1 : i - Λ.length < [(q, sh)].length := (List.getElem?_eq_some_iff.mp hi).1
      have a2 : j - Λ.length < [(q, sh)].length := (List.getElem?_eq_some_iff.mp hj).1
      simp only [List.length_cons, List.length_nil] at a1 a2
      omega
  · intro x hx
    rcases List.mem_append.mp hx with h | h
    · exact hA x h
    · rw [List.mem_singleton.mp h]
      exact hDq.2 Λ.length _ hlast
  · have e1 : gs_ws (Λ ++ [(q, sh)]) F1 M1 L = gs_ws Λ F M L ++ [(q, e)] := by
      unfold gs_ws
      rw [List.map_append]
      congr 1
      · apply List.map_congr_left
        intro x hx
        rw [hF _ (hne x hx), hM _ (hne x hx)]
      · simp [he]
    rw [e1]; exact hP
/-- another shape of one cell -/
theorem gc_set {A : Nat → Prop} {Λ : gs_L} {F M : gm_M} {L : lm_M} {a k : Nat} {sh sh1 : gs_S} {e : va_E} (hD : gs_D Λ) (hA : ∀ x ∈ Λ, A x.1) (hk : Λ[k]? = some (a, sh)) (he : gs_cell (F a) (M a) (L a) sh1 = e) :
    (∀ x ∈ Λ, x.1 ≠ a → x ∈ Λ.set k (a, sh1)) ∧ (a, sh1) ∈ Λ.set k (a, sh1) ∧ gs_D (Λ.set k (a, sh1)) ∧ (∀ x ∈ Λ.set k (a, sh1), A x.1) ∧ (gs_ws Λ F M L).set k (a, e) = gs_ws (Λ.set k (a, sh1)) F M L ∧ (∀ x ∈ Λ.set k (a, sh1), x.1 = a ∨ x ∈ Λ) := by
  subst he
  have hlt : k < Λ.length := (List.getElem?_eq_some_iff.mp hk).1
  have at' : ∀ (i : Nat) (x : Nat × gs_S), (Λ.set k (a, sh1))[i]? = some x → (i = k ∧ x = (a, sh1)) ∨ (i ≠ k ∧ Λ[i]? = some x) := by
    intro i x hx
    by_cases hi : k = i
    · subst hi
      rw [List.getElem?_set_self hlt] at hx
      exact Or.inl ⟨rfl, (Option.some.inj hx).symm⟩
    · rw [List.getElem?_set_ne hi] at hx
      exact Or.inr ⟨fun h => hi h.symm, hx⟩
  refine ⟨fun x hx hxa => ?_, ?_, ?_, ?_, ?_, ?_⟩
  · obtain ⟨i, hi⟩ := List.getElem?_of_mem hx
    have hik : k ≠ i := fun h => hxa (by subst h; cases hk.symm.trans hi; rfl)
    exact List.mem_of_getElem? (i := i) (by rw [List.getElem?_set_ne hik]; exact hi)
  · exact List.mem_of_getElem? (i := k) (List.getElem?_set_self hlt)
  · intro i j x y hi hj hxy
    rcases at' i x hi with ⟨rfl, rfl⟩ | ⟨n1, h1⟩ <;> rcases at' j y hj with ⟨rfl, rfl⟩ | ⟨n2, h2⟩
    · rfl
    · exact hD _ _ _ _ hk h2 hxy
    · exact hD _ _ _ _ h1 hk hxy
    · exact hD _ _ _ _ h1 h2 hxy
  · intro x hx
    obtain ⟨i, hi⟩ := List.getElem?_of_mem hx
    rcases at' i x hi with ⟨-, rfl⟩ | ⟨-, h1⟩
    · exact hA (a, sh) (List.mem_of_getElem? hk)
    · exact hA _ (List.mem_of_getElem? h1)
  · unfold gs_ws
    rw [List.map_set]
  · intro x hx
    obtain ⟨i, hi⟩ := List.getElem?_of_mem hx
    rcases at' i x hi with ⟨-, rfl⟩ | ⟨-, h1⟩
    · exact Or.inl rfl
    · exact Or.inr (List.mem_of_getElem? h1)
theorem gs_vals_ref (f : Nat → Int32) (q : Nat) : ∀ (rs : List gs_R) (j k : Nat), rs[k]? = some (some none) → (gs_vals f j rs).set k (.ref q) = gs_vals f j (rs.set k (some (some q)))
  | [], _, _, h => by simp at h
  | none :: r, j, 0, h => by simp at h
  | some (some q') :: r, j, 0, h => by simp at h
  | some none :: r, j, 0, _ => by simp [gs_vals]
  | none :: r, j, k + 1, h => by simp [gs_vals, gs_vals_ref f q r (j + 1) k (by simpa using h)]
  | some none :: r, j, k + 1, h => by simp [gs_vals, gs_vals_ref f q r (j + 1) k (by simpa using h)]
  | some (some q') :: r, j, k + 1, h => by simp [gs_vals, gs_vals_ref f q r (j + 1) k (by simpa using h)]
