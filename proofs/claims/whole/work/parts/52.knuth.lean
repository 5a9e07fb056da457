/-! Knuth's guesses -/
section KN
variable {B v1 v2 top third P X vr ur vl ul U V g : Nat}
theorem k_q (hV : 0 < V) : U / V * V ≤ U ∧ U < (U / V + 1) * V := by
  have h1 := Nat.div_add_mod U V
  have h2 := Nat.mod_lt U hV
  rw [Nat.add_mul, Nat.one_mul, Nat.mul_comm (U / V)]
  omega
theorem k_ge (hV0 : 0 < V) (hV : V = v1 * X + vl) (hU : U = top * X + ul) (hul : ul < X) : U / V * v1 ≤ top := by
  have h1 := (k_q (U := U) hV0).1
  generalize U / V = q at h1 ⊢
  have h2 : q * v1 * X ≤ q * V := by rw [hV, Nat.mul_add, Nat.mul_assoc]; omega
  have h3 : q * v1 * X < (top + 1) * X := by rw [Nat.add_mul, Nat.one_mul]; omega
  have := Nat.lt_of_mul_lt_mul_right h3
  omega
theorem k_dec (hV0 : 0 < V) (hV : V = (v1 * B + v2) * P + vr) (hU : U = (top * B + third) * P + ur) (hur : ur < P) (h : top * B + third < g * (v1 * B + v2)) : U / V < g := by
  have h1 := (k_q (U := U) hV0).1
  generalize U / V = q at h1 ⊢
  generalize v1 * B + v2 = M at hV h
  generalize top * B + third = T at hU h
  have h2 : (T + 1) * P ≤ g * M * P := Nat.mul_le_mul_right _ h
  rw [Nat.add_mul, Nat.one_mul] at h2
  have h3 : g * M * P ≤ g * V := by rw [hV, Nat.mul_add, Nat.mul_assoc]; omega
  have h4 : q * V < g * V := by omega
  exact Nat.lt_of_mul_lt_mul_right h4
theorem k_stop (hV0 : 0 < V) (hV : V = (v1 * B + v2) * P + vr) (hvr : vr < P) (hU : U = (top * B + third) * P + ur) (hv1 : 0 < v1) (hq : U < V * B) (h : g * (v1 * B + v2) ≤ top * B + third) : g ≤ U / V + 1 := by
  have h1 := (k_q (U := U) hV0).2
  have hqB : U / V < B := Nat.div_lt_of_lt_mul hq
  generalize U / V = q at h1 hqB ⊢
  have hMB : B ≤ v1 * B + v2 := by
    have := Nat.mul_le_mul_right B (show 1 ≤ v1 from hv1)
    omega
  generalize v1 * B + v2 = M at hV h hMB
  generalize top * B + third = T at hU h
  rcases Nat.lt_or_ge (q + 1) g with c | c
  · exfalso
    have a1 : (q + 2) * M ≤ g * M := Nat.mul_le_mul_right _ c
    have a2 : (q + 2) * M * P ≤ T * P := Nat.mul_le_mul_right _ (by omega)
    have a3 : (q + 1) * V ≤ (q + 1) * ((M + 1) * P) := Nat.mul_le_mul_left _ (by rw [hV, Nat.add_mul, Nat.one_mul]; omega)
    have a4 : (q + 2) * M * P < (q + 1) * (M + 1) * P := by rw [Nat.mul_assoc (q + 1)]; omega
    have a5 := Nat.lt_of_mul_lt_mul_right a4
    have a6 : (q + 2) * M = (q + 1) * M + M := by grind
    have a7 : (q + 1) * (M + 1) = (q + 1) * M + (q + 1) := by grind
    omega
  · exact c
theorem k_left (hV0 : 0 < V) (hV : V = v1 * X + vl) (hvl : vl < X) (hU : U = top * X + ul) (hg : g ≤ B) (h : g * v1 + B ≤ top) : g ≤ U / V := by
  have a1 : g * V ≤ g * ((v1 + 1) * X) := Nat.mul_le_mul_left _ (by rw [hV, Nat.add_mul, Nat.one_mul]; omega)
  have a2 : g * ((v1 + 1) * X) = (g * v1 + g) * X := by grind
  have a3 : (g * v1 + g) * X ≤ top * X := Nat.mul_le_mul_right _ (by omega)
  rw [Nat.le_div_iff_mul_le hV0]
  omega
theorem k_two (hV0 : 0 < V) (hV : V = v1 * X + vl) (hvl : vl < X) (hU : U = top * X + ul) (hn : B ≤ 2 * v1) (hg : g < B) (h : g * v1 ≤ top) : g ≤ U / V + 2 := by
  have h1 := (k_q (U := U) hV0).2
  generalize U / V = q at h1 ⊢
  rcases Nat.lt_or_ge (q + 2) g with c | c
  · exfalso
    have a1 : (q + 3) * v1 ≤ g * v1 := Nat.mul_le_mul_right _ c
    have a2 : (q + 3) * v1 * X ≤ top * X := Nat.mul_le_mul_right _ (by omega)
    have a3 : (q + 1) * V ≤ (q + 1) * ((v1 + 1) * X) := Nat.mul_le_mul_left _ (by rw [hV, Nat.add_mul, Nat.one_mul]; omega)
    have a4 : (q + 3) * v1 * X < (q + 1) * (v1 + 1) * X := by rw [Nat.mul_assoc (q + 1)]; omega
    have a5 := Nat.lt_of_mul_lt_mul_right a4
    have a6 : (q + 3) * v1 = (q + 1) * v1 + 2 * v1 := by grind
    have a7 : (q + 1) * (v1 + 1) = (q + 1) * v1 + (q + 1) := by grind
    omega
  · exact c
theorem k_topB (hV : V = v1 * X + vl) (hvl : vl < X) (hU : U = top * X + ul) (hq : U < V * B) (hX : 0 < X) : top < (v1 + 1) * B := by
  have a1 : V * B ≤ (v1 + 1) * X * B := Nat.mul_le_mul_right _ (by rw [hV, Nat.add_mul, Nat.one_mul]; omega)
  have a2 : (v1 + 1) * X * B = (v1 + 1) * B * X := by grind
  have a3 : top * X < (v1 + 1) * B * X := by omega
  exact Nat.lt_of_mul_lt_mul_right a3
end KN
