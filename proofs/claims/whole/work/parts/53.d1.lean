/-- digits k of a row from place j on -/
def vd (A : gm_M) (p j n : Nat) : Prop := ∀ k, k < n → A p (j + k) = nI (dg A p (j + k)) ∧ dg A p (j + k) < 2147483648
def wv (A : gm_M) (p j n : Nat) : Nat := ev 2147483648 (fun k => dg A p (j + k)) n
theorem wv_s (A : gm_M) (p j n : Nat) : wv A p j (n + 1) = wv A p j n + dg A p (j + n) * 2147483648 ^ n := rfl
theorem wv_lt {A : gm_M} {p j n : Nat} (h : vd A p j n) : wv A p j n < 2147483648 ^ n := ev_lt (fun k hk => (h k hk).2)
theorem wv_up {A : gm_M} {p j n v : Nat} (hv : v < 2 ^ 31) : wv (gm_up A p (j + n) (nI v)) p j (n + 1) = wv A p j n + v * 2147483648 ^ n := by
  rw [wv_s, dg_at _ _ _ hv]
  congr 1
  exact ev_congr (fun k hk => dg_ne _ _ (by omega))
theorem vd_up {A : gm_M} {p j n v : Nat} (h : vd A p j n) (hv : v < 2147483648) : vd (gm_up A p (j + n) (nI v)) p j (n + 1) := fun k hk => by
  by_cases c : k = n
  · subst c; rw [dg_at _ _ _ (by omega), up_at]; exact ⟨rfl, hv⟩
  · rw [dg_ne _ _ (by omega), up_ne _ _ (by omega)]; exact h k (by omega)
theorem nI_m1 {n : Nat} (h : 1 ≤ n) : nI n - (1 : Int32) = nI (n - 1) := pk_sub h
theorem nI_m2 {n : Nat} (h : 2 ≤ n) : nI n - (2 : Int32) = nI (n - 2) := pk_sub h
section D1
variable {F A : gm_M} {K : Nat → Nat} {j n : Nat}
set_option maxHeartbeats 1000000 in
theorem s_D_guessAt {p q : Int32} (hp : p = nI j) (hq : q = nI n) (hn : 1 ≤ n) (hn2 : n < 68) (hj : j + n < 135) (hu : vd A (K 5) j (n + 1)) (hv : vd A (K 6) 0 n) (hnm : 2147483648 ≤ 2 * dg A (K 6) (n - 1)) (hUV : wv A (K 5) j (n + 1) < wv A (K 6) 0 n * 2147483648) {post : Int64 → Prop} (hr : ∀ g, (g = wv A (K 5) j (n + 1) / wv A (K 6) 0 n ∨ g = wv A (K 5) j (n + 1) / wv A (K 6) 0 n + 1) → g < 2147483648 → post (lN g)) : vc_D_guessAt K p q F A post := by
  subst hp hq
  obtain ⟨t, rfl⟩ : ∃ t, n = t + 1 := ⟨n - 1, by omega⟩
  rw [Nat.add_sub_cancel] at hnm
  have r1 := hv t (by omega)
  rw [Nat.zero_add] at r1
  have u1 := hu (t + 1) (by omega)
  have u0 := hu t (by omega)
  rw [show j + (t + 1) = j + t + 1 by omega] at u1
  unfold vc_D_guessAt
  rw [nI_add, show j + (t + 1) = j + t + 1 by omega, nI_m1 (by omega), Nat.add_sub_cancel, nI_m1 (by omega), Nat.add_sub_cancel]
  refine ⟨pk_in t 68 (by omega), ?_⟩
  rw [nI_clamp (by omega), r1.1, nI_l (by have := r1.2; omega)]
  rintro _ rfl
  obtain ⟨v2, hv2, hv2l, hv20⟩ : ∃ v2, (t = 0 → v2 = 0) ∧ v2 < 2147483648 ∧ (∀ s, t = s + 1 → v2 = dg A (K 6) s) := by
    match t with
    | 0 => exact ⟨0, fun _ => rfl, by decide, fun s h => by omega⟩
    | s + 1 =>
      have := hv s (by omega)
      rw [Nat.zero_add] at this
      exact ⟨dg A (K 6) s, fun h => by omega, this.2, fun s' h => by rw [show s' = s by omega]⟩
  obtain ⟨w3, hw3, hw3l, hw30⟩ : ∃ w3, (t = 0 → w3 = 0) ∧ w3 < 2147483648 ∧ (∀ s, t = s + 1 → w3 = dg A (K 5) (j + s)) := by
    match t with
    | 0 => exact ⟨0, fun _ => rfl, by decide, fun s h => by omega⟩
    | s + 1 => exact ⟨dg A (K 5) (j + s), fun h => by omega, (hu s (by omega)).2, fun s' h => by rw [show s' = s by omega]⟩
  refine ⟨fun w => w = lN v2, pk_le (t + 1) 1 (fun c => by rw [hv2 (by omega)]; rfl) (fun c => ?_), ?_⟩
  · obtain ⟨s, rfl⟩ : ∃ s, t = s + 1 := ⟨t - 1, by omega⟩
    have := hv s (by omega)
    rw [Nat.zero_add] at this
    rw [nI_m2 (by omega), show s + 1 + 1 - 2 = s by omega]
    refine ⟨pk_in s 68 (by omega), ?_⟩
    rw [nI_clamp (by omega), this.1, nI_l (by have := this.2; omega), hv20 s rfl]
  rintro _ rfl
  refine ⟨fun w => w = lN w3, pk_le (t + 1) 1 (fun c => by rw [hw3 (by omega)]; rfl) (fun c => ?_), ?_⟩
  · obtain ⟨s, rfl⟩ : ∃ s, t = s + 1 := ⟨t - 1, by omega⟩
    have := hu s (by omega)
    rw [nI_m2 (by omega), show j + (s + 1) + 1 - 2 = j + s by omega]
    refine ⟨pk_in (j + s) 135 (by omega), ?_⟩
    rw [nI_clamp (by omega), this.1, nI_l (by have := this.2; omega), hw30 s rfl]
  rintro _ rfl
  refine ⟨pk_in (j + t + 1) 135 (by omega), pk_in (j + t) 135 (by omega), ?_⟩
  rw [nI_clamp (by omega), nI_clamp (by omega), u1.1, u0.1]
  -- numbers
  have hXp : 0 < 2147483648 ^ t := Nat.pow_pos (by decide)
  obtain ⟨top, htopE⟩ : ∃ top, top = dg A (K 5) (j + t + 1) * 2147483648 + dg A (K 5) (j + t) := ⟨_, rfl⟩
  have hV : wv A (K 6) 0 (t + 1) = dg A (K 6) t * 2147483648 ^ t + wv A (K 6) 0 t := by rw [wv_s, Nat.zero_add, Nat.add_comm]
  have hvl : wv A (K 6) 0 t < 2147483648 ^ t := wv_lt (fun k hk => hv k (by omega))
  have hU : wv A (K 5) j (t + 1 + 1) = top * 2147483648 ^ t + wv A (K 5) j t := by
    rw [htopE, wv_s, wv_s, show j + (t + 1) = j + t + 1 by omega, Nat.pow_succ]
    grind
  have hul : wv A (K 5) j t < 2147483648 ^ t := wv_lt (fun k hk => hu k (by omega))
  have hV0 : 0 < wv A (K 6) 0 (t + 1) := by
    rw [hV]
    have := Nat.mul_le_mul_right (2147483648 ^ t) (show 1 ≤ dg A (K 6) t by omega)
    omega
  have hqB : wv A (K 5) j (t + 1 + 1) / wv A (K 6) 0 (t + 1) < 2147483648 := Nat.div_lt_of_lt_mul hUV
  have hge := k_ge hV0 hV hU hul
  have h23 : ∀ s, t = s + 1 → ∃ P vr ur, wv A (K 6) 0 (t + 1) = (dg A (K 6) t * 2147483648 + v2) * P + vr ∧ vr < P ∧ wv A (K 5) j (t + 1 + 1) = (top * 2147483648 + w3) * P + ur ∧ ur < P := by
    rintro s rfl
    refine ⟨2147483648 ^ s, wv A (K 6) 0 s, wv A (K 5) j s, ?_, wv_lt (fun k hk => hv k (by omega)), ?_, wv_lt (fun k hk => hu k (by omega))⟩
    · rw [hV, wv_s, Nat.zero_add, hv20 s rfl, Nat.pow_succ]
      grind
    · rw [hU, wv_s, hw30 s rfl, Nat.pow_succ]
      grind
  have hn1 : t = 0 → wv A (K 6) 0 (t + 1) = dg A (K 6) t ∧ wv A (K 5) j (t + 1 + 1) = top := by
    rintro rfl
    have z1 : wv A (K 6) 0 0 = 0 := rfl
    have z2 : wv A (K 5) j 0 = 0 := rfl
    rw [hV, hU, Nat.pow_zero, Nat.mul_one, Nat.mul_one, z1, z2, Nat.add_zero, Nat.add_zero]
    exact ⟨Eq.refl _, Eq.refl _⟩
  have lv1 := r1.2
  have lu1 := u1.2
  have lu0 := u0.2
  generalize hDU : wv A (K 5) j (t + 1 + 1) = U at *
  generalize hDV : wv A (K 6) 0 (t + 1) = V at *
  generalize dg A (K 6) t = v1 at *
  generalize dg A (K 5) (j + t + 1) = d1 at *
  generalize dg A (K 5) (j + t) = d0 at *
  have htop : top < 2 ^ 62 := by omega
  have hv1 : 0 < v1 := by omega
  rw [nI_l (n := d1) (by omega), nI_l (n := d0) (by omega), show j_lshl (lN d1) (31 : Int32) = lN (d1 * 2 ^ 31) from jl_shl d1 31 (by decide), l_or (a := d1 * 2 ^ 31) (b := d0) (by omega) (by omega), or_add (k := 31) (by omega)]
  rw [show d1 * 2 ^ 31 + d0 = top by omega]
  rintro _ rfl
  refine ⟨fun z => by have := (pk_lEQ (a := v1) (b := 0) (by omega) (by omega)).mp z; omega, ?_⟩
  rw [pk_lDiv (by omega) hv1 (by omega)]
  have hdle : top / v1 ≤ top := Nat.div_le_self _ _
  obtain ⟨g0, hg0, hg0B, hg0q, hg0t⟩ : ∃ g0, (if (2147483647 : Int64) < lN (top / v1) then (2147483647 : Int64) else lN (top / v1)) = lN g0 ∧ g0 < 2147483648 ∧ U / V ≤ g0 ∧ g0 * v1 ≤ top := by
    have hq1 : U / V ≤ top / v1 := (Nat.le_div_iff_mul_le hv1).mpr hge
    have hq2 := Nat.div_mul_le_self top v1
    by_cases c : 2147483647 < top / v1
    · refine ⟨2147483647, if_pos ((pk_lLT (a := 2147483647) (by decide) (by omega)).mpr c), by decide, by omega, ?_⟩
      have := Nat.mul_le_mul_right v1 (show 2147483647 ≤ top / v1 by omega)
      omega
    · exact ⟨top / v1, if_neg (fun z => c ((pk_lLT (a := 2147483647) (by decide) (by omega)).mp z)), by omega, hq1, hq2⟩
  rw [hg0]
  rintro _ rfl
  rw [lN_mul, lN_sub hg0t]
  rintro _ rfl
  have htwo := k_two hV0 hV hvl hU hnm hg0B hg0t
  refine ⟨fun x y z => ∃ g c, x = lN g ∧ y = lN (top - g * v1) ∧ z = nI c ∧ g + c = g0 ∧ c ≤ 2 ∧ U / V ≤ g ∧ g * v1 ≤ top, fun _ _ z => 2 - z.toNatClampNeg, ⟨g0, 0, rfl, rfl, rfl, rfl, by decide, hg0q, hg0t⟩, ?_⟩
  rintro _ _ _ ⟨g, c, rfl, rfl, rfl, hgc, hc2, hgq, hgt⟩
  refine pk_le 2 c (fun e => hr g (Or.inl (by omega)) (by omega)) (fun e => ?_)
  refine pl_lt 2147483647 (top - g * v1) (fun e2 => ?_) (fun e2 => ?_)
  · have := k_left (g := g) (B := 2147483648) hV0 hV hvl hU (by omega) (by omega)
    exact hr g (Or.inl (by omega)) (by omega)
  · have hl : top - g * v1 < 2147483648 := by omega
    have hgv : g * v2 ≤ 2147483647 * 2147483647 := Nat.mul_le_mul (by omega) (by omega)
    rw [lN_mul, show j_lshl (lN (top - g * v1)) (31 : Int32) = lN ((top - g * v1) * 2 ^ 31) from jl_shl _ 31 (by decide), l_or (a := (top - g * v1) * 2 ^ 31) (b := w3) (by omega) (by omega), or_add (k := 31) (by omega)]
    have hmul : g * (v1 * 2147483648 + v2) = g * v1 * 2147483648 + g * v2 := by grind
    have hsub : (top - g * v1) * 2 ^ 31 + g * v1 * 2147483648 = top * 2147483648 := by
      rw [show (2 : Nat) ^ 31 = 2147483648 from rfl, ← Nat.add_mul, Nat.sub_add_cancel hgt]
    refine pl_le (g * v2) ((top - g * v1) * 2 ^ 31 + w3) (fun e3 => ?_) (fun e3 => ?_)
    · by_cases c0 : t = 0
      · obtain ⟨h1, h2⟩ := hn1 c0
        have : g ≤ U / V := by rw [h1, h2]; exact (Nat.le_div_iff_mul_le hv1).mpr hgt
        exact hr g (Or.inl (by omega)) (by omega)
      · obtain ⟨P, vr, ur, e4, e5, e6, e7⟩ := h23 (t - 1) (by omega)
        have := k_stop (g := g) (B := 2147483648) hV0 e4 e5 e6 hv1 hUV (by omega)
        exact hr g (by omega) (by omega)
    · have hcmp : top * 2147483648 + w3 < g * (v1 * 2147483648 + v2) := by
        have key : ∀ a b c d e : Nat, a + b = c → a + d < e → c + d < b + e := by intro a b c d e h1 h2; omega
        rw [hmul]
        exact key _ _ _ _ _ hsub e3
      have hdec : U / V < g := by
        by_cases c0 : t = 0
        · rw [hv2 c0, Nat.mul_zero] at e3; exact absurd e3 (Nat.not_lt_zero _)
        · obtain ⟨P, vr, ur, e4, e5, e6, e7⟩ := h23 (t - 1) (by omega)
          exact k_dec (g := g) (B := 2147483648) hV0 e4 e6 e7 hcmp
      have hg1' : 1 ≤ g := Nat.lt_of_le_of_lt (Nat.zero_le _) hdec
      rintro _ rfl _ rfl _ rfl
      have hg1 : (g - 1) * v1 + v1 = g * v1 := by
        obtain ⟨h, rfl⟩ : ∃ h, g = h + 1 := ⟨g - 1, by omega⟩
        rw [Nat.add_sub_cancel, Nat.add_mul, Nat.one_mul]
      refine ⟨⟨g - 1, c + 1, lN_sub (by omega : 1 ≤ g), ?_, nI_s c, by omega, by omega, by omega, by omega⟩, ?_⟩
      · rw [lN_add]; congr 1; omega
      · dsimp only
        rw [nI_s, nI_clamp (by omega), nI_clamp (by omega)]; omega
end D1
