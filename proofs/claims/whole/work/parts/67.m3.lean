def ve (A : gm_M) (p j n : Nat) : Prop := ∀ k, k < n → A p (j + k) = nI (dg A p (j + k)) ∧ dg A p (j + k) < 65536
def we (A : gm_M) (p j n : Nat) : Nat := ev 65536 (fun k => dg A p (j + k)) n
theorem we_s (A : gm_M) (p j n : Nat) : we A p j (n + 1) = we A p j n + dg A p (j + n) * 65536 ^ n := rfl
theorem we_lt {A : gm_M} {p j n : Nat} (h : ve A p j n) : we A p j n < 65536 ^ n := ev_lt (fun k hk => (h k hk).2)
theorem we_up {A : gm_M} {p j n v : Nat} (hv : v < 2 ^ 31) : we (gm_up A p (j + n) (nI v)) p j (n + 1) = we A p j n + v * 65536 ^ n := by
  rw [we_s, dg_at _ _ _ hv]
  congr 1
  exact ev_congr (fun k hk => dg_ne _ _ (by omega))
theorem ve_up {A : gm_M} {p j n v : Nat} (h : ve A p j n) (hv : v < 65536) : ve (gm_up A p (j + n) (nI v)) p j (n + 1) := fun k hk => by
  by_cases c : k = n
  · subst c; rw [dg_at _ _ _ (by omega), up_at]; exact ⟨rfl, hv⟩
  · rw [dg_ne _ _ (by omega), up_ne _ _ (by omega)]; exact h k (by omega)
section M3
variable {A_9 : gm_M} {K : Nat → Nat} {a1 n1 j m : Nat}
set_option maxHeartbeats 1000000 in
theorem md_guess {REST : Int64 → Prop} (hm : 2 ≤ m) (hj : j + m < n1) (hn : n1 ≤ 9000) (hu : ve A_9 a1 j (m + 1)) (hv : ve A_9 (K 60) 0 m) (hnm : 65536 ≤ 2 * dg A_9 (K 60) (m - 1)) (hUV : we A_9 a1 j (m + 1) < we A_9 (K 60) 0 m * 65536) (hr : ∀ g, (g = we A_9 a1 j (m + 1) / we A_9 (K 60) 0 m ∨ g = we A_9 a1 j (m + 1) / we A_9 (K 60) 0 m + 1) → g < 65536 → REST (lN g)) :
    (vp_in (nI j + nI m) n1) ∧
    (vp_in ((nI j + nI m) - (1 : Int32)) n1) ∧
    ∀ x8_18 : Int64, x8_18 = ((j_lshl ((A_9 a1 (nI j + nI m).toNatClampNeg).toInt64) (16 : Int32)) ||| ((A_9 a1 ((nI j + nI m) - (1 : Int32)).toNatClampNeg).toInt64)) →
    (vp_in (nI m - (1 : Int32)) 9000) ∧
    (¬ ((A_9 (K 60) (nI m - (1 : Int32)).toNatClampNeg).toInt64) = 0) ∧
    ∀ x10_19 : Int64, x10_19 = (x8_18 / ((A_9 (K 60) (nI m - (1 : Int32)).toNatClampNeg).toInt64)) →
    (vp_in (nI m - (1 : Int32)) 9000) ∧
    (¬ ((A_9 (K 60) (nI m - (1 : Int32)).toNatClampNeg).toInt64) = 0) ∧
    ∀ x12_20 : Int64, x12_20 = (x8_18 - x8_18 / ((A_9 (K 60) (nI m - (1 : Int32)).toNatClampNeg).toInt64) * ((A_9 (K 60) (nI m - (1 : Int32)).toNatClampNeg).toInt64)) →
    ∃ (I_310 : Int64 → Int64 → Prop) (μ_310 : Int64 → Int64 → Nat), I_310 x10_19 x12_20 ∧ ∀ (x10_21 : Int64) (x12_21 : Int64), I_310 x10_21 x12_21 →
      ∃ (J_385 : Int64 → Prop), (
        ∃ (J_352 : Prop), (
          (((65535 : Int64) < x10_21 →
            J_352
          ) ∧ (¬ (65535 : Int64) < x10_21 →
            (vp_in (nI m - (2 : Int32)) 9000) ∧
            (vp_in ((nI j + nI m) - (2 : Int32)) n1) ∧
            (((x10_21 * ((A_9 (K 60) (nI m - (2 : Int32)).toNatClampNeg).toInt64)) ≤ ((j_lshl x12_21 (16 : Int32)) ||| ((A_9 a1 ((nI j + nI m) - (2 : Int32)).toNatClampNeg).toInt64)) →
              J_385 x10_21
            ) ∧ (¬ (x10_21 * ((A_9 (K 60) (nI m - (2 : Int32)).toNatClampNeg).toInt64)) ≤ ((j_lshl x12_21 (16 : Int32)) ||| ((A_9 a1 ((nI j + nI m) - (2 : Int32)).toNatClampNeg).toInt64)) →
              J_352
            ))
          ))
        ) ∧ ((J_352 →
          ∀ x10_42 : Int64, x10_42 = (x10_21 - (1 : Int64)) →
          (vp_in (nI m - (1 : Int32)) 9000) ∧
          ∀ x12_43 : Int64, x12_43 = (x12_21 + ((A_9 (K 60) (nI m - (1 : Int32)).toNatClampNeg).toInt64)) →
          ((x12_43 ≤ (65535 : Int64) →
            I_310 x10_42 x12_43 ∧ μ_310 x10_42 x12_43 < μ_310 x10_21 x12_21
          ) ∧ (¬ x12_43 ≤ (65535 : Int64) →
            J_385 x10_42
          ))
        ))
      ) ∧ ((∀ (x10_22 : Int64), J_385 x10_22 → REST x10_22)) := by
  obtain ⟨s, rfl⟩ : ∃ s, m = s + 2 := ⟨m - 2, by omega⟩
  rw [show s + 2 - 1 = s + 1 by omega] at hnm
  have v1r := hv (s + 1) (by omega)
  have v2r := hv s (by omega)
  rw [Nat.zero_add] at v1r v2r
  have u1r := hu (s + 2) (by omega)
  have u0r := hu (s + 1) (by omega)
  have w3r := hu s (by omega)
  rw [nI_add, nI_m1 (by omega), nI_m2 (by omega), nI_m1 (by omega), nI_m2 (by omega), show j + (s + 2) - 1 = j + (s + 1) by omega, show j + (s + 2) - 2 = j + s by omega, show s + 2 - 1 = s + 1 by omega, show s + 2 - 2 = s by omega]
  rw [nI_clamp (n := j + (s + 2)) (by omega), nI_clamp (n := j + (s + 1)) (by omega), nI_clamp (n := j + s) (by omega), nI_clamp (n := s + 1) (by omega), nI_clamp (n := s) (by omega), u1r.1, u0r.1, w3r.1, v1r.1, v2r.1]
  have hXp : 0 < 65536 ^ (s + 1) := Nat.pow_pos (by decide)
  obtain ⟨top, htopE⟩ : ∃ top, top = dg A_9 a1 (j + (s + 2)) * 65536 + dg A_9 a1 (j + (s + 1)) := ⟨_, rfl⟩
  have hV : we A_9 (K 60) 0 (s + 2) = dg A_9 (K 60) (s + 1) * 65536 ^ (s + 1) + we A_9 (K 60) 0 (s + 1) := by rw [we_s, Nat.zero_add, Nat.add_comm]
  have hvl : we A_9 (K 60) 0 (s + 1) < 65536 ^ (s + 1) := we_lt (fun k hk => hv k (by omega))
  have hU : we A_9 a1 j (s + 2 + 1) = top * 65536 ^ (s + 1) + we A_9 a1 j (s + 1) := by
    rw [htopE, we_s, we_s, Nat.pow_succ]
    grind
  have hul : we A_9 a1 j (s + 1) < 65536 ^ (s + 1) := we_lt (fun k hk => hu k (by omega))
  have hV0 : 0 < we A_9 (K 60) 0 (s + 2) := by
    rw [hV]
    have := Nat.mul_le_mul_right (65536 ^ (s + 1)) (show 1 ≤ dg A_9 (K 60) (s + 1) by omega)
    omega
  have hqB : we A_9 a1 j (s + 2 + 1) / we A_9 (K 60) 0 (s + 2) < 65536 := Nat.div_lt_of_lt_mul hUV
  have hge := k_ge hV0 hV hU hul
  have htB := k_topB hV hvl hU hUV hXp
  have e4 : we A_9 (K 60) 0 (s + 2) = (dg A_9 (K 60) (s + 1) * 65536 + dg A_9 (K 60) s) * 65536 ^ s + we A_9 (K 60) 0 s := by
    rw [hV, we_s, Nat.zero_add, Nat.pow_succ]; grind
  have e5 : we A_9 (K 60) 0 s < 65536 ^ s := we_lt (fun k hk => hv k (by omega))
  have e6 : we A_9 a1 j (s + 2 + 1) = (top * 65536 + dg A_9 a1 (j + s)) * 65536 ^ s + we A_9 a1 j s := by
    rw [hU, we_s, Nat.pow_succ]; grind
  have e7 : we A_9 a1 j s < 65536 ^ s := we_lt (fun k hk => hu k (by omega))
  have lv1 := v1r.2
  have lv2 := v2r.2
  have lu1 := u1r.2
  have lu0 := u0r.2
  have lw3 := w3r.2
  generalize we A_9 a1 j (s + 2 + 1) = U at *
  generalize we A_9 (K 60) 0 (s + 2) = V at *
  generalize dg A_9 (K 60) (s + 1) = v1 at *
  generalize dg A_9 (K 60) s = v2 at *
  generalize dg A_9 a1 (j + (s + 2)) = d1 at *
  generalize dg A_9 a1 (j + (s + 1)) = d0 at *
  generalize dg A_9 a1 (j + s) = w3 at *
  have hv1 : 0 < v1 := by omega
  have htop : top < 2 ^ 32 := by omega
  refine ⟨pk_in (j + (s + 2)) n1 hj, pk_in (j + (s + 1)) n1 (by omega), ?_⟩
  rw [nI_l (n := d1) (by omega), nI_l (n := d0) (by omega), l_mk16 (by omega) lu0, ← htopE, nI_l (n := v1) (by omega), nI_l (n := v2) (by omega), nI_l (n := w3) (by omega)]
  have hne : ¬ lN v1 = 0 := fun z => by have := (pk_lEQ (a := v1) (b := 0) (by omega) (by omega)).mp z; omega
  rintro _ rfl
  refine ⟨pk_in (s + 1) 9000 (by omega), hne, ?_⟩
  rw [pk_lDiv (by omega) hv1 (by omega)]
  rintro _ rfl
  refine ⟨pk_in (s + 1) 9000 (by omega), hne, ?_⟩
  have hdle : top / v1 ≤ top := Nat.div_le_self _ _
  have hdm := Nat.div_add_mod top v1
  have hdl := Nat.mod_lt top hv1
  have hq1 : U / V ≤ top / v1 := (Nat.le_div_iff_mul_le hv1).mpr hge
  rw [← pk_lDiv (by omega) hv1 (by omega), pk_lRem (by omega) hv1 (by omega)]
  rintro _ rfl
  rw [pk_lDiv (by omega) hv1 (by omega)]
  generalize top / v1 = g0 at *
  generalize top % v1 = l0 at *
  refine ⟨fun x y => ∃ g l, x = lN g ∧ y = lN l ∧ g * v1 + l = top ∧ l < 65536 ∧ U / V ≤ g ∧ g ≤ top, fun x _ => x.toInt.toNat, ⟨g0, l0, rfl, rfl, by rw [Nat.mul_comm]; exact hdm, by omega, hq1, hdle⟩, ?_⟩
  rintro _ _ ⟨g, l, rfl, rfl, hgl, hl, hgq, hgt⟩
  refine ⟨fun x => ∃ g, x = lN g ∧ (g = U / V ∨ g = U / V + 1) ∧ g < 65536, ⟨U / V < g, ?_, fun hlt => ?_⟩, ?_⟩
  · refine pl_lt 65535 g (fun c => by omega) (fun c => ⟨pk_in s 9000 (by omega), pk_in (j + s) n1 (by omega), ?_⟩)
    have hgv : g * v2 ≤ 65535 * 65535 := Nat.mul_le_mul (by omega) (by omega)
    rw [lN_mul, l_mk16 (by omega) lw3]
    have hmul : g * (v1 * 65536 + v2) = g * v1 * 65536 + g * v2 := by grind
    have hsub : l * 65536 + g * v1 * 65536 = top * 65536 := by rw [← Nat.add_mul, Nat.add_comm, hgl]
    refine pl_le (g * v2) (l * 65536 + w3) (fun c2 => ?_) (fun c2 => ?_)
    · have key : g * (v1 * 65536 + v2) ≤ top * 65536 + w3 := by
        rw [hmul, ← hsub, Nat.add_comm (l * 65536) (g * v1 * 65536), Nat.add_assoc]
        exact Nat.add_le_add_left c2 _
      have := k_stop (g := g) (B := 65536) hV0 e4 e5 e6 hv1 hUV key
      exact ⟨g, rfl, by omega, by omega⟩
    · have key : top * 65536 + w3 < g * (v1 * 65536 + v2) := by
        rw [hmul, ← hsub, Nat.add_comm (l * 65536) (g * v1 * 65536), Nat.add_assoc]
        exact Nat.add_lt_add_left c2 _
      exact k_dec (g := g) (B := 65536) hV0 e4 e6 e7 key
  · have hg1' : 1 ≤ g := Nat.lt_of_le_of_lt (Nat.zero_le _) hlt
    have hg1 : (g - 1) * v1 + v1 = g * v1 := by
      obtain ⟨h, rfl⟩ : ∃ h, g = h + 1 := ⟨g - 1, by omega⟩
      rw [Nat.add_sub_cancel, Nat.add_mul, Nat.one_mul]
    rintro _ rfl
    refine ⟨pk_in (s + 1) 9000 (by omega), ?_⟩
    rw [lN_add, show lN g - (1 : Int64) = lN (g - 1) from lN_sub (by omega : 1 ≤ g)]
    rintro _ rfl
    refine pl_le (l + v1) 65535 (fun c => ⟨⟨g - 1, l + v1, rfl, rfl, by omega, by omega, by omega, by omega⟩, ?_⟩) (fun c => ?_)
    · dsimp only
      rw [pk_lT (by omega), pk_lT (by omega)]; omega
    · have a1 : (g - 1) * v1 + 65536 ≤ top := by omega
      have hgB : g - 1 < 65536 := by
        have : (g - 1) * v1 < 65536 * v1 := by
          rw [Nat.add_mul, Nat.one_mul, Nat.mul_comm v1] at htB
          omega
        exact Nat.lt_of_mul_lt_mul_right this
      have := k_left (g := g - 1) (B := 65536) hV0 hV hvl hU (by omega) a1
      exact ⟨g - 1, rfl, by omega, hgB⟩
  · rintro _ ⟨g, rfl, h1, h2⟩
    exact hr g h1 h2
end M3
