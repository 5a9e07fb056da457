theorem l_m16Z {z : Int} {w : Nat} (hw : z % 65536 = (w : Int)) : (lZ z &&& (65535 : Int64)).toInt32 = nI w := by
  rw [lZ_mask z 16 _ (by decide) (by decide), show z % 2 ^ 16 = (w : Int) from hw, lZ_i, iZ_nI]
theorem l_s16Z {z : Int} {b : Nat} (h1 : -9223372036854775808 ≤ z) (h2 : z < 9223372036854775808) (hb : z / 65536 = -(b : Int)) : j_lshr (lZ z) (16 : Int32) = lZ (-(b : Int)) := by
  rw [show j_lshr (lZ z) (16 : Int32) = lZ (z / 2 ^ 16) from jl_shr 16 h1 h2 (by decide), show z / 2 ^ 16 = -(b : Int) from hb]
section M4
variable {A_9 : gm_M} {K : Nat → Nat} {a1 n1 a5 n5 j m : Nat}
set_option maxHeartbeats 1000000 in
theorem md_sub {g : Nat} {R0 R1 : gm_M → Prop} (hg : g < 65536) (hj : j + m < n1) (hn : n1 ≤ 9000) (h6 : K 60 ≠ a1) (hu : ve A_9 a1 j (m + 1)) (hv : ve A_9 (K 60) 0 m) (hr : ∀ A', st A_9 A' a1 j (m + 1) → ve A' a1 j (m + 1) → (g * we A_9 (K 60) 0 m ≤ we A_9 a1 j (m + 1) → we A' a1 j (m + 1) + g * we A_9 (K 60) 0 m = we A_9 a1 j (m + 1) → R0 A') ∧ (we A_9 a1 j (m + 1) < g * we A_9 (K 60) 0 m → we A' a1 j (m + 1) + g * we A_9 (K 60) 0 m = we A_9 a1 j (m + 1) + 65536 ^ (m + 1) → R1 A')) :
    ∃ (I_391 : Int64 → Int32 → gm_M → Prop) (μ_391 : Int64 → Int32 → gm_M → Nat), I_391 (0 : Int64) (0 : Int32) A_9 ∧ ∀ (x14_23 : Int64) (x16_23 : Int32) (A_23 : gm_M), I_391 x14_23 x16_23 A_23 →
      ((nI m ≤ x16_23 →
        (vp_in (nI j + nI m) n1) ∧
        ∀ x14_24 : Int64, x14_24 = (x14_23 + ((A_23 a1 (nI j + nI m).toNatClampNeg).toInt64)) →
        (vp_in (nI j + nI m) n1) ∧ ∀ A_25 : gm_M, A_25 = gm_up A_23 a1 (nI j + nI m).toNatClampNeg ((x14_24 &&& (65535 : Int64)).toInt32) →
        (((0 : Int64) ≤ x14_24 → R0 A_25) ∧ (¬ (0 : Int64) ≤ x14_24 → R1 A_25))
      ) ∧ (¬ nI m ≤ x16_23 →
        (vp_in (nI j + x16_23) n1) ∧
        (vp_in x16_23 9000) ∧
        ∀ x14_37 : Int64, x14_37 = (x14_23 + (((A_23 a1 (nI j + x16_23).toNatClampNeg).toInt64) - (lN g * ((A_23 (K 60) x16_23.toNatClampNeg).toInt64)))) →
        (vp_in (nI j + x16_23) n1) ∧ ∀ A_38 : gm_M, A_38 = gm_up A_23 a1 (nI j + x16_23).toNatClampNeg ((x14_37 &&& (65535 : Int64)).toInt32) →
        ∀ x14_39 : Int64, x14_39 = (j_lshr x14_37 (16 : Int32)) →
        ∀ x16_40 : Int32, x16_40 = x16_23 + (1 : Int32) →
        I_391 x14_39 x16_40 A_38 ∧ μ_391 x14_39 x16_40 A_38 < μ_391 x14_23 x16_23 A_23
      )) := by
  refine ⟨fun y x A1 => ∃ i b : Nat, y = lZ (-(b : Int)) ∧ x = nI i ∧ i ≤ m ∧ b < 65536 ∧ st A_9 A1 a1 j i ∧ ve A1 a1 j i ∧ we A1 a1 j i + g * we A_9 (K 60) 0 i = we A_9 a1 j i + b * 65536 ^ i, fun _ x _ => m - x.toNatClampNeg, ⟨0, 0, rfl, rfl, Nat.zero_le _, by decide, st.rf, fun k hk => absurd hk (Nat.not_lt_zero _), by simp only [we, ev, Nat.mul_zero, Nat.zero_mul]⟩, ?_⟩
  rintro _ _ A1 ⟨i, b, rfl, rfl, hi, hb, hs, hd, he⟩
  refine pk_le m i (fun e => ?_) (fun e => ?_)
  · have : i = m := by omega
    subst this
    have r := hu i (by omega)
    rw [nI_add]
    refine ⟨pk_in (j + i) n1 (by omega), ?_⟩
    rw [nI_clamp (by omega), hs.2 (j + i) (by omega), r.1]
    have hsA := we_s A_9 a1 j i
    have hlt := we_lt hd
    have lD := r.2
    generalize dg A_9 a1 (j + i) = D at lD hsA ⊢
    rw [nI_l (n := D) (by omega), lZ_lN D, lZ_add]
    rintro _ rfl
    refine ⟨pk_in (j + i) n1 (by omega), ?_⟩
    by_cases c : b ≤ D
    · rw [l_m16Z (w := D - b) (by omega)]
      rintro _ rfl
      have hw := we_up (A := A1) (p := a1) (j := j) (n := i) (v := D - b) (by omega)
      have hm : (D - b + b) * 65536 ^ i = D * 65536 ^ i := by rw [Nat.sub_add_cancel c]
      rw [Nat.add_mul] at hm
      obtain ⟨r1, -⟩ := hr _ (hs.up (nI (D - b)) (by omega) (by omega)) (ve_up hd (by omega))
      refine ⟨fun _ => r1 (by omega) (by omega), fun z => absurd ?_ z⟩
      rw [Int64.le_iff_toInt_le, lZ_t (by omega) (by omega)]
      show 0 ≤ _
      omega
    · obtain ⟨w, hw0⟩ : ∃ w, w + b = D + 65536 := ⟨65536 - (b - D), by omega⟩
      rw [l_m16Z (w := w) (by omega)]
      rintro _ rfl
      have hw := we_up (A := A1) (p := a1) (j := j) (n := i) (v := w) (by omega)
      have hm : (w + b) * 65536 ^ i = (D + 65536) * 65536 ^ i := by rw [hw0]
      rw [Nat.add_mul, Nat.add_mul] at hm
      have hps : 65536 ^ (i + 1) = 65536 * 65536 ^ i := by rw [Nat.pow_succ, Nat.mul_comm]
      have hbD : (D + 1) * 65536 ^ i ≤ b * 65536 ^ i := Nat.mul_le_mul_right _ (by omega)
      rw [Nat.add_mul, Nat.one_mul] at hbD
      obtain ⟨-, r2⟩ := hr _ (hs.up (nI w) (by omega) (by omega)) (ve_up hd (by omega))
      refine ⟨fun z => absurd ?_ c, fun _ => r2 (by omega) (by omega)⟩
      rw [Int64.le_iff_toInt_le, lZ_t (by omega) (by omega)] at z
      have z : 0 ≤ -(b : Int) + D := z
      omega
  · have r := hu i (by omega)
    have rv := hv i e
    rw [Nat.zero_add] at rv
    rw [nI_add]
    refine ⟨pk_in (j + i) n1 (by omega), pk_in i 9000 (by omega), ?_⟩
    rw [nI_clamp (by omega), nI_clamp (by omega), hs.2 (j + i) (by omega), r.1, hs.1 (K 60) h6, rv.1]
    have hsA := we_s A_9 a1 j i
    have hsV := we_s A_9 (K 60) 0 i
    rw [Nat.zero_add] at hsV
    have lD := r.2
    have lV := rv.2
    generalize dg A_9 a1 (j + i) = D at lD hsA ⊢
    generalize dg A_9 (K 60) i = V at lV hsV ⊢
    have hgv : g * V ≤ 65535 * 65535 := Nat.mul_le_mul (by omega) (by omega)
    rw [nI_l (n := D) (by omega), nI_l (n := V) (by omega), lN_mul, lZ_lN D, lZ_lN (g * V), lZ_sub, lZ_add]
    rintro _ rfl
    refine ⟨pk_in (j + i) n1 (by omega), ?_⟩
    obtain ⟨w, b', hwl, hb', hwe⟩ : ∃ w b' : Nat, w < 65536 ∧ b' < 65536 ∧ w + g * V + b = D + 65536 * b' := by
      refine ⟨((-(b : Int) + ((D : Int) - ((g * V : Nat) : Int))) % 65536).toNat, (-((-(b : Int) + ((D : Int) - ((g * V : Nat) : Int))) / 65536)).toNat, ?_, ?_, ?_⟩ <;> omega
    rw [l_m16Z (w := w) (by omega), l_s16Z (b := b') (by omega) (by omega) (by omega)]
    rintro _ rfl _ rfl _ rfl
    refine ⟨⟨i + 1, b', rfl, nI_s i, by omega, hb', hs.up _ (by omega) (by omega), ve_up hd hwl, ?_⟩, ?_⟩
    · rw [we_up (by omega), hsA, hsV]
      have hm : (w + g * V + b) * 65536 ^ i = (D + 65536 * b') * 65536 ^ i := by rw [hwe]
      rw [Nat.pow_succ]
      generalize 65536 ^ i = X at *
      grind
    · dsimp only
      rw [nI_s, nI_clamp (by omega), nI_clamp (by omega)]; omega
set_option maxHeartbeats 1000000 in
theorem md_add {W : Nat} {R : gm_M → Prop} (hj : j + m < n1) (hn : n1 ≤ 9000) (h6 : K 60 ≠ a1) (hu : ve A_9 a1 j (m + 1)) (hv : ve A_9 (K 60) 0 m) (hW : we A_9 a1 j (m + 1) + we A_9 (K 60) 0 m = W + 65536 ^ (m + 1)) (hR : W < 65536 ^ m) (hr : ∀ A', st A_9 A' a1 j (m + 1) → ve A' a1 j (m + 1) → we A' a1 j (m + 1) = W → R A') :
    ∃ (I_496 : Int32 → Int32 → gm_M → Prop) (μ_496 : Int32 → Int32 → gm_M → Nat), I_496 (0 : Int32) (0 : Int32) A_9 ∧ ∀ (x16_29 : Int32) (x17_29 : Int32) (A_29 : gm_M), I_496 x16_29 x17_29 A_29 →
      ((nI m ≤ x17_29 →
        (vp_in (nI j + nI m) n1) ∧
        (vp_in (nI j + nI m) n1) ∧ ∀ A_30 : gm_M, A_30 = gm_up A_29 a1 (nI j + nI m).toNatClampNeg (((A_29 a1 (nI j + nI m).toNatClampNeg) + x16_29) &&& (65535 : Int32)) →
        R A_30
      ) ∧ (¬ nI m ≤ x17_29 →
        (vp_in (nI j + x17_29) n1) ∧
        (vp_in x17_29 9000) ∧
        ∀ x16_33 : Int32, x16_33 = (x16_29 + ((A_29 a1 (nI j + x17_29).toNatClampNeg) + (A_29 (K 60) x17_29.toNatClampNeg))) →
        (vp_in (nI j + x17_29) n1) ∧ ∀ A_34 : gm_M, A_34 = gm_up A_29 a1 (nI j + x17_29).toNatClampNeg (x16_33 &&& (65535 : Int32)) →
        ∀ x16_35 : Int32, x16_35 = (x16_33 >>> ((16 : Int32) &&& 31)) →
        ∀ x17_36 : Int32, x17_36 = x17_29 + (1 : Int32) →
        I_496 x16_35 x17_36 A_34 ∧ μ_496 x16_35 x17_36 A_34 < μ_496 x16_29 x17_29 A_29
      )) := by
  refine ⟨fun y x A1 => ∃ i b, y = nI b ∧ x = nI i ∧ i ≤ m ∧ b ≤ 1 ∧ st A_9 A1 a1 j i ∧ ve A1 a1 j i ∧ we A1 a1 j i + b * 65536 ^ i = we A_9 a1 j i + we A_9 (K 60) 0 i, fun _ x _ => m - x.toNatClampNeg, ⟨0, 0, rfl, rfl, Nat.zero_le _, by decide, st.rf, fun k hk => absurd hk (Nat.not_lt_zero _), by simp only [we, ev, Nat.zero_mul]⟩, ?_⟩
  rintro _ _ A1 ⟨i, b, rfl, rfl, hi, hb, hs, hd, he⟩
  refine pk_le m i (fun e => ?_) (fun e => ?_)
  · have : i = m := by omega
    subst this
    have r := hu i (by omega)
    rw [nI_add]
    refine ⟨pk_in (j + i) n1 (by omega), pk_in (j + i) n1 (by omega), ?_⟩
    rw [nI_clamp (by omega), hs.2 (j + i) (by omega), r.1]
    have hsA := we_s A_9 a1 j i
    have hlt := we_lt hd
    have lD := r.2
    generalize dg A_9 a1 (j + i) = D at lD hsA ⊢
    rw [nI_add, i_m16 (by omega)]
    rintro _ rfl
    have hps : 65536 ^ (i + 1) = 65536 * 65536 ^ i := by rw [Nat.pow_succ, Nat.mul_comm]
    have key : we A1 a1 j i + (D + b) * 65536 ^ i = W + 65536 * 65536 ^ i := by
      rw [Nat.add_mul]; omega
    have hpp : 0 < 65536 ^ i := Nat.pow_pos (by decide)
    have hDb : D + b = 65536 := by
      rcases Nat.lt_trichotomy (D + b) 65536 with c | c | c
      · have := Nat.mul_le_mul_right (65536 ^ i) (show D + b + 1 ≤ 65536 from c)
        rw [Nat.add_mul, Nat.one_mul] at this
        omega
      · exact c
      · have := Nat.mul_le_mul_right (65536 ^ i) (show 65536 + 1 ≤ D + b from c)
        rw [Nat.add_mul, Nat.one_mul] at this
        omega
    rw [hDb] at key ⊢
    refine hr _ (hs.up _ (by omega) (by omega)) (ve_up hd (by decide)) ?_
    rw [we_up (by decide), show 65536 % 65536 = 0 from rfl, Nat.zero_mul, Nat.add_zero]
    omega
  · have r := hu i (by omega)
    have rv := hv i e
    rw [Nat.zero_add] at rv
    rw [nI_add]
    refine ⟨pk_in (j + i) n1 (by omega), pk_in i 9000 (by omega), ?_⟩
    rw [nI_clamp (by omega), nI_clamp (by omega), hs.2 (j + i) (by omega), r.1, hs.1 (K 60) h6, rv.1]
    have hsA := we_s A_9 a1 j i
    have hsV := we_s A_9 (K 60) 0 i
    rw [Nat.zero_add] at hsV
    have lD := r.2
    have lV := rv.2
    generalize dg A_9 a1 (j + i) = D at lD hsA ⊢
    generalize dg A_9 (K 60) i = V at lV hsV ⊢
    rw [nI_add, nI_add]
    rintro _ rfl
    refine ⟨pk_in (j + i) n1 (by omega), ?_⟩
    rw [i_m16 (by omega), i_s16 (by omega)]
    rintro _ rfl _ rfl _ rfl
    refine ⟨⟨i + 1, (b + (D + V)) / 65536, rfl, nI_s i, by omega, by omega, hs.up _ (by omega) (by omega), ve_up hd (by omega), ?_⟩, ?_⟩
    · rw [we_up (by omega), hsA, hsV]
      have := ev_car 65536 i (b + (D + V))
      rw [Nat.add_mul, Nat.add_mul] at this
      omega
    · dsimp only
      rw [nI_s, nI_clamp (by omega), nI_clamp (by omega)]; omega
end M4
