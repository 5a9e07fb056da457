section D2
variable {F A : gm_M} {K : Nat → Nat} {j n : Nat}
/-- what stays: other rows, and the row's places outside j .. j + n -/
def st (A A' : gm_M) (p j n : Nat) : Prop := (∀ b, b ≠ p → A' b = A b) ∧ ∀ m, m < j ∨ j + n ≤ m → A' p m = A p m
theorem st.rf {A : gm_M} {p j n : Nat} : st A A p j n := ⟨fun _ _ => rfl, fun _ _ => rfl⟩
theorem st.up {A A' : gm_M} {p j n k : Nat} (h : st A A' p j n) (x : Int32) (h1 : j ≤ k) (h2 : k < j + (n + 1)) : st A (gm_up A' p k x) p j (n + 1) := ⟨fun b hb => by rw [gm_off hb]; exact h.1 b hb, fun m hm => by rw [up_ne _ _ (by omega)]; exact h.2 m (by omega)⟩
theorem st.mono {A A' : gm_M} {p j n k : Nat} (h : st A A' p j n) (hk : n ≤ k) : st A A' p j k := ⟨h.1, fun m hm => h.2 m (by omega)⟩
theorem st.trans {A A' A'' : gm_M} {p j n : Nat} (h : st A A' p j n) (h' : st A' A'' p j n) : st A A'' p j n := ⟨fun b hb => by rw [h'.1 b hb, h.1 b hb], fun m hm => by rw [h'.2 m hm, h.2 m hm]⟩
theorem neg_shr {z : Int} {b : Nat} (h1 : -9223372036854775808 ≤ z) (h2 : z < 9223372036854775808) (hb : z / 2147483648 = -(b : Int)) : -(j_lshr (lZ z) (31 : Int32)) = lN b := by
  rw [show j_lshr (lZ z) (31 : Int32) = lZ (z / 2 ^ 31) from jl_shr 31 h1 h2 (by decide), show z / 2 ^ 31 = -(b : Int) from hb, lZ_neg, Int.neg_neg, lZ_lN]
theorem l_m31Z {z : Int} {w : Nat} (hw : z % 2147483648 = (w : Int)) : (lZ z &&& (2147483647 : Int64)).toInt32 = nI w := by
  rw [lZ_mask z 31 _ (by decide) (by decide), show z % 2 ^ 31 = (w : Int) from hw, lZ_i, iZ_nI]
set_option maxHeartbeats 1000000 in
theorem s_D_takeAway {g : Nat} {o : Int64} {p q : Int32} (ho : o = lN g) (hg : g < 2147483648) (hp : p = nI j) (hq : q = nI n) (hn2 : n < 68) (hj : j + n < 135) (h56 : K 6 ≠ K 5) (hu : vd A (K 5) j (n + 1)) (hv : vd A (K 6) 0 n) {post : Int32 → gm_M → Prop} (hr : ∀ A', st A A' (K 5) j (n + 1) → vd A' (K 5) j (n + 1) → (g * wv A (K 6) 0 n ≤ wv A (K 5) j (n + 1) → wv A' (K 5) j (n + 1) + g * wv A (K 6) 0 n = wv A (K 5) j (n + 1) → post 0 A') ∧ (wv A (K 5) j (n + 1) < g * wv A (K 6) 0 n → wv A' (K 5) j (n + 1) + g * wv A (K 6) 0 n = wv A (K 5) j (n + 1) + 2147483648 ^ (n + 1) → post 1 A')) : vc_D_takeAway K o p q F A post := by
  subst ho hp hq
  unfold vc_D_takeAway
  refine ⟨fun y x A1 => ∃ i b, y = lN b ∧ x = nI i ∧ i ≤ n ∧ b < 2147483648 ∧ st A A1 (K 5) j i ∧ vd A1 (K 5) j i ∧ wv A1 (K 5) j i + g * wv A (K 6) 0 i = wv A (K 5) j i + b * 2147483648 ^ i, fun _ x _ => n - x.toNatClampNeg, ⟨0, 0, rfl, rfl, Nat.zero_le _, by decide, st.rf, fun k hk => absurd hk (Nat.not_lt_zero _), by simp only [wv, ev, Nat.mul_zero, Nat.zero_mul]⟩, ?_⟩
  rintro _ _ A1 ⟨i, b, rfl, rfl, hi, hb, hs, hd, he⟩
  refine pk_le n i (fun e => ?_) (fun e => ?_)
  · have : i = n := by omega
    subst this
    have r := hu i (by omega)
    rw [nI_add]
    refine ⟨pk_in (j + i) 135 (by omega), ?_⟩
    rw [nI_clamp (by omega), hs.2 (j + i) (by omega), r.1]
    have hsA := wv_s A (K 5) j i
    have hlt := wv_lt hd
    have lD := r.2
    generalize dg A (K 5) (j + i) = D at lD hsA ⊢
    rw [nI_l (n := D) (by omega), lZ_lN D, lZ_lN b, lZ_sub]
    rintro _ rfl
    refine ⟨pk_in (j + i) 135 (by omega), ?_⟩
    by_cases c : b ≤ D
    · rw [l_m31Z (w := D - b) (by omega)]
      rintro _ rfl
      have hw := wv_up (A := A1) (p := K 5) (j := j) (n := i) (v := D - b) (by omega)
      have hm : (D - b + b) * 2147483648 ^ i = D * 2147483648 ^ i := by rw [Nat.sub_add_cancel c]
      rw [Nat.add_mul] at hm
      obtain ⟨r1, -⟩ := hr _ (hs.up (nI (D - b)) (by omega) (by omega)) (vd_up hd (by omega))
      refine ⟨fun _ => r1 (by omega) (by omega), fun z => absurd ?_ z⟩
      rw [Int64.le_iff_toInt_le, lZ_t (by omega) (by omega)]
      show 0 ≤ _
      omega
    · obtain ⟨w, hw0⟩ : ∃ w, w + b = D + 2147483648 := ⟨2147483648 - (b - D), by omega⟩
      rw [l_m31Z (w := w) (by omega)]
      rintro _ rfl
      have hw := wv_up (A := A1) (p := K 5) (j := j) (n := i) (v := w) (by omega)
      have hm : (w + b) * 2147483648 ^ i = (D + 2147483648) * 2147483648 ^ i := by rw [hw0]
      rw [Nat.add_mul, Nat.add_mul] at hm
      have hps : 2147483648 ^ (i + 1) = 2147483648 * 2147483648 ^ i := by rw [Nat.pow_succ, Nat.mul_comm]
      have hbD : (D + 1) * 2147483648 ^ i ≤ b * 2147483648 ^ i := Nat.mul_le_mul_right _ (by omega)
      rw [Nat.add_mul, Nat.one_mul] at hbD
      obtain ⟨-, r2⟩ := hr _ (hs.up (nI w) (by omega) (by omega)) (vd_up hd (by omega))
      refine ⟨fun z => absurd ?_ c, fun _ => r2 (by omega) (by omega)⟩
      rw [Int64.le_iff_toInt_le, lZ_t (by omega) (by omega)] at z
      have z : 0 ≤ (D : Int) - b := z
      omega
  · have r := hu i (by omega)
    have rv := hv i e
    rw [Nat.zero_add] at rv
    rw [nI_add]
    refine ⟨pk_in (j + i) 135 (by omega), pk_in i 68 (by omega), ?_⟩
    rw [nI_clamp (by omega), nI_clamp (by omega), hs.2 (j + i) (by omega), r.1, hs.1 (K 6) h56, rv.1]
    have hsA := wv_s A (K 5) j i
    have hsV := wv_s A (K 6) 0 i
    rw [Nat.zero_add] at hsV
    have lD := r.2
    have lV := rv.2
    generalize dg A (K 5) (j + i) = D at lD hsA ⊢
    generalize dg A (K 6) i = V at lV hsV ⊢
    have hgv : g * V ≤ 2147483647 * 2147483647 := Nat.mul_le_mul (by omega) (by omega)
    rw [nI_l (n := D) (by omega), nI_l (n := V) (by omega), lN_mul, lZ_lN D, lZ_lN (g * V), lZ_lN b, lZ_sub, lZ_sub]
    rintro _ rfl
    refine ⟨pk_in (j + i) 135 (by omega), ?_⟩
    obtain ⟨w, b', hwl, hb', hwe⟩ : ∃ w b' : Nat, w < 2147483648 ∧ b' < 2147483648 ∧ w + g * V + b = D + 2147483648 * b' := by
      refine ⟨(((D : Int) - ((g * V : Nat) : Int) - b) % 2147483648).toNat, (-(((D : Int) - ((g * V : Nat) : Int) - b) / 2147483648)).toNat, ?_, ?_, ?_⟩ <;> omega
    rw [l_m31Z (w := w) (by omega), neg_shr (b := b') (by omega) (by omega) (by omega)]
    rintro _ rfl _ rfl _ rfl
    refine ⟨⟨i + 1, b', rfl, nI_s i, by omega, hb', hs.up _ (by omega) (by omega), vd_up hd hwl, ?_⟩, ?_⟩
    · rw [wv_up (by omega), hsA, hsV]
      have hm : (w + g * V + b) * 2147483648 ^ i = (D + 2147483648 * b') * 2147483648 ^ i := by rw [hwe]
      rw [Nat.pow_succ]
      generalize 2147483648 ^ i = X at *
      grind
    · dsimp only
      rw [nI_s, nI_clamp (by omega), nI_clamp (by omega)]; omega
set_option maxHeartbeats 1000000 in
theorem s_D_giveBack {R : Nat} {p q : Int32} (hp : p = nI j) (hq : q = nI n) (hn2 : n < 68) (hj : j + n < 135) (h56 : K 6 ≠ K 5) (hu : vd A (K 5) j (n + 1)) (hv : vd A (K 6) 0 n) (hW : wv A (K 5) j (n + 1) + wv A (K 6) 0 n = R + 2147483648 ^ (n + 1)) (hR : R < 2147483648 ^ n) {post : gm_M → Prop} (hr : ∀ A', st A A' (K 5) j (n + 1) → vd A' (K 5) j (n + 1) → wv A' (K 5) j (n + 1) = R → post A') : vc_D_giveBack K p q F A post := by
  subst hp hq
  unfold vc_D_giveBack
  refine ⟨fun y x A1 => ∃ i b, y = lN b ∧ x = nI i ∧ i ≤ n ∧ b ≤ 1 ∧ st A A1 (K 5) j i ∧ vd A1 (K 5) j i ∧ wv A1 (K 5) j i + b * 2147483648 ^ i = wv A (K 5) j i + wv A (K 6) 0 i, fun _ x _ => n - x.toNatClampNeg, ⟨0, 0, rfl, rfl, Nat.zero_le _, by decide, st.rf, fun k hk => absurd hk (Nat.not_lt_zero _), by simp only [wv, ev, Nat.zero_mul]⟩, ?_⟩
  rintro _ _ A1 ⟨i, b, rfl, rfl, hi, hb, hs, hd, he⟩
  refine pk_le n i (fun e => ?_) (fun e => ?_)
  · have : i = n := by omega
    subst this
    have r := hu i (by omega)
    rw [nI_add]
    refine ⟨pk_in (j + i) 135 (by omega), pk_in (j + i) 135 (by omega), ?_⟩
    rw [nI_clamp (by omega), hs.2 (j + i) (by omega), r.1]
    have hsA := wv_s A (K 5) j i
    have hlt := wv_lt hd
    have lD := r.2
    generalize dg A (K 5) (j + i) = D at lD hsA ⊢
    rw [nI_l (n := D) (by omega), lN_add, l_m31, lN_i]
    rintro _ rfl
    have hps : 2147483648 ^ (i + 1) = 2147483648 * 2147483648 ^ i := by rw [Nat.pow_succ, Nat.mul_comm]
    have key : wv A1 (K 5) j i + (D + b) * 2147483648 ^ i = R + 2147483648 * 2147483648 ^ i := by
      rw [Nat.add_mul]; omega
    have hpp : 0 < 2147483648 ^ i := Nat.pow_pos (by decide)
    have hDb : D + b = 2147483648 := by
      rcases Nat.lt_trichotomy (D + b) 2147483648 with c | c | c
      · have := Nat.mul_le_mul_right (2147483648 ^ i) (show D + b + 1 ≤ 2147483648 from c)
        rw [Nat.add_mul, Nat.one_mul] at this
        omega
      · exact c
      · have := Nat.mul_le_mul_right (2147483648 ^ i) (show 2147483648 + 1 ≤ D + b from c)
        rw [Nat.add_mul, Nat.one_mul] at this
        omega
    rw [hDb] at key ⊢
    refine hr _ (hs.up _ (by omega) (by omega)) (vd_up hd (by decide)) ?_
    rw [wv_up (by decide), show 2147483648 % 2147483648 = 0 from rfl, Nat.zero_mul, Nat.add_zero]
    omega
  · have r := hu i (by omega)
    have rv := hv i e
    rw [Nat.zero_add] at rv
    rw [nI_add]
    refine ⟨pk_in (j + i) 135 (by omega), pk_in i 68 (by omega), ?_⟩
    rw [nI_clamp (by omega), nI_clamp (by omega), hs.2 (j + i) (by omega), r.1, hs.1 (K 6) h56, rv.1]
    have hsA := wv_s A (K 5) j i
    have hsV := wv_s A (K 6) 0 i
    rw [Nat.zero_add] at hsV
    have lD := r.2
    have lV := rv.2
    generalize dg A (K 5) (j + i) = D at lD hsA ⊢
    generalize dg A (K 6) i = V at lV hsV ⊢
    rw [nI_l (n := D) (by omega), nI_l (n := V) (by omega), lN_add, lN_add]
    rintro _ rfl
    refine ⟨pk_in (j + i) 135 (by omega), ?_⟩
    rw [l_m31, lN_i, show j_lushr (lN (D + V + b)) (31 : Int32) = lN ((D + V + b) / 2147483648) from jl_ushr 31 (by omega) (by decide)]
    rintro _ rfl _ rfl _ rfl
    refine ⟨⟨i + 1, (D + V + b) / 2147483648, rfl, nI_s i, by omega, by omega, hs.up _ (by omega) (by omega), vd_up hd (by omega), ?_⟩, ?_⟩
    · rw [wv_up (by omega), hsA, hsV]
      have := ev_car 2147483648 i (D + V + b)
      rw [Nat.add_mul, Nat.add_mul] at this
      omega
    · dsimp only
      rw [nI_s, nI_clamp (by omega), nI_clamp (by omega)]; omega
theorem s_D_digitAt {p q : Int32} (hp : p = nI j) (hq : q = nI n) (hn : 1 ≤ n) (hn2 : n < 68) (hj : j + n < 135) (h56 : K 6 ≠ K 5) (hu : vd A (K 5) j (n + 1)) (hv : vd A (K 6) 0 n) (hnm : 2147483648 ≤ 2 * dg A (K 6) (n - 1)) (hUV : wv A (K 5) j (n + 1) < wv A (K 6) 0 n * 2147483648) {post : Int32 → gm_M → Prop} (hr : ∀ A', st A A' (K 5) j (n + 1) → vd A' (K 5) j (n + 1) → wv A' (K 5) j (n + 1) = wv A (K 5) j (n + 1) % wv A (K 6) 0 n → post (nI (wv A (K 5) j (n + 1) / wv A (K 6) 0 n)) A') : vc_D_digitAt K p q F A post := by
  have hVlt := wv_lt hv
  have hV0 : 0 < wv A (K 6) 0 n := by
    rcases Nat.eq_zero_or_pos (wv A (K 6) 0 n) with c | c
    · rw [c, Nat.zero_mul] at hUV; exact absurd hUV (Nat.not_lt_zero _)
    · exact c
  have hkq := k_q (U := wv A (K 5) j (n + 1)) hV0
  have hdm := Nat.div_add_mod (wv A (K 5) j (n + 1)) (wv A (K 6) 0 n)
  have hml := Nat.mod_lt (wv A (K 5) j (n + 1)) hV0
  have hqB : wv A (K 5) j (n + 1) / wv A (K 6) 0 n < 2147483648 := Nat.div_lt_of_lt_mul hUV
  unfold vc_D_digitAt
  refine s_D_guessAt hp hq hn hn2 hj hu hv hnm hUV (fun g hgq hg => ?_)
  generalize hQ : wv A (K 5) j (n + 1) / wv A (K 6) 0 n = Q at *
  generalize hRm : wv A (K 5) j (n + 1) % wv A (K 6) 0 n = Rm at *
  have hcomm : wv A (K 6) 0 n * Q = Q * wv A (K 6) 0 n := Nat.mul_comm _ _
  refine s_D_takeAway rfl hg hp hq hn2 hj h56 hu hv (fun A' a1 a2 => ⟨fun b1 b2 => ?_, fun b1 b2 => ?_⟩)
  · refine ⟨fun _ => ?_, fun z => absurd rfl z⟩
    rcases hgq with rfl | rfl
    · rw [lN_i]
      exact hr A' a1 a2 (by omega)
    · omega
  · refine ⟨fun z => absurd z (by decide), fun _ => ?_⟩
    rcases hgq with rfl | rfl
    · omega
    · rw [Nat.add_mul, Nat.one_mul] at b2
      have e6 : wv A' (K 6) 0 n = wv A (K 6) 0 n := ev_congr (fun k _ => dg_congr (by rw [a1.1 (K 6) h56]))
      refine s_D_giveBack (R := Rm) hp hq hn2 hj h56 a2 (fun k hk => by
        have := hv k hk
        have e7 : A' (K 6) = A (K 6) := a1.1 (K 6) h56
        unfold dg at this ⊢
        rw [e7]; exact this) (by omega) (by omega) (fun A'' c1 c2 c3 => ?_)
      rintro _ rfl
      rw [show lN (Q + 1) - (1 : Int64) = lN Q from lN_sub (by omega : 1 ≤ Q + 1), lN_i]
      exact hr A'' (a1.trans c1) c2 c3
end D2
