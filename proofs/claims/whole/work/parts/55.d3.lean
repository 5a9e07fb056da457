section D3
variable {F A : gm_M} {K : Nat → Nat}
theorem s_D_lowerRest {n k : Nat} {p q : Int32} (hp : p = nI n) (hq : q = nI k) (hk : k < 31) (hn : n < 134) (h : K 5 ≠ K 42) (hv : vd A (K 5) 0 (n + 1)) (hR : wv A (K 5) 0 (n + 1) < 2147483648 ^ n) {post : gm_M → gm_M → Prop} (hr : ∀ F' A', fr F A F' A' (K 41) (K 42) → wR F' A' (K 41) (K 42) 135 ((wv A (K 5) 0 (n + 1) / 2 ^ k : Nat) : Int) → post F' A') : vc_D_lowerRest K p q F A post := by
  subst hp hq
  generalize hRe : wv A (K 5) 0 (n + 1) = R at *
  have hdig : ∀ i, i < n + 1 → R / 2147483648 ^ i % 2147483648 = dg A (K 5) i := fun i hi => by
    rw [← hRe]
    have := ev_dig (B := 2147483648) (d := fun k => dg A (K 5) (0 + k)) (j := i) (fun k hk => (hv k hk).2) hi (by decide)
    rw [Nat.zero_add] at this
    exact this
  unfold vc_D_lowerRest
  refine ⟨fun x A1 => ∃ i, x = nI i ∧ i ≤ n ∧ sm A A1 (K 42) i ∧ ∀ j, j < i → A1 (K 42) j = nI (R / 2 ^ k / 2147483648 ^ j % 2147483648), fun x _ => n - x.toNatClampNeg, ⟨0, rfl, Nat.zero_le _, sm.rf, fun j hj => absurd hj (Nat.not_lt_zero _)⟩, ?_⟩
  rintro _ A1 ⟨i, rfl, hi, hs, hz⟩
  refine pk_le n i (fun e => ?_) (fun e => ?_)
  · have : i = n := by omega
    subst this
    rintro _ rfl
    have hdv : ∀ j, j < i → dg A1 (K 42) j = R / 2 ^ k / 2147483648 ^ j % 2147483648 := fun j hj => dg_of (hz j hj) (by omega)
    have hd : dk 2147483648 A1 (K 42) i := fun j hj => by
      rw [hdv j hj]; exact ⟨hz j hj, Nat.mod_lt _ (by decide)⟩
    have hev : ev 2147483648 (dg A1 (K 42)) i = R / 2 ^ k := by
      rw [ev_congr hdv, ev_all, Nat.mod_eq_of_lt (Nat.lt_of_le_of_lt (Nat.div_le_self _ _) hR)]
    refine s_W_trim (n := i) rfl (by omega) (by omega) hd (fun F' f1 f2 f3 => hr F' A1 ⟨fun b hb => by rw [f1 b hb, gm_off hb], hs.1⟩ ⟨?_, ?_⟩)
    · rw [hev] at f2; rw [Int.natAbs_natCast]; exact f2
    · rw [f3, up_at, if_neg (fun z => z.1 rfl)]
      unfold sb
      rw [if_neg (by omega)]
  · rw [nI_s]
    refine ⟨pk_in (i + 1) 135 (by omega), pk_in i 135 (by omega), ?_⟩
    have r0 := hv i (by omega)
    have r1 := hv (i + 1) (by omega)
    rw [Nat.zero_add] at r0 r1
    have d0 := hdig i (by omega)
    have d1 := hdig (i + 1) (by omega)
    rw [div_pow_succ] at d1
    have hY : R / 2 ^ k / 2147483648 ^ i = R / 2147483648 ^ i / 2 ^ k := by
      rw [Nat.div_div_eq_div_mul, Nat.div_div_eq_div_mul, Nat.mul_comm]
    rw [nI_clamp (by omega), nI_clamp (by omega), hs.1 (K 5) h, r0.1, r1.1]
    have l0 := r0.2
    have l1 := r1.2
    generalize R / 2147483648 ^ i = Y at d1 d0 hY
    generalize dg A (K 5) (i + 1) = D1 at d1 l1 ⊢
    generalize dg A (K 5) i = D0 at d0 l0 ⊢
    rw [nI_l (n := D1) (by omega), nI_l (n := D0) (by omega), show j_lshl (lN D1) (31 : Int32) = lN (D1 * 2 ^ 31) from jl_shl D1 31 (by decide), l_or (a := D1 * 2 ^ 31) (b := D0) (by omega) (by omega), or_add (k := 31) (by omega)]
    rintro _ rfl
    refine ⟨pk_in i 135 (by omega), ?_⟩
    rw [jl_ushr k (by omega) (by omega), l_m31, lN_i]
    rintro _ rfl _ rfl
    have e1 : (D1 * 2 ^ 31 + D0) / 2 ^ k % 2147483648 = R / 2 ^ k / 2147483648 ^ i % 2147483648 := by
      rw [hY, show D1 * 2 ^ 31 + D0 = Y % 2 ^ 62 by omega]
      exact mod_div_mod Y k (by omega)
    rw [e1]
    refine ⟨⟨i + 1, rfl, by omega, hs.up _ (by omega), fun j hj => ?_⟩, ?_⟩
    · by_cases c : j = i
      · subst c; exact up_at _ _ _ _
      · rw [up_ne _ _ c]; exact hz j (by omega)
    · dsimp only
      rw [nI_clamp (by omega), nI_clamp (by omega)]; omega
/-- the rows of the divider are apart -/
def dAp (K : Nat → Nat) : Prop := K 6 ≠ K 5 ∧ K 40 ≠ K 5 ∧ K 40 ≠ K 6 ∧ K 42 ≠ K 5 ∧ K 42 ≠ K 6 ∧ K 42 ≠ K 40 ∧ K 39 ≠ K 41
def offD (K : Nat → Nat) (a l : Nat) : Prop := a ≠ K 39 ∧ a ≠ K 41 ∧ l ≠ K 40 ∧ l ≠ K 42 ∧ l ≠ K 5 ∧ l ≠ K 6
def frD (K : Nat → Nat) (F A F' A' : gm_M) : Prop := (∀ b, b ≠ K 39 → b ≠ K 41 → F' b = F b) ∧ ∀ b, b ≠ K 40 → b ≠ K 42 → b ≠ K 5 → b ≠ K 6 → A' b = A b
theorem frD.off {F A F' A' : gm_M} {a l : Nat} (h : frD K F A F' A') (ho : offD K a l) : F' a = F a ∧ A' l = A l := ⟨h.1 a ho.1 ho.2.1, h.2 l ho.2.2.1 ho.2.2.2.1 ho.2.2.2.2.1 ho.2.2.2.2.2⟩
set_option maxHeartbeats 2000000 in
theorem s_D_cut {a1 l1 n1 u1 a2 l2 n2 u2 v2 : Nat} {x : Int} (hK : dAp K) (o1 : offD K a1 l1) (o2 : offD K a2 l2) (h1 : wU F A a1 l1 n1 u1 x.natAbs) (b1 : F a1 2 = sb x) (h2 : wU F A a2 l2 n2 u2 v2) (hv2 : v2 ≠ 0) (hu1 : u1 < 135) (hu2 : u2 < 68) (hn1 : n1 < 2 ^ 29) (hn2 : n2 < 2 ^ 29) {post : gm_M → gm_M → Prop} (hr : ∀ F' A', frD K F A F' A' → wR F' A' (K 39) (K 40) 135 ((x.natAbs / v2 : Nat) : Int) → wR F' A' (K 41) (K 42) 135 ((x.natAbs % v2 : Nat) : Int) → post F' A') : vc_D_cut K a1 l1 n1 a2 l2 n2 F A post := by
  obtain ⟨k65, k405, k406, k425, k426, k4240, k3941⟩ := hK
  unfold vc_D_cut
  refine s_W_takeLong (by decide) (by decide) (fun F1 A1 f1 w0 => ?_)
  have w0 : wR F1 A1 (K 39) (K 40) 135 0 := w0
  have h1 := h1.congr (f1.1 a1 o1.1) (f1.2 l1 o1.2.2.1)
  have h2 := h2.congr (f1.1 a2 o2.1) (f1.2 l2 o2.2.2.1)
  have b1 : F1 a1 2 = sb x := by rw [f1.1 a1 o1.1]; exact b1
  have gu1 := h1.1
  have gu2 := h2.1
  refine s_W_order h1 h2 (by omega) (by omega) ?_
  have hcN : -1 ≤ cmpN x.natAbs v2 ∧ cmpN x.natAbs v2 ≤ 1 ∧ (0 ≤ cmpN x.natAbs v2 ↔ v2 ≤ x.natAbs) := by
    unfold cmpN; split
    · omega
    · split <;> omega
  have hc0 : (0 ≤ iZ (cmpN x.natAbs v2)) ↔ v2 ≤ x.natAbs := by
    rw [← hcN.2.2]; exact iZ_le (a := 0) (by omega) (by omega) (by omega) (by omega)
  refine ⟨fun c => ?_, fun c => ?_⟩
  · have hle := hc0.mp c
    have hu : u2 ≤ u1 := by
      rcases Nat.lt_or_ge u1 u2 with c | c
      · have := h2.ltu h1 c; omega
      · exact c
    have hu20 : u2 ≠ 0 := fun z => hv2 (h2.pos.mp z)
    obtain ⟨s, hs⟩ : ∃ s, u2 = s + 1 := ⟨u2 - 1, by omega⟩
    have hd2 := h2.2.2.1 s (by omega)
    have hd0 := h2.2.2.2.1 s hs
    have hbl : bl v2 = 31 * s + bl (dg A1 l2 s) := by
      rw [← h2.2.2.2.2, hs]
      exact bl_ev (fun k hk => (h2.2.2.1 k (by omega)).2) hd0
    have hbd : bl (dg A1 l2 s) ≤ 31 := bl_le_iff.mpr hd2.2
    have hbp := bl_pos hd0
    rw [h1.2.1, h2.2.1]
    rintro _ rfl
    rw [pk_sub hu, nI_s]
    rintro _ rfl
    rw [nI_m1 (by omega), show u2 - 1 = s by omega]
    refine ⟨pk_in s n2 (by omega), ?_⟩
    rw [nI_clamp (by omega), hd2.1]
    refine s_W_bitsIn rfl hd2.2 ?_
    rw [show (31 : Int32) - nI (bl (dg A1 l2 s)) = nI (31 - bl (dg A1 l2 s)) from pk_sub hbd]
    generalize hlift : 31 - bl (dg A1 l2 s) = lift
    have hlift31 : lift < 31 := by omega
    rintro _ rfl
    refine s_W_raiseInto (s0 := 0) (k0 := lift) h2 o2.2.2.2.2.2 rfl rfl hlift31 (by omega) hn2 (by decide) (fun A7 r1 r2 r3 r4 => ?_)
    refine s_W_raiseInto (s0 := 0) (k0 := lift) (h1.congr rfl (r1 l1 o1.2.2.2.2.2)) o1.2.2.2.2.1 rfl rfl hlift31 (by omega) hn1 (by decide) (fun A8 q1 q2 q3 q4 => ?_)
    -- the divisor
    have hv7 : vd A7 (K 6) 0 (u2 + 1) := fun k hk => r3 k (by omega)
    have hw7 : wv A7 (K 6) 0 (u2 + 1) = v2 * 2 ^ lift := r4
    have e68 : A8 (K 6) = A7 (K 6) := q1 (K 6) k65
    have hv8 : vd A8 (K 6) 0 (u2 + 1) := fun k hk => by
      have := hv7 k hk
      unfold dg at this ⊢
      rw [e68]; exact this
    have hw8 : wv A8 (K 6) 0 (u2 + 1) = v2 * 2 ^ lift := by
      rw [← hw7]; exact ev_congr (fun k _ => dg_congr (by rw [e68]))
    have hVlt : v2 * 2 ^ lift < 2147483648 ^ u2 := by
      have := bl_lt v2
      rw [pow31, show 31 * u2 = bl v2 + lift by omega, Nat.pow_add]
      exact Nat.mul_lt_mul_of_pos_right this (Nat.two_pow_pos _)
    have hVge : 2 ^ (31 * u2 - 1) ≤ v2 * 2 ^ lift := by
      have := bl_le hv2
      rw [show 31 * u2 - 1 = (bl v2 - 1) + lift by omega, Nat.pow_add]
      exact Nat.mul_le_mul_right _ this
    have hws := wv_s A8 (K 6) 0 u2
    rw [Nat.zero_add] at hws
    have hdt : dg A8 (K 6) u2 = 0 := by
      rcases Nat.eq_zero_or_pos (dg A8 (K 6) u2) with c | c
      · exact c
      · have := Nat.mul_le_mul_right (2147483648 ^ u2) (show 1 ≤ dg A8 (K 6) u2 from c)
        rw [Nat.one_mul] at this
        omega
    rw [hdt, Nat.zero_mul, hw8] at hws
    have hws : v2 * 2 ^ lift = wv A8 (K 6) 0 u2 := hws
    have hV0 : 0 < v2 * 2 ^ lift := Nat.mul_pos (by omega) (Nat.two_pow_pos _)
    have hnm8 : 2147483648 ≤ 2 * dg A8 (K 6) (u2 - 1) := by
      have hw2 := wv_s A8 (K 6) 0 s
      have hl2 := wv_lt (A := A8) (p := K 6) (j := 0) (n := s) (fun k hk => hv8 k (by omega))
      rw [Nat.zero_add] at hw2
      rw [show u2 - 1 = s by omega]
      rw [← hs, ← hws] at hw2
      have a1 : 2 ^ 30 * 2147483648 ^ s < (dg A8 (K 6) s + 1) * 2147483648 ^ s := by
        rw [Nat.add_mul, Nat.one_mul, pow31, ← Nat.pow_add, show 30 + 31 * s = 31 * u2 - 1 by omega, ← pow31]
        omega
      have := Nat.lt_of_mul_lt_mul_right a1
      omega
    generalize hVe : v2 * 2 ^ lift = V at *
    -- the dividend
    have hw5 : wv A8 (K 5) 0 (u1 + 1) = x.natAbs * 2 ^ lift := q4
    have hv5 : vd A8 (K 5) 0 (u1 + 1) := fun k hk => q3 k (by omega)
    have hD0 : x.natAbs * 2 ^ lift < V * 2147483648 ^ (u1 - u2 + 1) := by
      have g := h1.lt
      have a1 : x.natAbs * 2 ^ lift < 2147483648 ^ u1 * 2 ^ lift := Nat.mul_lt_mul_of_pos_right g (Nat.two_pow_pos _)
      have a2 : 2147483648 ^ u1 * 2 ^ lift ≤ 2147483648 ^ u1 * 2 ^ 30 := Nat.mul_le_mul_left _ (Nat.pow_le_pow_right (by decide) (by omega))
      have a3 : 2147483648 ^ u1 * 2 ^ 30 = 2 ^ (31 * u2 - 1) * 2147483648 ^ (u1 - u2 + 1) := by
        rw [pow31, pow31, ← Nat.pow_add, ← Nat.pow_add]; congr 1; omega
      have a4 : 2 ^ (31 * u2 - 1) * 2147483648 ^ (u1 - u2 + 1) ≤ V * 2147483648 ^ (u1 - u2 + 1) := Nat.mul_le_mul_right _ hVge
      omega
    rw [nI_m1 (by omega), show u1 - u2 + 1 - 1 = u1 - u2 by omega]
    rintro _ rfl
    generalize hst : u1 - u2 + 1 = steps at *
    have hsx : nI (u1 - u2) = dn steps := by rw [← hst, dn_succ]
    rw [hsx]
    refine ⟨fun y A10 => ∃ z, y = dn z ∧ z ≤ steps ∧ (∀ b, b ≠ K 5 → b ≠ K 40 → A10 b = A8 b) ∧ vd A10 (K 5) 0 (u1 + 1) ∧ (∀ k, z + u2 ≤ k → k < u1 + 1 → dg A10 (K 5) k = 0) ∧ (∀ k, z ≤ k → k < steps → A10 (K 40) k = nI (dg A10 (K 40) k) ∧ dg A10 (K 40) k < 2147483648) ∧ wv A10 (K 5) 0 (z + u2) < V * 2147483648 ^ z ∧ x.natAbs * 2 ^ lift = wv A10 (K 40) z (steps - z) * 2147483648 ^ z * V + wv A10 (K 5) 0 (z + u2), fun y _ => (y.toInt + 1).toNat, ⟨steps, rfl, Nat.le_refl _, fun _ _ _ => rfl, hv5, fun k a b => by omega, fun k a b => by omega, ?_, ?_⟩, ?_⟩
    · rw [show steps + u2 = u1 + 1 by omega, hw5]; exact hD0
    · rw [show steps + u2 = u1 + 1 by omega, hw5, Nat.sub_self, show wv A8 (K 40) steps 0 = 0 from rfl, Nat.zero_mul, Nat.zero_mul, Nat.zero_add]
    rintro _ A10 ⟨z, rfl, hz, i1, i2, i3, i4, i5, i6⟩
    refine dn_br z (by omega) (fun e => ?_) (fun t e => ?_)
    · subst e
      rw [Nat.pow_zero, Nat.mul_one, Nat.zero_add] at i5
      rw [Nat.pow_zero, Nat.mul_one, Nat.zero_add, Nat.sub_zero] at i6
      have hQ : wv A10 (K 40) 0 steps = ev 2147483648 (dg A10 (K 40)) steps := ev_congr (fun k _ => by rw [Nat.zero_add])
      have hR1 : wv A10 (K 5) 0 (u2 + 1) = wv A10 (K 5) 0 u2 := by
        rw [wv_s, Nat.zero_add, i3 u2 (by omega) (by omega), Nat.zero_mul, Nat.add_zero]
      have hQ2 : wv A10 (K 40) 0 steps = x.natAbs / v2 := by
        rw [← Nat.mul_div_mul_right x.natAbs v2 (Nat.two_pow_pos lift), hVe, i6, Nat.mul_comm, Nat.mul_add_div hV0, Nat.div_eq_of_lt i5, Nat.add_zero]
      have hR2 : wv A10 (K 5) 0 u2 = x.natAbs % v2 * 2 ^ lift := by
        rw [← Nat.mul_mod_mul_right, hVe, i6, Nat.mul_comm, Nat.mul_add_mod, Nat.mod_eq_of_lt i5]
      refine s_W_trim (n := steps) rfl (by omega) (by decide) (fun k hk => i4 k (Nat.zero_le _) hk) (fun F11 f2 f3 f4 => ?_)
      refine s_D_lowerRest (n := u2) (k := lift) rfl rfl hlift31 (by omega) (fun h => k425 h.symm) (fun k hk => i2 k (by omega)) (by rw [hR1]; omega) (fun F12 A12 f5 f6 => ?_)
      refine hr F12 A12 ⟨fun b a b' => ?_, fun b a b' c d => ?_⟩ ⟨?_, ?_⟩ ?_
      · rw [f5.1 b b', f2 b a, f1.1 b a]
      · rw [f5.2 b b', i1 b c a, q1 b c, r1 b d, f1.2 b a]
      · rw [Int.natAbs_natCast, ← hQ2, hQ]
        exact f3.congr (f5.1 _ k3941) (f5.2 _ (fun h => k4240 h.symm))
      · rw [f5.1 _ k3941, f4]
        have : F1 (K 39) 2 = 0 := w0.2
        rw [this, if_neg (fun z => z.1 rfl)]
        unfold sb
        rw [if_neg (by omega)]
      · rw [hR1, hR2, Nat.mul_div_cancel _ (Nat.two_pow_pos _)] at f6
        exact f6
    · subst e
      have hV10 : vd A10 (K 6) 0 u2 := fun k hk => by
        have := hv8 k (by omega)
        have e6 : A10 (K 6) = A8 (K 6) := i1 (K 6) k65 (fun h => k406 h.symm)
        unfold dg at this ⊢
        rw [e6]; exact this
      have hW10 : wv A10 (K 6) 0 u2 = V := by
        rw [hws]
        exact ev_congr (fun k _ => dg_congr (by rw [i1 (K 6) k65 (fun h => k406 h.symm)]))
      have hg10 : dg A10 (K 6) (u2 - 1) = dg A8 (K 6) (u2 - 1) := dg_congr (by rw [i1 (K 6) k65 (fun h => k406 h.symm)])
      have hu10 : vd A10 (K 5) t (u2 + 1) := fun k hk => by
        have := i2 (t + k) (by omega)
        rw [Nat.zero_add] at this
        exact this
      have hsplit : wv A10 (K 5) 0 (t + 1 + u2) = wv A10 (K 5) 0 t + 2147483648 ^ t * wv A10 (K 5) t (u2 + 1) := by
        have := ev_add 2147483648 (fun k => dg A10 (K 5) (0 + k)) t (u2 + 1)
        rw [show t + (u2 + 1) = t + 1 + u2 by omega] at this
        refine this.trans ?_
        congr 2
        exact ev_congr (fun k _ => by rw [Nat.zero_add])
      have hpt : 0 < 2147483648 ^ t := Nat.pow_pos (by decide)
      have hUV : wv A10 (K 5) t (u2 + 1) < wv A10 (K 6) 0 u2 * 2147483648 := by
        rw [hW10]
        have a1 : wv A10 (K 5) t (u2 + 1) * 2147483648 ^ t < V * 2147483648 * 2147483648 ^ t := by
          rw [Nat.pow_succ] at i5
          have e1 : V * (2147483648 ^ t * 2147483648) = V * 2147483648 * 2147483648 ^ t := by grind
          rw [Nat.mul_comm]
          omega
        exact Nat.lt_of_mul_lt_mul_right a1
      rw [dn_succ]
      refine s_D_digitAt (j := t) (n := u2) rfl rfl (by omega) hu2 (by omega) k65 hu10 hV10 (by rw [hg10]; exact hnm8) hUV (fun A13 g1 g2 g3 => ?_)
      rw [hW10] at g3 hUV ⊢
      generalize hU0 : wv A10 (K 5) t (u2 + 1) = U at *
      have hq : U / V < 2147483648 := Nat.div_lt_of_lt_mul hUV
      have hmod := Nat.mod_lt U hV0
      have hdm := Nat.div_add_mod U V
      refine ⟨pk_in t 135 (by omega), ?_⟩
      rw [nI_clamp (by omega)]
      rintro _ rfl
      rintro _ rfl
      have e5 : gm_up A13 (K 40) t (nI (U / V)) (K 5) = A13 (K 5) := gm_off (fun h => k405 h.symm)
      have hd13 : dg A13 (K 5) (t + u2) = 0 := by
        have := wv_s A13 (K 5) t u2
        rcases Nat.eq_zero_or_pos (dg A13 (K 5) (t + u2)) with c | c
        · exact c
        · have := Nat.mul_le_mul_right (2147483648 ^ u2) (show 1 ≤ dg A13 (K 5) (t + u2) from c)
          rw [Nat.one_mul] at this
          omega
      have hw13 : wv A13 (K 5) t u2 = U % V := by
        have := wv_s A13 (K 5) t u2
        rw [hd13, Nat.zero_mul, Nat.add_zero] at this
        omega
      have hlow : wv A13 (K 5) 0 t = wv A10 (K 5) 0 t := ev_congr (fun k hk => dg_congr (by rw [Nat.zero_add]; exact g1.2 k (by omega)))
      have hnew : wv (gm_up A13 (K 40) t (nI (U / V))) (K 5) 0 (t + u2) = wv A10 (K 5) 0 t + 2147483648 ^ t * (U % V) := by
        have e6 : wv (gm_up A13 (K 40) t (nI (U / V))) (K 5) 0 (t + u2) = wv A13 (K 5) 0 (t + u2) := ev_congr (fun k _ => dg_congr (by rw [e5]))
        have e7 := ev_add 2147483648 (fun k => dg A13 (K 5) (0 + k)) t u2
        have e8 : ev 2147483648 (fun k => dg A13 (K 5) (0 + (t + k))) u2 = wv A13 (K 5) t u2 := ev_congr (fun k _ => by rw [Nat.zero_add])
        rw [e6, ← hlow, ← hw13, ← e8]
        exact e7
      have hllt : wv A10 (K 5) 0 t < 2147483648 ^ t := wv_lt (fun k hk => i2 k (by omega))
      refine ⟨⟨t, dn_next t, by omega, fun b a b' => ?_, fun k hk => ?_, fun k a b => ?_, fun k a b => ?_, ?_, ?_⟩, ?_⟩
      · rw [gm_off b', g1.1 b a, i1 b a b']
      · rw [dg_congr (A := A13) (by rw [e5]), e5, Nat.zero_add]
        by_cases c1 : t ≤ k ∧ k < t + (u2 + 1)
        · have := g2 (k - t) (by omega)
          rw [show t + (k - t) = k by omega] at this
          exact this
        · have e9 := g1.2 k (by omega)
          rw [dg_congr e9, e9]
          have := i2 k hk
          rw [Nat.zero_add] at this
          exact this
      · rw [dg_congr (A := A13) (by rw [e5])]
        by_cases c1 : k = t + u2
        · subst c1; exact hd13
        · rw [dg_congr (g1.2 k (by omega))]
          exact i3 k (by omega) b
      · by_cases c1 : k = t
        · subst c1
          rw [dg_at _ _ _ (by omega), up_at]
          exact ⟨rfl, hq⟩
        · have e9 : A13 (K 40) = A10 (K 40) := g1.1 _ k405
          rw [dg_ne _ _ c1, up_ne _ _ c1, dg_congr (A := A10) (by rw [e9]), e9]
          exact i4 k (by omega) b
      · rw [hnew]
        have a1 : 2147483648 ^ t * (U % V + 1) ≤ 2147483648 ^ t * V := Nat.mul_le_mul_left _ hmod
        rw [Nat.mul_add, Nat.mul_one, Nat.mul_comm (2147483648 ^ t) V] at a1
        omega
      · rw [hnew, i6, hsplit, show steps - t = (steps - (t + 1)) + 1 by omega]
        have e10 : wv (gm_up A13 (K 40) t (nI (U / V))) (K 40) t (steps - (t + 1) + 1) = U / V + 2147483648 * wv A10 (K 40) (t + 1) (steps - (t + 1)) := by
          refine (ev_cons 2147483648 (dg (gm_up A13 (K 40) t (nI (U / V))) (K 40)) t (steps - (t + 1))).trans ?_
          rw [dg_at _ _ _ (by omega)]
          congr 2
          exact ev_congr (fun k _ => by
            rw [dg_ne _ _ (by omega)]
            exact dg_congr (by rw [g1.1 _ k405]))
        rw [e10, Nat.pow_succ]
        generalize wv A10 (K 40) (t + 1) (steps - (t + 1)) = Qh
        generalize wv A10 (K 5) 0 t = lo
        generalize U / V = q at *
        generalize U % V = r at *
        generalize 2147483648 ^ t = X
        rw [← hdm]
        grind
      · dsimp only
        rw [dn_next, dn_mu _ (by omega), nI_toInt (by omega)]; omega
  · have hlt : x.natAbs < v2 := by
      rcases Nat.lt_or_ge x.natAbs v2 with c2 | c2
      · exact c2
      · exact absurd (hc0.mpr c2) c
    refine s_W_takeCopy o1.2.1 o1.2.2.2.1 h1 b1 (by omega) (by omega) (fun F16 A16 f2 f3 => ?_)
    refine s_W_setBelowR (x := ((x.natAbs : Nat) : Int)) (by rw [Int.natAbs_natCast]; exact f3.1) (by decide) (fun _ => ⟨fun z => absurd rfl z, fun z => by omega⟩) (fun F17 g1 g2 => ?_)
    refine hr F17 A16 ⟨fun b a b' => by rw [g1 b b', f2.1 b b', f1.1 b a], fun b a b' _ _ => by rw [f2.2 b b', f1.2 b a]⟩ ?_ ?_
    · rw [Nat.div_eq_of_lt hlt]
      exact w0.congr (by rw [g1 _ k3941, f2.1 _ k3941]) (f2.2 _ (fun h => k4240 h.symm))
    · rw [Nat.mod_eq_of_lt hlt]; exact g2
end D3
