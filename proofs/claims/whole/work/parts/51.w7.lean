section W8
variable {F A : gm_M} {a0 l0 n0 a2 l2 n2 u2 a3 l3 n3 u3 : Nat}
theorem en_md {a l n u m : Nat} {x : Int} {f : Nat} (h : wU F A a l n u x.natAbs) (hm : u ≤ m) (hf1 : 0 < u → f < u) (hz : ∀ j, j < f → dg A l j = 0) (hnz : f + 1 < u → dg A l f ≠ 0) (hx : x.natAbs < 2147483648 ^ m) : (decide (x < 0) = true → dz A l u f ≠ 0) ∧ (∀ j, j < f → dz A l u j = 0) ∧ ev 2147483648 (en 2147483648 (decide (x < 0)) (dz A l u) f) m = md (31 * m) x := by
  have hpos := h.pos
  have hz' : ∀ j, j < f → dz A l u j = 0 := fun j hj => by
    unfold dz; split
    · exact hz j hj
    · rfl
  have h0 : decide (x < 0) = true → dz A l u f ≠ 0 := fun hx => by
    have hx := of_decide_eq_true hx
    have hu : 0 < u := by
      rcases Nat.eq_zero_or_pos u with c | c
      · have := hpos.mp c; omega
      · exact c
    have hfu := hf1 hu
    rw [show dz A l u f = dg A l f from if_pos hfu]
    by_cases c : f + 1 < u
    · exact hnz c
    · exact h.2.2.2.1 f (by omega)
  refine ⟨h0, hz', ?_⟩
  have hd : ∀ j, j < m → dz A l u j < 2147483648 := fun j _ => dz_lt h.2.2.1
  have hev : ev 2147483648 (dz A l u) m = x.natAbs := (ev_dz hm).trans h.2.2.2.2
  by_cases hx0 : x < 0
  · have hu : 0 < u := by
      rcases Nat.eq_zero_or_pos u with c | c
      · have := hpos.mp c; omega
      · exact c
    have hfu := hf1 hu
    have e := en_ev (B := 2147483648) (by decide) hd hz' (h0 (decide_eq_true hx0)) (by omega : f < m)
    rw [decide_eq_true hx0, md_neg hx0 (by rw [← pow31]; omega), ← pow31]
    omega
  · rw [decide_eq_false hx0, md_pos (by omega) (by rw [← pow31]; exact hx), ← hev]
    rfl
set_option maxRecDepth 4000 in
theorem s_W_takeBits {N w m : Nat} {x y : Int} {p : Int32} (hm : m = 67) (hN : N < 31 * m) (h2 : wU F A a2 l2 n2 u2 x.natAbs) (b2 : F a2 2 = sb x) (h3 : wU F A a3 l3 n3 u3 y.natAbs) (b3 : F a3 2 = sb y) (ha2 : a2 ≠ a0) (ha3 : a3 ≠ a0) (hl2 : l2 ≠ l0) (hl3 : l3 ≠ l0) (hp : p = nI w) (hw : w ≤ 2) (hu2 : u2 ≤ m) (hu3 : u3 ≤ m) (hx : x.natAbs < 2 ^ N) (hy : y.natAbs < 2 ^ N) (hn0 : m ≤ n0) (hn : n0 < 2 ^ 29) (hn2 : n2 < 2 ^ 29) (hn3 : n3 < 2 ^ 29) {post : gm_M → gm_M → Prop} (hq : ∀ F' A' : gm_M, fr F A F' A' a0 l0 → wR F' A' a0 l0 n0 (bop N w x y) → post F' A') : vc_W_takeBits a0 l0 n0 p a2 l2 n2 a3 l3 n3 F A post := by
  subst hp
  have h67 : (67 : Int32) = nI m := by rw [hm]; rfl
  have hNle : 2 ^ N ≤ 2147483648 ^ m := by rw [pow31]; exact Nat.pow_le_pow_right (by decide) (by omega)
  have hNlt : 2 ^ N < 2147483648 ^ m := by rw [pow31]; exact Nat.pow_lt_pow_right (by decide) hN
  unfold vc_W_takeBits
  refine s_W_lowestLimb h2.1 h2.2.1 h2.2.2.1 (by omega) (fun f2 c0 c1 c2 c3 => s_W_lowestLimb h3.1 h3.2.1 h3.2.2.1 (by omega) (fun f3 e0 e1 e2 e3 => ?_))
  obtain ⟨x1, x2, x3⟩ := en_md h2 hu2 c1 c2 c3 (by omega)
  obtain ⟨y1, y2, y3⟩ := en_md h3 hu3 e1 e2 e3 (by omega)
  have w2 : u2 ≤ n2 ∧ F a2 1 = nI u2 ∧ dk 2147483648 A l2 u2 := ⟨h2.1, h2.2.1, h2.2.2.1⟩
  have w3 : u3 ≤ n3 ∧ F a3 1 = nI u3 ∧ dk 2147483648 A l3 u3 := ⟨h3.1, h3.2.1, h3.2.2.1⟩
  have bb : ∀ z : Int, sb z = if decide (z < 0) = true then 1 else 0 := fun z => by
    unfold sb
    by_cases c : z < 0
    · rw [if_pos c, if_pos (decide_eq_true c)]
    · rw [if_neg c, if_neg (by simpa using c)]
  have lx : ∀ i, en 2147483648 (decide (x < 0)) (dz A l2 u2) f2 i < 2147483648 := fun i => en_lt (by decide) (dz_lt w2.2.2) x1
  have ly : ∀ i, en 2147483648 (decide (y < 0)) (dz A l3 u3) f3 i < 2147483648 := fun i => en_lt (by decide) (dz_lt w3.2.2) y1
  have hf2 : f2 < 2 ^ 31 := by
    have := w2.1
    rcases Nat.eq_zero_or_pos u2 with c | c
    · have := c0 c; omega
    · have := c1 c; omega
  have hf3 : f3 < 2 ^ 31 := by
    have := w3.1
    rcases Nat.eq_zero_or_pos u3 with c | c
    · have := e0 c; omega
    · have := e1 c; omega
  generalize hcx : en 2147483648 (decide (x < 0)) (dz A l2 u2) f2 = cx at x3 lx
  generalize hcy : en 2147483648 (decide (y < 0)) (dz A l3 u3) f3 = cy at y3 ly
  have lo : ∀ i, opN w (cx i) (cy i) < 2147483648 := fun i => op_lt (k := 31) (lx i) (ly i)
  refine ⟨fun x' A3 => ∃ i, x' = nI i ∧ i ≤ m ∧ sm A A3 l0 i ∧ ∀ j, j < i → A3 l0 j = nI (opN w (cx j) (cy j)), fun x' _ => m - x'.toNatClampNeg, ⟨0, rfl, Nat.zero_le _, sm.rf, fun j hj => absurd hj (Nat.not_lt_zero _)⟩, ?_⟩
  rintro _ A3 ⟨i, rfl, hi, hs, hz⟩
  rw [h67]
  refine pk_le m i (fun e => ?_) (fun e => ?_)
  · have : i = m := by omega
    subst this
    rintro _ rfl
    have s2 : gm_up F a0 1 (nI i) a2 2 = sb x := by rw [gm_off ha2]; exact b2
    have s3 : gm_up F a0 1 (nI i) a3 2 = sb y := by rw [gm_off ha3]; exact b3
    rw [s2, s3]
    have bz : ∀ z : Int, (sb z = 0 → (0 : Int32) = nI (b01 z)) ∧ (¬ sb z = 0 → (1 : Int32) = nI (b01 z)) := fun z => by
      unfold sb b01
      by_cases c : z < 0
      · rw [if_pos c, if_pos c]; exact ⟨fun h => absurd h (by decide), fun _ => rfl⟩
      · rw [if_neg c, if_neg c]; exact ⟨fun _ => rfl, fun h => absurd rfl h⟩
    refine ⟨fun v => v = nI (b01 x), bz x, ?_⟩
    rintro _ rfl
    refine ⟨fun v => v = nI (b01 y), bz y, ?_⟩
    rintro _ rfl
    have lbx := b01_le x
    have lby := b01_le y
    refine s_W_joined rfl hw rfl rfl (by omega) (by omega) ?_
    have hs1 := op01 (w := w) lbx lby
    have hrng := bop_rng N w x y
    have hmore := bop_more (N := N) w (31 * i - N) hx hy
    rw [show N + (31 * i - N) = 31 * i by omega] at hmore
    generalize opN w (b01 x) (b01 y) = s at hs1 hrng hmore ⊢
    refine ⟨fun v => v = nI s, (pk_eq s 1 (fun c => by rw [c]; rfl) (fun c => by rw [show s = 0 by omega]; rfl)).symm, ?_⟩
    rintro _ rfl
    refine ⟨by
      rcases (show s = 0 ∨ s = 1 by omega) with rfl | rfl
      · exact Or.inl rfl
      · exact Or.inr rfl, ?_⟩
    rintro _ rfl
    generalize hF9 : gm_up (gm_up F a0 1 (nI i)) a0 2 (nI s) = F9
    have f91 : F9 a0 1 = nI i := by rw [← hF9, up_ne _ _ (by decide), up_at]
    have f92 : F9 a0 2 = nI s := by rw [← hF9, up_at]
    have f93 : ∀ b, b ≠ a0 → F9 b = F b := fun b hb => by rw [← hF9, gm_off hb, gm_off hb]
    have hdv : ∀ j, j < i → dg A3 l0 j = opN w (cx j) (cy j) := fun j hj => dg_of (hz j hj) (lo j)
    have hd : dk 2147483648 A3 l0 i := fun j hj => by rw [hdv j hj]; exact ⟨hz j hj, lo j⟩
    have hW : ev 2147483648 (dz A3 l0 i) i = opN w (md (31 * i) x) (md (31 * i) y) := by
      rw [ev_dz (Nat.le_refl _), ev_congr hdv, ← x3, ← y3]
      exact ev_op (k := 31) i (fun j _ => lx j) (fun j _ => ly j)
    have hWlt : ev 2147483648 (dz A3 l0 i) i < 2147483648 ^ i := ev_lt (fun j _ => dz_lt hd)
    rw [← hW, ← pow31] at hmore
    refine s_W_lowestLimb hn0 f91 hd (by omega) (fun f g0 g1 g2 g3 => ?_)
    have hfi := g1 (by omega)
    have hzf : ∀ j, j < f → dz A3 l0 i j = 0 := fun j hj => by rw [show dz A3 l0 i j = dg A3 l0 j from if_pos (by omega)]; exact g2 j hj
    have hnf : (decide (s = 1)) = true → dz A3 l0 i f ≠ 0 := fun hs => by
      have hs := of_decide_eq_true hs
      subst hs
      intro h00
      by_cases c : f + 1 < i
      · rw [show dz A3 l0 i f = dg A3 l0 f from if_pos (by omega)] at h00
        exact g3 c h00
      · have hall : ev 2147483648 (dz A3 l0 i) i = 0 := ev_zero (fun j hj => by
          by_cases c2 : j = f
          · subst c2; exact h00
          · exact hzf j (by omega))
        rw [hall] at hmore
        have h1 := hrng.1
        omega
    have w9 : i ≤ n0 ∧ F9 a0 1 = nI i ∧ dk 2147483648 A3 l0 i := ⟨hn0, f91, hd⟩
    have le9 : ∀ j, en 2147483648 (decide (s = 1)) (dz A3 l0 i) f j < 2147483648 := fun j => en_lt (by decide) (dz_lt hd) hnf
    refine ⟨fun x' A11 => ∃ j, x' = nI j ∧ j ≤ i ∧ sm A3 A11 l0 j ∧ ∀ k, k < j → A11 l0 k = nI (en 2147483648 (decide (s = 1)) (dz A3 l0 i) f k), fun x' _ => i - x'.toNatClampNeg, ⟨0, rfl, Nat.zero_le _, sm.rf, fun j hj => absurd hj (Nat.not_lt_zero _)⟩, ?_⟩
    rintro _ A11 ⟨j, rfl, hj, hs11, hz11⟩
    refine pk_le i j (fun e => ?_) (fun e => ?_)
    · have : j = i := by omega
      subst this
      have hdv11 : ∀ k, k < j → dg A11 l0 k = en 2147483648 (decide (s = 1)) (dz A3 l0 j) f k := fun k hk => dg_of (hz11 k hk) (le9 k)
      have hd11 : dk 2147483648 A11 l0 j := fun k hk => by rw [hdv11 k hk]; exact ⟨hz11 k hk, le9 k⟩
      have hev : ev 2147483648 (dg A11 l0) j = (bop N w x y).natAbs := by
        rw [ev_congr hdv11]
        rcases (show s = 0 ∨ s = 1 by omega) with rfl | rfl
        · rw [show ((0 : Nat) : Int) * ((2147483648 ^ j : Nat) : Int) = 0 from Int.zero_mul _] at hmore
          rw [decide_eq_false (by decide)]
          show ev 2147483648 (dz A3 l0 j) j = _
          omega
        · rw [show ((1 : Nat) : Int) * ((2147483648 ^ j : Nat) : Int) = ((2147483648 ^ j : Nat) : Int) from Int.one_mul _] at hmore
          have e4 := en_ev (B := 2147483648) (d := dz A3 l0 j) (by decide) (fun k _ => dz_lt hd) hzf (hnf (by decide)) hfi
          rw [decide_eq_true rfl]
          omega
      refine s_W_trim (n := j) rfl hn0 (by omega) hd11 (fun F' k1 k2 k3 => hq F' A11 ⟨fun b hb => by rw [k1 b hb, f93 b hb], fun b hb => by rw [hs11.1 b hb, hs.1 b hb]⟩ ⟨?_, ?_⟩)
      · rw [hev] at k2; exact k2
      · rw [k3, hev, f92]
        unfold sb
        rcases (show s = 0 ∨ s = 1 by omega) with rfl | rfl
        · have : ¬ bop N w x y < 0 := fun z => absurd (hrng.2.mp z) (by decide)
          rw [if_neg this, if_neg (fun z => z.1 rfl)]
        · have := hrng.2.mpr rfl
          rw [if_pos this, if_pos ⟨by decide, by omega⟩]
    · refine s_W_endlessLimb (A := A3) (neg := decide (s = 1)) (f := f) (i := j) w9 ?_ (by omega) rfl rfl (by omega) (by omega) (hs11.2 j (Nat.le_refl _)) hzf hnf ?_
      · rw [f92]
        rcases (show s = 0 ∨ s = 1 by omega) with rfl | rfl <;> rfl
      · refine ⟨pk_in j n0 (by omega), ?_⟩
        rw [nI_clamp (by omega)]
        rintro _ rfl _ rfl
        refine ⟨⟨j + 1, nI_s j, by omega, hs11.up _ (by omega), fun k hk => ?_⟩, ?_⟩
        · by_cases c : k = j
          · subst c; exact up_at _ _ _ _
          · rw [up_ne _ _ c]; exact hz11 k (by omega)
        · dsimp only
          rw [nI_s, nI_clamp (by omega), nI_clamp (by omega)]; omega
  · refine s_W_endlessLimb (A := A) (neg := decide (x < 0)) (f := f2) (i := i) w2 (by rw [b2]; exact bb x) (by omega) rfl rfl (by omega) hf2 (by rw [hs.1 l2 hl2]) x2 x1 ?_
    refine s_W_endlessLimb (A := A) (neg := decide (y < 0)) (f := f3) (i := i) w3 (by rw [b3]; exact bb y) (by omega) rfl rfl (by omega) hf3 (by rw [hs.1 l3 hl3]) y2 y1 ?_
    rw [hcx, hcy]
    refine s_W_joined rfl hw rfl rfl (lx i) (ly i) ?_
    refine ⟨pk_in i n0 (by omega), ?_⟩
    rw [nI_clamp (by omega)]
    rintro _ rfl _ rfl
    refine ⟨⟨i + 1, nI_s i, by omega, hs.up _ (by omega), fun j hj => ?_⟩, ?_⟩
    · by_cases c : j = i
      · subst c; exact up_at _ _ _ _
      · rw [up_ne _ _ c]; exact hz j (by omega)
    · dsimp only
      rw [nI_s, nI_clamp (by omega), nI_clamp (by omega)]; omega
end W8
