section W4
variable {F A : gm_M} {a0 l0 n0 u v a1 l1 n1 u1 v1 a2 l2 n2 u2 v2 : Nat}
theorem s_W_takeSum {x y : Int} {p : Int32} (h1 : wU F A a1 l1 n1 u1 x.natAbs) (hb : F a1 2 = sb x) (h2 : wU F A a2 l2 n2 u2 y.natAbs) (hp : p = 0 ∨ p = 1) (hy : y ≠ 0 → (p = 1 ↔ y < 0)) (hc : u1 < n0 ∧ u2 < n0) (hn : n0 < 2 ^ 30) (hn1 : n1 < 2 ^ 30) (hn2 : n2 < 2 ^ 30) {post : gm_M → gm_M → Prop} (hq : ∀ F' A' : gm_M, fr F A F' A' a0 l0 → wR F' A' a0 l0 n0 (x + y) → post F' A') : vc_W_takeSum a0 l0 n0 a1 l1 n1 a2 l2 n2 p F A post := by
  unfold vc_W_takeSum
  rw [hb]
  rintro _ rfl
  have s0 : ∀ z : Int, (sb z ≠ 0 ↔ z < 0) := fun z => by
    unfold sb; split
    · exact ⟨fun _ => ‹_›, fun _ => by decide⟩
    · exact ⟨fun h => absurd rfl h, fun h => absurd h ‹_›⟩
  have p0 : (p ≠ 0 ↔ p = 1) := by
    rcases hp with rfl | rfl
    · exact ⟨fun h => absurd rfl h, fun h => absurd h (by decide)⟩
    · exact ⟨fun _ => rfl, fun _ => by decide⟩
  have sx := s0 x
  refine ⟨fun e => ?_, fun e => ?_⟩
  · have e' : ¬ (x < 0 ↔ p ≠ 0) := fun z => e (by
      rw [← sx] at z
      rcases sb01 x with h | h <;> rcases hp with h' | h' <;> rw [h, h'] at z ⊢
      · exact absurd rfl (z.mpr (by decide))
      · exact absurd rfl (z.mp (by decide)))
    have hxy : ∀ z : y ≠ 0, (x < 0 ↔ ¬ y < 0) := fun z => by
      have := hy z
      rw [p0] at e'
      by_cases c1 : x < 0 <;> by_cases c2 : y < 0 <;> simp_all
    refine s_W_order h1 h2 (by omega) (by omega) ?_
    have hcm : ∀ k : Int, (iZ k < 0 ↔ k < 0) ∨ k < -1 ∨ 1 < k := fun k => by
      by_cases c : -1 ≤ k ∧ k ≤ 1
      · exact Or.inl (iZ_lt (b := 0) (by omega) (by omega) (by omega) (by omega))
      · omega
    have hcN : -1 ≤ cmpN x.natAbs y.natAbs ∧ cmpN x.natAbs y.natAbs ≤ 1 ∧ (cmpN x.natAbs y.natAbs < 0 ↔ x.natAbs < y.natAbs) := by
      unfold cmpN; split
      · omega
      · split <;> omega
    have hc0 := hcm (cmpN x.natAbs y.natAbs)
    refine ⟨fun c => ?_, fun c => ?_⟩
    · have hlt : x.natAbs < y.natAbs := by
        rcases hc0 with h | h
        · exact hcN.2.2.mp (h.mp c)
        · omega
      have hy0 : y ≠ 0 := by omega
      have := hxy hy0
      have hyp := hy hy0
      refine s_W_subtractSizes h2 h1 (by omega) (by omega) hn hn2 hn1 (fun F' A' g1 g2 => ?_)
      refine s_W_setBelowR (x := x + y) (by rw [show (x + y).natAbs = y.natAbs - x.natAbs by omega]; exact g2) (by omega) (fun _ => ?_) (fun F'' g3 g4 => hq F'' A' ⟨fun b hb => by rw [g3 b hb, g1.1 b hb], g1.2⟩ g4)
      rw [p0, hyp]; omega
    · have hlt : y.natAbs ≤ x.natAbs := by
        rcases hc0 with h | h
        · rcases Nat.lt_or_ge x.natAbs y.natAbs with c2 | c2
          · exact absurd (h.mpr (hcN.2.2.mpr c2)) c
          · exact c2
        · omega
      refine s_W_subtractSizes h1 h2 hlt (by omega) hn hn1 hn2 (fun F' A' g1 g2 => ?_)
      refine s_W_setBelowR (x := x + y) ?_ (by omega) (fun hz => ?_) (fun F'' g3 g4 => hq F'' A' ⟨fun b hb => by rw [g3 b hb, g1.1 b hb], g1.2⟩ g4)
      · rw [show (x + y).natAbs = x.natAbs - y.natAbs by
          by_cases hy0 : y = 0
          · subst hy0; omega
          · have := hxy hy0; omega]
        exact g2
      · rw [sx]
        by_cases hy0 : y = 0
        · subst hy0; omega
        · have := hxy hy0; omega
  · have hxy : ∀ z : y ≠ 0, (x < 0 ↔ y < 0) := fun z => by
      rw [← hy z, ← p0, ← e, sx]
    refine s_W_addSizes h1 h2 hc hn hn1 hn2 (fun F' A' g1 g2 => ?_)
    refine s_W_setBelowR (x := x + y) ?_ (by omega) (fun hz => ?_) (fun F'' g3 g4 => hq F'' A' ⟨fun b hb => by rw [g3 b hb, g1.1 b hb], g1.2⟩ g4)
    · rw [show (x + y).natAbs = x.natAbs + y.natAbs by
        by_cases hy0 : y = 0
        · subst hy0; omega
        · have := hxy hy0; omega]
      exact g2
    · rw [sx]
      by_cases hy0 : y = 0
      · subst hy0; omega
      · have := hxy hy0; omega
theorem s_W_growBy {T P : Nat} {p q : Int64} (h : wU F A a0 l0 n0 u v) (hp : p = lN T) (hq : q = lN P) (hT : T < 2147483648) (hP : P < 2147483648) (hu : u < n0) (hn : n0 < 2 ^ 30) {post : gm_M → gm_M → Prop} (hr : ∀ F' A' : gm_M, fr F A F' A' a0 l0 → wM F' A' a0 l0 n0 (v * T + P) → F' a0 2 = (if F a0 2 ≠ 0 ∧ v * T + P ≠ 0 then 1 else 0) → post F' A') : vc_W_growBy a0 l0 n0 p q F A post := by
  subst hp hq
  obtain ⟨p1, p2, p3, p4, p5⟩ := h
  unfold vc_W_growBy
  rw [p2]
  refine ⟨fun y x A1 => ∃ i k, x = nI i ∧ y = lN k ∧ i ≤ u ∧ k < 2147483648 ∧ sm A A1 l0 i ∧ dk 2147483648 A1 l0 i ∧ ev 2147483648 (dg A1 l0) i + k * 2147483648 ^ i = ev 2147483648 (dg A l0) i * T + P, fun _ x _ => u - x.toNatClampNeg, ⟨0, P, rfl, rfl, Nat.zero_le _, hP, sm.rf, fun k hk => absurd hk (Nat.not_lt_zero _), by simp only [ev, Nat.zero_mul, Nat.zero_add, Nat.pow_zero, Nat.mul_one]⟩, ?_⟩
  rintro _ _ A1 ⟨i, k, rfl, rfl, hi, hk, hs, hd, he⟩
  refine pk_le u i (fun e => ?_) (fun e => ?_)
  · have : i = u := by omega
    subst this
    refine ⟨pk_in i n0 hu, ?_⟩
    rw [nI_clamp (by omega), lN_i]
    rintro _ rfl
    refine s_W_trim (n := i + 1) (nI_add i 1) (by omega) (by omega) (dk_up hd hk (by decide)) (fun F' f1 f2 f3 => ?_)
    rw [ev_at (by omega), he, p5] at f2 f3
    exact hr F' _ ⟨f1, fun b hb => by rw [gm_off hb]; exact hs.1 b hb⟩ f2 f3
  · have r1 := p3 i e
    refine ⟨pk_in i n0 (by omega), ?_⟩
    rw [nI_clamp (by omega), hs.get l0 (Nat.le_refl i), r1.1]
    have d1 := r1.2
    have ev1 : ev 2147483648 (dg A l0) (i + 1) = ev 2147483648 (dg A l0) i + dg A l0 i * 2147483648 ^ i := rfl
    generalize dg A l0 i = D at d1 ev1 ⊢
    have hm : D * T ≤ 2147483647 * 2147483647 := Nat.mul_le_mul (by omega) (by omega)
    rw [nI_l (by omega), lN_mul, lN_add]
    rintro _ rfl
    refine ⟨pk_in i n0 (by omega), ?_⟩
    rw [l_m31, lN_i, show j_lushr (lN (D * T + k)) (31 : Int32) = lN ((D * T + k) / 2147483648) from jl_ushr 31 (by omega) (by decide)]
    rintro _ rfl _ rfl _ rfl
    refine ⟨⟨i + 1, (D * T + k) / 2147483648, nI_add i 1, rfl, by omega, by omega, hs.up _ (by omega), dk_up hd (by omega) (by decide), ?_⟩, ?_⟩
    · rw [ev_at (by omega), ev1]
      have hcar := ev_car 2147483648 i (D * T + k)
      generalize (D * T + k) % 2147483648 = m at hcar ⊢
      generalize (D * T + k) / 2147483648 = c at hcar ⊢
      generalize 2147483648 ^ (i + 1) = X1 at hcar ⊢
      generalize 2147483648 ^ i = X at hcar he ⊢
      grind
    · dsimp only
      rw [show nI i + (1 : Int32) = nI (i + 1) from nI_add i 1, nI_clamp (by omega), nI_clamp (by omega)]; omega
theorem s_W_growByOne (h : wU F A a0 l0 n0 u v) (hu : u < n0) (hn : n0 < 2 ^ 30) {post : gm_M → gm_M → Prop} (hr : ∀ F' A' : gm_M, fr F A F' A' a0 l0 → wM F' A' a0 l0 n0 (v + 1) → post F' A') : vc_W_growByOne a0 l0 n0 F A post := by
  unfold vc_W_growByOne
  refine s_W_growBy (T := 1) (P := 1) h rfl rfl (by decide) (by decide) hu hn (fun F' A' g1 g2 g3 => hr F' A' g1 ?_)
  rw [Nat.mul_one] at g2; exact g2
theorem ev_cons (B : Nat) (f : Nat → Nat) (t m : Nat) : ev B (fun j => f (t + j)) (m + 1) = f t + B * ev B (fun j => f (t + 1 + j)) m := by
  rw [Nat.add_comm m 1, ev_add]
  simp only [ev, Nat.pow_zero, Nat.mul_one, Nat.zero_add, Nat.add_zero, Nat.pow_one]
  congr 2
  exact ev_congr (fun j _ => by rw [Nat.add_assoc])
theorem s_W_cutBy {d : Nat} {p : Int32} (h : wU F A a0 l0 n0 u v) (hp : p = nI d) (hd0 : 0 < d) (hd : d < 2147483648) (hn : n0 < 2 ^ 30) {post : Int32 → gm_M → gm_M → Prop} (hr : ∀ F' A' : gm_M, fr F A F' A' a0 l0 → wM F' A' a0 l0 n0 (v / d) → post (nI (v % d)) F' A') : vc_W_cutBy a0 l0 n0 p F A post := by
  subst hp
  have h' := h
  obtain ⟨p1, p2, p3, p4, p5⟩ := h'
  unfold vc_W_cutBy
  rw [p2]
  rintro _ rfl
  refine ⟨fun y x A2 => ∃ z L, x = dn z ∧ z ≤ u ∧ y = lN L ∧ L = v / 2147483648 ^ z % d ∧ smd A A2 l0 z ∧ (∀ j, z ≤ j → j < u → A2 l0 j = nI (dg A2 l0 j) ∧ dg A2 l0 j < 2147483648) ∧ ev 2147483648 (fun j => dg A2 l0 (z + j)) (u - z) = v / 2147483648 ^ z / d, fun _ x _ => (x.toInt + 1).toNat, ⟨u, 0, rfl, Nat.le_refl _, rfl, ?_, smd.rf, fun j h1 h2 => by omega, ?_⟩, ?_⟩
  · rw [Nat.div_eq_of_lt h.lt, Nat.zero_mod]
  · rw [Nat.div_eq_of_lt h.lt, Nat.zero_div, Nat.sub_self]; rfl
  rintro _ _ A2 ⟨z, L, rfl, hz, rfl, hL, hs, hdk, he⟩
  refine dn_br z (by omega) (fun e => ?_) (fun t e => ?_)
  · subst e
    rw [Nat.pow_zero, Nat.div_one] at hL he
    rw [lN_i, hL]
    refine s_W_trim (n := u) rfl p1 (by omega) (fun j hj => hdk j (Nat.zero_le _) hj) (fun F' f1 f2 f3 => hr F' A2 ⟨f1, hs.1⟩ ?_)
    have e2 : ev 2147483648 (dg A2 l0) u = v / d := by
      rw [← he]
      exact ev_congr (fun j _ => by rw [Nat.zero_add])
    rw [e2] at f2; exact f2
  · subst e
    have hdt := h.dig t
    rw [show dz A l0 u t = dg A l0 t from if_pos (by omega)] at hdt
    have r1 := p3 t (by omega)
    have hlt := r1.2
    have hLd : L < d := by rw [hL]; exact Nat.mod_lt _ hd0
    rw [dn_succ]
    refine ⟨pk_in t n0 (by omega), ?_⟩
    rw [nI_clamp (by omega), hs.get l0 (by omega : t < t + 1), r1.1]
    rw [div_pow_succ] at hL he
    generalize hY : v / 2147483648 ^ t = Y at hL he hdt
    generalize dg A l0 t = D at hdt hlt ⊢
    have hLD : L * 2147483648 + D < d * 2147483648 := by
      have : L + 1 ≤ d := hLd
      have := Nat.mul_le_mul_right 2147483648 this
      omega
    have hL31 : L < 2147483648 := by omega
    have hor : j_lshl (lN L) (31 : Int32) ||| lN D = lN (L * 2147483648 + D) := by
      clear hLD hL he hY
      rw [show j_lshl (lN L) (31 : Int32) = lN (L * 2 ^ 31) from jl_shl L 31 (by decide), l_or (a := L * 2 ^ 31) (b := D) (by omega) (by omega), or_add (k := 31) (by omega)]
    have hbig : L * 2147483648 + D < 2 ^ 63 := by omega
    have hY2 : Y = d * (Y / 2147483648 / d) * 2147483648 + (L * 2147483648 + D) := by
      have h1 := Nat.div_add_mod Y 2147483648
      have h2 := Nat.div_add_mod (Y / 2147483648) d
      rw [hdt] at h1
      rw [← hL] at h2
      grind
    have hq1 : Y / d = (L * 2147483648 + D) / d + 2147483648 * (Y / 2147483648 / d) := by
      generalize Y / 2147483648 / d = q at hY2 ⊢
      rw [hY2, show d * q * 2147483648 + (L * 2147483648 + D) = (L * 2147483648 + D) + d * (2147483648 * q) by grind, Nat.add_mul_div_left _ _ hd0]
    have hq2 : Y % d = (L * 2147483648 + D) % d := by
      generalize Y / 2147483648 / d = q at hY2 ⊢
      rw [hY2, show d * q * 2147483648 + (L * 2147483648 + D) = (L * 2147483648 + D) + d * (2147483648 * q) by grind, Nat.add_mul_mod_self_left]
    have hqlt : (L * 2147483648 + D) / d < 2147483648 := Nat.div_lt_of_lt_mul hLD
    rw [nI_l (n := D) (by omega), hor, nI_l (n := d) (by omega)]
    rintro _ rfl
    have hne : ¬ lN d = 0 := fun z => by
      have := (pk_lEQ (a := d) (b := 0) (by omega) (by omega)).mp z
      omega
    refine ⟨hne, pk_in t n0 (by omega), ?_⟩
    rw [pk_lRem hbig hd0 (by omega), pk_lDiv hbig hd0 (by omega), lN_i]
    rintro _ rfl
    refine ⟨hne, ?_⟩
    rintro _ rfl _ rfl
    refine ⟨⟨t, (L * 2147483648 + D) % d, dn_next t, by omega, rfl, ?_, hs.up _, fun j h1 h2 => ?_, ?_⟩, ?_⟩
    · rw [hY, hq2]
    · by_cases c : j = t
      · subst c
        rw [dg_at _ _ _ (by omega), up_at]
        exact ⟨rfl, hqlt⟩
      · rw [dg_ne _ _ c, up_ne _ _ c]
        exact hdk j (by omega) h2
    · rw [show u - t = (u - (t + 1)) + 1 by omega, ev_cons, dg_at _ _ _ (by omega), hY, hq1, ← he]
      congr 2
      exact ev_congr (fun j _ => dg_ne _ _ (by omega))
    · dsimp only
      rw [dn_next, dn_mu _ (by omega), nI_toInt (by omega)]; omega
end W4
