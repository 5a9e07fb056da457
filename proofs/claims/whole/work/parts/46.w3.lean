theorem pl_lt {x y : Int64} {A B : Prop} (a b : Nat) (f : a < b → A) (g : b ≤ a → B) (hx : x = lN a := by rfl) (hy : y = lN b := by rfl) (ha : a < 2 ^ 63 := by omega) (hb : b < 2 ^ 63 := by omega) : (x < y → A) ∧ (¬ x < y → B) := by
  subst hx hy
  rw [pk_lLT ha hb]
  exact ⟨f, fun z => g (by omega)⟩
theorem pl_le {x y : Int64} {A B : Prop} (a b : Nat) (f : a ≤ b → A) (g : b < a → B) (hx : x = lN a := by rfl) (hy : y = lN b := by rfl) (ha : a < 2 ^ 63 := by omega) (hb : b < 2 ^ 63 := by omega) : (x ≤ y → A) ∧ (¬ x ≤ y → B) := by
  subst hx hy
  rw [pk_lLE ha hb]
  exact ⟨f, fun z => g (by omega)⟩
theorem pl_eq {x y : Int64} {A B : Prop} (a b : Nat) (f : a = b → A) (g : a ≠ b → B) (hx : x = lN a := by rfl) (hy : y = lN b := by rfl) (ha : a < 2 ^ 63 := by omega) (hb : b < 2 ^ 63 := by omega) : (x = y → A) ∧ (¬ x = y → B) := by
  subst hx hy
  rw [pk_lEQ ha hb]
  exact ⟨f, g⟩
theorem div_pow_succ (v B t : Nat) : v / B ^ (t + 1) = v / B ^ t / B := by rw [Nat.pow_succ, Nat.div_div_eq_div_mul]
def cmpN (a b : Nat) : Int := if a < b then -1 else if a = b then 0 else 1
def cmpZ (a b : Int) : Int := if a < b then -1 else if a = b then 0 else 1
section W3
variable {F A : gm_M} {a0 l0 n0 u v a1 l1 n1 u1 v1 a2 l2 n2 u2 v2 : Nat}
theorem s_W_foldedBits {x : Int} (h : wR F A a0 l0 n0 x) (hn : n0 < 2 ^ 31) {post : Int64 → Prop} (hp : post (lZ (if x < 0 then -((x.natAbs % 2305843009213693951 : Nat) : Int) else ((x.natAbs % 2305843009213693951 : Nat) : Int)))) : vc_W_foldedBits a0 l0 n0 F A post := by
  obtain ⟨⟨u, hu⟩, hb⟩ := h
  have hu' := hu
  obtain ⟨p1, p2, p3, p4, p5⟩ := hu'
  unfold vc_W_foldedBits
  rw [p2, hb]
  rintro _ rfl
  refine ⟨fun y x' => ∃ z L, x' = dn z ∧ z ≤ u ∧ y = lN L ∧ L < 2305843009213693951 ∧ L = (x.natAbs / 2147483648 ^ z) % 2305843009213693951, fun _ x' => (x'.toInt + 1).toNat, ⟨u, 0, rfl, Nat.le_refl _, rfl, by decide, ?_⟩, ?_⟩
  · rw [Nat.div_eq_of_lt hu.lt]
  · rintro _ _ ⟨z, L, rfl, hz, rfl, hL, eL⟩
    refine dn_br z (by omega) (fun e => ?_) (fun t e => ?_)
    · subst e
      rw [Nat.pow_zero, Nat.div_one] at eL
      unfold sb
      by_cases hx : x < 0
      · rw [if_pos hx] at hp ⊢
        refine pk_eq 1 0 (fun e => absurd e (by decide)) (fun _ => ?_)
        rw [lZ_lN, lZ_neg, eL]; exact hp
      · rw [if_neg hx] at hp ⊢
        refine pk_eq 0 0 (fun _ => ?_) (fun e => absurd rfl e)
        rw [lZ_lN, eL]; exact hp
    · subst e
      have hdt := hu.dig t
      rw [show dz A l0 u t = dg A l0 t from if_pos (by omega)] at hdt
      have hlt := (p3 t (by omega)).2
      rw [div_pow_succ] at eL
      have key : j_lshl (lN L) (31 : Int32) &&& (2305843009213693951 : Int64) ||| j_lushr (lN L) (30 : Int32) = lN (L % 2 ^ 30 * 2 ^ 31 + L / 2 ^ 30) := by
        rw [show j_lshl (lN L) (31 : Int32) = lN (L * 2 ^ 31) from jl_shl L 31 (by decide), show j_lushr (lN L) (30 : Int32) = lN (L / 2 ^ 30) from jl_ushr 30 (by omega) (by decide)]
        rw [lZ_lN (L * 2 ^ 31), lZ_mask _ 61 _ (by decide) (by decide), show ((L * 2 ^ 31 : Nat) : Int) % 2 ^ 61 = ((L % 2 ^ 30 * 2 ^ 31 : Nat) : Int) by omega, ← lZ_lN]
        rw [l_or (by omega) (by omega), or_add (by omega)]
      rw [key]
      rintro _ rfl
      rw [dn_succ]
      refine ⟨pk_in t n0 (by omega), ?_⟩
      rw [nI_clamp (by omega), (p3 t (by omega)).1, nI_l (by omega), lN_add]
      rintro _ rfl
      have hmod : (x.natAbs / 2147483648 ^ t) % 2305843009213693951 = (L % 2 ^ 30 * 2 ^ 31 + L / 2 ^ 30 + dg A l0 t) % 2305843009213693951 := by
        generalize x.natAbs / 2147483648 ^ t = Y at hdt eL ⊢
        omega
      refine pl_lt (L % 2 ^ 30 * 2 ^ 31 + L / 2 ^ 30 + dg A l0 t) 2305843009213693951 (fun e => ?_) (fun e => ?_)
      · rintro _ rfl
        refine ⟨⟨t, _, dn_next t, by omega, rfl, e, ?_⟩, ?_⟩
        · rw [hmod, Nat.mod_eq_of_lt e]
        · dsimp only
          rw [dn_next, dn_mu _ (by omega), nI_toInt (by omega)]; omega
      · rintro _ rfl
        rw [show lN (L % 2 ^ 30 * 2 ^ 31 + L / 2 ^ 30 + dg A l0 t) - (2305843009213693951 : Int64) = lN (L % 2 ^ 30 * 2 ^ 31 + L / 2 ^ 30 + dg A l0 t - 2305843009213693951) from lN_sub e]
        rintro _ rfl
        refine ⟨⟨t, _, dn_next t, by omega, rfl, by omega, ?_⟩, ?_⟩
        · rw [hmod]; omega
        · dsimp only
          rw [dn_next, dn_mu _ (by omega), nI_toInt (by omega)]; omega
theorem wU.ltu (h0 : wU F A a0 l0 n0 u v) (h1 : wU F A a1 l1 n1 u1 v1) (h : u1 < u) : v1 < v := by
  obtain ⟨t, rfl⟩ : ∃ t, u = t + 1 := ⟨u - 1, by omega⟩
  have g1 := h1.lt
  have g2 := h0.ge
  have g3 : 2147483648 ^ u1 ≤ 2147483648 ^ t := Nat.pow_le_pow_right (by decide) (by omega)
  omega
theorem s_W_order (h0 : wU F A a0 l0 n0 u v) (h1 : wU F A a1 l1 n1 u1 v1) (hn : n0 < 2 ^ 31) (hn1 : n1 < 2 ^ 31) {post : Int32 → Prop} (hp : post (iZ (cmpN v v1))) : vc_W_orderOfSizes a0 l0 n0 a1 l1 n1 F A post := by
  have h0' := h0
  have h1' := h1
  obtain ⟨p1, p2, p3, p4, p5⟩ := h0'
  obtain ⟨q1, q2, q3, q4, q5⟩ := h1'
  unfold vc_W_orderOfSizes
  rw [p2, q2]
  have gt : v1 < v → post (1 : Int32) := fun h => by
    rw [show cmpN v v1 = 1 by unfold cmpN; rw [if_neg (by omega), if_neg (by omega)]] at hp; exact hp
  have lt : v < v1 → post (-1 : Int32) := fun h => by
    rw [show cmpN v v1 = -1 by unfold cmpN; rw [if_pos h]] at hp; exact hp
  have eq : v = v1 → post (0 : Int32) := fun h => by
    rw [show cmpN v v1 = 0 by unfold cmpN; rw [if_neg (by omega), if_pos h]] at hp; exact hp
  refine pk_eq u u1 (fun e => ?_) (fun e => ?_)
  · subst e
    rintro _ rfl
    refine ⟨fun x => ∃ z, x = dn z ∧ z ≤ u ∧ ∀ j, z ≤ j → j < u → dg A l0 j = dg A l1 j, fun x => (x.toInt + 1).toNat, ⟨u, rfl, Nat.le_refl _, fun j h1 h2 => by omega⟩, ?_⟩
    rintro _ ⟨z, rfl, hz, hj⟩
    refine dn_br z (by omega) (fun e => ?_) (fun t e => ?_)
    · refine eq ?_
      rw [← p5, ← q5]
      exact ev_congr (fun j h => hj j (by omega) h)
    · subst e
      rw [dn_succ]
      refine ⟨pk_in t n0 (by omega), pk_in t n1 (by omega), ?_⟩
      have r0 := p3 t (by omega)
      have r1 := q3 t (by omega)
      rw [nI_clamp (by omega), r0.1, r1.1]
      refine pk_eq (dg A l0 t) (dg A l1 t) (fun e => ?_) (fun e => ?_)
      · rintro _ rfl
        refine ⟨⟨t, dn_next t, by omega, fun j h1 h2 => ?_⟩, ?_⟩
        · by_cases hjt : j = t
          · subst hjt; exact e
          · exact hj j (by omega) h2
        · dsimp only
          rw [dn_next, dn_mu _ (by omega), nI_toInt (by omega)]; omega
      · refine ⟨pk_in t n0 (by omega), pk_in t n1 (by omega), ?_⟩
        refine pk_le (dg A l1 t) (dg A l0 t) (fun e1 => gt ?_) (fun e1 => lt ?_)
        · rw [← p5, ← q5]
          exact ev_cmp (k := t) (by omega) (fun j hj => (q3 j hj).2) (fun j h1 h2 => (hj j (by omega) h2).symm) (by omega)
        · rw [← p5, ← q5]
          exact ev_cmp (k := t) (by omega) (fun j hj => (p3 j hj).2) (fun j h1 h2 => hj j (by omega) h2) (by omega)
  · exact pk_le u1 u (fun e1 => gt (h0.ltu h1 (by omega))) (fun e1 => lt (h1.ltu h0 (by omega)))
theorem s_W_orderTo {x y : Int} (h0 : wR F A a0 l0 n0 x) (h1 : wR F A a1 l1 n1 y) (hn : n0 < 2 ^ 31) (hn1 : n1 < 2 ^ 31) {post : Int32 → Prop} (hp : post (iZ (cmpZ x y))) : vc_W_orderTo a0 l0 n0 a1 l1 n1 F A post := by
  have g0 := h0
  have g1 := h1
  obtain ⟨⟨u0, w0⟩, b0⟩ := g0
  obtain ⟨⟨u1, w1⟩, b1⟩ := g1
  have rs : ∀ z : Int, -1 ≤ z.sign ∧ z.sign ≤ 1 := fun z => by
    rcases Int.lt_trichotomy z 0 with h | h | h
    · rw [Int.sign_eq_neg_one_of_neg h]; omega
    · subst h; exact ⟨by decide, by decide⟩
    · rw [Int.sign_eq_one_of_pos h]; omega
  have sx := rs x
  have sy := rs y
  unfold vc_W_orderTo
  refine s_W_sign h0 hn (s_W_sign h1 hn1 ?_)
  have ss : ∀ z : Int, (z.sign = 1 ↔ 0 < z) ∧ (z.sign = -1 ↔ z < 0) ∧ (z.sign = 0 ↔ z = 0) := fun z => ⟨Int.sign_eq_one_iff_pos, Int.sign_eq_neg_one_iff_neg, Int.sign_eq_zero_iff_zero⟩
  have tx := ss x
  have ty := ss y
  refine ⟨fun e => ?_, fun e => ?_⟩
  · have e := (iZ_eq (by omega) (by omega) (by omega) (by omega)).mp e
    rw [b0]
    unfold sb
    by_cases hx : x < 0
    · rw [if_pos hx]
      refine pk_eq 1 0 (fun e => absurd e (by decide)) (fun _ => ?_)
      refine s_W_order w1 w0 hn1 hn ?_
      rw [show cmpN y.natAbs x.natAbs = cmpZ x y by
        unfold cmpN cmpZ
        by_cases c1 : x < y
        · rw [if_pos c1, if_pos (by omega)]
        · by_cases c2 : x = y
          · rw [if_neg c1, if_pos c2, if_neg (by omega), if_pos (by omega)]
          · rw [if_neg c1, if_neg c2, if_neg (by omega), if_neg (by omega)]]
      exact hp
    · rw [if_neg hx]
      refine pk_eq 0 0 (fun _ => ?_) (fun e => absurd rfl e)
      refine s_W_order w0 w1 hn hn1 ?_
      rw [show cmpN x.natAbs y.natAbs = cmpZ x y by
        unfold cmpN cmpZ
        by_cases c1 : x < y
        · rw [if_pos c1, if_pos (by omega)]
        · by_cases c2 : x = y
          · rw [if_neg c1, if_pos c2, if_neg (by omega), if_pos (by omega)]
          · rw [if_neg c1, if_neg c2, if_neg (by omega), if_neg (by omega)]]
      exact hp
  · have e : ¬ x.sign = y.sign := fun z => e (by rw [z])
    refine s_W_sign h0 hn (s_W_sign h1 hn1 ?_)
    refine ⟨fun z => ?_, fun z => ?_⟩
    · have z := (iZ_le (by omega) (by omega) (by omega) (by omega)).mp z
      rw [show cmpZ x y = 1 by unfold cmpZ; rw [if_neg (by omega), if_neg (by omega)]] at hp
      exact hp
    · have z : ¬ y.sign ≤ x.sign := fun z2 => z ((iZ_le (by omega) (by omega) (by omega) (by omega)).mpr z2)
      rw [show cmpZ x y = -1 by unfold cmpZ; rw [if_pos (by omega)]] at hp
      exact hp
theorem s_limb {A' : gm_M} (hu : u ≤ n0 ∧ F a0 1 = nI u ∧ dk 2147483648 A l0 u) (hn : n0 < 2 ^ 31) {p : Int32} {i : Nat} (hp : p = nI i) (hi : i < 2 ^ 31) (hg : A' l0 i = A l0 i) {post : Int32 → Prop} (h : post (nI (dz A l0 u i))) : vc_W_limbAt a0 l0 n0 p F A' post := by
  subst hp
  unfold vc_W_limbAt
  rw [hu.2.1]
  have h1 := hu.1
  refine pk_le u i (fun e => ?_) (fun e => ?_)
  · rw [show dz A l0 u i = 0 from if_neg (by omega)] at h; exact h
  · refine ⟨pk_in i n0 (by omega), ?_⟩
    rw [show dz A l0 u i = dg A l0 i from if_pos e] at h
    rw [nI_clamp hi, hg, (hu.2.2 i e).1]
    exact h
theorem s_W_addSizes (h1 : wU F A a1 l1 n1 u1 v1) (h2 : wU F A a2 l2 n2 u2 v2) (hc : u1 < n0 ∧ u2 < n0) (hn : n0 < 2 ^ 30) (hn1 : n1 < 2 ^ 30) (hn2 : n2 < 2 ^ 30) {post : gm_M → gm_M → Prop} (hq : ∀ F' A' : gm_M, fr F A F' A' a0 l0 → wM F' A' a0 l0 n0 (v1 + v2) → post F' A') : vc_W_addSizes a0 l0 n0 a1 l1 n1 a2 l2 n2 F A post := by
  have h1' : u1 ≤ n1 ∧ F a1 1 = nI u1 ∧ dk 2147483648 A l1 u1 := ⟨h1.1, h1.2.1, h1.2.2.1⟩
  have h2' : u2 ≤ n2 ∧ F a2 1 = nI u2 ∧ dk 2147483648 A l2 u2 := ⟨h2.1, h2.2.1, h2.2.2.1⟩
  have g1 := h1'.1
  have g2 := h2'.1
  unfold vc_W_addSizes
  rw [h1.2.1, h2.2.1]
  obtain ⟨m, hm, hm1, hm2, hm3⟩ : ∃ m, (if nI u1 < nI u2 then nI u2 else nI u1) = nI m ∧ u1 ≤ m ∧ u2 ≤ m ∧ m < n0 := by
    by_cases c : u1 < u2
    · exact ⟨u2, by rw [if_pos ((nI_ltI (by omega) (by omega)).mpr c)], by omega, by omega, hc.2⟩
    · exact ⟨u1, by rw [if_neg (fun z => c ((nI_ltI (by omega) (by omega)).mp z))], by omega, by omega, hc.1⟩
  rw [hm]
  rintro _ rfl
  refine ⟨fun y x A2 => ∃ i k, x = nI i ∧ y = lN k ∧ i ≤ m ∧ k ≤ 1 ∧ sm A A2 l0 i ∧ dk 2147483648 A2 l0 i ∧ ev 2147483648 (dg A2 l0) i + k * 2147483648 ^ i = ev 2147483648 (dz A l1 u1) i + ev 2147483648 (dz A l2 u2) i, fun _ x _ => m - x.toNatClampNeg, ⟨0, 0, rfl, rfl, Nat.zero_le _, Nat.zero_le _, sm.rf, fun k hk => absurd hk (Nat.not_lt_zero _), rfl⟩, ?_⟩
  rintro _ _ A2 ⟨i, k, rfl, rfl, hi, hk, hs, hd, he⟩
  refine pk_le m i (fun e => ?_) (fun e => ?_)
  · have : i = m := by omega
    subst this
    refine ⟨pk_in i n0 hm3, ?_⟩
    rw [nI_clamp (by omega), lN_i]
    rintro _ rfl
    refine s_W_trim (n := i + 1) (nI_add i 1) (by omega) (by omega) (dk_up hd (by omega) (by decide)) (fun F' f1 f2 f3 => hq F' _ ⟨f1, fun b hb => by rw [gm_off hb]; exact hs.1 b hb⟩ ?_)
    rw [ev_at (by omega), he, ev_dz hm1, ev_dz hm2, h1.2.2.2.2, h2.2.2.2.2] at f2
    exact f2
  · refine s_limb h1' (by omega) rfl (by omega) (hs.get l1 (Nat.le_refl _)) (s_limb h2' (by omega) rfl (by omega) (hs.get l2 (Nat.le_refl _)) ?_)
    have d1 := dz_lt (i := i) h1'.2.2
    have d2 := dz_lt (i := i) h2'.2.2
    have ev1 : ev 2147483648 (dz A l1 u1) (i + 1) = ev 2147483648 (dz A l1 u1) i + dz A l1 u1 i * 2147483648 ^ i := rfl
    have ev2 : ev 2147483648 (dz A l2 u2) (i + 1) = ev 2147483648 (dz A l2 u2) i + dz A l2 u2 i * 2147483648 ^ i := rfl
    generalize dz A l1 u1 i = D1 at d1 ev1 ⊢
    generalize dz A l2 u2 i = D2 at d2 ev2 ⊢
    rw [nI_l (by omega), nI_l (by omega), lN_add, lN_add]
    rintro _ rfl
    refine ⟨pk_in i n0 (by omega), ?_⟩
    rw [nI_clamp (by omega), l_m31, lN_i, show j_lushr (lN (D1 + D2 + k)) (31 : Int32) = lN ((D1 + D2 + k) / 2147483648) from jl_ushr 31 (by omega) (by decide)]
    rintro _ rfl _ rfl _ rfl
    refine ⟨⟨i + 1, (D1 + D2 + k) / 2147483648, nI_add i 1, rfl, by omega, by omega, hs.up _ (by omega), dk_up hd (by omega) (by decide), ?_⟩, ?_⟩
    · rw [ev_at (by omega), ev1, ev2]
      have := ev_car 2147483648 i (D1 + D2 + k)
      rw [Nat.add_mul, Nat.add_mul] at this
      omega
    · dsimp only
      rw [show nI i + (1 : Int32) = nI (i + 1) from nI_add i 1, nI_clamp (by omega), nI_clamp (by omega)]; omega
theorem s_W_subtractSizes (h1 : wU F A a1 l1 n1 u1 v1) (h2 : wU F A a2 l2 n2 u2 v2) (hv : v2 ≤ v1) (hc : u1 ≤ n0) (hn : n0 < 2 ^ 30) (hn1 : n1 < 2 ^ 30) (hn2 : n2 < 2 ^ 30) {post : gm_M → gm_M → Prop} (hq : ∀ F' A' : gm_M, fr F A F' A' a0 l0 → wM F' A' a0 l0 n0 (v1 - v2) → post F' A') : vc_W_subtractSizes a0 l0 n0 a1 l1 n1 a2 l2 n2 F A post := by
  have h2' : u2 ≤ n2 ∧ F a2 1 = nI u2 ∧ dk 2147483648 A l2 u2 := ⟨h2.1, h2.2.1, h2.2.2.1⟩
  have g1 := h1.1
  have g2 := h2'.1
  have hu : u2 ≤ u1 := by
    rcases Nat.lt_or_ge u1 u2 with c | c
    · have := h2.ltu h1 c; omega
    · exact c
  unfold vc_W_subtractSizes
  rw [h1.2.1]
  rintro _ rfl
  refine ⟨fun y x A2 => ∃ i k, x = nI i ∧ y = nI k ∧ i ≤ u1 ∧ k ≤ 1 ∧ sm A A2 l0 i ∧ dk 2147483648 A2 l0 i ∧ ev 2147483648 (dg A l1) i + k * 2147483648 ^ i = ev 2147483648 (dg A2 l0) i + ev 2147483648 (dz A l2 u2) i, fun _ x _ => u1 - x.toNatClampNeg, ⟨0, 0, rfl, rfl, Nat.zero_le _, Nat.zero_le _, sm.rf, fun k hk => absurd hk (Nat.not_lt_zero _), by simp only [ev, Nat.zero_mul, Nat.add_zero]⟩, ?_⟩
  rintro _ _ A2 ⟨i, k, rfl, rfl, hi, hk, hs, hd, he⟩
  refine pk_le u1 i (fun e => ?_) (fun e => ?_)
  · have : i = u1 := by omega
    subst this
    have hlt := ev_lt (B := 2147483648) (fun k hk => (hd k hk).2)
    rw [ev_dz hu, h1.2.2.2.2, h2.2.2.2.2] at he
    have hk0 : k = 0 := by
      rcases Nat.lt_or_ge 0 k with c | c
      · have : k = 1 := by omega
        subst this
        rw [Nat.one_mul] at he
        omega
      · omega
    subst hk0
    rw [Nat.zero_mul, Nat.add_zero] at he
    refine s_W_trim (n := i) rfl hc (by omega) hd (fun F' f1 f2 f3 => hq F' _ ⟨f1, hs.1⟩ ?_)
    rw [show ev 2147483648 (dg A2 l0) i = v1 - v2 by omega] at f2
    exact f2
  · have r1 := h1.2.2.1 i e
    refine ⟨pk_in i n1 (by omega), ?_⟩
    refine s_limb h2' (by omega) rfl (by omega) (hs.get l2 (Nat.le_refl _)) ?_
    have d2 := dz_lt (i := i) h2'.2.2
    have ev1 : ev 2147483648 (dg A l1) (i + 1) = ev 2147483648 (dg A l1) i + dg A l1 i * 2147483648 ^ i := rfl
    have ev2 : ev 2147483648 (dz A l2 u2) (i + 1) = ev 2147483648 (dz A l2 u2) i + dz A l2 u2 i * 2147483648 ^ i := rfl
    rw [nI_clamp (by omega), hs.get l1 (Nat.le_refl i), r1.1]
    have d1 := r1.2
    generalize dg A l1 i = D1 at d1 ev1 ⊢
    generalize dz A l2 u2 i = D2 at d2 ev2 ⊢
    rw [iZ_nI D1, iZ_nI D2, iZ_nI k, iZ_sub, iZ_sub]
    rintro _ rfl
    refine ⟨pk_in i n0 (by omega), ?_⟩
    rw [iZ_mask _ 31 _ (by decide) (by decide)]
    rintro _ rfl
    refine ⟨fun c => ?_, fun c => ?_⟩
    · have c : 0 ≤ (D1 : Int) - D2 - k := (iZ_le (a := 0) (by omega) (by omega) (by omega) (by omega)).mp c
      rintro _ rfl
      obtain ⟨w, hw⟩ : ∃ w, w + D2 + k = D1 := ⟨D1 - D2 - k, by omega⟩
      rw [show ((D1 : Int) - D2 - k) % 2 ^ 31 = (w : Int) by omega, ← iZ_nI]
      refine ⟨⟨i + 1, 0, nI_add i 1, rfl, by omega, by omega, hs.up _ (by omega), dk_up hd (by omega) (by decide), ?_⟩, ?_⟩
      · rw [ev_at (by omega), ev1, ev2]
        have : (w + D2 + k) * 2147483648 ^ i = D1 * 2147483648 ^ i := by rw [hw]
        rw [Nat.add_mul, Nat.add_mul] at this
        omega
      · dsimp only
        rw [show nI i + (1 : Int32) = nI (i + 1) from nI_add i 1, nI_clamp (by omega), nI_clamp (by omega)]; omega
    · have c : ¬ 0 ≤ (D1 : Int) - D2 - k := fun z => c ((iZ_le (a := 0) (by omega) (by omega) (by omega) (by omega)).mpr z)
      rintro _ rfl
      obtain ⟨w, hw⟩ : ∃ w, w + D2 + k = D1 + 2147483648 := ⟨(((D1 : Int) - D2 - k) % 2147483648).toNat, by omega⟩
      rw [show ((D1 : Int) - D2 - k) % 2 ^ 31 = (w : Int) by omega, ← iZ_nI]
      refine ⟨⟨i + 1, 1, nI_add i 1, rfl, by omega, by omega, hs.up _ (by omega), dk_up hd (by omega) (by decide), ?_⟩, ?_⟩
      · rw [ev_at (by omega), ev1, ev2, Nat.pow_succ]
        have : (w + D2 + k) * 2147483648 ^ i = (D1 + 2147483648) * 2147483648 ^ i := by rw [hw]
        rw [Nat.add_mul, Nat.add_mul, Nat.add_mul D1] at this
        omega
      · dsimp only
        rw [show nI i + (1 : Int32) = nI (i + 1) from nI_add i 1, nI_clamp (by omega), nI_clamp (by omega)]; omega
end W3
