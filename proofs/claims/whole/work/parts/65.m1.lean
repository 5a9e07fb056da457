/-! numbers of the reference: digits of 16 bits in an array -/
def aV (A : gm_M) (a m v : Nat) : Prop := dk 65536 A a m ∧ ev 65536 (dg A a) m = v
def aU (A : gm_M) (a u v : Nat) : Prop := dk 65536 A a u ∧ (∀ t, u = t + 1 → dg A a t ≠ 0) ∧ ev 65536 (dg A a) u = v
theorem aU.v {A : gm_M} {a u v : Nat} (h : aU A a u v) : aV A a u v := ⟨h.1, h.2.2⟩
theorem aV.congr {A A' : gm_M} {a a' u v : Nat} (h : aV A a u v) (e : ∀ k, k < u → A' a' k = A a k) : aV A' a' u v := ⟨dk_congr h.1 e, (ev_of e).trans h.2⟩
theorem aU.congr {A A' : gm_M} {a a' u v : Nat} (h : aU A a u v) (e : ∀ k, k < u → A' a' k = A a k) : aU A' a' u v := ⟨dk_congr h.1 e, fun t ht => by rw [dg_congr (e t (by omega))]; exact h.2.1 t ht, (ev_of e).trans h.2.2⟩
theorem aU.cong {A A' : gm_M} {a u v : Nat} (h : aU A a u v) (e : A' a = A a) : aU A' a u v := h.congr (fun k _ => by rw [e])
theorem aV.lt {A : gm_M} {a u v : Nat} (h : aV A a u v) : v < 65536 ^ u := by rw [← h.2]; exact ev_lt (fun k hk => (h.1 k hk).2)
theorem aU.lt {A : gm_M} {a u v : Nat} (h : aU A a u v) : v < 65536 ^ u := h.v.lt
theorem aU.ge {A : gm_M} {a t v : Nat} (h : aU A a (t + 1) v) : 65536 ^ t ≤ v := by
  rw [← h.2.2]; exact ev_top (h.2.1 t rfl)
theorem aU.pos {A : gm_M} {a u v : Nat} (h : aU A a u v) : u = 0 ↔ v = 0 := by
  constructor
  · intro e; subst e; exact h.2.2.symm
  · intro e
    match u, h with
    | 0, _ => rfl
    | t + 1, h =>
      have h1 := h.ge
      have h2 : 0 < 65536 ^ t := Nat.pow_pos (by decide)
      omega
theorem aU.le {A : gm_M} {a u v b : Nat} (h : aU A a u v) (hv : v < 2 ^ b) : 16 * u < b + 16 := by
  match u, h with
  | 0, _ => omega
  | t + 1, h =>
    have h1 := h.ge
    rw [pow16] at h1
    have h2 : 2 ^ (16 * t) < 2 ^ b := by omega
    have := (Nat.pow_lt_pow_iff_right (by decide : 1 < 2)).mp h2
    omega
theorem aU.ltu {A A' : gm_M} {a u v a1 u1 v1 : Nat} (h0 : aU A a u v) (h1 : aU A' a1 u1 v1) (h : u1 < u) : v1 < v := by
  obtain ⟨t, rfl⟩ : ∃ t, u = t + 1 := ⟨u - 1, by omega⟩
  have g1 := h1.lt
  have g2 := h0.ge
  have := Nat.pow_le_pow_right (n := 65536) (by decide) (show u1 ≤ t by omega)
  omega
theorem aU.uniq {A A' : gm_M} {a u v a1 u1 : Nat} (h0 : aU A a u v) (h1 : aU A' a1 u1 v) : u = u1 := by
  rcases Nat.lt_trichotomy u u1 with c | c | c
  · have := h1.ltu h0 c; omega
  · exact c
  · have := h0.ltu h1 c; omega
theorem aV.dig {A : gm_M} {a u v : Nat} (h : aV A a u v) (j : Nat) : v / 65536 ^ j % 65536 = dz A a u j := by
  rw [← h.2]
  unfold dz
  by_cases hj : j < u
  · rw [if_pos hj]; exact ev_dig (fun k hk => (h.1 k hk).2) hj (by decide)
  · rw [if_neg hj, ev_high (fun k hk => (h.1 k hk).2) (by omega) (by decide)]
theorem aV.more {A : gm_M} {a u m v : Nat} (h : aV A a m v) (hu : u ≤ m) (hz : ∀ k, u ≤ k → k < m → dg A a k = 0) : aV A a u v := by
  refine ⟨dk_le h.1 hu, ?_⟩
  obtain ⟨t, rfl⟩ : ∃ t, m = u + t := ⟨m - u, by omega⟩
  have e := h.2
  rw [ev_add, ev_zero (d := fun j => dg A a (u + j)) (fun j hj => hz _ (by omega) (by omega)), Nat.mul_zero, Nat.add_zero] at e
  exact e
section M1
variable {F A : gm_M} {a1 n1 u1 v1 a3 n3 u3 v3 a5 n5 : Nat} {p2 p4 : Int32}
theorem s_M_trim {m v : Nat} (hp : p2 = nI m) (hm : m ≤ n1) (hn : n1 ≤ 9000) (h : aV A a1 m v) {post : Int32 → Prop} (hr : ∀ u, u ≤ m → aU A a1 u v → post (nI u)) : vc_M_trim a1 n1 p2 F A post := by
  subst hp
  unfold vc_M_trim
  refine ⟨fun x => ∃ t, x = nI t ∧ t ≤ m ∧ aV A a1 t v, fun x => x.toNatClampNeg, ⟨m, rfl, Nat.le_refl _, h⟩, ?_⟩
  rintro _ ⟨t, rfl, ht, hv⟩
  refine pk_le t 0 (fun c => ?_) (fun c => ?_)
  · have : t = 0 := by omega
    subst this
    exact hr 0 (Nat.zero_le _) ⟨hv.1, fun t ht => by omega, hv.2⟩
  · obtain ⟨s, rfl⟩ : ∃ s, t = s + 1 := ⟨t - 1, by omega⟩
    rw [nI_m1 (by omega), Nat.add_sub_cancel]
    refine ⟨pk_in s n1 (by omega), ?_⟩
    have r := hv.1 s (by omega)
    have hl := r.2
    rw [nI_clamp (by omega), r.1]
    refine (pk_eq (dg A a1 s) 0 (fun d => ?_) (fun d => ?_)).symm
    · rw [pk_m1]
      rintro _ rfl
      refine ⟨⟨s, rfl, by omega, hv.more (by omega) (fun k h1 h2 => by rw [show k = s by omega]; exact d)⟩, ?_⟩
      dsimp only
      rw [nI_clamp (by omega), nI_clamp (by omega)]; omega
    · exact hr (s + 1) ht ⟨hv.1, fun t ht => by rw [show t = s by omega]; exact d, hv.2⟩
theorem s_M_compared (hp2 : p2 = nI u1) (hp4 : p4 = nI u3) (h1 : aU A a1 u1 v1) (h3 : aU A a3 u3 v3) (g1 : u1 ≤ n1) (g3 : u3 ≤ n3) (hn1 : n1 ≤ 9000) (hn3 : n3 ≤ 9000) {post : Int32 → Prop} (hr : post (iZ (cmpN v1 v3))) : vc_M_compared a1 n1 p2 a3 n3 p4 F A post := by
  subst hp2 hp4
  unfold vc_M_compared
  have lt : v1 < v3 → post (-1) := fun c => by unfold cmpN at hr; rw [if_pos c] at hr; exact hr
  have gt : v3 < v1 → post 1 := fun c => by unfold cmpN at hr; rw [if_neg (by omega), if_neg (by omega)] at hr; exact hr
  refine pk_eq u1 u3 (fun e => ?_) (fun e => pk_le u3 u1 (fun c => gt (h1.ltu h3 (by omega))) (fun c => lt (h3.ltu h1 c)))
  subst e
  rintro _ rfl
  refine ⟨fun x => ∃ z, x = dn z ∧ z ≤ u1 ∧ ∀ j, z ≤ j → j < u1 → dg A a1 j = dg A a3 j, fun x => (x.toInt + 1).toNat, ⟨u1, rfl, Nat.le_refl _, fun j a b => by omega⟩, ?_⟩
  rintro _ ⟨z, rfl, hz, hj⟩
  refine dn_br z (by omega) (fun e => ?_) (fun t e => ?_)
  · have : v1 = v3 := by rw [← h1.2.2, ← h3.2.2]; exact ev_congr (fun j h => hj j (by omega) h)
    unfold cmpN at hr
    rw [if_neg (by omega), if_pos this] at hr
    exact hr
  · subst e
    rw [dn_succ]
    have r1 := h1.1 t (by omega)
    have r3 := h3.1 t (by omega)
    have l1 := r1.2
    have l3 := r3.2
    refine ⟨pk_in t n1 (by omega), pk_in t n3 (by omega), ?_⟩
    rw [nI_clamp (by omega), r1.1, r3.1]
    refine pk_eq (dg A a1 t) (dg A a3 t) (fun c => ?_) (fun c => ?_)
    · rintro _ rfl
      refine ⟨⟨t, dn_next t, by omega, fun j a b => ?_⟩, ?_⟩
      · by_cases d : j = t
        · subst d; exact c
        · exact hj j (by omega) b
      · dsimp only
        rw [dn_next, dn_mu t (by omega), nI_toInt (by omega)]; omega
    · refine ⟨pk_in t n1 (by omega), pk_in t n3 (by omega), ?_⟩
      refine pk_le (dg A a3 t) (dg A a1 t) (fun d => gt ?_) (fun d => lt ?_)
      · rw [← h1.2.2, ← h3.2.2]
        exact ev_cmp (by omega : t < u1) (fun j hj => (h3.1 j hj).2) (fun j a b => (hj j (by omega) b).symm) (by omega)
      · rw [← h1.2.2, ← h3.2.2]
        exact ev_cmp (by omega : t < u1) (fun j hj => (h1.1 j hj).2) (fun j a b => hj j (by omega) b) d
theorem i_m16 {n : Nat} (h : n < 2 ^ 32) : nI n &&& (65535 : Int32) = nI (n % 65536) := pk_andN h 16 (by decide)
theorem i_s16 {n : Nat} (h : n < 2 ^ 31) : nI n >>> ((16 : Int32) &&& 31) = nI (n / 65536) := ji_shr 16 h (by decide)
theorem s_M_plus (hp2 : p2 = nI u1) (hp4 : p4 = nI u3) (h1 : aV A a1 u1 v1) (h3 : aV A a3 u3 v3) (g1 : u1 ≤ n1) (g3 : u3 ≤ n3) (g5 : u1 < n5 ∧ u3 < n5) (hn1 : n1 ≤ 9000) (hn3 : n3 ≤ 9000) (hn5 : n5 ≤ 9000) {post : Int32 → gm_M → Prop} (hr : ∀ A' u, (∀ b, b ≠ a5 → A' b = A b) → (u ≤ u1 + 1 ∨ u ≤ u3 + 1) → aU A' a5 u (v1 + v3) → post (nI u) A') : vc_M_plus a1 n1 p2 a3 n3 p4 a5 n5 F A post := by
  subst hp2 hp4
  unfold vc_M_plus
  refine ⟨fun x => ∃ m, x = nI m ∧ u1 ≤ m ∧ u3 ≤ m ∧ (m = u1 ∨ m = u3), pk_le u1 u3 (fun c => ⟨u3, rfl, c, Nat.le_refl _, Or.inr rfl⟩) (fun c => ⟨u1, rfl, Nat.le_refl _, by omega, Or.inl rfl⟩), ?_⟩
  rintro _ ⟨m, rfl, hm1, hm3, hm⟩
  have hm5 : m < n5 := by omega
  refine ⟨fun y x A2 => ∃ i k, x = nI i ∧ y = nI k ∧ i ≤ m ∧ k ≤ 1 ∧ sm A A2 a5 i ∧ dk 65536 A2 a5 i ∧ ev 65536 (dg A2 a5) i + k * 65536 ^ i = ev 65536 (dz A a1 u1) i + ev 65536 (dz A a3 u3) i, fun _ x _ => m - x.toNatClampNeg, ⟨0, 0, rfl, rfl, Nat.zero_le _, Nat.zero_le _, sm.rf, fun k hk => absurd hk (Nat.not_lt_zero _), rfl⟩, ?_⟩
  rintro _ _ A2 ⟨i, k, rfl, rfl, hi, hk, hs, hd, he⟩
  refine pk_le m i (fun e => ?_) (fun e => ?_)
  · have : i = m := by omega
    subst this
    refine ⟨pk_in i n5 hm5, ?_⟩
    rw [nI_clamp (by omega)]
    rintro _ rfl
    refine s_M_trim (m := i + 1) (v := v1 + v3) (nI_s i) (by omega) hn5 ⟨dk_up hd (by omega) (by decide), ?_⟩ (fun u hu hau => hr _ u (fun b hb => by rw [gm_off hb]; exact hs.1 b hb) (by omega) hau)
    rw [ev_at (by omega), he, ev_dz hm1, ev_dz hm3, h1.2, h3.2]
  · have d1 := dz_lt16 (i := i) h1.1
    have d3 := dz_lt16 (i := i) h3.1
    have ev1 : ev 65536 (dz A a1 u1) (i + 1) = ev 65536 (dz A a1 u1) i + dz A a1 u1 i * 65536 ^ i := rfl
    have ev3 : ev 65536 (dz A a3 u3) (i + 1) = ev 65536 (dz A a3 u3) i + dz A a3 u3 i * 65536 ^ i := rfl
    refine ⟨fun x => x = nI (dz A a1 u1 i), pk_le u1 i (fun c => ?_) (fun c => ⟨pk_in i n1 (by omega), ?_⟩), ?_⟩
    · unfold dz; rw [if_neg (by omega)]; rfl
    · rw [nI_clamp (by omega), hs.get a1 (Nat.le_refl _), (h1.1 i c).1]; unfold dz; rw [if_pos c]
    rintro _ rfl
    refine ⟨fun x => x = nI (dz A a3 u3 i), pk_le u3 i (fun c => ?_) (fun c => ⟨pk_in i n3 (by omega), ?_⟩), ?_⟩
    · unfold dz; rw [if_neg (by omega)]; rfl
    · rw [nI_clamp (by omega), hs.get a3 (Nat.le_refl _), (h3.1 i c).1]; unfold dz; rw [if_pos c]
    rintro _ rfl
    generalize dz A a1 u1 i = D1 at d1 ev1 ⊢
    generalize dz A a3 u3 i = D3 at d3 ev3 ⊢
    rw [nI_add, nI_add]
    rintro _ rfl
    refine ⟨pk_in i n5 (by omega), ?_⟩
    rw [nI_clamp (by omega), i_m16 (by omega), i_s16 (by omega)]
    rintro _ rfl _ rfl _ rfl
    refine ⟨⟨i + 1, (k + (D1 + D3)) / 65536, nI_s i, rfl, by omega, by omega, hs.up _ (by omega), dk_up hd (by omega) (by decide), ?_⟩, ?_⟩
    · rw [ev_at (by omega), ev1, ev3]
      have := ev_car 65536 i (k + (D1 + D3))
      rw [Nat.add_mul, Nat.add_mul] at this
      omega
    · dsimp only
      rw [nI_s, nI_clamp (by omega), nI_clamp (by omega)]; omega
theorem s_M_less (hp2 : p2 = nI u1) (hp4 : p4 = nI u3) (h1 : aV A a1 u1 v1) (h3 : aV A a3 u3 v3) (hu : u3 ≤ u1) (hv : v3 ≤ v1) (g1 : u1 ≤ n1) (g3 : u3 ≤ n3) (g5 : u1 ≤ n5) (hn1 : n1 ≤ 9000) (hn3 : n3 ≤ 9000) (hn5 : n5 ≤ 9000) {post : Int32 → gm_M → Prop} (hr : ∀ A' u, (∀ b, b ≠ a5 → A' b = A b) → u ≤ u1 → aU A' a5 u (v1 - v3) → post (nI u) A') : vc_M_less a1 n1 p2 a3 n3 p4 a5 n5 F A post := by
  subst hp2 hp4
  unfold vc_M_less
  refine ⟨fun y x A2 => ∃ i k : Nat, x = nI i ∧ y = iZ (-(k : Int)) ∧ i ≤ u1 ∧ k ≤ 1 ∧ sm A A2 a5 i ∧ dk 65536 A2 a5 i ∧ ev 65536 (dg A a1) i + k * 65536 ^ i = ev 65536 (dg A2 a5) i + ev 65536 (dz A a3 u3) i, fun _ x _ => u1 - x.toNatClampNeg, ⟨0, 0, rfl, rfl, Nat.zero_le _, Nat.zero_le _, sm.rf, fun k hk => absurd hk (Nat.not_lt_zero _), by simp only [ev, Nat.zero_mul, Nat.add_zero]⟩, ?_⟩
  rintro _ _ A2 ⟨i, k, rfl, rfl, hi, hk, hs, hd, he⟩
  refine pk_le u1 i (fun e => ?_) (fun e => ?_)
  · have : i = u1 := by omega
    subst this
    have hlt := ev_lt (B := 65536) (fun k hk => (hd k hk).2)
    rw [ev_dz hu, h1.2, h3.2] at he
    have hk0 : k = 0 := by
      rcases Nat.lt_or_ge 0 k with c | c
      · have : k = 1 := by omega
        subst this
        rw [Nat.one_mul] at he
        omega
      · omega
    subst hk0
    rw [Nat.zero_mul, Nat.add_zero] at he
    exact s_M_trim (m := i) (v := v1 - v3) rfl g5 hn5 ⟨hd, by omega⟩ (fun u hu hau => hr A2 u hs.1 hu hau)
  · have r1 := h1.1 i e
    refine ⟨pk_in i n1 (by omega), ?_⟩
    have d3 := dz_lt16 (i := i) h3.1
    have ev1 : ev 65536 (dg A a1) (i + 1) = ev 65536 (dg A a1) i + dg A a1 i * 65536 ^ i := rfl
    have ev3 : ev 65536 (dz A a3 u3) (i + 1) = ev 65536 (dz A a3 u3) i + dz A a3 u3 i * 65536 ^ i := rfl
    refine ⟨fun x => x = nI (dz A a3 u3 i), pk_le u3 i (fun c => ?_) (fun c => ⟨pk_in i n3 (by omega), ?_⟩), ?_⟩
    · unfold dz; rw [if_neg (by omega)]; rfl
    · rw [nI_clamp (by omega), hs.get a3 (Nat.le_refl _), (h3.1 i c).1]; unfold dz; rw [if_pos c]
    rintro _ rfl
    rw [nI_clamp (by omega), hs.get a1 (Nat.le_refl _), r1.1]
    have d1 := r1.2
    generalize dg A a1 i = D1 at d1 ev1 ⊢
    generalize dz A a3 u3 i = D3 at d3 ev3 ⊢
    obtain ⟨w, k', hw, hk', hwe⟩ : ∃ w k' : Nat, w < 65536 ∧ k' ≤ 1 ∧ w + D3 + k = D1 + 65536 * k' := by
      by_cases c : D3 + k ≤ D1
      · exact ⟨D1 - D3 - k, 0, by omega, by omega, by omega⟩
      · exact ⟨D1 + 65536 - D3 - k, 1, by omega, by omega, by omega⟩
    rw [iZ_nI D1, iZ_nI D3, iZ_sub, iZ_add]
    rintro _ rfl
    refine ⟨pk_in i n5 (by omega), ?_⟩
    have em : iZ (-(k : Int) + ((D1 : Int) - (D3 : Int))) &&& (65535 : Int32) = nI w := by
      rw [iZ_mask _ 16 _ (by decide) (by decide), iZ_nI]
      congr 1
      show _ % 65536 = _
      omega
    have es : iZ (-(k : Int) + ((D1 : Int) - (D3 : Int))) >>> ((16 : Int32) &&& 31) = iZ (-(k' : Int)) := by
      refine (ji_shrZ 16 (by omega) (by omega) (by decide)).trans ?_
      congr 1
      show _ / 65536 = _
      omega
    rw [em, es]
    rintro _ rfl _ rfl _ rfl
    refine ⟨⟨i + 1, k', nI_s i, rfl, by omega, hk', hs.up _ (by omega), dk_up hd hw (by decide), ?_⟩, ?_⟩
    · rw [ev_at (by omega), ev1, ev3]
      have hm : (w + D3 + k) * 65536 ^ i = (D1 + 65536 * k') * 65536 ^ i := by rw [hwe]
      rw [Nat.pow_succ]
      generalize 65536 ^ i = X at *
      grind
    · dsimp only
      rw [nI_s, nI_clamp (by omega), nI_clamp (by omega)]; omega
set_option maxHeartbeats 1000000 in
theorem s_M_times (hp2 : p2 = nI u1) (hp4 : p4 = nI u3) (h1 : aV A a1 u1 v1) (h3 : aV A a3 u3 v3) (hl1 : a1 ≠ a5) (hl3 : a3 ≠ a5) (g1 : u1 ≤ n1) (g3 : u3 ≤ n3) (g5 : u1 + u3 ≤ n5) (hn1 : n1 ≤ 9000) (hn3 : n3 ≤ 9000) (hn5 : n5 ≤ 9000) {post : Int32 → gm_M → Prop} (hr : ∀ A' u, (∀ b, b ≠ a5 → A' b = A b) → u ≤ u1 + u3 → aU A' a5 u (v1 * v3) → post (nI u) A') : vc_M_times a1 n1 p2 a3 n3 p4 a5 n5 F A post := by
  subst hp2 hp4
  unfold vc_M_times
  rw [nI_add]
  refine ⟨fun x' A2 => ∃ i, x' = nI i ∧ i ≤ u1 + u3 ∧ sm A A2 a5 i ∧ ∀ j, j < i → A2 a5 j = nI 0, fun x' _ => u1 + u3 - x'.toNatClampNeg, ⟨0, rfl, Nat.zero_le _, sm.rf, fun j hj => absurd hj (Nat.not_lt_zero _)⟩, ?_⟩
  rintro _ A2 ⟨i, rfl, hi, hs, hz⟩
  refine pk_le (u1 + u3) i (fun e => ?_) (fun e => ?_)
  · have : i = u1 + u3 := by omega
    subst this
    have z0 : ∀ j, j < u1 + u3 → dg A2 a5 j = 0 := fun j hj => dg_of (hz j hj) (by decide)
    refine ⟨fun x' A3 => ∃ i, x' = nI i ∧ i ≤ u1 ∧ sm A A3 a5 (u1 + u3) ∧ dk 65536 A3 a5 (u1 + u3) ∧ ev 65536 (dg A3 a5) (i + u3) = ev 65536 (dg A a1) i * v3 ∧ ∀ j, i + u3 ≤ j → j < u1 + u3 → dg A3 a5 j = 0, fun x' _ => u1 - x'.toNatClampNeg, ⟨0, rfl, Nat.zero_le _, hs, fun j hj => by rw [z0 j hj]; exact ⟨hz j hj, by decide⟩, ?_, fun j h1 h2 => z0 j h2⟩, ?_⟩
    · rw [ev_zero (fun j hj => z0 j (by omega))]; simp only [ev, Nat.zero_mul]
    rintro _ A3 ⟨i, rfl, hi, hs3, hd3, he3, hz3⟩
    refine pk_le u1 i (fun e => ?_) (fun e => ?_)
    · have : i = u1 := by omega
      subst this
      rw [h1.2] at he3
      exact s_M_trim (m := i + u3) rfl g5 hn5 ⟨hd3, he3⟩ (fun u hu hau => hr A3 u hs3.1 hu hau)
    · have r1 := h1.1 i e
      have lT := r1.2
      refine ⟨fun y x A4 => ∃ j k, x = nI j ∧ y = lN k ∧ j ≤ u3 ∧ k < 65536 ∧ sm A3 A4 a5 (i + j) ∧ dk 65536 A4 a5 (i + j) ∧ ev 65536 (dg A4 a5) (i + j) + k * 65536 ^ (i + j) = ev 65536 (dg A3 a5) (i + j) + dg A a1 i * ev 65536 (dg A a3) j * 65536 ^ i, fun _ x _ => u3 - x.toNatClampNeg, ⟨0, 0, rfl, rfl, Nat.zero_le _, by decide, sm.rf, dk_le hd3 (by omega), by simp only [ev, Nat.zero_mul, Nat.add_zero, Nat.mul_zero]⟩, ?_⟩
      rintro _ _ A4 ⟨j, k, rfl, rfl, hj, hk, hs4, hd4, he4⟩
      rw [nI_add, nI_add]
      refine pk_le u3 j (fun e2 => ?_) (fun e2 => ?_)
      · have : j = u3 := by omega
        subst this
        refine ⟨pk_in (i + j) n5 (by omega), ?_⟩
        rw [nI_clamp (by omega), lN_i]
        rintro _ rfl _ rfl
        have hsu := hs4.up (k := i + j) (nI k) (by omega)
        refine ⟨⟨i + 1, nI_s i, by omega, ⟨fun b hb => by rw [hsu.1 b hb, hs3.1 b hb], fun t ht => by rw [hsu.2 t (by omega), hs3.2 t ht]⟩, fun t ht => ?_, ?_, fun t h1 h2 => ?_⟩, ?_⟩
        · by_cases c : t < i + j + 1
          · exact dk_up hd4 (by omega) (by decide) t c
          · have e1 := hsu.2 t (by omega)
            rw [dg_congr e1, e1]
            exact hd3 t ht
        · rw [show i + 1 + j = i + j + 1 by omega, ev_at (by omega), he4, he3, h3.2]
          simp only [ev]
          grind
        · rw [dg_congr (hsu.2 t (by omega))]
          exact hz3 t (by omega) h2
        · dsimp only
          rw [nI_s, nI_clamp (by omega), nI_clamp (by omega)]; omega
      · have r3 := h3.1 j e2
        have r0 := hd3 (i + j) (by omega)
        refine ⟨pk_in i n1 (by omega), pk_in j n3 (by omega), pk_in (i + j) n5 (by omega), ?_⟩
        rw [nI_clamp (by omega), nI_clamp (by omega), nI_clamp (by omega), hs4.1 a1 hl1, hs3.1 a1 hl1, r1.1, hs4.1 a3 hl3, hs3.1 a3 hl3, r3.1, hs4.2 (i + j) (Nat.le_refl _), r0.1]
        have d1 := r3.2
        have d0 := r0.2
        have ev1 : ev 65536 (dg A a3) (j + 1) = ev 65536 (dg A a3) j + dg A a3 j * 65536 ^ j := rfl
        have ev0 : ev 65536 (dg A3 a5) (i + j + 1) = ev 65536 (dg A3 a5) (i + j) + dg A3 a5 (i + j) * 65536 ^ (i + j) := rfl
        generalize dg A a3 j = D at d1 ev1 ⊢
        generalize dg A3 a5 (i + j) = E at d0 ev0 ⊢
        generalize dg A a1 i = T at *
        have hm : T * D ≤ 65535 * 65535 := Nat.mul_le_mul (by omega) (by omega)
        rw [nI_l (n := D) (by omega), nI_l (n := E) (by omega), nI_l (n := T) (by omega), lN_mul, lN_add, lN_add]
        rintro _ rfl
        refine ⟨pk_in (i + j) n5 (by omega), ?_⟩
        rw [l_m16, lN_i, show j_lushr (lN (k + (T * D + E))) (16 : Int32) = lN ((k + (T * D + E)) / 65536) from jl_ushr 16 (by omega) (by decide)]
        rintro _ rfl _ rfl _ rfl
        refine ⟨⟨j + 1, (k + (T * D + E)) / 65536, nI_s j, rfl, by omega, by omega, ?_, ?_, ?_⟩, ?_⟩
        · exact hs4.up _ (by omega)
        · exact dk_up hd4 (by omega) (by decide)
        · rw [show i + (j + 1) = i + j + 1 by omega, ev_at (by omega), ev1, ev0]
          have hcar := ev_car 65536 (i + j) (k + (T * D + E))
          generalize (k + (T * D + E)) % 65536 = m at hcar ⊢
          generalize (k + (T * D + E)) / 65536 = c at hcar ⊢
          generalize 65536 ^ (i + j + 1) = X1 at hcar ⊢
          rw [Nat.pow_add] at hcar he4 ⊢
          generalize 65536 ^ i = X at hcar he4 ⊢
          generalize 65536 ^ j = Y at hcar he4 ⊢
          grind
        · dsimp only
          rw [nI_s, nI_clamp (by omega), nI_clamp (by omega)]; omega
  · refine ⟨pk_in i n5 (by omega), ?_⟩
    rw [nI_clamp (by omega)]
    rintro _ rfl _ rfl
    refine ⟨⟨i + 1, nI_s i, by omega, hs.up _ (by omega), fun j hj => ?_⟩, ?_⟩
    · by_cases c : j = i
      · subst c; exact up_at _ _ _ _
      · rw [up_ne _ _ c]; exact hz j (by omega)
    · dsimp only
      rw [nI_s, nI_clamp (by omega), nI_clamp (by omega)]; omega
end M1
