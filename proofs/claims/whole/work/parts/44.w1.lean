section W1
variable {F A : gm_M} {a0 l0 n0 u v : Nat}
theorem s_W_sign {x : Int} (h : wR F A a0 l0 n0 x) (hn : n0 < 2 ^ 31) {post : Int32 → Prop} (hp : post (iZ x.sign)) : vc_W_sign a0 l0 n0 F A post := by
  obtain ⟨⟨u, hu⟩, hb⟩ := h
  have hz := hu.pos
  have hu1 := hu.1
  unfold vc_W_sign
  rw [hu.2.1, hb]
  refine (pk_eq u 0 (fun e => ?_) (fun e => ?_)).symm
  · have : x = 0 := by omega
    subst this; exact hp
  · by_cases hx : x < 0
    · rw [show sb x = nI 1 from if_pos hx]
      refine pk_eq 1 0 (fun e => absurd e (by decide)) (fun _ => ?_)
      rw [show x.sign = -1 from Int.sign_eq_neg_one_of_neg hx] at hp
      exact hp
    · rw [show sb x = nI 0 from if_neg hx]
      refine pk_eq 0 0 (fun _ => ?_) (fun e => absurd rfl e)
      rw [show x.sign = 1 from Int.sign_eq_one_of_pos (by omega)] at hp
      exact hp
theorem s_W_limbAt (hu : u ≤ n0 ∧ F a0 1 = nI u ∧ dk 2147483648 A l0 u) (hn : n0 < 2 ^ 31) {p : Int32} {i : Nat} (hp : p = nI i) (hi : i < 2 ^ 31) {post : Int32 → Prop} (h : post (nI (dz A l0 u i))) : vc_W_limbAt a0 l0 n0 p F A post := by
  subst hp
  unfold vc_W_limbAt
  rw [hu.2.1]
  have h1 := hu.1
  refine pk_le u i (fun e => ?_) (fun e => ?_)
  · rw [show dz A l0 u i = 0 from if_neg (by omega)] at h; exact h
  · refine ⟨pk_in i n0 (by omega), ?_⟩
    rw [show dz A l0 u i = dg A l0 i from if_pos e] at h
    rw [nI_clamp hi, (hu.2.2 i e).1]
    exact h
theorem s_W_bitsIn {p : Int32} {d : Nat} (hp : p = nI d) (hd : d < 2147483648) {post : Int32 → Prop} (h : post (nI (bl d))) : vc_W_bitsIn p F A post := by
  subst hp
  have hb : bl d ≤ 31 := bl_le_iff.mpr hd
  refine ⟨fun x => ∃ c, x = nI c ∧ c ≤ bl d, fun x => 31 - x.toNatClampNeg, ⟨0, rfl, Nat.zero_le _⟩, ?_⟩
  rintro x ⟨c, rfl, hc⟩
  refine pk_le 31 c (fun e => ?_) (fun e => ?_)
  · rw [show c = bl d by omega]; exact h
  · rw [ji_ushr c (by omega) (by omega)]
    have hle : d / 2 ^ c ≤ d := Nat.div_le_self _ _
    refine pk_eq (d / 2 ^ c) 0 (fun e0 => ?_) (fun e0 => ?_)
    · have h1 : d < 2 ^ c := by
        rcases Nat.lt_or_ge d (2 ^ c) with h1 | h1
        · exact h1
        · have := Nat.div_pos h1 (Nat.two_pow_pos c); omega
      have := bl_le_iff.mpr h1
      rw [show c = bl d by omega]; exact h
    · have h1 : 2 ^ c ≤ d := by
        rcases Nat.lt_or_ge d (2 ^ c) with h1 | h1
        · exact absurd (Nat.div_eq_of_lt h1) e0
        · exact h1
      have h2 : ¬ bl d ≤ c := fun h3 => by
        have := bl_le_iff.mp h3; omega
      intro y hy
      have hy : y = nI (c + 1) := hy.trans (nI_add c 1)
      subst hy
      refine ⟨⟨c + 1, rfl, by omega⟩, ?_⟩
      dsimp only
      rw [nI_clamp (by omega), nI_clamp (by omega)]
      omega
theorem s_W_countBits (h : wU F A a0 l0 n0 u v) (hn : n0 < 60000000) {post : Int32 → Prop} (hp : post (nI (bl v))) : vc_W_countBits a0 l0 n0 F A post := by
  obtain ⟨p1, p2, p3, p4, p5⟩ := h
  unfold vc_W_countBits
  rw [p2]
  refine (pk_eq u 0 (fun e => ?_) (fun e => ?_)).symm
  · subst e
    rw [show v = 0 from p5.symm] at hp
    exact hp
  · obtain ⟨t, rfl⟩ : ∃ t, u = t + 1 := ⟨u - 1, by omega⟩
    rw [show nI (t + 1) - (1 : Int32) = nI t from pk_sub (by omega : 1 ≤ t + 1)]
    refine ⟨pk_in t n0 (by omega), ?_⟩
    rw [nI_clamp (by omega)]
    refine s_W_bitsIn (p3 t (by omega)).1 (p3 t (by omega)).2 ?_
    rw [← p5, bl_ev (fun k hk => (p3 k hk).2) (p4 t rfl)] at hp
    rw [show nI t * (31 : Int32) = nI (t * 31) from pk_mul t 31, nI_add, Nat.mul_comm t 31]
    exact hp
theorem s_W_hasBit (h : wU F A a0 l0 n0 u v) (hn : n0 < 2 ^ 31) {p : Int32} {k : Nat} (hp : p = nI k) (hk : k < 2 ^ 31) {post : Int32 → Prop} (hq : post (if v.testBit k then 1 else 0)) : vc_W_hasBit a0 l0 n0 p F A post := by
  subst hp
  unfold vc_W_hasBit
  have hdv : nI k / (31 : Int32) = nI (k / 31) := pk_div hk (by decide) (by decide)
  have hrm : nI k - nI k / (31 : Int32) * (31 : Int32) = nI (k % 31) := pk_rem hk (by decide) (by decide)
  rw [hrm, hdv]
  have hk31 : k / 31 ≤ k := Nat.div_le_self _ _
  refine s_W_limbAt ⟨h.1, h.2.1, h.2.2.1⟩ hn rfl (by omega) ?_
  have hd := dz_lt (i := k / 31) h.2.2.1
  rw [ji_ushr (k % 31) (by omega) (by omega)]
  have hle : dz A l0 u (k / 31) / 2 ^ (k % 31) ≤ dz A l0 u (k / 31) := Nat.div_le_self _ _
  rw [pk_andN (by omega) 1 (by decide)]
  have e : (v.testBit k = true) ↔ dz A l0 u (k / 31) / 2 ^ (k % 31) % 2 ^ 1 = 1 := by
    rw [← h.dig, pow31, Nat.testBit_eq_decide_div_mod_eq, decide_eq_true_iff]
    have e1 : v / 2 ^ k = v / 2 ^ (31 * (k / 31)) / 2 ^ (k % 31) := by
      rw [Nat.div_div_eq_div_mul, ← Nat.pow_add, Nat.div_add_mod]
    rw [e1]
    generalize v / 2 ^ (31 * (k / 31)) = y
    have e2 := Nat.testBit_mod_two_pow y 31 (k % 31)
    rw [Nat.testBit_eq_decide_div_mod_eq, Nat.testBit_eq_decide_div_mod_eq, decide_eq_true (by omega : k % 31 < 31), Bool.true_and, decide_eq_decide] at e2
    exact e2.symm
  refine (pk_eq (dz A l0 u (k / 31) / 2 ^ (k % 31) % 2 ^ 1) 1 (fun e1 => ?_) (fun e1 => ?_) rfl rfl (by omega) (by decide)).symm
  · rw [if_pos (e.mpr e1)] at hq; exact hq
  · rw [if_neg (fun z => e1 (e.mp z))] at hq; exact hq
theorem s_W_setBelow {p : Int32} (hu : F a0 1 = nI u) (hn : u < 2 ^ 31) {post : gm_M → Prop} (h : post (gm_up F a0 2 (if p ≠ 0 ∧ u ≠ 0 then 1 else 0))) : vc_W_setBelow a0 l0 n0 p F A post := by
  unfold vc_W_setBelow
  rw [hu]
  refine ⟨fun e => ?_, fun e => ?_⟩
  · rintro _ rfl
    rw [if_neg (fun z => z.1 e)] at h; exact h
  · refine pk_le u 0 (fun e0 => ?_) (fun e0 => ?_)
    · rintro _ rfl
      rw [if_neg (fun z => z.2 (by omega))] at h; exact h
    · rintro _ rfl
      rw [if_pos ⟨e, by omega⟩] at h; exact h
theorem s_W_trim {p : Int32} {n : Nat} (hp : p = nI n) (hn : n ≤ n0) (hn0 : n0 < 2 ^ 31) (hd : dk 2147483648 A l0 n) {post : gm_M → Prop} (h : ∀ F' : gm_M, (∀ b, b ≠ a0 → F' b = F b) → wM F' A a0 l0 n0 (ev 2147483648 (dg A l0) n) → F' a0 2 = (if F a0 2 ≠ 0 ∧ ev 2147483648 (dg A l0) n ≠ 0 then 1 else 0) → post F') : vc_W_trim a0 l0 n0 p F A post := by
  subst hp
  rintro _ rfl
  have fin : ∀ (F2 : gm_M) (u : Nat), u ≤ n → F2 a0 1 = nI u → F2 a0 2 = F a0 2 → (∀ b, b ≠ a0 → F2 b = F b) → ev 2147483648 (dg A l0) u = ev 2147483648 (dg A l0) n → (∀ t, u = t + 1 → dg A l0 t ≠ 0) → vc_W_setBelow a0 l0 n0 (F2 a0 2) F2 A (fun (F_3 : gm_M) => post F_3) := by
    intro F2 u hu e1 e2 e3 e4 e5
    refine s_W_setBelow e1 (by omega) ?_
    have hw : wU (gm_up F2 a0 2 (if F2 a0 2 ≠ 0 ∧ u ≠ 0 then 1 else 0)) A a0 l0 n0 u (ev 2147483648 (dg A l0) n) := ⟨by omega, by rw [up_ne _ _ (by decide)]; exact e1, dk_le hd hu, e5, e4⟩
    refine h _ (fun b hb => by rw [gm_off hb]; exact e3 b hb) ⟨u, hw⟩ ?_
    rw [up_at, e2]
    have := hw.pos
    by_cases c1 : F a0 2 ≠ 0 ∧ u ≠ 0
    · rw [if_pos c1, if_pos ⟨c1.1, fun z => c1.2 (this.mpr z)⟩]
    · rw [if_neg c1, if_neg (fun z => c1 ⟨z.1, fun z2 => z.2 (this.mp z2)⟩)]
  refine ⟨fun F2 => ∃ u, u ≤ n ∧ F2 a0 1 = nI u ∧ F2 a0 2 = F a0 2 ∧ (∀ b, b ≠ a0 → F2 b = F b) ∧ ev 2147483648 (dg A l0) u = ev 2147483648 (dg A l0) n, fun F2 => (F2 a0 1).toNatClampNeg, ⟨n, Nat.le_refl _, up_at _ _ _ _, up_ne _ _ (by decide), fun b hb => gm_off hb, rfl⟩, ?_⟩
  rintro F2 ⟨u, hu, e1, e2, e3, e4⟩
  have e1' := e1
  rw [e1]
  refine pk_le u 0 (fun e => ?_) (fun e => ?_)
  · exact fin F2 u hu e1' e2 e3 e4 (fun t ht => by omega)
  · obtain ⟨t, rfl⟩ : ∃ t, u = t + 1 := ⟨u - 1, by omega⟩
    have hs : nI (t + 1) - (1 : Int32) = nI t := pk_sub (by omega : 1 ≤ t + 1)
    rw [hs]
    refine ⟨pk_in t n0 (by omega), ?_⟩
    rw [nI_clamp (by omega), (hd t (by omega)).1]
    have hlt := (hd t (by omega)).2
    refine (pk_eq (dg A l0 t) 0 (fun z => ?_) (fun z => ?_) rfl rfl (by omega) (by decide)).symm
    · rintro _ rfl
      refine ⟨⟨t, by omega, up_at _ _ _ _, by rw [up_ne _ _ (by decide)]; exact e2, fun b hb => by rw [gm_off hb]; exact e3 b hb, ?_⟩, ?_⟩
      · rw [← e4]; simp only [ev]; rw [z]; simp
      · dsimp only
        rw [up_at, nI_clamp (by omega), e1', nI_clamp (by omega)]; omega
    · exact fin F2 (t + 1) hu e1' e2 e3 e4 (fun t' ht => by
        have : t' = t := by omega
        subst this; exact z)
end W1
