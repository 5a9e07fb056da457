theorem md_dbl {h0 : Nat} {R : Int64 → Prop} (hh : h0 < 2305843009213693951) (hR : R (lN (h0 * 65536 % 2305843009213693951))) {x : Int64} (hx : x = lN h0) : ∃ (I_57 : Int64 → Int32 → Prop) (μ_57 : Int64 → Int32 → Nat), I_57 x (0 : Int32) ∧ ∀ (x3_8 : Int64) (x8_8 : Int32), I_57 x3_8 x8_8 →
    (((16 : Int32) ≤ x8_8 → R x3_8) ∧ (¬ (16 : Int32) ≤ x8_8 →
      ∀ x3_11 : Int64, x3_11 = ((2 : Int64) * x3_8) →
      ((x3_11 < (2305843009213693951 : Int64) →
        ∀ x8_12 : Int32, x8_12 = x8_8 + (1 : Int32) →
        I_57 x3_11 x8_12 ∧ μ_57 x3_11 x8_12 < μ_57 x3_8 x8_8
      ) ∧ (¬ x3_11 < (2305843009213693951 : Int64) →
        ∀ x3_13 : Int64, x3_13 = (x3_11 - (2305843009213693951 : Int64)) →
        ∀ x8_14 : Int32, x8_14 = x8_8 + (1 : Int32) →
        I_57 x3_13 x8_14 ∧ μ_57 x3_13 x8_14 < μ_57 x3_8 x8_8
      )))) := by
  subst hx
  refine ⟨fun x y => ∃ k, y = nI k ∧ k ≤ 16 ∧ x = lN (h0 * 2 ^ k % 2305843009213693951), fun _ y => 16 - y.toNatClampNeg, ⟨0, rfl, by decide, by rw [Nat.pow_zero, Nat.mul_one, Nat.mod_eq_of_lt hh]⟩, ?_⟩
  rintro _ _ ⟨k, rfl, hk, rfl⟩
  refine pk_le 16 k (fun c => ?_) (fun c => ?_)
  · have : k = 16 := by omega
    subst this
    rw [show (2 : Nat) ^ 16 = 65536 from rfl]
    exact hR
  · have e : h0 * 2 ^ (k + 1) = h0 * 2 ^ k * 2 := by rw [Nat.pow_succ, Nat.mul_assoc]
    have hm : h0 * 2 ^ k % 2305843009213693951 < 2305843009213693951 := Nat.mod_lt _ (by decide)
    have e2 : h0 * 2 ^ (k + 1) % 2305843009213693951 = 2 * (h0 * 2 ^ k % 2305843009213693951) % 2305843009213693951 := by
      rw [e]
      generalize h0 * 2 ^ k = y
      omega
    obtain ⟨r, hrE⟩ : ∃ r, h0 * 2 ^ k % 2305843009213693951 = r := ⟨_, rfl⟩
    rw [hrE] at hm e2 ⊢
    have h63 : 2 * r < 2 ^ 63 := by clear e2 e hrE hR; omega
    have hmu : 16 - (k + 1) < 16 - k := by clear e2 e hrE hR; omega
    rw [show (2 : Int64) * lN r = lN (2 * r) from lN_mul 2 r]
    rintro _ rfl
    refine pl_lt (2 * r) 2305843009213693951 (fun d => ?_) (fun d => ?_) rfl rfl h63 (by decide)
    · rintro _ rfl
      refine ⟨⟨k + 1, nI_s k, c, by rw [e2, Nat.mod_eq_of_lt d]⟩, ?_⟩
      dsimp only
      clear e2 e hrE hR
      rw [nI_s, nI_clamp (by omega), nI_clamp (by omega)]; exact hmu
    · rw [show lN (2 * r) - (2305843009213693951 : Int64) = lN (2 * r - 2305843009213693951) from lN_sub d]
      rintro _ rfl _ rfl
      refine ⟨⟨k + 1, nI_s k, c, ?_⟩, ?_⟩
      · rw [e2, Nat.mod_eq_sub_mod d, Nat.mod_eq_of_lt (by clear e2 e hrE hR; omega)]
      · dsimp only
        clear e2 e hrE hR
        rw [nI_s, nI_clamp (by omega), nI_clamp (by omega)]; exact hmu
theorem fold_step (a d P : Nat) : (a % P * 65536 % P + d) % P = (a * 65536 + d) % P := by
  rw [Nat.mod_add_mod, Nat.add_mod (a % P * 65536) d P, Nat.mul_mod (a % P) 65536 P, Nat.mod_mod, ← Nat.mul_mod, ← Nat.add_mod]
theorem l_m8 (n : Nat) : lN n &&& (255 : Int64) = lN (n % 256) := by
  rw [lZ_lN, lZ_mask _ 8 _ (by decide) (by decide), lZ_lN]
  norm_cast
theorem oc_eq (p : Int64) (k : Nat) (hk : k < 8) : ((j_lushr p ((8 : Int32) * nI k)) &&& (255 : Int64)).toInt32 = nI (oc p k) := by
  have e : j_lushr p ((8 : Int32) * nI k) = lN (uN p / 2 ^ (8 * k)) := by
    rw [show (8 : Int32) * nI k = nI (8 * k) from pk_mul 8 k]
    have := jl_ushr (n := uN p) (8 * k) (uN_lt p) (by omega)
    rw [← uN_eq] at this
    exact this
  rw [e, l_m8, lN_i]
  unfold oc
  exact Eq.refl _
theorem bad_oc {p : Int64} {k : Nat} (hk : k < 8) (hj : ∀ j, j < k → 32 ≤ oc p j ∧ oc p j ≤ 126) (z1 : oc p k ≠ 0) (z2 : ¬ (32 ≤ oc p k ∧ oc p k ≤ 126)) : ∀ c, ¬ goodL p c := fun c hc => by
  obtain ⟨c1, c2, c3, c4⟩ := hc
  rcases Nat.lt_or_ge k c with d | d
  · exact z2 (c3 k d)
  · rcases c4 with e4 | e4
    · omega
    · by_cases d2 : c = k
      · subst d2; exact z1 e4
      · have := hj c (by omega); omega
section M8
variable {F A : gm_M} {K : Nat → Nat} {n : Nat} {tx : Nat → Nat} {v : Nat → Int} {a1 n1 u1 v1 : Nat} {p p1 p2 p3 p4 p5 : Int32}
theorem s_M_folded (hK : kinj K) (h : MS K F A v n tx) {post : Int64 → gm_M → gm_M → Prop} (h1 : ¬ vp_in p 16 → ∀ r F' A', F' (K 49) 0 = 1 → frR K F A F' A' → MS K F' A' v n tx → post r F' A') (h0 : vp_in p 16 → ∀ F' A', F' (K 49) 0 = 0 → frR K F A F' A' → MS K F' A' v n tx → post (lZ (fold (v p.toNatClampNeg))) F' A') : vc_M_folded K p F A post := by
  unfold vc_M_folded
  refine s_M_reg1 (fun c => ?_) (fun c => h1 c 0 _ _ (up_at _ _ _ _) (frM_2 hK 1).r (h.scr (frM_2 hK 1)))
  have hw := vp_lt c
  have m1 := h.scr (frM_1 hK)
  refine s_M_load hK (m1.1 _ hw) c (by decide) (by decide) (by decide) (fun A5 c5 f5 a5 hc5 => ?_)
  have g5 := (frM_1 (F := F) (A := A) hK).trans (frM_A (F := gm_up F (K 49) 0 0) (i := 54) hK (by decide) f5)
  have m5 := h.scr g5
  have h0 := h0 c _ _ err0 g5.r m5
  have hsg := (m5.1 _ hw).sg
  generalize v p.toNatClampNeg = x at *
  generalize hX : x.natAbs = w at *
  rintro _ rfl
  refine ⟨fun y z => ∃ q, z = dn q ∧ q ≤ c5 ∧ y = lN (w / 65536 ^ q % 2305843009213693951), fun _ z => (z.toInt + 1).toNat, ⟨c5, rfl, Nat.le_refl _, by rw [Nat.div_eq_of_lt a5.lt, Nat.zero_mod]; rfl⟩, ?_⟩
  rintro _ _ ⟨q, rfl, hq, rfl⟩
  refine dn_br q (by omega) (fun e => ?_) (fun t e => ?_)
  · subst e
    refine ⟨c, ?_⟩
    rw [Nat.pow_zero, Nat.div_one, hsg, sg_le]
    unfold fold at h0
    rw [hX] at h0
    refine ⟨fun d => ?_, fun d => ?_⟩
    · rw [if_neg (by omega)] at h0
      rw [lZ_lN]; exact h0
    · rw [if_pos (by omega)] at h0
      rw [lZ_lN, lZ_neg]; exact h0
  · subst e
    rw [dn_succ]
    have hd := a5.v.dig t
    rw [show dz A5 (K 54) c5 t = dg A5 (K 54) t from if_pos (by omega)] at hd
    have r := a5.1 t (by omega)
    have hl := r.2
    refine md_dbl (Nat.mod_lt _ (by decide)) ?_ rfl
    refine ⟨pk_in t 9000 (by omega), ?_⟩
    rw [div_pow_succ]
    generalize hY : w / 65536 ^ t = Y at hd ⊢
    have key := fold_step (Y / 65536) (Y % 65536) 2305843009213693951
    rw [show Y / 65536 * 65536 + Y % 65536 = Y from by rw [Nat.mul_comm]; exact Nat.div_add_mod Y 65536, hd] at key
    have hm : Y / 65536 % 2305843009213693951 * 65536 % 2305843009213693951 < 2305843009213693951 := Nat.mod_lt _ (by decide)
    obtain ⟨r0, hr0⟩ : ∃ r0, Y / 65536 % 2305843009213693951 * 65536 % 2305843009213693951 = r0 := ⟨_, rfl⟩
    rw [hr0] at key hm ⊢
    have b1 : r0 + dg A5 (K 54) t < 2 ^ 63 := by clear hr0 key hd; omega
    rw [nI_clamp (by clear hr0 key hd; omega), r.1, nI_l (by clear hr0 key hd; omega), lN_add]
    rw [show lN (r0 + dg A5 (K 54) t) - lN (r0 + dg A5 (K 54) t) / (2305843009213693951 : Int64) * (2305843009213693951 : Int64) = lN ((r0 + dg A5 (K 54) t) % 2305843009213693951) from pk_lRem (b := 2305843009213693951) b1 (by decide) (by decide), key]
    clear hr0 key
    rintro _ rfl _ rfl
    refine ⟨⟨t, dn_next t, by omega, by rw [hY]⟩, ?_⟩
    dsimp only
    rw [dn_next, dn_mu t (by omega), nI_toInt (by omega)]; omega
theorem s_M_line {q : Int64} (hK : kinj K) (h : MS K F A v n tx) {post : Int32 → gm_M → gm_M → Prop} (h1 : (∀ c, ¬ goodL q c) → ∀ r F' A', F' (K 49) 0 = 1 → frR K F A F' A' → MS K F' A' v n tx → post r F' A') (h2 : ∀ c, goodL q c → 2100 < n + c → ∀ r F' A', F' (K 49) 0 = 2 → frR K F A F' A' → MS K F' A' v n tx → post r F' A') (h0 : ∀ c, goodL q c → n + c ≤ 2100 → ∀ F' A', F' (K 49) 0 = 0 → frR K F A F' A' → MS K F' A' v (n + c) (fun k => if k < n then tx k else oc q (k - n)) → post (nI (n + c)) F' A') : vc_M_line K q F A post := by
  unfold vc_M_line
  rintro _ rfl
  have m1 := h.scr (frM_1 hK)
  have hn := h.2.1
  refine ⟨fun x y F2 => ∃ m k, x = nI m ∧ y = nI k ∧ F2 = gm_up F (K 49) 0 0 ∧ k ≤ 8 ∧ (∀ j, j < m → 32 ≤ oc q j ∧ oc q j ≤ 126) ∧ (m = k ∨ (k = m + 1 ∧ oc q m = 0)), fun _ y _ => 8 - y.toNatClampNeg, ⟨0, 0, rfl, rfl, rfl, by decide, fun j hj => absurd hj (Nat.not_lt_zero _), Or.inl rfl⟩, ?_⟩
  rintro _ _ _ ⟨m, k, rfl, rfl, rfl, hk, hj, hmk⟩
  have hbad : (∀ c, ¬ goodL q c) → post 0 (gm_up (gm_up F (K 49) 0 0) (K 49) 0 1) A := fun z => h1 z 0 _ _ (up_at _ _ _ _) (frM_2 hK 1).r (h.scr (frM_2 hK 1))
  refine ⟨m = 8 ∨ (m < 8 ∧ oc q m = 0), pk_le 8 k (fun c => by omega) (fun c => ?_), fun hJ => ?_⟩
  · refine (pk_eq m k (fun e => ?_) (fun e => by omega)).symm
    subst e
    rw [oc_eq q m c]
    rintro _ rfl
    have hol := oc_lt q m
    have hti : (nI (oc q m)).toInt = (oc q m : Int) := nI_toInt (by omega)
    refine ⟨oc q m = 0 ∨ (32 ≤ oc q m ∧ oc q m ≤ 126), pk_eq (oc q m) 0 (fun z => Or.inl z) (fun z => ?_), fun hz => ?_⟩
    · refine s_M_in 32 126 (fun r hr => ?_)
      rw [hti] at hr
      rcases hr with ⟨rfl, d⟩ | ⟨rfl, d⟩
      · exact ⟨fun _ => Or.inr (by omega), fun z => absurd z (by decide)⟩
      · refine ⟨fun z => absurd rfl z, fun _ => s_M_fails err0 (by decide) (fun z => absurd z (by decide)) (fun _ => ⟨fun z => absurd z (by decide), fun _ => hbad (bad_oc c hj z (by omega))⟩)⟩
    · refine s_M_fails err0 (by decide) (fun _ => ⟨fun _ => ?_, fun z => absurd rfl z⟩) (fun z => absurd rfl z)
      refine pk_eq (oc q m) 0 (fun z => ?_) (fun z => ?_)
      · rintro _ rfl
        refine ⟨⟨m, m + 1, rfl, nI_s m, rfl, by omega, hj, Or.inr ⟨rfl, z⟩⟩, ?_⟩
        dsimp only
        rw [nI_s, nI_clamp (by omega), nI_clamp (by omega)]; omega
      · rintro _ rfl _ rfl
        refine ⟨⟨m + 1, m + 1, nI_s m, nI_s m, rfl, by omega, fun j hj2 => ?_, Or.inl rfl⟩, ?_⟩
        · by_cases e : j = m
          · subst e; omega
          · exact hj j (by omega)
        · dsimp only
          rw [nI_s, nI_clamp (by omega), nI_clamp (by omega)]; omega
  · have hm8 : m ≤ 8 := by omega
    refine ⟨fun y => (y = 0 ∧ m ≠ 0) ∨ (y = 1 ∧ ¬ m ≠ 0), (pk_eq m 0 (fun z => Or.inr ⟨rfl, fun y => y z⟩) (fun z => Or.inl ⟨rfl, z⟩)).symm, fun y hy => ?_⟩
    refine s_M_fails err0 (by decide) (fun c => ⟨fun z => absurd rfl z, fun _ => ?_⟩) (fun c => ⟨fun _ => hbad (fun c' hc => ?_), fun z => absurd z (by decide)⟩)
    · have hm0 : m ≠ 0 := by
        rcases hy with z | z
        · exact z.2
        · exact absurd (z.1.symm.trans c) (by decide)
      have hg : goodL q m := ⟨by omega, hm8, hj, by omega⟩
      rw [m1.2.2.1, nI_add]
      refine ⟨fun y => (y = 0 ∧ n + m ≤ 2100) ∨ (y = 1 ∧ ¬ n + m ≤ 2100), pk_le (n + m) 2100 (fun z => Or.inl ⟨rfl, z⟩) (fun z => Or.inr ⟨rfl, by omega⟩), fun y hy => ?_⟩
      refine s_M_gate err0 (by decide) hy (fun hfit => ?_) (fun hfit => h2 m hg (by omega) 0 _ _ (up_at _ _ _ _) (frM_2 hK 2).r (h.scr (frM_2 hK 2)))
      rw [m1.2.2.1, nI_add]
      refine ⟨fun y A8 => ∃ k, y = nI k ∧ k ≤ m ∧ (∀ b, b ≠ K 53 → A8 b = A b) ∧ (∀ j, j < n → A8 (K 53) j = A (K 53) j) ∧ ∀ j, j < k → A8 (K 53) (n + j) = nI (oc q j), fun y _ => m - y.toNatClampNeg, ⟨0, rfl, Nat.zero_le _, fun _ _ => rfl, fun _ _ => rfl, fun j hj => absurd hj (Nat.not_lt_zero _)⟩, ?_⟩
      rintro _ A8 ⟨k, rfl, hk, f1, f2, f3⟩
      refine pk_le m k (fun d => ?_) (fun d => ?_)
      · have : k = m := by omega
        subst this
        rintro _ rfl
        rw [up_at]
        have e0 : gm_up (gm_up F (K 49) 0 0) (K 49) 1 (nI (n + k)) (K 49) 0 = 0 := by rw [up_ne _ _ (by decide)]; exact err0
        refine h0 k hg hfit _ _ e0 (fun i hi => ⟨by rw [gm_off (kne hK (by omega) (by omega) (by omega)), gm_off (kne hK (by omega) (by omega) (by omega))], f1 _ (kne hK (by omega) (by omega) (by omega))⟩) ⟨fun w hw => (h.1 w hw).congr (fun j _ => by rw [f1 _ (kne hK (by decide) (by decide) (by decide))]) (by rw [f1 _ (kne hK (by decide) (by decide) (by decide))]) (by rw [f1 _ (kne hK (by decide) (by decide) (by decide))]), hfit, up_at _ _ _ _, fun j hj2 => ?_⟩
        by_cases c2 : j < n
        · dsimp only
          rw [if_pos c2, f2 j c2]; exact h.2.2.2 j c2
        · dsimp only
          have := f3 (j - n) (by omega)
          rw [show n + (j - n) = j by omega] at this
          rw [if_neg c2]
          exact ⟨this, hj (j - n) (by omega)⟩
      · rw [nI_add]
        refine ⟨pk_in (n + k) 2100 (by omega), ?_⟩
        rw [nI_clamp (by omega), oc_eq q k (by omega)]
        rintro _ rfl _ rfl
        refine ⟨⟨k + 1, nI_s k, by omega, fun b hb => by rw [gm_off hb, f1 b hb], fun j hj2 => by rw [up_ne _ _ (by omega)]; exact f2 j hj2, fun j hj2 => ?_⟩, ?_⟩
        · by_cases e : j = k
          · subst e; exact up_at _ _ _ _
          · rw [up_ne _ _ (by omega)]; exact f3 j (by omega)
        · dsimp only
          rw [nI_s, nI_clamp (by omega), nI_clamp (by omega)]; omega
    · have hm0 : m = 0 := by
        rcases hy with z | z
        · exact absurd z.1 c
        · omega
      subst hm0
      have := hc.2.2.1 0 (by have := hc.1; omega)
      omega
/-- the end of a call: a number is kept, its sign answered -/
theorem s_M_endS {F1 A1 : gm_M} {x : Int} {m i : Nat} (hK : kinj K) (h : MS K F A v n tx) (he : F1 (K 49) 0 = 0) (g : frM K F A F1 A1) (hp : vp_in p1 16) (hi : 54 ≤ i ∧ i < 64) (hp4 : p4 = nI m) (hm : m ≤ 9000) (hV : aV A1 (K i) m x.natAbs) (hs : x ≠ 0 → p2 = iZ x.sign) {post : Int32 → gm_M → gm_M → Prop} (h2 : ¬ fit x → ∀ r F' A', F' (K 49) 0 = 2 → frR K F A F' A' → MS K F' A' v n tx → post r F' A') (h0 : fit x → ∀ F' A', F' (K 49) 0 = 0 → frR K F A F' A' → MS K F' A' (vu v p1.toNatClampNeg x) n tx → post (iZ x.sign) F' A') : vc_M_keep K p1 p2 (K i) 9000 p4 2 F1 A1 (fun (r_12 : Int32) (F_12 : gm_M) (A_12 : gm_M) => ((r_12 = (0) → post (0 : Int32) F_12 A_12) ∧ (¬ r_12 = (0) → (vp_in p1 16) ∧ post (A_12 (K 52) p1.toNatClampNeg) F_12 A_12))) := by
  refine s_M_keep hK (h.scr g) hp he hi hp4 hm (by decide) hV hs (by decide) (fun c A' f m' => ⟨fun z => absurd z (by decide), fun _ => ⟨hp, ?_⟩⟩) (fun c => ⟨fun _ => ?_, fun z => absurd rfl z⟩)
  · have := (m'.1 _ (vp_lt hp)).sg
    rw [vu_at] at this
    rw [this]
    exact h0 c _ _ he (g.r.trans f) m'
  · have g6 := g.trans (frM_F (F := F1) (A := A1) (s := 0) 2 hK (by decide))
    exact h2 c 0 _ _ (up_at _ _ _ _) g6.r (h.scr g6)
theorem s_M_endB {F1 A1 : gm_M} {x : Int} {m i : Nat} (hK : kinj K) (h : MS K F A v n tx) (he : F1 (K 49) 0 = 0) (g : frM K F A F1 A1) (hp : vp_in p1 16) (hi : 54 ≤ i ∧ i < 64) (hp4 : p4 = nI m) (hm : m ≤ 9000) (hV : aV A1 (K i) m x.natAbs) (hs : x ≠ 0 → p2 = iZ x.sign) {post : Int32 → gm_M → gm_M → Prop} (h2 : ¬ fit x → ∀ r F' A', F' (K 49) 0 = 2 → frR K F A F' A' → MS K F' A' v n tx → post r F' A') (h0 : fit x → ∀ F' A', F' (K 49) 0 = 0 → frR K F A F' A' → MS K F' A' (vu v p1.toNatClampNeg x) n tx → post (nI (bl x.natAbs)) F' A') : vc_M_keep K p1 p2 (K i) 9000 p4 2 F1 A1 (fun (r_12 : Int32) (F_12 : gm_M) (A_12 : gm_M) => ((¬ r_12 = (0) → vc_M_size0 K p1 F_12 A_12 (fun (r_13 : Int32) (A_13 : gm_M) => post r_13 F_12 A_13)) ∧ (r_12 = (0) → post (0 : Int32) F_12 A_12))) := by
  refine s_M_keep hK (h.scr g) hp he hi hp4 hm (by decide) hV hs (by decide) (fun c A' f m' => ⟨fun _ => ?_, fun z => absurd z (by decide)⟩) (fun c => ⟨fun z => absurd rfl z, fun _ => ?_⟩)
  · have hm := m'.1 _ (vp_lt hp)
    rw [vu_at] at hm
    refine s_M_size0 hK hm hp (fun A5 f5 => ?_)
    have g5 : frM K F1 A' F1 A5 := frM_A (i := 59) hK (by decide) f5
    exact h0 c _ _ he ((g.r.trans f).trans g5.r) (m'.scr g5)
  · have g6 := g.trans (frM_F (F := F1) (A := A1) (s := 0) 2 hK (by decide))
    exact h2 c 0 _ _ (up_at _ _ _ _) g6.r (h.scr g6)
/-- the same where the reference looks no further -/
theorem s_M_endN {F1 A1 : gm_M} {x : Int} {m i : Nat} (hK : kinj K) (h : MS K F A v n tx) (he : F1 (K 49) 0 = 0) (g : frM K F A F1 A1) (hp : vp_in p1 16) (hi : 54 ≤ i ∧ i < 64) (hp4 : p4 = nI m) (hm : m ≤ 9000) (hV : aV A1 (K i) m x.natAbs) (hs : x ≠ 0 → p2 = iZ x.sign) {post : Int32 → gm_M → gm_M → Prop} (h2 : ¬ fit x → ∀ r F' A', F' (K 49) 0 = 2 → frR K F A F' A' → MS K F' A' v n tx → post r F' A') (h0 : fit x → ∀ F' A', F' (K 49) 0 = 0 → frR K F A F' A' → MS K F' A' (vu v p1.toNatClampNeg x) n tx → post (nI (bl x.natAbs)) F' A') : vc_M_keep K p1 p2 (K i) 9000 p4 2 F1 A1 (fun (r_12 : Int32) (F_12 : gm_M) (A_12 : gm_M) => vc_M_size0 K p1 F_12 A_12 (fun (r_13 : Int32) (A_13 : gm_M) => post r_13 F_12 A_13)) := by
  refine s_M_keep hK (h.scr g) hp he hi hp4 hm (by decide) hV hs (by decide) (fun c A' f m' => ?_) (fun c => ?_)
  · have hm := m'.1 _ (vp_lt hp)
    rw [vu_at] at hm
    refine s_M_size0 hK hm hp (fun A5 f5 => ?_)
    have g5 : frM K F1 A' F1 A5 := frM_A (i := 59) hK (by decide) f5
    exact h0 c _ _ he ((g.r.trans f).trans g5.r) (m'.scr g5)
  · have g6 := g.trans (frM_F (F := F1) (A := A1) (s := 0) 2 hK (by decide))
    have m6 := h.scr g6
    refine s_M_size0 hK (m6.1 _ (vp_lt hp)) hp (fun A5 f5 => ?_)
    have g5 := g6.trans (frM_A (F := gm_up F1 (K 49) 0 2) (i := 59) hK (by decide) f5)
    exact h2 c _ _ _ (up_at _ _ _ _) g5.r (h.scr g5)
end M8
