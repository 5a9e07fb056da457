theorem l_s16N {n : Nat} (h : n < 2 ^ 63) : j_lshr (lN n) (16 : Int32) = lN (n / 65536) := by
  rw [lZ_lN, show j_lshr (lZ (n : Int)) (16 : Int32) = lZ ((n : Int) / 2 ^ 16) from jl_shr 16 (by omega) (by omega) (by decide), lZ_lN]
  norm_cast
section M16
variable {F A : gm_M} {K : Nat → Nat} {n : Nat} {tx : Nat → Nat} {v : Nat → Int} {a1 n1 : Nat} {p p1 p2 p3 p4 p5 : Int32}
theorem s_M_digit {t : Nat} (hp : p = nI t) (ht : t < 128) {post : Int32 → Prop} (h : post (nI (dl 99 t))) : vc_M_digit p F A post := by
  subst hp
  unfold vc_M_digit
  unfold dl at h
  have e : (nI t).toInt = (t : Int) := nI_toInt (by omega)
  refine s_M_in 48 57 (fun r hr => ?_)
  rw [e] at hr
  rcases hr with ⟨rfl, c⟩ | ⟨rfl, c⟩
  · refine ⟨fun z => absurd z (by decide), fun _ => ?_⟩
    rw [if_pos (by omega)] at h
    rw [show nI t - (48 : Int32) = nI (t - 48) from pk_sub (a := t) (b := 48) (by omega)]; exact h
  · rw [if_neg (by omega)] at h
    refine ⟨fun _ => s_M_in 97 122 (fun r hr => ?_), fun z => absurd rfl z⟩
    rw [e] at hr
    rcases hr with ⟨rfl, c2⟩ | ⟨rfl, c2⟩
    · refine ⟨fun z => absurd z (by decide), fun _ => ?_⟩
      rw [if_pos (by omega)] at h
      rw [show nI t - (97 : Int32) = nI (t - 97) from pk_sub (a := t) (b := 97) (by omega), show nI (t - 97) + (10 : Int32) = nI (t - 97 + 10) from nI_add _ 10, show t - 97 + 10 = t - 87 by omega]; exact h
    · rw [if_neg (by omega)] at h
      refine ⟨fun _ => s_M_in 65 90 (fun r hr => ?_), fun z => absurd rfl z⟩
      rw [e] at hr
      rcases hr with ⟨rfl, c3⟩ | ⟨rfl, c3⟩
      · refine ⟨fun z => absurd z (by decide), fun _ => ?_⟩
        rw [if_pos (by omega)] at h
        rw [show nI t - (65 : Int32) = nI (t - 65) from pk_sub (a := t) (b := 65) (by omega), show nI (t - 65) + (10 : Int32) = nI (t - 65 + 10) from nI_add _ 10, show t - 65 + 10 = t - 55 by omega]; exact h
      · refine ⟨fun _ => ?_, fun z => absurd rfl z⟩
        rw [if_neg (by omega)] at h; exact h
theorem s_M_timesSmall {u V b d : Nat} (hp2 : p2 = nI u) (hp3 : p3 = nI b) (hp4 : p4 = nI d) (hb : b ≤ 36) (hd : d < 36) (hu : u < n1) (hn : n1 ≤ 9000) (h : aV A a1 u V) {post : Int32 → gm_M → Prop} (hr : ∀ A' u', (∀ c, c ≠ a1 → A' c = A c) → u' ≤ u + 1 → aV A' a1 u' (V * b + d) → post (nI u') A') : vc_M_timesSmall a1 n1 p2 p3 p4 F A post := by
  subst hp2 hp3 hp4
  unfold vc_M_timesSmall
  rw [nI_l (n := d) (by omega)]
  rintro _ rfl
  refine ⟨fun y x A2 => ∃ i c, x = nI i ∧ y = lN c ∧ i ≤ u ∧ c < 65536 ∧ sm A A2 a1 i ∧ dk 65536 A2 a1 i ∧ ev 65536 (dg A2 a1) i + c * 65536 ^ i = ev 65536 (dg A a1) i * b + d, fun _ x _ => u - x.toNatClampNeg, ⟨0, d, rfl, rfl, Nat.zero_le _, by omega, sm.rf, fun k hk => absurd hk (Nat.not_lt_zero _), by simp only [ev, Nat.zero_mul, Nat.pow_zero, Nat.mul_one]⟩, ?_⟩
  rintro _ _ A2 ⟨i, c, rfl, rfl, hi, hc, hs, hdk, he⟩
  refine pk_le u i (fun e => ?_) (fun e => ?_)
  · have : i = u := by omega
    subst this
    rw [h.2] at he
    refine ⟨fun y x A3 => ∃ c m, y = lN c ∧ x = nI m ∧ c < 65536 ∧ m ≤ i + 1 ∧ (c ≠ 0 → m = i) ∧ (∀ b, b ≠ a1 → A3 b = A b) ∧ dk 65536 A3 a1 m ∧ ev 65536 (dg A3 a1) m + c * 65536 ^ m = V * b + d, fun y _ _ => y.toInt.toNat, ⟨c, i, rfl, rfl, hc, by omega, fun _ => rfl, hs.1, hdk, he⟩, ?_⟩
    rintro _ _ A3 ⟨c, m, rfl, rfl, hc, hm, hcm, f3, dk3, he3⟩
    refine pl_eq c 0 (fun c0 => ?_) (fun c0 => ?_)
    · rw [c0, Nat.zero_mul, Nat.add_zero] at he3
      exact hr A3 m f3 hm ⟨dk3, he3⟩
    · have hmi := hcm c0
      subst hmi
      rintro _ rfl
      refine ⟨pk_in m n1 hu, ?_⟩
      rw [nI_clamp (by omega), l_m16, lN_i, l_s16N (by omega), Nat.mod_eq_of_lt hc, Nat.div_eq_of_lt hc]
      rintro _ rfl _ rfl
      refine ⟨⟨0, m + 1, rfl, nI_s m, by decide, by omega, fun z => absurd rfl z, fun b hb => by rw [gm_off hb, f3 b hb], dk_up dk3 hc (by decide), ?_⟩, ?_⟩
      · rw [ev_at (by omega), Nat.zero_mul, Nat.add_zero]; exact he3
      · dsimp only
        rw [pk_lT (by omega), pk_lT (by omega)]; omega
  · have r := h.1 i e
    have hl := r.2
    refine ⟨pk_in i n1 (by omega), ?_⟩
    have ev1 : ev 65536 (dg A a1) (i + 1) = ev 65536 (dg A a1) i + dg A a1 i * 65536 ^ i := rfl
    rw [nI_clamp (by omega), hs.2 i (Nat.le_refl _), r.1]
    generalize dg A a1 i = D at *
    have hDb : D * b ≤ 65535 * 36 := Nat.mul_le_mul (by omega) hb
    rw [nI_l (n := D) (by omega), nI_l (n := b) (by omega), lN_mul, lN_add]
    rintro _ rfl
    refine ⟨pk_in i n1 (by omega), ?_⟩
    rw [l_m16, lN_i, l_s16N (by omega)]
    rintro _ rfl _ rfl _ rfl
    refine ⟨⟨i + 1, (c + D * b) / 65536, nI_s i, rfl, by omega, by omega, hs.up _ (by omega), dk_up hdk (by omega) (by decide), ?_⟩, ?_⟩
    · rw [ev_at (by omega), ev1]
      have hcar := ev_car 65536 i (c + D * b)
      generalize (c + D * b) % 65536 = m1 at hcar ⊢
      generalize (c + D * b) / 65536 = c1 at hcar ⊢
      generalize 65536 ^ (i + 1) = X1 at hcar ⊢
      generalize 65536 ^ i = X at hcar he ⊢
      grind
    · dsimp only
      rw [nI_s, nI_clamp (by omega), nI_clamp (by omega)]; omega
set_option maxHeartbeats 1000000 in
theorem s_M_read (hK : kinj K) (h : MS K F A v n tx) {post : Int32 → gm_M → gm_M → Prop} (h1 : ¬ okR p1 p2 n tx → ∀ r F' A', F' (K 49) 0 = 1 → frR K F A F' A' → MS K F' A' v 0 tx → post r F' A') (h2 : okR p1 p2 n tx → ¬ fit (rv p2.toNatClampNeg n tx) → ∀ r F' A', F' (K 49) 0 = 2 → frR K F A F' A' → MS K F' A' v 0 tx → post r F' A') (h0 : okR p1 p2 n tx → fit (rv p2.toNatClampNeg n tx) → ∀ F' A', F' (K 49) 0 = 0 → frR K F A F' A' → MS K F' A' (vu v p1.toNatClampNeg (rv p2.toNatClampNeg n tx)) 0 tx → post (nI (bl (rv p2.toNatClampNeg n tx).natAbs)) F' A') : vc_M_read K p1 p2 F A post := by
  unfold vc_M_read
  rintro _ rfl
  have m1 := h.scr (frM_1 hK)
  have hn21 := h.2.1
  have hl1 := hm_le n tx
  rw [m1.2.2.1]
  rintro _ rfl
  refine ⟨fun q => q = nI (hm n tx), ⟨hm n tx = 0, pk_le n 0 (fun c => by omega) (fun c => ⟨pk_in 0 2100 (by decide), ?_⟩), fun z => by rw [z]; rfl⟩, ?_⟩
  · have t0 := (h.2.2.2 0 c)
    rw [show (0 : Int32).toNatClampNeg = 0 from rfl, t0.1]
    refine (pk_eq (tx 0) 45 (fun z => ?_) (fun z => ?_)).symm
    · unfold hm; rw [if_pos ⟨c, z⟩]; rfl
    · unfold hm; exact if_neg (fun w => z w.2)
  rintro _ rfl
  rintro _ rfl
  have e4 : gm_up (gm_up F (K 49) 0 0) (K 49) 1 0 (K 49) 0 = 0 := by rw [up_ne _ _ (by decide)]; exact err0
  have r4 : frR K F A (gm_up (gm_up F (K 49) 0 0) (K 49) 1 0) A := fun i hi => ⟨by rw [gm_off (kne hK (by omega) (by omega) (by omega)), gm_off (kne hK (by omega) (by omega) (by omega))], rfl⟩
  have m4 : MS K (gm_up (gm_up F (K 49) 0 0) (K 49) 1 0) A v 0 tx := ⟨h.1, Nat.zero_le _, up_at _ _ _ _, fun k hk => absurd hk (Nat.not_lt_zero _)⟩
  generalize gm_up (gm_up F (K 49) 0 0) (K 49) 1 0 = F4 at *
  have bad : ¬ okR p1 p2 n tx → post 0 (gm_up F4 (K 49) 0 1) A := fun z => h1 z 0 _ _ (up_at _ _ _ _) (r4.trans (frM_F (F := F4) (A := A) (s := 0) 1 hK (by decide)).r) (m4.scr (frM_F (F := F4) (A := A) (s := 0) 1 hK (by decide)))
  refine s_M_isReg (fun r hr => ⟨fun q => (q = 0 ∧ (vp_in p1 16 ∧ isB p2 ∧ hm n tx < n)) ∨ (q = 1 ∧ ¬ (vp_in p1 16 ∧ isB p2 ∧ hm n tx < n)), ⟨¬ (vp_in p1 16 ∧ isB p2 ∧ hm n tx < n), ?_, fun z => Or.inr ⟨rfl, z⟩⟩, fun q hq => s_M_gate e4 (by decide) hq (fun ok => ?_) (fun c => bad (fun z => c ⟨z.1, z.2.1, z.2.2.1⟩))⟩)
  · rcases hr with ⟨rfl, c1⟩ | ⟨rfl, c1⟩
    · refine ⟨fun z => absurd z (by decide), fun _ => s_M_inB (fun r hr => ?_)⟩
      rcases hr with ⟨rfl, c2⟩ | ⟨rfl, c2⟩
      · refine ⟨fun z => absurd z (by decide), fun _ => (pk_eq n (hm n tx) (fun e z => ?_) (fun e => Or.inl ⟨rfl, c1, c2, by omega⟩)).symm⟩
        have := z.2.2
        omega
      · exact ⟨fun _ z => c2 z.2.1, fun z => absurd rfl z⟩
    · exact ⟨fun _ z => c1 z.1, fun z => absurd rfl z⟩
  · obtain ⟨c1, c2, c3⟩ := ok
    obtain ⟨eb, hb1, hb2⟩ := isB_eq c2
    have k2 := fun hnum => h2 ⟨c1, c2, hnum⟩
    have k0 := fun hnum => h0 ⟨c1, c2, hnum⟩
    generalize hbE : p2.toNatClampNeg = b at *
    have htx : ∀ k, k < n → tx k < 128 := fun k hk => by have := (h.2.2.2 k hk).2; omega
    have hdl := fun t => dl_eq (e := 99) (t := t) (b := b) (by decide) hb2
    refine ⟨fun x F8 => ∃ k, x = nI k ∧ F8 = F4 ∧ hm n tx ≤ k ∧ k ≤ n ∧ ∀ j, hm n tx ≤ j → j < k → dl 36 (tx j) < b, fun x _ => n - x.toNatClampNeg, ⟨hm n tx, rfl, rfl, Nat.le_refl _, hl1.2, fun j a c => by omega⟩, ?_⟩
    rintro _ F8 ⟨k, rfl, rfl, hk1, hk2, hj⟩
    refine pk_le n k (fun e => ?_) (fun e => ⟨pk_in k 2100 (by omega), ?_⟩)
    · have : k = n := by omega
      subst this
      have hnum : isNum b k tx := ⟨c3, hj⟩
      refine ⟨fun a x A9 => ∃ u i, a = nI u ∧ x = nI i ∧ hm k tx ≤ i ∧ i ≤ k ∧ u ≤ i - hm k tx ∧ (∀ c, c ≠ K 54 → A9 c = A c) ∧ aV A9 (K 54) u (hn b (fun j => dl 36 (tx (hm k tx + j))) (i - hm k tx)), fun _ x _ => k - x.toNatClampNeg, ⟨0, hm k tx, rfl, rfl, Nat.le_refl _, hl1.2, Nat.zero_le _, fun _ _ => rfl, fun j hj => absurd hj (Nat.not_lt_zero _), by rw [Nat.sub_self]; rfl⟩, ?_⟩
      rintro _ _ A9 ⟨u, i, rfl, rfl, hi1, hi2, hu, f9, a9⟩
      refine pk_le k i (fun e2 => ?_) (fun e2 => ⟨pk_in i 2100 (by omega), ?_⟩)
      · have : i = k := by omega
        subst this
        refine ⟨fun q => rv b i tx ≠ 0 → q = iZ (rv b i tx).sign, (pk_eq (hm i tx) 1 (fun c z => ?_) (fun c z => ?_)).symm, fun q hq => ?_⟩
        · unfold rv at z ⊢
          rw [if_pos c] at z ⊢
          rw [Int.sign_eq_neg_one_of_neg (by omega)]; rfl
        · unfold rv at z ⊢
          rw [if_neg c] at z ⊢
          rw [Int.sign_eq_one_of_pos (by omega)]; rfl
        · have g9 : frM K F8 A F8 A9 := frM_A (i := 54) hK (by decide) f9
          refine s_M_endB hK m4 e4 g9 c1 (by decide) rfl (by omega) (x := rv b i tx) (m := u) (by rw [rv_abs]; exact a9) hq (fun z r F' A' q1 q2 q3 => k2 hnum z r F' A' q1 (r4.trans q2) q3) (fun z F' A' q1 q2 q3 => k0 hnum z F' A' q1 (r4.trans q2) q3)
      · have t0 := h.2.2.2 i e2
        have hd := hj i hi1 e2
        rw [nI_clamp (by omega), f9 _ (kne hK (by decide) (by decide) (by decide)), t0.1]
        refine s_M_digit rfl (htx i e2) ?_
        rw [(hdl (tx i)).2 hd]
        refine s_M_timesSmall rfl eb rfl hb2 (by omega) (by omega) (by decide) a9 (fun A14 u14 f14 hu14 a14 => ?_)
        rintro _ rfl
        refine ⟨⟨u14, i + 1, rfl, nI_s i, by omega, by omega, by omega, fun c hc => by rw [f14 c hc, f9 c hc], ?_⟩, ?_⟩
        · rw [show i + 1 - hm k tx = (i - hm k tx) + 1 by omega]
          show aV A14 (K 54) u14 (_ * b + dl 36 (tx (hm k tx + (i - hm k tx))))
          rw [show hm k tx + (i - hm k tx) = i by omega]
          exact a14
        · dsimp only
          rw [nI_s, nI_clamp (by omega), nI_clamp (by omega)]; omega
    · have t0 := h.2.2.2 k e
      rw [nI_clamp (by omega), t0.1]
      refine s_M_digit rfl (htx k e) ?_
      have hdb := hdl (tx k)
      have hd99 : dl 99 (tx k) ≤ 200 := by have := htx k e; unfold dl; split; omega; split; omega; split <;> omega
      rw [eb]
      refine pk_lt (dl 99 (tx k)) b (fun d => ?_) (fun d => ?_)
      · refine s_M_fails e4 (by decide) (fun _ => ⟨fun _ => ?_, fun z => absurd rfl z⟩) (fun z => absurd rfl z)
        rintro _ rfl
        refine ⟨⟨k + 1, nI_s k, rfl, by omega, by omega, fun j a c => ?_⟩, ?_⟩
        · by_cases f : j = k
          · subst f; exact hdb.1.mp d
          · exact hj j a (by omega)
        · dsimp only
          rw [nI_s, nI_clamp (by omega), nI_clamp (by omega)]; omega
      · refine s_M_fails e4 (by decide) (fun z => absurd z (by decide)) (fun _ => ⟨fun z => absurd z (by decide), fun _ => bad (fun z => ?_)⟩)
        have := z.2.2.2 k hk1 e
        rw [hbE] at this
        have := hdb.1.mpr this
        omega
end M16
