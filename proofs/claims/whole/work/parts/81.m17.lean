theorem md_divs {A : gm_M} {a u V d : Nat} {R : Int64 → gm_M → Prop} {p2 : Int32} (h : aV A a u V) (hp2 : p2 = nI d) (hd0 : 0 < d) (hd2 : d < 65536) (hu : u ≤ 9000) (hR : ∀ A', (∀ b, b ≠ a → A' b = A b) → aV A' a u (V / d) → R (lN (V % d)) A') {x : Int32} (hx : x = dn u) : ∃ (I_62 : Int64 → Int32 → gm_M → Prop) (μ_62 : Int64 → Int32 → gm_M → Nat), I_62 (0 : Int64) x A ∧ ∀ (x5_22 : Int64) (x7_22 : Int32) (A_22 : gm_M), I_62 x5_22 x7_22 A_22 →
    ((x7_22 < (0) → R x5_22 A_22) ∧ (¬ x7_22 < (0) →
      (vp_in x7_22 9000) ∧
      ∀ x5_26 : Int64, x5_26 = ((j_lshl x5_22 (16 : Int32)) ||| ((A_22 a x7_22.toNatClampNeg).toInt64)) →
      (¬ (p2.toInt64) = 0) ∧
      (vp_in x7_22 9000) ∧ ∀ A_27 : gm_M, A_27 = gm_up A_22 a x7_22.toNatClampNeg ((x5_26 / (p2.toInt64)).toInt32) →
      (¬ (p2.toInt64) = 0) ∧
      ∀ x5_28 : Int64, x5_28 = (x5_26 - x5_26 / (p2.toInt64) * (p2.toInt64)) →
      ∀ x7_29 : Int32, x7_29 = x7_22 + (-1 : Int32) →
      I_62 x5_28 x7_29 A_27 ∧ μ_62 x5_28 x7_29 A_27 < μ_62 x5_22 x7_22 A_22)) := by
  subst hx hp2
  rw [nI_l (n := d) (by omega)]
  refine ⟨fun y x A2 => ∃ z L, x = dn z ∧ z ≤ u ∧ y = lN L ∧ L = V / 65536 ^ z % d ∧ smd A A2 a z ∧ (∀ j, z ≤ j → j < u → A2 a j = nI (dg A2 a j) ∧ dg A2 a j < 65536) ∧ ev 65536 (fun j => dg A2 a (z + j)) (u - z) = V / 65536 ^ z / d, fun _ x _ => (x.toInt + 1).toNat, ⟨u, 0, rfl, Nat.le_refl _, rfl, ?_, smd.rf, fun j h1 h2 => by omega, ?_⟩, ?_⟩
  · rw [Nat.div_eq_of_lt h.lt, Nat.zero_mod]
  · rw [Nat.div_eq_of_lt h.lt, Nat.zero_div, Nat.sub_self]; rfl
  rintro _ _ A2 ⟨z, L, rfl, hz, rfl, hL, hs, hdk, he⟩
  refine dn_br z (by omega) (fun e => ?_) (fun t e => ?_)
  · subst e
    rw [Nat.pow_zero, Nat.div_one] at hL he
    rw [hL]
    refine hR A2 hs.1 ⟨fun j hj => hdk j (Nat.zero_le _) hj, ?_⟩
    rw [← he]
    exact ev_congr (fun j _ => by rw [Nat.zero_add])
  · subst e
    have hdt := h.dig t
    rw [show dz A a u t = dg A a t from if_pos (by omega)] at hdt
    have r1 := h.1 t (by omega)
    have hlt := r1.2
    have hLd : L < d := by rw [hL]; exact Nat.mod_lt _ hd0
    rw [dn_succ]
    refine ⟨pk_in t 9000 (by omega), ?_⟩
    rw [nI_clamp (by omega), hs.get a (by omega : t < t + 1), r1.1]
    rw [div_pow_succ] at hL he
    generalize hY : V / 65536 ^ t = Y at hL he hdt
    generalize dg A a t = D at hdt hlt ⊢
    have hLD : L * 65536 + D < d * 65536 := by omega
    obtain ⟨hq1, hq2⟩ := div_step hd0 hdt hL
    have hqlt : (L * 65536 + D) / d < 65536 := Nat.div_lt_of_lt_mul hLD
    have hL16 : L < 2 ^ 32 := by omega
    have hbig : L * 65536 + D < 2 ^ 63 := by omega
    rw [nI_l (n := D) (by omega), l_mk16 hL16 hlt]
    rintro _ rfl
    have hne : ¬ lN d = 0 := fun z => by
      have := (pk_lEQ (a := d) (b := 0) (by omega) (by omega)).mp z
      omega
    refine ⟨hne, pk_in t 9000 (by omega), ?_⟩
    rw [pk_lRem hbig hd0 (by omega), pk_lDiv hbig hd0 (by omega), lN_i]
    rintro _ rfl
    refine ⟨hne, ?_⟩
    rintro _ rfl _ rfl
    refine ⟨⟨t, (L * 65536 + D) % d, dn_next t, by omega, rfl, ?_, hs.up _, fun j h1 h2 => ?_, ?_⟩, ?_⟩
    · rw [hY, hq2]
    · by_cases c : j = t
      · subst c
        rw [dg_at _ _ _ (by omega), up_at]
        exact ⟨rfl, hqlt⟩
      · rw [dg_ne _ _ c, up_ne _ _ c]
        exact hdk j (by omega) h2
    · rw [show u - t = (u - (t + 1)) + 1 by omega, ev_cons, dg_at _ _ _ (by omega), hY, hq1, ← he]
      congr 2
      exact ev_congr (fun j _ => dg_ne _ _ (by omega))
    · dsimp only
      rw [dn_next, dn_mu _ (by omega), nI_toInt (by omega)]; omega
section M17
variable {F A : gm_M} {K : Nat → Nat} {n : Nat} {tx : Nat → Nat} {v : Nat → Int} {a1 n1 : Nat} {p p1 p2 p3 p4 p5 : Int32}
set_option maxHeartbeats 2000000 in
theorem s_M_show (hK : kinj K) (h : MS K F A v n tx) {post : Int32 → gm_M → gm_M → Prop} (h1 : ¬ (vp_in p1 16 ∧ isB p2) → ∀ r F' A', F' (K 49) 0 = 1 → frR K F A F' A' → MS K F' A' v n tx → post r F' A') (h0 : vp_in p1 16 → isB p2 → ∀ L F' A', ndP p2.toNatClampNeg (v p1.toNatClampNeg).natAbs L → F' (K 49) 0 = 0 → frR K F A F' A' → MS K F' A' v (L + sn (v p1.toNatClampNeg)) (sx p2.toNatClampNeg (v p1.toNatClampNeg) L) → post (nI (L + sn (v p1.toNatClampNeg))) F' A') : vc_M_show K p1 p2 F A post := by
  unfold vc_M_show
  rintro _ rfl
  have m1 := h.scr (frM_1 hK)
  refine s_M_isReg (fun r hr => ⟨fun q => (q = 0 ∧ (vp_in p1 16 ∧ isB p2)) ∨ (q = 1 ∧ ¬ (vp_in p1 16 ∧ isB p2)), ⟨¬ (vp_in p1 16 ∧ isB p2), ?_, fun z => Or.inr ⟨rfl, z⟩⟩, fun q hq => s_M_gate err0 (by decide) hq (fun ok => ?_) (fun c => h1 c 0 _ _ (up_at _ _ _ _) (frM_2 hK 1).r (h.scr (frM_2 hK 1)))⟩)
  · rcases hr with ⟨rfl, c1⟩ | ⟨rfl, c1⟩
    · refine ⟨fun z => absurd z (by decide), fun _ => s_M_inB (fun r hr => ?_)⟩
      rcases hr with ⟨rfl, c2⟩ | ⟨rfl, c2⟩
      · exact ⟨fun _ => Or.inl ⟨rfl, c1, c2⟩, fun z => absurd z (by decide)⟩
      · exact ⟨fun z => absurd rfl z, fun _ z => c2 z.2⟩
    · exact ⟨fun _ z => c1 z.1, fun z => absurd rfl z⟩
  · obtain ⟨c1, c2⟩ := ok
    have k0 := h0 c1 c2
    clear h1 h0
    obtain ⟨eb, hb1, hb2⟩ := isB_eq c2
    have w1 := vp_lt c1
    refine s_M_load hK (m1.1 _ w1) c1 (by decide) (by decide) (by decide) (fun A5 u5 f5 a5 hu5 => ?_)
    have s1 := (h.1 _ w1).sg
    have hfx : fit (v p1.toNatClampNeg) := by obtain ⟨c, _, _, _, _, _, _, h7⟩ := h.1 _ w1; exact h7
    generalize hbE : p2.toNatClampNeg = b at *
    have hb0 : 0 < b := by omega
    generalize v p1.toNatClampNeg = x at *
    have hsx : ∀ L j, sx b x L j = if j < sn x then 45 else ch (x.natAbs / b ^ (L - 1 - (j - sn x)) % b) := fun L j => rfl
    unfold fit at hfx
    obtain ⟨N, hN⟩ : ∃ N, N = bN := ⟨_, rfl⟩
    have hN2 : N = 2048 := hN
    rw [← hN] at hfx
    generalize hwE : x.natAbs = w at *
    have hmN : ∀ m, (m = 0 ∨ b ^ (m - 1) ≤ w) → m ≤ N := fun m hm => by
      rcases hm with z | z
      · omega
      · have a := Nat.pow_le_pow_left hb1 (m - 1)
        have : 2 ^ (m - 1) < 2 ^ N := by omega
        have := (Nat.pow_lt_pow_iff_right (by decide : 1 < 2)).mp this
        omega
    refine ⟨fun a y A6 => ∃ u m, a = nI u ∧ y = nI m ∧ u ≤ 9000 ∧ (∀ i, i < 54 → A6 (K i) = A (K i)) ∧ aU A6 (K 54) u (w / b ^ m) ∧ (∀ j, j < m → A6 (K 55) j = nI (w / b ^ j % b)) ∧ (m = 0 ∨ b ^ (m - 1) ≤ w), fun _ y _ => 3000 - y.toNatClampNeg, ⟨u5, 0, rfl, rfl, by omega, fun i hi => f5 _ (kne hK (by omega) (by omega) (by omega)), by rw [Nat.pow_zero, Nat.div_one]; exact a5, fun j hj => absurd hj (Nat.not_lt_zero _), Or.inl rfl⟩, ?_⟩
    rintro _ _ A6 ⟨u, m, rfl, rfl, hu, f6, a6, d6, hm⟩
    have hmle := hmN m hm
    refine pk_le u 0 (fun c => ?_) (fun c => ?_)
    · have hz : w / b ^ m = 0 := a6.pos.mp (by omega)
      have hlt : w < b ^ m := by
        rcases Nat.lt_or_ge w (b ^ m) with d | d
        · exact d
        · have := Nat.div_pos d (Nat.pow_pos hb0 : 0 < b ^ m); rw [hz] at this; exact absurd this (Nat.lt_irrefl 0)
      refine ⟨fun y A7 => ∃ L, y = nI L ∧ ndP b w L ∧ (∀ i, i < 54 → A7 (K i) = A (K i)) ∧ ∀ j, j < L → A7 (K 55) j = nI (w / b ^ j % b), (pk_eq m 0 (fun m0 => ?_) (fun m0 => ⟨m, rfl, ⟨by omega, hlt, by rcases hm with z | z; exact absurd z m0; exact Or.inr z⟩, f6, d6⟩)).symm, ?_⟩
      · subst m0
        rw [Nat.pow_zero] at hlt
        have hw0 : w = 0 := by omega
        rintro _ rfl
        refine ⟨pk_in 0 9000 (by decide), ?_⟩
        rintro _ rfl
        refine ⟨1, nI_s 0, ⟨Nat.le_refl _, by rw [hw0]; exact Nat.pow_pos hb0, Or.inl rfl⟩, fun i hi => by rw [gm_off (kne hK (by omega) (by omega) (by omega)), f6 i hi], fun j hj => ?_⟩
        have : j = 0 := by omega
        subst this
        rw [hw0, Nat.zero_div, Nat.zero_mod]
        exact up_at _ _ _ _
      rintro _ A7 ⟨L, rfl, hL, f7, d7⟩
      have hLN := ndP_le hb1 hL hfx (by omega)
      rintro _ rfl
      refine ⟨c1, ?_⟩
      have s7 : A7 (K 52) p1.toNatClampNeg = iZ x.sign := by rw [f7 52 (by decide)]; exact s1
      rw [s7, sg_le]
      have hsn : sn x ≤ 1 := by unfold sn; split <;> omega
      refine ⟨fun F9 A9 => (∀ i, i < 49 → F9 (K i) = F (K i)) ∧ F9 (K 49) 0 = 0 ∧ F9 (K 49) 1 = nI (sn x) ∧ (∀ i, i < 53 → A9 (K i) = A (K i)) ∧ (∀ j, j < L → A9 (K 55) j = nI (w / b ^ j % b)) ∧ (∀ j, j < sn x → A9 (K 53) j = nI 45), ⟨fun d => ?_, fun d => ?_⟩, ?_⟩
      · have e : sn x = 0 := if_neg (by omega)
        rw [e]
        refine ⟨fun i hi => by rw [gm_off (kne hK (by omega) (by omega) (by omega)), gm_off (kne hK (by omega) (by omega) (by omega))], by rw [up_ne _ _ (by decide)]; exact err0, up_at _ _ _ _, fun i hi => f7 i (by omega), d7, fun j hj => absurd hj (Nat.not_lt_zero _)⟩
      · have e : sn x = 1 := if_pos (by omega)
        rw [e]
        rw [up_at, show (0 : Int32).toNatClampNeg = 0 from rfl]
        rintro _ rfl
        refine ⟨pk_in 0 2100 (by decide), ?_⟩
        rintro _ rfl
        refine ⟨fun i hi => by rw [gm_off (kne hK (by omega) (by omega) (by omega)), gm_off (kne hK (by omega) (by omega) (by omega)), gm_off (kne hK (by omega) (by omega) (by omega))], by rw [up_ne _ _ (by decide), up_ne _ _ (by decide)]; exact err0, by rw [up_at]; rfl, fun i hi => by rw [gm_off (kne hK (by omega) (by omega) (by omega)), f7 i (by omega)], fun j hj => by rw [gm_off (kne hK (by decide) (by decide) (by decide))]; exact d7 j hj, fun j hj => ?_⟩
        have : j = 0 := by omega
        subst this
        exact up_at _ _ _ _
      rintro F9 A9 ⟨q1, q2, q3, q4, q5, q6⟩
      rintro _ rfl
      refine ⟨fun y F11 A11 => ∃ z, y = dn z ∧ z ≤ L ∧ (∀ i, i < 49 → F11 (K i) = F (K i)) ∧ F11 (K 49) 0 = 0 ∧ F11 (K 49) 1 = nI (sn x + (L - z)) ∧ (∀ i, i < 53 → A11 (K i) = A (K i)) ∧ (∀ j, j < L → A11 (K 55) j = nI (w / b ^ j % b)) ∧ (∀ j, j < sn x + (L - z) → A11 (K 53) j = nI (sx b x L j)), fun y _ _ => (y.toInt + 1).toNat, ⟨L, rfl, Nat.le_refl _, q1, q2, by rw [Nat.sub_self, Nat.add_zero]; exact q3, q4, q5, fun j hj => ?_⟩, ?_⟩
      · have hj2 : j < sn x := by omega
        rw [hsx, if_pos hj2]; exact q6 j hj2
      rintro _ F11 A11 ⟨z, rfl, hz2, r1, r2, r3, r4, r5, r6⟩
      refine dn_br z (by omega) (fun z0 => ?_) (fun t zt => ?_)
      · subst z0
        rw [Nat.sub_zero, Nat.add_comm] at r3 r6
        rw [r3]
        refine k0 L F11 A11 hL r2 (fun i hi => ⟨r1 i hi, r4 i (by omega)⟩) ⟨fun q hq => (h.1 q hq).congr (fun k _ => by rw [r4 50 (by decide)]) (by rw [r4 51 (by decide)]) (by rw [r4 52 (by decide)]), by omega, r3, fun k hk => ⟨r6 k hk, ?_⟩⟩
        rw [hsx]
        split
        · exact ⟨by decide, by decide⟩
        · exact ch_rng (Nat.lt_of_lt_of_le (Nat.mod_lt _ hb0) hb2)
      · subst zt
        rw [dn_succ]
        have hDl : w / b ^ t % b < b := Nat.mod_lt _ hb0
        have eD := r5 t (by omega)
        have next : ∀ c : Int32, c = nI (ch (w / b ^ t % b)) → ∀ A_13 : gm_M, A_13 = gm_up A11 (K 53) (nI (sn x + (L - (t + 1)))).toNatClampNeg c → ∀ x5_14 : Int32, x5_14 = nI t + (-1 : Int32) → (∃ z, x5_14 = dn z ∧ z ≤ L ∧ (∀ i, i < 49 → gm_up F11 (K 49) 1 (nI (sn x + (L - (t + 1))) + 1) (K i) = F (K i)) ∧ gm_up F11 (K 49) 1 (nI (sn x + (L - (t + 1))) + 1) (K 49) 0 = 0 ∧ gm_up F11 (K 49) 1 (nI (sn x + (L - (t + 1))) + 1) (K 49) 1 = nI (sn x + (L - z)) ∧ (∀ i, i < 53 → A_13 (K i) = A (K i)) ∧ (∀ j, j < L → A_13 (K 55) j = nI (w / b ^ j % b)) ∧ (∀ j, j < sn x + (L - z) → A_13 (K 53) j = nI (sx b x L j))) ∧ (x5_14.toInt + 1).toNat < ((nI t).toInt + 1).toNat := by
          rintro _ rfl _ rfl _ rfl
          rw [nI_clamp (by omega)]
          refine ⟨⟨t, dn_next t, by omega, fun i hi => by rw [gm_off (kne hK (by omega) (by omega) (by omega)), r1 i hi], by rw [up_ne _ _ (by decide)]; exact r2, by rw [up_at, nI_s]; congr 1; omega, fun i hi => by rw [gm_off (kne hK (by omega) (by omega) (by omega)), r4 i hi], fun j hj => by rw [gm_off (kne hK (by decide) (by decide) (by decide))]; exact r5 j hj, fun j hj => ?_⟩, ?_⟩
          · by_cases c : j = sn x + (L - (t + 1))
            · subst c
              rw [up_at, hsx, if_neg (by omega), show L - 1 - (sn x + (L - (t + 1)) - sn x) = t by omega]
            · rw [up_ne _ _ c]; exact r6 j (by omega)
          · rw [dn_next, dn_mu t (by omega), nI_toInt (by omega)]; omega
        rw [r3]
        rintro _ rfl
        refine ⟨pk_in t 9000 (by omega), ?_⟩
        rw [nI_clamp (n := t) (by omega), eD]
        unfold ch at next
        generalize w / b ^ t % b = D at *
        refine pk_le 10 D (fun c => ⟨pk_in t 9000 (by omega), pk_in (sn x + (L - (t + 1))) 2100 (by omega), next _ ?_⟩) (fun c => ⟨pk_in t 9000 (by omega), pk_in (sn x + (L - (t + 1))) 2100 (by omega), next _ ?_⟩)
        · rw [if_neg (by omega), show (97 : Int32) + nI D = nI (97 + D) from nI_add 97 D, show nI (97 + D) - (10 : Int32) = nI (97 + D - 10) from pk_sub (a := 97 + D) (b := 10) (by omega), show 97 + D - 10 = 87 + D by omega]
        · rw [if_pos c]; exact nI_add 48 D
    · have hM : w / b ^ m ≠ 0 := fun z => by have := a6.pos.mpr z; omega
      have hge : b ^ m ≤ w := by
        rcases Nat.lt_or_ge w (b ^ m) with d | d
        · exact absurd (Nat.div_eq_of_lt d) hM
        · exact d
      rintro _ rfl
      refine md_divs a6.v eb hb0 (by omega) hu (fun A22 f22 a22 => ?_) rfl
      rw [Nat.div_div_eq_div_mul, ← Nat.pow_succ] at a22
      refine s_M_trim (m := u) rfl hu (by decide) a22 (fun r23 hr23 a23 => ?_)
      rintro _ rfl
      refine ⟨pk_in m 9000 (by omega), ?_⟩
      rw [nI_clamp (by omega), lN_i]
      rintro _ rfl
      refine ⟨⟨r23, m + 1, rfl, nI_s m, by omega, fun i hi => by rw [gm_off (kne hK (by omega) (by omega) (by omega)), f22 _ (kne hK (by omega) (by omega) (by omega)), f6 i hi], a23.cong (gm_off (kne hK (by decide) (by decide) (by decide))), fun j hj => ?_, Or.inr hge⟩, ?_⟩
      · by_cases c3 : j = m
        · subst c3; exact up_at _ _ _ _
        · rw [up_ne _ _ c3, f22 _ (kne hK (by decide) (by decide) (by decide))]; exact d6 j (by omega)
      · dsimp only
        rw [nI_s, nI_clamp (by omega), nI_clamp (by omega)]; omega
end M17
