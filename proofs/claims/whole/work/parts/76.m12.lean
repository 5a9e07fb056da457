def bt (w i : Nat) : Nat := if w % 2 ^ i ≠ 0 then 1 else 0
theorem bt_s (w i : Nat) : bt w i ||| (w / 2 ^ i % 2) = bt w (i + 1) := by
  have e := Nat.mod_pow_succ (x := w) (b := 2) (k := i)
  have hp : 0 < 2 ^ i := Nat.two_pow_pos i
  have hb : w / 2 ^ i % 2 < 2 := Nat.mod_lt _ (by decide)
  unfold bt
  rw [e]
  generalize w / 2 ^ i % 2 = b at *
  generalize w % 2 ^ i = r at *
  generalize 2 ^ i = P at *
  have hb2 : b = 0 ∨ b = 1 := by omega
  rcases hb2 with rfl | rfl
  · rw [Nat.mul_zero, Nat.add_zero, Nat.or_zero]
  · rw [Nat.mul_one, if_pos (show r + P ≠ 0 by omega)]
    split <;> rfl
section M12
variable {F A : gm_M} {K : Nat → Nat} {n : Nat} {tx : Nat → Nat} {v : Nat → Int} {p p1 p2 p3 p4 p5 : Int32}
theorem s_M_endB' {F1 A1 : gm_M} {x : Int} {m i : Nat} (hK : kinj K) (h : MS K F A v n tx) (he : F1 (K 49) 0 = 0) (g : frM K F A F1 A1) (hp : vp_in p1 16) (hi : 54 ≤ i ∧ i < 64) (hp4 : p4 = nI m) (hm : m ≤ 9000) (hV : aV A1 (K i) m x.natAbs) (hs : x ≠ 0 → p2 = iZ x.sign) {post : Int32 → gm_M → gm_M → Prop} (h2 : ¬ fit x → ∀ r F' A', F' (K 49) 0 = 2 → frR K F A F' A' → MS K F' A' v n tx → post r F' A') (h0 : fit x → ∀ F' A', F' (K 49) 0 = 0 → frR K F A F' A' → MS K F' A' (vu v p1.toNatClampNeg x) n tx → post (nI (bl x.natAbs)) F' A') : vc_M_keep K p1 p2 (K i) 9000 p4 2 F1 A1 (fun (r_12 : Int32) (F_12 : gm_M) (A_12 : gm_M) => ((r_12 = (0) → post (0 : Int32) F_12 A_12) ∧ (¬ r_12 = (0) → vc_M_size0 K p1 F_12 A_12 (fun (r_13 : Int32) (A_13 : gm_M) => post r_13 F_12 A_13)))) := by
  refine s_M_keep hK (h.scr g) hp he hi hp4 hm (by decide) hV hs (by decide) (fun c A' f m' => ⟨fun z => absurd z (by decide), fun _ => ?_⟩) (fun c => ⟨fun _ => ?_, fun z => absurd rfl z⟩)
  · have hm := m'.1 _ (vp_lt hp)
    rw [vu_at] at hm
    refine s_M_size0 hK hm hp (fun A5 f5 => ?_)
    have g5 : frM K F1 A' F1 A5 := frM_A (i := 59) hK (by decide) f5
    exact h0 c _ _ he ((g.r.trans f).trans g5.r) (m'.scr g5)
  · have g6 := g.trans (frM_F (F := F1) (A := A1) (s := 0) 2 hK (by decide))
    exact h2 c 0 _ _ (up_at _ _ _ _) g6.r (h.scr g6)
set_option maxHeartbeats 1000000 in
theorem s_M_shift (hK : kinj K) (h : MS K F A v n tx) {post : Int32 → gm_M → gm_M → Prop} (h1 : ¬ okS p1 p2 p3 → ∀ r F' A', F' (K 49) 0 = 1 → frR K F A F' A' → MS K F' A' v n tx → post r F' A') (h2 : okS p1 p2 p3 → ¬ fit (shv (v p2.toNatClampNeg) p3.toInt) → ∀ r F' A', F' (K 49) 0 = 2 → frR K F A F' A' → MS K F' A' v n tx → post r F' A') (h0 : okS p1 p2 p3 → fit (shv (v p2.toNatClampNeg) p3.toInt) → ∀ F' A', F' (K 49) 0 = 0 → frR K F A F' A' → MS K F' A' (vu v p1.toNatClampNeg (shv (v p2.toNatClampNeg) p3.toInt)) n tx → post (nI (bl (shv (v p2.toNatClampNeg) p3.toInt).natAbs)) F' A') : vc_M_shift K p1 p2 p3 F A post := by
  unfold vc_M_shift
  rintro _ rfl
  have m1 := h.scr (frM_1 hK)
  refine s_M_isReg (fun r hr => ⟨fun q => (q = 0 ∧ okS p1 p2 p3) ∨ (q = 1 ∧ ¬ okS p1 p2 p3), ⟨¬ okS p1 p2 p3, ?_, fun z => Or.inr ⟨rfl, z⟩⟩, fun q hq => s_M_gate err0 (by decide) hq (fun ok => ?_) (fun c => h1 c 0 _ _ (up_at _ _ _ _) (frM_2 hK 1).r (h.scr (frM_2 hK 1)))⟩)
  · rcases hr with ⟨rfl, c1⟩ | ⟨rfl, c1⟩
    · refine ⟨fun z => absurd z (by decide), fun _ => s_M_isReg (fun r hr => ?_)⟩
      rcases hr with ⟨rfl, c2⟩ | ⟨rfl, c2⟩
      · refine ⟨fun z => absurd z (by decide), fun _ => s_M_in (-4000) 4000 (fun r hr => ?_)⟩
        rcases hr with ⟨rfl, c3⟩ | ⟨rfl, c3⟩
        · exact ⟨fun _ => Or.inl ⟨rfl, c1, c2, c3.1, c3.2⟩, fun z => absurd z (by decide)⟩
        · exact ⟨fun z => absurd rfl z, fun _ z => c3 ⟨z.2.2.1, z.2.2.2⟩⟩
      · exact ⟨fun _ z => c2 z.2.1, fun z => absurd rfl z⟩
    · exact ⟨fun _ z => c1 z.1, fun z => absurd rfl z⟩
  · have k2 := h2 ok
    have k0 := h0 ok
    clear h1 h2 h0
    obtain ⟨c1, c2, d1, d2⟩ := ok
    have w2 := vp_lt c2
    refine s_M_load hK (m1.1 _ w2) c2 (by decide) (by decide) (by decide) (fun A5 u5 f5 a5 hu5 => ?_)
    have g5 := (frM_1 (F := F) (A := A) hK).trans (frM_A (F := gm_up F (K 49) 0 0) (i := 54) hK (by decide) f5)
    have s5 := ((h.scr g5).1 _ w2).sg
    have ep := iZ_self p3
    generalize hzE : p3.toInt = z at *
    have hsg : ∀ A9 : gm_M, (∀ i, i < 54 → A9 (K i) = A5 (K i)) → A9 (K 52) p2.toNatClampNeg = iZ (v p2.toNatClampNeg).sign := fun A9 e => by rw [e 52 (by decide)]; exact s5
    generalize v p2.toNatClampNeg = x at *
    refine pz_lt z 0 (fun c => ?_) (fun c => ⟨c2, ?_⟩) hzE rfl
    · obtain ⟨N, hN⟩ : ∃ N : Nat, N = (-z).toNat := ⟨_, rfl⟩
      have hzN : z = -(N : Int) := by omega
      have e : shv x z = x / 2 ^ N := by unfold shv; rw [if_neg (by omega), hN]
      rw [e] at k2 k0
      have enp : -p3 = nI N := by rw [← ep, iZ_neg, iZ_nI]; congr 1; omega
      have hda := dn_abs x N
      generalize hwE : x.natAbs = w at *
      rw [enp]
      refine ⟨fun a b => ∃ i, a = nI (bt w i) ∧ b = nI i ∧ i ≤ N, fun _ b => N - b.toNatClampNeg, ⟨0, by unfold bt; rw [Nat.pow_zero, Nat.mod_one]; rfl, rfl, Nat.zero_le _⟩, ?_⟩
      rintro _ _ ⟨i, rfl, rfl, hi⟩
      refine pk_le N i (fun e2 => ?_) (fun e2 => ?_)
      · have : i = N := by omega
        subst this
        refine ⟨fun a b A7 => ∃ k, a = nI k ∧ b = nI k ∧ k ≤ u5 ∧ (∀ b, b ≠ K 56 → A7 b = A5 b) ∧ ∀ j, j < k → A7 (K 56) j = nI (w / 2 ^ i / 65536 ^ j % 65536), fun _ b _ => u5 - b.toNatClampNeg, ⟨0, rfl, rfl, Nat.zero_le _, fun _ _ => rfl, fun j hj => absurd hj (Nat.not_lt_zero _)⟩, ?_⟩
        rintro _ _ A7 ⟨k, rfl, rfl, hk, f7, d7⟩
        have e16 : (16 : Int32) * nI u5 + p3 = iZ (16 * (u5 : Int) - i) := by
          rw [show (16 : Int32) * nI u5 = nI (16 * u5) from pk_mul 16 u5, ← ep, iZ_nI, iZ_add]; congr 1; omega
        have e16k : (16 : Int32) * nI k = nI (16 * k) := pk_mul 16 k
        rw [e16, e16k]
        refine pz_le (16 * (u5 : Int) - i) (16 * (k : Int)) (fun c3 => ?_) (fun c3 => ?_) (iZ_t (by omega) (by omega)) (by rw [nI_toInt (by omega)]; omega)
        · have hlt : w / 2 ^ i < 65536 ^ k := by
            have g := a5.lt
            rw [pow16] at g ⊢
            rw [Nat.div_lt_iff_lt_mul (Nat.two_pow_pos i), ← Nat.pow_add]
            exact Nat.lt_of_lt_of_le g (Nat.pow_le_pow_right (by decide) (by omega))
          have hd7 : ∀ j, j < k → dg A7 (K 56) j = w / 2 ^ i / 65536 ^ j % 65536 := fun j hj => dg_of (d7 j hj) (Nat.lt_trans (Nat.mod_lt _ (by decide)) (by decide))
          refine s_M_trim (m := k) (v := w / 2 ^ i) rfl (by omega) (by decide) ⟨fun j hj => by rw [hd7 j hj]; exact ⟨d7 j hj, Nat.mod_lt _ (by decide)⟩, by rw [ev_congr hd7, ev_all, Nat.mod_eq_of_lt hlt]⟩ (fun r hr hra => ?_)
          have f54 : ∀ q, q < 54 → A7 (K q) = A5 (K q) := fun q hq => f7 _ (kne hK (by omega) (by omega) (by omega))
          have bt01 : bt w i ≤ 1 := by unfold bt; split <;> omega
          refine ⟨fun a A9 => ∃ u, a = nI u ∧ u ≤ 200 ∧ (∀ q, q < 54 → A9 (K q) = A5 (K q)) ∧ aU A9 (K 56) u (x / 2 ^ i).natAbs, pk_eq (bt w i) 0 (fun b0 => ⟨r, rfl, by omega, f54, ?_⟩) (fun b0 => ⟨c2, ?_⟩), ?_⟩
          · have hm0 : w % 2 ^ i = 0 := by
              unfold bt at b0
              by_cases c4 : w % 2 ^ i = 0
              · exact c4
              · rw [if_pos c4] at b0; exact absurd b0 (by decide)
            rw [hda, if_pos hm0]
            split
            · rw [Int.natAbs_neg, Int.natAbs_natCast]; exact hra
            · rw [Int.natAbs_natCast]; exact hra
          · rw [hsg A7 f54, sg_le]
            refine ⟨fun c4 => ⟨r, rfl, by omega, f54, ?_⟩, fun c4 => ⟨pk_in 0 9000 (by decide), ?_⟩⟩
            · rw [hda, if_neg (by omega), Int.natAbs_natCast]; exact hra
            · rintro _ rfl
              have hm0 : w % 2 ^ i ≠ 0 := fun z => b0 (by unfold bt; rw [if_neg (fun y => y z)])
              have one : aV (gm_up A7 (K 57) 0 1) (K 57) 1 1 := ⟨fun k hk => by
                have : k = 0 := by omega
                subst this
                rw [show dg (gm_up A7 (K 57) 0 1) (K 57) 0 = 1 from dg_of (up_at _ _ _ _) (by decide), up_at]
                exact ⟨rfl, by decide⟩, by
                simp only [ev, Nat.pow_zero, Nat.mul_one, Nat.zero_add]
                exact dg_of (up_at _ _ _ _) (by decide)⟩
              refine s_M_plus (u1 := r) (u3 := 1) rfl rfl (hra.cong (gm_off (kne hK (by decide) (by decide) (by decide)))).v one (by omega) (by decide) (by omega) (by decide) (by decide) (by decide) (fun A9 u9 f9 hu9 a9 => ⟨u9, rfl, by omega, fun q hq => by rw [f9 _ (kne hK (by omega) (by omega) (by omega)), gm_off (kne hK (by omega) (by omega) (by omega)), f54 q hq], ?_⟩)
              rw [hda, if_pos (by omega), if_neg hm0, Int.natAbs_neg, Int.natAbs_natCast]; exact a9
          · rintro _ A9 ⟨u, rfl, hu, f9, a9⟩
            refine ⟨c2, ?_⟩
            rw [hsg A9 f9]
            have g9 : frM K F A (gm_up F (K 49) 0 0) A9 := g5.trans ⟨fun _ _ => rfl, rfl, f9⟩
            refine s_M_endN hK h err0 g9 c1 (by decide) rfl (by omega) a9.v (fun z => ?_) k2 k0
            congr 1
            have q1 := sg3 x
            have q2 := sg3 (x / 2 ^ i)
            have hn1 : x < 0 → x / 2 ^ i < 0 := fun y => Int.ediv_neg_of_neg_of_pos y (by exact_mod_cast Nat.two_pow_pos i)
            have hn2 : 0 ≤ x → 0 ≤ x / 2 ^ i := fun y => Int.ediv_nonneg y (Int.le_of_lt (by exact_mod_cast Nat.two_pow_pos i))
            rcases q1 with a | a | a
            · have := hn1 a.2
              rcases q2 with b | b | b
              · rw [a.1, b.1]
              · exact absurd b.2 z
              · exact absurd this (by have := b.2; omega)
            · exact absurd (by rw [a.2, Int.zero_ediv]) z
            · have := hn2 (by have := a.2; omega)
              rcases q2 with b | b | b
              · exact absurd this (by have := b.2; omega)
              · exact absurd b.2 z
              · rw [a.1, b.1]
        · refine ⟨fun a b => ∃ j, a = nI (w / 2 ^ i / 65536 ^ k % 2 ^ j) ∧ b = nI j ∧ j ≤ 16, fun _ b => 16 - b.toNatClampNeg, ⟨0, by rw [Nat.pow_zero, Nat.mod_one]; rfl, rfl, by decide⟩, ?_⟩
          rintro _ _ ⟨j, rfl, rfl, hj⟩
          refine pk_le 16 j (fun c4 => ?_) (fun c4 => ?_)
          · have : j = 16 := by omega
            subst this
            rintro _ rfl
            refine ⟨pk_in k 9000 (by omega), ?_⟩
            rw [nI_clamp (by omega)]
            rintro _ rfl _ rfl
            refine ⟨⟨k + 1, nI_s k, nI_s k, by omega, fun b hb => by rw [gm_off hb, f7 b hb], fun j hj => ?_⟩, ?_⟩
            · by_cases c5 : j = k
              · subst c5; exact up_at _ _ _ _
              · rw [up_ne _ _ c5]; exact d7 j (by omega)
            · dsimp only
              rw [nI_s, nI_clamp (by omega), nI_clamp (by omega)]; omega
          · have eix : nI (16 * k) + nI j - p3 = nI (16 * k + j + i) := by
              rw [nI_add, ← ep, iZ_nI, iZ_sub, iZ_nI]; congr 1; omega
            rw [eix]
            have a57 : aU A7 (K 54) u5 w := a5.cong (f7 _ (kne hK (by decide) (by decide) (by decide)))
            refine s_M_isBit (k := 16 * k + j + i) rfl rfl a57 (by omega) (by decide) (by omega) ?_
            have hbit : w / 2 ^ (16 * k + j + i) % 2 = w / 2 ^ i / 65536 ^ k / 2 ^ j % 2 := by
              rw [Nat.div_div_eq_div_mul, Nat.div_div_eq_div_mul, pow16, ← Nat.pow_add, ← Nat.pow_add, show i + (16 * k + j) = 16 * k + j + i by omega]
            rw [hbit]
            generalize w / 2 ^ i / 65536 ^ k = y
            have ems := Nat.mod_pow_succ (x := y) (b := 2) (k := j)
            have hb : y / 2 ^ j % 2 < 2 := Nat.mod_lt _ (by decide)
            have hjm : 2 ^ j ≤ 32768 := Nat.pow_le_pow_right (n := 2) (by decide) (show j ≤ 15 by omega)
            have hml : y % 2 ^ j < 2 ^ j := Nat.mod_lt _ (Nat.two_pow_pos j)
            generalize y / 2 ^ j % 2 = b at *
            refine pk_eq b 0 (fun z => ?_) (fun z => ?_)
            · rintro _ rfl
              refine ⟨⟨j + 1, by rw [ems, z, Nat.mul_zero, Nat.add_zero], nI_s j, by omega⟩, ?_⟩
              dsimp only
              rw [nI_s, nI_clamp (by omega), nI_clamp (by omega)]; omega
            · have e1 : b = 1 := by omega
              rw [show (1 : Int32) <<< (nI j &&& 31) = nI (1 * 2 ^ j) from ji_shl 1 j (by omega), i_or (by omega) (by omega), or_add' hml, Nat.one_mul]
              rintro _ rfl _ rfl
              refine ⟨⟨j + 1, by rw [ems, e1, Nat.mul_one], nI_s j, by omega⟩, ?_⟩
              dsimp only
              rw [nI_s, nI_clamp (by omega), nI_clamp (by omega)]; omega
      · refine s_M_isBit (k := i) rfl rfl a5 (by omega) (by decide) (by omega) ?_
        have bt01 : bt w i ≤ 1 := by unfold bt; split <;> omega
        have hb : w / 2 ^ i % 2 < 2 := Nat.mod_lt _ (by decide)
        rw [i_or (by omega) (by omega), bt_s]
        rintro _ rfl _ rfl
        refine ⟨⟨i + 1, rfl, nI_s i, by omega⟩, ?_⟩
        dsimp only
        rw [nI_s, nI_clamp (by omega), nI_clamp (by omega)]; omega
    · have e : shv x z = x * 2 ^ z.toNat := by
        unfold shv
        by_cases c3 : 0 < z
        · rw [if_pos c3]
        · have : z = 0 := by omega
          subst this
          rw [if_neg c3]
          show x / 2 ^ 0 = x * 2 ^ 0
          rw [Int.pow_zero, Int.ediv_one, Int.mul_one]
      rw [e] at k2 k0
      have ep2 : p3 = nI z.toNat := by rw [← ep, iZ_nI, Int.toNat_of_nonneg (by omega)]
      rw [s5]
      refine s_M_shiftedLeft (k := z.toNat) (kne hK (by decide) (by decide) (by decide)) rfl ep2 a5.v (by omega) (by decide) (by decide) (by omega) (by omega) (fun A9 u9 f9 hu9 a9 => ?_)
      refine s_M_endB' hK h err0 (g5.trans (frM_A (F := gm_up F (K 49) 0 0) (i := 56) hK (by decide) f9)) c1 (by decide) rfl (by omega) (m := u9) ?_ (fun _ => ?_) k2 k0
      · rw [Int.natAbs_mul, Int.natAbs_pow]; exact a9.v
      · rw [Int.sign_mul, Int.sign_eq_one_of_pos (show (0 : Int) < 2 ^ z.toNat by exact_mod_cast Nat.two_pow_pos _), Int.mul_one]
end M12
