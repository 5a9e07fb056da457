theorem not16 {d : Nat} (h : d < 65536) : (nI d ^^^ (-1 : Int32)) &&& (65535 : Int32) = nI (65535 - d) := by
  have e : (nI d ^^^ (-1 : Int32)).toBitVec.toNat = 4294967295 - d := by
    rw [Int32.toBitVec_xor, show (-1 : Int32).toBitVec = BitVec.allOnes 32 by decide, BitVec.xor_allOnes, BitVec.toNat_not, pk_tn (by omega)]
  rw [pk_and _ 16 (by decide), e]
  congr 1
  omega
theorem top16 {d : Nat} (h : d < 65536) : (nI d &&& (32768 : Int32) = 0) ↔ d < 32768 := by
  have e : nI d &&& (32768 : Int32) = nI (d &&& 32768) := i_and (b := 32768) (by omega) (by decide)
  have e2 : d &&& 32768 = 32768 * (d / 32768 % 2) := by
    have := op_split (w := 0) (k := 15) (a := d / 32768) (b := d % 32768) (c := 1) (d := 0) (Nat.mod_lt _ (by decide)) (by decide)
    unfold opN at this
    rw [if_pos rfl, if_pos rfl, if_pos rfl, Nat.and_zero, Nat.add_zero, Nat.add_zero, Nat.and_one_is_mod] at this
    rw [show 2 ^ 15 * (d / 32768) + d % 32768 = d from Nat.div_add_mod d 32768] at this
    exact this
  rw [e, e2]
  by_cases c : d < 32768
  · rw [show d / 32768 % 2 = 0 by omega]
    exact ⟨fun _ => c, fun _ => rfl⟩
  · rw [show d / 32768 % 2 = 1 by omega]
    exact ⟨fun z => absurd z (by decide), fun z => absurd z c⟩
theorem pos_of {z : Int} (h : ¬ z < 0) (h2 : z ≠ 0) : 0 < z := by omega
theorem two_end {P s B0 Y : Nat} {z : Int} (hbm : (P : Int) - (s : Int) * ((2 * Y : Nat) : Int) = z) (hs : s ≤ 1) (hr1 : z.natAbs ≤ B0) (hr2 : z < 0 ↔ s = 1) (hB : 0 < B0) (hY : B0 * 2 ≤ Y) : (¬ P < Y ↔ z < 0) ∧ (if z < 0 then (if P = 0 then 0 else 2 * Y - P) else P) = z.natAbs := by
  have : s = 0 ∨ s = 1 := by omega
  rcases this with rfl | rfl
  · rw [show ((0 : Nat) : Int) * ((2 * Y : Nat) : Int) = 0 from Int.zero_mul _] at hbm
    have hz : ¬ z < 0 := fun y => absurd (hr2.mp y) (by decide)
    rw [if_neg hz]
    exact ⟨⟨fun y => by omega, fun y => absurd y hz⟩, by omega⟩
  · rw [show ((1 : Nat) : Int) * ((2 * Y : Nat) : Int) = ((2 * Y : Nat) : Int) from Int.one_mul _] at hbm
    have hz : z < 0 := hr2.mpr rfl
    rw [if_pos hz]
    refine ⟨⟨fun _ => hz, fun _ => by omega⟩, ?_⟩
    split <;> omega
section M13
variable {F A : gm_M} {K : Nat → Nat} {n : Nat} {tx : Nat → Nat} {v : Nat → Int} {a1 n1 u1 v1 a4 n4 : Nat} {p p1 p2 p3 p4 p5 : Int32}
theorem s_M_twos {m T V : Nat} (hp2 : p2 = nI m) (hp3 : p3 = nI T) (hp4 : p4 = 0 ∨ p4 = 1) (hm : m ≤ T) (hT : T ≤ n1) (hn : n1 ≤ 9000) (h : aV A a1 m V) {post : gm_M → Prop} (hr : ∀ A', (∀ b, b ≠ a1 → A' b = A b) → aV A' a1 T (if p4 = 0 then V else if V = 0 then 0 else 65536 ^ T - V) → post A') : vc_M_twos a1 n1 p2 p3 p4 F A post := by
  subst hp2 hp3
  unfold vc_M_twos
  refine ⟨fun x A1 => ∃ k, x = nI k ∧ k ≤ T ∧ (∀ b, b ≠ a1 → A1 b = A b) ∧ aV A1 a1 k V, fun x _ => T - x.toNatClampNeg, ⟨m, rfl, hm, fun _ _ => rfl, h⟩, ?_⟩
  rintro _ A1 ⟨k, rfl, hk, f1, h1⟩
  refine pk_le T k (fun c => ?_) (fun c => ?_)
  · have : k = T := by omega
    subst this
    refine ⟨fun y => y = p4, ?_, ?_⟩
    · rcases hp4 with rfl | rfl
      · exact ⟨fun _ => rfl, fun z => absurd rfl z⟩
      · exact ⟨fun z => absurd z (by decide), fun _ => rfl⟩
    rintro _ rfl
    rcases hp4 with rfl | rfl
    · rw [if_pos rfl] at hr
      refine ⟨fun _ _ A3 => A3 = A1, fun _ _ _ => 0, rfl, ?_⟩
      intro x y A3 e3
      rw [e3]
      exact ⟨fun _ => hr A1 f1 h1, fun _ => ⟨fun _ => hr A1 f1 h1, fun z => absurd rfl z⟩⟩
    · rw [if_neg (by decide)] at hr
      refine ⟨fun x y A3 => ∃ i c, y = nI i ∧ x = nI c ∧ i ≤ k ∧ c ≤ 1 ∧ sm A1 A3 a1 i ∧ dk 65536 A3 a1 i ∧ ev 65536 (dg A3 a1) i + c * 65536 ^ i + ev 65536 (dg A1 a1) i = 65536 ^ i, fun _ y _ => k - y.toNatClampNeg, ⟨0, 1, rfl, rfl, Nat.zero_le _, Nat.le_refl _, sm.rf, fun j hj => absurd hj (Nat.not_lt_zero _), by simp only [ev, Nat.pow_zero]⟩, ?_⟩
      rintro _ _ A3 ⟨i, cc, rfl, rfl, hi, hc, hs, hd, he⟩
      refine pk_le k i (fun c2 => ?_) (fun c2 => ⟨fun z => absurd z (by decide), fun _ => ?_⟩)
      · have : i = k := by omega
        subst this
        have hlt := ev_lt (B := 65536) (fun k hk => (hd k hk).2)
        rw [h1.2] at he
        refine hr A3 (fun b hb => by rw [hs.1 b hb, f1 b hb]) ⟨hd, ?_⟩
        have hc01 : cc = 0 ∨ cc = 1 := by omega
        rcases hc01 with rfl | rfl
        · rw [Nat.zero_mul] at he
          rw [if_neg (by omega)]; omega
        · rw [Nat.one_mul] at he
          rw [if_pos (by omega)]; omega
      · have r := h1.1 i c2
        have hl := r.2
        refine ⟨pk_in i n1 (by omega), ?_⟩
        rw [nI_clamp (by omega), hs.2 i (Nat.le_refl _), r.1, not16 hl, nI_add]
        rintro _ rfl
        refine ⟨pk_in i n1 (by omega), ?_⟩
        rw [i_m16 (by omega), i_s16 (by omega)]
        rintro _ rfl _ rfl _ rfl
        refine ⟨⟨i + 1, (cc + (65535 - dg A1 a1 i)) / 65536, nI_s i, rfl, by omega, by omega, hs.up _ (by omega), dk_up hd (by omega) (by decide), ?_⟩, ?_⟩
        · rw [ev_at (by omega)]
          have ev1 : ev 65536 (dg A1 a1) (i + 1) = ev 65536 (dg A1 a1) i + dg A1 a1 i * 65536 ^ i := rfl
          have hcar := ev_car 65536 i (cc + (65535 - dg A1 a1 i))
          have hsum : (cc + (65535 - dg A1 a1 i)) * 65536 ^ i + dg A1 a1 i * 65536 ^ i = cc * 65536 ^ i + 65535 * 65536 ^ i := by
            rw [← Nat.add_mul, ← Nat.add_mul, show cc + (65535 - dg A1 a1 i) + dg A1 a1 i = cc + 65535 by omega]
          have hps : 65536 ^ (i + 1) = 65536 ^ i + 65535 * 65536 ^ i := by rw [Nat.pow_succ]; omega
          rw [ev1]
          omega
        · dsimp only
          rw [nI_s, nI_clamp (by omega), nI_clamp (by omega)]; omega
  · refine ⟨pk_in k n1 (by omega), ?_⟩
    rw [nI_clamp (by omega)]
    rintro _ rfl _ rfl
    refine ⟨⟨k + 1, nI_s k, by omega, fun b hb => by rw [gm_off hb, f1 b hb], ⟨dk_up (v := 0) h1.1 (by decide) (by decide), ?_⟩⟩, ?_⟩
    · have := ev_at (B := 65536) (A := A1) (l := a1) (i := k) (v := 0) (by decide)
      rw [Nat.zero_mul, Nat.add_zero, h1.2] at this
      exact this
    · dsimp only
      rw [nI_s, nI_clamp (by omega), nI_clamp (by omega)]; omega
theorem md_two {T : Nat} {x : Int} (hT : T = 131) (hx : fit x) : (if x < 0 then (if x.natAbs = 0 then 0 else 65536 ^ T - x.natAbs) else x.natAbs) = md (bN + 48) x := by
  have hle : 2 ^ bN ≤ 2 ^ (bN + 48) := Nat.pow_le_pow_right (by decide) (by omega)
  have e : 65536 ^ T = 2 ^ (bN + 48) := by
    rw [pow16, hT]
    exact congrArg (fun k => 2 ^ k) (show 16 * 131 = bN + 48 from rfl)
  unfold fit at hx
  by_cases c : x < 0
  · rw [if_pos c, if_neg (by omega), md_neg c (by omega), e]
  · rw [if_neg c, md_pos (by omega) (by omega)]
set_option maxHeartbeats 1000000 in
theorem s_M_bits2 (hK : kinj K) (h : MS K F A v n tx) {post : Int32 → gm_M → gm_M → Prop} (h1 : ¬ ok4 p1 p2 p3 p4 → ∀ r F' A', F' (K 49) 0 = 1 → frR K F A F' A' → MS K F' A' v n tx → post r F' A') (h2 : ok4 p1 p2 p3 p4 → ¬ fit (bop bN p1.toNatClampNeg (v p3.toNatClampNeg) (v p4.toNatClampNeg)) → ∀ r F' A', F' (K 49) 0 = 2 → frR K F A F' A' → MS K F' A' v n tx → post r F' A') (h0 : ok4 p1 p2 p3 p4 → fit (bop bN p1.toNatClampNeg (v p3.toNatClampNeg) (v p4.toNatClampNeg)) → ∀ F' A', F' (K 49) 0 = 0 → frR K F A F' A' → MS K F' A' (vu v p2.toNatClampNeg (bop bN p1.toNatClampNeg (v p3.toNatClampNeg) (v p4.toNatClampNeg))) n tx → post (iZ (bop bN p1.toNatClampNeg (v p3.toNatClampNeg) (v p4.toNatClampNeg)).sign) F' A') : vc_M_bits2 K p1 p2 p3 p4 F A post := by
  unfold vc_M_bits2
  refine s_M_ok4 (fun ok => ?_) (fun c => h1 c 0 _ _ (up_at _ _ _ _) (frM_2 hK 1).r (h.scr (frM_2 hK 1)))
  have m1 := h.scr (frM_1 hK)
  have k2 := h2 ok
  have k0 := h0 ok
  clear h1 h2 h0
  obtain ⟨c1, c2, c3, c4⟩ := ok
  have w3 := vp_lt c3
  have w4 := vp_lt c4
  have e1 := vp_eq c1 (by decide)
  have l1 := vp_lt c1
  refine s_M_load hK (m1.1 _ w3) c3 (by decide) (by decide) (by decide) (fun A5 u5 f5 a5 hu5 => ?_)
  have g5 := (frM_1 (F := F) (A := A) hK).trans (frM_A (F := gm_up F (K 49) 0 0) (i := 54) hK (by decide) f5)
  refine s_M_load hK ((h.scr g5).1 _ w4) c4 (by decide) (by decide) (by decide) (fun A6 u6 f6 a6 hu6 => ⟨c3, ?_⟩)
  have g6 := g5.trans (frM_A (F := gm_up F (K 49) 0 0) (i := 55) hK (by decide) f6)
  have m6 := h.scr g6
  have a56 : aU A6 (K 54) u5 (v p3.toNatClampNeg).natAbs := a5.cong (f6 _ (kne hK (by decide) (by decide) (by decide)))
  have hfx : fit (v p3.toNatClampNeg) := by obtain ⟨c, _, _, _, _, _, _, h7⟩ := h.1 _ w3; exact h7
  have hfy : fit (v p4.toNatClampNeg) := by obtain ⟨c, _, _, _, _, _, _, h7⟩ := h.1 _ w4; exact h7
  have s3 := (m6.1 _ w3).sg
  have s4 := (m6.1 _ w4).sg
  rw [s3, sg_le]
  have e131 : (131 : Int32) - (1 : Int32) = nI 130 := rfl
  obtain ⟨T, hT⟩ : ∃ T, T = 131 := ⟨_, rfl⟩
  have eT : (131 : Int32) = nI T := by rw [hT]; rfl
  have eT1 : nI T - (1 : Int32) = nI 130 := by rw [hT]; rfl
  rw [eT, eT1]
  generalize hk : p1.toNatClampNeg = k at *
  generalize v p3.toNatClampNeg = x at *
  generalize hYE : v p4.toNatClampNeg = y at *
  subst e1
  have hx2 := md_two hT hfx
  have hy2 := md_two hT hfy
  refine ⟨fun q => (q = 0 ∧ ¬ x < 0) ∨ (q = 1 ∧ x < 0), ⟨fun c => Or.inl ⟨rfl, by omega⟩, fun c => Or.inr ⟨rfl, by omega⟩⟩, fun q hq => ?_⟩
  refine s_M_twos (T := T) rfl rfl (by rcases hq with z | z; exact Or.inl z.1; exact Or.inr z.1) (by omega) (by omega) (by decide) a56.v (fun A8 f8 a8 => ⟨c4, ?_⟩)
  have a8 : aV A8 (K 54) T (md (bN + 48) x) := by
    rw [← hx2]
    rcases hq with ⟨rfl, z⟩ | ⟨rfl, z⟩
    · rw [if_pos rfl] at a8; rw [if_neg z]; exact a8
    · rw [if_neg (by decide)] at a8; rw [if_pos z]; exact a8
  have g8 := g6.trans (frM_A (F := gm_up F (K 49) 0 0) (i := 54) hK (by decide) f8)
  have s8 := ((h.scr g8).1 _ w4).sg
  rw [hYE] at s8
  rw [s8, sg_le]
  refine ⟨fun q => (q = 0 ∧ ¬ y < 0) ∨ (q = 1 ∧ y < 0), ⟨fun c => Or.inl ⟨rfl, by omega⟩, fun c => Or.inr ⟨rfl, by omega⟩⟩, fun q2 hq2 => ?_⟩
  have a68 : aU A8 (K 55) u6 y.natAbs := a6.cong (f8 _ (kne hK (by decide) (by decide) (by decide)))
  refine s_M_twos (T := T) rfl rfl (by rcases hq2 with z | z; exact Or.inl z.1; exact Or.inr z.1) (by omega) (by omega) (by decide) a68.v (fun A10 f10 a10 => ?_)
  have a10 : aV A10 (K 55) T (md (bN + 48) y) := by
    rw [← hy2]
    rcases hq2 with ⟨rfl, z⟩ | ⟨rfl, z⟩
    · rw [if_pos rfl] at a10; rw [if_neg z]; exact a10
    · rw [if_neg (by decide)] at a10; rw [if_pos z]; exact a10
  have g10 := g8.trans (frM_A (F := gm_up F (K 49) 0 0) (i := 55) hK (by decide) f10)
  have a810 : aV A10 (K 54) T (md (bN + 48) x) := a8.congr (fun k _ => by rw [f10 _ (kne hK (by decide) (by decide) (by decide))])
  have hbm := bop_more (N := bN) k 48 hfx hfy
  have hrng := bop_rng bN k x y
  have hPlt := op_lt (w := k) (md_lt (bN + 48) x) (md_lt (bN + 48) y)
  have hs01 := op01 (w := k) (b01_le x) (b01_le y)
  have e2096 : 65536 ^ T = 2 ^ (bN + 48) := by
    rw [pow16, hT]
    exact congrArg (fun k => 2 ^ k) (show 16 * 131 = bN + 48 from rfl)
  have hev : ev 65536 (fun i => opN k (dg A10 (K 54) i) (dg A10 (K 55) i)) T = opN k (md (bN + 48) x) (md (bN + 48) y) := by
    have := ev_op (w := k) (k := 16) (d := dg A10 (K 54)) (e := dg A10 (K 55)) T (fun j hj => (a810.1 j hj).2) (fun j hj => (a10.1 j hj).2)
    rw [show (2 : Nat) ^ 16 = 65536 from rfl, a810.2, a10.2] at this
    exact this
  generalize hP : opN k (md (bN + 48) x) (md (bN + 48) y) = P at *
  refine ⟨fun x8 A11 => ∃ i, x8 = nI i ∧ i ≤ T ∧ (∀ b, b ≠ K 56 → A11 b = A10 b) ∧ ∀ j, j < i → A11 (K 56) j = nI (opN k (dg A10 (K 54) j) (dg A10 (K 55) j)), fun x8 _ => T - x8.toNatClampNeg, ⟨0, rfl, Nat.zero_le _, fun _ _ => rfl, fun j hj => absurd hj (Nat.not_lt_zero _)⟩, ?_⟩
  rintro _ A11 ⟨i, rfl, hi, f11, d11⟩
  refine pk_le T i (fun c => ⟨pk_in 130 9000 (by decide), ?_⟩) (fun c => ?_)
  · have : i = T := by omega
    subst this
    have hol : ∀ j, j < i → opN k (dg A10 (K 54) j) (dg A10 (K 55) j) < 65536 := fun j hj => op_lt (k := 16) (a810.1 j hj).2 (a10.1 j hj).2
    have hd11 : ∀ j, j < i → dg A11 (K 56) j = opN k (dg A10 (K 54) j) (dg A10 (K 55) j) := fun j hj => dg_of (d11 j hj) (Nat.lt_trans (hol j hj) (by decide))
    have a11 : aV A11 (K 56) i P := ⟨fun j hj => by rw [hd11 j hj]; exact ⟨d11 j hj, hol j hj⟩, by rw [ev_congr hd11]; exact hev⟩
    have h130 : 130 < i := by rw [hT]; decide
    have r := a11.1 130 h130
    have dtop := a11.dig 130
    rw [show dz A11 (K 56) i 130 = dg A11 (K 56) 130 from if_pos h130] at dtop
    rw [nI_clamp (by decide), r.1, top16 r.2]
    have hi9 : i ≤ 9000 := by clear e2096 hbm hrng hPlt; omega
    obtain ⟨S, hS⟩ : ∃ S, S = 130 := ⟨_, rfl⟩
    have hiS : i = S + 1 := by rw [hT, hS]
    rw [← hS] at dtop
    have hX0 : 0 < 65536 ^ S := Nat.pow_pos (by decide)
    have hPlt2 : P < 65536 ^ S * 65536 := by
      have := hPlt
      rw [← e2096, hiS, Nat.pow_succ] at this
      exact this
    have hq65 : P / 65536 ^ S < 65536 := Nat.div_lt_of_lt_mul hPlt2
    rw [Nat.mod_eq_of_lt hq65, hS] at dtop
    have hsm : 2 ^ bN * 2 ^ 47 = 32768 * 65536 ^ S := by
      rw [pow16, show (32768 : Nat) = 2 ^ 15 from rfl, ← Nat.pow_add, ← Nat.pow_add, hS]
      exact congrArg (fun k => 2 ^ k) (show bN + 47 = 15 + 16 * 130 from rfl)
    have h47 : 2 ^ bN * 2 ≤ 2 ^ bN * 2 ^ 47 := Nat.mul_le_mul_left _ (by decide)
    have h48 : 2 ^ (bN + 48) = 2 * (2 ^ bN * 2 ^ 47) := by rw [Nat.pow_add, show (2 : Nat) ^ 48 = 2 * 2 ^ 47 from rfl, Nat.mul_left_comm]
    rw [h48] at hbm
    obtain ⟨te1, hval⟩ := two_end hbm hs01 hrng.1 hrng.2 (Nat.two_pow_pos bN) h47
    rw [← h48, ← e2096] at hval
    have hneg : ¬ dg A11 (K 56) 130 < 32768 ↔ bop bN k x y < 0 := by
      rw [← te1, ← dtop, ← hS, Nat.div_lt_iff_lt_mul hX0, ← hsm]
    refine ⟨fun q => (q = 0 ∧ ¬ bop bN k x y < 0) ∨ (q = 1 ∧ bop bN k x y < 0), ⟨fun z => Or.inl ⟨rfl, fun y => hneg.mpr y z⟩, fun z => Or.inr ⟨rfl, hneg.mp z⟩⟩, fun q3 hq3 => ?_⟩
    refine s_M_twos (T := i) rfl rfl (by rcases hq3 with z | z; exact Or.inl z.1; exact Or.inr z.1) (Nat.le_refl _) hi9 (by decide) a11 (fun A13 f13 a13 => ?_)
    have a13 : aV A13 (K 56) i (bop bN k x y).natAbs := by
      rw [← hval]
      rcases hq3 with ⟨rfl, z⟩ | ⟨rfl, z⟩
      · rw [if_pos rfl] at a13; rw [if_neg z]; exact a13
      · rw [if_neg (by decide)] at a13; rw [if_pos z]; exact a13
    have g13 := (g10.trans (frM_A (F := gm_up F (K 49) 0 0) (i := 56) hK (by decide) f11)).trans (frM_A (F := gm_up F (K 49) 0 0) (i := 56) hK (by decide) f13)
    refine ⟨fun s => bop bN k x y ≠ 0 → s = iZ (bop bN k x y).sign, ?_, fun s hs => ?_⟩
    · rcases hq3 with ⟨rfl, z⟩ | ⟨rfl, z⟩
      · refine ⟨fun _ y => ?_, fun y => absurd rfl y⟩
        rw [Int.sign_eq_one_of_pos (pos_of z y)]; rfl
      · refine ⟨fun y => absurd y (by decide), fun _ y => ?_⟩
        rw [Int.sign_eq_neg_one_of_neg z]; rfl
    · exact s_M_endS hK h err0 g13 c2 (by decide) rfl hi9 a13 hs k2 k0
  · clear e2096 hbm hrng hPlt hev
    have r4 := a810.1 i c
    have r5 := a10.1 i c
    have l4 := r4.2
    have l5 := r5.2
    have e4 : A11 (K 54) i = nI (dg A10 (K 54) i) := by rw [f11 _ (kne hK (by decide) (by decide) (by decide))]; exact r4.1
    have e5 : A11 (K 55) i = nI (dg A10 (K 55) i) := by rw [f11 _ (kne hK (by decide) (by decide) (by decide))]; exact r5.1
    have next : ∀ x : Int32, x = nI (opN k (dg A10 (K 54) i) (dg A10 (K 55) i)) → ∀ A_16 : gm_M, A_16 = gm_up A11 (K 56) i x → ∀ x8_17 : Int32, x8_17 = nI i + (1 : Int32) → (∃ i, x8_17 = nI i ∧ i ≤ T ∧ (∀ b, b ≠ K 56 → A_16 b = A10 b) ∧ ∀ j, j < i → A_16 (K 56) j = nI (opN k (dg A10 (K 54) j) (dg A10 (K 55) j))) ∧ T - x8_17.toNatClampNeg < T - (nI i).toNatClampNeg := by
      rintro _ rfl _ rfl _ rfl
      refine ⟨⟨i + 1, nI_s i, by omega, fun b hb => by rw [gm_off hb, f11 b hb], fun j hj => ?_⟩, ?_⟩
      · by_cases c5 : j = i
        · subst c5; exact up_at _ _ _ _
        · rw [up_ne _ _ c5]; exact d11 j (by omega)
      · rw [nI_s, nI_clamp (by omega), nI_clamp (by omega)]; omega
    have hin : vp_in (nI i) 9000 := pk_in i 9000 (by omega)
    have hol : opN k (dg A10 (K 54) i) (dg A10 (K 55) i) < 65536 := op_lt (k := 16) l4 l5
    rw [nI_clamp (by omega), e4, e5]
    unfold opN at hol next
    refine (pk_eq k 0 (fun z => ?_) (fun z => (pk_eq k 1 (fun z1 => ?_) (fun z1 => ?_)).symm)).symm
    · rw [if_pos z] at hol next
      exact ⟨hin, hin, hin, next _ (by rw [i_and (by omega) (by omega), i_m16 (by omega), Nat.mod_eq_of_lt hol])⟩
    · rw [if_neg z, if_pos z1] at hol next
      exact ⟨hin, hin, hin, next _ (by rw [i_or (by omega) (by omega), i_m16 (by omega), Nat.mod_eq_of_lt hol])⟩
    · rw [if_neg z, if_neg z1] at hol next
      exact ⟨hin, hin, hin, next _ (by rw [i_xor (by omega) (by omega), i_m16 (by omega), Nat.mod_eq_of_lt hol])⟩
end M13
