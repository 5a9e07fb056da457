/-! a number as letters -/
def ndP (b v L : Nat) : Prop := 1 ≤ L ∧ v < b ^ L ∧ (L = 1 ∨ b ^ (L - 1) ≤ v)
theorem ndP_uniq {b v L L' : Nat} (hb : 0 < b) (h : ndP b v L) (h' : ndP b v L') : L = L' := by
  obtain ⟨h1, h2, h3⟩ := h
  obtain ⟨g1, g2, g3⟩ := h'
  rcases Nat.lt_trichotomy L L' with c | c | c
  · rcases g3 with d | d
    · omega
    · have := Nat.pow_le_pow_right hb (show L ≤ L' - 1 by omega); omega
  · exact c
  · rcases h3 with d | d
    · omega
    · have := Nat.pow_le_pow_right hb (show L' ≤ L - 1 by omega); omega
theorem ndP_le {b v L N : Nat} (hb : 2 ≤ b) (h : ndP b v L) (hv : v < 2 ^ N) (hN : 1 ≤ N) : L ≤ N := by
  obtain ⟨h1, h2, h3⟩ := h
  rcases h3 with d | d
  · omega
  · have a := Nat.pow_le_pow_left hb (L - 1)
    have : 2 ^ (L - 1) < 2 ^ N := by omega
    have := (Nat.pow_lt_pow_iff_right (by decide : 1 < 2)).mp this
    omega
def sn (x : Int) : Nat := if x < 0 then 1 else 0
def sx (b : Nat) (x : Int) (L k : Nat) : Nat := if k < sn x then 45 else ch (x.natAbs / b ^ (L - 1 - (k - sn x)) % b)
theorem dig_mod {b M e j : Nat} (hj : j < e) : M % b ^ e / b ^ j % b = M / b ^ j % b := by
  obtain ⟨t, rfl⟩ : ∃ t, e = j + (1 + t) := ⟨e - j - 1, by omega⟩
  rw [Nat.pow_add, Nat.mod_mul_right_div_self, Nat.pow_add, Nat.pow_one]
  exact Nat.mod_mod_of_dvd _ (Nat.dvd_mul_right _ _)
section T3
variable {F A : gm_M} {K : Nat → Nat} {a1 l1 : Nat}
theorem s_T_takeNumber {N b n1 : Nat} {x : Int} {p : Int32} (hN : N = 2048) (ha : K 2 ≠ a1) (hl : K 3 ≠ l1) (hp : p = nI b) (hb : 2 ≤ b ∧ b ≤ 36) (hn1 : n1 = 135) (hw : wR F A a1 l1 n1 x) (hx : x.natAbs < 2 ^ N) {post : gm_M → gm_M → Prop} (hr : ∀ F' A' L, (∀ c, c ≠ K 2 → c ≠ a1 → F' c = F c) → (∀ c, c ≠ K 3 → c ≠ l1 → A' c = A c) → ndP b x.natAbs L → lS K F' A' (L + sn x) (sx b x L) → post F' A') : vc_T_takeNumber K a1 l1 n1 p F A post := by
  subst hp hn1
  have hb0 : 0 < b := by omega
  have hsb := hw.2
  generalize hv : x.natAbs = v at *
  have hwM : wM F A a1 l1 135 v := by rw [← hv]; exact hw.1
  unfold vc_T_takeNumber
  rintro _ rfl
  refine s_T_digitsInLimb rfl hb (fun e he1 he2 he3 => ?_)
  refine s_T_powerOf rfl rfl he2 ?_
  rintro _ rfl
  have fin : ∀ F6 A6 L, (∀ c, c ≠ K 2 → c ≠ a1 → F6 c = F c) → (∀ c, c ≠ K 3 → c ≠ l1 → A6 c = A c) → ndP b v L → lS K F6 A6 L (fun i => ch (v / b ^ i % b)) → ((F a1 2 = (0) → vc_T_turnRound K F6 A6 (fun (A_7 : gm_M) => post F6 A_7)) ∧ (¬ F a1 2 = (0) → vc_T_put K (45 : Int32) F6 A6 (fun (F_8 : gm_M) (A_8 : gm_M) => vc_T_turnRound K F_8 A_8 (fun (A_9 : gm_M) => post F_8 A_9)))) := by
    intro F6 A6 L g1 g2 g3 g4
    have hL := ndP_le hb.1 g3 hx (by omega)
    rw [hsb]
    refine ⟨fun c => ?_, fun c => ?_⟩
    · have hx0 : ¬ x < 0 := fun z => by rw [← sb_ne] at z; exact z c
      refine s_T_turnRound g4 (fun A7 k1 k2 => hr F6 A7 L g1 (fun c h1 h2 => by rw [k1 c h1, g2 c h1 h2]) g3 ?_)
      have : sn x = 0 := if_neg hx0
      rw [this, Nat.add_zero]
      refine k2.ext (fun k hk => ?_)
      unfold sx
      rw [this, if_neg (by omega), hv, Nat.sub_zero]
    · have hx0 : x < 0 := (sb_ne x).mp c
      refine s_T_put g4 (by omega) (t := 45) rfl ⟨by decide, by decide⟩ (fun F8 A8 k1 k2 => ?_)
      refine s_T_turnRound k2 (fun A7 k3 k4 => hr F8 A7 L (fun c h1 h2 => by rw [k1.1 c h1, g1 c h1 h2]) (fun c h1 h2 => by rw [k3 c h1, k1.2 c h1, g2 c h1 h2]) g3 ?_)
      have : sn x = 1 := if_pos hx0
      rw [this]
      refine k4.ext (fun k hk => ?_)
      unfold sx
      rw [this, hv]
      by_cases c2 : k < 1
      · rw [if_pos c2, if_neg (by omega)]
      · rw [if_neg c2, if_pos (by omega), show L + 1 - 1 - k = L - 1 - (k - 1) by omega]
  refine ⟨fun y F5 A5 => ∃ k n, y = nI k ∧ k ≤ n ∧ n ≤ 2048 + 31 ∧ (∀ c, c ≠ K 2 → c ≠ a1 → F5 c = F c) ∧ (∀ c, c ≠ K 3 → c ≠ l1 → A5 c = A c) ∧ lS K F5 A5 n (fun i => ch (v / b ^ i % b)) ∧ wM F5 A5 a1 l1 135 (v / b ^ n) ∧ (n = 0 ∨ b ^ (n - 1) ≤ v), fun y _ _ => 2100 - y.toNatClampNeg, ⟨0, 0, rfl, Nat.le_refl _, Nat.zero_le _, fun c h1 h2 => gm_off h1, fun _ _ _ => rfl, ⟨Nat.zero_le _, up_at _ _ _ _, fun k hk => absurd hk (Nat.not_lt_zero _)⟩, ?_, Or.inl rfl⟩, ?_⟩
  · rw [Nat.pow_zero, Nat.div_one]
    exact hwM.congr (gm_off (Ne.symm ha)) rfl
  rintro _ F5 A5 ⟨k, n, rfl, hk, hn, f1, f2, hls, ⟨u, hu⟩, hlow⟩
  have hpos : v / b ^ n ≠ 0 → n < N := fun z => by
    rcases Nat.lt_or_ge v (b ^ n) with d | d
    · exact absurd (Nat.div_eq_of_lt d) z
    · have a := Nat.pow_le_pow_left hb.1 n
      exact (Nat.pow_lt_pow_iff_right (by decide : 1 < 2)).mp (show 2 ^ n < 2 ^ N by omega)
  have hpn : 0 < b ^ n := Nat.pow_pos hb0
  refine ⟨v / b ^ n = 0, pk_le 2100 k (fun c => ?_) (fun c => ?_), fun hz => ?_⟩
  · exact Classical.byContradiction (fun z => by have := hpos z; omega)
  · rw [hu.2.1]
    have hu135 := hu.1
    refine pk_le u 0 (fun d => hu.pos.mp (by omega)) (fun d => ?_)
    have hM : v / b ^ n ≠ 0 := fun z => by have := hu.pos.mpr z; omega
    have hnN := hpos hM
    refine s_W_cutBy hu rfl (Nat.pow_pos hb0) he3 (by decide) (fun F14 A14 g1 g2 => ?_)
    have hls14 : lS K F14 A14 n (fun i => ch (v / b ^ i % b)) := hls.congr (g1.1 _ ha) (g1.2 _ hl)
    have hpe : 0 < b ^ e := Nat.pow_pos hb0
    have hpart : v / b ^ n % b ^ e < b ^ e := Nat.mod_lt _ hpe
    obtain ⟨u', g2⟩ := g2
    have step : ∀ c : Nat, (v / b ^ n / b ^ e = 0 ∧ c = 0 ∨ v / b ^ n / b ^ e ≠ 0 ∧ c = e) → vc_T_putDigits K (nI (v / b ^ n % b ^ e)) (nI b) (nI c) F14 A14 (fun (F_15 : gm_M) (A_15 : gm_M) => ∀ x6_16 : Int32, x6_16 = nI k + (1 : Int32) → (∃ k' n', x6_16 = nI k' ∧ k' ≤ n' ∧ n' ≤ 2048 + 31 ∧ (∀ c, c ≠ K 2 → c ≠ a1 → F_15 c = F c) ∧ (∀ c, c ≠ K 3 → c ≠ l1 → A_15 c = A c) ∧ lS K F_15 A_15 n' (fun i => ch (v / b ^ i % b)) ∧ wM F_15 A_15 a1 l1 135 (v / b ^ n') ∧ (n' = 0 ∨ b ^ (n' - 1) ≤ v)) ∧ 2100 - x6_16.toNatClampNeg < 2100 - (nI k).toNatClampNeg) := by
      intro c hor
      have hce : c ≤ e := by rcases hor with z | z <;> omega
      refine s_T_putDigits hls14 rfl rfl rfl hb he2 hce hpart (by omega) (by omega) (fun F15 A15 j hj1 hj2 hj3 hj4 hf15 hl15 => ?_)
      rintro _ rfl
      have hmd := Nat.mod_add_div (v / b ^ n) (b ^ e)
      have hvn := Nat.mod_add_div v (b ^ n)
      have hj0 : 1 ≤ j := by
        rcases hor with ⟨z, -⟩ | ⟨z, z2⟩
        · rw [z, Nat.mul_zero, Nat.add_zero] at hmd
          rw [hmd] at hj3
          match j, hj3 with
          | 0, hj3 => rw [Nat.pow_zero] at hj3; exact absurd (Nat.lt_one_iff.mp hj3) hM
          | j + 1, _ => omega
        · omega
      have hge : b ^ (n + j - 1) ≤ v := by
        have q : b ^ (j - 1) ≤ v / b ^ n := by
          rcases hor with ⟨z, z2⟩ | ⟨z, z2⟩
          · have := hj4 (by omega)
            rw [z, Nat.mul_zero, Nat.add_zero] at hmd
            rw [hmd] at this; exact this
          · have hje : j = e := by omega
            rcases Nat.lt_or_ge (v / b ^ n) (b ^ e) with d2 | d2
            · exact absurd (Nat.div_eq_of_lt d2) z
            · exact Nat.le_trans (Nat.pow_le_pow_right hb0 (by omega)) d2
        rw [show n + j - 1 = n + (j - 1) by omega, Nat.pow_add]
        exact Nat.le_trans (Nat.mul_le_mul_left (b ^ n) q) (Nat.mul_div_le v (b ^ n))
      refine ⟨⟨k + 1, n + j, nI_s k, by omega, by omega, fun c h1 h2 => by rw [hf15.1 c h1, g1.1 c h2, f1 c h1 h2], fun c h1 h2 => by rw [hf15.2 c h1, g1.2 c h2, f2 c h1 h2], hl15.ext (fun i hi => ?_), ?_, Or.inr hge⟩, ?_⟩
      · by_cases c2 : i < n
        · rw [if_pos c2]
        · rw [if_neg c2, dig_mod (by omega), Nat.div_div_eq_div_mul, ← Nat.pow_add, show n + (i - n) = i by omega]
      · have hM2 : v / b ^ (n + j) = v / b ^ n / b ^ e := by
          rcases hor with ⟨z, z2⟩ | ⟨z, z2⟩
          · rw [z, Nat.mul_zero, Nat.add_zero] at hmd
            rw [z, Nat.pow_add, ← Nat.div_div_eq_div_mul, ← hmd]
            exact Nat.div_eq_of_lt hj3
          · rw [show j = e by omega, Nat.pow_add, Nat.div_div_eq_div_mul]
        rw [hM2]
        exact ⟨u', g2.congr (hf15.1 _ (Ne.symm ha)) (hf15.2 _ (Ne.symm hl))⟩
      · rw [nI_s, nI_clamp (by omega), nI_clamp (by omega)]; omega
    rw [g2.2.1]
    have hu'135 := g2.1
    refine pk_le u' 0 (fun z => step 0 (Or.inl ⟨g2.pos.mp (by omega), rfl⟩)) (fun z => step e (Or.inr ⟨fun z2 => ?_, rfl⟩))
    have := g2.pos.mpr z2
    omega
  · have hlt : v < b ^ n := by
      rcases Nat.lt_or_ge v (b ^ n) with d | d
      · exact d
      · have := Nat.div_pos d hpn; omega
    rw [hls.2.1]
    refine (pk_eq n 0 (fun z => ?_) (fun z => ?_)).symm
    · subst z
      rw [Nat.pow_zero] at hlt
      have hv0 : v = 0 := by omega
      refine s_T_put hls (by decide) (t := 48) rfl ⟨by decide, by decide⟩ (fun F10 A10 k1 k2 => ?_)
      refine fin F10 A10 1 (fun c h1 h2 => by rw [k1.1 c h1, f1 c h1 h2]) (fun c h1 h2 => by rw [k1.2 c h1, f2 c h1 h2]) ⟨Nat.le_refl _, by rw [hv0]; exact Nat.pow_pos hb0, Or.inl rfl⟩ (k2.ext (fun i hi => ?_))
      rw [if_neg (by omega), hv0, Nat.zero_div, Nat.zero_mod]; rfl
    · refine fin F5 A5 n f1 f2 ⟨by omega, hlt, ?_⟩ hls
      rcases hlow with z2 | z2
      · omega
      · exact Or.inr z2
end T3
