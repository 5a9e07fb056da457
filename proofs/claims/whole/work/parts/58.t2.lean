def hn (b : Nat) (f : Nat → Nat) : Nat → Nat
  | 0 => 0
  | n + 1 => hn b f n * b + f n
theorem hn_mono {b : Nat} {f : Nat → Nat} {i n : Nat} (hb : 0 < b) (h : i ≤ n) : hn b f i ≤ hn b f n := by
  obtain ⟨t, rfl⟩ : ∃ t, n = i + t := ⟨n - i, by omega⟩
  induction t with
  | zero => exact Nat.le_refl _
  | succ t ih =>
    have ih := ih (by omega)
    have h2 : hn b f (i + t) * 1 ≤ hn b f (i + t) * b := Nat.mul_le_mul_left _ hb
    show _ ≤ hn b f (i + t) * b + f (i + t)
    omega
/-- the number that the line holds, without its sign -/
def lv (b n : Nat) (tx : Nat → Nat) : Nat := hn b (fun k => dl 36 (tx (hm n tx + k))) (n - hm n tx)
section T2
variable {F A : gm_M} {K : Nat → Nat} {n : Nat} {tx : Nat → Nat} {a1 l1 n1 : Nat}
set_option maxHeartbeats 1000000 in
theorem s_T_writeTo {b m : Nat} {p : Int32} (hm67 : m = 67) (h : lS K F A n tx) (ha : K 2 ≠ a1) (hl : K 3 ≠ l1) (hp : p = nI b) (hb : 2 ≤ b ∧ b ≤ 36) (hnum : isNum b n tx) (hn1 : n1 = 135) {post : gm_M → gm_M → Prop} (hr : ∀ F' A' M, fr F A F' A' a1 l1 → (M = lv b n tx ∨ (2147483648 ^ m ≤ M ∧ M ≤ lv b n tx)) → wR F' A' a1 l1 n1 (if hm n tx = 1 then -(M : Int) else (M : Int)) → post F' A') : vc_T_writeTo K a1 l1 n1 p F A post := by
  subst hp hn1
  have hl1 := hm_le n tx
  have h67 : (67 : Int32) = nI m := by rw [hm67]; rfl
  unfold vc_T_writeTo
  refine s_W_takeLong (by decide) (by decide) (fun F1 A1 f1 w0 => ?_)
  have hlS1 : lS K F1 A1 n tx := h.congr (f1.1 _ ha) (f1.2 _ hl)
  refine s_T_haveMinus hlS1 ?_
  refine ⟨fun v => v = nI (hm n tx), pk_eq (hm n tx) 0 (fun c => by rw [c]; rfl) (fun c => by rw [show hm n tx = 1 by omega]; rfl), ?_⟩
  rintro _ rfl
  obtain ⟨⟨u0, w0u⟩, w0b⟩ := w0
  have w0b : F1 a1 2 = 0 := w0b
  have w0u : wU F1 A1 a1 l1 135 u0 0 := w0u
  refine ⟨fun x y z F4 A4 => ∃ i S P M u, x = lN S ∧ y = lN P ∧ z = nI i ∧ hm n tx ≤ i ∧ i ≤ n ∧ fr F A F4 A4 a1 l1 ∧ wU F4 A4 a1 l1 135 u M ∧ F4 a1 2 = 0 ∧ 1 ≤ S ∧ S * b < 2147483648 ∧ P < S ∧ M * S + P = hn b (fun k => dl 36 (tx (hm n tx + k))) (i - hm n tx) ∧ (i = n → S = 1 ∧ P = 0), fun _ _ z _ _ => n - z.toNatClampNeg, ⟨hm n tx, 1, 0, 0, u0, rfl, rfl, rfl, Nat.le_refl _, hl1.2, f1, w0u, w0b, Nat.le_refl _, by omega, by decide, by rw [Nat.sub_self]; rfl, fun _ => ⟨rfl, rfl⟩⟩, ?_⟩
  rintro _ _ _ F4 A4 ⟨i, S, P, M, u, rfl, rfl, rfl, hi1, hi2, hf, hw, hb4, hS1, hSb, hPS, he, hend⟩
  have hlS4 : lS K F4 A4 n tx := h.congr (hf.1 _ ha) (hf.2 _ hl)
  have hnle := h.1
  have hu4 := hw.1
  have fin : (M = lv b n tx ∨ (2147483648 ^ m ≤ M ∧ M ≤ lv b n tx)) → vc_T_haveMinus K F4 A4 (fun (r_5 : Int32) => vc_W_setBelow a1 l1 135 r_5 F4 A4 (fun (F_6 : gm_M) => post F_6 A4)) := fun hM => by
    refine s_T_haveMinus hlS4 ?_
    refine s_W_setBelowR (x := if hm n tx = 1 then -(M : Int) else (M : Int)) ?_ (by decide) (fun hz => ?_) (fun F6 g1 g2 => hr F6 A4 M ⟨fun c hc => by rw [g1 c hc, hf.1 c hc], hf.2⟩ hM g2)
    · split
      · rw [Int.natAbs_neg, Int.natAbs_natCast]; exact ⟨u, hw⟩
      · rw [Int.natAbs_natCast]; exact ⟨u, hw⟩
    · by_cases c : hm n tx = 1
      · rw [if_pos c] at hz ⊢
        rw [c]
        exact ⟨fun _ => by omega, fun _ => by decide⟩
      · rw [if_neg c] at hz ⊢
        rw [show hm n tx = 0 by omega]
        exact ⟨fun z => absurd rfl z, fun z => by omega⟩
  rw [hlS4.2.1, h67, hw.2.1]
  refine pk_le n i (fun c => ?_) (fun c => ?_)
  · have : i = n := by omega
    subst this
    obtain ⟨rfl, rfl⟩ := hend rfl
    refine fin (Or.inl ?_)
    rw [Nat.mul_one, Nat.add_zero] at he
    exact he
  · refine pk_lt m u (fun d => ?_) (fun d => ?_)
    · refine fin (Or.inr ⟨?_, ?_⟩)
      · obtain ⟨t, rfl⟩ : ∃ t, u = t + 1 := ⟨u - 1, by omega⟩
        exact Nat.le_trans (Nat.pow_le_pow_right (by decide) (by omega)) hw.ge
      · have a1 : M * 1 ≤ M * S := Nat.mul_le_mul_left _ hS1
        have a2 : hn b (fun k => dl 36 (tx (hm n tx + k))) (i - hm n tx) ≤ lv b n tx := hn_mono (by omega) (by omega)
        omega
    · have q := hlS4.2.2 i c
      rw [nI_l (n := b) (by omega), lN_mul]
      rintro _ rfl
      refine ⟨pk_in i 2100 (by omega), ?_⟩
      rw [nI_clamp (by omega), q.1]
      refine s_T_digitOf rfl (by omega) ?_
      have hdb := hnum.2 i hi1 c
      have hstep : hn b (fun k => dl 36 (tx (hm n tx + k))) (i + 1 - hm n tx) = hn b (fun k => dl 36 (tx (hm n tx + k))) (i - hm n tx) * b + dl 36 (tx i) := by
        rw [show i + 1 - hm n tx = (i - hm n tx) + 1 by omega]
        show _ * b + dl 36 (tx (hm n tx + (i - hm n tx))) = _
        rw [show hm n tx + (i - hm n tx) = i by omega]
      generalize dl 36 (tx i) = D at hdb hstep ⊢
      have hPb : P * b + D < S * b := by
        have := Nat.mul_le_mul_right b (show P + 1 ≤ S from hPS)
        rw [Nat.add_mul, Nat.one_mul] at this
        omega
      rw [lN_mul, nI_l (n := D) (by omega), lN_add]
      rintro _ rfl
      have hSbb : S * b * b ≤ 2147483647 * 36 := Nat.mul_le_mul (by omega) hb.2
      have heq : M * (S * b) + (P * b + D) = hn b (fun k => dl 36 (tx (hm n tx + k))) (i + 1 - hm n tx) := by
        rw [hstep, ← he]; grind
      have grow : vc_W_growBy a1 l1 135 (lN (S * b)) (lN (P * b + D)) F4 A4 (fun (F_12 : gm_M) (A_12 : gm_M) => ∀ x7_13 : Int32, x7_13 = nI i + (1 : Int32) → (∃ i' S' P' M' u', (1 : Int64) = lN S' ∧ (0 : Int64) = lN P' ∧ x7_13 = nI i' ∧ hm n tx ≤ i' ∧ i' ≤ n ∧ fr F A F_12 A_12 a1 l1 ∧ wU F_12 A_12 a1 l1 135 u' M' ∧ F_12 a1 2 = 0 ∧ 1 ≤ S' ∧ S' * b < 2147483648 ∧ P' < S' ∧ M' * S' + P' = hn b (fun k => dl 36 (tx (hm n tx + k))) (i' - hm n tx) ∧ (i' = n → S' = 1 ∧ P' = 0)) ∧ n - x7_13.toNatClampNeg < n - (nI i).toNatClampNeg) := by
        refine s_W_growBy (T := S * b) (P := P * b + D) hw rfl rfl hSb (by omega) (by omega) (by decide) (fun F12 A12 g1 g2 g3 => ?_)
        obtain ⟨u', g2⟩ := g2
        rintro _ rfl
        refine ⟨⟨i + 1, 1, 0, _, u', rfl, rfl, nI_s i, by omega, by omega, ⟨fun c hc => by rw [g1.1 c hc, hf.1 c hc], fun c hc => by rw [g1.2 c hc, hf.2 c hc]⟩, g2, ?_, Nat.le_refl _, by omega, by decide, ?_, fun _ => ⟨rfl, rfl⟩⟩, ?_⟩
        · rw [g3, hb4, if_neg (fun z => z.1 rfl)]
        · rw [Nat.mul_one, Nat.add_zero]; exact heq
        · rw [nI_s, nI_clamp (by omega), nI_clamp (by omega)]; omega
      rw [lN_mul (S * b) b]
      refine pl_lt 2147483647 (S * b * b) (fun _ => grow) (fun e => ?_)
      rw [nI_m1 (by omega)]
      refine (pk_eq i (n - 1) (fun _ => grow) (fun e2 => ?_)).symm
      rintro _ rfl
      refine ⟨⟨i + 1, S * b, P * b + D, M, u, rfl, rfl, nI_s i, by omega, by omega, hf, hw, hb4, ?_, by omega, hPb, heq, fun z => by omega⟩, ?_⟩
      · have := Nat.mul_le_mul hS1 (show 1 ≤ b by omega)
        omega
      · dsimp only
        rw [nI_s, nI_clamp (by omega), nI_clamp (by omega)]; omega
theorem s_T_digitsInLimb {b : Nat} {p : Int32} (hp : p = nI b) (hb : 2 ≤ b ∧ b ≤ 36) {post : Int32 → Prop} (h : ∀ e, 1 ≤ e → e ≤ 31 → b ^ e < 2147483648 → post (nI e)) : vc_T_digitsInLimb p F A post := by
  subst hp
  unfold vc_T_digitsInLimb
  rw [nI_l (n := b) (by omega)]
  rintro _ rfl
  refine ⟨fun x y => ∃ e, x = lN (b ^ e) ∧ y = nI e ∧ 1 ≤ e ∧ e ≤ 31 ∧ b ^ e < 2147483648, fun _ y => 31 - y.toNatClampNeg, ⟨1, by rw [Nat.pow_one], rfl, Nat.le_refl _, by decide, by rw [Nat.pow_one]; omega⟩, ?_⟩
  rintro _ _ ⟨e, rfl, rfl, h1, h2, h3⟩
  refine pk_le 31 e (fun c => h e h1 h2 h3) (fun c => ?_)
  have hle : b ^ e * b ≤ 2147483647 * 36 := Nat.mul_le_mul (by omega) hb.2
  rw [lN_mul]
  refine pl_lt 2147483647 (b ^ e * b) (fun _ => h e h1 h2 h3) (fun d => ?_)
  rintro _ rfl _ rfl
  refine ⟨⟨e + 1, by rw [Nat.pow_succ], nI_s e, by omega, by omega, by rw [Nat.pow_succ]; omega⟩, ?_⟩
  dsimp only
  rw [nI_s, nI_clamp (by omega), nI_clamp (by omega)]; omega
theorem s_T_powerOf {b e : Nat} {p q : Int32} (hp : p = nI b) (hq : q = nI e) (he : e ≤ 31) {post : Int32 → Prop} (h : post (nI (b ^ e))) : vc_T_powerOf p q F A post := by
  subst hp hq
  unfold vc_T_powerOf
  refine ⟨fun x y => ∃ k, x = nI (b ^ k) ∧ y = nI k ∧ k ≤ e, fun _ y => e - y.toNatClampNeg, ⟨0, rfl, rfl, Nat.zero_le _⟩, ?_⟩
  rintro _ _ ⟨k, rfl, rfl, hk⟩
  refine pk_le e k (fun c => by rw [show k = e by omega]; exact h) (fun c => ?_)
  rw [pk_mul]
  rintro _ rfl _ rfl
  refine ⟨⟨k + 1, by rw [Nat.pow_succ], nI_s k, by omega⟩, ?_⟩
  dsimp only
  rw [nI_s, nI_clamp (by omega), nI_clamp (by omega)]; omega
def ch (j : Nat) : Nat := if j < 10 then 48 + j else 87 + j
theorem ch_rng {j : Nat} (h : j < 36) : 32 ≤ ch j ∧ ch j ≤ 126 := by unfold ch; split <;> omega
theorem gx_ch {j : Nat} (h : j < 36) : gx_dg j = nI (ch j) := by
  rw [gx_dgn j h]
  unfold ch
  split <;> rfl
theorem s_T_putDigits {b e c v : Nat} {p q o : Int32} (h : lS K F A n tx) (hp : p = nI v) (hq : q = nI b) (ho : o = nI c) (hb : 2 ≤ b ∧ b ≤ 36) (he : e ≤ 31) (hc : c ≤ e) (hv : v < b ^ e) (hv2 : v < 2147483648) (hn : n + e ≤ 2100) {post : gm_M → gm_M → Prop} (hr : ∀ F' A' k, k ≤ e → c ≤ k → v < b ^ k → (c < k → b ^ (k - 1) ≤ v) → frT K F A F' A' → lS K F' A' (n + k) (fun i => if i < n then tx i else ch (v / b ^ (i - n) % b)) → post F' A') : vc_T_putDigits K p q o F A post := by
  subst hp hq ho
  have hb0 : 0 < b := by omega
  unfold vc_T_putDigits
  refine ⟨fun x y F1 A1 => ∃ k, x = nI (v / b ^ k) ∧ y = nI k ∧ k ≤ e ∧ (c < k → b ^ (k - 1) ≤ v) ∧ frT K F A F1 A1 ∧ lS K F1 A1 (n + k) (fun i => if i < n then tx i else ch (v / b ^ (i - n) % b)), fun _ y _ _ => 31 - y.toNatClampNeg, ⟨0, by rw [Nat.pow_zero, Nat.div_one], rfl, Nat.zero_le _, fun z => by omega, frT.rf, h.ext (fun k hk => if_pos hk)⟩, ?_⟩
  rintro _ _ F1 A1 ⟨k, rfl, rfl, hk, hk2, hf, hl⟩
  have hdle : v / b ^ k ≤ v := Nat.div_le_self _ _
  have hpk : 0 < b ^ k := Nat.pow_pos hb0
  have zero : v / b ^ k = 0 → v < b ^ k := fun z => by
    rcases Nat.lt_or_ge v (b ^ k) with d | d
    · exact d
    · have := Nat.div_pos d hpk; omega
  refine pk_le 31 k (fun d => ?_) (fun d => ?_)
  · have : k = e := by omega
    subst this
    exact hr F1 A1 k hk hc hv hk2 hf hl
  · refine ⟨k < c ∨ v / b ^ k ≠ 0, pk_lt k c (fun z => Or.inl z) (fun z => pk_le (v / b ^ k) 0 (fun z2 => hr F1 A1 k hk z (zero (Nat.le_zero.mp z2)) hk2 hf hl) (fun z2 => Or.inr (Nat.ne_of_gt z2))), fun hj => ?_⟩
    have hke : k < e := by
      rcases hj with z | z
      · omega
      · rcases Nat.lt_or_ge k e with z2 | z2
        · exact z2
        · have : k = e := by omega
          subst this
          exact absurd (Nat.div_eq_of_lt hv) z
    have hm : v / b ^ k % b < b := Nat.mod_lt _ hb0
    rw [pk_rem (by omega) hb0 (by omega), pk_div (by omega) hb0 (by omega)]
    refine ⟨nI_ne0 hb0 (by omega), pk_in (v / b ^ k % b) 36 (by omega), ?_⟩
    rw [nI_clamp (by omega), gx_ch (by omega)]
    refine s_T_put hl (by omega) rfl (ch_rng (by omega)) (fun F3 A3 f3 l3 => ?_)
    refine ⟨nI_ne0 hb0 (by omega), ?_⟩
    rintro _ rfl _ rfl
    refine ⟨⟨k + 1, by rw [Nat.div_div_eq_div_mul, ← Nat.pow_succ], nI_s k, by omega, fun z => ?_, hf.trans f3, ?_⟩, ?_⟩
    · rw [Nat.add_sub_cancel]
      rcases hj with z2 | z2
      · omega
      · rcases Nat.lt_or_ge v (b ^ k) with z3 | z3
        · exact absurd (Nat.div_eq_of_lt z3) z2
        · exact z3
    · rw [show n + (k + 1) = n + k + 1 by omega]
      refine l3.ext (fun i hi => ?_)
      by_cases c2 : i < n + k
      · rw [if_pos c2]
      · rw [if_neg c2, if_neg (by omega), show i - n = k by omega]
    · dsimp only
      rw [nI_s, nI_clamp (by omega), nI_clamp (by omega)]; omega
theorem s_T_turnRound (h : lS K F A n tx) {post : gm_M → Prop} (hr : ∀ A', (∀ b, b ≠ K 3 → A' b = A b) → lS K F A' n (fun k => tx (n - 1 - k)) → post A') : vc_T_turnRound K F A post := by
  obtain ⟨p1, p2, p3⟩ := h
  unfold vc_T_turnRound
  rw [p2, show nI n / (2 : Int32) = nI (n / 2) from pk_div (by omega) (by decide) (by decide)]
  refine ⟨fun x A1 => ∃ i, x = nI i ∧ i ≤ n / 2 ∧ (∀ b, b ≠ K 3 → A1 b = A b) ∧ ∀ k, k < n → A1 (K 3) k = nI (if k < i ∨ n - 1 - k < i then tx (n - 1 - k) else tx k), fun x _ => n / 2 - x.toNatClampNeg, ⟨0, rfl, Nat.zero_le _, fun _ _ => rfl, fun k hk => by rw [if_neg (by omega)]; exact (p3 k hk).1⟩, ?_⟩
  rintro _ A1 ⟨i, rfl, hi, hf, hk⟩
  refine pk_le (n / 2) i (fun c => ?_) (fun c => ?_)
  · refine hr A1 hf ⟨p1, p2, fun k hkn => ⟨?_, (p3 (n - 1 - k) (by omega)).2⟩⟩
    rw [hk k hkn]
    congr 1
    by_cases c2 : k < i ∨ n - 1 - k < i
    · rw [if_pos c2]
    · rw [if_neg c2]; dsimp only; rw [show n - 1 - k = k by omega]
  · have q1 := hk i (by omega)
    have q2 := hk (n - 1 - i) (by omega)
    rw [if_neg (by omega)] at q1 q2
    have r1 := p3 i (by omega)
    have r2 := p3 (n - 1 - i) (by omega)
    rw [nI_m1 (by omega), show nI (n - 1) - nI i = nI (n - 1 - i) from pk_sub (by omega)]
    refine ⟨pk_in i 2100 (by omega), ?_⟩
    rw [nI_clamp (by omega), nI_clamp (by omega), q1, q2]
    rintro _ rfl
    rw [byte_id2 _ (by omega), byte_id2 _ (by omega)]
    refine ⟨pk_in (n - 1 - i) 2100 (by omega), pk_in i 2100 (by omega), ?_⟩
    rintro _ rfl
    refine ⟨pk_in (n - 1 - i) 2100 (by omega), ?_⟩
    rintro _ rfl _ rfl
    refine ⟨⟨i + 1, nI_s i, by omega, fun b hb => by rw [gm_off hb, gm_off hb]; exact hf b hb, fun k hkn => ?_⟩, ?_⟩
    · by_cases c1 : k = n - 1 - i
      · subst c1
        rw [up_at, if_pos (by omega), show n - 1 - (n - 1 - i) = i by omega]
      · rw [up_ne _ _ c1]
        by_cases c2 : k = i
        · subst c2
          rw [up_at, if_pos (by omega)]
        · rw [up_ne _ _ c2, hk k hkn]
          congr 1
          by_cases c3 : k < i ∨ n - 1 - k < i
          · rw [if_pos c3, if_pos (by omega)]
          · rw [if_neg c3, if_neg (by omega)]
    · dsimp only
      rw [nI_s, nI_clamp (by omega), nI_clamp (by omega)]; omega
end T2
