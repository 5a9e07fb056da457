/-! the line -/
def lS (K : Nat → Nat) (F A : gm_M) (n : Nat) (tx : Nat → Nat) : Prop := n ≤ 2100 ∧ F (K 2) 1 = nI n ∧ ∀ k, k < n → A (K 3) k = nI (tx k) ∧ 32 ≤ tx k ∧ tx k ≤ 126
def frT (K : Nat → Nat) (F A F' A' : gm_M) : Prop := (∀ b, b ≠ K 2 → F' b = F b) ∧ ∀ b, b ≠ K 3 → A' b = A b
theorem frT.rf {K : Nat → Nat} {F A : gm_M} : frT K F A F A := ⟨fun _ _ => rfl, fun _ _ => rfl⟩
theorem frT.trans {K : Nat → Nat} {F A F' A' F'' A'' : gm_M} (h : frT K F A F' A') (h' : frT K F' A' F'' A'') : frT K F A F'' A'' := ⟨fun b hb => by rw [h'.1 b hb, h.1 b hb], fun b hb => by rw [h'.2 b hb, h.2 b hb]⟩
theorem lS.congr {K : Nat → Nat} {F A F' A' : gm_M} {n : Nat} {tx : Nat → Nat} (h : lS K F A n tx) (h1 : F' (K 2) = F (K 2)) (h2 : A' (K 3) = A (K 3)) : lS K F' A' n tx := ⟨h.1, by rw [h1]; exact h.2.1, fun k hk => by rw [h2]; exact h.2.2 k hk⟩
/-- a long's bits as a number; its octets -/
def uN (p : Int64) : Nat := p.toBitVec.toNat
theorem uN_lt (p : Int64) : uN p < 2 ^ 64 := p.toBitVec.isLt
theorem uN_eq (p : Int64) : p = lN (uN p) := by
  apply Int64.toBitVec_inj.mp
  apply BitVec.eq_of_toNat_eq
  rw [lN_tn (uN_lt p)]; rfl
def oc (p : Int64) (k : Nat) : Nat := uN p / 2 ^ (8 * k) % 256
def goodL (p : Int64) (c : Nat) : Prop := 1 ≤ c ∧ c ≤ 8 ∧ (∀ j, j < c → 32 ≤ oc p j ∧ oc p j ≤ 126) ∧ (c = 8 ∨ oc p c = 0)
theorem goodL_uniq {p : Int64} {c d : Nat} (h1 : goodL p c) (h2 : goodL p d) : c = d := by
  obtain ⟨a1, a2, a3, a4⟩ := h1
  obtain ⟨b1, b2, b3, b4⟩ := h2
  rcases Nat.lt_trichotomy c d with h | h | h
  · rcases a4 with e | e
    · omega
    · have := b3 c h; omega
  · exact h
  · rcases b4 with e | e
    · omega
    · have := a3 d h; omega
theorem byte_id : ∀ t, t < 128 → vp_nar .byte ((nI t).toInt8.toInt32) = nI t := by decide +kernel
theorem byte_id2 : ∀ t, t < 128 → vp_nar .byte (nI t) = nI t := by decide +kernel
section T1
variable {F A : gm_M} {K : Nat → Nat} {n : Nat} {tx : Nat → Nat}
theorem s_T_octetOf {p : Int64} {k : Nat} {q : Int32} (hq : q = nI k) (hk : k < 8) {post : Int32 → Prop} (h : post (nI (oc p k))) : vc_T_octetOf p q F A post := by
  subst hq
  unfold vc_T_octetOf
  have e : j_lushr p ((8 : Int32) * nI k) = lN (uN p / 2 ^ (8 * k)) := by
    rw [show (8 : Int32) * nI k = nI (8 * k) from pk_mul 8 k]
    have := jl_ushr (n := uN p) (8 * k) (uN_lt p) (by omega)
    rw [← uN_eq] at this
    exact this
  rw [e, lN_i, pk_and _ 8 (by decide)]
  have e2 : (nI (uN p / 2 ^ (8 * k))).toBitVec.toNat % 2 ^ 8 = oc p k := by
    show uN p / 2 ^ (8 * k) % 2 ^ 32 % 2 ^ 8 = _
    unfold oc
    omega
  rw [e2]; exact h
theorem oc_lt (p : Int64) (k : Nat) : oc p k < 256 := Nat.mod_lt _ (by decide)
theorem s_T_countIn {p : Int64} {post : Int32 → Prop} (h1 : ∀ c, goodL p c → post (nI c)) (h2 : (∀ c, ¬ goodL p c) → post 0) : vc_T_countIn p F A post := by
  unfold vc_T_countIn
  refine ⟨fun x => ∃ k, x = nI k ∧ k ≤ 8 ∧ ∀ j, j < k → 32 ≤ oc p j ∧ oc p j ≤ 126, fun x => 8 - x.toNatClampNeg, ⟨0, rfl, Nat.zero_le _, fun j hj => absurd hj (Nat.not_lt_zero _)⟩, ?_⟩
  rintro _ ⟨k, rfl, hk, hj⟩
  refine pk_le 8 k (fun e => ?_) (fun e => ?_)
  · have : k = 8 := by omega
    subst this
    exact h1 8 ⟨by decide, by decide, hj, Or.inl rfl⟩
  · refine s_T_octetOf rfl e ?_
    have ho := oc_lt p k
    have bad : oc p k ≠ 0 → ¬ (32 ≤ oc p k ∧ oc p k ≤ 126) → post 0 := fun z1 z2 => h2 (fun c hc => by
      obtain ⟨c1, c2, c3, c4⟩ := hc
      rcases Nat.lt_or_ge k c with d | d
      · exact z2 (c3 k d)
      · rcases c4 with e4 | e4
        · omega
        · by_cases d2 : c = k
          · subst d2; exact z1 e4
          · have := hj c (by omega); omega)
    refine (pk_eq (oc p k) 0 (fun z => ?_) (fun z => ?_)).symm
    · by_cases c0 : k = 0
      · subst c0
        exact h2 (fun c hc => by
          have := hc.2.2.1 0 hc.1
          omega)
      · exact h1 k ⟨by omega, by omega, hj, Or.inr z⟩
    · refine pk_lt (oc p k) 32 (fun c => bad z (by omega)) (fun c => pk_le (oc p k) 126 (fun d => ?_) (fun d => bad z (by omega)))
      rintro _ rfl
      refine ⟨⟨k + 1, nI_s k, by omega, fun j hjk => ?_⟩, ?_⟩
      · by_cases d2 : j = k
        · subst d2; omega
        · exact hj j (by omega)
      · dsimp only
        rw [nI_s, nI_clamp (by omega), nI_clamp (by omega)]; omega
theorem s_T_put {t : Nat} {p : Int32} (h : lS K F A n tx) (hn : n < 2100) (hp : p = nI t) (ht : 32 ≤ t ∧ t ≤ 126) {post : gm_M → gm_M → Prop} (hr : ∀ F' A', frT K F A F' A' → lS K F' A' (n + 1) (fun k => if k < n then tx k else t) → post F' A') : vc_T_put K p F A post := by
  subst hp
  obtain ⟨p1, p2, p3⟩ := h
  unfold vc_T_put
  rw [p2]
  refine pk_le 2100 n (fun c => by omega) (fun c => ⟨pk_in n 2100 hn, ?_⟩)
  rw [byte_id t (by omega), nI_clamp (by omega), nI_s]
  rintro _ rfl _ rfl
  refine hr _ _ ⟨fun b hb => gm_off hb, fun b hb => gm_off hb⟩ ⟨by omega, up_at _ _ _ _, fun k hk => ?_⟩
  by_cases c2 : k < n
  · rw [up_ne _ _ (by omega)]
    dsimp only
    rw [if_pos c2]; exact p3 k c2
  · have : k = n := by omega
    subst this
    dsimp only
    rw [up_at, if_neg c2]; exact ⟨rfl, ht⟩
theorem lS.ext {tx' : Nat → Nat} (h : lS K F A n tx) (e : ∀ k, k < n → tx' k = tx k) : lS K F A n tx' := ⟨h.1, h.2.1, fun k hk => by rw [e k hk]; exact h.2.2 k hk⟩
theorem s_T_append {p : Int64} {c : Nat} {q : Int32} (h : lS K F A n tx) (hq : q = nI c) (hg : goodL p c) (hn : n + c ≤ 2100) {post : gm_M → gm_M → Prop} (hr : ∀ F' A', frT K F A F' A' → lS K F' A' (n + c) (fun k => if k < n then tx k else oc p (k - n)) → post F' A') : vc_T_append K p q F A post := by
  subst hq
  have hc8 := hg.2.1
  unfold vc_T_append
  refine ⟨fun x F1 A1 => ∃ k, x = nI k ∧ k ≤ c ∧ frT K F A F1 A1 ∧ lS K F1 A1 (n + k) (fun i => if i < n then tx i else oc p (i - n)), fun x _ _ => c - x.toNatClampNeg, ⟨0, rfl, Nat.zero_le _, frT.rf, h.ext (fun k hk => if_pos hk)⟩, ?_⟩
  rintro _ F1 A1 ⟨k, rfl, hk, hf, hl⟩
  refine pk_le c k (fun e => ?_) (fun e => ?_)
  · have : k = c := by omega
    subst this
    exact hr F1 A1 hf hl
  · refine s_T_octetOf rfl (by omega) ?_
    refine s_T_put hl (by omega) rfl (hg.2.2.1 k e) (fun F3 A3 f3 l3 => ?_)
    rintro _ rfl
    refine ⟨⟨k + 1, nI_s k, by omega, hf.trans f3, ?_⟩, ?_⟩
    · rw [show n + (k + 1) = n + k + 1 by omega]
      refine l3.ext (fun i hi => ?_)
      by_cases c2 : i < n + k
      · rw [if_pos c2]
      · rw [if_neg c2, if_neg (by omega), show i - n = k by omega]
    · dsimp only
      rw [nI_s, nI_clamp (by omega), nI_clamp (by omega)]; omega
def hm (n : Nat) (tx : Nat → Nat) : Nat := if 0 < n ∧ tx 0 = 45 then 1 else 0
theorem hm_le (n : Nat) (tx : Nat → Nat) : hm n tx ≤ 1 ∧ hm n tx ≤ n := by
  unfold hm; split
  · omega
  · omega
theorem s_T_haveMinus (h : lS K F A n tx) {post : Int32 → Prop} (hp : post (nI (hm n tx))) : vc_T_haveMinus K F A post := by
  obtain ⟨p1, p2, p3⟩ := h
  unfold vc_T_haveMinus
  rw [p2]
  unfold hm at hp
  refine pk_le n 0 (fun c => ?_) (fun c => ⟨pk_in 0 2100 (by decide), ?_⟩)
  · rw [if_neg (by omega)] at hp; exact hp
  · have := p3 0 c
    rw [show (0 : Int32).toNatClampNeg = 0 from rfl, this.1]
    refine (pk_eq (tx 0) 45 (fun z => ?_) (fun z => ?_)).symm
    · rw [if_pos ⟨c, z⟩] at hp; exact hp
    · rw [if_neg (fun w => z w.2)] at hp; exact hp
/-- a letter's digit; e where it is none -/
def dl (e t : Nat) : Nat := if 48 ≤ t ∧ t ≤ 57 then t - 48 else if 97 ≤ t ∧ t ≤ 122 then t - 87 else if 65 ≤ t ∧ t ≤ 90 then t - 55 else e
theorem dl_lt (t : Nat) : dl 36 t ≤ 36 := by
  unfold dl; split
  · omega
  · split
    · omega
    · split <;> omega
theorem dl_eq {e t b : Nat} (he : 36 ≤ e) (hb : b ≤ 36) : (dl e t < b ↔ dl 36 t < b) ∧ (dl 36 t < b → dl e t = dl 36 t) := by
  unfold dl; split
  · omega
  · split
    · omega
    · split
      · omega
      · omega
theorem s_T_digitOf {t : Nat} {p : Int32} (hp : p = nI t) (ht : t < 128) {post : Int32 → Prop} (h : post (nI (dl 36 t))) : vc_T_digitOf p F A post := by
  subst hp
  unfold vc_T_digitOf
  unfold dl at h
  refine ⟨¬ (48 ≤ t ∧ t ≤ 57), ?_, fun hj => ⟨¬ (97 ≤ t ∧ t ≤ 122), ?_, fun hj2 => ?_⟩⟩
  · refine pk_lt t 48 (fun c => by omega) (fun c => pk_lt 57 t (fun d => by omega) (fun d => ?_))
    rw [if_pos ⟨c, d⟩] at h
    rw [show nI t - (48 : Int32) = nI (t - 48) from pk_sub c]; exact h
  · refine pk_lt t 97 (fun c => by omega) (fun c => pk_lt 122 t (fun d => by omega) (fun d => ?_))
    rw [if_neg hj, if_pos ⟨c, d⟩] at h
    rw [show nI t - (97 : Int32) = nI (t - 97) from pk_sub c, show nI (t - 97) + (10 : Int32) = nI (t - 97 + 10) from nI_add _ 10, show t - 97 + 10 = t - 87 by omega]; exact h
  · rw [if_neg hj, if_neg hj2] at h
    refine pk_lt t 65 (fun c => ?_) (fun c => pk_lt 90 t (fun d => ?_) (fun d => ?_))
    · rw [if_neg (by omega)] at h; exact h
    · rw [if_neg (by omega)] at h; exact h
    · rw [if_pos ⟨c, d⟩] at h
      rw [show nI t - (65 : Int32) = nI (t - 65) from pk_sub c, show nI (t - 65) + (10 : Int32) = nI (t - 65 + 10) from nI_add _ 10, show t - 65 + 10 = t - 55 by omega]; exact h
/-- the line holds a number -/
def isNum (b n : Nat) (tx : Nat → Nat) : Prop := hm n tx < n ∧ ∀ k, hm n tx ≤ k → k < n → dl 36 (tx k) < b
theorem s_T_areNumber {b : Nat} {p : Int32} (h : lS K F A n tx) (hp : p = nI b) (hb : b < 100) {post : Int32 → Prop} (h1 : isNum b n tx → post 1) (h2 : ¬ isNum b n tx → post 0) : vc_T_areNumber K p F A post := by
  subst hp
  have hl := hm_le n tx
  obtain ⟨p1, p2, p3⟩ := h
  unfold vc_T_areNumber
  refine s_T_haveMinus ⟨p1, p2, p3⟩ ?_
  rw [p2]
  refine ⟨fun v => v = nI (hm n tx), pk_eq (hm n tx) 0 (fun c => by rw [c]; rfl) (fun c => by rw [show hm n tx = 1 by omega]; rfl), ?_⟩
  rintro _ rfl
  refine ⟨fun x => ∃ k, x = nI k ∧ hm n tx ≤ k ∧ k ≤ n ∧ ∀ j, hm n tx ≤ j → j < k → dl 36 (tx j) < b, fun x => n - x.toNatClampNeg, ⟨hm n tx, rfl, Nat.le_refl _, hl.2, fun j a c => by omega⟩, ?_⟩
  rintro _ ⟨k, rfl, hk1, hk2, hj⟩
  refine pk_le n k (fun c => ?_) (fun c => ⟨pk_in k 2100 (by omega), ?_⟩)
  · have : k = n := by omega
    subst this
    exact pk_le k (hm k tx) (fun d => h2 (fun z => by have := z.1; omega)) (fun d => h1 ⟨d, hj⟩)
  · have q := p3 k c
    rw [nI_clamp (by omega), q.1]
    refine s_T_digitOf rfl (by omega) ?_
    have hd := dl_lt (tx k)
    refine pk_lt (dl 36 (tx k)) b (fun d => ?_) (fun d => h2 (fun z => by have := z.2 k hk1 c; omega))
    rintro _ rfl
    refine ⟨⟨k + 1, nI_s k, by omega, by omega, fun j a e => ?_⟩, ?_⟩
    · by_cases f : j = k
      · subst f; exact d
      · exact hj j a (by omega)
    · dsimp only
      rw [nI_s, nI_clamp (by omega), nI_clamp (by omega)]; omega
end T1
