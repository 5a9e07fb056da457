def tq (x y : Int) : Int := if (x < 0 ↔ y < 0) then ((x.natAbs / y.natAbs : Nat) : Int) else -((x.natAbs / y.natAbs : Nat) : Int)
def tr (x y : Int) : Int := if x < 0 then -((x.natAbs % y.natAbs : Nat) : Int) else ((x.natAbs % y.natAbs : Nat) : Int)
theorem tq_abs (x y : Int) : (tq x y).natAbs = x.natAbs / y.natAbs := by
  unfold tq; split
  · rw [Int.natAbs_natCast]
  · rw [Int.natAbs_neg, Int.natAbs_natCast]
theorem tr_abs (x y : Int) : (tr x y).natAbs = x.natAbs % y.natAbs := by
  unfold tr; split
  · rw [Int.natAbs_neg, Int.natAbs_natCast]
  · rw [Int.natAbs_natCast]
theorem sb_ne (x : Int) : sb x ≠ 0 ↔ x < 0 := by
  unfold sb; split
  · exact ⟨fun _ => ‹_›, fun _ => by decide⟩
  · exact ⟨fun h => absurd rfl h, fun h => absurd h ‹_›⟩
theorem sb_eq (x y : Int) : sb x = sb y ↔ (x < 0 ↔ y < 0) := by
  unfold sb
  by_cases c1 : x < 0 <;> by_cases c2 : y < 0
  · rw [if_pos c1, if_pos c2]; simp [c1, c2]
  · rw [if_pos c1, if_neg c2]; simp [c1, c2]
  · rw [if_neg c1, if_pos c2]; simp [c1, c2]
  · rw [if_neg c1, if_neg c2]; simp [c1, c2]
section D4
variable {F A : gm_M} {K : Nat → Nat} {a1 l1 n1 u1 a2 l2 n2 u2 : Nat}
theorem s_D_cutSigned {x y : Int} (hK : dAp K) (o1 : offD K a1 l1) (o2 : offD K a2 l2) (h1 : wU F A a1 l1 n1 u1 x.natAbs) (b1 : F a1 2 = sb x) (h2 : wU F A a2 l2 n2 u2 y.natAbs) (b2 : F a2 2 = sb y) (hy : y ≠ 0) (hu1 : u1 < 135) (hu2 : u2 < 68) (hn1 : n1 < 2 ^ 29) (hn2 : n2 < 2 ^ 29) {post : gm_M → gm_M → Prop} (hr : ∀ F' A', frD K F A F' A' → wR F' A' (K 39) (K 40) 135 (tq x y) → wR F' A' (K 41) (K 42) 135 (tr x y) → post F' A') : vc_D_cutSigned K a1 l1 n1 a2 l2 n2 F A post := by
  unfold vc_D_cutSigned
  refine s_D_cut hK o1 o2 h1 b1 h2 (by omega) hu1 hu2 hn1 hn2 (fun F1 A1 f1 wq wr => ?_)
  have e1 := (f1.off o1).1
  have e2 := (f1.off o2).1
  have k3941 := hK.2.2.2.2.2.2
  have k4240 := hK.2.2.2.2.2.1
  rw [e1, e2, b1, b2]
  have fin : ∀ p : Int32, (tq x y ≠ 0 → (p ≠ 0 ↔ tq x y < 0)) → vc_W_setBelow (K 39) (K 40) 135 p F1 A1 (fun (F_2 : gm_M) => vc_W_setBelow (K 41) (K 42) (135) (F_2 a1 2) F_2 A1 (fun (F_3 : gm_M) => post F_3 A1)) := fun p hp => by
    refine s_W_setBelowR (x := tq x y) (by rw [tq_abs, ← Int.natAbs_natCast (x.natAbs / y.natAbs)]; exact wq.1) (by decide) hp (fun F2 g1 g2 => ?_)
    rw [g1 a1 o1.1, e1, b1]
    refine s_W_setBelowR (x := tr x y) (by rw [tr_abs, ← Int.natAbs_natCast (x.natAbs % y.natAbs)]; exact wr.1.congr (g1 _ (Ne.symm k3941)) rfl) (by decide) (fun hz => ?_) (fun F3 g3 g4 => ?_)
    · rw [sb_ne]
      unfold tr at hz ⊢
      by_cases c : x < 0
      · rw [if_pos c] at hz ⊢; omega
      · rw [if_neg c] at hz ⊢; omega
    · exact hr F3 A1 ⟨fun b a b' => by rw [g3 b b', g1 b a, f1.1 b a b'], f1.2⟩ (g2.congr (g3 _ k3941) rfl) g4
  refine ⟨fun c => fin 0 (fun hz => ?_), fun c => fin 1 (fun hz => ?_)⟩
  · have c := (sb_eq x y).mp c
    unfold tq
    rw [if_pos c]
    exact ⟨fun z => absurd rfl z, fun z => absurd z (Int.not_lt.mpr (Int.natCast_nonneg _))⟩
  · have c : ¬ (x < 0 ↔ y < 0) := fun z => c ((sb_eq x y).mpr z)
    unfold tq at hz ⊢
    rw [if_neg c] at hz ⊢
    generalize x.natAbs / y.natAbs = Q at hz ⊢
    exact ⟨fun _ => by omega, fun _ => by decide⟩
theorem s_D_roundDown {q r y : Int} {uq ur : Nat} (hK : dAp K) (o1 : offD K a1 l1) (hq : wU F A (K 39) (K 40) 135 uq q.natAbs) (bq : F (K 39) 2 = sb q) (hr0 : wU F A (K 41) (K 42) 135 ur r.natAbs) (br : F (K 41) 2 = sb r) (h1 : wU F A a1 l1 n1 u1 y.natAbs) (b1 : F a1 2 = sb y) (hy : y ≠ 0) (huq : uq < 135) (hur : ur < 135) (hu1 : u1 < 135) (hn1 : n1 < 2 ^ 29) {post : gm_M → gm_M → Prop} (hr : ∀ F' A', frD K F A F' A' → wR F' A' (K 39) (K 40) 135 (if r ≠ 0 ∧ ¬ (r < 0 ↔ y < 0) then -((q.natAbs + 1 : Nat) : Int) else q) → wR F' A' (K 41) (K 42) 135 (if r ≠ 0 ∧ ¬ (r < 0 ↔ y < 0) then r + y else r) → post F' A') : vc_D_roundDown K a1 l1 n1 F A post := by
  have k3941 := hK.2.2.2.2.2.2
  have k4240 := hK.2.2.2.2.2.1
  unfold vc_D_roundDown
  refine s_W_sign ⟨⟨ur, hr0⟩, br⟩ (by decide) (s_W_sign ⟨⟨u1, h1⟩, b1⟩ (by omega) ?_)
  rw [iZ_mul]
  have hs : ∀ z : Int, z.sign = 1 ∧ 0 < z ∨ z.sign = 0 ∧ z = 0 ∨ z.sign = -1 ∧ z < 0 := fun z => by
    rcases Int.lt_trichotomy z 0 with h | h | h
    · exact Or.inr (Or.inr ⟨Int.sign_eq_neg_one_of_neg h, h⟩)
    · subst h; exact Or.inr (Or.inl ⟨rfl, rfl⟩)
    · exact Or.inl ⟨Int.sign_eq_one_of_pos h, h⟩
  have hcase : (r.sign * y.sign = -1 ∧ r ≠ 0 ∧ ¬ (r < 0 ↔ y < 0)) ∨ (0 ≤ r.sign * y.sign ∧ r.sign * y.sign ≤ 1 ∧ ¬ (r ≠ 0 ∧ ¬ (r < 0 ↔ y < 0))) := by
    rcases hs r with ⟨e1, e2⟩ | ⟨e1, e2⟩ | ⟨e1, e2⟩ <;> rcases hs y with ⟨g1, g2⟩ | ⟨g1, g2⟩ | ⟨g1, g2⟩ <;> rw [e1, g1] <;> omega
  rcases hcase with ⟨c1, c2⟩ | ⟨c1, c1', c2⟩
  · rw [c1]
    refine ⟨fun z => absurd z (by decide), fun _ => ?_⟩
    rw [if_pos c2] at hr
    rw [b1]
    refine s_W_takeSum hr0 br h1 (sb01 y) (fun _ => ?_) ⟨hur, hu1⟩ (by decide) (by decide) (by omega) (fun F3 A3 f3 w3 => ?_)
    · constructor
      · intro z; exact (sb_ne y).mp (by rw [z]; decide)
      · intro z; unfold sb; rw [if_pos z]
    · refine s_W_growByOne (hq.congr (f3.1 _ k3941) (f3.2 _ (Ne.symm k4240))) huq (by decide) (fun F4 A4 f4 w4 => ?_)
      refine s_W_setBelowR (x := -((q.natAbs + 1 : Nat) : Int)) (by rw [Int.natAbs_neg, Int.natAbs_natCast]; exact w4) (by decide) (fun _ => ⟨fun _ => by omega, fun _ => by decide⟩) (fun F5 g5 w5 => ?_)
      rw [if_pos c2] at hr
      exact hr F5 A4 ⟨fun b a b' => by rw [g5 b a, f4.1 b a, f3.1 b b'], fun b a b' _ _ => by rw [f4.2 b a, f3.2 b b']⟩ w5 (w3.congr (by rw [g5 _ (Ne.symm k3941), f4.1 _ (Ne.symm k3941)]) (f4.2 _ k4240))
  · refine ⟨fun _ => ?_, fun z => absurd ?_ z⟩
    · rw [if_neg c2] at hr
      rw [if_neg c2] at hr
      exact hr F A ⟨fun _ _ _ => rfl, fun _ _ _ _ _ => rfl⟩ ⟨⟨uq, hq⟩, bq⟩ ⟨⟨ur, hr0⟩, br⟩
    · exact (iZ_le (a := 0) (by omega) (by omega) (by omega) (by omega)).mpr c1
end D4
