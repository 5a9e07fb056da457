theorem cK_9 : (.classLink R_K 9 R_W : Cond) ∈ gw_WS := gw_r1 26 (by decide +kernel) (by decide +kernel)
theorem cK_18 : (.classLink R_K 18 R_T : Cond) ∈ gw_WS := gw_r1 50 (by decide +kernel) (by decide +kernel)
theorem cK_25 : (.classLink R_K 25 R_D : Cond) ∈ gw_WS := gw_r1 66 (by decide +kernel) (by decide +kernel)
theorem mK_15 : (.methodLink R_K 15 y_W_init : Cond) ∈ gw_WS := gw_r1 29 (by decide +kernel) (by decide +kernel)
theorem mK_20 : (.methodLink R_K 20 y_T_init : Cond) ∈ gw_WS := gw_r1 52 (by decide +kernel) (by decide +kernel)
theorem mK_27 : (.methodLink R_K 27 y_D_init : Cond) ∈ gw_WS := gw_r1 68 (by decide +kernel) (by decide +kernel)
theorem fK_11 : (.fieldLink R_K 11 R_K "registers" "[LLimbDesk$Whole;" : Cond) ∈ gw_WS := gw_r1 89 (by decide +kernel) (by decide +kernel)
theorem fK_21 : (.fieldLink R_K 21 R_K "letters" "LLimbDesk$Letters;" : Cond) ∈ gw_WS := gw_r1 90 (by decide +kernel) (by decide +kernel)
theorem fK_28 : (.fieldLink R_K 28 R_K "divider" "LLimbDesk$Divider;" : Cond) ∈ gw_WS := gw_r1 91 (by decide +kernel) (by decide +kernel)
theorem fK_32 : (.fieldLink R_K 32 R_K "outcome" "LLimbDesk$Whole;" : Cond) ∈ gw_WS := gw_r1 92 (by decide +kernel) (by decide +kernel)
theorem fK_36 : (.fieldLink R_K 36 R_K "product" "LLimbDesk$Whole;" : Cond) ∈ gw_WS := gw_r1 93 (by decide +kernel) (by decide +kernel)
theorem fK_39 : (.fieldLink R_K 39 R_K "factor" "LLimbDesk$Whole;" : Cond) ∈ gw_WS := gw_r1 94 (by decide +kernel) (by decide +kernel)
def gk_I (cI cW : ClassId) (Λ0 : gs_L) (a qa r : Nat) (z : Nat → Nat) (g : Nat → Option Nat) (Λ : gs_L) : Prop :=
  (a, (Sum.inl (3, [some (some qa), some none, some none, some none, some none, some none]) : gs_S)) ∈ Λ ∧ a ≠ qa ∧ (qa, gRf cW 16 g) ∈ Λ ∧ (∀ j, j < r → g j = some (z (2 * j))) ∧ (∀ j, j < r → gW cI Λ (z (2 * j)) (z (2 * j + 1)) 67) ∧ (∀ i j, i < 2 * r → j < 2 * r → z i = z j → i = j) ∧ (∀ i, i < 2 * r → z i ≠ a ∧ z i ≠ qa ∧ (∃ sh, (z i, sh) ∈ Λ) ∧ ∀ x ∈ Λ0, x.1 ≠ z i) ∧ (∀ x ∈ Λ0, x.1 ≠ a → x ∈ Λ) ∧ (∀ x ∈ Λ0, x.1 ≠ qa)
theorem gk_step {cI cW : ClassId} {Λ0 Λ Λ1 Λ2 : gs_L} {a qa r q la : Nat} {z : Nat → Nat} {g : Nat → Option Nat} (h : gk_I cI cW Λ0 a qa r z g Λ) (ex : ∀ x ∈ Λ, x ∈ Λ1 ∧ x.1 ≠ q ∧ x.1 ≠ la) (hqla : q ≠ la) (hw : gW cI Λ1 q la 67) (kp : ∀ x ∈ Λ1, x.1 ≠ qa → x ∈ Λ2) (hr : (qa, gRf cW 16 (va_up g r (some q))) ∈ Λ2) :
    gk_I cI cW Λ0 a qa (r + 1) (fun i => if i = 2 * r then q else if i = 2 * r + 1 then la else z i) (va_up g r (some q)) Λ2 := by
  obtain ⟨h1, h2, h3, h4, h5, h6, h7, h8, h9⟩ := h
  have qqa : q ≠ qa := fun e => (ex _ h3).2.1 e.symm
  have laqa : la ≠ qa := fun e => (ex _ h3).2.2 e.symm
  have fz : ∀ i, i < 2 * r → z i ≠ q ∧ z i ≠ la := fun i hi => by
    obtain ⟨-, -, ⟨sh, hs⟩, -⟩ := h7 i hi
    exact (ex _ hs).2
  have old : ∀ i, i < 2 * r → (if i = 2 * r then q else if i = 2 * r + 1 then la else z i) = z i := fun i hi => by rw [if_neg (by omega), if_neg (by omega)]
  refine ⟨kp _ (ex _ h1).1 h2, h2, hr, fun j hj => ?_, fun j hj => ?_, fun i j hi hj e => ?_, fun i hi => ?_, fun x hx hxa => kp _ (ex _ (h8 x hx hxa)).1 (h9 x hx), h9⟩
  · by_cases hjr : j = r
    · subst hjr; simp [va_up]
    · rw [va_up_ne g (some q) hjr, h4 j (by omega)]
      show _ = some (if 2 * j = 2 * r then q else if 2 * j = 2 * r + 1 then la else z (2 * j))
      rw [if_neg (by omega), if_neg (by omega)]
  · show gW cI Λ2 (if 2 * j = 2 * r then q else if 2 * j = 2 * r + 1 then la else z (2 * j)) (if 2 * j + 1 = 2 * r then q else if 2 * j + 1 = 2 * r + 1 then la else z (2 * j + 1)) 67
    by_cases hjr : j = r
    · subst hjr
      rw [if_pos rfl, if_neg (by omega), if_pos rfl]
      exact ⟨kp _ hw.1 qqa, kp _ hw.2 laqa⟩
    · rw [if_neg (by omega), if_neg (by omega), if_neg (by omega), if_neg (by omega)]
      have g5 := h5 j (by omega)
      exact ⟨kp _ (ex _ g5.1).1 (h7 (2 * j) (by omega)).2.1, kp _ (ex _ g5.2).1 (h7 (2 * j + 1) (by omega)).2.1⟩
  · have hi' : i < 2 * r ∨ i = 2 * r ∨ i = 2 * r + 1 := by omega
    have hj' : j < 2 * r ∨ j = 2 * r ∨ j = 2 * r + 1 := by omega
    dsimp only at e
    rcases hi' with hi' | rfl | rfl <;> rcases hj' with hj' | rfl | rfl
    · rw [old i hi', old j hj'] at e; exact h6 i j hi' hj' e
    · rw [old i hi', if_pos rfl] at e; exact absurd e (fz i hi').1
    · rw [old i hi', if_neg (by omega), if_pos rfl] at e; exact absurd e (fz i hi').2
    · rw [old j hj', if_pos rfl] at e; exact absurd e.symm (fz j hj').1
    · rfl
    · rw [if_pos rfl, if_neg (by omega), if_pos rfl] at e; exact absurd e hqla
    · rw [old j hj', if_neg (by omega), if_pos rfl] at e; exact absurd e.symm (fz j hj').2
    · rw [if_neg (by omega), if_pos rfl, if_pos rfl] at e; exact absurd e.symm hqla
    · rfl
  · have hi' : i < 2 * r ∨ i = 2 * r ∨ i = 2 * r + 1 := by omega
    have fresh : ∀ x ∈ Λ0, x.1 ≠ q ∧ x.1 ≠ la := fun x hx => by
      by_cases hxa : x.1 = a
      · rw [hxa]; exact (ex _ h1).2
      · exact (ex _ (h8 x hx hxa)).2
    dsimp only
    rcases hi' with hi' | rfl | rfl
    · rw [old i hi']
      obtain ⟨g1, g2, ⟨sh, hs⟩, g4⟩ := h7 i hi'
      exact ⟨g1, g2, ⟨sh, kp _ (ex _ hs).1 g2⟩, g4⟩
    · rw [if_pos rfl]
      exact ⟨fun e => (ex _ h1).2.1 e.symm, qqa, ⟨_, kp _ hw.1 qqa⟩, fun x hx => (fresh x hx).1⟩
    · rw [if_neg (by omega), if_pos rfl]
      exact ⟨fun e => (ex _ h1).2.2 e.symm, laqa, ⟨_, kp _ hw.2 laqa⟩, fun x hx => (fresh x hx).2⟩
def gk_pm (i : Nat) : Nat := ([0, 0, 0, 1, 2, 7, 8, 0, 0, 0, 0, 0, 0, 0, 0, 0, 0, 0, 0, 0, 0, 0, 0, 0, 0, 0, 0, 0, 0, 0, 0, 0, 0, 0, 0, 0, 0, 0, 0, 3, 4, 5, 6, 9, 10, 11, 12, 13, 14] : List Nat).getD i 0
def gk_K (a qa : Nat) (z : Nat → Nat) (t : List Nat) (i : Nat) : Nat := if i = 0 then a else if i = 1 then qa else if 7 ≤ i ∧ i < 39 then z (i - 7) else t.getD (gk_pm i) 0
theorem gk_pmA : ∀ i, i < 49 → ∀ j, j < 49 → ((i < 2 ∨ 7 ≤ i ∧ i < 39) ∨ (j < 2 ∨ 7 ≤ j ∧ j < 39) ∨ gk_pm i ≠ gk_pm j ∨ i = j) := by decide +kernel
theorem gk_pmi (i : Nat) (hi : i < 49) (j : Nat) (hj : j < 49) (h1 : ¬ (i < 2 ∨ 7 ≤ i ∧ i < 39)) (h2 : ¬ (j < 2 ∨ 7 ≤ j ∧ j < 39)) (h : gk_pm i = gk_pm j) : i = j := by
  rcases gk_pmA i hi j hj with g | g | g | g
  · exact absurd g h1
  · exact absurd g h2
  · exact absurd h g
  · exact g
theorem gk_pml : ∀ i, i < 49 → ¬ (i < 2 ∨ 7 ≤ i ∧ i < 39) → gk_pm i < 15 := by decide +kernel
theorem gk_inj {cI cW : ClassId} {Λ0 Λ Λ1 : gs_L} {a qa : Nat} {z : Nat → Nat} {g : Nat → Option Nat} {t : List Nat} (h : gk_I cI cW Λ0 a qa 16 z g Λ) (ht : gn_ok Λ Λ1 a t) (hl : t.length = 15) :
    (∀ i j, i < 49 → j < 49 → gk_K a qa z t i = gk_K a qa z t j → i = j) ∧ ∀ i, 1 ≤ i → i < 49 → ∀ x ∈ Λ0, x.1 ≠ gk_K a qa z t i := by
  obtain ⟨h1, h2, h3, h4, h5, h6, h7, h8, h9⟩ := h
  obtain ⟨t1, t2, t3, t4, -⟩ := ht
  have kz : ∀ i, 7 ≤ i → i < 39 → gk_K a qa z t i = z (i - 7) := fun i p1 p2 => by unfold gk_K; rw [if_neg (by omega), if_neg (by omega), if_pos ⟨p1, p2⟩]
  have kt : ∀ i, i < 49 → ¬ (i < 2 ∨ 7 ≤ i ∧ i < 39) → gk_K a qa z t i = t.getD (gk_pm i) 0 ∧ t.getD (gk_pm i) 0 ∈ t := fun i p1 p2 => by
    refine ⟨?_, gn_mem (by rw [hl]; exact gk_pml i p1 p2)⟩
    unfold gk_K; rw [if_neg (by omega), if_neg (by omega), if_neg (by omega)]
  have cl : ∀ i, i < 49 → (i = 0 ∧ gk_K a qa z t i = a) ∨ (i = 1 ∧ gk_K a qa z t i = qa) ∨ (7 ≤ i ∧ i < 39) ∨ ¬ (i < 2 ∨ 7 ≤ i ∧ i < 39) := fun i hi => by
    by_cases p0 : i = 0
    · subst p0; exact Or.inl ⟨rfl, rfl⟩
    · by_cases p1 : i = 1
      · subst p1; exact Or.inr (Or.inl ⟨rfl, rfl⟩)
      · by_cases p2 : 7 ≤ i ∧ i < 39
        · exact Or.inr (Or.inr (Or.inl p2))
        · exact Or.inr (Or.inr (Or.inr (by omega)))
  have za : ∀ i, i < 32 → z i ≠ a := fun i hi => (h7 i (by omega)).1
  have zq : ∀ i, i < 32 → z i ≠ qa := fun i hi => (h7 i (by omega)).2.1
  have zt : ∀ i, i < 32 → ∀ b ∈ t, z i ≠ b := fun i hi b hb => by
    obtain ⟨-, -, ⟨sh, hs⟩, -⟩ := h7 i (by omega)
    exact t3 b hb _ hs
  constructor
  · intro i j hi hj e
    rcases cl i hi with ⟨p, pe⟩ | ⟨p, pe⟩ | p | p <;> rcases cl j hj with ⟨q, qe⟩ | ⟨q, qe⟩ | q | q
    · omega
    · rw [pe, qe] at e; exact absurd e h2
    · rw [pe, kz j q.1 q.2] at e; exact absurd e.symm (za _ (by omega))
    · rw [pe, (kt j hj q).1] at e; exact absurd e.symm (t2 _ (kt j hj q).2).2
    · rw [pe, qe] at e; exact absurd e.symm h2
    · omega
    · rw [pe, kz j q.1 q.2] at e; exact absurd e.symm (zq _ (by omega))
    · rw [pe, (kt j hj q).1] at e; exact absurd e (t3 _ (kt j hj q).2 _ h3)
    · rw [qe, kz i p.1 p.2] at e; exact absurd e (za _ (by omega))
    · rw [qe, kz i p.1 p.2] at e; exact absurd e (zq _ (by omega))
    · rw [kz i p.1 p.2, kz j q.1 q.2] at e
      have := h6 _ _ (by omega) (by omega) e
      omega
    · rw [kz i p.1 p.2, (kt j hj q).1] at e; exact absurd e (zt _ (by omega) _ (kt j hj q).2)
    · rw [qe, (kt i hi p).1] at e; exact absurd e (t2 _ (kt i hi p).2).2
    · rw [qe, (kt i hi p).1] at e; exact absurd e.symm (t3 _ (kt i hi p).2 _ h3)
    · rw [kz j q.1 q.2, (kt i hi p).1] at e; exact absurd e.symm (zt _ (by omega) _ (kt i hi p).2)
    · rw [(kt i hi p).1, (kt j hj q).1] at e
      exact gk_pmi i hi j hj p q (gn_inj t1 hl _ _ (gk_pml i hi p) (gk_pml j hj q) e)
  · intro i h1i hi x hx
    rcases cl i hi with ⟨p, pe⟩ | ⟨p, pe⟩ | p | p
    · omega
    · rw [pe]; exact h9 x hx
    · rw [kz i p.1 p.2]; exact (h7 _ (by omega)).2.2.2 x hx
    · rw [(kt i hi p).1]
      by_cases hxa : x.1 = a
      · rw [hxa]; exact fun e => (t2 _ (kt i hi p).2).2 e.symm
      · exact t3 _ (kt i hi p).2 _ (h8 x hx hxa)
/-- the same row of references, written otherwise -/
theorem gc_same {A : Nat → Prop} {D : va_G} {cl : List vw_C} {Λ : gs_L} {F M : gm_M} {L : lm_M} {H : Heap} {a n : Nat} {cW : ClassId} {g g1 : Nat → Option Nat} (hD : gs_D Λ) (hA : ∀ x ∈ Λ, A x.1) (hm : (a, gRf cW n g) ∈ Λ) (hg : ∀ j, j < n → g j = g1 j) (hP : va_P D cl (gs_ws Λ F M L) H) :
    ∃ Λ1 : gs_L, (∀ x ∈ Λ, x.1 ≠ a → x ∈ Λ1) ∧ (a, gRf cW n g1) ∈ Λ1 ∧ gs_D Λ1 ∧ (∀ x ∈ Λ1, A x.1) ∧ va_P D cl (gs_ws Λ1 F M L) H := by
  obtain ⟨k, hk, hw⟩ := gs_ws_at (F := F) (A := M) (L := L) hm
  obtain ⟨h1, h2, h3, h4, h5, -⟩ := gc_set (F := F) (M := M) (L := L) (sh1 := gRf cW n g1) hD hA hk rfl
  refine ⟨_, h1, h2, h3, h4, ?_⟩
  rw [← h5]
  intro i q hi
  by_cases hik : k = i
  · subst hik
    have hlt : k < (gs_ws Λ F M L).length := (List.getElem?_eq_some_iff.mp hw).1
    rw [List.getElem?_set_self hlt] at hi
    cases hi
    have h0 : H[a]? = some (vp_cell cW (n, .inr (.inr (.inr (.inr g))))) := hP k _ hw
    show H[a]? = some (vp_cell cW (n, .inr (.inr (.inr (.inr g1)))))
    rw [h0]
    congr 1
    show arrV cW n (fun j => va_rf (g j)) = arrV cW n (fun j => va_rf (g1 j))
    unfold arrV
    congr 2
    funext j
    show va_rf (g j.val) = va_rf (g1 j.val)
    rw [hg j.val j.isLt]
  · rw [List.getElem?_set_ne hik] at hi
    exact hP i q hi
theorem gn_add {Λ0 Λ Λ1 : gs_L} {a : Nat} {l l2 : List Nat} (h : gn_ok Λ0 Λ a l) (he : ∀ x ∈ Λ, ∃ sh, (x.1, sh) ∈ Λ1) (hk : ∀ x ∈ Λ0, x.1 ≠ a → x ∈ Λ → x ∈ Λ1) (hn : l2.Nodup) (h2 : ∀ b ∈ l2, (∃ sh, (b, sh) ∈ Λ1) ∧ ∀ x ∈ Λ, x.1 ≠ b) : gn_ok Λ0 Λ1 a (l ++ l2) := by
  obtain ⟨g1, g2, g3, g4, sa, g5⟩ := h
  refine ⟨List.nodup_append.mpr ⟨g1, hn, fun x hx y hy e => ?_⟩, fun b hb => ?_, fun b hb x hx => ?_, fun x hx hxa => hk x hx hxa (g4 x hx hxa), he _ g5⟩
  · subst e
    obtain ⟨⟨s1, hs⟩, -⟩ := g2 x hx
    exact (h2 x hy).2 _ hs rfl
  · rcases List.mem_append.mp hb with hb | hb
    · obtain ⟨⟨s1, hs⟩, hne⟩ := g2 b hb
      exact ⟨he _ hs, hne⟩
    · exact ⟨(h2 b hb).1, fun e => (h2 b hb).2 _ g5 e.symm⟩
  · rcases List.mem_append.mp hb with hb | hb
    · exact g3 b hb x hx
    · by_cases hxa : x.1 = a
      · rw [hxa]; exact (h2 b hb).2 _ g5
      · exact (h2 b hb).2 _ (g4 x hx hxa)
def gc_PK (D : va_G) (cI cB cJ cW : ClassId) (Λ : gs_L) (sz : Nat) (U : State) : Prop := gc_P D cI cB cJ cW Λ sz U ∧ va_AO "LimbDesk$Whole" U
def gc_postK (cI cB cW : ClassId) (Λ : gs_L) (a : Nat) (Λ1 : gs_L) : Prop := ∃ K : Nat → Nat, K 0 = a ∧ (∀ i j, i < 49 → j < 49 → K i = K j → i = j) ∧ (∀ i, 1 ≤ i → i < 49 → ∀ x ∈ Λ, x.1 ≠ K i) ∧ gK cI cB cW Λ1 K
theorem gk_end {cI cB cW : ClassId} {Λ Λ1 Λ2 : gs_L} {a qa : Nat} {z : Nat → Nat} {lt rw dv q lq r lr dd ds o lo pr lpr fa lfa : Nat} {Λ0 Λe : gs_L} {g : Nat → Option Nat} (h : gk_I cI cW Λ0 a qa 16 z g Λe) (kp : ∀ x ∈ Λ1, x.1 ≠ qa → x ∈ Λ2)
    (hg : gn_ok Λe Λ1 a [lt, rw, dv, q, lq, r, lr, dd, ds, o, lo, pr, lpr, fa, lfa]) (hq : (qa, gRf cW 16 (fun j => some (gk_K a qa z [lt, rw, dv, q, lq, r, lr, dd, ds, o, lo, pr, lpr, fa, lfa] (7 + 2 * j)))) ∈ Λ2)
    (hm : (a, (Sum.inl (3, [some (some qa), some (some lt), some (some dv), some (some o), some (some pr), some (some fa)]) : gs_S)) ∈ Λ1) (hT : (lt, (Sum.inl (2, [some (some rw), none]) : gs_S)) ∈ Λ1) (hR : (rw, gI cB 2100) ∈ Λ1) (hDv : (dv, (Sum.inl (1, [some (some q), some (some r), some (some dd), some (some ds)]) : gs_S)) ∈ Λ1) (h1 : gW cI Λ1 q lq 135) (h2 : gW cI Λ1 r lr 135) (h3 : (dd, gI cI 135) ∈ Λ1) (h4 : (ds, gI cI 68) ∈ Λ1) (h5 : gW cI Λ1 o lo 135) (h6 : gW cI Λ1 pr lpr 135) (h7 : gW cI Λ1 fa lfa 67) : gK cI cB cW Λ2 (gk_K a qa z [lt, rw, dv, q, lq, r, lr, dd, ds, o, lo, pr, lpr, fa, lfa]) := by
  obtain ⟨g1, g2, g3, g4, g5, g6, g7, g8, g9⟩ := h
  obtain ⟨t1, t2, t3, t4, -⟩ := hg
  have nq : ∀ b ∈ [lt, rw, dv, q, lq, r, lr, dd, ds, o, lo, pr, lpr, fa, lfa], b ≠ qa := fun b hb e => t3 b hb _ g3 e.symm
  simp only [List.mem_cons, List.not_mem_nil, or_false, forall_eq_or_imp, forall_eq] at nq
  obtain ⟨n1, n2, n3, n4, n5, n6, n7, n8, n9, n10, n11, n12, n13, n14, n15⟩ := nq
  intro x hx
  rcases List.mem_append.mp hx with hx | hx
  · simp only [List.mem_cons, List.not_mem_nil, or_false] at hx
    rcases hx with rfl | rfl | rfl | rfl | rfl | rfl | rfl
    · exact kp _ hm g2
    · exact hq
    · exact kp _ hT n1
    · exact kp _ hR n2
    · exact kp _ hDv n3
    · exact kp _ h3 n8
    · exact kp _ h4 n9
  · obtain ⟨w, hw, hx⟩ := List.mem_flatMap.mp hx
    have hw := List.mem_range.mp hw
    by_cases hw16 : w < 16
    · have e1 : gk_K a qa z [lt, rw, dv, q, lq, r, lr, dd, ds, o, lo, pr, lpr, fa, lfa] (7 + 2 * w) = z (2 * w) := by
        unfold gk_K; rw [if_neg (by omega), if_neg (by omega), if_pos (by omega), show 7 + 2 * w - 7 = 2 * w by omega]
      have e2 : gk_K a qa z [lt, rw, dv, q, lq, r, lr, dd, ds, o, lo, pr, lpr, fa, lfa] (8 + 2 * w) = z (2 * w + 1) := by
        unfold gk_K; rw [if_neg (by omega), if_neg (by omega), if_pos (by omega), show 8 + 2 * w - 7 = 2 * w + 1 by omega]
      rw [e1, e2, show gN w = 67 from if_neg (by omega)] at hx
      have u := g5 w hw16
      simp only [List.mem_cons, List.not_mem_nil, or_false] at hx
      rcases hx with rfl | rfl
      · exact kp _ (t4 _ u.1 (g7 (2 * w) (by omega)).1) (g7 (2 * w) (by omega)).2.1
      · exact kp _ (t4 _ u.2 (g7 (2 * w + 1) (by omega)).1) (g7 (2 * w + 1) (by omega)).2.1
    · have : w = 16 ∨ w = 17 ∨ w = 18 ∨ w = 19 ∨ w = 20 := by omega
      simp only [List.mem_cons, List.not_mem_nil, or_false] at hx
      rcases this with rfl | rfl | rfl | rfl | rfl <;> rcases hx with rfl | rfl
      · exact kp _ h1.1 n4
      · exact kp _ h1.2 n5
      · exact kp _ h2.1 n6
      · exact kp _ h2.2 n7
      · exact kp _ h5.1 n10
      · exact kp _ h5.2 n11
      · exact kp _ h6.1 n12
      · exact kp _ h6.2 n13
      · exact kp _ h7.1 n14
      · exact kp _ h7.2 n15
