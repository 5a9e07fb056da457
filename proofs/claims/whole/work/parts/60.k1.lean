/-! the desk's state -/
def bN : Nat := 2048
def fit (x : Int) : Prop := x.natAbs < 2 ^ bN
def kinj (K : Nat → Nat) : Prop := ∀ i j, i < 64 → j < 64 → K i = K j → i = j
theorem kne {K : Nat → Nat} (hK : kinj K) {i j : Nat} (h : i ≠ j) (hi : i < 64) (hj : j < 64) : K i ≠ K j := fun e => h (hK i j hi hj e)
def CS (K : Nat → Nat) (F A : gm_M) (v : Nat → Int) (n : Nat) (tx : Nat → Nat) : Prop := (∀ w, w < 16 → wR F A (K (7 + 2 * w)) (K (8 + 2 * w)) 67 (v w) ∧ fit (v w)) ∧ lS K F A n tx
def vu (v : Nat → Int) (w : Nat) (x : Int) : Nat → Int := fun i => if i = w then x else v i
def frS (K : Nat → Nat) (F A F' A' : gm_M) : Prop := ∀ i, i < 64 → (i < 5 ∨ 7 ≤ i ∧ i < 39 ∨ 49 ≤ i) → F' (K i) = F (K i) ∧ A' (K i) = A (K i)
def frC (K : Nat → Nat) (F A F' A' : gm_M) : Prop := ∀ i, i < 64 → 49 ≤ i → F' (K i) = F (K i) ∧ A' (K i) = A (K i)
theorem frC.rf {K : Nat → Nat} {F A : gm_M} : frC K F A F A := fun _ _ _ => ⟨rfl, rfl⟩
theorem frC.trans {K : Nat → Nat} {F A F' A' F'' A'' : gm_M} (h : frC K F A F' A') (h' : frC K F' A' F'' A'') : frC K F A F'' A'' := fun i h1 h2 => ⟨(h' i h1 h2).1.trans (h i h1 h2).1, (h' i h1 h2).2.trans (h i h1 h2).2⟩
theorem frS.rf {K : Nat → Nat} {F A : gm_M} : frS K F A F A := fun _ _ _ => ⟨rfl, rfl⟩
theorem frS.trans {K : Nat → Nat} {F A F' A' F'' A'' : gm_M} (h : frS K F A F' A') (h' : frS K F' A' F'' A'') : frS K F A F'' A'' := fun i h1 h2 => ⟨(h' i h1 h2).1.trans (h i h1 h2).1, (h' i h1 h2).2.trans (h i h1 h2).2⟩
theorem frS.c {K : Nat → Nat} {F A F' A' : gm_M} (h : frS K F A F' A') : frC K F A F' A' := fun i h1 h2 => h i h1 (Or.inr (Or.inr h2))
theorem fr.scr {K : Nat → Nat} {F A F' A' : gm_M} {i j : Nat} (hK : kinj K) (h : fr F A F' A' (K i) (K j)) (hi : 39 ≤ i ∧ i < 49) (hj : 39 ≤ j ∧ j < 49) : frS K F A F' A' := fun t h1 h2 => ⟨h.1 _ (kne hK (by omega) h1 (by omega)), h.2 _ (kne hK (by omega) h1 (by omega))⟩
theorem fr.c {K : Nat → Nat} {F A F' A' : gm_M} {i j : Nat} (hK : kinj K) (h : fr F A F' A' (K i) (K j)) (hi : i < 49) (hj : j < 49) : frC K F A F' A' := fun t h1 h2 => ⟨h.1 _ (kne hK (by omega) h1 (by omega)), h.2 _ (kne hK (by omega) h1 (by omega))⟩
theorem frD.scr {K : Nat → Nat} {F A F' A' : gm_M} (hK : kinj K) (h : frD K F A F' A') : frS K F A F' A' := fun t h1 h2 => ⟨h.1 _ (kne hK (by omega) h1 (by omega)) (kne hK (by omega) h1 (by omega)), h.2 _ (kne hK (by omega) h1 (by omega)) (kne hK (by omega) h1 (by omega)) (kne hK (by omega) h1 (by omega)) (kne hK (by omega) h1 (by omega))⟩
theorem CS.scr {K : Nat → Nat} {F A F' A' : gm_M} {v : Nat → Int} {n : Nat} {tx : Nat → Nat} (h : CS K F A v n tx) (f : frS K F A F' A') : CS K F' A' v n tx :=
  ⟨fun w hw => ⟨(h.1 w hw).1.congr (f _ (by omega) (by omega)).1 (f _ (by omega) (by omega)).2, (h.1 w hw).2⟩, h.2.congr (f 2 (by omega) (by omega)).1 (f 3 (by omega) (by omega)).2⟩
theorem CS.reg {K : Nat → Nat} {F A : gm_M} {v : Nat → Int} {n : Nat} {tx : Nat → Nat} (h : CS K F A v n tx) {w : Nat} (hw : w < 16) : ∃ u, u ≤ 67 ∧ wU F A (K (7 + 2 * w)) (K (8 + 2 * w)) 67 u (v w).natAbs ∧ F (K (7 + 2 * w)) 2 = sb (v w) := by
  obtain ⟨⟨⟨u, hu⟩, hb⟩, -⟩ := h.1 w hw
  exact ⟨u, hu.1, hu, hb⟩
theorem vp_lt {p : Int32} {n : Nat} (h : vp_in p n) : p.toNatClampNeg < n := Nat.not_le.mp fun q => h (Or.inr q)
theorem vp_eq {p : Int32} {n : Nat} (h : vp_in p n) (hn : n < 2 ^ 31) : p = nI p.toNatClampNeg := by
  obtain ⟨j, hj, rfl⟩ := vp_in_of h hn
  rw [nI_clamp (by omega)]
theorem pz_lt {x y : Int32} {A B : Prop} (a b : Int) (f : a < b → A) (g : b ≤ a → B) (hx : x.toInt = a := by rfl) (hy : y.toInt = b := by rfl) : (x < y → A) ∧ (¬ x < y → B) := by
  subst hx hy
  rw [Int32.lt_iff_toInt_lt]
  exact ⟨f, fun z => g (by omega)⟩
theorem pz_le {x y : Int32} {A B : Prop} (a b : Int) (f : a ≤ b → A) (g : b < a → B) (hx : x.toInt = a := by rfl) (hy : y.toInt = b := by rfl) : (x ≤ y → A) ∧ (¬ x ≤ y → B) := by
  subst hx hy
  rw [Int32.le_iff_toInt_le]
  exact ⟨f, fun z => g (by omega)⟩
def isB (p : Int32) : Prop := 2 ≤ p.toInt ∧ p.toInt ≤ 36
theorem isB_eq {p : Int32} (h : isB p) : p = nI p.toNatClampNeg ∧ 2 ≤ p.toNatClampNeg ∧ p.toNatClampNeg ≤ 36 := by
  have := h.1
  have h2 := h.2
  have e := vp_eq (p := p) (n := 37) (vp_in_iff.mpr ⟨by omega, by omega⟩) (by decide)
  have e2 := vp_lt (p := p) (n := 37) (vp_in_iff.mpr ⟨by omega, by omega⟩)
  have e3 := congrArg Int32.toInt e
  rw [nI_toInt (by omega)] at e3
  exact ⟨e, by omega, by omega⟩
section K1
variable {F A : gm_M} {K : Nat → Nat} {n : Nat} {tx : Nat → Nat} {v : Nat → Int} {p p1 p2 p3 p4 : Int32}
theorem s_K_isRegister {post : Int32 → Prop} (h1 : vp_in p 16 → post 1) (h0 : ¬ vp_in p 16 → post 0) : vc_K_isRegister p F A post := by
  unfold vc_K_isRegister
  rw [vp_in_iff] at h1 h0
  exact pz_lt p.toInt 0 (fun c => h0 (by omega)) (fun c => pz_le 16 p.toInt (fun d => h0 (by omega)) (fun d => h1 ⟨c, d⟩))
theorem s_K_isBase {post : Int32 → Prop} (h1 : isB p → post 1) (h0 : ¬ isB p → post 0) : vc_K_isBase p F A post := by
  unfold vc_K_isBase
  unfold isB at h1 h0
  exact pz_lt p.toInt 2 (fun c => h0 (by omega)) (fun c => pz_lt 36 p.toInt (fun d => h0 (by omega)) (fun d => h1 ⟨c, d⟩))
theorem s_K_needRegister {post : Prop} {pe : Nat → gm_M → gm_M → Prop} (h1 : vp_in p 16 → post) (h0 : ¬ vp_in p 16 → pe 1 F A) : vc_K_needRegister p F A post pe := by
  unfold vc_K_needRegister
  exact s_K_isRegister (fun c => ⟨fun _ => h1 c, fun z => absurd z (by decide)⟩) (fun c => ⟨fun z => absurd rfl z, fun _ => h0 c⟩)
theorem s_K_needRegisters {post : Prop} {pe : Nat → gm_M → gm_M → Prop} (h1 : vp_in p1 16 → vp_in p2 16 → vp_in p3 16 → post) (h0 : ¬ (vp_in p1 16 ∧ vp_in p2 16 ∧ vp_in p3 16) → pe 1 F A) : vc_K_needRegisters p1 p2 p3 F A post pe := by
  unfold vc_K_needRegisters
  exact s_K_needRegister (fun c1 => s_K_needRegister (fun c2 => s_K_needRegister (fun c3 => h1 c1 c2 c3) (fun c => h0 (fun z => c z.2.2))) (fun c => h0 (fun z => c z.2.1))) (fun c => h0 (fun z => c z.1))
theorem s_K_needKind {post : Prop} {pe : Nat → gm_M → gm_M → Prop} (h1 : vp_in p 3 → post) (h0 : ¬ vp_in p 3 → pe 1 F A) : vc_K_needKind p F A post pe := by
  unfold vc_K_needKind
  rw [vp_in_iff] at h1 h0
  exact pz_lt p.toInt 0 (fun c => h0 (by omega)) (fun c => pz_le p.toInt 2 (fun d => h1 (by omega)) (fun d => h0 (by omega)))
theorem s_K_needFit {a l m : Nat} {x : Int} (h : wM F A a l m x.natAbs) (hm : m < 60000000) {post : Prop} {pe : Nat → gm_M → gm_M → Prop} (h1 : fit x → post) (h0 : ¬ fit x → pe 3 F A) : vc_K_needFit a l m F A post pe := by
  obtain ⟨u, hu⟩ := h
  unfold vc_K_needFit
  refine s_W_countBits hu hm ?_
  have hb := hu.1
  have hle : bl x.natAbs ≤ 31 * u := bl_le_iff.mpr (by rw [← pow31]; exact hu.lt)
  refine pk_le (bl x.natAbs) 2048 (fun c => h1 (bl_le_iff.mp c)) (fun c => h0 (fun z => ?_))
  have : bl x.natAbs ≤ 2048 := bl_le_iff.mpr z
  omega
theorem fit_u {a l m u : Nat} {x : Int} (h : wU F A a l m u x.natAbs) (hx : fit x) : u ≤ 67 := by
  have := h.le hx
  have e : bN = 2048 := rfl
  omega
theorem vu_at (v : Nat → Int) (w : Nat) (x : Int) : vu v w x w = x := if_pos rfl
theorem vu_ne (v : Nat → Int) {w i : Nat} (x : Int) (h : i ≠ w) : vu v w x i = v i := if_neg h
theorem CS.put {F' A' : gm_M} {w : Nat} {x : Int} (hK : kinj K) (h : CS K F A v n tx) (f : fr F A F' A' (K (7 + 2 * w)) (K (8 + 2 * w))) (hw : w < 16) (hx : wR F' A' (K (7 + 2 * w)) (K (8 + 2 * w)) 67 x) (hf : fit x) : CS K F' A' (vu v w x) n tx := by
  refine ⟨fun i hi => ?_, h.2.congr (f.1 _ (kne hK (by omega) (by omega) (by omega))) (f.2 _ (kne hK (by omega) (by omega) (by omega)))⟩
  by_cases e : i = w
  · subst e
    rw [vu_at]; exact ⟨hx, hf⟩
  · rw [vu_ne _ _ e]
    exact ⟨(h.1 i hi).1.congr (f.1 _ (kne hK (by omega) (by omega) (by omega))) (f.2 _ (kne hK (by omega) (by omega) (by omega))), (h.1 i hi).2⟩
theorem s_K_keep {s : Nat} {x : Int} (hK : kinj K) (hs : 39 ≤ s ∧ s < 48) (h : CS K F A v n tx) (hx : wR F A (K s) (K (s + 1)) 135 x) (hp : vp_in p 16) {post : gm_M → gm_M → Prop} {pe : Nat → gm_M → gm_M → Prop} (h1 : fit x → ∀ F' A', fr F A F' A' (K (7 + 2 * p.toNatClampNeg)) (K (8 + 2 * p.toNatClampNeg)) → CS K F' A' (vu v p.toNatClampNeg x) n tx → post F' A') (h0 : ¬ fit x → pe 3 F A) : vc_K_keep K (K s) (K (s + 1)) 135 p F A post pe := by
  have hw := vp_lt hp
  unfold vc_K_keep
  refine s_K_needFit hx.1 (by decide) (fun c => ⟨hp, ?_⟩) h0
  obtain ⟨⟨u, hu⟩, hb⟩ := hx
  exact s_W_takeCopy (kne hK (by omega) (by omega) (by omega)) (kne hK (by omega) (by omega) (by omega)) hu hb (fit_u hu c) (by decide) (fun F' A' f1 f2 => h1 c F' A' f1 (h.put hK f1 hw f2 c))
theorem fit_long (q : Int64) : fit q.toInt := by
  have := lZ_rng q
  have h2 : q.toInt.natAbs < 2 ^ 64 := by omega
  exact Nat.lt_of_lt_of_le h2 (Nat.pow_le_pow_right (by decide) (by decide))
theorem s_K_set {q : Int64} (hK : kinj K) (h : CS K F A v n tx) {post : Int32 → gm_M → gm_M → Prop} {pe : Nat → gm_M → gm_M → Prop} (h1 : ¬ vp_in p 16 → pe 1 F A) (h0 : vp_in p 16 → ∀ F' A', frC K F A F' A' → CS K F' A' (vu v p.toNatClampNeg q.toInt) n tx → post (nI (bl (v p.toNatClampNeg).natAbs)) F' A') : vc_K_set K p q F A post pe := by
  unfold vc_K_set
  refine s_K_needRegister (fun c => ⟨c, ?_⟩) h1
  have hw := vp_lt c
  obtain ⟨u, hu1, hu, hb⟩ := h.reg hw
  refine s_W_countBits hu (by decide) ⟨c, ?_⟩
  exact s_W_takeLong (by decide) (by decide) (fun F' A' f1 f2 => h0 c F' A' (f1.c hK (by omega) (by omega)) (h.put hK f1 hw f2 (fit_long q)))
theorem frT.c {F' A' : gm_M} (hK : kinj K) (h : frT K F A F' A') : frC K F A F' A' := fun i h1 h2 => ⟨h.1 _ (kne hK (by omega) (by omega) (by omega)), h.2 _ (kne hK (by omega) (by omega) (by omega))⟩
theorem CS.line {F' A' : gm_M} {n' : Nat} {tx' : Nat → Nat} (hK : kinj K) (h : CS K F A v n tx) (f : frT K F A F' A') (hl : lS K F' A' n' tx') : CS K F' A' v n' tx' :=
  ⟨fun w hw => ⟨(h.1 w hw).1.congr (f.1 _ (kne hK (by omega) (by omega) (by omega))) (f.2 _ (kne hK (by omega) (by omega) (by omega))), (h.1 w hw).2⟩, hl⟩
theorem s_K_line {q : Int64} (hK : kinj K) (h : CS K F A v n tx) {post : Int32 → gm_M → gm_M → Prop} {pe : Nat → gm_M → gm_M → Prop} (h1 : (∀ c, ¬ goodL q c) → pe 1 F A) (h2 : ∀ c, goodL q c → 2100 < n + c → pe 2 F A) (h0 : ∀ c, goodL q c → n + c ≤ 2100 → ∀ F' A', frC K F A F' A' → CS K F' A' v (n + c) (fun k => if k < n then tx k else oc q (k - n)) → post (nI (n + c)) F' A') : vc_K_line K q F A post pe := by
  unfold vc_K_line
  have hn := h.2.1
  refine s_T_countIn (fun c hc => ?_) (fun c => ⟨fun z => absurd rfl z, fun _ => h1 c⟩)
  have c1 := hc.1
  have c2 := hc.2.1
  refine (pk_eq c 0 (fun z => by omega) (fun z => ?_)).symm
  rw [h.2.2.1, nI_add]
  refine pk_le (n + c) 2100 (fun d => ?_) (fun d => h2 c hc d)
  refine s_T_append h.2 rfl hc d (fun F' A' f1 f2 => ?_)
  rw [f2.2.1]
  exact h0 c hc d F' A' (f1.c hK) (h.line hK f1 f2)
theorem s_K_letter (h : CS K F A v n tx) {post : Int32 → Prop} {pe : Nat → gm_M → gm_M → Prop} (h2 : ¬ vp_in p n → pe 2 F A) (h0 : vp_in p n → post (nI (tx p.toNatClampNeg))) : vc_K_letter K p F A post pe := by
  unfold vc_K_letter
  have hn := h.2.1
  rw [h.2.2.1]
  refine pz_lt p.toInt 0 (fun c => h2 (fun z => by rw [vp_in_iff] at z; omega)) (fun c => pz_lt p.toInt n (fun d => ?_) (fun d => h2 (fun z => by rw [vp_in_iff] at z; omega)) rfl (nI_toInt (by omega)))
  have hin : vp_in p n := vp_in_iff.mpr ⟨c, d⟩
  have hlt := vp_lt hin
  refine ⟨vp_in_iff.mpr ⟨c, by omega⟩, ?_⟩
  rw [(h.2.2.2 _ hlt).1]
  exact h0 hin
theorem s_K_compare (h : CS K F A v n tx) {post : Int32 → Prop} {pe : Nat → gm_M → gm_M → Prop} (h1 : ¬ (vp_in p1 16 ∧ vp_in p2 16) → pe 1 F A) (h0 : vp_in p1 16 → vp_in p2 16 → post (iZ (cmpZ (v p1.toNatClampNeg) (v p2.toNatClampNeg)))) : vc_K_compare K p1 p2 F A post pe := by
  unfold vc_K_compare
  refine s_K_needRegister (fun c1 => s_K_needRegister (fun c2 => ⟨c1, c2, ?_⟩) (fun z => h1 (fun y => z y.2))) (fun z => h1 (fun y => z y.1))
  exact s_W_orderTo (h.1 _ (vp_lt c1)).1 (h.1 _ (vp_lt c2)).1 (by decide) (by decide) (h0 c1 c2)
def fitL (x : Int) : Prop := -9223372036854775808 ≤ x ∧ x < 9223372036854775808
theorem s_K_small (h : CS K F A v n tx) {post : Int64 → Prop} {pe : Nat → gm_M → gm_M → Prop} (h1 : ¬ vp_in p 16 → pe 1 F A) (h2 : vp_in p 16 → ¬ fitL (v p.toNatClampNeg) → pe 3 F A) (h0 : vp_in p 16 → fitL (v p.toNatClampNeg) → post (lZ (v p.toNatClampNeg))) : vc_K_small K p F A post pe := by
  unfold vc_K_small
  refine s_K_needRegister (fun c => ⟨c, ?_⟩) h1
  refine s_W_fitsLong (h.1 _ (vp_lt c)).1 (by decide) ?_
  by_cases d : fitL (v p.toNatClampNeg)
  · have : (if -9223372036854775808 ≤ v p.toNatClampNeg ∧ v p.toNatClampNeg < 9223372036854775808 then (1 : Int32) else 0) = 1 := if_pos d
    rw [this]
    exact ⟨fun _ => ⟨c, s_W_lowestBits (h.1 _ (vp_lt c)).1 (by decide) (h0 c d)⟩, fun z => absurd z (by decide)⟩
  · have : (if -9223372036854775808 ≤ v p.toNatClampNeg ∧ v p.toNatClampNeg < 9223372036854775808 then (1 : Int32) else 0) = 0 := if_neg d
    rw [this]
    exact ⟨fun z => absurd rfl z, fun _ => h2 c d⟩
theorem s_K_low (h : CS K F A v n tx) {post : Int64 → Prop} {pe : Nat → gm_M → gm_M → Prop} (h1 : ¬ vp_in p 16 → pe 1 F A) (h0 : vp_in p 16 → post (lZ (v p.toNatClampNeg))) : vc_K_low K p F A post pe := by
  unfold vc_K_low
  exact s_K_needRegister (fun c => ⟨c, s_W_lowestBits (h.1 _ (vp_lt c)).1 (by decide) (h0 c)⟩) h1
def fold (x : Int) : Int := if x < 0 then -((x.natAbs % 2305843009213693951 : Nat) : Int) else ((x.natAbs % 2305843009213693951 : Nat) : Int)
theorem s_K_folded (h : CS K F A v n tx) {post : Int64 → Prop} {pe : Nat → gm_M → gm_M → Prop} (h1 : ¬ vp_in p 16 → pe 1 F A) (h0 : vp_in p 16 → post (lZ (fold (v p.toNatClampNeg)))) : vc_K_folded K p F A post pe := by
  unfold vc_K_folded
  exact s_K_needRegister (fun c => ⟨c, s_W_foldedBits (h.1 _ (vp_lt c)).1 (by decide) (h0 c)⟩) h1
theorem s_K_size (h : CS K F A v n tx) {post : Int32 → Prop} {pe : Nat → gm_M → gm_M → Prop} (h1 : ¬ vp_in p 16 → pe 1 F A) (h0 : vp_in p 16 → post (nI (bl (v p.toNatClampNeg).natAbs))) : vc_K_size K p F A post pe := by
  unfold vc_K_size
  refine s_K_needRegister (fun c => ⟨c, ?_⟩) h1
  obtain ⟨u, hu1, hu, hb⟩ := h.reg (vp_lt c)
  exact s_W_countBits hu (by decide) (h0 c)
end K1
