/-! the desk and the reference hold the same numbers and the same line -/
def iv (K : Nat → Nat) (F A : gm_M) (_ : lm_M) : Prop := ∃ v n tx, CS K F A v n tx ∧ MS K F A v n tx
section GLUE
variable {K : Nat → Nat}
theorem iv_mk {F A F' A' : gm_M} {L : lm_M} {v : Nat → Int} {n : Nat} {tx : Nat → Nat} (hc : CS K F A v n tx) (r : frR K F A F' A') (m : MS K F' A' v n tx) : iv K F' A' L := ⟨v, n, tx, hc.r r, m⟩
theorem iv_0 : iv K zz zz lz := by
  refine ⟨fun _ => 0, 0, fun _ => 0, ⟨fun w hw => ⟨⟨⟨0, Nat.zero_le _, rfl, fun k hk => absurd hk (Nat.not_lt_zero _), fun t ht => by omega, rfl⟩, rfl⟩, Nat.two_pow_pos _⟩, Nat.zero_le _, rfl, fun k hk => absurd hk (Nat.not_lt_zero _)⟩, ⟨fun w hw => ⟨0, Nat.zero_le _, rfl, fun k hk => absurd hk (Nat.not_lt_zero _), fun t ht => by omega, rfl, rfl, Nat.two_pow_pos _⟩, Nat.zero_le _, rfl, fun k hk => absurd hk (Nat.not_lt_zero _)⟩⟩
theorem lm_at (L : lm_M) (a s : Nat) (x : Int64) : lm_up L a s x a s = x := by
  unfold lm_up
  rw [if_pos rfl]
  exact pk_uLs
theorem g_set (hK : kinj K) : lc_set K (iv K) := by
  rintro p1 p2 F A L ⟨v, n, tx, hc, hm⟩
  unfold vc_L_set
  refine s_K_set hK hc (fun c => ⟨rfl, ?_⟩) (fun c F1 A1 f c1 => ?_)
  · exact s_M_set hK hm (fun _ r F2 A2 e r2 m2 => ⟨e, fun z => absurd z (by decide), iv_mk hc r2 m2⟩) (fun d => absurd d c)
  · rintro _ rfl
    exact s_M_set hK (hm.c f) (fun d => absurd c d) (fun _ F2 A2 e r2 m2 => ⟨e, fun _ => lm_at _ _ _ _, iv_mk c1 r2 m2⟩)
theorem g_line (hK : kinj K) : lc_line K (iv K) := by
  rintro p1 F A L ⟨v, n, tx, hc, hm⟩
  unfold vc_L_line
  refine s_K_line hK hc (fun c => Or.inl ⟨rfl, ?_⟩) (fun c g lt => Or.inr ⟨rfl, ?_⟩) (fun c g le F1 A1 f c1 => ?_)
  · exact s_M_line hK hm (fun _ r F2 A2 e r2 m2 => ⟨e, fun z => absurd z (by decide), iv_mk hc r2 m2⟩) (fun d gd => absurd gd (c d)) (fun d gd => absurd gd (c d))
  · exact s_M_line hK hm (fun d => absurd g (d c)) (fun _ _ _ r F2 A2 e r2 m2 => ⟨e, fun z => absurd z (by decide), iv_mk hc r2 m2⟩) (fun d gd led => absurd led (by rw [goodL_uniq gd g]; omega))
  · rintro _ rfl
    refine s_M_line hK (hm.c f) (fun d => absurd g (d c)) (fun d gd ltd => absurd ltd (by rw [goodL_uniq gd g]; omega)) (fun d gd _ F2 A2 e r2 m2 => ?_)
    have := goodL_uniq gd g
    subst this
    exact ⟨e, fun _ => lm_at _ _ _ _, iv_mk c1 r2 m2⟩
theorem g_read (hK : kinj K) : lc_read K (iv K) := by
  rintro p1 p2 F A L ⟨v, n, tx, hc, hm⟩
  unfold vc_L_read
  refine s_K_read hK hc (fun c F1 A1 f c1 => Or.inl ⟨rfl, ?_⟩) (fun c d F1 A1 f c1 => Or.inr ⟨rfl, ?_⟩) (fun c d F1 A1 f c1 => ?_)
  · exact s_M_read hK (hm.c f) (fun _ r F2 A2 e r2 m2 => ⟨e, fun z => absurd z (by decide), iv_mk c1 r2 m2⟩) (fun d => absurd d c) (fun d => absurd d c)
  · exact s_M_read hK (hm.c f) (fun z => absurd c z) (fun _ _ r F2 A2 e r2 m2 => ⟨e, fun z => absurd z (by decide), iv_mk c1 r2 m2⟩) (fun _ z => absurd z d)
  · rintro _ rfl
    exact s_M_read hK (hm.c f) (fun z => absurd c z) (fun _ z => absurd d z) (fun _ _ F2 A2 e r2 m2 => ⟨e, fun _ => lm_at _ _ _ _, iv_mk c1 r2 m2⟩)
theorem g_show (hK : kinj K) : lc_show K (iv K) := by
  rintro p1 p2 F A L ⟨v, n, tx, hc, hm⟩
  unfold vc_L_show
  refine s_K_show hK hc (fun c => ⟨rfl, ?_⟩) (fun c d l F1 A1 hl f c1 => ?_)
  · exact s_M_show hK hm (fun _ r F2 A2 e r2 m2 => ⟨e, fun z => absurd z (by decide), iv_mk hc r2 m2⟩) (fun d1 d2 => absurd ⟨d1, d2⟩ c)
  · rintro _ rfl
    refine s_M_show hK (hm.c f) (fun z => absurd ⟨c, d⟩ z) (fun _ _ l2 F2 A2 hl2 e r2 m2 => ?_)
    have := ndP_uniq (by have := (isB_eq d).2.1; omega) hl2 hl
    subst this
    exact ⟨e, fun _ => lm_at _ _ _ _, iv_mk c1 r2 m2⟩
theorem g_letter (hK : kinj K) : lc_letter K (iv K) := by
  rintro p1 F A L ⟨v, n, tx, hc, hm⟩
  unfold vc_L_letter
  refine s_K_letter hc (fun c => ⟨rfl, ?_⟩) (fun c => ?_)
  · exact s_M_letter hK hm (fun _ r F2 e r2 m2 => ⟨e, fun z => absurd z (by decide), iv_mk hc r2 m2⟩) (fun d => absurd d c)
  · rintro _ rfl
    exact s_M_letter hK hm (fun d => absurd c d) (fun _ F2 e r2 m2 => ⟨e, fun _ => lm_at _ _ _ _, iv_mk hc r2 m2⟩)
theorem g_work (hK : kinj K) : lc_work K (iv K) := by
  rintro p1 p2 p3 p4 F A L ⟨v, n, tx, hc, hm⟩
  unfold vc_L_work
  refine s_K_work hK hc (fun c => Or.inl ⟨rfl, ?_⟩) (fun c d F1 A1 f c1 => Or.inr ⟨rfl, ?_⟩) (fun c d F1 A1 f c1 => ?_)
  · exact s_M_work hK hm (fun _ r F2 A2 e r2 m2 => ⟨e, fun z => absurd z (by decide), iv_mk hc r2 m2⟩) (fun d => absurd d c) (fun d => absurd d c)
  · exact s_M_work hK (hm.c f) (fun z => absurd c z) (fun _ _ r F2 A2 e r2 m2 => ⟨e, fun z => absurd z (by decide), iv_mk c1 r2 m2⟩) (fun _ z => absurd z d)
  · rintro _ rfl
    exact s_M_work hK (hm.c f) (fun z => absurd c z) (fun _ z => absurd d z) (fun _ _ F2 A2 e r2 m2 => ⟨e, fun _ => lm_at _ _ _ _, iv_mk c1 r2 m2⟩)
theorem g_divide (hK : kinj K) : lc_divide K (iv K) := by
  rintro p1 p2 p3 p4 p5 F A L - ⟨v, n, tx, hc, hm⟩
  unfold vc_L_divide
  refine s_K_divide hK hc (fun c => Or.inl ⟨rfl, ?_⟩) (fun c d => Or.inr ⟨rfl, ?_⟩) (fun c d F1 A1 f c1 => ?_)
  · exact s_M_divide hK hm (fun _ r F2 A2 e r2 m2 => ⟨e, fun z => absurd z (by decide), iv_mk hc r2 m2⟩) (fun d => absurd d c) (fun d => absurd d c)
  · exact s_M_divide hK hm (fun z => absurd c z) (fun _ _ r F2 A2 e r2 m2 => ⟨e, fun z => absurd z (by decide), iv_mk hc r2 m2⟩) (fun _ z => absurd d z)
  · rintro _ rfl
    exact s_M_divide hK (hm.c f) (fun z => absurd c z) (fun _ z => absurd z d) (fun _ _ F2 A2 e r2 m2 => ⟨e, fun _ => lm_at _ _ _ _, iv_mk c1 r2 m2⟩)
theorem g_shift (hK : kinj K) : lc_shift K (iv K) := by
  rintro p1 p2 p3 F A L ⟨v, n, tx, hc, hm⟩
  unfold vc_L_shift
  refine s_K_shift hK hc (fun c => Or.inl ⟨rfl, ?_⟩) (fun c d F1 A1 f c1 => Or.inr ⟨rfl, ?_⟩) (fun c d F1 A1 f c1 => ?_)
  · exact s_M_shift hK hm (fun _ r F2 A2 e r2 m2 => ⟨e, fun z => absurd z (by decide), iv_mk hc r2 m2⟩) (fun d => absurd d c) (fun d => absurd d c)
  · exact s_M_shift hK (hm.c f) (fun z => absurd c z) (fun _ _ r F2 A2 e r2 m2 => ⟨e, fun z => absurd z (by decide), iv_mk c1 r2 m2⟩) (fun _ z => absurd z d)
  · rintro _ rfl
    exact s_M_shift hK (hm.c f) (fun z => absurd c z) (fun _ z => absurd d z) (fun _ _ F2 A2 e r2 m2 => ⟨e, fun _ => lm_at _ _ _ _, iv_mk c1 r2 m2⟩)
theorem g_bits (hK : kinj K) : lc_bits K (iv K) := by
  rintro p1 p2 p3 p4 F A L ⟨v, n, tx, hc, hm⟩
  unfold vc_L_bits
  refine s_K_bits hK hc (fun c => Or.inl ⟨rfl, ?_⟩) (fun c d F1 A1 f c1 => Or.inr ⟨rfl, ?_⟩) (fun c d F1 A1 f c1 => ?_)
  · exact s_M_bits2 hK hm (fun _ r F2 A2 e r2 m2 => ⟨e, fun z => absurd z (by decide), iv_mk hc r2 m2⟩) (fun d => absurd d c) (fun d => absurd d c)
  · exact s_M_bits2 hK (hm.c f) (fun z => absurd c z) (fun _ _ r F2 A2 e r2 m2 => ⟨e, fun z => absurd z (by decide), iv_mk c1 r2 m2⟩) (fun _ z => absurd z d)
  · rintro _ rfl
    exact s_M_bits2 hK (hm.c f) (fun z => absurd c z) (fun _ z => absurd d z) (fun _ _ F2 A2 e r2 m2 => ⟨e, fun _ => lm_at _ _ _ _, iv_mk c1 r2 m2⟩)
theorem g_power (hK : kinj K) : lc_power K (iv K) := by
  rintro p1 p2 p3 F A L ⟨v, n, tx, hc, hm⟩
  unfold vc_L_power
  refine s_K_power hK hc (fun c => Or.inl ⟨rfl, ?_⟩) (fun c d F1 A1 f c1 => Or.inr ⟨rfl, ?_⟩) (fun c d F1 A1 f c1 => ?_)
  · exact s_M_power hK hm (fun _ r F2 A2 e r2 m2 => ⟨e, fun z => absurd z (by decide), iv_mk hc r2 m2⟩) (fun d => absurd d c) (fun d => absurd d c)
  · exact s_M_power hK (hm.c f) (fun z => absurd c z) (fun _ _ r F2 A2 e r2 m2 => ⟨e, fun z => absurd z (by decide), iv_mk c1 r2 m2⟩) (fun _ z => absurd z d)
  · rintro _ rfl
    exact s_M_power hK (hm.c f) (fun z => absurd c z) (fun _ z => absurd d z) (fun _ _ F2 A2 e r2 m2 => ⟨e, fun _ => lm_at _ _ _ _, iv_mk c1 r2 m2⟩)
theorem g_residue (hK : kinj K) : lc_residue K (iv K) := by
  rintro p1 p2 p3 p4 F A L ⟨v, n, tx, hc, hm⟩
  unfold vc_L_residue
  refine s_K_residue hK hc (fun c => Or.inl ⟨rfl, ?_⟩) (fun c d => Or.inr ⟨rfl, ?_⟩) (fun c d F1 A1 f c1 => ?_)
  · exact s_M_residue hK hm (fun _ r F2 A2 e r2 m2 => ⟨e, fun z => absurd z (by decide), iv_mk hc r2 m2⟩) (fun d => absurd d c) (fun d => absurd d c)
  · exact s_M_residue hK hm (fun z => absurd c z) (fun _ _ r F2 A2 e r2 m2 => ⟨e, fun z => absurd z (by decide), iv_mk hc r2 m2⟩) (fun _ z => absurd d z)
  · rintro _ rfl
    exact s_M_residue hK (hm.c f) (fun z => absurd c z) (fun _ z => absurd z d) (fun _ _ F2 A2 e r2 m2 => ⟨e, fun _ => lm_at _ _ _ _, iv_mk c1 r2 m2⟩)
theorem g_compare (hK : kinj K) : lc_compare K (iv K) := by
  rintro p1 p2 F A L ⟨v, n, tx, hc, hm⟩
  unfold vc_L_compare
  refine s_K_compare hc (fun c => ⟨rfl, ?_⟩) (fun c d => ?_)
  · exact s_M_compare hK hm (fun _ r F2 A2 e r2 m2 => ⟨e, fun z => absurd z (by decide), iv_mk hc r2 m2⟩) (fun d1 d2 => absurd ⟨d1, d2⟩ c)
  · rintro _ rfl
    exact s_M_compare hK hm (fun z => absurd ⟨c, d⟩ z) (fun _ _ F2 A2 e r2 m2 => ⟨e, fun _ => lm_at _ _ _ _, iv_mk hc r2 m2⟩)
theorem g_small (hK : kinj K) : lc_small K (iv K) := by
  rintro p1 F A L ⟨v, n, tx, hc, hm⟩
  unfold vc_L_small
  refine s_K_small hc (fun c => Or.inl ⟨rfl, ?_⟩) (fun c d => Or.inr ⟨rfl, ?_⟩) (fun c d => ?_)
  · exact s_M_small hK hm (fun _ r F2 A2 e r2 m2 => ⟨e, fun z => absurd z (by decide), iv_mk hc r2 m2⟩) (fun d => absurd d c) (fun d => absurd d c)
  · exact s_M_small hK hm (fun z => absurd c z) (fun _ _ r F2 A2 e r2 m2 => ⟨e, fun z => absurd z (by decide), iv_mk hc r2 m2⟩) (fun _ z => absurd z d)
  · rintro _ rfl
    exact s_M_small hK hm (fun z => absurd c z) (fun _ z => absurd d z) (fun _ _ F2 A2 e r2 m2 => ⟨e, fun _ => lm_at _ _ _ _, iv_mk hc r2 m2⟩)
theorem g_low (hK : kinj K) : lc_low K (iv K) := by
  rintro p1 F A L ⟨v, n, tx, hc, hm⟩
  unfold vc_L_low
  refine s_K_low hc (fun c => ⟨rfl, ?_⟩) (fun c => ?_)
  · exact s_M_low hK hm (fun _ r F2 A2 e r2 m2 => ⟨e, fun z => absurd z (by decide), iv_mk hc r2 m2⟩) (fun d => absurd d c)
  · rintro _ rfl
    exact s_M_low hK hm (fun z => absurd c z) (fun _ F2 A2 e r2 m2 => ⟨e, fun _ => lm_at _ _ _ _, iv_mk hc r2 m2⟩)
theorem g_folded (hK : kinj K) : lc_folded K (iv K) := by
  rintro p1 F A L ⟨v, n, tx, hc, hm⟩
  unfold vc_L_folded
  refine s_K_folded hc (fun c => ⟨rfl, ?_⟩) (fun c => ?_)
  · exact s_M_folded hK hm (fun _ r F2 A2 e r2 m2 => ⟨e, fun z => absurd z (by decide), iv_mk hc r2 m2⟩) (fun d => absurd d c)
  · rintro _ rfl
    exact s_M_folded hK hm (fun z => absurd c z) (fun _ F2 A2 e r2 m2 => ⟨e, fun _ => lm_at _ _ _ _, iv_mk hc r2 m2⟩)
theorem g_size (hK : kinj K) : lc_size K (iv K) := by
  rintro p1 F A L ⟨v, n, tx, hc, hm⟩
  unfold vc_L_size
  refine s_K_size hc (fun c => ⟨rfl, ?_⟩) (fun c => ?_)
  · exact s_M_size hK hm (fun _ r F2 A2 e r2 m2 => ⟨e, fun z => absurd z (by decide), iv_mk hc r2 m2⟩) (fun d => absurd d c)
  · rintro _ rfl
    exact s_M_size hK hm (fun z => absurd c z) (fun _ F2 A2 e r2 m2 => ⟨e, fun _ => lm_at _ _ _ _, iv_mk hc r2 m2⟩)
end GLUE
theorem g_pure : lw_pure := fun K hK => ⟨iv K, iv_0, g_set hK, g_line hK, g_read hK, g_show hK, g_letter hK, g_work hK, g_divide hK, g_shift hK, g_bits hK, g_power hK, g_residue hK, g_compare hK, g_small hK, g_low hK, g_folded hK, g_size hK⟩
