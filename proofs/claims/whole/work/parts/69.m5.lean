section M5
variable {F A : gm_M} {K : Nat → Nat} {a1 n1 u1 v1 a3 n3 u3 v3 a5 n5 : Nat} {p2 p4 : Int32}
theorem cmp_ge {a b : Nat} : 0 ≤ iZ (cmpN a b) ↔ b ≤ a := by
  have h : -1 ≤ cmpN a b ∧ cmpN a b ≤ 1 ∧ (0 ≤ cmpN a b ↔ b ≤ a) := by
    unfold cmpN; split
    · omega
    · split <;> omega
  rw [← h.2.2]
  exact iZ_le (a := 0) (by omega) (by omega) (by omega) (by omega)
set_option maxHeartbeats 4000000 in
theorem s_M_divided (h13 : a1 ≠ a3) (h15 : a1 ≠ a5) (h35 : a3 ≠ a5) (h16 : K 60 ≠ a1) (h36 : K 60 ≠ a3) (h56 : K 60 ≠ a5) (hp2 : p2 = nI u1) (hp4 : p4 = nI u3) (h1 : aU A a1 u1 v1) (h3 : aU A a3 u3 v3) (hv3 : v3 ≠ 0) (g1 : u1 < n1) (g3 : u3 ≤ n3) (g5 : u1 ≤ n5) (hn1 : n1 ≤ 9000) (hn3 : n3 ≤ 9000) (hn5 : n5 ≤ 9000) {post : Int32 → gm_M → gm_M → Prop} (hr : ∀ A' ur uq, (∀ b, b ≠ a1 → b ≠ a5 → b ≠ K 60 → A' b = A b) → aU A' a1 ur (v1 % v3) → aU A' a5 uq (v1 / v3) → ur ≤ u3 → uq ≤ u1 → post (nI ur) (gm_up F (K 49) 12 (nI uq)) A') : vc_M_divided K a1 n1 p2 a3 n3 p4 a5 n5 F A post := by
  subst hp2 hp4
  unfold vc_M_divided
  refine s_M_compared rfl rfl h1 h3 (by omega) g3 hn1 hn3 ?_
  rw [cmp_ge]
  refine ⟨fun hle => ?_, fun hlt => ?_⟩
  · have hu : u3 ≤ u1 := by
      rcases Nat.lt_or_ge u1 u3 with c | c
      · have := h3.ltu h1 c; omega
      · exact c
    have hu30 : u3 ≠ 0 := fun z => hv3 (h3.pos.mp z)
    refine (pk_eq u3 1 (fun e => ?_) (fun e => ?_)).symm
    · -- one digit
      subst e
      rintro _ rfl
      have r3 := h3.1 0 (by omega)
      have hd0 : dg A a3 0 ≠ 0 := h3.2.1 0 rfl
      have ev3 : v3 = dg A a3 0 := by
        rw [← h3.2.2]; simp only [ev, Nat.pow_zero, Nat.mul_one, Nat.zero_add]
      rw [← ev3] at r3 hd0
      refine md_short h13 h15 h35 h1.v r3.1 (by omega) r3.2 (by omega) (by omega) g5 hn1 hn3 hn5 (fun A' f1 hq => ?_) rfl
      have hml := Nat.mod_lt v1 (show 0 < v3 by omega)
      refine s_M_trim (m := u1) rfl g5 hn5 hq (fun uq huq hau => ?_)
      rintro _ rfl
      refine ⟨pk_in 0 n1 (by omega), ?_⟩
      rw [lN_i, show (0 : Int32).toNatClampNeg = 0 from rfl]
      have hr3 := r3.2
      rintro _ rfl
      refine s_M_trim (m := 1) (v := v1 % v3) rfl (by omega) hn1 ⟨dk_up (i := 0) (fun k hk => absurd hk (Nat.not_lt_zero _)) (by omega) (by decide), ?_⟩ (fun ur hur hur2 => ?_)
      · rw [ev_at (by omega)]; simp only [ev, Nat.pow_zero, Nat.mul_one, Nat.zero_add]
      · exact hr _ ur uq (fun b b1 b5 _ => by rw [gm_off b1, f1 b b1 b5]) hur2 (hau.cong (gm_off h15.symm)) (by omega) (by omega)
    · -- more digits
      obtain ⟨s3, hs3⟩ : ∃ s3, u3 = s3 + 1 := ⟨u3 - 1, by omega⟩
      have rd := h3.1 s3 (by omega)
      have hd0 := h3.2.1 s3 hs3
      have em1 : (nI u3 - (1 : Int32)).toNatClampNeg = s3 := by rw [nI_m1 (by omega), nI_clamp (by omega)]; omega
      refine ⟨pk_in (u3 - 1) n3 (by omega) (nI_m1 (by omega)), ?_⟩
      intro x7 hx7
      refine md_norm (Nat.pos_of_ne_zero hd0) rd.2 (fun s hs16 hsl hsu => ?_) (by rw [hx7, em1]; exact rd.1)
      rintro _ rfl
      refine md_shl (s := a3) (t := K 60) (c := u3) hs16 h3.v g3 (by omega) hn3 (by decide) (fun A5 f1 f2 f3 => ?_) rfl
      refine ⟨pk_in u1 n1 g1, ?_⟩
      rw [nI_clamp (n := u1) (by omega)]
      rintro _ rfl
      have hA5 : aV A5 a1 u1 v1 := h1.v.congr (fun k _ => by rw [f1 a1 h16.symm])
      have hA6 : aV (gm_up A5 a1 u1 0) a1 (u1 + 1) v1 := ⟨dk_up (v := 0) hA5.1 (by decide) (by decide), by
        have := ev_at (B := 65536) (A := A5) (l := a1) (i := u1) (v := 0) (by decide)
        rw [Nat.zero_mul, Nat.add_zero, hA5.2] at this
        exact this⟩
      refine md_shl (s := a1) (t := a1) (c := u1 + 1) hs16 hA6 (by omega) (by omega) hn1 hn1 (fun A7 k1 k2 k3 => ?_) (dn_succ u1).symm
      -- the divisor
      have e67 : A7 (K 60) = A5 (K 60) := by rw [k1 _ h16, gm_off h16]
      have hpp : ∀ j, 0 < 65536 ^ j := fun j => Nat.pow_pos (by decide)
      have hevs := h3.2.2
      rw [hs3] at hevs
      have hevs : ev 65536 (dg A a3) s3 + dg A a3 s3 * 65536 ^ s3 = v3 := hevs
      have hlow3 : ev 65536 (dg A a3) s3 < 65536 ^ s3 := ev_lt (fun k hk => (h3.1 k (by omega)).2)
      have h2s : 2 ^ (16 - s) * 2 ^ s = 65536 := by rw [← Nat.pow_add, show 16 - s + s = 16 by omega]
      have hd1 : (dg A a3 s3 + 1) * 2 ^ s ≤ 65536 := by
        have : dg A a3 s3 * 2 ^ s < 2 ^ (16 - s) * 2 ^ s := by rw [h2s]; exact hsu
        have := Nat.lt_of_mul_lt_mul_right this
        rw [← h2s]
        exact Nat.mul_le_mul_right _ this
      have hVlt : v3 * 2 ^ s < 65536 ^ u3 := by
        have a1 : v3 < (dg A a3 s3 + 1) * 65536 ^ s3 := by rw [Nat.add_mul, Nat.one_mul]; omega
        have a2 : v3 * 2 ^ s < (dg A a3 s3 + 1) * 65536 ^ s3 * 2 ^ s := Nat.mul_lt_mul_of_pos_right a1 (Nat.two_pow_pos s)
        have a3 : (dg A a3 s3 + 1) * 65536 ^ s3 * 2 ^ s = (dg A a3 s3 + 1) * 2 ^ s * 65536 ^ s3 := by grind
        have a4 := Nat.mul_le_mul_right (65536 ^ s3) hd1
        rw [hs3, Nat.pow_succ, Nat.mul_comm (65536 ^ s3)]
        omega
      have hVge : 32768 * 65536 ^ s3 ≤ v3 * 2 ^ s := by
        have a1 : dg A a3 s3 * 65536 ^ s3 ≤ v3 := by omega
        have a2 := Nat.mul_le_mul_right (2 ^ s) a1
        have a3 : dg A a3 s3 * 65536 ^ s3 * 2 ^ s = dg A a3 s3 * 2 ^ s * 65536 ^ s3 := by grind
        have a4 := Nat.mul_le_mul_right (65536 ^ s3) hsl
        omega
      have hd7 : ∀ j, j < u3 → dg A7 (K 60) j = v3 * 2 ^ s / 65536 ^ j % 65536 := fun j hj => dg_of (by rw [e67]; exact f3 j hj) (Nat.lt_trans (Nat.mod_lt _ (by decide)) (by decide))
      have hv7 : ve A7 (K 60) 0 u3 := fun k hk => by
        rw [Nat.zero_add, hd7 k hk]
        exact ⟨by rw [e67]; exact f3 k hk, Nat.mod_lt _ (by decide)⟩
      have hw7 : we A7 (K 60) 0 u3 = v3 * 2 ^ s := by
        unfold we
        rw [ev_congr (e := fun i => v3 * 2 ^ s / 65536 ^ i % 65536) (fun j hj => by rw [Nat.zero_add]; exact hd7 j hj), ev_all, Nat.mod_eq_of_lt hVlt]
      have hV0 : 0 < v3 * 2 ^ s := Nat.mul_pos (by omega) (Nat.two_pow_pos _)
      have hnm7 : 65536 ≤ 2 * dg A7 (K 60) (u3 - 1) := by
        rw [show u3 - 1 = s3 by omega, hd7 s3 (by omega)]
        have q1 : 32768 ≤ v3 * 2 ^ s / 65536 ^ s3 := (Nat.le_div_iff_mul_le (hpp s3)).mpr hVge
        have q2 : v3 * 2 ^ s / 65536 ^ s3 < 65536 := Nat.div_lt_of_lt_mul (by have := hVlt; rw [hs3, Nat.pow_succ] at this; exact this)
        rw [Nat.mod_eq_of_lt q2]
        generalize v3 * 2 ^ s / 65536 ^ s3 = q at *
        omega
      -- the dividend
      have h2s1 : 2 ^ s ≤ 32768 := Nat.pow_le_pow_right (n := 2) (by decide) (show s ≤ 15 by omega)
      have hDlt : v1 * 2 ^ s < 65536 ^ (u1 + 1) := by
        have a1 := h1.lt
        have a2 : v1 * 2 ^ s < 65536 ^ u1 * 2 ^ s := Nat.mul_lt_mul_of_pos_right a1 (Nat.two_pow_pos s)
        have a3 : 65536 ^ u1 * 2 ^ s ≤ 65536 ^ u1 * 65536 := Nat.mul_le_mul_left _ (by omega)
        rw [Nat.pow_succ]
        omega
      have hd17 : ∀ j, j < u1 + 1 → dg A7 a1 j = v1 * 2 ^ s / 65536 ^ j % 65536 := fun j hj => dg_of (k3 j hj) (Nat.lt_trans (Nat.mod_lt _ (by decide)) (by decide))
      have hv5 : ve A7 a1 0 (u1 + 1) := fun k hk => by
        rw [Nat.zero_add, hd17 k hk]
        exact ⟨k3 k hk, Nat.mod_lt _ (by decide)⟩
      have hw5 : we A7 a1 0 (u1 + 1) = v1 * 2 ^ s := by
        unfold we
        rw [ev_congr (e := fun i => v1 * 2 ^ s / 65536 ^ i % 65536) (fun j hj => by rw [Nat.zero_add]; exact hd17 j hj), ev_all, Nat.mod_eq_of_lt hDlt]
      generalize hVe : v3 * 2 ^ s = V at *
      have hD0 : v1 * 2 ^ s < V * 65536 ^ (u1 - u3 + 1) := by
        have a1 := h1.lt
        have a2 : v1 * 2 ^ s < 65536 ^ u1 * 2 ^ s := Nat.mul_lt_mul_of_pos_right a1 (Nat.two_pow_pos s)
        have a3 : 65536 ^ u1 * 2 ^ s ≤ 65536 ^ u1 * 32768 := Nat.mul_le_mul_left _ h2s1
        have a4 : 65536 ^ u1 * 32768 = 32768 * 65536 ^ s3 * 65536 ^ (u1 - u3 + 1) := by
          rw [Nat.mul_assoc, ← Nat.pow_add, Nat.mul_comm, show s3 + (u1 - u3 + 1) = u1 by omega]
        have a5 := Nat.mul_le_mul_right (65536 ^ (u1 - u3 + 1)) hVge
        omega
      rintro _ rfl
      generalize hst : u1 - u3 + 1 = steps at *
      have hsx : nI u1 - nI u3 = dn steps := by rw [← hst, dn_succ, pk_sub hu]
      refine ⟨fun y A10 => ∃ z, y = dn z ∧ z ≤ steps ∧ (∀ b, b ≠ a1 → b ≠ a5 → A10 b = A7 b) ∧ ve A10 a1 0 (u1 + 1) ∧ (∀ k, z + u3 ≤ k → k < u1 + 1 → dg A10 a1 k = 0) ∧ (∀ k, z ≤ k → k < steps → A10 a5 k = nI (dg A10 a5 k) ∧ dg A10 a5 k < 65536) ∧ we A10 a1 0 (z + u3) < V * 65536 ^ z ∧ v1 * 2 ^ s = we A10 a5 z (steps - z) * 65536 ^ z * V + we A10 a1 0 (z + u3), fun y _ => (y.toInt + 1).toNat, ⟨steps, hsx, Nat.le_refl _, fun _ _ _ => rfl, hv5, fun k a b => by omega, fun k a b => by omega, ?_, ?_⟩, ?_⟩
      · rw [show steps + u3 = u1 + 1 by omega, hw5]; exact hD0
      · rw [show steps + u3 = u1 + 1 by omega, hw5, Nat.sub_self, show we A7 a5 steps 0 = 0 from rfl, Nat.zero_mul, Nat.zero_mul, Nat.zero_add]
      rintro _ A10 ⟨z, rfl, hz, i1, i2, i3, i4, i5, i6⟩
      refine dn_br z (by omega) (fun e => ?_) (fun t e => ?_)
      · subst e
        rw [Nat.pow_zero, Nat.mul_one, Nat.zero_add] at i5
        rw [Nat.pow_zero, Nat.mul_one, Nat.zero_add, Nat.sub_zero] at i6
        have hQ : we A10 a5 0 steps = ev 65536 (dg A10 a5) steps := ev_congr (fun k _ => by rw [Nat.zero_add])
        have hR1 : we A10 a1 0 (u3 + 1) = we A10 a1 0 u3 := by
          rw [we_s, Nat.zero_add, i3 u3 (by omega) (by omega), Nat.zero_mul, Nat.add_zero]
        have hQ2 : we A10 a5 0 steps = v1 / v3 := by
          rw [← Nat.mul_div_mul_right v1 v3 (Nat.two_pow_pos s), hVe, i6, Nat.mul_comm, Nat.mul_add_div hV0, Nat.div_eq_of_lt i5, Nat.add_zero]
        have hR2 : we A10 a1 0 u3 = v1 % v3 * 2 ^ s := by
          rw [← Nat.mul_mod_mul_right, hVe, i6, Nat.mul_comm, Nat.mul_add_mod, Nat.mod_eq_of_lt i5]
        refine s_M_trim (m := steps) (v := v1 / v3) ?_ (by omega) hn5 ⟨fun k hk => i4 k (Nat.zero_le _) hk, by rw [← hQ, hQ2]⟩ (fun uq huq hau => ?_)
        · rw [pk_sub hu, nI_s, hst]
        rintro _ rfl
        have hrow : aV A10 a1 (u3 + 1) (v1 % v3 * 2 ^ s) := ⟨fun k hk => by have := i2 k (by omega); rw [Nat.zero_add] at this; exact this, by
          rw [← hR2, ← hR1]; exact ev_congr (fun k _ => by rw [Nat.zero_add])⟩
        refine md_shr hs16 hrow (by omega) hn1 (fun A12 q1 q2 => ?_)
        rw [Nat.mul_div_cancel _ (Nat.two_pow_pos _)] at q2
        have hd12 : ∀ j, j < u3 → dg A12 a1 j = v1 % v3 / 65536 ^ j % 65536 := fun j hj => dg_of (q2 j hj) (Nat.lt_trans (Nat.mod_lt _ (by decide)) (by decide))
        have hrl : v1 % v3 < 65536 ^ u3 := Nat.lt_trans (Nat.mod_lt _ (by omega)) h3.lt
        refine s_M_trim (m := u3) (v := v1 % v3) rfl (by omega) hn1 ⟨fun k hk => ?_, ?_⟩ (fun ur hur hur2 => ?_)
        · rw [hd12 k hk]; exact ⟨q2 k hk, Nat.mod_lt _ (by decide)⟩
        · rw [ev_congr hd12, ev_all, Nat.mod_eq_of_lt hrl]
        · exact hr A12 ur uq (fun b b1 b5 b6 => by rw [q1 b b1, i1 b b1 b5, k1 b b1, gm_off b1, f1 b b6]) hur2 (hau.cong (q1 _ h15.symm)) hur (by omega)
      · subst e
        have e6 : A10 (K 60) = A7 (K 60) := i1 _ h16 h56
        have hV10 : ve A10 (K 60) 0 u3 := fun k hk => by
          have := hv7 k (by omega)
          unfold dg at this ⊢
          rw [e6]; exact this
        have hW10 : we A10 (K 60) 0 u3 = V := by
          rw [← hw7]
          exact ev_congr (fun k _ => dg_congr (by rw [e6]))
        have hg10 : dg A10 (K 60) (u3 - 1) = dg A7 (K 60) (u3 - 1) := dg_congr (by rw [e6])
        have hu10 : ve A10 a1 t (u3 + 1) := fun k hk => by
          have := i2 (t + k) (by omega)
          rw [Nat.zero_add] at this
          exact this
        have hsplit : we A10 a1 0 (t + 1 + u3) = we A10 a1 0 t + 65536 ^ t * we A10 a1 t (u3 + 1) := by
          have := ev_add 65536 (fun k => dg A10 a1 (0 + k)) t (u3 + 1)
          rw [show t + (u3 + 1) = t + 1 + u3 by omega] at this
          refine this.trans ?_
          congr 2
          exact ev_congr (fun k _ => by rw [Nat.zero_add])
        have hpt : 0 < 65536 ^ t := Nat.pow_pos (by decide)
        have hUV : we A10 a1 t (u3 + 1) < we A10 (K 60) 0 u3 * 65536 := by
          rw [hW10]
          have a1 : we A10 a1 t (u3 + 1) * 65536 ^ t < V * 65536 * 65536 ^ t := by
            rw [Nat.pow_succ] at i5
            have e1 : V * (65536 ^ t * 65536) = V * 65536 * 65536 ^ t := by grind
            rw [Nat.mul_comm]
            omega
          exact Nat.lt_of_mul_lt_mul_right a1
        rw [dn_succ]
        have hml := Nat.mod_lt (we A10 a1 t (u3 + 1)) hV0
        have hdm := Nat.div_add_mod (we A10 a1 t (u3 + 1)) V
        have hqB : we A10 a1 t (u3 + 1) / V < 65536 := Nat.div_lt_of_lt_mul (by rw [hW10] at hUV; exact hUV)
        have next : ∀ A13, st A10 A13 a1 t (u3 + 1) → ve A13 a1 t (u3 + 1) → we A13 a1 t (u3 + 1) = we A10 a1 t (u3 + 1) % V → ((vp_in (nI t) n5) ∧ ∀ A_26 : gm_M, A_26 = gm_up A13 a5 (nI t).toNatClampNeg (nI (we A10 a1 t (u3 + 1) / V)) → ∀ x7_27 : Int32, x7_27 = nI t + (-1 : Int32) → (∃ z, x7_27 = dn z ∧ z ≤ steps ∧ (∀ b, b ≠ a1 → b ≠ a5 → A_26 b = A7 b) ∧ ve A_26 a1 0 (u1 + 1) ∧ (∀ k, z + u3 ≤ k → k < u1 + 1 → dg A_26 a1 k = 0) ∧ (∀ k, z ≤ k → k < steps → A_26 a5 k = nI (dg A_26 a5 k) ∧ dg A_26 a5 k < 65536) ∧ we A_26 a1 0 (z + u3) < V * 65536 ^ z ∧ v1 * 2 ^ s = we A_26 a5 z (steps - z) * 65536 ^ z * V + we A_26 a1 0 (z + u3)) ∧ (x7_27.toInt + 1).toNat < ((nI t).toInt + 1).toNat) := by
          intro A13 g1' g2 g3'
          generalize hU0 : we A10 a1 t (u3 + 1) = U at *
          refine ⟨pk_in t n5 (by omega), ?_⟩
          rw [nI_clamp (by omega)]
          rintro _ rfl
          rintro _ rfl
          have e5 : gm_up A13 a5 t (nI (U / V)) a1 = A13 a1 := gm_off h15
          have hd13 : dg A13 a1 (t + u3) = 0 := by
            have := we_s A13 a1 t u3
            rcases Nat.eq_zero_or_pos (dg A13 a1 (t + u3)) with c | c
            · exact c
            · have := Nat.mul_le_mul_right (65536 ^ u3) (show 1 ≤ dg A13 a1 (t + u3) from c)
              rw [Nat.one_mul] at this
              omega
          have hw13 : we A13 a1 t u3 = U % V := by
            have := we_s A13 a1 t u3
            rw [hd13, Nat.zero_mul, Nat.add_zero] at this
            omega
          have hlow : we A13 a1 0 t = we A10 a1 0 t := ev_congr (fun k hk => dg_congr (by rw [Nat.zero_add]; exact g1'.2 k (by omega)))
          have hnew : we (gm_up A13 a5 t (nI (U / V))) a1 0 (t + u3) = we A10 a1 0 t + 65536 ^ t * (U % V) := by
            have e6 : we (gm_up A13 a5 t (nI (U / V))) a1 0 (t + u3) = we A13 a1 0 (t + u3) := ev_congr (fun k _ => dg_congr (by rw [e5]))
            have e7 := ev_add 65536 (fun k => dg A13 a1 (0 + k)) t u3
            have e8 : ev 65536 (fun k => dg A13 a1 (0 + (t + k))) u3 = we A13 a1 t u3 := ev_congr (fun k _ => by rw [Nat.zero_add])
            rw [e6, ← hlow, ← hw13, ← e8]
            exact e7
          have hllt : we A10 a1 0 t < 65536 ^ t := we_lt (fun k hk => i2 k (by omega))
          refine ⟨⟨t, dn_next t, by omega, fun b a b' => ?_, fun k hk => ?_, fun k a b => ?_, fun k a b => ?_, ?_, ?_⟩, ?_⟩
          · rw [gm_off b', g1'.1 b a, i1 b a b']
          · rw [dg_congr (A := A13) (by rw [e5]), e5, Nat.zero_add]
            by_cases c1 : t ≤ k ∧ k < t + (u3 + 1)
            · have := g2 (k - t) (by omega)
              rw [show t + (k - t) = k by omega] at this
              exact this
            · have e9 := g1'.2 k (by omega)
              rw [dg_congr e9, e9]
              have := i2 k hk
              rw [Nat.zero_add] at this
              exact this
          · rw [dg_congr (A := A13) (by rw [e5])]
            by_cases c1 : k = t + u3
            · subst c1; exact hd13
            · rw [dg_congr (g1'.2 k (by omega))]
              exact i3 k (by omega) b
          · by_cases c1 : k = t
            · subst c1
              rw [dg_at _ _ _ (by omega), up_at]
              exact ⟨rfl, hqB⟩
            · have e9 : A13 a5 = A10 a5 := g1'.1 _ h15.symm
              rw [dg_ne _ _ c1, up_ne _ _ c1, dg_congr (A := A10) (by rw [e9]), e9]
              exact i4 k (by omega) b
          · rw [hnew]
            have a1 : 65536 ^ t * (U % V + 1) ≤ 65536 ^ t * V := Nat.mul_le_mul_left _ hml
            rw [Nat.mul_add, Nat.mul_one, Nat.mul_comm (65536 ^ t) V] at a1
            omega
          · rw [hnew, i6, hsplit, show steps - t = (steps - (t + 1)) + 1 by omega]
            have e10 : we (gm_up A13 a5 t (nI (U / V))) a5 t (steps - (t + 1) + 1) = U / V + 65536 * we A10 a5 (t + 1) (steps - (t + 1)) := by
              refine (ev_cons 65536 (dg (gm_up A13 a5 t (nI (U / V))) a5) t (steps - (t + 1))).trans ?_
              rw [dg_at _ _ _ (by omega)]
              congr 2
              exact ev_congr (fun k _ => by
                rw [dg_ne _ _ (by omega)]
                exact dg_congr (by rw [g1'.1 _ h15.symm]))
            rw [e10, Nat.pow_succ]
            generalize we A10 a5 (t + 1) (steps - (t + 1)) = Qh
            generalize we A10 a1 0 t = lo
            generalize U / V = q at *
            generalize U % V = r at *
            generalize 65536 ^ t = X
            rw [← hdm]
            grind
          · rw [dn_next, dn_mu _ (by omega), nI_toInt (by omega)]; omega
        refine md_guess (by omega) (by omega) hn1 hu10 hV10 (by rw [hg10]; exact hnm7) hUV (fun g hgq hgl => ?_)
        rw [hW10] at hgq
        have hkq := k_q (U := we A10 a1 t (u3 + 1)) hV0
        refine md_sub hgl (by omega) hn1 h16 hu10 hV10 (fun A' b1 b2 => ⟨fun b3 b4 => ?_, fun b3 b4 => ?_⟩)
        · rw [hW10] at b3 b4
          rw [lN_i]
          have hgQ : g = we A10 a1 t (u3 + 1) / V := by
            rcases hgq with c | c
            · exact c
            · rw [← c] at hkq
              have := hkq.2
              omega
          rw [hgQ]
          refine next A' b1 b2 ?_
          rw [hgQ, Nat.mul_comm] at b4
          generalize we A10 a1 t (u3 + 1) / V = Q at *
          generalize we A10 a1 t (u3 + 1) % V = Rm at *
          omega
        · rw [hW10] at b3 b4
          have hgQ : g = we A10 a1 t (u3 + 1) / V + 1 := by
            rcases hgq with c | c
            · rw [← c] at hkq
              have := hkq.1
              omega
            · exact c
          rintro _ rfl
          have e66 : A' (K 60) = A10 (K 60) := b1.1 _ h16
          have hW' : we A' (K 60) 0 u3 = V := by rw [← hW10]; exact ev_congr (fun k _ => dg_congr (by rw [e66]))
          have hx1 : lN g - (1 : Int64) = lN (we A10 a1 t (u3 + 1) / V) := by rw [hgQ]; exact lN_sub (b := 1) (Nat.le_add_left 1 _)
          rw [hx1, lN_i]
          refine md_add (W := we A10 a1 t (u3 + 1) % V) (by omega) hn1 h16 b2 (fun k hk => by
            have := hV10 k hk
            unfold dg at this ⊢
            rw [e66]; exact this) ?_ (by omega) (fun A'' c1 c2 c3 => next A'' (b1.trans c1) c2 c3)
          rw [hW']
          rw [hgQ, Nat.add_mul, Nat.one_mul, Nat.mul_comm] at b4
          generalize we A10 a1 t (u3 + 1) / V = Q at *
          generalize we A10 a1 t (u3 + 1) % V = Rm at *
          omega
  · rintro _ rfl
    have hlt : v1 < v3 := by omega
    refine hr A u1 0 (fun _ _ _ _ => rfl) (by rw [Nat.mod_eq_of_lt hlt]; exact h1) (by rw [Nat.div_eq_of_lt hlt]; exact ⟨fun k hk => absurd hk (Nat.not_lt_zero _), fun t ht => by omega, rfl⟩) ?_ (Nat.zero_le _)
    rcases Nat.lt_or_ge u3 u1 with c | c
    · have := h1.ltu h3 c; omega
    · exact c
end M5
