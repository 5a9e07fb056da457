set_option maxRecDepth 20000 in
theorem gx_at1 : gx_At 1 61 57 := ⟨fun w hw => by
    have h := List.all_eq_true.mp (show (Bundle.ownAtoms "LimbDesk" 61 (gx_name 1) gx_up).all (fun w => decide (w ∈ lw_tbl) && goodWord w || decide (w ∈ gx_xw)) = true by decide +kernel) w hw
    simp only [Bool.or_eq_true, Bool.and_eq_true, decide_eq_true_eq] at h
    exact h.elim (fun h => Or.inl (gw_mem h.1 h.2)) Or.inr, by decide +kernel, gw_r1 122 (by decide +kernel) (by decide +kernel), gw_r1 123 (by decide +kernel) (by decide +kernel), gw_r1 9 (by decide +kernel) (by decide +kernel)⟩
set_option maxRecDepth 20000 in
theorem gx_at2 : gx_At 2 72 68 := ⟨fun w hw => by
    have h := List.all_eq_true.mp (show (Bundle.ownAtoms "LimbDesk" 72 (gx_name 2) gx_up).all (fun w => decide (w ∈ lw_tbl) && goodWord w || decide (w ∈ gx_xw)) = true by decide +kernel) w hw
    simp only [Bool.or_eq_true, Bool.and_eq_true, decide_eq_true_eq] at h
    exact h.elim (fun h => Or.inl (gw_mem h.1 h.2)) Or.inr, by decide +kernel, gw_r1 224 (by decide +kernel) (by decide +kernel), gw_r1 225 (by decide +kernel) (by decide +kernel), gw_r1 10 (by decide +kernel) (by decide +kernel)⟩
set_option maxRecDepth 20000 in
theorem gx_at3 : gx_At 3 139 135 := ⟨fun w hw => by
    have h := List.all_eq_true.mp (show (Bundle.ownAtoms "LimbDesk" 139 (gx_name 3) gx_up).all (fun w => decide (w ∈ lw_tbl) && goodWord w || decide (w ∈ gx_xw)) = true by decide +kernel) w hw
    simp only [Bool.or_eq_true, Bool.and_eq_true, decide_eq_true_eq] at h
    exact h.elim (fun h => Or.inl (gw_mem h.1 h.2)) Or.inr, by decide +kernel, gw_r2 49 (by decide +kernel) (by decide +kernel), gw_r2 50 (by decide +kernel) (by decide +kernel), gw_r1 11 (by decide +kernel) (by decide +kernel)⟩
