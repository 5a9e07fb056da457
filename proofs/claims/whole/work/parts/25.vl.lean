theorem cl_13 : (.classLink "LimbDeskLaw" 13 (gx_name 1) : Cond) ∈ gw_WS := gw_r1 111 (by decide +kernel) (by decide +kernel)
theorem cl_19 : (.classLink "LimbDeskLaw" 19 (gx_name 2) : Cond) ∈ gw_WS := gw_r1 212 (by decide +kernel) (by decide +kernel)
theorem cl_25 : (.classLink "LimbDeskLaw" 25 (gx_name 3) : Cond) ∈ gw_WS := gw_r2 11 (by decide +kernel) (by decide +kernel)
def vc_L_set (K : Nat → Nat) (p2 : Int32) (p3 : Int64) (L : lm_M) (F A : gm_M) (post : Int32 → gm_M → gm_M → lm_M → Prop) : Prop :=
  vc_K_set K p2 p3 F A (fun (r_1 : Int32) (F_1 : gm_M) (A_1 : gm_M) =>
    ∀ L1 : lm_M, L1 = lm_up L (K 63) 0 (r_1.toInt64) →
    post (0 : Int32) F_1 A_1 L1
  ) (fun (k_1 : Nat) (F_1 A_1 : gm_M) => (k_1 = 1 ∧ post (1 : Int32) F_1 A_1 L))
def vc_L_line (K : Nat → Nat) (p2 : Int64) (L : lm_M) (F A : gm_M) (post : Int32 → gm_M → gm_M → lm_M → Prop) : Prop :=
  vc_K_line K p2 F A (fun (r_1 : Int32) (F_1 : gm_M) (A_1 : gm_M) =>
    ∀ L1 : lm_M, L1 = lm_up L (K 63) 0 (r_1.toInt64) →
    post (0 : Int32) F_1 A_1 L1
  ) (fun (k_1 : Nat) (F_1 A_1 : gm_M) => (k_1 = 1 ∧ post (1 : Int32) F_1 A_1 L) ∨ (k_1 = 2 ∧ post (2 : Int32) F_1 A_1 L))
def vc_L_read (K : Nat → Nat) (p2 : Int32) (p3 : Int32) (L : lm_M) (F A : gm_M) (post : Int32 → gm_M → gm_M → lm_M → Prop) : Prop :=
  vc_K_read K p2 p3 F A (fun (r_1 : Int32) (F_1 : gm_M) (A_1 : gm_M) =>
    ∀ L1 : lm_M, L1 = lm_up L (K 63) 0 (r_1.toInt64) →
    post (0 : Int32) F_1 A_1 L1
  ) (fun (k_1 : Nat) (F_1 A_1 : gm_M) => (k_1 = 1 ∧ post (1 : Int32) F_1 A_1 L) ∨ (k_1 = 3 ∧ post (2 : Int32) F_1 A_1 L))
def vc_L_show (K : Nat → Nat) (p2 : Int32) (p3 : Int32) (L : lm_M) (F A : gm_M) (post : Int32 → gm_M → gm_M → lm_M → Prop) : Prop :=
  vc_K_show K p2 p3 F A (fun (r_1 : Int32) (F_1 : gm_M) (A_1 : gm_M) =>
    ∀ L1 : lm_M, L1 = lm_up L (K 63) 0 (r_1.toInt64) →
    post (0 : Int32) F_1 A_1 L1
  ) (fun (k_1 : Nat) (F_1 A_1 : gm_M) => (k_1 = 1 ∧ post (1 : Int32) F_1 A_1 L))
def vc_L_letter (K : Nat → Nat) (p2 : Int32) (L : lm_M) (F A : gm_M) (post : Int32 → gm_M → gm_M → lm_M → Prop) : Prop :=
  vc_K_letter K p2 F A (fun (r_1 : Int32) =>
    ∀ L1 : lm_M, L1 = lm_up L (K 63) 0 (r_1.toInt64) →
    post (0 : Int32) F A L1
  ) (fun (k_1 : Nat) (F_1 A_1 : gm_M) => (k_1 = 2 ∧ post (1 : Int32) F_1 A_1 L))
def vc_L_work (K : Nat → Nat) (p2 : Int32) (p3 : Int32) (p4 : Int32) (p5 : Int32) (L : lm_M) (F A : gm_M) (post : Int32 → gm_M → gm_M → lm_M → Prop) : Prop :=
  vc_K_work K p2 p3 p4 p5 F A (fun (r_1 : Int32) (F_1 : gm_M) (A_1 : gm_M) =>
    ∀ L1 : lm_M, L1 = lm_up L (K 63) 0 (r_1.toInt64) →
    post (0 : Int32) F_1 A_1 L1
  ) (fun (k_1 : Nat) (F_1 A_1 : gm_M) => (k_1 = 1 ∧ post (1 : Int32) F_1 A_1 L) ∨ (k_1 = 3 ∧ post (2 : Int32) F_1 A_1 L))
def vc_L_divide (K : Nat → Nat) (p2 : Int32) (p3 : Int32) (p4 : Int32) (p5 : Int32) (p6 : Int32) (L : lm_M) (F A : gm_M) (post : Int32 → gm_M → gm_M → lm_M → Prop) : Prop :=
  vc_K_divide K p2 p3 p4 p5 p6 F A (fun (r_1 : Int32) (F_1 : gm_M) (A_1 : gm_M) =>
    ∀ L1 : lm_M, L1 = lm_up L (K 63) 0 (r_1.toInt64) →
    post (0 : Int32) F_1 A_1 L1
  ) (fun (k_1 : Nat) (F_1 A_1 : gm_M) => (k_1 = 1 ∧ post (1 : Int32) F_1 A_1 L) ∨ (k_1 = 3 ∧ post (2 : Int32) F_1 A_1 L))
def vc_L_shift (K : Nat → Nat) (p2 : Int32) (p3 : Int32) (p4 : Int32) (L : lm_M) (F A : gm_M) (post : Int32 → gm_M → gm_M → lm_M → Prop) : Prop :=
  vc_K_shift K p2 p3 p4 F A (fun (r_1 : Int32) (F_1 : gm_M) (A_1 : gm_M) =>
    ∀ L1 : lm_M, L1 = lm_up L (K 63) 0 (r_1.toInt64) →
    post (0 : Int32) F_1 A_1 L1
  ) (fun (k_1 : Nat) (F_1 A_1 : gm_M) => (k_1 = 1 ∧ post (1 : Int32) F_1 A_1 L) ∨ (k_1 = 3 ∧ post (2 : Int32) F_1 A_1 L))
def vc_L_bits (K : Nat → Nat) (p2 : Int32) (p3 : Int32) (p4 : Int32) (p5 : Int32) (L : lm_M) (F A : gm_M) (post : Int32 → gm_M → gm_M → lm_M → Prop) : Prop :=
  vc_K_bits K p2 p3 p4 p5 F A (fun (r_1 : Int32) (F_1 : gm_M) (A_1 : gm_M) =>
    ∀ L1 : lm_M, L1 = lm_up L (K 63) 0 (r_1.toInt64) →
    post (0 : Int32) F_1 A_1 L1
  ) (fun (k_1 : Nat) (F_1 A_1 : gm_M) => (k_1 = 1 ∧ post (1 : Int32) F_1 A_1 L) ∨ (k_1 = 3 ∧ post (2 : Int32) F_1 A_1 L))
def vc_L_power (K : Nat → Nat) (p2 : Int32) (p3 : Int32) (p4 : Int32) (L : lm_M) (F A : gm_M) (post : Int32 → gm_M → gm_M → lm_M → Prop) : Prop :=
  vc_K_power K p2 p3 p4 F A (fun (r_1 : Int32) (F_1 : gm_M) (A_1 : gm_M) =>
    ∀ L1 : lm_M, L1 = lm_up L (K 63) 0 (r_1.toInt64) →
    post (0 : Int32) F_1 A_1 L1
  ) (fun (k_1 : Nat) (F_1 A_1 : gm_M) => (k_1 = 1 ∧ post (1 : Int32) F_1 A_1 L) ∨ (k_1 = 3 ∧ post (2 : Int32) F_1 A_1 L))
def vc_L_residue (K : Nat → Nat) (p2 : Int32) (p3 : Int32) (p4 : Int32) (p5 : Int32) (L : lm_M) (F A : gm_M) (post : Int32 → gm_M → gm_M → lm_M → Prop) : Prop :=
  vc_K_residue K p2 p3 p4 p5 F A (fun (r_1 : Int32) (F_1 : gm_M) (A_1 : gm_M) =>
    ∀ L1 : lm_M, L1 = lm_up L (K 63) 0 (r_1.toInt64) →
    post (0 : Int32) F_1 A_1 L1
  ) (fun (k_1 : Nat) (F_1 A_1 : gm_M) => (k_1 = 1 ∧ post (1 : Int32) F_1 A_1 L) ∨ (k_1 = 3 ∧ post (2 : Int32) F_1 A_1 L))
def vc_L_compare (K : Nat → Nat) (p2 : Int32) (p3 : Int32) (L : lm_M) (F A : gm_M) (post : Int32 → gm_M → gm_M → lm_M → Prop) : Prop :=
  vc_K_compare K p2 p3 F A (fun (r_1 : Int32) =>
    ∀ L1 : lm_M, L1 = lm_up L (K 63) 0 (r_1.toInt64) →
    post (0 : Int32) F A L1
  ) (fun (k_1 : Nat) (F_1 A_1 : gm_M) => (k_1 = 1 ∧ post (1 : Int32) F_1 A_1 L))
def vc_L_small (K : Nat → Nat) (p2 : Int32) (L : lm_M) (F A : gm_M) (post : Int32 → gm_M → gm_M → lm_M → Prop) : Prop :=
  vc_K_small K p2 F A (fun (r_1 : Int64) =>
    ∀ L1 : lm_M, L1 = lm_up L (K 63) 0 r_1 →
    post (0 : Int32) F A L1
  ) (fun (k_1 : Nat) (F_1 A_1 : gm_M) => (k_1 = 1 ∧ post (1 : Int32) F_1 A_1 L) ∨ (k_1 = 3 ∧ post (2 : Int32) F_1 A_1 L))
def vc_L_low (K : Nat → Nat) (p2 : Int32) (L : lm_M) (F A : gm_M) (post : Int32 → gm_M → gm_M → lm_M → Prop) : Prop :=
  vc_K_low K p2 F A (fun (r_1 : Int64) =>
    ∀ L1 : lm_M, L1 = lm_up L (K 63) 0 r_1 →
    post (0 : Int32) F A L1
  ) (fun (k_1 : Nat) (F_1 A_1 : gm_M) => (k_1 = 1 ∧ post (1 : Int32) F_1 A_1 L))
def vc_L_folded (K : Nat → Nat) (p2 : Int32) (L : lm_M) (F A : gm_M) (post : Int32 → gm_M → gm_M → lm_M → Prop) : Prop :=
  vc_K_folded K p2 F A (fun (r_1 : Int64) =>
    ∀ L1 : lm_M, L1 = lm_up L (K 63) 0 r_1 →
    post (0 : Int32) F A L1
  ) (fun (k_1 : Nat) (F_1 A_1 : gm_M) => (k_1 = 1 ∧ post (1 : Int32) F_1 A_1 L))
def vc_L_size (K : Nat → Nat) (p2 : Int32) (L : lm_M) (F A : gm_M) (post : Int32 → gm_M → gm_M → lm_M → Prop) : Prop :=
  vc_K_size K p2 F A (fun (r_1 : Int32) =>
    ∀ L1 : lm_M, L1 = lm_up L (K 63) 0 (r_1.toInt64) →
    post (0 : Int32) F A L1
  ) (fun (k_1 : Nat) (F_1 A_1 : gm_M) => (k_1 = 1 ∧ post (1 : Int32) F_1 A_1 L))
