def vc_W_sign (a0 l0 n0 : Nat) (F A : gm_M) (post : Int32 → Prop) : Prop :=
  ((¬ (F a0 1) = (0) →
    (((F a0 2) = (0) →
      post (1 : Int32)
    ) ∧ (¬ (F a0 2) = (0) →
      post (-1 : Int32)
    ))
  ) ∧ ((F a0 1) = (0) →
    post (0 : Int32)
  ))
def vc_W_limbAt (a0 l0 n0 : Nat) (p1 : Int32) (F A : gm_M) (post : Int32 → Prop) : Prop :=
  (((F a0 1) ≤ p1 →
    post (0 : Int32)
  ) ∧ (¬ (F a0 1) ≤ p1 →
    (vp_in p1 n0) ∧
    post (A l0 p1.toNatClampNeg)
  ))
def vc_W_bitsIn (p1 : Int32) (F A : gm_M) (post : Int32 → Prop) : Prop :=
  ∃ (I_2 : Int32 → Prop) (μ_2 : Int32 → Nat), I_2 (0 : Int32) ∧ ∀ (x1_1 : Int32), I_2 x1_1 →
    (((31 : Int32) ≤ x1_1 →
      post x1_1
    ) ∧ (¬ (31 : Int32) ≤ x1_1 →
      (((j_iushr p1 x1_1) = (0) →
        post x1_1
      ) ∧ (¬ (j_iushr p1 x1_1) = (0) →
        ∀ x1_2 : Int32, x1_2 = x1_1 + (1 : Int32) →
        I_2 x1_2 ∧ μ_2 x1_2 < μ_2 x1_1
      ))
    ))
def vc_W_countBits (a0 l0 n0 : Nat) (F A : gm_M) (post : Int32 → Prop) : Prop :=
  ((¬ (F a0 1) = (0) →
    (vp_in ((F a0 1) - (1 : Int32)) n0) ∧
    vc_W_bitsIn (A l0 ((F a0 1) - (1 : Int32)).toNatClampNeg) F A (fun (r_1 : Int32) =>
      post ((((F a0 1) - (1 : Int32)) * (31 : Int32)) + r_1)
    )
  ) ∧ ((F a0 1) = (0) →
    post (0 : Int32)
  ))
def vc_W_hasBit (a0 l0 n0 : Nat) (p1 : Int32) (F A : gm_M) (post : Int32 → Prop) : Prop :=
  vc_W_limbAt a0 l0 n0 (p1 / (31 : Int32)) F A (fun (r_1 : Int32) =>
    ((¬ ((j_iushr r_1 (p1 - p1 / (31 : Int32) * (31 : Int32))) &&& (1 : Int32)) = (1 : Int32) →
      post (0 : Int32)
    ) ∧ (((j_iushr r_1 (p1 - p1 / (31 : Int32) * (31 : Int32))) &&& (1 : Int32)) = (1 : Int32) →
      post (1 : Int32)
    ))
  )
def vc_W_setBelow (a0 l0 n0 : Nat) (p1 : Int32) (F A : gm_M) (post : gm_M → Prop) : Prop :=
  ((p1 = (0) →
    ∀ F_1 : gm_M, F_1 = gm_up F a0 2 (0 : Int32) →
    post F_1
  ) ∧ (¬ p1 = (0) →
    (((F a0 1) ≤ (0) →
      ∀ F_2 : gm_M, F_2 = gm_up F a0 2 (0 : Int32) →
      post F_2
    ) ∧ (¬ (F a0 1) ≤ (0) →
      ∀ F_3 : gm_M, F_3 = gm_up F a0 2 (1 : Int32) →
      post F_3
    ))
  ))
def vc_W_trim (a0 l0 n0 : Nat) (p1 : Int32) (F A : gm_M) (post : gm_M → Prop) : Prop :=
  ∀ F_1 : gm_M, F_1 = gm_up F a0 1 p1 →
  ∃ (I_5 : gm_M → Prop) (μ_5 : gm_M → Nat), I_5 F_1 ∧ ∀ (F_2 : gm_M), I_5 F_2 →
    (((F_2 a0 1) ≤ (0) →
      vc_W_setBelow a0 l0 n0 (F_2 a0 2) F_2 A (fun (F_3 : gm_M) =>
        post F_3
      )
    ) ∧ (¬ (F_2 a0 1) ≤ (0) →
      (vp_in ((F_2 a0 1) - (1 : Int32)) n0) ∧
      ((¬ (A l0 ((F_2 a0 1) - (1 : Int32)).toNatClampNeg) = (0) →
        vc_W_setBelow a0 l0 n0 (F_2 a0 2) F_2 A (fun (F_4 : gm_M) =>
          post F_4
        )
      ) ∧ ((A l0 ((F_2 a0 1) - (1 : Int32)).toNatClampNeg) = (0) →
        ∀ F_5 : gm_M, F_5 = gm_up F_2 a0 1 ((F_2 a0 1) - (1 : Int32)) →
        I_5 F_5 ∧ μ_5 F_5 < μ_5 F_2
      ))
    ))
def vc_W_takeLong (a0 l0 n0 : Nat) (p1 : Int64) (F A : gm_M) (post : gm_M → gm_M → Prop) : Prop :=
  ∃ (J_12 : Int64 → Prop), (
    (((0 : Int64) ≤ p1 →
      J_12 p1
    ) ∧ (¬ (0 : Int64) ≤ p1 →
      J_12 (-p1)
    ))
  ) ∧ ((∀ (v0_1 : Int64), J_12 v0_1 →
    (vp_in (0 : Int32) n0) ∧ ∀ A_2 : gm_M, A_2 = gm_up A l0 (0 : Int32).toNatClampNeg ((v0_1 &&& (2147483647 : Int64)).toInt32) →
    (vp_in (1 : Int32) n0) ∧ ∀ A_3 : gm_M, A_3 = gm_up A_2 l0 (1 : Int32).toNatClampNeg (((j_lushr v0_1 (31 : Int32)) &&& (2147483647 : Int64)).toInt32) →
    (vp_in (2 : Int32) n0) ∧ ∀ A_4 : gm_M, A_4 = gm_up A_3 l0 (2 : Int32).toNatClampNeg ((j_lushr v0_1 (62 : Int32)).toInt32) →
    (((0 : Int64) ≤ p1 →
      ∀ F_5 : gm_M, F_5 = gm_up F a0 2 (0 : Int32) →
      vc_W_trim a0 l0 n0 (3 : Int32) F_5 A_4 (fun (F_6 : gm_M) =>
        post F_6 A_4
      )
    ) ∧ (¬ (0 : Int64) ≤ p1 →
      ∀ F_7 : gm_M, F_7 = gm_up F a0 2 (1 : Int32) →
      vc_W_trim a0 l0 n0 (3 : Int32) F_7 A_4 (fun (F_8 : gm_M) =>
        post F_8 A_4
      )
    ))
  ))
def vc_W_takeCopy (a0 l0 n0 : Nat) (a1 l1 n1 : Nat) (F A : gm_M) (post : gm_M → gm_M → Prop) : Prop :=
  (¬ (F a1 1) < 0) ∧ ((F a1 1).toNatClampNeg ≤ n1) ∧ ((F a1 1).toNatClampNeg ≤ n0) ∧ ∀ A_1 : gm_M, A_1 = gm_cpy A l1 l0 (F a1 1).toNatClampNeg →
  ∀ F_2 : gm_M, F_2 = gm_up F a0 1 (F a1 1) →
  ((F_2 a1 2) = 0 ∨ (F_2 a1 2) = 1) ∧
  ∀ F_3 : gm_M, F_3 = gm_up F_2 a0 2 (F_2 a1 2) →
  post F_3 A_1
def vc_W_lowestBits (a0 l0 n0 : Nat) (F A : gm_M) (post : Int64 → Prop) : Prop :=
  vc_W_limbAt a0 l0 n0 (0 : Int32) F A (fun (r_1 : Int32) =>
    vc_W_limbAt a0 l0 n0 (1 : Int32) F A (fun (r_2 : Int32) =>
      vc_W_limbAt a0 l0 n0 (2 : Int32) F A (fun (r_3 : Int32) =>
        ∀ x1_4 : Int64, x1_4 = (((r_1.toInt64) ||| (j_lshl (r_2.toInt64) (31 : Int32))) ||| (j_lshl (r_3.toInt64) (62 : Int32))) →
        (((F a0 2) = (0) →
          post x1_4
        ) ∧ (¬ (F a0 2) = (0) →
          post (-x1_4)
        ))
      )
    )
  )
def vc_W_fitsLong (a0 l0 n0 : Nat) (F A : gm_M) (post : Int32 → Prop) : Prop :=
  vc_W_countBits a0 l0 n0 F A (fun (r_1 : Int32) =>
    ((r_1 < (64 : Int32) →
      post (1 : Int32)
    ) ∧ (¬ r_1 < (64 : Int32) →
      (((F a0 2) = (0) →
        post (0 : Int32)
      ) ∧ (¬ (F a0 2) = (0) →
        vc_W_countBits a0 l0 n0 F A (fun (r_2 : Int32) =>
          ((¬ r_2 = (64 : Int32) →
            post (0 : Int32)
          ) ∧ (r_2 = (64 : Int32) →
            vc_W_lowestBits a0 l0 n0 F A (fun (r_3 : Int64) =>
              (((0 : Int64) ≤ r_3 →
                post (0 : Int32)
              ) ∧ (¬ (0 : Int64) ≤ r_3 →
                post (1 : Int32)
              ))
            )
          ))
        )
      ))
    ))
  )
def vc_W_foldedBits (a0 l0 n0 : Nat) (F A : gm_M) (post : Int64 → Prop) : Prop :=
  ∀ x5_1 : Int32, x5_1 = ((F a0 1) - (1 : Int32)) →
  ∃ (I_14 : Int64 → Int32 → Prop) (μ_14 : Int64 → Int32 → Nat), I_14 (0 : Int64) x5_1 ∧ ∀ (x3_2 : Int64) (x5_2 : Int32), I_14 x3_2 x5_2 →
    ((x5_2 < (0) →
      (((F a0 2) = (0) →
        post x3_2
      ) ∧ (¬ (F a0 2) = (0) →
        post (-x3_2)
      ))
    ) ∧ (¬ x5_2 < (0) →
      ∀ x3_3 : Int64, x3_3 = (((j_lshl x3_2 (31 : Int32)) &&& (2305843009213693951 : Int64)) ||| (j_lushr x3_2 (30 : Int32))) →
      (vp_in x5_2 n0) ∧
      ∀ x3_4 : Int64, x3_4 = (x3_3 + ((A l0 x5_2.toNatClampNeg).toInt64)) →
      ((x3_4 < (2305843009213693951 : Int64) →
        ∀ x5_5 : Int32, x5_5 = x5_2 + (-1 : Int32) →
        I_14 x3_4 x5_5 ∧ μ_14 x3_4 x5_5 < μ_14 x3_2 x5_2
      ) ∧ (¬ x3_4 < (2305843009213693951 : Int64) →
        ∀ x3_6 : Int64, x3_6 = (x3_4 - (2305843009213693951 : Int64)) →
        ∀ x5_7 : Int32, x5_7 = x5_2 + (-1 : Int32) →
        I_14 x3_6 x5_7 ∧ μ_14 x3_6 x5_7 < μ_14 x3_2 x5_2
      ))
    ))
def vc_W_orderOfSizes (a0 l0 n0 : Nat) (a1 l1 n1 : Nat) (F A : gm_M) (post : Int32 → Prop) : Prop :=
  (((F a0 1) = (F a1 1) →
    ∀ x2_1 : Int32, x2_1 = ((F a0 1) - (1 : Int32)) →
    ∃ (I_35 : Int32 → Prop) (μ_35 : Int32 → Nat), I_35 x2_1 ∧ ∀ (x2_2 : Int32), I_35 x2_2 →
      ((x2_2 < (0) →
        post (0 : Int32)
      ) ∧ (¬ x2_2 < (0) →
        (vp_in x2_2 n0) ∧
        (vp_in x2_2 n1) ∧
        (((A l0 x2_2.toNatClampNeg) = (A l1 x2_2.toNatClampNeg) →
          ∀ x2_3 : Int32, x2_3 = x2_2 + (-1 : Int32) →
          I_35 x2_3 ∧ μ_35 x2_3 < μ_35 x2_2
        ) ∧ (¬ (A l0 x2_2.toNatClampNeg) = (A l1 x2_2.toNatClampNeg) →
          (vp_in x2_2 n0) ∧
          (vp_in x2_2 n1) ∧
          (((A l1 x2_2.toNatClampNeg) ≤ (A l0 x2_2.toNatClampNeg) →
            post (1 : Int32)
          ) ∧ (¬ (A l1 x2_2.toNatClampNeg) ≤ (A l0 x2_2.toNatClampNeg) →
            post (-1 : Int32)
          ))
        ))
      ))
  ) ∧ (¬ (F a0 1) = (F a1 1) →
    (((F a1 1) ≤ (F a0 1) →
      post (1 : Int32)
    ) ∧ (¬ (F a1 1) ≤ (F a0 1) →
      post (-1 : Int32)
    ))
  ))
def vc_W_orderTo (a0 l0 n0 : Nat) (a1 l1 n1 : Nat) (F A : gm_M) (post : Int32 → Prop) : Prop :=
  vc_W_sign a0 l0 n0 F A (fun (r_1 : Int32) =>
    vc_W_sign a1 l1 n1 F A (fun (r_2 : Int32) =>
      ((r_1 = r_2 →
        (((F a0 2) = (0) →
          vc_W_orderOfSizes a0 l0 n0 a1 l1 n1 F A (fun (r_3 : Int32) =>
            post r_3
          )
        ) ∧ (¬ (F a0 2) = (0) →
          vc_W_orderOfSizes a1 l1 n1 a0 l0 n0 F A (fun (r_4 : Int32) =>
            post r_4
          )
        ))
      ) ∧ (¬ r_1 = r_2 →
        vc_W_sign a0 l0 n0 F A (fun (r_5 : Int32) =>
          vc_W_sign a1 l1 n1 F A (fun (r_6 : Int32) =>
            ((r_6 ≤ r_5 →
              post (1 : Int32)
            ) ∧ (¬ r_6 ≤ r_5 →
              post (-1 : Int32)
            ))
          )
        )
      ))
    )
  )
def vc_W_addSizes (a0 l0 n0 : Nat) (a1 l1 n1 : Nat) (a2 l2 n2 : Nat) (F A : gm_M) (post : gm_M → gm_M → Prop) : Prop :=
  ∀ x3_1 : Int32, x3_1 = (if (F a1 1) < (F a2 1) then (F a2 1) else (F a1 1)) →
  ∃ (I_18 : Int64 → Int32 → gm_M → Prop) (μ_18 : Int64 → Int32 → gm_M → Nat), I_18 (0 : Int64) (0 : Int32) A ∧ ∀ (x4_2 : Int64) (x6_2 : Int32) (A_2 : gm_M), I_18 x4_2 x6_2 A_2 →
    ((x3_1 ≤ x6_2 →
      (vp_in x3_1 n0) ∧ ∀ A_3 : gm_M, A_3 = gm_up A_2 l0 x3_1.toNatClampNeg (x4_2.toInt32) →
      vc_W_trim a0 l0 n0 (x3_1 + (1 : Int32)) F A_3 (fun (F_4 : gm_M) =>
        post F_4 A_3
      )
    ) ∧ (¬ x3_1 ≤ x6_2 →
      vc_W_limbAt a1 l1 n1 x6_2 F A_2 (fun (r_5 : Int32) =>
        vc_W_limbAt a2 l2 n2 x6_2 F A_2 (fun (r_6 : Int32) =>
          ∀ x7_7 : Int64, x7_7 = (((r_5.toInt64) + (r_6.toInt64)) + x4_2) →
          (vp_in x6_2 n0) ∧ ∀ A_8 : gm_M, A_8 = gm_up A_2 l0 x6_2.toNatClampNeg ((x7_7 &&& (2147483647 : Int64)).toInt32) →
          ∀ x4_9 : Int64, x4_9 = (j_lushr x7_7 (31 : Int32)) →
          ∀ x6_10 : Int32, x6_10 = x6_2 + (1 : Int32) →
          I_18 x4_9 x6_10 A_8 ∧ μ_18 x4_9 x6_10 A_8 < μ_18 x4_2 x6_2 A_2
        )
      )
    ))
def vc_W_subtractSizes (a0 l0 n0 : Nat) (a1 l1 n1 : Nat) (a2 l2 n2 : Nat) (F A : gm_M) (post : gm_M → gm_M → Prop) : Prop :=
  ∀ x3_1 : Int32, x3_1 = (F a1 1) →
  ∃ (I_11 : Int32 → Int32 → gm_M → Prop) (μ_11 : Int32 → Int32 → gm_M → Nat), I_11 (0 : Int32) (0 : Int32) A ∧ ∀ (x4_2 : Int32) (x5_2 : Int32) (A_2 : gm_M), I_11 x4_2 x5_2 A_2 →
    ((x3_1 ≤ x5_2 →
      vc_W_trim a0 l0 n0 x3_1 F A_2 (fun (F_3 : gm_M) =>
        post F_3 A_2
      )
    ) ∧ (¬ x3_1 ≤ x5_2 →
      (vp_in x5_2 n1) ∧
      vc_W_limbAt a2 l2 n2 x5_2 F A_2 (fun (r_4 : Int32) =>
        ∀ x6_5 : Int32, x6_5 = (((A_2 l1 x5_2.toNatClampNeg) - r_4) - x4_2) →
        (vp_in x5_2 n0) ∧ ∀ A_6 : gm_M, A_6 = gm_up A_2 l0 x5_2.toNatClampNeg (x6_5 &&& (2147483647 : Int32)) →
        (((0) ≤ x6_5 →
          ∀ x5_7 : Int32, x5_7 = x5_2 + (1 : Int32) →
          I_11 (0 : Int32) x5_7 A_6 ∧ μ_11 (0 : Int32) x5_7 A_6 < μ_11 x4_2 x5_2 A_2
        ) ∧ (¬ (0) ≤ x6_5 →
          ∀ x5_8 : Int32, x5_8 = x5_2 + (1 : Int32) →
          I_11 (1 : Int32) x5_8 A_6 ∧ μ_11 (1 : Int32) x5_8 A_6 < μ_11 x4_2 x5_2 A_2
        ))
      )
    ))
def vc_W_takeSum (a0 l0 n0 : Nat) (a1 l1 n1 : Nat) (a2 l2 n2 : Nat) (p3 : Int32) (F A : gm_M) (post : gm_M → gm_M → Prop) : Prop :=
  ∀ x4_1 : Int32, x4_1 = (F a1 2) →
  ((¬ x4_1 = p3 →
    vc_W_orderOfSizes a1 l1 n1 a2 l2 n2 F A (fun (r_2 : Int32) =>
      ((r_2 < (0) →
        vc_W_subtractSizes a0 l0 n0 a2 l2 n2 a1 l1 n1 F A (fun (F_3 : gm_M) (A_3 : gm_M) =>
          vc_W_setBelow a0 l0 n0 p3 F_3 A_3 (fun (F_4 : gm_M) =>
            post F_4 A_3
          )
        )
      ) ∧ (¬ r_2 < (0) →
        vc_W_subtractSizes a0 l0 n0 a1 l1 n1 a2 l2 n2 F A (fun (F_5 : gm_M) (A_5 : gm_M) =>
          vc_W_setBelow a0 l0 n0 x4_1 F_5 A_5 (fun (F_6 : gm_M) =>
            post F_6 A_5
          )
        )
      ))
    )
  ) ∧ (x4_1 = p3 →
    vc_W_addSizes a0 l0 n0 a1 l1 n1 a2 l2 n2 F A (fun (F_7 : gm_M) (A_7 : gm_M) =>
      vc_W_setBelow a0 l0 n0 x4_1 F_7 A_7 (fun (F_8 : gm_M) =>
        post F_8 A_7
      )
    )
  ))
def vc_W_growBy (a0 l0 n0 : Nat) (p1 : Int64) (p2 : Int64) (F A : gm_M) (post : gm_M → gm_M → Prop) : Prop :=
  ∃ (I_6 : Int64 → Int32 → gm_M → Prop) (μ_6 : Int64 → Int32 → gm_M → Nat), I_6 p2 (0 : Int32) A ∧ ∀ (x5_1 : Int64) (x7_1 : Int32) (A_1 : gm_M), I_6 x5_1 x7_1 A_1 →
    (((F a0 1) ≤ x7_1 →
      (vp_in (F a0 1) n0) ∧ ∀ A_2 : gm_M, A_2 = gm_up A_1 l0 (F a0 1).toNatClampNeg (x5_1.toInt32) →
      vc_W_trim a0 l0 n0 ((F a0 1) + (1 : Int32)) F A_2 (fun (F_3 : gm_M) =>
        post F_3 A_2
      )
    ) ∧ (¬ (F a0 1) ≤ x7_1 →
      (vp_in x7_1 n0) ∧
      ∀ x8_4 : Int64, x8_4 = ((((A_1 l0 x7_1.toNatClampNeg).toInt64) * p1) + x5_1) →
      (vp_in x7_1 n0) ∧ ∀ A_5 : gm_M, A_5 = gm_up A_1 l0 x7_1.toNatClampNeg ((x8_4 &&& (2147483647 : Int64)).toInt32) →
      ∀ x5_6 : Int64, x5_6 = (j_lushr x8_4 (31 : Int32)) →
      ∀ x7_7 : Int32, x7_7 = x7_1 + (1 : Int32) →
      I_6 x5_6 x7_7 A_5 ∧ μ_6 x5_6 x7_7 A_5 < μ_6 x5_1 x7_1 A_1
    ))
def vc_W_growByOne (a0 l0 n0 : Nat) (F A : gm_M) (post : gm_M → gm_M → Prop) : Prop :=
  vc_W_growBy a0 l0 n0 (1 : Int64) (1 : Int64) F A (fun (F_1 : gm_M) (A_1 : gm_M) =>
    post F_1 A_1
  )
def vc_W_cutBy (a0 l0 n0 : Nat) (p1 : Int32) (F A : gm_M) (post : Int32 → gm_M → gm_M → Prop) : Prop :=
  ∀ x4_1 : Int32, x4_1 = ((F a0 1) - (1 : Int32)) →
  ∃ (I_10 : Int64 → Int32 → gm_M → Prop) (μ_10 : Int64 → Int32 → gm_M → Nat), I_10 (0 : Int64) x4_1 A ∧ ∀ (x2_2 : Int64) (x4_2 : Int32) (A_2 : gm_M), I_10 x2_2 x4_2 A_2 →
    ((x4_2 < (0) →
      vc_W_trim a0 l0 n0 (F a0 1) F A_2 (fun (F_3 : gm_M) =>
        post (x2_2.toInt32) F_3 A_2
      )
    ) ∧ (¬ x4_2 < (0) →
      (vp_in x4_2 n0) ∧
      ∀ x5_4 : Int64, x5_4 = ((j_lshl x2_2 (31 : Int32)) ||| ((A_2 l0 x4_2.toNatClampNeg).toInt64)) →
      (¬ (p1.toInt64) = 0) ∧
      (vp_in x4_2 n0) ∧ ∀ A_5 : gm_M, A_5 = gm_up A_2 l0 x4_2.toNatClampNeg ((x5_4 / (p1.toInt64)).toInt32) →
      (¬ (p1.toInt64) = 0) ∧
      ∀ x2_6 : Int64, x2_6 = (x5_4 - x5_4 / (p1.toInt64) * (p1.toInt64)) →
      ∀ x4_7 : Int32, x4_7 = x4_2 + (-1 : Int32) →
      I_10 x2_6 x4_7 A_5 ∧ μ_10 x2_6 x4_7 A_5 < μ_10 x2_2 x4_2 A_2
    ))
def vc_W_addRow (a0 l0 n0 : Nat) (p1 : Int64) (a2 l2 n2 : Nat) (p3 : Int32) (F A : gm_M) (post : gm_M → Prop) : Prop :=
  ∃ (I_6 : Int64 → Int32 → gm_M → Prop) (μ_6 : Int64 → Int32 → gm_M → Nat), I_6 (0 : Int64) (0 : Int32) A ∧ ∀ (x5_1 : Int64) (x7_1 : Int32) (A_1 : gm_M), I_6 x5_1 x7_1 A_1 →
    (((F a2 1) ≤ x7_1 →
      (vp_in (p3 + (F a2 1)) n0) ∧ ∀ A_2 : gm_M, A_2 = gm_up A_1 l0 (p3 + (F a2 1)).toNatClampNeg (x5_1.toInt32) →
      post A_2
    ) ∧ (¬ (F a2 1) ≤ x7_1 →
      (vp_in x7_1 n2) ∧
      (vp_in (p3 + x7_1) n0) ∧
      ∀ x8_3 : Int64, x8_3 = (((p1 * ((A_1 l2 x7_1.toNatClampNeg).toInt64)) + ((A_1 l0 (p3 + x7_1).toNatClampNeg).toInt64)) + x5_1) →
      (vp_in (p3 + x7_1) n0) ∧ ∀ A_4 : gm_M, A_4 = gm_up A_1 l0 (p3 + x7_1).toNatClampNeg ((x8_3 &&& (2147483647 : Int64)).toInt32) →
      ∀ x5_5 : Int64, x5_5 = (j_lushr x8_3 (31 : Int32)) →
      ∀ x7_6 : Int32, x7_6 = x7_1 + (1 : Int32) →
      I_6 x5_5 x7_6 A_4 ∧ μ_6 x5_5 x7_6 A_4 < μ_6 x5_1 x7_1 A_1
    ))
def vc_W_takeProduct (a0 l0 n0 : Nat) (a1 l1 n1 : Nat) (a2 l2 n2 : Nat) (F A : gm_M) (post : gm_M → gm_M → Prop) : Prop :=
  ∀ x3_1 : Int32, x3_1 = ((F a1 1) + (F a2 1)) →
  ∃ (I_13 : Int32 → gm_M → Prop) (μ_13 : Int32 → gm_M → Nat), I_13 (0 : Int32) A ∧ ∀ (x4_2 : Int32) (A_2 : gm_M), I_13 x4_2 A_2 →
    ((x3_1 ≤ x4_2 →
      ∃ (I_36 : Int32 → gm_M → Prop) (μ_36 : Int32 → gm_M → Nat), I_36 (0 : Int32) A_2 ∧ ∀ (x4_3 : Int32) (A_3 : gm_M), I_36 x4_3 A_3 →
        (((F a1 1) ≤ x4_3 →
          vc_W_trim a0 l0 n0 x3_1 F A_3 (fun (F_4 : gm_M) =>
            (((F_4 a1 2) = (F_4 a2 2) →
              vc_W_setBelow a0 l0 n0 (0 : Int32) F_4 A_3 (fun (F_5 : gm_M) =>
                post F_5 A_3
              )
            ) ∧ (¬ (F_4 a1 2) = (F_4 a2 2) →
              vc_W_setBelow a0 l0 n0 (1 : Int32) F_4 A_3 (fun (F_6 : gm_M) =>
                post F_6 A_3
              )
            ))
          )
        ) ∧ (¬ (F a1 1) ≤ x4_3 →
          (vp_in x4_3 n1) ∧
          vc_W_addRow a0 l0 n0 ((A_3 l1 x4_3.toNatClampNeg).toInt64) a2 l2 n2 x4_3 F A_3 (fun (A_7 : gm_M) =>
            ∀ x4_8 : Int32, x4_8 = x4_3 + (1 : Int32) →
            I_36 x4_8 A_7 ∧ μ_36 x4_8 A_7 < μ_36 x4_3 A_3
          )
        ))
    ) ∧ (¬ x3_1 ≤ x4_2 →
      (vp_in x4_2 n0) ∧ ∀ A_9 : gm_M, A_9 = gm_up A_2 l0 x4_2.toNatClampNeg (0 : Int32) →
      ∀ x4_10 : Int32, x4_10 = x4_2 + (1 : Int32) →
      I_13 x4_10 A_9 ∧ μ_13 x4_10 A_9 < μ_13 x4_2 A_2
    ))
def vc_W_raiseInto (a0 l0 n0 : Nat) (a1 n1 : Nat) (p2 : Int32) (p3 : Int32) (F A : gm_M) (post : gm_M → Prop) : Prop :=
  ∃ (I_6 : Int64 → Int32 → gm_M → Prop) (μ_6 : Int64 → Int32 → gm_M → Nat), I_6 (0 : Int64) (0 : Int32) A ∧ ∀ (x4_1 : Int64) (x6_1 : Int32) (A_1 : gm_M), I_6 x4_1 x6_1 A_1 →
    (((F a0 1) ≤ x6_1 →
      (vp_in (p2 + (F a0 1)) n1) ∧ ∀ A_2 : gm_M, A_2 = gm_up A_1 a1 (p2 + (F a0 1)).toNatClampNeg (x4_1.toInt32) →
      post A_2
    ) ∧ (¬ (F a0 1) ≤ x6_1 →
      (vp_in x6_1 n0) ∧
      ∀ x7_3 : Int64, x7_3 = ((j_lshl ((A_1 l0 x6_1.toNatClampNeg).toInt64) p3) ||| x4_1) →
      (vp_in (p2 + x6_1) n1) ∧ ∀ A_4 : gm_M, A_4 = gm_up A_1 a1 (p2 + x6_1).toNatClampNeg ((x7_3 &&& (2147483647 : Int64)).toInt32) →
      ∀ x4_5 : Int64, x4_5 = (j_lushr x7_3 (31 : Int32)) →
      ∀ x6_6 : Int32, x6_6 = x6_1 + (1 : Int32) →
      I_6 x4_5 x6_6 A_4 ∧ μ_6 x4_5 x6_6 A_4 < μ_6 x4_1 x6_1 A_1
    ))
def vc_W_takeRaised (a0 l0 n0 : Nat) (a1 l1 n1 : Nat) (p2 : Int32) (F A : gm_M) (post : gm_M → gm_M → Prop) : Prop :=
  ∃ (J_15 : Int32 → Prop), (
    ((¬ (F a1 1) = (0) →
      J_15 (p2 / (31 : Int32))
    ) ∧ ((F a1 1) = (0) →
      J_15 (0 : Int32)
    ))
  ) ∧ ((∀ (v0_1 : Int32), J_15 v0_1 →
    ∃ (I_19 : Int32 → gm_M → Prop) (μ_19 : Int32 → gm_M → Nat), I_19 (0 : Int32) A ∧ ∀ (x4_2 : Int32) (A_2 : gm_M), I_19 x4_2 A_2 →
      ((v0_1 ≤ x4_2 →
        vc_W_raiseInto a1 l1 n1 l0 n0 v0_1 (p2 - p2 / (31 : Int32) * (31 : Int32)) F A_2 (fun (A_3 : gm_M) =>
          vc_W_trim a0 l0 n0 ((v0_1 + (F a1 1)) + (1 : Int32)) F A_3 (fun (F_4 : gm_M) =>
            vc_W_setBelow a0 l0 n0 (F_4 a1 2) F_4 A_3 (fun (F_5 : gm_M) =>
              post F_5 A_3
            )
          )
        )
      ) ∧ (¬ v0_1 ≤ x4_2 →
        (vp_in x4_2 n0) ∧ ∀ A_6 : gm_M, A_6 = gm_up A_2 l0 x4_2.toNatClampNeg (0 : Int32) →
        ∀ x4_7 : Int32, x4_7 = x4_2 + (1 : Int32) →
        I_19 x4_7 A_6 ∧ μ_19 x4_7 A_6 < μ_19 x4_2 A_2
      ))
  ))
def vc_W_lowestLimb (a0 l0 n0 : Nat) (F A : gm_M) (post : Int32 → Prop) : Prop :=
  ∃ (I_2 : Int32 → Prop) (μ_2 : Int32 → Nat), I_2 (0 : Int32) ∧ ∀ (x1_1 : Int32), I_2 x1_1 →
    ((((F a0 1) - (1 : Int32)) ≤ x1_1 →
      post x1_1
    ) ∧ (¬ ((F a0 1) - (1 : Int32)) ≤ x1_1 →
      (vp_in x1_1 n0) ∧
      ((¬ (A l0 x1_1.toNatClampNeg) = (0) →
        post x1_1
      ) ∧ ((A l0 x1_1.toNatClampNeg) = (0) →
        ∀ x1_2 : Int32, x1_2 = x1_1 + (1 : Int32) →
        I_2 x1_2 ∧ μ_2 x1_2 < μ_2 x1_1
      ))
    ))
def vc_W_hasOnesUnder (a0 l0 n0 : Nat) (p1 : Int32) (p2 : Int32) (F A : gm_M) (post : Int32 → Prop) : Prop :=
  vc_W_lowestLimb a0 l0 n0 F A (fun (r_1 : Int32) =>
    ((r_1 < p1 →
      post (1 : Int32)
    ) ∧ (¬ r_1 < p1 →
      ((¬ r_1 = p1 →
        post (0 : Int32)
      ) ∧ (r_1 = p1 →
        (vp_in r_1 n0) ∧
        ((((A l0 r_1.toNatClampNeg) &&& (((1 : Int32) <<< (p2 &&& 31)) - (1 : Int32))) = (0) →
          post (0 : Int32)
        ) ∧ (¬ ((A l0 r_1.toNatClampNeg) &&& (((1 : Int32) <<< (p2 &&& 31)) - (1 : Int32))) = (0) →
          post (1 : Int32)
        ))
      ))
    ))
  )
def vc_W_takeLowered (a0 l0 n0 : Nat) (a1 l1 n1 : Nat) (p2 : Int32) (F A : gm_M) (post : gm_M → gm_M → Prop) : Prop :=
  ∀ x3_1 : Int32, x3_1 = (p2 / (31 : Int32)) →
  ∀ x4_2 : Int32, x4_2 = (p2 - p2 / (31 : Int32) * (31 : Int32)) →
  ∀ x5_3 : Int32, x5_3 = (if ((F a1 1) - x3_1) < (0 : Int32) then (0 : Int32) else ((F a1 1) - x3_1)) →
  ∃ (I_26 : Int32 → gm_M → Prop) (μ_26 : Int32 → gm_M → Nat), I_26 (0 : Int32) A ∧ ∀ (x6_4 : Int32) (A_4 : gm_M), I_26 x6_4 A_4 →
    ((x5_3 ≤ x6_4 →
      vc_W_trim a0 l0 n0 x5_3 F A_4 (fun (F_5 : gm_M) =>
        (((F_5 a1 2) = (0) →
          vc_W_setBelow a0 l0 n0 (F_5 a1 2) F_5 A_4 (fun (F_6 : gm_M) =>
            post F_6 A_4
          )
        ) ∧ (¬ (F_5 a1 2) = (0) →
          vc_W_hasOnesUnder a1 l1 n1 x3_1 x4_2 F_5 A_4 (fun (r_7 : Int32) =>
            ((r_7 = (0) →
              vc_W_setBelow a0 l0 n0 (F_5 a1 2) F_5 A_4 (fun (F_8 : gm_M) =>
                post F_8 A_4
              )
            ) ∧ (¬ r_7 = (0) →
              vc_W_growByOne a0 l0 n0 F_5 A_4 (fun (F_9 : gm_M) (A_9 : gm_M) =>
                vc_W_setBelow a0 l0 n0 (F_9 a1 2) F_9 A_9 (fun (F_10 : gm_M) =>
                  post F_10 A_9
                )
              )
            ))
          )
        ))
      )
    ) ∧ (¬ x5_3 ≤ x6_4 →
      vc_W_limbAt a1 l1 n1 ((x3_1 + x6_4) + (1 : Int32)) F A_4 (fun (r_11 : Int32) =>
        vc_W_limbAt a1 l1 n1 (x3_1 + x6_4) F A_4 (fun (r_12 : Int32) =>
          ∀ x7_13 : Int64, x7_13 = ((j_lshl (r_11.toInt64) (31 : Int32)) ||| (r_12.toInt64)) →
          (vp_in x6_4 n0) ∧ ∀ A_14 : gm_M, A_14 = gm_up A_4 l0 x6_4.toNatClampNeg (((j_lushr x7_13 x4_2) &&& (2147483647 : Int64)).toInt32) →
          ∀ x6_15 : Int32, x6_15 = x6_4 + (1 : Int32) →
          I_26 x6_15 A_14 ∧ μ_26 x6_15 A_14 < μ_26 x6_4 A_4
        )
      )
    ))
def vc_W_endlessLimb (a0 l0 n0 : Nat) (p1 : Int32) (p2 : Int32) (F A : gm_M) (post : Int32 → Prop) : Prop :=
  ((¬ (F a0 2) = (0) →
    ((p2 < p1 →
      vc_W_limbAt a0 l0 n0 p1 F A (fun (r_1 : Int32) =>
        post ((r_1 ^^^ (-1 : Int32)) &&& (2147483647 : Int32))
      )
    ) ∧ (¬ p2 < p1 →
      vc_W_limbAt a0 l0 n0 p1 F A (fun (r_2 : Int32) =>
        post ((-r_2) &&& (2147483647 : Int32))
      )
    ))
  ) ∧ ((F a0 2) = (0) →
    vc_W_limbAt a0 l0 n0 p1 F A (fun (r_3 : Int32) =>
      post r_3
    )
  ))
def vc_W_joined (p1 : Int32) (p2 : Int32) (p3 : Int32) (F A : gm_M) (post : Int32 → Prop) : Prop :=
  ((¬ p1 = (0) →
    ((¬ p1 = (1 : Int32) →
      post (p2 ^^^ p3)
    ) ∧ (p1 = (1 : Int32) →
      post (p2 ||| p3)
    ))
  ) ∧ (p1 = (0) →
    post (p2 &&& p3)
  ))
def vc_W_takeBits (a0 l0 n0 : Nat) (p1 : Int32) (a2 l2 n2 : Nat) (a3 l3 n3 : Nat) (F A : gm_M) (post : gm_M → gm_M → Prop) : Prop :=
  vc_W_lowestLimb a2 l2 n2 F A (fun (r_1 : Int32) =>
    vc_W_lowestLimb a3 l3 n3 F A (fun (r_2 : Int32) =>
      ∃ (I_15 : Int32 → gm_M → Prop) (μ_15 : Int32 → gm_M → Nat), I_15 (0 : Int32) A ∧ ∀ (x6_3 : Int32) (A_3 : gm_M), I_15 x6_3 A_3 →
        (((67 : Int32) ≤ x6_3 →
          ∀ F_4 : gm_M, F_4 = gm_up F a0 1 (67 : Int32) →
          ∃ (J_75 : Int32 → Prop), (
            (((F_4 a2 2) = (0) →
              J_75 (0 : Int32)
            ) ∧ (¬ (F_4 a2 2) = (0) →
              J_75 (1 : Int32)
            ))
          ) ∧ ((∀ (v0_5 : Int32), J_75 v0_5 →
            ∃ (J_87 : Int32 → Prop), (
              (((F_4 a3 2) = (0) →
                J_87 (0 : Int32)
              ) ∧ (¬ (F_4 a3 2) = (0) →
                J_87 (1 : Int32)
              ))
            ) ∧ ((∀ (v0_6 : Int32), J_87 v0_6 →
              vc_W_joined p1 v0_5 v0_6 F_4 A_3 (fun (r_7 : Int32) =>
                ∃ (J_99 : Int32 → Prop), (
                  ((¬ r_7 = (1 : Int32) →
                    J_99 (0 : Int32)
                  ) ∧ (r_7 = (1 : Int32) →
                    J_99 (1 : Int32)
                  ))
                ) ∧ ((∀ (v0_8 : Int32), J_99 v0_8 →
                  (v0_8 = 0 ∨ v0_8 = 1) ∧
                  ∀ F_9 : gm_M, F_9 = gm_up F_4 a0 2 v0_8 →
                  vc_W_lowestLimb a0 l0 n0 F_9 A_3 (fun (r_10 : Int32) =>
                    ∃ (I_111 : Int32 → gm_M → Prop) (μ_111 : Int32 → gm_M → Nat), I_111 (0 : Int32) A_3 ∧ ∀ (x7_11 : Int32) (A_11 : gm_M), I_111 x7_11 A_11 →
                      (((67 : Int32) ≤ x7_11 →
                        vc_W_trim a0 l0 n0 (67 : Int32) F_9 A_11 (fun (F_12 : gm_M) =>
                          post F_12 A_11
                        )
                      ) ∧ (¬ (67 : Int32) ≤ x7_11 →
                        vc_W_endlessLimb a0 l0 n0 x7_11 r_10 F_9 A_11 (fun (r_13 : Int32) =>
                          (vp_in x7_11 n0) ∧ ∀ A_14 : gm_M, A_14 = gm_up A_11 l0 x7_11.toNatClampNeg r_13 →
                          ∀ x7_15 : Int32, x7_15 = x7_11 + (1 : Int32) →
                          I_111 x7_15 A_14 ∧ μ_111 x7_15 A_14 < μ_111 x7_11 A_11
                        )
                      ))
                  )
                ))
              )
            ))
          ))
        ) ∧ (¬ (67 : Int32) ≤ x6_3 →
          vc_W_endlessLimb a2 l2 n2 x6_3 r_1 F A_3 (fun (r_16 : Int32) =>
            vc_W_endlessLimb a3 l3 n3 x6_3 r_2 F A_3 (fun (r_17 : Int32) =>
              vc_W_joined p1 r_16 r_17 F A_3 (fun (r_18 : Int32) =>
                (vp_in x6_3 n0) ∧ ∀ A_19 : gm_M, A_19 = gm_up A_3 l0 x6_3.toNatClampNeg r_18 →
                ∀ x6_20 : Int32, x6_20 = x6_3 + (1 : Int32) →
                I_15 x6_20 A_19 ∧ μ_15 x6_20 A_19 < μ_15 x6_3 A_3
              )
            )
          )
        ))
    )
  )
def vc_D_guessAt (K : Nat → Nat) (p1 : Int32) (p2 : Int32) (F A : gm_M) (post : Int64 → Prop) : Prop :=
  (vp_in (p2 - (1 : Int32)) 68) ∧
  ∀ x3_1 : Int64, x3_1 = ((A (K 6) (p2 - (1 : Int32)).toNatClampNeg).toInt64) →
  ∃ (J_28 : Int64 → Prop), (
    ((p2 ≤ (1 : Int32) →
      J_28 (0 : Int64)
    ) ∧ (¬ p2 ≤ (1 : Int32) →
      (vp_in (p2 - (2 : Int32)) 68) ∧
      J_28 ((A (K 6) (p2 - (2 : Int32)).toNatClampNeg).toInt64)
    ))
  ) ∧ ((∀ (v0_2 : Int64), J_28 v0_2 →
    ∃ (J_50 : Int64 → Prop), (
      ((p2 ≤ (1 : Int32) →
        J_50 (0 : Int64)
      ) ∧ (¬ p2 ≤ (1 : Int32) →
        (vp_in ((p1 + p2) - (2 : Int32)) 135) ∧
        J_50 ((A (K 5) ((p1 + p2) - (2 : Int32)).toNatClampNeg).toInt64)
      ))
    ) ∧ ((∀ (v0_3 : Int64), J_50 v0_3 →
      (vp_in (p1 + p2) 135) ∧
      (vp_in ((p1 + p2) - (1 : Int32)) 135) ∧
      ∀ x9_4 : Int64, x9_4 = ((j_lshl ((A (K 5) (p1 + p2).toNatClampNeg).toInt64) (31 : Int32)) ||| ((A (K 5) ((p1 + p2) - (1 : Int32)).toNatClampNeg).toInt64)) →
      (¬ x3_1 = 0) ∧
      ∀ x11_5 : Int64, x11_5 = (if (2147483647 : Int64) < (x9_4 / x3_1) then (2147483647 : Int64) else (x9_4 / x3_1)) →
      ∀ x13_6 : Int64, x13_6 = (x9_4 - (x11_5 * x3_1)) →
      ∃ (I_102 : Int64 → Int64 → Int32 → Prop) (μ_102 : Int64 → Int64 → Int32 → Nat), I_102 x11_5 x13_6 (0 : Int32) ∧ ∀ (x11_7 : Int64) (x13_7 : Int64) (x15_7 : Int32), I_102 x11_7 x13_7 x15_7 →
        (((2 : Int32) ≤ x15_7 →
          post x11_7
        ) ∧ (¬ (2 : Int32) ≤ x15_7 →
          (((2147483647 : Int64) < x13_7 →
            post x11_7
          ) ∧ (¬ (2147483647 : Int64) < x13_7 →
            (((x11_7 * v0_2) ≤ ((j_lshl x13_7 (31 : Int32)) ||| v0_3) →
              post x11_7
            ) ∧ (¬ (x11_7 * v0_2) ≤ ((j_lshl x13_7 (31 : Int32)) ||| v0_3) →
              ∀ x11_8 : Int64, x11_8 = (x11_7 - (1 : Int64)) →
              ∀ x13_9 : Int64, x13_9 = (x13_7 + x3_1) →
              ∀ x15_10 : Int32, x15_10 = x15_7 + (1 : Int32) →
              I_102 x11_8 x13_9 x15_10 ∧ μ_102 x11_8 x13_9 x15_10 < μ_102 x11_7 x13_7 x15_7
            ))
          ))
        ))
    ))
  ))
def vc_D_takeAway (K : Nat → Nat) (p1 : Int64) (p2 : Int32) (p3 : Int32) (F A : gm_M) (post : Int32 → gm_M → Prop) : Prop :=
  ∃ (I_6 : Int64 → Int32 → gm_M → Prop) (μ_6 : Int64 → Int32 → gm_M → Nat), I_6 (0 : Int64) (0 : Int32) A ∧ ∀ (x5_1 : Int64) (x7_1 : Int32) (A_1 : gm_M), I_6 x5_1 x7_1 A_1 →
    ((p3 ≤ x7_1 →
      (vp_in (p2 + p3) 135) ∧
      ∀ x7_2 : Int64, x7_2 = (((A_1 (K 5) (p2 + p3).toNatClampNeg).toInt64) - x5_1) →
      (vp_in (p2 + p3) 135) ∧ ∀ A_3 : gm_M, A_3 = gm_up A_1 (K 5) (p2 + p3).toNatClampNeg ((x7_2 &&& (2147483647 : Int64)).toInt32) →
      (((0 : Int64) ≤ x7_2 →
        post (0 : Int32) A_3
      ) ∧ (¬ (0 : Int64) ≤ x7_2 →
        post (1 : Int32) A_3
      ))
    ) ∧ (¬ p3 ≤ x7_1 →
      (vp_in (p2 + x7_1) 135) ∧
      (vp_in x7_1 68) ∧
      ∀ x8_4 : Int64, x8_4 = ((((A_1 (K 5) (p2 + x7_1).toNatClampNeg).toInt64) - (p1 * ((A_1 (K 6) x7_1.toNatClampNeg).toInt64))) - x5_1) →
      (vp_in (p2 + x7_1) 135) ∧ ∀ A_5 : gm_M, A_5 = gm_up A_1 (K 5) (p2 + x7_1).toNatClampNeg ((x8_4 &&& (2147483647 : Int64)).toInt32) →
      ∀ x5_6 : Int64, x5_6 = (-(j_lshr x8_4 (31 : Int32))) →
      ∀ x7_7 : Int32, x7_7 = x7_1 + (1 : Int32) →
      I_6 x5_6 x7_7 A_5 ∧ μ_6 x5_6 x7_7 A_5 < μ_6 x5_1 x7_1 A_1
    ))
def vc_D_giveBack (K : Nat → Nat) (p1 : Int32) (p2 : Int32) (F A : gm_M) (post : gm_M → Prop) : Prop :=
  ∃ (I_5 : Int64 → Int32 → gm_M → Prop) (μ_5 : Int64 → Int32 → gm_M → Nat), I_5 (0 : Int64) (0 : Int32) A ∧ ∀ (x3_1 : Int64) (x5_1 : Int32) (A_1 : gm_M), I_5 x3_1 x5_1 A_1 →
    ((p2 ≤ x5_1 →
      (vp_in (p1 + p2) 135) ∧
      (vp_in (p1 + p2) 135) ∧ ∀ A_2 : gm_M, A_2 = gm_up A_1 (K 5) (p1 + p2).toNatClampNeg (((((A_1 (K 5) (p1 + p2).toNatClampNeg).toInt64) + x3_1) &&& (2147483647 : Int64)).toInt32) →
      post A_2
    ) ∧ (¬ p2 ≤ x5_1 →
      (vp_in (p1 + x5_1) 135) ∧
      (vp_in x5_1 68) ∧
      ∀ x6_3 : Int64, x6_3 = ((((A_1 (K 5) (p1 + x5_1).toNatClampNeg).toInt64) + ((A_1 (K 6) x5_1.toNatClampNeg).toInt64)) + x3_1) →
      (vp_in (p1 + x5_1) 135) ∧ ∀ A_4 : gm_M, A_4 = gm_up A_1 (K 5) (p1 + x5_1).toNatClampNeg ((x6_3 &&& (2147483647 : Int64)).toInt32) →
      ∀ x3_5 : Int64, x3_5 = (j_lushr x6_3 (31 : Int32)) →
      ∀ x5_6 : Int32, x5_6 = x5_1 + (1 : Int32) →
      I_5 x3_5 x5_6 A_4 ∧ μ_5 x3_5 x5_6 A_4 < μ_5 x3_1 x5_1 A_1
    ))
def vc_D_digitAt (K : Nat → Nat) (p1 : Int32) (p2 : Int32) (F A : gm_M) (post : Int32 → gm_M → Prop) : Prop :=
  vc_D_guessAt K p1 p2 F A (fun (r_1 : Int64) =>
    vc_D_takeAway K r_1 p1 p2 F A (fun (r_2 : Int32) (A_2 : gm_M) =>
      ((r_2 = (0) →
        post (r_1.toInt32) A_2
      ) ∧ (¬ r_2 = (0) →
        vc_D_giveBack K p1 p2 F A_2 (fun (A_3 : gm_M) =>
          ∀ x3_4 : Int64, x3_4 = (r_1 - (1 : Int64)) →
          post (x3_4.toInt32) A_3
        )
      ))
    )
  )
def vc_D_lowerRest (K : Nat → Nat) (p1 : Int32) (p2 : Int32) (F A : gm_M) (post : gm_M → gm_M → Prop) : Prop :=
  ∃ (I_2 : Int32 → gm_M → Prop) (μ_2 : Int32 → gm_M → Nat), I_2 (0 : Int32) A ∧ ∀ (x3_1 : Int32) (A_1 : gm_M), I_2 x3_1 A_1 →
    ((p1 ≤ x3_1 →
      ∀ F_2 : gm_M, F_2 = gm_up F (K 41) 2 (0 : Int32) →
      vc_W_trim (K 41) (K 42) (135) p1 F_2 A_1 (fun (F_3 : gm_M) =>
        post F_3 A_1
      )
    ) ∧ (¬ p1 ≤ x3_1 →
      (vp_in (x3_1 + (1 : Int32)) 135) ∧
      (vp_in x3_1 135) ∧
      ∀ x4_4 : Int64, x4_4 = ((j_lshl ((A_1 (K 5) (x3_1 + (1 : Int32)).toNatClampNeg).toInt64) (31 : Int32)) ||| ((A_1 (K 5) x3_1.toNatClampNeg).toInt64)) →
      (vp_in x3_1 135) ∧ ∀ A_5 : gm_M, A_5 = gm_up A_1 (K 42) x3_1.toNatClampNeg (((j_lushr x4_4 p2) &&& (2147483647 : Int64)).toInt32) →
      ∀ x3_6 : Int32, x3_6 = x3_1 + (1 : Int32) →
      I_2 x3_6 A_5 ∧ μ_2 x3_6 A_5 < μ_2 x3_1 A_1
    ))
def vc_D_cut (K : Nat → Nat) (a1 l1 n1 : Nat) (a2 l2 n2 : Nat) (F A : gm_M) (post : gm_M → gm_M → Prop) : Prop :=
  vc_W_takeLong (K 39) (K 40) (135) (0 : Int64) F A (fun (F_1 : gm_M) (A_1 : gm_M) =>
    vc_W_orderOfSizes a1 l1 n1 a2 l2 n2 F_1 A_1 (fun (r_2 : Int32) =>
      (((0) ≤ r_2 →
        ∀ x3_3 : Int32, x3_3 = (F_1 a2 1) →
        ∀ x4_4 : Int32, x4_4 = (((F_1 a1 1) - x3_3) + (1 : Int32)) →
        (vp_in (x3_3 - (1 : Int32)) n2) ∧
        vc_W_bitsIn (A_1 l2 (x3_3 - (1 : Int32)).toNatClampNeg) F_1 A_1 (fun (r_5 : Int32) =>
          ∀ x5_6 : Int32, x5_6 = ((31 : Int32) - r_5) →
          vc_W_raiseInto a2 l2 n2 (K 6) (68) (0 : Int32) x5_6 F_1 A_1 (fun (A_7 : gm_M) =>
            vc_W_raiseInto a1 l1 n1 (K 5) (135) (0 : Int32) x5_6 F_1 A_7 (fun (A_8 : gm_M) =>
              ∀ x6_9 : Int32, x6_9 = (x4_4 - (1 : Int32)) →
              ∃ (I_92 : Int32 → gm_M → Prop) (μ_92 : Int32 → gm_M → Nat), I_92 x6_9 A_8 ∧ ∀ (x6_10 : Int32) (A_10 : gm_M), I_92 x6_10 A_10 →
                ((x6_10 < (0) →
                  vc_W_trim (K 39) (K 40) (135) x4_4 F_1 A_10 (fun (F_11 : gm_M) =>
                    vc_D_lowerRest K x3_3 x5_6 F_11 A_10 (fun (F_12 : gm_M) (A_12 : gm_M) =>
                      post F_12 A_12
                    )
                  )
                ) ∧ (¬ x6_10 < (0) →
                  vc_D_digitAt K x6_10 x3_3 F_1 A_10 (fun (r_13 : Int32) (A_13 : gm_M) =>
                    (vp_in x6_10 135) ∧ ∀ A_14 : gm_M, A_14 = gm_up A_13 (K 40) x6_10.toNatClampNeg r_13 →
                    ∀ x6_15 : Int32, x6_15 = x6_10 + (-1 : Int32) →
                    I_92 x6_15 A_14 ∧ μ_92 x6_15 A_14 < μ_92 x6_10 A_10
                  )
                ))
            )
          )
        )
      ) ∧ (¬ (0) ≤ r_2 →
        vc_W_takeCopy (K 41) (K 42) (135) a1 l1 n1 F_1 A_1 (fun (F_16 : gm_M) (A_16 : gm_M) =>
          vc_W_setBelow (K 41) (K 42) (135) (0 : Int32) F_16 A_16 (fun (F_17 : gm_M) =>
            post F_17 A_16
          )
        )
      ))
    )
  )
def vc_D_cutSigned (K : Nat → Nat) (a1 l1 n1 : Nat) (a2 l2 n2 : Nat) (F A : gm_M) (post : gm_M → gm_M → Prop) : Prop :=
  vc_D_cut K a1 l1 n1 a2 l2 n2 F A (fun (F_1 : gm_M) (A_1 : gm_M) =>
    (((F_1 a1 2) = (F_1 a2 2) →
      vc_W_setBelow (K 39) (K 40) (135) (0 : Int32) F_1 A_1 (fun (F_2 : gm_M) =>
        vc_W_setBelow (K 41) (K 42) (135) (F_2 a1 2) F_2 A_1 (fun (F_3 : gm_M) =>
          post F_3 A_1
        )
      )
    ) ∧ (¬ (F_1 a1 2) = (F_1 a2 2) →
      vc_W_setBelow (K 39) (K 40) (135) (1 : Int32) F_1 A_1 (fun (F_4 : gm_M) =>
        vc_W_setBelow (K 41) (K 42) (135) (F_4 a1 2) F_4 A_1 (fun (F_5 : gm_M) =>
          post F_5 A_1
        )
      )
    ))
  )
def vc_D_roundDown (K : Nat → Nat) (a1 l1 n1 : Nat) (F A : gm_M) (post : gm_M → gm_M → Prop) : Prop :=
  vc_W_sign (K 41) (K 42) (135) F A (fun (r_1 : Int32) =>
    vc_W_sign a1 l1 n1 F A (fun (r_2 : Int32) =>
      (((0) ≤ (r_1 * r_2) →
        post F A
      ) ∧ (¬ (0) ≤ (r_1 * r_2) →
        vc_W_takeSum (K 41) (K 42) (135) (K 41) (K 42) (135) a1 l1 n1 (F a1 2) F A (fun (F_3 : gm_M) (A_3 : gm_M) =>
          vc_W_growByOne (K 39) (K 40) (135) F_3 A_3 (fun (F_4 : gm_M) (A_4 : gm_M) =>
            vc_W_setBelow (K 39) (K 40) (135) (1 : Int32) F_4 A_4 (fun (F_5 : gm_M) =>
              post F_5 A_4
            )
          )
        )
      ))
    )
  )
def vc_T_octetOf (p1 : Int64) (p2 : Int32) (F A : gm_M) (post : Int32 → Prop) : Prop :=
  post (((j_lushr p1 ((8 : Int32) * p2)).toInt32) &&& (255 : Int32))
def vc_T_countIn (p1 : Int64) (F A : gm_M) (post : Int32 → Prop) : Prop :=
  ∃ (I_2 : Int32 → Prop) (μ_2 : Int32 → Nat), I_2 (0 : Int32) ∧ ∀ (x2_1 : Int32), I_2 x2_1 →
    (((8 : Int32) ≤ x2_1 →
      post (8 : Int32)
    ) ∧ (¬ (8 : Int32) ≤ x2_1 →
      vc_T_octetOf p1 x2_1 F A (fun (r_2 : Int32) =>
        ((¬ r_2 = (0) →
          ((r_2 < (32 : Int32) →
            post (0 : Int32)
          ) ∧ (¬ r_2 < (32 : Int32) →
            ((r_2 ≤ (126 : Int32) →
              ∀ x2_3 : Int32, x2_3 = x2_1 + (1 : Int32) →
              I_2 x2_3 ∧ μ_2 x2_3 < μ_2 x2_1
            ) ∧ (¬ r_2 ≤ (126 : Int32) →
              post (0 : Int32)
            ))
          ))
        ) ∧ (r_2 = (0) →
          post x2_1
        ))
      )
    ))
def vc_T_put (K : Nat → Nat) (p1 : Int32) (F A : gm_M) (post : gm_M → gm_M → Prop) : Prop :=
  (((2100 : Int32) ≤ (F (K 2) 1) →
    post F A
  ) ∧ (¬ (2100 : Int32) ≤ (F (K 2) 1) →
    (vp_in (F (K 2) 1) 2100) ∧ ∀ A_1 : gm_M, A_1 = gm_up A (K 3) (F (K 2) 1).toNatClampNeg (vp_nar .byte (p1.toInt8.toInt32)) →
    ∀ F_2 : gm_M, F_2 = gm_up F (K 2) 1 ((F (K 2) 1) + (1 : Int32)) →
    post F_2 A_1
  ))
def vc_T_append (K : Nat → Nat) (p1 : Int64) (p2 : Int32) (F A : gm_M) (post : gm_M → gm_M → Prop) : Prop :=
  ∃ (I_3 : Int32 → gm_M → gm_M → Prop) (μ_3 : Int32 → gm_M → gm_M → Nat), I_3 (0 : Int32) F A ∧ ∀ (x4_1 : Int32) (F_1 : gm_M) (A_1 : gm_M), I_3 x4_1 F_1 A_1 →
    ((p2 ≤ x4_1 →
      post F_1 A_1
    ) ∧ (¬ p2 ≤ x4_1 →
      vc_T_octetOf p1 x4_1 F_1 A_1 (fun (r_2 : Int32) =>
        vc_T_put K r_2 F_1 A_1 (fun (F_3 : gm_M) (A_3 : gm_M) =>
          ∀ x4_4 : Int32, x4_4 = x4_1 + (1 : Int32) →
          I_3 x4_4 F_3 A_3 ∧ μ_3 x4_4 F_3 A_3 < μ_3 x4_1 F_1 A_1
        )
      )
    ))
def vc_T_haveMinus (K : Nat → Nat) (F A : gm_M) (post : Int32 → Prop) : Prop :=
  (((F (K 2) 1) ≤ (0) →
    post (0 : Int32)
  ) ∧ (¬ (F (K 2) 1) ≤ (0) →
    (vp_in (0 : Int32) 2100) ∧
    ((¬ (A (K 3) (0 : Int32).toNatClampNeg) = (45 : Int32) →
      post (0 : Int32)
    ) ∧ ((A (K 3) (0 : Int32).toNatClampNeg) = (45 : Int32) →
      post (1 : Int32)
    ))
  ))
def vc_T_digitOf (p1 : Int32) (F A : gm_M) (post : Int32 → Prop) : Prop :=
  ∃ (J_17 : Prop), (
    ((p1 < (48 : Int32) →
      J_17
    ) ∧ (¬ p1 < (48 : Int32) →
      (((57 : Int32) < p1 →
        J_17
      ) ∧ (¬ (57 : Int32) < p1 →
        post (p1 - (48 : Int32))
      ))
    ))
  ) ∧ ((J_17 →
    ∃ (J_37 : Prop), (
      ((p1 < (97 : Int32) →
        J_37
      ) ∧ (¬ p1 < (97 : Int32) →
        (((122 : Int32) < p1 →
          J_37
        ) ∧ (¬ (122 : Int32) < p1 →
          post ((p1 - (97 : Int32)) + (10 : Int32))
        ))
      ))
    ) ∧ ((J_37 →
      ((p1 < (65 : Int32) →
        post (36 : Int32)
      ) ∧ (¬ p1 < (65 : Int32) →
        (((90 : Int32) < p1 →
          post (36 : Int32)
        ) ∧ (¬ (90 : Int32) < p1 →
          post ((p1 - (65 : Int32)) + (10 : Int32))
        ))
      ))
    ))
  ))
def vc_T_areNumber (K : Nat → Nat) (p1 : Int32) (F A : gm_M) (post : Int32 → Prop) : Prop :=
  vc_T_haveMinus K F A (fun (r_1 : Int32) =>
    ∃ (J_12 : Int32 → Prop), (
      ((r_1 = (0) →
        J_12 (0 : Int32)
      ) ∧ (¬ r_1 = (0) →
        J_12 (1 : Int32)
      ))
    ) ∧ ((∀ (v0_2 : Int32), J_12 v0_2 →
      ∃ (I_15 : Int32 → Prop) (μ_15 : Int32 → Nat), I_15 v0_2 ∧ ∀ (x3_3 : Int32), I_15 x3_3 →
        (((F (K 2) 1) ≤ x3_3 →
          (((F (K 2) 1) ≤ v0_2 →
            post (0 : Int32)
          ) ∧ (¬ (F (K 2) 1) ≤ v0_2 →
            post (1 : Int32)
          ))
        ) ∧ (¬ (F (K 2) 1) ≤ x3_3 →
          (vp_in x3_3 2100) ∧
          vc_T_digitOf (A (K 3) x3_3.toNatClampNeg) F A (fun (r_4 : Int32) =>
            ((r_4 < p1 →
              ∀ x3_5 : Int32, x3_5 = x3_3 + (1 : Int32) →
              I_15 x3_5 ∧ μ_15 x3_5 < μ_15 x3_3
            ) ∧ (¬ r_4 < p1 →
              post (0 : Int32)
            ))
          )
        ))
    ))
  )
def vc_T_writeTo (K : Nat → Nat) (a1 l1 n1 : Nat) (p2 : Int32) (F A : gm_M) (post : gm_M → gm_M → Prop) : Prop :=
  vc_W_takeLong a1 l1 n1 (0 : Int64) F A (fun (F_1 : gm_M) (A_1 : gm_M) =>
    vc_T_haveMinus K F_1 A_1 (fun (r_2 : Int32) =>
      ∃ (J_22 : Int32 → Prop), (
        ((r_2 = (0) →
          J_22 (0 : Int32)
        ) ∧ (¬ r_2 = (0) →
          J_22 (1 : Int32)
        ))
      ) ∧ ((∀ (v0_3 : Int32), J_22 v0_3 →
        ∃ (I_24 : Int64 → Int64 → Int32 → gm_M → gm_M → Prop) (μ_24 : Int64 → Int64 → Int32 → gm_M → gm_M → Nat), I_24 (1 : Int64) (0 : Int64) v0_3 F_1 A_1 ∧ ∀ (x3_4 : Int64) (x5_4 : Int64) (x7_4 : Int32) (F_4 : gm_M) (A_4 : gm_M), I_24 x3_4 x5_4 x7_4 F_4 A_4 →
          (((F_4 (K 2) 1) ≤ x7_4 →
            vc_T_haveMinus K F_4 A_4 (fun (r_5 : Int32) =>
              vc_W_setBelow a1 l1 n1 r_5 F_4 A_4 (fun (F_6 : gm_M) =>
                post F_6 A_4
              )
            )
          ) ∧ (¬ (F_4 (K 2) 1) ≤ x7_4 →
            (((67 : Int32) < (F_4 a1 1) →
              vc_T_haveMinus K F_4 A_4 (fun (r_7 : Int32) =>
                vc_W_setBelow a1 l1 n1 r_7 F_4 A_4 (fun (F_8 : gm_M) =>
                  post F_8 A_4
                )
              )
            ) ∧ (¬ (67 : Int32) < (F_4 a1 1) →
              ∀ x3_9 : Int64, x3_9 = (x3_4 * (p2.toInt64)) →
              (vp_in x7_4 2100) ∧
              vc_T_digitOf (A_4 (K 3) x7_4.toNatClampNeg) F_4 A_4 (fun (r_10 : Int32) =>
                ∀ x5_11 : Int64, x5_11 = ((x5_4 * (p2.toInt64)) + (r_10.toInt64)) →
                (((2147483647 : Int64) < (x3_9 * (p2.toInt64)) →
                  vc_W_growBy a1 l1 n1 x3_9 x5_11 F_4 A_4 (fun (F_12 : gm_M) (A_12 : gm_M) =>
                    ∀ x7_13 : Int32, x7_13 = x7_4 + (1 : Int32) →
                    I_24 (1 : Int64) (0 : Int64) x7_13 F_12 A_12 ∧ μ_24 (1 : Int64) (0 : Int64) x7_13 F_12 A_12 < μ_24 x3_4 x5_4 x7_4 F_4 A_4
                  )
                ) ∧ (¬ (2147483647 : Int64) < (x3_9 * (p2.toInt64)) →
                  ((¬ x7_4 = ((F_4 (K 2) 1) - (1 : Int32)) →
                    ∀ x7_14 : Int32, x7_14 = x7_4 + (1 : Int32) →
                    I_24 x3_9 x5_11 x7_14 F_4 A_4 ∧ μ_24 x3_9 x5_11 x7_14 F_4 A_4 < μ_24 x3_4 x5_4 x7_4 F_4 A_4
                  ) ∧ (x7_4 = ((F_4 (K 2) 1) - (1 : Int32)) →
                    vc_W_growBy a1 l1 n1 x3_9 x5_11 F_4 A_4 (fun (F_15 : gm_M) (A_15 : gm_M) =>
                      ∀ x7_16 : Int32, x7_16 = x7_4 + (1 : Int32) →
                      I_24 (1 : Int64) (0 : Int64) x7_16 F_15 A_15 ∧ μ_24 (1 : Int64) (0 : Int64) x7_16 F_15 A_15 < μ_24 x3_4 x5_4 x7_4 F_4 A_4
                    )
                  ))
                ))
              )
            ))
          ))
      ))
    )
  )
def vc_T_digitsInLimb (p1 : Int32) (F A : gm_M) (post : Int32 → Prop) : Prop :=
  ∀ x1_1 : Int64, x1_1 = (p1.toInt64) →
  ∃ (I_5 : Int64 → Int32 → Prop) (μ_5 : Int64 → Int32 → Nat), I_5 x1_1 (1 : Int32) ∧ ∀ (x1_2 : Int64) (x3_2 : Int32), I_5 x1_2 x3_2 →
    (((31 : Int32) ≤ x3_2 →
      post x3_2
    ) ∧ (¬ (31 : Int32) ≤ x3_2 →
      (((2147483647 : Int64) < (x1_2 * (p1.toInt64)) →
        post x3_2
      ) ∧ (¬ (2147483647 : Int64) < (x1_2 * (p1.toInt64)) →
        ∀ x1_3 : Int64, x1_3 = (x1_2 * (p1.toInt64)) →
        ∀ x3_4 : Int32, x3_4 = x3_2 + (1 : Int32) →
        I_5 x1_3 x3_4 ∧ μ_5 x1_3 x3_4 < μ_5 x1_2 x3_2
      ))
    ))
def vc_T_powerOf (p1 : Int32) (p2 : Int32) (F A : gm_M) (post : Int32 → Prop) : Prop :=
  ∃ (I_4 : Int32 → Int32 → Prop) (μ_4 : Int32 → Int32 → Nat), I_4 (1 : Int32) (0 : Int32) ∧ ∀ (x2_1 : Int32) (x3_1 : Int32), I_4 x2_1 x3_1 →
    ((p2 ≤ x3_1 →
      post x2_1
    ) ∧ (¬ p2 ≤ x3_1 →
      ∀ x2_2 : Int32, x2_2 = (x2_1 * p1) →
      ∀ x3_3 : Int32, x3_3 = x3_1 + (1 : Int32) →
      I_4 x2_2 x3_3 ∧ μ_4 x2_2 x3_3 < μ_4 x2_1 x3_1
    ))
def vc_T_turnRound (K : Nat → Nat) (F A : gm_M) (post : gm_M → Prop) : Prop :=
  ∃ (I_2 : Int32 → gm_M → Prop) (μ_2 : Int32 → gm_M → Nat), I_2 (0 : Int32) A ∧ ∀ (x1_1 : Int32) (A_1 : gm_M), I_2 x1_1 A_1 →
    ((((F (K 2) 1) / (2 : Int32)) ≤ x1_1 →
      post A_1
    ) ∧ (¬ ((F (K 2) 1) / (2 : Int32)) ≤ x1_1 →
      (vp_in x1_1 2100) ∧
      ∀ x2_2 : Int32, x2_2 = (A_1 (K 3) x1_1.toNatClampNeg) →
      (vp_in (((F (K 2) 1) - (1 : Int32)) - x1_1) 2100) ∧
      (vp_in x1_1 2100) ∧ ∀ A_3 : gm_M, A_3 = gm_up A_1 (K 3) x1_1.toNatClampNeg (vp_nar .byte (A_1 (K 3) (((F (K 2) 1) - (1 : Int32)) - x1_1).toNatClampNeg)) →
      (vp_in (((F (K 2) 1) - (1 : Int32)) - x1_1) 2100) ∧ ∀ A_4 : gm_M, A_4 = gm_up A_3 (K 3) (((F (K 2) 1) - (1 : Int32)) - x1_1).toNatClampNeg (vp_nar .byte x2_2) →
      ∀ x1_5 : Int32, x1_5 = x1_1 + (1 : Int32) →
      I_2 x1_5 A_4 ∧ μ_2 x1_5 A_4 < μ_2 x1_1 A_1
    ))
def vc_K_isRegister (p1 : Int32) (F A : gm_M) (post : Int32 → Prop) : Prop :=
  ((p1 < (0) →
    post (0 : Int32)
  ) ∧ (¬ p1 < (0) →
    (((16 : Int32) ≤ p1 →
      post (0 : Int32)
    ) ∧ (¬ (16 : Int32) ≤ p1 →
      post (1 : Int32)
    ))
  ))
def vc_K_isBase (p1 : Int32) (F A : gm_M) (post : Int32 → Prop) : Prop :=
  ((p1 < (2 : Int32) →
    post (0 : Int32)
  ) ∧ (¬ p1 < (2 : Int32) →
    (((36 : Int32) < p1 →
      post (0 : Int32)
    ) ∧ (¬ (36 : Int32) < p1 →
      post (1 : Int32)
    ))
  ))
def vc_K_reduceProduct (K : Nat → Nat) (a1 l1 n1 : Nat) (F A : gm_M) (post : gm_M → gm_M → Prop) : Prop :=
  vc_D_cut K (K 45) (K 46) (135) a1 l1 n1 F A (fun (F_1 : gm_M) (A_1 : gm_M) =>
    vc_W_takeCopy (K 43) (K 44) (135) (K 41) (K 42) (135) F_1 A_1 (fun (F_2 : gm_M) (A_2 : gm_M) =>
      post F_2 A_2
    )
  )
def vc_K_raiseWithin (K : Nat → Nat) (a1 l1 n1 : Nat) (a2 l2 n2 : Nat) (a3 l3 n3 : Nat) (F A : gm_M) (post : gm_M → gm_M → Prop) : Prop :=
  vc_D_cut K a1 l1 n1 a3 l3 n3 F A (fun (F_1 : gm_M) (A_1 : gm_M) =>
    vc_W_takeCopy (K 47) (K 48) (67) (K 41) (K 42) (135) F_1 A_1 (fun (F_2 : gm_M) (A_2 : gm_M) =>
      vc_W_takeLong (K 45) (K 46) (135) (1 : Int64) F_2 A_2 (fun (F_3 : gm_M) (A_3 : gm_M) =>
        vc_K_reduceProduct K a3 l3 n3 F_3 A_3 (fun (F_4 : gm_M) (A_4 : gm_M) =>
          vc_W_countBits a2 l2 n2 F_4 A_4 (fun (r_5 : Int32) =>
            ∀ x4_6 : Int32, x4_6 = (r_5 - (1 : Int32)) →
            ∃ (I_44 : Int32 → gm_M → gm_M → Prop) (μ_44 : Int32 → gm_M → gm_M → Nat), I_44 x4_6 F_4 A_4 ∧ ∀ (x4_7 : Int32) (F_7 : gm_M) (A_7 : gm_M), I_44 x4_7 F_7 A_7 →
              ((x4_7 < (0) →
                post F_7 A_7
              ) ∧ (¬ x4_7 < (0) →
                vc_W_takeProduct (K 45) (K 46) (135) (K 43) (K 44) (135) (K 43) (K 44) (135) F_7 A_7 (fun (F_8 : gm_M) (A_8 : gm_M) =>
                  vc_K_reduceProduct K a3 l3 n3 F_8 A_8 (fun (F_9 : gm_M) (A_9 : gm_M) =>
                    vc_W_hasBit a2 l2 n2 x4_7 F_9 A_9 (fun (r_10 : Int32) =>
                      ((r_10 = (0) →
                        ∀ x4_11 : Int32, x4_11 = x4_7 + (-1 : Int32) →
                        I_44 x4_11 F_9 A_9 ∧ μ_44 x4_11 F_9 A_9 < μ_44 x4_7 F_7 A_7
                      ) ∧ (¬ r_10 = (0) →
                        vc_W_takeProduct (K 45) (K 46) (135) (K 43) (K 44) (135) (K 47) (K 48) (67) F_9 A_9 (fun (F_12 : gm_M) (A_12 : gm_M) =>
                          vc_K_reduceProduct K a3 l3 n3 F_12 A_12 (fun (F_13 : gm_M) (A_13 : gm_M) =>
                            ∀ x4_14 : Int32, x4_14 = x4_7 + (-1 : Int32) →
                            I_44 x4_14 F_13 A_13 ∧ μ_44 x4_14 F_13 A_13 < μ_44 x4_7 F_7 A_7
                          )
                        )
                      ))
                    )
                  )
                )
              ))
          )
        )
      )
    )
  )
def vc_M_thrown (K : Nat → Nat) (F A : gm_M) (post : Int32 → Prop) : Prop :=
  post (F (K 49) 0)
def vc_M_compared (a1 n1 : Nat) (p2 : Int32) (a3 n3 : Nat) (p4 : Int32) (F A : gm_M) (post : Int32 → Prop) : Prop :=
  ((p2 = p4 →
    ∀ x4_1 : Int32, x4_1 = (p2 - (1 : Int32)) →
    ∃ (I_21 : Int32 → Prop) (μ_21 : Int32 → Nat), I_21 x4_1 ∧ ∀ (x4_2 : Int32), I_21 x4_2 →
      ((x4_2 < (0) →
        post (0 : Int32)
      ) ∧ (¬ x4_2 < (0) →
        (vp_in x4_2 n1) ∧
        (vp_in x4_2 n3) ∧
        (((A a1 x4_2.toNatClampNeg) = (A a3 x4_2.toNatClampNeg) →
          ∀ x4_3 : Int32, x4_3 = x4_2 + (-1 : Int32) →
          I_21 x4_3 ∧ μ_21 x4_3 < μ_21 x4_2
        ) ∧ (¬ (A a1 x4_2.toNatClampNeg) = (A a3 x4_2.toNatClampNeg) →
          (vp_in x4_2 n1) ∧
          (vp_in x4_2 n3) ∧
          (((A a3 x4_2.toNatClampNeg) ≤ (A a1 x4_2.toNatClampNeg) →
            post (1 : Int32)
          ) ∧ (¬ (A a3 x4_2.toNatClampNeg) ≤ (A a1 x4_2.toNatClampNeg) →
            post (-1 : Int32)
          ))
        ))
      ))
  ) ∧ (¬ p2 = p4 →
    ((p4 ≤ p2 →
      post (1 : Int32)
    ) ∧ (¬ p4 ≤ p2 →
      post (-1 : Int32)
    ))
  ))
def vc_M_trim (a1 n1 : Nat) (p2 : Int32) (F A : gm_M) (post : Int32 → Prop) : Prop :=
  ∃ (I_2 : Int32 → Prop) (μ_2 : Int32 → Nat), I_2 p2 ∧ ∀ (x2_1 : Int32), I_2 x2_1 →
    ((x2_1 ≤ (0) →
      post x2_1
    ) ∧ (¬ x2_1 ≤ (0) →
      (vp_in (x2_1 - (1 : Int32)) n1) ∧
      ((¬ (A a1 (x2_1 - (1 : Int32)).toNatClampNeg) = (0) →
        post x2_1
      ) ∧ ((A a1 (x2_1 - (1 : Int32)).toNatClampNeg) = (0) →
        ∀ x2_2 : Int32, x2_2 = x2_1 + (-1 : Int32) →
        I_2 x2_2 ∧ μ_2 x2_2 < μ_2 x2_1
      ))
    ))
def vc_M_plus (a1 n1 : Nat) (p2 : Int32) (a3 n3 : Nat) (p4 : Int32) (a5 n5 : Nat) (F A : gm_M) (post : Int32 → gm_M → Prop) : Prop :=
  ∃ (J_13 : Int32 → Prop), (
    ((p2 ≤ p4 →
      J_13 p4
    ) ∧ (¬ p2 ≤ p4 →
      J_13 p2
    ))
  ) ∧ ((∀ (v0_1 : Int32), J_13 v0_1 →
    ∃ (I_18 : Int32 → Int32 → gm_M → Prop) (μ_18 : Int32 → Int32 → gm_M → Nat), I_18 (0 : Int32) (0 : Int32) A ∧ ∀ (x5_2 : Int32) (x7_2 : Int32) (A_2 : gm_M), I_18 x5_2 x7_2 A_2 →
      ((v0_1 ≤ x7_2 →
        (vp_in v0_1 n5) ∧ ∀ A_3 : gm_M, A_3 = gm_up A_2 a5 v0_1.toNatClampNeg x5_2 →
        vc_M_trim a5 n5 (v0_1 + (1 : Int32)) F A_3 (fun (r_4 : Int32) =>
          post r_4 A_3
        )
      ) ∧ (¬ v0_1 ≤ x7_2 →
        ∃ (J_41 : Int32 → Prop), (
          ((p2 ≤ x7_2 →
            J_41 (0 : Int32)
          ) ∧ (¬ p2 ≤ x7_2 →
            (vp_in x7_2 n1) ∧
            J_41 (A_2 a1 x7_2.toNatClampNeg)
          ))
        ) ∧ ((∀ (v0_5 : Int32), J_41 v0_5 →
          ∃ (J_55 : Int32 → Prop), (
            ((p4 ≤ x7_2 →
              J_55 (0 : Int32)
            ) ∧ (¬ p4 ≤ x7_2 →
              (vp_in x7_2 n3) ∧
              J_55 (A_2 a3 x7_2.toNatClampNeg)
            ))
          ) ∧ ((∀ (v0_6 : Int32), J_55 v0_6 →
            ∀ x5_7 : Int32, x5_7 = (x5_2 + (v0_5 + v0_6)) →
            (vp_in x7_2 n5) ∧ ∀ A_8 : gm_M, A_8 = gm_up A_2 a5 x7_2.toNatClampNeg (x5_7 &&& (65535 : Int32)) →
            ∀ x5_9 : Int32, x5_9 = (x5_7 >>> ((16 : Int32) &&& 31)) →
            ∀ x7_10 : Int32, x7_10 = x7_2 + (1 : Int32) →
            I_18 x5_9 x7_10 A_8 ∧ μ_18 x5_9 x7_10 A_8 < μ_18 x5_2 x7_2 A_2
          ))
        ))
      ))
  ))
def vc_M_less (a1 n1 : Nat) (p2 : Int32) (a3 n3 : Nat) (p4 : Int32) (a5 n5 : Nat) (F A : gm_M) (post : Int32 → gm_M → Prop) : Prop :=
  ∃ (I_6 : Int32 → Int32 → gm_M → Prop) (μ_6 : Int32 → Int32 → gm_M → Nat), I_6 (0 : Int32) (0 : Int32) A ∧ ∀ (x5_1 : Int32) (x6_1 : Int32) (A_1 : gm_M), I_6 x5_1 x6_1 A_1 →
    ((p2 ≤ x6_1 →
      vc_M_trim a5 n5 p2 F A_1 (fun (r_2 : Int32) =>
        post r_2 A_1
      )
    ) ∧ (¬ p2 ≤ x6_1 →
      (vp_in x6_1 n1) ∧
      ∃ (J_32 : Int32 → Prop), (
        ((p4 ≤ x6_1 →
          J_32 (0 : Int32)
        ) ∧ (¬ p4 ≤ x6_1 →
          (vp_in x6_1 n3) ∧
          J_32 (A_1 a3 x6_1.toNatClampNeg)
        ))
      ) ∧ ((∀ (v0_3 : Int32), J_32 v0_3 →
        ∀ x5_4 : Int32, x5_4 = (x5_1 + ((A_1 a1 x6_1.toNatClampNeg) - v0_3)) →
        (vp_in x6_1 n5) ∧ ∀ A_5 : gm_M, A_5 = gm_up A_1 a5 x6_1.toNatClampNeg (x5_4 &&& (65535 : Int32)) →
        ∀ x5_6 : Int32, x5_6 = (x5_4 >>> ((16 : Int32) &&& 31)) →
        ∀ x6_7 : Int32, x6_7 = x6_1 + (1 : Int32) →
        I_6 x5_6 x6_7 A_5 ∧ μ_6 x5_6 x6_7 A_5 < μ_6 x5_1 x6_1 A_1
      ))
    ))
def vc_M_times (a1 n1 : Nat) (p2 : Int32) (a3 n3 : Nat) (p4 : Int32) (a5 n5 : Nat) (F A : gm_M) (post : Int32 → gm_M → Prop) : Prop :=
  ∃ (I_3 : Int32 → gm_M → Prop) (μ_3 : Int32 → gm_M → Nat), I_3 (0 : Int32) A ∧ ∀ (x5_1 : Int32) (A_1 : gm_M), I_3 x5_1 A_1 →
    (((p2 + p4) ≤ x5_1 →
      ∃ (I_26 : Int32 → gm_M → Prop) (μ_26 : Int32 → gm_M → Nat), I_26 (0 : Int32) A_1 ∧ ∀ (x5_2 : Int32) (A_2 : gm_M), I_26 x5_2 A_2 →
        ((p2 ≤ x5_2 →
          vc_M_trim a5 n5 (p2 + p4) F A_2 (fun (r_3 : Int32) =>
            post r_3 A_2
          )
        ) ∧ (¬ p2 ≤ x5_2 →
          ∃ (I_38 : Int64 → Int32 → gm_M → Prop) (μ_38 : Int64 → Int32 → gm_M → Nat), I_38 (0 : Int64) (0 : Int32) A_2 ∧ ∀ (x6_4 : Int64) (x8_4 : Int32) (A_4 : gm_M), I_38 x6_4 x8_4 A_4 →
            ((p4 ≤ x8_4 →
              (vp_in (x5_2 + p4) n5) ∧ ∀ A_5 : gm_M, A_5 = gm_up A_4 a5 (x5_2 + p4).toNatClampNeg (x6_4.toInt32) →
              ∀ x5_6 : Int32, x5_6 = x5_2 + (1 : Int32) →
              I_26 x5_6 A_5 ∧ μ_26 x5_6 A_5 < μ_26 x5_2 A_2
            ) ∧ (¬ p4 ≤ x8_4 →
              (vp_in x5_2 n1) ∧
              (vp_in x8_4 n3) ∧
              (vp_in (x5_2 + x8_4) n5) ∧
              ∀ x6_7 : Int64, x6_7 = (x6_4 + ((((A_4 a1 x5_2.toNatClampNeg).toInt64) * ((A_4 a3 x8_4.toNatClampNeg).toInt64)) + ((A_4 a5 (x5_2 + x8_4).toNatClampNeg).toInt64))) →
              (vp_in (x5_2 + x8_4) n5) ∧ ∀ A_8 : gm_M, A_8 = gm_up A_4 a5 (x5_2 + x8_4).toNatClampNeg ((x6_7 &&& (65535 : Int64)).toInt32) →
              ∀ x6_9 : Int64, x6_9 = (j_lushr x6_7 (16 : Int32)) →
              ∀ x8_10 : Int32, x8_10 = x8_4 + (1 : Int32) →
              I_38 x6_9 x8_10 A_8 ∧ μ_38 x6_9 x8_10 A_8 < μ_38 x6_4 x8_4 A_4
            ))
        ))
    ) ∧ (¬ (p2 + p4) ≤ x5_1 →
      (vp_in x5_1 n5) ∧ ∀ A_11 : gm_M, A_11 = gm_up A_1 a5 x5_1.toNatClampNeg (0 : Int32) →
      ∀ x5_12 : Int32, x5_12 = x5_1 + (1 : Int32) →
      I_3 x5_12 A_11 ∧ μ_3 x5_12 A_11 < μ_3 x5_1 A_1
    ))
def vc_M_divided (K : Nat → Nat) (a1 n1 : Nat) (p2 : Int32) (a3 n3 : Nat) (p4 : Int32) (a5 n5 : Nat) (F A : gm_M) (post : Int32 → gm_M → gm_M → Prop) : Prop :=
  vc_M_compared a1 n1 p2 a3 n3 p4 F A (fun (r_1 : Int32) =>
    (((0) ≤ r_1 →
      ((¬ p4 = (1 : Int32) →
        (vp_in (p4 - (1 : Int32)) n3) ∧
        ∀ x7_2 : Int32, x7_2 = (A a3 (p4 - (1 : Int32)).toNatClampNeg) →
        ∃ (I_116 : Int32 → Int32 → Prop) (μ_116 : Int32 → Int32 → Nat), I_116 (0 : Int32) x7_2 ∧ ∀ (x6_3 : Int32) (x7_3 : Int32), I_116 x6_3 x7_3 →
          (((32768 : Int32) ≤ x7_3 →
            ∀ x7_4 : Int32, x7_4 = (p4 - (1 : Int32)) →
            ∃ (I_141 : Int32 → gm_M → Prop) (μ_141 : Int32 → gm_M → Nat), I_141 x7_4 A ∧ ∀ (x7_5 : Int32) (A_5 : gm_M), I_141 x7_5 A_5 →
              ((x7_5 < (0) →
                (vp_in p2 n1) ∧ ∀ A_6 : gm_M, A_6 = gm_up A_5 a1 p2.toNatClampNeg (0 : Int32) →
                ∃ (I_198 : Int32 → gm_M → Prop) (μ_198 : Int32 → gm_M → Nat), I_198 p2 A_6 ∧ ∀ (x7_7 : Int32) (A_7 : gm_M), I_198 x7_7 A_7 →
                  ((x7_7 < (0) →
                    ∀ x7_8 : Int32, x7_8 = (p2 - p4) →
                    ∃ (I_251 : Int32 → gm_M → Prop) (μ_251 : Int32 → gm_M → Nat), I_251 x7_8 A_7 ∧ ∀ (x7_9 : Int32) (A_9 : gm_M), I_251 x7_9 A_9 →
                      ((x7_9 < (0) →
                        vc_M_trim a5 n5 ((p2 - p4) + (1 : Int32)) F A_9 (fun (r_10 : Int32) =>
                          ∀ F_11 : gm_M, F_11 = gm_up F (K 49) 12 r_10 →
                          ∃ (I_600 : Int32 → gm_M → Prop) (μ_600 : Int32 → gm_M → Nat), I_600 (0 : Int32) A_9 ∧ ∀ (x7_12 : Int32) (A_12 : gm_M), I_600 x7_12 A_12 →
                            ((p4 ≤ x7_12 →
                              vc_M_trim a1 n1 p4 F_11 A_12 (fun (r_13 : Int32) =>
                                post r_13 F_11 A_12
                              )
                            ) ∧ (¬ p4 ≤ x7_12 →
                              (vp_in x7_12 n1) ∧
                              ((p4 < (x7_12 + (1 : Int32)) →
                                (vp_in x7_12 n1) ∧ ∀ A_14 : gm_M, A_14 = gm_up A_12 a1 x7_12.toNatClampNeg ((((A_12 a1 x7_12.toNatClampNeg) >>> (x6_3 &&& 31)) ||| (0 : Int32)) &&& (65535 : Int32)) →
                                ∀ x7_15 : Int32, x7_15 = x7_12 + (1 : Int32) →
                                I_600 x7_15 A_14 ∧ μ_600 x7_15 A_14 < μ_600 x7_12 A_12
                              ) ∧ (¬ p4 < (x7_12 + (1 : Int32)) →
                                (vp_in (x7_12 + (1 : Int32)) n1) ∧
                                (vp_in x7_12 n1) ∧ ∀ A_16 : gm_M, A_16 = gm_up A_12 a1 x7_12.toNatClampNeg ((((A_12 a1 x7_12.toNatClampNeg) >>> (x6_3 &&& 31)) ||| ((A_12 a1 (x7_12 + (1 : Int32)).toNatClampNeg) <<< (((16 : Int32) - x6_3) &&& 31))) &&& (65535 : Int32)) →
                                ∀ x7_17 : Int32, x7_17 = x7_12 + (1 : Int32) →
                                I_600 x7_17 A_16 ∧ μ_600 x7_17 A_16 < μ_600 x7_12 A_12
                              ))
                            ))
                        )
                      ) ∧ (¬ x7_9 < (0) →
                        (vp_in (x7_9 + p4) n1) ∧
                        (vp_in ((x7_9 + p4) - (1 : Int32)) n1) ∧
                        ∀ x8_18 : Int64, x8_18 = ((j_lshl ((A_9 a1 (x7_9 + p4).toNatClampNeg).toInt64) (16 : Int32)) ||| ((A_9 a1 ((x7_9 + p4) - (1 : Int32)).toNatClampNeg).toInt64)) →
                        (vp_in (p4 - (1 : Int32)) 9000) ∧
                        (¬ ((A_9 (K 60) (p4 - (1 : Int32)).toNatClampNeg).toInt64) = 0) ∧
                        ∀ x10_19 : Int64, x10_19 = (x8_18 / ((A_9 (K 60) (p4 - (1 : Int32)).toNatClampNeg).toInt64)) →
                        (vp_in (p4 - (1 : Int32)) 9000) ∧
                        (¬ ((A_9 (K 60) (p4 - (1 : Int32)).toNatClampNeg).toInt64) = 0) ∧
                        ∀ x12_20 : Int64, x12_20 = (x8_18 - x8_18 / ((A_9 (K 60) (p4 - (1 : Int32)).toNatClampNeg).toInt64) * ((A_9 (K 60) (p4 - (1 : Int32)).toNatClampNeg).toInt64)) →
                        ∃ (I_310 : Int64 → Int64 → Prop) (μ_310 : Int64 → Int64 → Nat), I_310 x10_19 x12_20 ∧ ∀ (x10_21 : Int64) (x12_21 : Int64), I_310 x10_21 x12_21 →
                          ∃ (J_385 : Int64 → Prop), (
                            ∃ (J_352 : Prop), (
                              (((65535 : Int64) < x10_21 →
                                J_352
                              ) ∧ (¬ (65535 : Int64) < x10_21 →
                                (vp_in (p4 - (2 : Int32)) 9000) ∧
                                (vp_in ((x7_9 + p4) - (2 : Int32)) n1) ∧
                                (((x10_21 * ((A_9 (K 60) (p4 - (2 : Int32)).toNatClampNeg).toInt64)) ≤ ((j_lshl x12_21 (16 : Int32)) ||| ((A_9 a1 ((x7_9 + p4) - (2 : Int32)).toNatClampNeg).toInt64)) →
                                  J_385 x10_21
                                ) ∧ (¬ (x10_21 * ((A_9 (K 60) (p4 - (2 : Int32)).toNatClampNeg).toInt64)) ≤ ((j_lshl x12_21 (16 : Int32)) ||| ((A_9 a1 ((x7_9 + p4) - (2 : Int32)).toNatClampNeg).toInt64)) →
                                  J_352
                                ))
                              ))
                            ) ∧ ((J_352 →
                              ∀ x10_42 : Int64, x10_42 = (x10_21 - (1 : Int64)) →
                              (vp_in (p4 - (1 : Int32)) 9000) ∧
                              ∀ x12_43 : Int64, x12_43 = (x12_21 + ((A_9 (K 60) (p4 - (1 : Int32)).toNatClampNeg).toInt64)) →
                              ((x12_43 ≤ (65535 : Int64) →
                                I_310 x10_42 x12_43 ∧ μ_310 x10_42 x12_43 < μ_310 x10_21 x12_21
                              ) ∧ (¬ x12_43 ≤ (65535 : Int64) →
                                J_385 x10_42
                              ))
                            ))
                          ) ∧ ((∀ (x10_22 : Int64), J_385 x10_22 →
                            ∃ (I_391 : Int64 → Int32 → gm_M → Prop) (μ_391 : Int64 → Int32 → gm_M → Nat), I_391 (0 : Int64) (0 : Int32) A_9 ∧ ∀ (x14_23 : Int64) (x16_23 : Int32) (A_23 : gm_M), I_391 x14_23 x16_23 A_23 →
                              ((p4 ≤ x16_23 →
                                (vp_in (x7_9 + p4) n1) ∧
                                ∀ x14_24 : Int64, x14_24 = (x14_23 + ((A_23 a1 (x7_9 + p4).toNatClampNeg).toInt64)) →
                                (vp_in (x7_9 + p4) n1) ∧ ∀ A_25 : gm_M, A_25 = gm_up A_23 a1 (x7_9 + p4).toNatClampNeg ((x14_24 &&& (65535 : Int64)).toInt32) →
                                (((0 : Int64) ≤ x14_24 →
                                  (vp_in x7_9 n5) ∧ ∀ A_26 : gm_M, A_26 = gm_up A_25 a5 x7_9.toNatClampNeg (x10_22.toInt32) →
                                  ∀ x7_27 : Int32, x7_27 = x7_9 + (-1 : Int32) →
                                  I_251 x7_27 A_26 ∧ μ_251 x7_27 A_26 < μ_251 x7_9 A_9
                                ) ∧ (¬ (0 : Int64) ≤ x14_24 →
                                  ∀ x10_28 : Int64, x10_28 = (x10_22 - (1 : Int64)) →
                                  ∃ (I_496 : Int32 → Int32 → gm_M → Prop) (μ_496 : Int32 → Int32 → gm_M → Nat), I_496 (0 : Int32) (0 : Int32) A_25 ∧ ∀ (x16_29 : Int32) (x17_29 : Int32) (A_29 : gm_M), I_496 x16_29 x17_29 A_29 →
                                    ((p4 ≤ x17_29 →
                                      (vp_in (x7_9 + p4) n1) ∧
                                      (vp_in (x7_9 + p4) n1) ∧ ∀ A_30 : gm_M, A_30 = gm_up A_29 a1 (x7_9 + p4).toNatClampNeg (((A_29 a1 (x7_9 + p4).toNatClampNeg) + x16_29) &&& (65535 : Int32)) →
                                      (vp_in x7_9 n5) ∧ ∀ A_31 : gm_M, A_31 = gm_up A_30 a5 x7_9.toNatClampNeg (x10_28.toInt32) →
                                      ∀ x7_32 : Int32, x7_32 = x7_9 + (-1 : Int32) →
                                      I_251 x7_32 A_31 ∧ μ_251 x7_32 A_31 < μ_251 x7_9 A_9
                                    ) ∧ (¬ p4 ≤ x17_29 →
                                      (vp_in (x7_9 + x17_29) n1) ∧
                                      (vp_in x17_29 9000) ∧
                                      ∀ x16_33 : Int32, x16_33 = (x16_29 + ((A_29 a1 (x7_9 + x17_29).toNatClampNeg) + (A_29 (K 60) x17_29.toNatClampNeg))) →
                                      (vp_in (x7_9 + x17_29) n1) ∧ ∀ A_34 : gm_M, A_34 = gm_up A_29 a1 (x7_9 + x17_29).toNatClampNeg (x16_33 &&& (65535 : Int32)) →
                                      ∀ x16_35 : Int32, x16_35 = (x16_33 >>> ((16 : Int32) &&& 31)) →
                                      ∀ x17_36 : Int32, x17_36 = x17_29 + (1 : Int32) →
                                      I_496 x16_35 x17_36 A_34 ∧ μ_496 x16_35 x17_36 A_34 < μ_496 x16_29 x17_29 A_29
                                    ))
                                ))
                              ) ∧ (¬ p4 ≤ x16_23 →
                                (vp_in (x7_9 + x16_23) n1) ∧
                                (vp_in x16_23 9000) ∧
                                ∀ x14_37 : Int64, x14_37 = (x14_23 + (((A_23 a1 (x7_9 + x16_23).toNatClampNeg).toInt64) - (x10_22 * ((A_23 (K 60) x16_23.toNatClampNeg).toInt64)))) →
                                (vp_in (x7_9 + x16_23) n1) ∧ ∀ A_38 : gm_M, A_38 = gm_up A_23 a1 (x7_9 + x16_23).toNatClampNeg ((x14_37 &&& (65535 : Int64)).toInt32) →
                                ∀ x14_39 : Int64, x14_39 = (j_lshr x14_37 (16 : Int32)) →
                                ∀ x16_40 : Int32, x16_40 = x16_23 + (1 : Int32) →
                                I_391 x14_39 x16_40 A_38 ∧ μ_391 x14_39 x16_40 A_38 < μ_391 x14_23 x16_23 A_23
                              ))
                          ))
                      ))
                  ) ∧ (¬ x7_7 < (0) →
                    (vp_in x7_7 n1) ∧
                    ((x7_7 ≤ (0) →
                      (vp_in x7_7 n1) ∧ ∀ A_44 : gm_M, A_44 = gm_up A_7 a1 x7_7.toNatClampNeg ((((A_7 a1 x7_7.toNatClampNeg) <<< (x6_3 &&& 31)) ||| (0 : Int32)) &&& (65535 : Int32)) →
                      ∀ x7_45 : Int32, x7_45 = x7_7 + (-1 : Int32) →
                      I_198 x7_45 A_44 ∧ μ_198 x7_45 A_44 < μ_198 x7_7 A_7
                    ) ∧ (¬ x7_7 ≤ (0) →
                      (vp_in (x7_7 - (1 : Int32)) n1) ∧
                      (vp_in x7_7 n1) ∧ ∀ A_46 : gm_M, A_46 = gm_up A_7 a1 x7_7.toNatClampNeg ((((A_7 a1 x7_7.toNatClampNeg) <<< (x6_3 &&& 31)) ||| ((A_7 a1 (x7_7 - (1 : Int32)).toNatClampNeg) >>> (((16 : Int32) - x6_3) &&& 31))) &&& (65535 : Int32)) →
                      ∀ x7_47 : Int32, x7_47 = x7_7 + (-1 : Int32) →
                      I_198 x7_47 A_46 ∧ μ_198 x7_47 A_46 < μ_198 x7_7 A_7
                    ))
                  ))
              ) ∧ (¬ x7_5 < (0) →
                (vp_in x7_5 n3) ∧
                ((x7_5 ≤ (0) →
                  (vp_in x7_5 9000) ∧ ∀ A_48 : gm_M, A_48 = gm_up A_5 (K 60) x7_5.toNatClampNeg ((((A_5 a3 x7_5.toNatClampNeg) <<< (x6_3 &&& 31)) ||| (0 : Int32)) &&& (65535 : Int32)) →
                  ∀ x7_49 : Int32, x7_49 = x7_5 + (-1 : Int32) →
                  I_141 x7_49 A_48 ∧ μ_141 x7_49 A_48 < μ_141 x7_5 A_5
                ) ∧ (¬ x7_5 ≤ (0) →
                  (vp_in (x7_5 - (1 : Int32)) n3) ∧
                  (vp_in x7_5 9000) ∧ ∀ A_50 : gm_M, A_50 = gm_up A_5 (K 60) x7_5.toNatClampNeg ((((A_5 a3 x7_5.toNatClampNeg) <<< (x6_3 &&& 31)) ||| ((A_5 a3 (x7_5 - (1 : Int32)).toNatClampNeg) >>> (((16 : Int32) - x6_3) &&& 31))) &&& (65535 : Int32)) →
                  ∀ x7_51 : Int32, x7_51 = x7_5 + (-1 : Int32) →
                  I_141 x7_51 A_50 ∧ μ_141 x7_51 A_50 < μ_141 x7_5 A_5
                ))
              ))
          ) ∧ (¬ (32768 : Int32) ≤ x7_3 →
            ∀ x6_52 : Int32, x6_52 = x6_3 + (1 : Int32) →
            ∀ x7_53 : Int32, x7_53 = (x7_3 <<< ((1 : Int32) &&& 31)) →
            I_116 x6_52 x7_53 ∧ μ_116 x6_52 x7_53 < μ_116 x6_3 x7_3
          ))
      ) ∧ (p4 = (1 : Int32) →
        ∀ x8_54 : Int32, x8_54 = (p2 - (1 : Int32)) →
        ∃ (I_32 : Int64 → Int32 → gm_M → Prop) (μ_32 : Int64 → Int32 → gm_M → Nat), I_32 (0 : Int64) x8_54 A ∧ ∀ (x6_55 : Int64) (x8_55 : Int32) (A_55 : gm_M), I_32 x6_55 x8_55 A_55 →
          ((x8_55 < (0) →
            vc_M_trim a5 n5 p2 F A_55 (fun (r_56 : Int32) =>
              ∀ F_57 : gm_M, F_57 = gm_up F (K 49) 12 r_56 →
              (vp_in (0 : Int32) n1) ∧ ∀ A_58 : gm_M, A_58 = gm_up A_55 a1 (0 : Int32).toNatClampNeg (x6_55.toInt32) →
              vc_M_trim a1 n1 (1 : Int32) F_57 A_58 (fun (r_59 : Int32) =>
                post r_59 F_57 A_58
              )
            )
          ) ∧ (¬ x8_55 < (0) →
            (vp_in x8_55 n1) ∧
            ∀ x6_60 : Int64, x6_60 = ((j_lshl x6_55 (16 : Int32)) ||| ((A_55 a1 x8_55.toNatClampNeg).toInt64)) →
            (vp_in (0 : Int32) n3) ∧
            (¬ ((A_55 a3 (0 : Int32).toNatClampNeg).toInt64) = 0) ∧
            (vp_in x8_55 n5) ∧ ∀ A_61 : gm_M, A_61 = gm_up A_55 a5 x8_55.toNatClampNeg ((x6_60 / ((A_55 a3 (0 : Int32).toNatClampNeg).toInt64)).toInt32) →
            (vp_in (0 : Int32) n3) ∧
            (¬ ((A_61 a3 (0 : Int32).toNatClampNeg).toInt64) = 0) ∧
            ∀ x6_62 : Int64, x6_62 = (x6_60 - x6_60 / ((A_61 a3 (0 : Int32).toNatClampNeg).toInt64) * ((A_61 a3 (0 : Int32).toNatClampNeg).toInt64)) →
            (vp_in x8_55 n1) ∧ ∀ A_63 : gm_M, A_63 = gm_up A_61 a1 x8_55.toNatClampNeg (0 : Int32) →
            ∀ x8_64 : Int32, x8_64 = x8_55 + (-1 : Int32) →
            I_32 x6_62 x8_64 A_63 ∧ μ_32 x6_62 x8_64 A_63 < μ_32 x6_55 x8_55 A_55
          ))
      ))
    ) ∧ (¬ (0) ≤ r_1 →
      ∀ F_65 : gm_M, F_65 = gm_up F (K 49) 12 (0 : Int32) →
      post p2 F_65 A
    ))
  )
def vc_M_shiftedLeft (a1 n1 : Nat) (p2 : Int32) (p3 : Int32) (a4 n4 : Nat) (F A : gm_M) (post : Int32 → gm_M → Prop) : Prop :=
  ∀ x4_1 : Int32, x4_1 = (p3 >>> ((4 : Int32) &&& 31)) →
  ∀ x5_2 : Int32, x5_2 = (p3 &&& (15 : Int32)) →
  (vp_in (p2 + x4_1) n4) ∧ ∀ A_3 : gm_M, A_3 = gm_up A a4 (p2 + x4_1).toNatClampNeg (0 : Int32) →
  ∃ (I_21 : Int32 → gm_M → Prop) (μ_21 : Int32 → gm_M → Nat), I_21 p2 A_3 ∧ ∀ (x6_4 : Int32) (A_4 : gm_M), I_21 x6_4 A_4 →
    ((x6_4 < (0) →
      ∃ (I_84 : Int32 → gm_M → Prop) (μ_84 : Int32 → gm_M → Nat), I_84 (0 : Int32) A_4 ∧ ∀ (x6_5 : Int32) (A_5 : gm_M), I_84 x6_5 A_5 →
        ((x4_1 ≤ x6_5 →
          vc_M_trim a4 n4 ((p2 + x4_1) + (1 : Int32)) F A_5 (fun (r_6 : Int32) =>
            post r_6 A_5
          )
        ) ∧ (¬ x4_1 ≤ x6_5 →
          (vp_in x6_5 n4) ∧ ∀ A_7 : gm_M, A_7 = gm_up A_5 a4 x6_5.toNatClampNeg (0 : Int32) →
          ∀ x6_8 : Int32, x6_8 = x6_5 + (1 : Int32) →
          I_84 x6_8 A_7 ∧ μ_84 x6_8 A_7 < μ_84 x6_5 A_5
        ))
    ) ∧ (¬ x6_4 < (0) →
      ∃ (J_49 : Int32 → Prop), (
        ((p2 ≤ x6_4 →
          J_49 (0 : Int32)
        ) ∧ (¬ p2 ≤ x6_4 →
          (vp_in x6_4 n1) ∧
          J_49 ((A_4 a1 x6_4.toNatClampNeg) <<< (x5_2 &&& 31))
        ))
      ) ∧ ((∀ (v0_9 : Int32), J_49 v0_9 →
        ((x6_4 ≤ (0) →
          (vp_in (x6_4 + x4_1) n4) ∧ ∀ A_10 : gm_M, A_10 = gm_up A_4 a4 (x6_4 + x4_1).toNatClampNeg ((v0_9 ||| (0 : Int32)) &&& (65535 : Int32)) →
          ∀ x6_11 : Int32, x6_11 = x6_4 + (-1 : Int32) →
          I_21 x6_11 A_10 ∧ μ_21 x6_11 A_10 < μ_21 x6_4 A_4
        ) ∧ (¬ x6_4 ≤ (0) →
          (vp_in (x6_4 - (1 : Int32)) n1) ∧
          (vp_in (x6_4 + x4_1) n4) ∧ ∀ A_12 : gm_M, A_12 = gm_up A_4 a4 (x6_4 + x4_1).toNatClampNeg ((v0_9 ||| ((A_4 a1 (x6_4 - (1 : Int32)).toNatClampNeg) >>> (((16 : Int32) - x5_2) &&& 31))) &&& (65535 : Int32)) →
          ∀ x6_13 : Int32, x6_13 = x6_4 + (-1 : Int32) →
          I_21 x6_13 A_12 ∧ μ_21 x6_13 A_12 < μ_21 x6_4 A_4
        ))
      ))
    ))
def vc_M_isBit (a1 n1 : Nat) (p2 : Int32) (p3 : Int32) (F A : gm_M) (post : Int32 → Prop) : Prop :=
  ((p3 < (0) →
    post (0 : Int32)
  ) ∧ (¬ p3 < (0) →
    ((p2 ≤ (p3 >>> ((4 : Int32) &&& 31)) →
      post (0 : Int32)
    ) ∧ (¬ p2 ≤ (p3 >>> ((4 : Int32) &&& 31)) →
      (vp_in (p3 >>> ((4 : Int32) &&& 31)) n1) ∧
      (((((A a1 (p3 >>> ((4 : Int32) &&& 31)).toNatClampNeg) >>> ((p3 &&& (15 : Int32)) &&& 31)) &&& (1 : Int32)) = (0) →
        post (0 : Int32)
      ) ∧ (¬ (((A a1 (p3 >>> ((4 : Int32) &&& 31)).toNatClampNeg) >>> ((p3 &&& (15 : Int32)) &&& 31)) &&& (1 : Int32)) = (0) →
        post (1 : Int32)
      ))
    ))
  ))
def vc_M_in (p1 : Int32) (p2 : Int32) (p3 : Int32) (F A : gm_M) (post : Int32 → Prop) : Prop :=
  ((p1 < p2 →
    post (0 : Int32)
  ) ∧ (¬ p1 < p2 →
    ((p3 < p1 →
      post (0 : Int32)
    ) ∧ (¬ p3 < p1 →
      post (1 : Int32)
    ))
  ))
def vc_M_fails (K : Nat → Nat) (p1 : Int32) (p2 : Int32) (F A : gm_M) (post : Int32 → gm_M → Prop) : Prop :=
  ((p1 = (0) →
    (((F (K 49) 0) = (0) →
      post (0 : Int32) F
    ) ∧ (¬ (F (K 49) 0) = (0) →
      post (1 : Int32) F
    ))
  ) ∧ (¬ p1 = (0) →
    ((¬ (F (K 49) 0) = (0) →
      (((F (K 49) 0) = (0) →
        post (0 : Int32) F
      ) ∧ (¬ (F (K 49) 0) = (0) →
        post (1 : Int32) F
      ))
    ) ∧ ((F (K 49) 0) = (0) →
      ∀ F_1 : gm_M, F_1 = gm_up F (K 49) 0 p2 →
      (((F_1 (K 49) 0) = (0) →
        post (0 : Int32) F_1
      ) ∧ (¬ (F_1 (K 49) 0) = (0) →
        post (1 : Int32) F_1
      ))
    ))
  ))
def vc_M_isRegister (p1 : Int32) (F A : gm_M) (post : Int32 → Prop) : Prop :=
  vc_M_in p1 (0 : Int32) (15 : Int32) F A (fun (r_1 : Int32) =>
    (r_1 = 0 ∨ r_1 = 1) ∧
    post r_1
  )
def vc_M_load (K : Nat → Nat) (p1 : Int32) (a2 n2 : Nat) (F A : gm_M) (post : Int32 → gm_M → Prop) : Prop :=
  ∃ (I_2 : Int32 → gm_M → Prop) (μ_2 : Int32 → gm_M → Nat), I_2 (0 : Int32) A ∧ ∀ (x3_1 : Int32) (A_1 : gm_M), I_2 x3_1 A_1 →
    (vp_in p1 16) ∧
    (((A_1 (K 51) p1.toNatClampNeg) ≤ x3_1 →
      (vp_in p1 16) ∧
      post (A_1 (K 51) p1.toNatClampNeg) A_1
    ) ∧ (¬ (A_1 (K 51) p1.toNatClampNeg) ≤ x3_1 →
      (vp_in (((129 : Int32) * p1) + x3_1) 2064) ∧
      (vp_in x3_1 n2) ∧ ∀ A_2 : gm_M, A_2 = gm_up A_1 a2 x3_1.toNatClampNeg (A_1 (K 50) (((129 : Int32) * p1) + x3_1).toNatClampNeg) →
      ∀ x3_3 : Int32, x3_3 = x3_1 + (1 : Int32) →
      I_2 x3_3 A_2 ∧ μ_2 x3_3 A_2 < μ_2 x3_1 A_1
    ))
def vc_M_bits (a1 n1 : Nat) (p2 : Int32) (F A : gm_M) (post : Int32 → Prop) : Prop :=
  ((¬ p2 = (0) →
    ∀ x2_1 : Int32, x2_1 = ((16 : Int32) * (p2 - (1 : Int32))) →
    (vp_in (p2 - (1 : Int32)) n1) ∧
    ∀ x3_2 : Int32, x3_2 = (A a1 (p2 - (1 : Int32)).toNatClampNeg) →
    ∃ (I_19 : Int32 → Int32 → Prop) (μ_19 : Int32 → Int32 → Nat), I_19 x2_1 x3_2 ∧ ∀ (x2_3 : Int32) (x3_3 : Int32), I_19 x2_3 x3_3 →
      ((x3_3 = (0) →
        post x2_3
      ) ∧ (¬ x3_3 = (0) →
        ∀ x2_4 : Int32, x2_4 = x2_3 + (1 : Int32) →
        ∀ x3_5 : Int32, x3_5 = (j_iushr x3_3 (1 : Int32)) →
        I_19 x2_4 x3_5 ∧ μ_19 x2_4 x3_5 < μ_19 x2_3 x3_3
      ))
  ) ∧ (p2 = (0) →
    post (0 : Int32)
  ))
def vc_M_size0 (K : Nat → Nat) (p1 : Int32) (F A : gm_M) (post : Int32 → gm_M → Prop) : Prop :=
  vc_M_load K p1 (K 59) (9000) F A (fun (r_1 : Int32) (A_1 : gm_M) =>
    vc_M_bits (K 59) (9000) r_1 F A_1 (fun (r_2 : Int32) =>
      post r_2 A_1
    )
  )
def vc_M_keep (K : Nat → Nat) (p1 : Int32) (p2 : Int32) (a3 n3 : Nat) (p4 : Int32) (p5 : Int32) (F A : gm_M) (post : Int32 → gm_M → gm_M → Prop) : Prop :=
  vc_M_trim a3 n3 p4 F A (fun (r_1 : Int32) =>
    vc_M_bits a3 n3 r_1 F A (fun (r_2 : Int32) =>
      ∃ (J_26 : Int32 → Prop), (
        ((r_2 ≤ (2048 : Int32) →
          J_26 (0 : Int32)
        ) ∧ (¬ r_2 ≤ (2048 : Int32) →
          J_26 (1 : Int32)
        ))
      ) ∧ ((∀ (v0_3 : Int32), J_26 v0_3 →
        vc_M_fails K v0_3 p5 F A (fun (r_4 : Int32) (F_4 : gm_M) =>
          ((r_4 = (0) →
            ∃ (I_39 : Int32 → gm_M → Prop) (μ_39 : Int32 → gm_M → Nat), I_39 (0 : Int32) A ∧ ∀ (x7_5 : Int32) (A_5 : gm_M), I_39 x7_5 A_5 →
              ((r_1 ≤ x7_5 →
                (vp_in p1 16) ∧ ∀ A_6 : gm_M, A_6 = gm_up A_5 (K 51) p1.toNatClampNeg r_1 →
                ((¬ r_1 = (0) →
                  (vp_in p1 16) ∧ ∀ A_7 : gm_M, A_7 = gm_up A_6 (K 52) p1.toNatClampNeg p2 →
                  post (1 : Int32) F_4 A_7
                ) ∧ (r_1 = (0) →
                  (vp_in p1 16) ∧ ∀ A_8 : gm_M, A_8 = gm_up A_6 (K 52) p1.toNatClampNeg (0 : Int32) →
                  post (1 : Int32) F_4 A_8
                ))
              ) ∧ (¬ r_1 ≤ x7_5 →
                (vp_in x7_5 n3) ∧
                (vp_in (((129 : Int32) * p1) + x7_5) 2064) ∧ ∀ A_9 : gm_M, A_9 = gm_up A_5 (K 50) (((129 : Int32) * p1) + x7_5).toNatClampNeg (A_5 a3 x7_5.toNatClampNeg) →
                ∀ x7_10 : Int32, x7_10 = x7_5 + (1 : Int32) →
                I_39 x7_10 A_9 ∧ μ_39 x7_10 A_9 < μ_39 x7_5 A_5
              ))
          ) ∧ (¬ r_4 = (0) →
            post (0 : Int32) F_4 A
          ))
        )
      ))
    )
  )
def vc_M_set (K : Nat → Nat) (p1 : Int32) (p2 : Int64) (F A : gm_M) (post : Int32 → gm_M → gm_M → Prop) : Prop :=
  ∀ F_1 : gm_M, F_1 = gm_up F (K 49) 0 (0 : Int32) →
  vc_M_isRegister p1 F_1 A (fun (r_2 : Int32) =>
    ∃ (J_18 : Int32 → Prop), (
      ((¬ r_2 = (0) →
        J_18 (0 : Int32)
      ) ∧ (r_2 = (0) →
        J_18 (1 : Int32)
      ))
    ) ∧ ((∀ (v0_3 : Int32), J_18 v0_3 →
      vc_M_fails K v0_3 (1 : Int32) F_1 A (fun (r_4 : Int32) (F_4 : gm_M) =>
        ((r_4 = (0) →
          vc_M_size0 K p1 F_4 A (fun (r_5 : Int32) (A_5 : gm_M) =>
            ∃ (J_49 : Int64 → Prop), (
              (((0 : Int64) ≤ p2 →
                J_49 p2
              ) ∧ (¬ (0 : Int64) ≤ p2 →
                J_49 (-p2)
              ))
            ) ∧ ((∀ (v0_6 : Int64), J_49 v0_6 →
              ∃ (I_51 : Int32 → Int64 → gm_M → Prop) (μ_51 : Int32 → Int64 → gm_M → Nat), I_51 (0 : Int32) v0_6 A_5 ∧ ∀ (x5_7 : Int32) (x6_7 : Int64) (A_7 : gm_M), I_51 x5_7 x6_7 A_7 →
                ((x6_7 = (0 : Int64) →
                  (((0 : Int64) ≤ p2 →
                    vc_M_keep K p1 (1 : Int32) (K 54) (9000) x5_7 (9 : Int32) F_4 A_7 (fun (r_8 : Int32) (F_8 : gm_M) (A_8 : gm_M) =>
                      post r_5 F_8 A_8
                    )
                  ) ∧ (¬ (0 : Int64) ≤ p2 →
                    vc_M_keep K p1 (-1 : Int32) (K 54) (9000) x5_7 (9 : Int32) F_4 A_7 (fun (r_9 : Int32) (F_9 : gm_M) (A_9 : gm_M) =>
                      post r_5 F_9 A_9
                    )
                  ))
                ) ∧ (¬ x6_7 = (0 : Int64) →
                  ∀ x5_10 : Int32, x5_10 = x5_7 + (1 : Int32) →
                  (vp_in x5_7 9000) ∧ ∀ A_11 : gm_M, A_11 = gm_up A_7 (K 54) x5_7.toNatClampNeg ((x6_7 &&& (65535 : Int64)).toInt32) →
                  ∀ x6_12 : Int64, x6_12 = (j_lushr x6_7 (16 : Int32)) →
                  I_51 x5_10 x6_12 A_11 ∧ μ_51 x5_10 x6_12 A_11 < μ_51 x5_7 x6_7 A_7
                ))
            ))
          )
        ) ∧ (¬ r_4 = (0) →
          post (0 : Int32) F_4 A
        ))
      )
    ))
  )
def vc_M_line (K : Nat → Nat) (p1 : Int64) (F A : gm_M) (post : Int32 → gm_M → gm_M → Prop) : Prop :=
  ∀ F_1 : gm_M, F_1 = gm_up F (K 49) 0 (0 : Int32) →
  ∃ (I_10 : Int32 → Int32 → gm_M → Prop) (μ_10 : Int32 → Int32 → gm_M → Nat), I_10 (0 : Int32) (0 : Int32) F_1 ∧ ∀ (x3_2 : Int32) (x4_2 : Int32) (F_2 : gm_M), I_10 x3_2 x4_2 F_2 →
    ∃ (J_83 : Prop), (
      (((8 : Int32) ≤ x4_2 →
        J_83
      ) ∧ (¬ (8 : Int32) ≤ x4_2 →
        ((¬ x3_2 = x4_2 →
          J_83
        ) ∧ (x3_2 = x4_2 →
          ∀ x5_12 : Int32, x5_12 = (((j_lushr p1 ((8 : Int32) * x4_2)) &&& (255 : Int64)).toInt32) →
          ∃ (J_59 : Prop), (
            ((x5_12 = (0) →
              J_59
            ) ∧ (¬ x5_12 = (0) →
              vc_M_in x5_12 (32 : Int32) (126 : Int32) F_2 A (fun (r_18 : Int32) =>
                ((¬ r_18 = (0) →
                  J_59
                ) ∧ (r_18 = (0) →
                  vc_M_fails K (1 : Int32) (1 : Int32) F_2 A (fun (r_19 : Int32) (F_19 : gm_M) =>
                    ((r_19 = (0) →
                      ((x5_12 = (0) →
                        ∀ x4_20 : Int32, x4_20 = x4_2 + (1 : Int32) →
                        I_10 x3_2 x4_20 F_19 ∧ μ_10 x3_2 x4_20 F_19 < μ_10 x3_2 x4_2 F_2
                      ) ∧ (¬ x5_12 = (0) →
                        ∀ x3_21 : Int32, x3_21 = x3_2 + (1 : Int32) →
                        ∀ x4_22 : Int32, x4_22 = x4_2 + (1 : Int32) →
                        I_10 x3_21 x4_22 F_19 ∧ μ_10 x3_21 x4_22 F_19 < μ_10 x3_2 x4_2 F_2
                      ))
                    ) ∧ (¬ r_19 = (0) →
                      post (0 : Int32) F_19 A
                    ))
                  )
                ))
              )
            ))
          ) ∧ ((J_59 →
            vc_M_fails K (0 : Int32) (1 : Int32) F_2 A (fun (r_14 : Int32) (F_14 : gm_M) =>
              ((r_14 = (0) →
                ((x5_12 = (0) →
                  ∀ x4_15 : Int32, x4_15 = x4_2 + (1 : Int32) →
                  I_10 x3_2 x4_15 F_14 ∧ μ_10 x3_2 x4_15 F_14 < μ_10 x3_2 x4_2 F_2
                ) ∧ (¬ x5_12 = (0) →
                  ∀ x3_16 : Int32, x3_16 = x3_2 + (1 : Int32) →
                  ∀ x4_17 : Int32, x4_17 = x4_2 + (1 : Int32) →
                  I_10 x3_16 x4_17 F_14 ∧ μ_10 x3_16 x4_17 F_14 < μ_10 x3_2 x4_2 F_2
                ))
              ) ∧ (¬ r_14 = (0) →
                post (0 : Int32) F_14 A
              ))
            )
          ))
        ))
      ))
    ) ∧ ((J_83 →
      ∃ (J_93 : Int32 → Prop), (
        ((¬ x3_2 = (0) →
          J_93 (0 : Int32)
        ) ∧ (x3_2 = (0) →
          J_93 (1 : Int32)
        ))
      ) ∧ ((∀ (v0_4 : Int32), J_93 v0_4 →
        vc_M_fails K v0_4 (1 : Int32) F_2 A (fun (r_5 : Int32) (F_5 : gm_M) =>
          ((¬ r_5 = (0) →
            post (0 : Int32) F_5 A
          ) ∧ (r_5 = (0) →
            ∃ (J_118 : Int32 → Prop), (
              ((((F_5 (K 49) 1) + x3_2) ≤ (2100 : Int32) →
                J_118 (0 : Int32)
              ) ∧ (¬ ((F_5 (K 49) 1) + x3_2) ≤ (2100 : Int32) →
                J_118 (1 : Int32)
              ))
            ) ∧ ((∀ (v0_6 : Int32), J_118 v0_6 →
              vc_M_fails K v0_6 (2 : Int32) F_5 A (fun (r_7 : Int32) (F_7 : gm_M) =>
                ((r_7 = (0) →
                  ∃ (I_130 : Int32 → gm_M → Prop) (μ_130 : Int32 → gm_M → Nat), I_130 (0 : Int32) A ∧ ∀ (x4_8 : Int32) (A_8 : gm_M), I_130 x4_8 A_8 →
                    ((x3_2 ≤ x4_8 →
                      ∀ F_9 : gm_M, F_9 = gm_up F_7 (K 49) 1 ((F_7 (K 49) 1) + x3_2) →
                      post (F_9 (K 49) 1) F_9 A_8
                    ) ∧ (¬ x3_2 ≤ x4_8 →
                      (vp_in ((F_7 (K 49) 1) + x4_8) 2100) ∧ ∀ A_10 : gm_M, A_10 = gm_up A_8 (K 53) ((F_7 (K 49) 1) + x4_8).toNatClampNeg (((j_lushr p1 ((8 : Int32) * x4_8)) &&& (255 : Int64)).toInt32) →
                      ∀ x4_11 : Int32, x4_11 = x4_8 + (1 : Int32) →
                      I_130 x4_11 A_10 ∧ μ_130 x4_11 A_10 < μ_130 x4_8 A_8
                    ))
                ) ∧ (¬ r_7 = (0) →
                  post (0 : Int32) F_7 A
                ))
              )
            ))
          ))
        )
      ))
    ))
def vc_M_digit (p1 : Int32) (F A : gm_M) (post : Int32 → Prop) : Prop :=
  vc_M_in p1 (48 : Int32) (57 : Int32) F A (fun (r_1 : Int32) =>
    ((r_1 = (0) →
      vc_M_in p1 (97 : Int32) (122 : Int32) F A (fun (r_2 : Int32) =>
        ((r_2 = (0) →
          vc_M_in p1 (65 : Int32) (90 : Int32) F A (fun (r_3 : Int32) =>
            ((r_3 = (0) →
              post (99 : Int32)
            ) ∧ (¬ r_3 = (0) →
              post ((p1 - (65 : Int32)) + (10 : Int32))
            ))
          )
        ) ∧ (¬ r_2 = (0) →
          post ((p1 - (97 : Int32)) + (10 : Int32))
        ))
      )
    ) ∧ (¬ r_1 = (0) →
      post (p1 - (48 : Int32))
    ))
  )
def vc_M_timesSmall (a1 n1 : Nat) (p2 : Int32) (p3 : Int32) (p4 : Int32) (F A : gm_M) (post : Int32 → gm_M → Prop) : Prop :=
  ∀ x4_1 : Int64, x4_1 = (p4.toInt64) →
  ∃ (I_7 : Int64 → Int32 → gm_M → Prop) (μ_7 : Int64 → Int32 → gm_M → Nat), I_7 x4_1 (0 : Int32) A ∧ ∀ (x4_2 : Int64) (x6_2 : Int32) (A_2 : gm_M), I_7 x4_2 x6_2 A_2 →
    ((p2 ≤ x6_2 →
      ∃ (I_53 : Int64 → Int32 → gm_M → Prop) (μ_53 : Int64 → Int32 → gm_M → Nat), I_53 x4_2 p2 A_2 ∧ ∀ (x4_3 : Int64) (x6_3 : Int32) (A_3 : gm_M), I_53 x4_3 x6_3 A_3 →
        ((x4_3 = (0 : Int64) →
          post x6_3 A_3
        ) ∧ (¬ x4_3 = (0 : Int64) →
          ∀ x6_4 : Int32, x6_4 = x6_3 + (1 : Int32) →
          (vp_in x6_3 n1) ∧ ∀ A_5 : gm_M, A_5 = gm_up A_3 a1 x6_3.toNatClampNeg ((x4_3 &&& (65535 : Int64)).toInt32) →
          ∀ x4_6 : Int64, x4_6 = (j_lshr x4_3 (16 : Int32)) →
          I_53 x4_6 x6_4 A_5 ∧ μ_53 x4_6 x6_4 A_5 < μ_53 x4_3 x6_3 A_3
        ))
    ) ∧ (¬ p2 ≤ x6_2 →
      (vp_in x6_2 n1) ∧
      ∀ x4_7 : Int64, x4_7 = (x4_2 + (((A_2 a1 x6_2.toNatClampNeg).toInt64) * (p3.toInt64))) →
      (vp_in x6_2 n1) ∧ ∀ A_8 : gm_M, A_8 = gm_up A_2 a1 x6_2.toNatClampNeg ((x4_7 &&& (65535 : Int64)).toInt32) →
      ∀ x4_9 : Int64, x4_9 = (j_lshr x4_7 (16 : Int32)) →
      ∀ x6_10 : Int32, x6_10 = x6_2 + (1 : Int32) →
      I_7 x4_9 x6_10 A_8 ∧ μ_7 x4_9 x6_10 A_8 < μ_7 x4_2 x6_2 A_2
    ))
def vc_M_read (K : Nat → Nat) (p1 : Int32) (p2 : Int32) (F A : gm_M) (post : Int32 → gm_M → gm_M → Prop) : Prop :=
  ∀ F_1 : gm_M, F_1 = gm_up F (K 49) 0 (0 : Int32) →
  ∀ x3_2 : Int32, x3_2 = (F_1 (K 49) 1) →
  ∃ (J_30 : Int32 → Prop), (
    ∃ (J_29 : Prop), (
      ((x3_2 ≤ (0) →
        J_29
      ) ∧ (¬ x3_2 ≤ (0) →
        (vp_in (0 : Int32) 2100) ∧
        ((¬ (A (K 53) (0 : Int32).toNatClampNeg) = (45 : Int32) →
          J_29
        ) ∧ ((A (K 53) (0 : Int32).toNatClampNeg) = (45 : Int32) →
          J_30 (1 : Int32)
        ))
      ))
    ) ∧ ((J_29 →
      J_30 (0 : Int32)
    ))
  ) ∧ ((∀ (v0_3 : Int32), J_30 v0_3 →
    ∀ F_4 : gm_M, F_4 = gm_up F_1 (K 49) 1 (0 : Int32) →
    vc_M_isRegister p1 F_4 A (fun (r_5 : Int32) =>
      ∃ (J_69 : Int32 → Prop), (
        ∃ (J_64 : Prop), (
          ((r_5 = (0) →
            J_64
          ) ∧ (¬ r_5 = (0) →
            vc_M_in p2 (2 : Int32) (36 : Int32) F_4 A (fun (r_22 : Int32) =>
              ((r_22 = (0) →
                J_64
              ) ∧ (¬ r_22 = (0) →
                ((¬ x3_2 = v0_3 →
                  J_69 (0 : Int32)
                ) ∧ (x3_2 = v0_3 →
                  J_64
                ))
              ))
            )
          ))
        ) ∧ ((J_64 →
          J_69 (1 : Int32)
        ))
      ) ∧ ((∀ (v0_6 : Int32), J_69 v0_6 →
        vc_M_fails K v0_6 (1 : Int32) F_4 A (fun (r_7 : Int32) (F_7 : gm_M) =>
          ((r_7 = (0) →
            ∃ (I_82 : Int32 → gm_M → Prop) (μ_82 : Int32 → gm_M → Nat), I_82 v0_3 F_7 ∧ ∀ (x6_8 : Int32) (F_8 : gm_M), I_82 x6_8 F_8 →
              ((x3_2 ≤ x6_8 →
                ∃ (I_127 : Int32 → Int32 → gm_M → Prop) (μ_127 : Int32 → Int32 → gm_M → Nat), I_127 (0 : Int32) v0_3 A ∧ ∀ (x5_9 : Int32) (x6_9 : Int32) (A_9 : gm_M), I_127 x5_9 x6_9 A_9 →
                  ((x3_2 ≤ x6_9 →
                    ∃ (J_174 : Int32 → Prop), (
                      ((¬ v0_3 = (1 : Int32) →
                        J_174 (1 : Int32)
                      ) ∧ (v0_3 = (1 : Int32) →
                        J_174 (-1 : Int32)
                      ))
                    ) ∧ ((∀ (v0_10 : Int32), J_174 v0_10 →
                      vc_M_keep K p1 v0_10 (K 54) (9000) x5_9 (2 : Int32) F_8 A_9 (fun (r_11 : Int32) (F_11 : gm_M) (A_11 : gm_M) =>
                        ((¬ r_11 = (0) →
                          vc_M_size0 K p1 F_11 A_11 (fun (r_12 : Int32) (A_12 : gm_M) =>
                            post r_12 F_11 A_12
                          )
                        ) ∧ (r_11 = (0) →
                          post (0 : Int32) F_11 A_11
                        ))
                      )
                    ))
                  ) ∧ (¬ x3_2 ≤ x6_9 →
                    (vp_in x6_9 2100) ∧
                    vc_M_digit (A_9 (K 53) x6_9.toNatClampNeg) F_8 A_9 (fun (r_13 : Int32) =>
                      vc_M_timesSmall (K 54) (9000) x5_9 p2 r_13 F_8 A_9 (fun (r_14 : Int32) (A_14 : gm_M) =>
                        ∀ x6_15 : Int32, x6_15 = x6_9 + (1 : Int32) →
                        I_127 r_14 x6_15 A_14 ∧ μ_127 r_14 x6_15 A_14 < μ_127 x5_9 x6_9 A_9
                      )
                    )
                  ))
              ) ∧ (¬ x3_2 ≤ x6_8 →
                (vp_in x6_8 2100) ∧
                vc_M_digit (A (K 53) x6_8.toNatClampNeg) F_8 A (fun (r_16 : Int32) =>
                  ((r_16 < p2 →
                    vc_M_fails K (0 : Int32) (1 : Int32) F_8 A (fun (r_17 : Int32) (F_17 : gm_M) =>
                      ((r_17 = (0) →
                        ∀ x6_18 : Int32, x6_18 = x6_8 + (1 : Int32) →
                        I_82 x6_18 F_17 ∧ μ_82 x6_18 F_17 < μ_82 x6_8 F_8
                      ) ∧ (¬ r_17 = (0) →
                        post (0 : Int32) F_17 A
                      ))
                    )
                  ) ∧ (¬ r_16 < p2 →
                    vc_M_fails K (1 : Int32) (1 : Int32) F_8 A (fun (r_19 : Int32) (F_19 : gm_M) =>
                      ((r_19 = (0) →
                        ∀ x6_20 : Int32, x6_20 = x6_8 + (1 : Int32) →
                        I_82 x6_20 F_19 ∧ μ_82 x6_20 F_19 < μ_82 x6_8 F_8
                      ) ∧ (¬ r_19 = (0) →
                        post (0 : Int32) F_19 A
                      ))
                    )
                  ))
                )
              ))
          ) ∧ (¬ r_7 = (0) →
            post (0 : Int32) F_7 A
          ))
        )
      ))
    )
  ))
def vc_M_show (K : Nat → Nat) (p1 : Int32) (p2 : Int32) (F A : gm_M) (post : Int32 → gm_M → gm_M → Prop) : Prop :=
  ∀ F_1 : gm_M, F_1 = gm_up F (K 49) 0 (0 : Int32) →
  vc_M_isRegister p1 F_1 A (fun (r_2 : Int32) =>
    ∃ (J_28 : Int32 → Prop), (
      ∃ (J_23 : Prop), (
        ((r_2 = (0) →
          J_23
        ) ∧ (¬ r_2 = (0) →
          vc_M_in p2 (2 : Int32) (36 : Int32) F_1 A (fun (r_31 : Int32) =>
            ((¬ r_31 = (0) →
              J_28 (0 : Int32)
            ) ∧ (r_31 = (0) →
              J_23
            ))
          )
        ))
      ) ∧ ((J_23 →
        J_28 (1 : Int32)
      ))
    ) ∧ ((∀ (v0_3 : Int32), J_28 v0_3 →
      vc_M_fails K v0_3 (1 : Int32) F_1 A (fun (r_4 : Int32) (F_4 : gm_M) =>
        ((r_4 = (0) →
          vc_M_load K p1 (K 54) (9000) F_4 A (fun (r_5 : Int32) (A_5 : gm_M) =>
            ∃ (I_50 : Int32 → Int32 → gm_M → Prop) (μ_50 : Int32 → Int32 → gm_M → Nat), I_50 r_5 (0 : Int32) A_5 ∧ ∀ (x3_6 : Int32) (x4_6 : Int32) (A_6 : gm_M), I_50 x3_6 x4_6 A_6 →
              ((x3_6 ≤ (0) →
                ∃ (J_150 : Int32 → gm_M → Prop), (
                  ((¬ x4_6 = (0) →
                    J_150 x4_6 A_6
                  ) ∧ (x4_6 = (0) →
                    ∀ x4_19 : Int32, x4_19 = x4_6 + (1 : Int32) →
                    (vp_in x4_6 9000) ∧ ∀ A_20 : gm_M, A_20 = gm_up A_6 (K 55) x4_6.toNatClampNeg (0 : Int32) →
                    J_150 x4_19 A_20
                  ))
                ) ∧ ((∀ (x4_7 : Int32) (A_7 : gm_M), J_150 x4_7 A_7 →
                  ∀ F_8 : gm_M, F_8 = gm_up F_4 (K 49) 1 (0 : Int32) →
                  (vp_in p1 16) ∧
                  ∃ (J_182 : gm_M → gm_M → Prop), (
                    (((0) ≤ (A_7 (K 52) p1.toNatClampNeg) →
                      J_182 F_8 A_7
                    ) ∧ (¬ (0) ≤ (A_7 (K 52) p1.toNatClampNeg) →
                      ∀ F_17 : gm_M, F_17 = gm_up F_8 (K 49) 1 ((F_8 (K 49) 1) + (1 : Int32)) →
                      (vp_in (F_8 (K 49) 1) 2100) ∧ ∀ A_18 : gm_M, A_18 = gm_up A_7 (K 53) (F_8 (K 49) 1).toNatClampNeg (45 : Int32) →
                      J_182 F_17 A_18
                    ))
                  ) ∧ ((∀ (F_9 : gm_M) (A_9 : gm_M), J_182 F_9 A_9 →
                    ∀ x5_10 : Int32, x5_10 = (x4_7 - (1 : Int32)) →
                    ∃ (I_188 : Int32 → gm_M → gm_M → Prop) (μ_188 : Int32 → gm_M → gm_M → Nat), I_188 x5_10 F_9 A_9 ∧ ∀ (x5_11 : Int32) (F_11 : gm_M) (A_11 : gm_M), I_188 x5_11 F_11 A_11 →
                      ((x5_11 < (0) →
                        post (F_11 (K 49) 1) F_11 A_11
                      ) ∧ (¬ x5_11 < (0) →
                        ∀ F_12 : gm_M, F_12 = gm_up F_11 (K 49) 1 ((F_11 (K 49) 1) + (1 : Int32)) →
                        (vp_in x5_11 9000) ∧
                        (((10 : Int32) ≤ (A_11 (K 55) x5_11.toNatClampNeg) →
                          (vp_in x5_11 9000) ∧
                          (vp_in (F_11 (K 49) 1) 2100) ∧ ∀ A_13 : gm_M, A_13 = gm_up A_11 (K 53) (F_11 (K 49) 1).toNatClampNeg (((97 : Int32) + (A_11 (K 55) x5_11.toNatClampNeg)) - (10 : Int32)) →
                          ∀ x5_14 : Int32, x5_14 = x5_11 + (-1 : Int32) →
                          I_188 x5_14 F_12 A_13 ∧ μ_188 x5_14 F_12 A_13 < μ_188 x5_11 F_11 A_11
                        ) ∧ (¬ (10 : Int32) ≤ (A_11 (K 55) x5_11.toNatClampNeg) →
                          (vp_in x5_11 9000) ∧
                          (vp_in (F_11 (K 49) 1) 2100) ∧ ∀ A_15 : gm_M, A_15 = gm_up A_11 (K 53) (F_11 (K 49) 1).toNatClampNeg ((48 : Int32) + (A_11 (K 55) x5_11.toNatClampNeg)) →
                          ∀ x5_16 : Int32, x5_16 = x5_11 + (-1 : Int32) →
                          I_188 x5_16 F_12 A_15 ∧ μ_188 x5_16 F_12 A_15 < μ_188 x5_11 F_11 A_11
                        ))
                      ))
                  ))
                ))
              ) ∧ (¬ x3_6 ≤ (0) →
                ∀ x7_21 : Int32, x7_21 = (x3_6 - (1 : Int32)) →
                ∃ (I_62 : Int64 → Int32 → gm_M → Prop) (μ_62 : Int64 → Int32 → gm_M → Nat), I_62 (0 : Int64) x7_21 A_6 ∧ ∀ (x5_22 : Int64) (x7_22 : Int32) (A_22 : gm_M), I_62 x5_22 x7_22 A_22 →
                  ((x7_22 < (0) →
                    vc_M_trim (K 54) (9000) x3_6 F_4 A_22 (fun (r_23 : Int32) =>
                      ∀ x4_24 : Int32, x4_24 = x4_6 + (1 : Int32) →
                      (vp_in x4_6 9000) ∧ ∀ A_25 : gm_M, A_25 = gm_up A_22 (K 55) x4_6.toNatClampNeg (x5_22.toInt32) →
                      I_50 r_23 x4_24 A_25 ∧ μ_50 r_23 x4_24 A_25 < μ_50 x3_6 x4_6 A_6
                    )
                  ) ∧ (¬ x7_22 < (0) →
                    (vp_in x7_22 9000) ∧
                    ∀ x5_26 : Int64, x5_26 = ((j_lshl x5_22 (16 : Int32)) ||| ((A_22 (K 54) x7_22.toNatClampNeg).toInt64)) →
                    (¬ (p2.toInt64) = 0) ∧
                    (vp_in x7_22 9000) ∧ ∀ A_27 : gm_M, A_27 = gm_up A_22 (K 54) x7_22.toNatClampNeg ((x5_26 / (p2.toInt64)).toInt32) →
                    (¬ (p2.toInt64) = 0) ∧
                    ∀ x5_28 : Int64, x5_28 = (x5_26 - x5_26 / (p2.toInt64) * (p2.toInt64)) →
                    ∀ x7_29 : Int32, x7_29 = x7_22 + (-1 : Int32) →
                    I_62 x5_28 x7_29 A_27 ∧ μ_62 x5_28 x7_29 A_27 < μ_62 x5_22 x7_22 A_22
                  ))
              ))
          )
        ) ∧ (¬ r_4 = (0) →
          post (0 : Int32) F_4 A
        ))
      )
    ))
  )
def vc_M_letter (K : Nat → Nat) (p1 : Int32) (F A : gm_M) (post : Int32 → gm_M → Prop) : Prop :=
  ∀ F_1 : gm_M, F_1 = gm_up F (K 49) 0 (0 : Int32) →
  vc_M_in p1 (0 : Int32) ((F_1 (K 49) 1) - (1 : Int32)) F_1 A (fun (r_2 : Int32) =>
    ((¬ r_2 = (0) →
      vc_M_fails K (0 : Int32) (1 : Int32) F_1 A (fun (r_3 : Int32) (F_3 : gm_M) =>
        ((r_3 = (0) →
          (vp_in p1 2100) ∧
          post (A (K 53) p1.toNatClampNeg) F_3
        ) ∧ (¬ r_3 = (0) →
          post (0 : Int32) F_3
        ))
      )
    ) ∧ (r_2 = (0) →
      vc_M_fails K (1 : Int32) (1 : Int32) F_1 A (fun (r_4 : Int32) (F_4 : gm_M) =>
        ((r_4 = (0) →
          (vp_in p1 2100) ∧
          post (A (K 53) p1.toNatClampNeg) F_4
        ) ∧ (¬ r_4 = (0) →
          post (0 : Int32) F_4
        ))
      )
    ))
  )
def vc_M_work (K : Nat → Nat) (p1 : Int32) (p2 : Int32) (p3 : Int32) (p4 : Int32) (F A : gm_M) (post : Int32 → gm_M → gm_M → Prop) : Prop :=
  ∀ F_1 : gm_M, F_1 = gm_up F (K 49) 0 (0 : Int32) →
  vc_M_in p1 (0 : Int32) (2 : Int32) F_1 A (fun (r_2 : Int32) =>
    ∃ (J_42 : Int32 → Prop), (
      ∃ (J_37 : Prop), (
        ((r_2 = (0) →
          J_37
        ) ∧ (¬ r_2 = (0) →
          vc_M_isRegister p2 F_1 A (fun (r_21 : Int32) =>
            ((r_21 = (0) →
              J_37
            ) ∧ (¬ r_21 = (0) →
              vc_M_isRegister p3 F_1 A (fun (r_22 : Int32) =>
                ((r_22 = (0) →
                  J_37
                ) ∧ (¬ r_22 = (0) →
                  vc_M_isRegister p4 F_1 A (fun (r_23 : Int32) =>
                    ((¬ r_23 = (0) →
                      J_42 (0 : Int32)
                    ) ∧ (r_23 = (0) →
                      J_37
                    ))
                  )
                ))
              )
            ))
          )
        ))
      ) ∧ ((J_37 →
        J_42 (1 : Int32)
      ))
    ) ∧ ((∀ (v0_3 : Int32), J_42 v0_3 →
      vc_M_fails K v0_3 (1 : Int32) F_1 A (fun (r_4 : Int32) (F_4 : gm_M) =>
        ((r_4 = (0) →
          vc_M_load K p3 (K 54) (9000) F_4 A (fun (r_5 : Int32) (A_5 : gm_M) =>
            vc_M_load K p4 (K 55) (9000) F_4 A_5 (fun (r_6 : Int32) (A_6 : gm_M) =>
              (vp_in p3 16) ∧
              ∀ x7_7 : Int32, x7_7 = (A_6 (K 52) p3.toNatClampNeg) →
              ∃ (J_105 : Int32 → Prop), (
                ((¬ p1 = (1 : Int32) →
                  (vp_in p4 16) ∧
                  J_105 (A_6 (K 52) p4.toNatClampNeg)
                ) ∧ (p1 = (1 : Int32) →
                  (vp_in p4 16) ∧
                  J_105 (-(A_6 (K 52) p4.toNatClampNeg))
                ))
              ) ∧ ((∀ (v0_8 : Int32), J_105 v0_8 →
                ((¬ p1 = (2 : Int32) →
                  ∃ (J_168 : Prop), (
                    ((x7_7 = v0_8 →
                      J_168
                    ) ∧ (¬ x7_7 = v0_8 →
                      ((v0_8 = (0) →
                        J_168
                      ) ∧ (¬ v0_8 = (0) →
                        ((¬ x7_7 = (0) →
                          vc_M_compared (K 54) (9000) r_5 (K 55) (9000) r_6 F_4 A_6 (fun (r_13 : Int32) =>
                            ((r_13 < (0) →
                              vc_M_less (K 55) (9000) r_6 (K 54) (9000) r_5 (K 56) (9000) F_4 A_6 (fun (r_14 : Int32) (A_14 : gm_M) =>
                                vc_M_keep K p2 v0_8 (K 56) (9000) r_14 (2 : Int32) F_4 A_14 (fun (r_15 : Int32) (F_15 : gm_M) (A_15 : gm_M) =>
                                  ((r_15 = (0) →
                                    post (0 : Int32) F_15 A_15
                                  ) ∧ (¬ r_15 = (0) →
                                    (vp_in p2 16) ∧
                                    post (A_15 (K 52) p2.toNatClampNeg) F_15 A_15
                                  ))
                                )
                              )
                            ) ∧ (¬ r_13 < (0) →
                              vc_M_less (K 54) (9000) r_5 (K 55) (9000) r_6 (K 56) (9000) F_4 A_6 (fun (r_16 : Int32) (A_16 : gm_M) =>
                                vc_M_keep K p2 x7_7 (K 56) (9000) r_16 (2 : Int32) F_4 A_16 (fun (r_17 : Int32) (F_17 : gm_M) (A_17 : gm_M) =>
                                  ((r_17 = (0) →
                                    post (0 : Int32) F_17 A_17
                                  ) ∧ (¬ r_17 = (0) →
                                    (vp_in p2 16) ∧
                                    post (A_17 (K 52) p2.toNatClampNeg) F_17 A_17
                                  ))
                                )
                              )
                            ))
                          )
                        ) ∧ (x7_7 = (0) →
                          J_168
                        ))
                      ))
                    ))
                  ) ∧ ((J_168 →
                    ∃ (J_182 : Int32 → Prop), (
                      ((x7_7 = (0) →
                        J_182 v0_8
                      ) ∧ (¬ x7_7 = (0) →
                        J_182 x7_7
                      ))
                    ) ∧ ((∀ (v0_10 : Int32), J_182 v0_10 →
                      vc_M_plus (K 54) (9000) r_5 (K 55) (9000) r_6 (K 56) (9000) F_4 A_6 (fun (r_11 : Int32) (A_11 : gm_M) =>
                        vc_M_keep K p2 v0_10 (K 56) (9000) r_11 (2 : Int32) F_4 A_11 (fun (r_12 : Int32) (F_12 : gm_M) (A_12 : gm_M) =>
                          ((r_12 = (0) →
                            post (0 : Int32) F_12 A_12
                          ) ∧ (¬ r_12 = (0) →
                            (vp_in p2 16) ∧
                            post (A_12 (K 52) p2.toNatClampNeg) F_12 A_12
                          ))
                        )
                      )
                    ))
                  ))
                ) ∧ (p1 = (2 : Int32) →
                  vc_M_times (K 54) (9000) r_5 (K 55) (9000) r_6 (K 56) (9000) F_4 A_6 (fun (r_18 : Int32) (A_18 : gm_M) =>
                    vc_M_keep K p2 (x7_7 * v0_8) (K 56) (9000) r_18 (2 : Int32) F_4 A_18 (fun (r_19 : Int32) (F_19 : gm_M) (A_19 : gm_M) =>
                      ((r_19 = (0) →
                        post (0 : Int32) F_19 A_19
                      ) ∧ (¬ r_19 = (0) →
                        (vp_in p2 16) ∧
                        post (A_19 (K 52) p2.toNatClampNeg) F_19 A_19
                      ))
                    )
                  )
                ))
              ))
            )
          )
        ) ∧ (¬ r_4 = (0) →
          post (0 : Int32) F_4 A
        ))
      )
    ))
  )
def vc_M_divide (K : Nat → Nat) (p1 : Int32) (p2 : Int32) (p3 : Int32) (p4 : Int32) (p5 : Int32) (F A : gm_M) (post : Int32 → gm_M → gm_M → Prop) : Prop :=
  ∀ F_1 : gm_M, F_1 = gm_up F (K 49) 0 (0 : Int32) →
  vc_M_isRegister p2 F_1 A (fun (r_2 : Int32) =>
    ∃ (J_46 : Int32 → Prop), (
      ∃ (J_41 : Prop), (
        ((r_2 = (0) →
          J_41
        ) ∧ (¬ r_2 = (0) →
          vc_M_isRegister p3 F_1 A (fun (r_25 : Int32) =>
            ((r_25 = (0) →
              J_41
            ) ∧ (¬ r_25 = (0) →
              vc_M_isRegister p4 F_1 A (fun (r_26 : Int32) =>
                ((r_26 = (0) →
                  J_41
                ) ∧ (¬ r_26 = (0) →
                  vc_M_isRegister p5 F_1 A (fun (r_27 : Int32) =>
                    ((r_27 = (0) →
                      J_41
                    ) ∧ (¬ r_27 = (0) →
                      ((¬ p2 = p3 →
                        J_46 (0 : Int32)
                      ) ∧ (p2 = p3 →
                        J_41
                      ))
                    ))
                  )
                ))
              )
            ))
          )
        ))
      ) ∧ ((J_41 →
        J_46 (1 : Int32)
      ))
    ) ∧ ((∀ (v0_3 : Int32), J_46 v0_3 →
      vc_M_fails K v0_3 (1 : Int32) F_1 A (fun (r_4 : Int32) (F_4 : gm_M) =>
        ((¬ r_4 = (0) →
          post (0 : Int32) F_4 A
        ) ∧ (r_4 = (0) →
          (vp_in p5 16) ∧
          ∃ (J_69 : Int32 → Prop), (
            ((¬ (A (K 52) p5.toNatClampNeg) = (0) →
              J_69 (0 : Int32)
            ) ∧ ((A (K 52) p5.toNatClampNeg) = (0) →
              J_69 (1 : Int32)
            ))
          ) ∧ ((∀ (v0_5 : Int32), J_69 v0_5 →
            vc_M_fails K v0_5 (2 : Int32) F_4 A (fun (r_6 : Int32) (F_6 : gm_M) =>
              ((r_6 = (0) →
                vc_M_load K p4 (K 54) (9000) F_6 A (fun (r_7 : Int32) (A_7 : gm_M) =>
                  vc_M_load K p5 (K 55) (9000) F_6 A_7 (fun (r_8 : Int32) (A_8 : gm_M) =>
                    (vp_in p4 16) ∧
                    ∀ x8_9 : Int32, x8_9 = (A_8 (K 52) p4.toNatClampNeg) →
                    (vp_in p5 16) ∧
                    ∀ x9_10 : Int32, x9_10 = (A_8 (K 52) p5.toNatClampNeg) →
                    vc_M_divided K (K 54) (9000) r_7 (K 55) (9000) r_8 (K 56) (9000) F_6 A_8 (fun (r_11 : Int32) (F_11 : gm_M) (A_11 : gm_M) =>
                      ∀ x10_12 : Int32, x10_12 = (F_11 (K 49) 12) →
                      ∃ (J_278 : Prop), (
                        ((p1 = (0) →
                          J_278
                        ) ∧ (¬ p1 = (0) →
                          ((r_11 ≤ (0) →
                            J_278
                          ) ∧ (¬ r_11 ≤ (0) →
                            ((x8_9 = x9_10 →
                              J_278
                            ) ∧ (¬ x8_9 = x9_10 →
                              (vp_in (0 : Int32) 9000) ∧ ∀ A_16 : gm_M, A_16 = gm_up A_11 (K 57) (0 : Int32).toNatClampNeg (1 : Int32) →
                              vc_M_plus (K 56) (9000) x10_12 (K 57) (9000) (1 : Int32) (K 56) (9000) F_11 A_16 (fun (r_17 : Int32) (A_17 : gm_M) =>
                                vc_M_less (K 55) (9000) r_8 (K 54) (9000) r_11 (K 57) (9000) F_11 A_17 (fun (r_18 : Int32) (A_18 : gm_M) =>
                                  vc_M_bits (K 56) (9000) r_17 F_11 A_18 (fun (r_19 : Int32) =>
                                    ∃ (J_233 : Int32 → Prop), (
                                      ((r_19 ≤ (2048 : Int32) →
                                        J_233 (0 : Int32)
                                      ) ∧ (¬ r_19 ≤ (2048 : Int32) →
                                        J_233 (1 : Int32)
                                      ))
                                    ) ∧ ((∀ (v0_20 : Int32), J_233 v0_20 →
                                      vc_M_fails K v0_20 (2 : Int32) F_11 A_18 (fun (r_21 : Int32) (F_21 : gm_M) =>
                                        ((r_21 = (0) →
                                          vc_M_keep K p2 (x8_9 * x9_10) (K 56) (9000) r_17 (2 : Int32) F_21 A_18 (fun (r_22 : Int32) (F_22 : gm_M) (A_22 : gm_M) =>
                                            vc_M_keep K p3 x9_10 (K 57) (9000) r_18 (2 : Int32) F_22 A_22 (fun (r_23 : Int32) (F_23 : gm_M) (A_23 : gm_M) =>
                                              (vp_in p3 16) ∧
                                              post (A_23 (K 52) p3.toNatClampNeg) F_23 A_23
                                            )
                                          )
                                        ) ∧ (¬ r_21 = (0) →
                                          post (0 : Int32) F_21 A_18
                                        ))
                                      )
                                    ))
                                  )
                                )
                              )
                            ))
                          ))
                        ))
                      ) ∧ ((J_278 →
                        vc_M_keep K p2 (x8_9 * x9_10) (K 56) (9000) x10_12 (2 : Int32) F_11 A_11 (fun (r_14 : Int32) (F_14 : gm_M) (A_14 : gm_M) =>
                          vc_M_keep K p3 x8_9 (K 54) (9000) r_11 (2 : Int32) F_14 A_14 (fun (r_15 : Int32) (F_15 : gm_M) (A_15 : gm_M) =>
                            (vp_in p3 16) ∧
                            post (A_15 (K 52) p3.toNatClampNeg) F_15 A_15
                          )
                        )
                      ))
                    )
                  )
                )
              ) ∧ (¬ r_6 = (0) →
                post (0 : Int32) F_6 A
              ))
            )
          ))
        ))
      )
    ))
  )
def vc_M_shift (K : Nat → Nat) (p1 : Int32) (p2 : Int32) (p3 : Int32) (F A : gm_M) (post : Int32 → gm_M → gm_M → Prop) : Prop :=
  ∀ F_1 : gm_M, F_1 = gm_up F (K 49) 0 (0 : Int32) →
  vc_M_isRegister p1 F_1 A (fun (r_2 : Int32) =>
    ∃ (J_38 : Int32 → Prop), (
      ∃ (J_33 : Prop), (
        ((r_2 = (0) →
          J_33
        ) ∧ (¬ r_2 = (0) →
          vc_M_isRegister p2 F_1 A (fun (r_29 : Int32) =>
            ((r_29 = (0) →
              J_33
            ) ∧ (¬ r_29 = (0) →
              vc_M_in p3 (-4000 : Int32) (4000 : Int32) F_1 A (fun (r_30 : Int32) =>
                ((¬ r_30 = (0) →
                  J_38 (0 : Int32)
                ) ∧ (r_30 = (0) →
                  J_33
                ))
              )
            ))
          )
        ))
      ) ∧ ((J_33 →
        J_38 (1 : Int32)
      ))
    ) ∧ ((∀ (v0_3 : Int32), J_38 v0_3 →
      vc_M_fails K v0_3 (1 : Int32) F_1 A (fun (r_4 : Int32) (F_4 : gm_M) =>
        ((r_4 = (0) →
          vc_M_load K p2 (K 54) (9000) F_4 A (fun (r_5 : Int32) (A_5 : gm_M) =>
            ((p3 < (0) →
              ∃ (I_114 : Int32 → Int32 → Prop) (μ_114 : Int32 → Int32 → Nat), I_114 (0 : Int32) (0 : Int32) ∧ ∀ (x6_6 : Int32) (x7_6 : Int32), I_114 x6_6 x7_6 →
                (((-p3) ≤ x7_6 →
                  ∃ (I_146 : Int32 → Int32 → gm_M → Prop) (μ_146 : Int32 → Int32 → gm_M → Nat), I_146 (0 : Int32) (0 : Int32) A_5 ∧ ∀ (x5_7 : Int32) (x7_7 : Int32) (A_7 : gm_M), I_146 x5_7 x7_7 A_7 →
                    (((((16 : Int32) * r_5) + p3) ≤ ((16 : Int32) * x7_7) →
                      vc_M_trim (K 56) (9000) x5_7 F_4 A_7 (fun (r_8 : Int32) =>
                        ∃ (J_281 : Int32 → gm_M → Prop), (
                          ((x6_6 = (0) →
                            J_281 r_8 A_7
                          ) ∧ (¬ x6_6 = (0) →
                            (vp_in p2 16) ∧
                            (((0) ≤ (A_7 (K 52) p2.toNatClampNeg) →
                              J_281 r_8 A_7
                            ) ∧ (¬ (0) ≤ (A_7 (K 52) p2.toNatClampNeg) →
                              (vp_in (0 : Int32) 9000) ∧ ∀ A_12 : gm_M, A_12 = gm_up A_7 (K 57) (0 : Int32).toNatClampNeg (1 : Int32) →
                              vc_M_plus (K 56) (9000) r_8 (K 57) (9000) (1 : Int32) (K 56) (9000) F_4 A_12 (fun (r_13 : Int32) (A_13 : gm_M) =>
                                J_281 r_13 A_13
                              )
                            ))
                          ))
                        ) ∧ ((∀ (x5_9 : Int32) (A_9 : gm_M), J_281 x5_9 A_9 →
                          (vp_in p2 16) ∧
                          vc_M_keep K p1 (A_9 (K 52) p2.toNatClampNeg) (K 56) (9000) x5_9 (2 : Int32) F_4 A_9 (fun (r_10 : Int32) (F_10 : gm_M) (A_10 : gm_M) =>
                            vc_M_size0 K p1 F_10 A_10 (fun (r_11 : Int32) (A_11 : gm_M) =>
                              post r_11 F_10 A_11
                            )
                          )
                        ))
                      )
                    ) ∧ (¬ (((16 : Int32) * r_5) + p3) ≤ ((16 : Int32) * x7_7) →
                      ∃ (I_167 : Int32 → Int32 → Prop) (μ_167 : Int32 → Int32 → Nat), I_167 (0 : Int32) (0 : Int32) ∧ ∀ (x8_14 : Int32) (x9_14 : Int32), I_167 x8_14 x9_14 →
                        (((16 : Int32) ≤ x9_14 →
                          ∀ x5_15 : Int32, x5_15 = x5_7 + (1 : Int32) →
                          (vp_in x5_7 9000) ∧ ∀ A_16 : gm_M, A_16 = gm_up A_7 (K 56) x5_7.toNatClampNeg x8_14 →
                          ∀ x7_17 : Int32, x7_17 = x7_7 + (1 : Int32) →
                          I_146 x5_15 x7_17 A_16 ∧ μ_146 x5_15 x7_17 A_16 < μ_146 x5_7 x7_7 A_7
                        ) ∧ (¬ (16 : Int32) ≤ x9_14 →
                          vc_M_isBit (K 54) (9000) r_5 ((((16 : Int32) * x7_7) + x9_14) - p3) F_4 A_7 (fun (r_18 : Int32) =>
                            ((r_18 = (0) →
                              ∀ x9_19 : Int32, x9_19 = x9_14 + (1 : Int32) →
                              I_167 x8_14 x9_19 ∧ μ_167 x8_14 x9_19 < μ_167 x8_14 x9_14
                            ) ∧ (¬ r_18 = (0) →
                              ∀ x8_20 : Int32, x8_20 = (x8_14 ||| ((1 : Int32) <<< (x9_14 &&& 31))) →
                              ∀ x9_21 : Int32, x9_21 = x9_14 + (1 : Int32) →
                              I_167 x8_20 x9_21 ∧ μ_167 x8_20 x9_21 < μ_167 x8_14 x9_14
                            ))
                          )
                        ))
                    ))
                ) ∧ (¬ (-p3) ≤ x7_6 →
                  vc_M_isBit (K 54) (9000) r_5 x7_6 F_4 A_5 (fun (r_22 : Int32) =>
                    ∀ x6_23 : Int32, x6_23 = (x6_6 ||| r_22) →
                    ∀ x7_24 : Int32, x7_24 = x7_6 + (1 : Int32) →
                    I_114 x6_23 x7_24 ∧ μ_114 x6_23 x7_24 < μ_114 x6_6 x7_6
                  )
                ))
            ) ∧ (¬ p3 < (0) →
              (vp_in p2 16) ∧
              vc_M_shiftedLeft (K 54) (9000) r_5 p3 (K 56) (9000) F_4 A_5 (fun (r_25 : Int32) (A_25 : gm_M) =>
                vc_M_keep K p1 (A_5 (K 52) p2.toNatClampNeg) (K 56) (9000) r_25 (2 : Int32) F_4 A_25 (fun (r_26 : Int32) (F_26 : gm_M) (A_26 : gm_M) =>
                  ((r_26 = (0) →
                    post (0 : Int32) F_26 A_26
                  ) ∧ (¬ r_26 = (0) →
                    vc_M_size0 K p1 F_26 A_26 (fun (r_27 : Int32) (A_27 : gm_M) =>
                      post r_27 F_26 A_27
                    )
                  ))
                )
              )
            ))
          )
        ) ∧ (¬ r_4 = (0) →
          post (0 : Int32) F_4 A
        ))
      )
    ))
  )
def vc_M_twos (a1 n1 : Nat) (p2 : Int32) (p3 : Int32) (p4 : Int32) (F A : gm_M) (post : gm_M → Prop) : Prop :=
  ∃ (I_3 : Int32 → gm_M → Prop) (μ_3 : Int32 → gm_M → Nat), I_3 p2 A ∧ ∀ (x4_1 : Int32) (A_1 : gm_M), I_3 x4_1 A_1 →
    ((p3 ≤ x4_1 →
      ∃ (J_29 : Int32 → Prop), (
        ((p4 = (0) →
          J_29 (0 : Int32)
        ) ∧ (¬ p4 = (0) →
          J_29 (1 : Int32)
        ))
      ) ∧ ((∀ (v0_2 : Int32), J_29 v0_2 →
        ∃ (I_34 : Int32 → Int32 → gm_M → Prop) (μ_34 : Int32 → Int32 → gm_M → Nat), I_34 v0_2 (0 : Int32) A_1 ∧ ∀ (x4_3 : Int32) (x5_3 : Int32) (A_3 : gm_M), I_34 x4_3 x5_3 A_3 →
          ((p3 ≤ x5_3 →
            post A_3
          ) ∧ (¬ p3 ≤ x5_3 →
            ((p4 = (0) →
              post A_3
            ) ∧ (¬ p4 = (0) →
              (vp_in x5_3 n1) ∧
              ∀ x4_4 : Int32, x4_4 = (x4_3 + (((A_3 a1 x5_3.toNatClampNeg) ^^^ (-1 : Int32)) &&& (65535 : Int32))) →
              (vp_in x5_3 n1) ∧ ∀ A_5 : gm_M, A_5 = gm_up A_3 a1 x5_3.toNatClampNeg (x4_4 &&& (65535 : Int32)) →
              ∀ x4_6 : Int32, x4_6 = (x4_4 >>> ((16 : Int32) &&& 31)) →
              ∀ x5_7 : Int32, x5_7 = x5_3 + (1 : Int32) →
              I_34 x4_6 x5_7 A_5 ∧ μ_34 x4_6 x5_7 A_5 < μ_34 x4_3 x5_3 A_3
            ))
          ))
      ))
    ) ∧ (¬ p3 ≤ x4_1 →
      (vp_in x4_1 n1) ∧ ∀ A_8 : gm_M, A_8 = gm_up A_1 a1 x4_1.toNatClampNeg (0 : Int32) →
      ∀ x4_9 : Int32, x4_9 = x4_1 + (1 : Int32) →
      I_3 x4_9 A_8 ∧ μ_3 x4_9 A_8 < μ_3 x4_1 A_1
    ))
def vc_M_bits2 (K : Nat → Nat) (p1 : Int32) (p2 : Int32) (p3 : Int32) (p4 : Int32) (F A : gm_M) (post : Int32 → gm_M → gm_M → Prop) : Prop :=
  ∀ F_1 : gm_M, F_1 = gm_up F (K 49) 0 (0 : Int32) →
  vc_M_in p1 (0 : Int32) (2 : Int32) F_1 A (fun (r_2 : Int32) =>
    ∃ (J_42 : Int32 → Prop), (
      ∃ (J_37 : Prop), (
        ((r_2 = (0) →
          J_37
        ) ∧ (¬ r_2 = (0) →
          vc_M_isRegister p2 F_1 A (fun (r_23 : Int32) =>
            ((r_23 = (0) →
              J_37
            ) ∧ (¬ r_23 = (0) →
              vc_M_isRegister p3 F_1 A (fun (r_24 : Int32) =>
                ((r_24 = (0) →
                  J_37
                ) ∧ (¬ r_24 = (0) →
                  vc_M_isRegister p4 F_1 A (fun (r_25 : Int32) =>
                    ((¬ r_25 = (0) →
                      J_42 (0 : Int32)
                    ) ∧ (r_25 = (0) →
                      J_37
                    ))
                  )
                ))
              )
            ))
          )
        ))
      ) ∧ ((J_37 →
        J_42 (1 : Int32)
      ))
    ) ∧ ((∀ (v0_3 : Int32), J_42 v0_3 →
      vc_M_fails K v0_3 (1 : Int32) F_1 A (fun (r_4 : Int32) (F_4 : gm_M) =>
        ((r_4 = (0) →
          vc_M_load K p3 (K 54) (9000) F_4 A (fun (r_5 : Int32) (A_5 : gm_M) =>
            vc_M_load K p4 (K 55) (9000) F_4 A_5 (fun (r_6 : Int32) (A_6 : gm_M) =>
              (vp_in p3 16) ∧
              ∃ (J_101 : Int32 → Prop), (
                (((0) ≤ (A_6 (K 52) p3.toNatClampNeg) →
                  J_101 (0 : Int32)
                ) ∧ (¬ (0) ≤ (A_6 (K 52) p3.toNatClampNeg) →
                  J_101 (1 : Int32)
                ))
              ) ∧ ((∀ (v0_7 : Int32), J_101 v0_7 →
                vc_M_twos (K 54) (9000) r_5 (131 : Int32) v0_7 F_4 A_6 (fun (A_8 : gm_M) =>
                  (vp_in p4 16) ∧
                  ∃ (J_127 : Int32 → Prop), (
                    (((0) ≤ (A_8 (K 52) p4.toNatClampNeg) →
                      J_127 (0 : Int32)
                    ) ∧ (¬ (0) ≤ (A_8 (K 52) p4.toNatClampNeg) →
                      J_127 (1 : Int32)
                    ))
                  ) ∧ ((∀ (v0_9 : Int32), J_127 v0_9 →
                    vc_M_twos (K 55) (9000) r_6 (131 : Int32) v0_9 F_4 A_8 (fun (A_10 : gm_M) =>
                      ∃ (I_133 : Int32 → gm_M → Prop) (μ_133 : Int32 → gm_M → Nat), I_133 (0 : Int32) A_10 ∧ ∀ (x8_11 : Int32) (A_11 : gm_M), I_133 x8_11 A_11 →
                        (((131 : Int32) ≤ x8_11 →
                          (vp_in ((131 : Int32) - (1 : Int32)) 9000) ∧
                          ∃ (J_236 : Int32 → Prop), (
                            ((((A_11 (K 56) ((131 : Int32) - (1 : Int32)).toNatClampNeg) &&& (32768 : Int32)) = (0) →
                              J_236 (0 : Int32)
                            ) ∧ (¬ ((A_11 (K 56) ((131 : Int32) - (1 : Int32)).toNatClampNeg) &&& (32768 : Int32)) = (0) →
                              J_236 (1 : Int32)
                            ))
                          ) ∧ ((∀ (v0_12 : Int32), J_236 v0_12 →
                            vc_M_twos (K 56) (9000) (131 : Int32) (131 : Int32) v0_12 F_4 A_11 (fun (A_13 : gm_M) =>
                              ∃ (J_263 : Int32 → Prop), (
                                ((v0_12 = (0) →
                                  J_263 (1 : Int32)
                                ) ∧ (¬ v0_12 = (0) →
                                  J_263 (-1 : Int32)
                                ))
                              ) ∧ ((∀ (v0_14 : Int32), J_263 v0_14 →
                                vc_M_keep K p2 v0_14 (K 56) (9000) (131 : Int32) (2 : Int32) F_4 A_13 (fun (r_15 : Int32) (F_15 : gm_M) (A_15 : gm_M) =>
                                  ((r_15 = (0) →
                                    post (0 : Int32) F_15 A_15
                                  ) ∧ (¬ r_15 = (0) →
                                    (vp_in p2 16) ∧
                                    post (A_15 (K 52) p2.toNatClampNeg) F_15 A_15
                                  ))
                                )
                              ))
                            )
                          ))
                        ) ∧ (¬ (131 : Int32) ≤ x8_11 →
                          ((¬ p1 = (0) →
                            ((¬ p1 = (1 : Int32) →
                              (vp_in x8_11 9000) ∧
                              (vp_in x8_11 9000) ∧
                              (vp_in x8_11 9000) ∧ ∀ A_16 : gm_M, A_16 = gm_up A_11 (K 56) x8_11.toNatClampNeg (((A_11 (K 54) x8_11.toNatClampNeg) ^^^ (A_11 (K 55) x8_11.toNatClampNeg)) &&& (65535 : Int32)) →
                              ∀ x8_17 : Int32, x8_17 = x8_11 + (1 : Int32) →
                              I_133 x8_17 A_16 ∧ μ_133 x8_17 A_16 < μ_133 x8_11 A_11
                            ) ∧ (p1 = (1 : Int32) →
                              (vp_in x8_11 9000) ∧
                              (vp_in x8_11 9000) ∧
                              (vp_in x8_11 9000) ∧ ∀ A_18 : gm_M, A_18 = gm_up A_11 (K 56) x8_11.toNatClampNeg (((A_11 (K 54) x8_11.toNatClampNeg) ||| (A_11 (K 55) x8_11.toNatClampNeg)) &&& (65535 : Int32)) →
                              ∀ x8_19 : Int32, x8_19 = x8_11 + (1 : Int32) →
                              I_133 x8_19 A_18 ∧ μ_133 x8_19 A_18 < μ_133 x8_11 A_11
                            ))
                          ) ∧ (p1 = (0) →
                            (vp_in x8_11 9000) ∧
                            (vp_in x8_11 9000) ∧
                            (vp_in x8_11 9000) ∧ ∀ A_20 : gm_M, A_20 = gm_up A_11 (K 56) x8_11.toNatClampNeg (((A_11 (K 54) x8_11.toNatClampNeg) &&& (A_11 (K 55) x8_11.toNatClampNeg)) &&& (65535 : Int32)) →
                            ∀ x8_21 : Int32, x8_21 = x8_11 + (1 : Int32) →
                            I_133 x8_21 A_20 ∧ μ_133 x8_21 A_20 < μ_133 x8_11 A_11
                          ))
                        ))
                    )
                  ))
                )
              ))
            )
          )
        ) ∧ (¬ r_4 = (0) →
          post (0 : Int32) F_4 A
        ))
      )
    ))
  )
def vc_M_power (K : Nat → Nat) (p1 : Int32) (p2 : Int32) (p3 : Int32) (F A : gm_M) (post : Int32 → gm_M → gm_M → Prop) : Prop :=
  ∀ F_1 : gm_M, F_1 = gm_up F (K 49) 0 (0 : Int32) →
  vc_M_isRegister p1 F_1 A (fun (r_2 : Int32) =>
    ∃ (J_29 : Int32 → Prop), (
      ∃ (J_24 : Prop), (
        ((r_2 = (0) →
          J_24
        ) ∧ (¬ r_2 = (0) →
          vc_M_isRegister p2 F_1 A (fun (r_29 : Int32) =>
            ((r_29 = (0) →
              J_24
            ) ∧ (¬ r_29 = (0) →
              (((0) ≤ p3 →
                J_29 (0 : Int32)
              ) ∧ (¬ (0) ≤ p3 →
                J_24
              ))
            ))
          )
        ))
      ) ∧ ((J_24 →
        J_29 (1 : Int32)
      ))
    ) ∧ ((∀ (v0_3 : Int32), J_29 v0_3 →
      vc_M_fails K v0_3 (1 : Int32) F_1 A (fun (r_4 : Int32) (F_4 : gm_M) =>
        ((r_4 = (0) →
          vc_M_load K p2 (K 54) (9000) F_4 A (fun (r_5 : Int32) (A_5 : gm_M) =>
            vc_M_bits (K 54) (9000) r_5 F_4 A_5 (fun (r_6 : Int32) =>
              (vp_in p2 16) ∧
              ∃ (J_81 : Int32 → Prop), (
                ∃ (J_80 : Prop), (
                  (((0) ≤ (A_5 (K 52) p2.toNatClampNeg) →
                    J_80
                  ) ∧ (¬ (0) ≤ (A_5 (K 52) p2.toNatClampNeg) →
                    ((¬ (p3 &&& (1 : Int32)) = (1 : Int32) →
                      J_80
                    ) ∧ ((p3 &&& (1 : Int32)) = (1 : Int32) →
                      J_81 (-1 : Int32)
                    ))
                  ))
                ) ∧ ((J_80 →
                  J_81 (1 : Int32)
                ))
              ) ∧ ((∀ (v0_7 : Int32), J_81 v0_7 →
                (vp_in (0 : Int32) 9000) ∧ ∀ A_8 : gm_M, A_8 = gm_up A_5 (K 56) (0 : Int32).toNatClampNeg (1 : Int32) →
                ∃ (J_103 : Prop), (
                  ((p3 = (0) →
                    J_103
                  ) ∧ (¬ p3 = (0) →
                    (((2 : Int32) ≤ r_6 →
                      ∃ (J_166 : Int32 → Prop), (
                        (((((r_6 - (1 : Int32)).toInt64) * (p3.toInt64)) ≤ (2048 : Int64) →
                          J_166 (0 : Int32)
                        ) ∧ (¬ (((r_6 - (1 : Int32)).toInt64) * (p3.toInt64)) ≤ (2048 : Int64) →
                          J_166 (1 : Int32)
                        ))
                      ) ∧ ((∀ (v0_17 : Int32), J_166 v0_17 →
                        vc_M_fails K v0_17 (2 : Int32) F_4 A_8 (fun (r_18 : Int32) (F_18 : gm_M) =>
                          ((r_18 = (0) →
                            ∃ (I_178 : Int32 → Int32 → gm_M → Prop) (μ_178 : Int32 → Int32 → gm_M → Nat), I_178 (1 : Int32) (0 : Int32) A_8 ∧ ∀ (x7_19 : Int32) (x8_19 : Int32) (A_19 : gm_M), I_178 x7_19 x8_19 A_19 →
                              ((p3 ≤ x8_19 →
                                vc_M_keep K p1 v0_7 (K 56) (9000) x7_19 (2 : Int32) F_18 A_19 (fun (r_20 : Int32) (F_20 : gm_M) (A_20 : gm_M) =>
                                  ((r_20 = (0) →
                                    post (0 : Int32) F_20 A_20
                                  ) ∧ (¬ r_20 = (0) →
                                    vc_M_size0 K p1 F_20 A_20 (fun (r_21 : Int32) (A_21 : gm_M) =>
                                      post r_21 F_20 A_21
                                    )
                                  ))
                                )
                              ) ∧ (¬ p3 ≤ x8_19 →
                                vc_M_times (K 56) (9000) x7_19 (K 54) (9000) r_5 (K 57) (9000) F_18 A_19 (fun (r_22 : Int32) (A_22 : gm_M) =>
                                  ∃ (I_208 : Int32 → gm_M → Prop) (μ_208 : Int32 → gm_M → Nat), I_208 (0 : Int32) A_22 ∧ ∀ (x9_23 : Int32) (A_23 : gm_M), I_208 x9_23 A_23 →
                                    ((r_22 ≤ x9_23 →
                                      ∀ x8_24 : Int32, x8_24 = x8_19 + (1 : Int32) →
                                      I_178 r_22 x8_24 A_23 ∧ μ_178 r_22 x8_24 A_23 < μ_178 x7_19 x8_19 A_19
                                    ) ∧ (¬ r_22 ≤ x9_23 →
                                      (vp_in x9_23 9000) ∧
                                      (vp_in x9_23 9000) ∧ ∀ A_25 : gm_M, A_25 = gm_up A_23 (K 56) x9_23.toNatClampNeg (A_23 (K 57) x9_23.toNatClampNeg) →
                                      ∀ x9_26 : Int32, x9_26 = x9_23 + (1 : Int32) →
                                      I_208 x9_26 A_25 ∧ μ_208 x9_26 A_25 < μ_208 x9_23 A_23
                                    ))
                                )
                              ))
                          ) ∧ (¬ r_18 = (0) →
                            post (0 : Int32) F_18 A_8
                          ))
                        )
                      ))
                    ) ∧ (¬ (2 : Int32) ≤ r_6 →
                      J_103
                    ))
                  ))
                ) ∧ ((J_103 →
                  ∃ (J_115 : Int32 → Prop), (
                    ((¬ p3 = (0) →
                      J_115 v0_7
                    ) ∧ (p3 = (0) →
                      J_115 (1 : Int32)
                    ))
                  ) ∧ ((∀ (v0_10 : Int32), J_115 v0_10 →
                    ((p3 = (0) →
                      vc_M_keep K p1 v0_10 (K 56) (9000) (1 : Int32) (2 : Int32) F_4 A_8 (fun (r_11 : Int32) (F_11 : gm_M) (A_11 : gm_M) =>
                        vc_M_size0 K p1 F_11 A_11 (fun (r_12 : Int32) (A_12 : gm_M) =>
                          post r_12 F_11 A_12
                        )
                      )
                    ) ∧ (¬ p3 = (0) →
                      ((¬ r_6 = (1 : Int32) →
                        vc_M_keep K p1 v0_10 (K 56) (9000) (0 : Int32) (2 : Int32) F_4 A_8 (fun (r_13 : Int32) (F_13 : gm_M) (A_13 : gm_M) =>
                          vc_M_size0 K p1 F_13 A_13 (fun (r_14 : Int32) (A_14 : gm_M) =>
                            post r_14 F_13 A_14
                          )
                        )
                      ) ∧ (r_6 = (1 : Int32) →
                        vc_M_keep K p1 v0_10 (K 56) (9000) (1 : Int32) (2 : Int32) F_4 A_8 (fun (r_15 : Int32) (F_15 : gm_M) (A_15 : gm_M) =>
                          vc_M_size0 K p1 F_15 A_15 (fun (r_16 : Int32) (A_16 : gm_M) =>
                            post r_16 F_15 A_16
                          )
                        )
                      ))
                    ))
                  ))
                ))
              ))
            )
          )
        ) ∧ (¬ r_4 = (0) →
          post (0 : Int32) F_4 A
        ))
      )
    ))
  )
def vc_M_residue (K : Nat → Nat) (p1 : Int32) (p2 : Int32) (p3 : Int32) (p4 : Int32) (F A : gm_M) (post : Int32 → gm_M → gm_M → Prop) : Prop :=
  ∀ F_1 : gm_M, F_1 = gm_up F (K 49) 0 (0 : Int32) →
  vc_M_isRegister p1 F_1 A (fun (r_2 : Int32) =>
    ∃ (J_49 : Int32 → Prop), (
      ∃ (J_44 : Prop), (
        ((r_2 = (0) →
          J_44
        ) ∧ (¬ r_2 = (0) →
          vc_M_isRegister p2 F_1 A (fun (r_45 : Int32) =>
            ((r_45 = (0) →
              J_44
            ) ∧ (¬ r_45 = (0) →
              vc_M_isRegister p3 F_1 A (fun (r_46 : Int32) =>
                ((r_46 = (0) →
                  J_44
                ) ∧ (¬ r_46 = (0) →
                  vc_M_isRegister p4 F_1 A (fun (r_47 : Int32) =>
                    ((r_47 = (0) →
                      J_44
                    ) ∧ (¬ r_47 = (0) →
                      (vp_in p3 16) ∧
                      (((0) ≤ (A (K 52) p3.toNatClampNeg) →
                        J_49 (0 : Int32)
                      ) ∧ (¬ (0) ≤ (A (K 52) p3.toNatClampNeg) →
                        J_44
                      ))
                    ))
                  )
                ))
              )
            ))
          )
        ))
      ) ∧ ((J_44 →
        J_49 (1 : Int32)
      ))
    ) ∧ ((∀ (v0_3 : Int32), J_49 v0_3 →
      vc_M_fails K v0_3 (1 : Int32) F_1 A (fun (r_4 : Int32) (F_4 : gm_M) =>
        ((¬ r_4 = (0) →
          post (0 : Int32) F_4 A
        ) ∧ (r_4 = (0) →
          (vp_in p4 16) ∧
          ∃ (J_72 : Int32 → Prop), (
            ((¬ (A (K 52) p4.toNatClampNeg) = (0) →
              J_72 (0 : Int32)
            ) ∧ ((A (K 52) p4.toNatClampNeg) = (0) →
              J_72 (1 : Int32)
            ))
          ) ∧ ((∀ (v0_5 : Int32), J_72 v0_5 →
            vc_M_fails K v0_5 (2 : Int32) F_4 A (fun (r_6 : Int32) (F_6 : gm_M) =>
              ((r_6 = (0) →
                vc_M_load K p3 (K 59) (9000) F_6 A (fun (r_7 : Int32) (A_7 : gm_M) =>
                  vc_M_load K p4 (K 58) (9000) F_6 A_7 (fun (r_8 : Int32) (A_8 : gm_M) =>
                    vc_M_load K p2 (K 54) (9000) F_6 A_8 (fun (r_9 : Int32) (A_9 : gm_M) =>
                      vc_M_bits (K 59) (9000) r_7 F_6 A_9 (fun (r_10 : Int32) =>
                        (vp_in p2 16) ∧
                        ∃ (J_156 : Int32 → Prop), (
                          ∃ (J_155 : Prop), (
                            (((0) ≤ (A_9 (K 52) p2.toNatClampNeg) →
                              J_155
                            ) ∧ (¬ (0) ≤ (A_9 (K 52) p2.toNatClampNeg) →
                              vc_M_isBit (K 59) (9000) r_7 (0 : Int32) F_6 A_9 (fun (r_43 : Int32) =>
                                ((r_43 = (0) →
                                  J_155
                                ) ∧ (¬ r_43 = (0) →
                                  J_156 (1 : Int32)
                                ))
                              )
                            ))
                          ) ∧ ((J_155 →
                            J_156 (0 : Int32)
                          ))
                        ) ∧ ((∀ (v0_11 : Int32), J_156 v0_11 →
                          ∃ (I_161 : Int32 → gm_M → Prop) (μ_161 : Int32 → gm_M → Nat), I_161 (0 : Int32) A_9 ∧ ∀ (x11_12 : Int32) (A_12 : gm_M), I_161 x11_12 A_12 →
                            ((r_7 ≤ x11_12 →
                              vc_M_divided K (K 54) (9000) r_9 (K 58) (9000) r_8 (K 56) (9000) F_6 A_12 (fun (r_13 : Int32) (F_13 : gm_M) (A_13 : gm_M) =>
                                ∃ (I_213 : Int32 → gm_M → Prop) (μ_213 : Int32 → gm_M → Nat), I_213 (0 : Int32) A_13 ∧ ∀ (x11_14 : Int32) (A_14 : gm_M), I_213 x11_14 A_14 →
                                  ((r_13 ≤ x11_14 →
                                    (vp_in (0 : Int32) 9000) ∧ ∀ A_15 : gm_M, A_15 = gm_up A_14 (K 57) (0 : Int32).toNatClampNeg (1 : Int32) →
                                    vc_M_divided K (K 57) (9000) (1 : Int32) (K 58) (9000) r_8 (K 56) (9000) F_13 A_15 (fun (r_16 : Int32) (F_16 : gm_M) (A_16 : gm_M) =>
                                      ∀ x11_17 : Int32, x11_17 = (r_10 - (1 : Int32)) →
                                      ∃ (I_274 : Int32 → Int32 → gm_M → gm_M → Prop) (μ_274 : Int32 → Int32 → gm_M → gm_M → Nat), I_274 r_16 x11_17 F_16 A_16 ∧ ∀ (x8_18 : Int32) (x11_18 : Int32) (F_18 : gm_M) (A_18 : gm_M), I_274 x8_18 x11_18 F_18 A_18 →
                                        ((x11_18 < (0) →
                                          ∃ (J_478 : Int32 → Prop), (
                                            ∃ (J_477 : Prop), (
                                              ((x8_18 ≤ (0) →
                                                J_477
                                              ) ∧ (¬ x8_18 ≤ (0) →
                                                (vp_in p4 16) ∧
                                                ∃ (J_470 : Int32 → Prop), (
                                                  (((0) ≤ (A_18 (K 52) p4.toNatClampNeg) →
                                                    J_470 (0 : Int32)
                                                  ) ∧ (¬ (0) ≤ (A_18 (K 52) p4.toNatClampNeg) →
                                                    J_470 (1 : Int32)
                                                  ))
                                                ) ∧ ((∀ (v0_24 : Int32), J_470 v0_24 →
                                                  ((v0_11 = v0_24 →
                                                    J_477
                                                  ) ∧ (¬ v0_11 = v0_24 →
                                                    J_478 (1 : Int32)
                                                  ))
                                                ))
                                              ))
                                            ) ∧ ((J_477 →
                                              J_478 (0 : Int32)
                                            ))
                                          ) ∧ ((∀ (v0_19 : Int32), J_478 v0_19 →
                                            ((v0_19 = (0) →
                                              (vp_in p4 16) ∧
                                              vc_M_keep K p1 (A_18 (K 52) p4.toNatClampNeg) (K 57) (9000) x8_18 (2 : Int32) F_18 A_18 (fun (r_20 : Int32) (F_20 : gm_M) (A_20 : gm_M) =>
                                                (vp_in p1 16) ∧
                                                post (A_20 (K 52) p1.toNatClampNeg) F_20 A_20
                                              )
                                            ) ∧ (¬ v0_19 = (0) →
                                              vc_M_less (K 58) (9000) r_8 (K 57) (9000) x8_18 (K 56) (9000) F_18 A_18 (fun (r_21 : Int32) (A_21 : gm_M) =>
                                                (vp_in p4 16) ∧
                                                vc_M_keep K p1 (A_21 (K 52) p4.toNatClampNeg) (K 56) (9000) r_21 (2 : Int32) F_18 A_21 (fun (r_22 : Int32) (F_22 : gm_M) (A_22 : gm_M) =>
                                                  (vp_in p1 16) ∧
                                                  post (A_22 (K 52) p1.toNatClampNeg) F_22 A_22
                                                )
                                              )
                                            ))
                                          ))
                                        ) ∧ (¬ x11_18 < (0) →
                                          vc_M_times (K 57) (9000) x8_18 (K 57) (9000) x8_18 (K 54) (9000) F_18 A_18 (fun (r_25 : Int32) (A_25 : gm_M) =>
                                            vc_M_divided K (K 54) (9000) r_25 (K 58) (9000) r_8 (K 56) (9000) F_18 A_25 (fun (r_26 : Int32) (F_26 : gm_M) (A_26 : gm_M) =>
                                              ∃ (I_325 : Int32 → gm_M → Prop) (μ_325 : Int32 → gm_M → Nat), I_325 (0 : Int32) A_26 ∧ ∀ (x12_27 : Int32) (A_27 : gm_M), I_325 x12_27 A_27 →
                                                ((r_26 ≤ x12_27 →
                                                  vc_M_isBit (K 61) (129) r_7 x11_18 F_26 A_27 (fun (r_28 : Int32) =>
                                                    ((¬ r_28 = (0) →
                                                      vc_M_times (K 57) (9000) r_26 (K 62) (129) r_13 (K 54) (9000) F_26 A_27 (fun (r_29 : Int32) (A_29 : gm_M) =>
                                                        vc_M_divided K (K 54) (9000) r_29 (K 58) (9000) r_8 (K 56) (9000) F_26 A_29 (fun (r_30 : Int32) (F_30 : gm_M) (A_30 : gm_M) =>
                                                          ∃ (I_415 : Int32 → gm_M → Prop) (μ_415 : Int32 → gm_M → Nat), I_415 (0 : Int32) A_30 ∧ ∀ (x12_31 : Int32) (A_31 : gm_M), I_415 x12_31 A_31 →
                                                            ((r_30 ≤ x12_31 →
                                                              ∀ x11_32 : Int32, x11_32 = x11_18 + (-1 : Int32) →
                                                              I_274 r_30 x11_32 F_30 A_31 ∧ μ_274 r_30 x11_32 F_30 A_31 < μ_274 x8_18 x11_18 F_18 A_18
                                                            ) ∧ (¬ r_30 ≤ x12_31 →
                                                              (vp_in x12_31 9000) ∧
                                                              (vp_in x12_31 9000) ∧ ∀ A_33 : gm_M, A_33 = gm_up A_31 (K 57) x12_31.toNatClampNeg (A_31 (K 54) x12_31.toNatClampNeg) →
                                                              ∀ x12_34 : Int32, x12_34 = x12_31 + (1 : Int32) →
                                                              I_415 x12_34 A_33 ∧ μ_415 x12_34 A_33 < μ_415 x12_31 A_31
                                                            ))
                                                        )
                                                      )
                                                    ) ∧ (r_28 = (0) →
                                                      ∀ x11_35 : Int32, x11_35 = x11_18 + (-1 : Int32) →
                                                      I_274 r_26 x11_35 F_26 A_27 ∧ μ_274 r_26 x11_35 F_26 A_27 < μ_274 x8_18 x11_18 F_18 A_18
                                                    ))
                                                  )
                                                ) ∧ (¬ r_26 ≤ x12_27 →
                                                  (vp_in x12_27 9000) ∧
                                                  (vp_in x12_27 9000) ∧ ∀ A_36 : gm_M, A_36 = gm_up A_27 (K 57) x12_27.toNatClampNeg (A_27 (K 54) x12_27.toNatClampNeg) →
                                                  ∀ x12_37 : Int32, x12_37 = x12_27 + (1 : Int32) →
                                                  I_325 x12_37 A_36 ∧ μ_325 x12_37 A_36 < μ_325 x12_27 A_27
                                                ))
                                            )
                                          )
                                        ))
                                    )
                                  ) ∧ (¬ r_13 ≤ x11_14 →
                                    (vp_in x11_14 9000) ∧
                                    (vp_in x11_14 129) ∧ ∀ A_38 : gm_M, A_38 = gm_up A_14 (K 62) x11_14.toNatClampNeg (A_14 (K 54) x11_14.toNatClampNeg) →
                                    ∀ x11_39 : Int32, x11_39 = x11_14 + (1 : Int32) →
                                    I_213 x11_39 A_38 ∧ μ_213 x11_39 A_38 < μ_213 x11_14 A_14
                                  ))
                              )
                            ) ∧ (¬ r_7 ≤ x11_12 →
                              (vp_in x11_12 9000) ∧
                              (vp_in x11_12 129) ∧ ∀ A_40 : gm_M, A_40 = gm_up A_12 (K 61) x11_12.toNatClampNeg (A_12 (K 59) x11_12.toNatClampNeg) →
                              ∀ x11_41 : Int32, x11_41 = x11_12 + (1 : Int32) →
                              I_161 x11_41 A_40 ∧ μ_161 x11_41 A_40 < μ_161 x11_12 A_12
                            ))
                        ))
                      )
                    )
                  )
                )
              ) ∧ (¬ r_6 = (0) →
                post (0 : Int32) F_6 A
              ))
            )
          ))
        ))
      )
    ))
  )
def vc_M_compare (K : Nat → Nat) (p1 : Int32) (p2 : Int32) (F A : gm_M) (post : Int32 → gm_M → gm_M → Prop) : Prop :=
  ∀ F_1 : gm_M, F_1 = gm_up F (K 49) 0 (0 : Int32) →
  vc_M_isRegister p1 F_1 A (fun (r_2 : Int32) =>
    ∃ (J_25 : Int32 → Prop), (
      ∃ (J_20 : Prop), (
        ((r_2 = (0) →
          J_20
        ) ∧ (¬ r_2 = (0) →
          vc_M_isRegister p2 F_1 A (fun (r_9 : Int32) =>
            ((¬ r_9 = (0) →
              J_25 (0 : Int32)
            ) ∧ (r_9 = (0) →
              J_20
            ))
          )
        ))
      ) ∧ ((J_20 →
        J_25 (1 : Int32)
      ))
    ) ∧ ((∀ (v0_3 : Int32), J_25 v0_3 →
      vc_M_fails K v0_3 (1 : Int32) F_1 A (fun (r_4 : Int32) (F_4 : gm_M) =>
        ((r_4 = (0) →
          (vp_in p1 16) ∧
          (vp_in p2 16) ∧
          (((A (K 52) p1.toNatClampNeg) = (A (K 52) p2.toNatClampNeg) →
            vc_M_load K p1 (K 54) (9000) F_4 A (fun (r_5 : Int32) (A_5 : gm_M) =>
              vc_M_load K p2 (K 55) (9000) F_4 A_5 (fun (r_6 : Int32) (A_6 : gm_M) =>
                (vp_in p1 16) ∧
                vc_M_compared (K 54) (9000) r_5 (K 55) (9000) r_6 F_4 A_6 (fun (r_7 : Int32) =>
                  post ((A_6 (K 52) p1.toNatClampNeg) * r_7) F_4 A_6
                )
              )
            )
          ) ∧ (¬ (A (K 52) p1.toNatClampNeg) = (A (K 52) p2.toNatClampNeg) →
            (vp_in p1 16) ∧
            (vp_in p2 16) ∧
            (((A (K 52) p2.toNatClampNeg) ≤ (A (K 52) p1.toNatClampNeg) →
              post (1 : Int32) F_4 A
            ) ∧ (¬ (A (K 52) p2.toNatClampNeg) ≤ (A (K 52) p1.toNatClampNeg) →
              post (-1 : Int32) F_4 A
            ))
          ))
        ) ∧ (¬ r_4 = (0) →
          post (0 : Int32) F_4 A
        ))
      )
    ))
  )
def vc_M_low64 (K : Nat → Nat) (p1 : Int32) (F A : gm_M) (post : Int64 → Prop) : Prop :=
  ∃ (I_5 : Int64 → Int32 → Prop) (μ_5 : Int64 → Int32 → Nat), I_5 (0 : Int64) (3 : Int32) ∧ ∀ (x2_1 : Int64) (x4_1 : Int32), I_5 x2_1 x4_1 →
    ((x4_1 < (0) →
      post x2_1
    ) ∧ (¬ x4_1 < (0) →
      ((p1 ≤ x4_1 →
        ∀ x2_2 : Int64, x2_2 = ((j_lshl x2_1 (16 : Int32)) ||| (0 : Int64)) →
        ∀ x4_3 : Int32, x4_3 = x4_1 + (-1 : Int32) →
        I_5 x2_2 x4_3 ∧ μ_5 x2_2 x4_3 < μ_5 x2_1 x4_1
      ) ∧ (¬ p1 ≤ x4_1 →
        (vp_in x4_1 9000) ∧
        ∀ x2_4 : Int64, x2_4 = ((j_lshl x2_1 (16 : Int32)) ||| ((A (K 54) x4_1.toNatClampNeg).toInt64)) →
        ∀ x4_5 : Int32, x4_5 = x4_1 + (-1 : Int32) →
        I_5 x2_4 x4_5 ∧ μ_5 x2_4 x4_5 < μ_5 x2_1 x4_1
      ))
    ))
def vc_M_small (K : Nat → Nat) (p1 : Int32) (F A : gm_M) (post : Int64 → gm_M → gm_M → Prop) : Prop :=
  ∀ F_1 : gm_M, F_1 = gm_up F (K 49) 0 (0 : Int32) →
  vc_M_isRegister p1 F_1 A (fun (r_2 : Int32) =>
    ∃ (J_18 : Int32 → Prop), (
      ((¬ r_2 = (0) →
        J_18 (0 : Int32)
      ) ∧ (r_2 = (0) →
        J_18 (1 : Int32)
      ))
    ) ∧ ((∀ (v0_3 : Int32), J_18 v0_3 →
      vc_M_fails K v0_3 (1 : Int32) F_1 A (fun (r_4 : Int32) (F_4 : gm_M) =>
        ((r_4 = (0) →
          vc_M_load K p1 (K 54) (9000) F_4 A (fun (r_5 : Int32) (A_5 : gm_M) =>
            vc_M_low64 K r_5 F_4 A_5 (fun (r_6 : Int64) =>
              vc_M_bits (K 54) (9000) r_5 F_4 A_5 (fun (r_7 : Int32) =>
                ∃ (J_91 : Int32 → Prop), (
                  ∃ (J_86 : Prop), (
                    ((r_7 < (64 : Int32) →
                      J_86
                    ) ∧ (¬ r_7 < (64 : Int32) →
                      vc_M_bits (K 54) (9000) r_5 F_4 A_5 (fun (r_12 : Int32) =>
                        ∃ (J_90 : Prop), (
                          ((¬ r_12 = (64 : Int32) →
                            J_90
                          ) ∧ (r_12 = (64 : Int32) →
                            (vp_in p1 16) ∧
                            (((0) ≤ (A_5 (K 52) p1.toNatClampNeg) →
                              J_90
                            ) ∧ (¬ (0) ≤ (A_5 (K 52) p1.toNatClampNeg) →
                              ((¬ r_6 = (-9223372036854775808 : Int64) →
                                J_90
                              ) ∧ (r_6 = (-9223372036854775808 : Int64) →
                                J_86
                              ))
                            ))
                          ))
                        ) ∧ ((J_90 →
                          J_91 (0 : Int32)
                        ))
                      )
                    ))
                  ) ∧ ((J_86 →
                    J_91 (1 : Int32)
                  ))
                ) ∧ ((∀ (v0_8 : Int32), J_91 v0_8 →
                  ∃ (J_104 : Int32 → Prop), (
                    ((¬ v0_8 = (0) →
                      J_104 (0 : Int32)
                    ) ∧ (v0_8 = (0) →
                      J_104 (1 : Int32)
                    ))
                  ) ∧ ((∀ (v0_9 : Int32), J_104 v0_9 →
                    vc_M_fails K v0_9 (2 : Int32) F_4 A_5 (fun (r_10 : Int32) (F_10 : gm_M) =>
                      ((r_10 = (0) →
                        (vp_in p1 16) ∧
                        (((0) ≤ (A_5 (K 52) p1.toNatClampNeg) →
                          post r_6 F_10 A_5
                        ) ∧ (¬ (0) ≤ (A_5 (K 52) p1.toNatClampNeg) →
                          post (-r_6) F_10 A_5
                        ))
                      ) ∧ (¬ r_10 = (0) →
                        post (0 : Int64) F_10 A_5
                      ))
                    )
                  ))
                ))
              )
            )
          )
        ) ∧ (¬ r_4 = (0) →
          post (0 : Int64) F_4 A
        ))
      )
    ))
  )
def vc_M_low (K : Nat → Nat) (p1 : Int32) (F A : gm_M) (post : Int64 → gm_M → gm_M → Prop) : Prop :=
  ∀ F_1 : gm_M, F_1 = gm_up F (K 49) 0 (0 : Int32) →
  vc_M_isRegister p1 F_1 A (fun (r_2 : Int32) =>
    ∃ (J_18 : Int32 → Prop), (
      ((¬ r_2 = (0) →
        J_18 (0 : Int32)
      ) ∧ (r_2 = (0) →
        J_18 (1 : Int32)
      ))
    ) ∧ ((∀ (v0_3 : Int32), J_18 v0_3 →
      vc_M_fails K v0_3 (1 : Int32) F_1 A (fun (r_4 : Int32) (F_4 : gm_M) =>
        ((r_4 = (0) →
          vc_M_load K p1 (K 54) (9000) F_4 A (fun (r_5 : Int32) (A_5 : gm_M) =>
            vc_M_low64 K r_5 F_4 A_5 (fun (r_6 : Int64) =>
              (vp_in p1 16) ∧
              (((0) ≤ (A_5 (K 52) p1.toNatClampNeg) →
                post r_6 F_4 A_5
              ) ∧ (¬ (0) ≤ (A_5 (K 52) p1.toNatClampNeg) →
                post (-r_6) F_4 A_5
              ))
            )
          )
        ) ∧ (¬ r_4 = (0) →
          post (0 : Int64) F_4 A
        ))
      )
    ))
  )
def vc_M_folded (K : Nat → Nat) (p1 : Int32) (F A : gm_M) (post : Int64 → gm_M → gm_M → Prop) : Prop :=
  ∀ F_1 : gm_M, F_1 = gm_up F (K 49) 0 (0 : Int32) →
  vc_M_isRegister p1 F_1 A (fun (r_2 : Int32) =>
    ∃ (J_18 : Int32 → Prop), (
      ((¬ r_2 = (0) →
        J_18 (0 : Int32)
      ) ∧ (r_2 = (0) →
        J_18 (1 : Int32)
      ))
    ) ∧ ((∀ (v0_3 : Int32), J_18 v0_3 →
      vc_M_fails K v0_3 (1 : Int32) F_1 A (fun (r_4 : Int32) (F_4 : gm_M) =>
        ((r_4 = (0) →
          vc_M_load K p1 (K 54) (9000) F_4 A (fun (r_5 : Int32) (A_5 : gm_M) =>
            ∀ x7_6 : Int32, x7_6 = (r_5 - (1 : Int32)) →
            ∃ (I_49 : Int64 → Int32 → Prop) (μ_49 : Int64 → Int32 → Nat), I_49 (0 : Int64) x7_6 ∧ ∀ (x3_7 : Int64) (x7_7 : Int32), I_49 x3_7 x7_7 →
              ((x7_7 < (0) →
                (vp_in p1 16) ∧
                (((0) ≤ (A_5 (K 52) p1.toNatClampNeg) →
                  post x3_7 F_4 A_5
                ) ∧ (¬ (0) ≤ (A_5 (K 52) p1.toNatClampNeg) →
                  post (-x3_7) F_4 A_5
                ))
              ) ∧ (¬ x7_7 < (0) →
                ∃ (I_57 : Int64 → Int32 → Prop) (μ_57 : Int64 → Int32 → Nat), I_57 x3_7 (0 : Int32) ∧ ∀ (x3_8 : Int64) (x8_8 : Int32), I_57 x3_8 x8_8 →
                  (((16 : Int32) ≤ x8_8 →
                    (vp_in x7_7 9000) ∧
                    ∀ x3_9 : Int64, x3_9 = ((x3_8 + ((A_5 (K 54) x7_7.toNatClampNeg).toInt64)) - (x3_8 + ((A_5 (K 54) x7_7.toNatClampNeg).toInt64)) / (2305843009213693951 : Int64) * (2305843009213693951 : Int64)) →
                    ∀ x7_10 : Int32, x7_10 = x7_7 + (-1 : Int32) →
                    I_49 x3_9 x7_10 ∧ μ_49 x3_9 x7_10 < μ_49 x3_7 x7_7
                  ) ∧ (¬ (16 : Int32) ≤ x8_8 →
                    ∀ x3_11 : Int64, x3_11 = ((2 : Int64) * x3_8) →
                    ((x3_11 < (2305843009213693951 : Int64) →
                      ∀ x8_12 : Int32, x8_12 = x8_8 + (1 : Int32) →
                      I_57 x3_11 x8_12 ∧ μ_57 x3_11 x8_12 < μ_57 x3_8 x8_8
                    ) ∧ (¬ x3_11 < (2305843009213693951 : Int64) →
                      ∀ x3_13 : Int64, x3_13 = (x3_11 - (2305843009213693951 : Int64)) →
                      ∀ x8_14 : Int32, x8_14 = x8_8 + (1 : Int32) →
                      I_57 x3_13 x8_14 ∧ μ_57 x3_13 x8_14 < μ_57 x3_8 x8_8
                    ))
                  ))
              ))
          )
        ) ∧ (¬ r_4 = (0) →
          post (0 : Int64) F_4 A
        ))
      )
    ))
  )
def vc_M_size (K : Nat → Nat) (p1 : Int32) (F A : gm_M) (post : Int32 → gm_M → gm_M → Prop) : Prop :=
  ∀ F_1 : gm_M, F_1 = gm_up F (K 49) 0 (0 : Int32) →
  vc_M_isRegister p1 F_1 A (fun (r_2 : Int32) =>
    ((¬ r_2 = (0) →
      vc_M_fails K (0 : Int32) (1 : Int32) F_1 A (fun (r_3 : Int32) (F_3 : gm_M) =>
        ((r_3 = (0) →
          vc_M_size0 K p1 F_3 A (fun (r_4 : Int32) (A_4 : gm_M) =>
            post r_4 F_3 A_4
          )
        ) ∧ (¬ r_3 = (0) →
          post (0 : Int32) F_3 A
        ))
      )
    ) ∧ (r_2 = (0) →
      vc_M_fails K (1 : Int32) (1 : Int32) F_1 A (fun (r_5 : Int32) (F_5 : gm_M) =>
        ((r_5 = (0) →
          vc_M_size0 K p1 F_5 A (fun (r_6 : Int32) (A_6 : gm_M) =>
            post r_6 F_5 A_6
          )
        ) ∧ (¬ r_5 = (0) →
          post (0 : Int32) F_5 A
        ))
      )
    ))
  )
