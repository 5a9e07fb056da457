def vc_T_putDigits (K : Nat → Nat) (p1 : Int32) (p2 : Int32) (p3 : Int32) (F A : gm_M) (post : gm_M → gm_M → Prop) : Prop :=
  ∃ (I_6 : Int32 → Int32 → gm_M → gm_M → Prop) (μ_6 : Int32 → Int32 → gm_M → gm_M → Nat), I_6 p1 (0 : Int32) F A ∧ ∀ (x4_1 : Int32) (x5_1 : Int32) (F_1 : gm_M) (A_1 : gm_M), I_6 x4_1 x5_1 F_1 A_1 →
    (((31 : Int32) ≤ x5_1 →
      post F_1 A_1
    ) ∧ (¬ (31 : Int32) ≤ x5_1 →
      ∃ (J_24 : Prop), (
        ((x5_1 < p3 →
          J_24
        ) ∧ (¬ x5_1 < p3 →
          ((x4_1 ≤ (0) →
            post F_1 A_1
          ) ∧ (¬ x4_1 ≤ (0) →
            J_24
          ))
        ))
      ) ∧ ((J_24 →
        (¬ p2 = 0) ∧
        (vp_in (x4_1 - x4_1 / p2 * p2) 36) ∧
        vc_T_put K (gx_dg (x4_1 - x4_1 / p2 * p2).toNatClampNeg) F_1 A_1 (fun (F_3 : gm_M) (A_3 : gm_M) =>
          (¬ p2 = 0) ∧
          ∀ x4_4 : Int32, x4_4 = (x4_1 / p2) →
          ∀ x5_5 : Int32, x5_5 = x5_1 + (1 : Int32) →
          I_6 x4_4 x5_5 F_3 A_3 ∧ μ_6 x4_4 x5_5 F_3 A_3 < μ_6 x4_1 x5_1 F_1 A_1
        )
      ))
    ))
def vc_T_takeNumber (K : Nat → Nat) (a1 l1 n1 : Nat) (p2 : Int32) (F A : gm_M) (post : gm_M → gm_M → Prop) : Prop :=
  ∀ x3_1 : Int32, x3_1 = (F a1 2) →
  vc_T_digitsInLimb p2 F A (fun (r_2 : Int32) =>
    vc_T_powerOf p2 r_2 F A (fun (r_3 : Int32) =>
      ∀ F_4 : gm_M, F_4 = gm_up F (K 2) 1 (0 : Int32) →
      ∃ (I_27 : Int32 → gm_M → gm_M → Prop) (μ_27 : Int32 → gm_M → gm_M → Nat), I_27 (0 : Int32) F_4 A ∧ ∀ (x6_5 : Int32) (F_5 : gm_M) (A_5 : gm_M), I_27 x6_5 F_5 A_5 →
        ∃ (J_76 : Prop), (
          (((2100 : Int32) ≤ x6_5 →
            J_76
          ) ∧ (¬ (2100 : Int32) ≤ x6_5 →
            (((F_5 a1 1) ≤ (0) →
              J_76
            ) ∧ (¬ (F_5 a1 1) ≤ (0) →
              vc_W_cutBy a1 l1 n1 r_3 F_5 A_5 (fun (r_14 : Int32) (F_14 : gm_M) (A_14 : gm_M) =>
                (((F_14 a1 1) ≤ (0) →
                  vc_T_putDigits K r_14 p2 (0 : Int32) F_14 A_14 (fun (F_15 : gm_M) (A_15 : gm_M) =>
                    ∀ x6_16 : Int32, x6_16 = x6_5 + (1 : Int32) →
                    I_27 x6_16 F_15 A_15 ∧ μ_27 x6_16 F_15 A_15 < μ_27 x6_5 F_5 A_5
                  )
                ) ∧ (¬ (F_14 a1 1) ≤ (0) →
                  vc_T_putDigits K r_14 p2 r_2 F_14 A_14 (fun (F_17 : gm_M) (A_17 : gm_M) =>
                    ∀ x6_18 : Int32, x6_18 = x6_5 + (1 : Int32) →
                    I_27 x6_18 F_17 A_17 ∧ μ_27 x6_18 F_17 A_17 < μ_27 x6_5 F_5 A_5
                  )
                ))
              )
            ))
          ))
        ) ∧ ((J_76 →
          ((¬ (F_5 (K 2) 1) = (0) →
            ((x3_1 = (0) →
              vc_T_turnRound K F_5 A_5 (fun (A_7 : gm_M) =>
                post F_5 A_7
              )
            ) ∧ (¬ x3_1 = (0) →
              vc_T_put K (45 : Int32) F_5 A_5 (fun (F_8 : gm_M) (A_8 : gm_M) =>
                vc_T_turnRound K F_8 A_8 (fun (A_9 : gm_M) =>
                  post F_8 A_9
                )
              )
            ))
          ) ∧ ((F_5 (K 2) 1) = (0) →
            vc_T_put K (48 : Int32) F_5 A_5 (fun (F_10 : gm_M) (A_10 : gm_M) =>
              ((x3_1 = (0) →
                vc_T_turnRound K F_10 A_10 (fun (A_11 : gm_M) =>
                  post F_10 A_11
                )
              ) ∧ (¬ x3_1 = (0) →
                vc_T_put K (45 : Int32) F_10 A_10 (fun (F_12 : gm_M) (A_12 : gm_M) =>
                  vc_T_turnRound K F_12 A_12 (fun (A_13 : gm_M) =>
                    post F_12 A_13
                  )
                )
              ))
            )
          ))
        ))
    )
  )
def vc_K_needRegister (p1 : Int32) (F A : gm_M) (post : Prop) (pe : Nat → gm_M → gm_M → Prop) : Prop :=
  vc_K_isRegister p1 F A (fun (r_1 : Int32) =>
    ((¬ r_1 = (0) →
      post
    ) ∧ (r_1 = (0) →
      pe 1 F A
    ))
  )
def vc_K_set (K : Nat → Nat) (p1 : Int32) (p2 : Int64) (F A : gm_M) (post : Int32 → gm_M → gm_M → Prop) (pe : Nat → gm_M → gm_M → Prop) : Prop :=
  vc_K_needRegister p1 F A (
    (vp_in p1 16) ∧
    vc_W_countBits (K (7 + 2 * p1.toNatClampNeg)) (K (8 + 2 * p1.toNatClampNeg)) (67) F A (fun (r_3 : Int32) =>
      (vp_in p1 16) ∧
      vc_W_takeLong (K (7 + 2 * p1.toNatClampNeg)) (K (8 + 2 * p1.toNatClampNeg)) (67) p2 F A (fun (F_5 : gm_M) (A_5 : gm_M) =>
        post r_3 F_5 A_5
      )
    )
  ) pe
def vc_K_line (K : Nat → Nat) (p1 : Int64) (F A : gm_M) (post : Int32 → gm_M → gm_M → Prop) (pe : Nat → gm_M → gm_M → Prop) : Prop :=
  vc_T_countIn p1 F A (fun (r_1 : Int32) =>
    ((¬ r_1 = (0) →
      ((((F (K 2) 1) + r_1) ≤ (2100 : Int32) →
        vc_T_append K p1 r_1 F A (fun (F_2 : gm_M) (A_2 : gm_M) =>
          post (F_2 (K 2) 1) F_2 A_2
        )
      ) ∧ (¬ ((F (K 2) 1) + r_1) ≤ (2100 : Int32) →
        pe 2 F A
      ))
    ) ∧ (r_1 = (0) →
      pe 1 F A
    ))
  )
def vc_K_needFit (a1 l1 n1 : Nat) (F A : gm_M) (post : Prop) (pe : Nat → gm_M → gm_M → Prop) : Prop :=
  vc_W_countBits a1 l1 n1 F A (fun (r_1 : Int32) =>
    ((r_1 ≤ (2048 : Int32) →
      post
    ) ∧ (¬ r_1 ≤ (2048 : Int32) →
      pe 3 F A
    ))
  )
def vc_K_keep (K : Nat → Nat) (a1 l1 n1 : Nat) (p2 : Int32) (F A : gm_M) (post : gm_M → gm_M → Prop) (pe : Nat → gm_M → gm_M → Prop) : Prop :=
  vc_K_needFit a1 l1 n1 F A (
    (vp_in p2 16) ∧
    vc_W_takeCopy (K (7 + 2 * p2.toNatClampNeg)) (K (8 + 2 * p2.toNatClampNeg)) (67) a1 l1 n1 F A (fun (F_3 : gm_M) (A_3 : gm_M) =>
      post F_3 A_3
    )
  ) pe
def vc_K_read (K : Nat → Nat) (p1 : Int32) (p2 : Int32) (F A : gm_M) (post : Int32 → gm_M → gm_M → Prop) (pe : Nat → gm_M → gm_M → Prop) : Prop :=
  vc_K_isRegister p1 F A (fun (r_1 : Int32) =>
    ∃ (J_30 : Int32 → Prop), (
      ∃ (J_29 : Prop), (
        ((r_1 = (0) →
          J_29
        ) ∧ (¬ r_1 = (0) →
          vc_K_isBase p2 F A (fun (r_9 : Int32) =>
            ((r_9 = (0) →
              J_29
            ) ∧ (¬ r_9 = (0) →
              vc_T_areNumber K p2 F A (fun (r_10 : Int32) =>
                ((r_10 = (0) →
                  J_29
                ) ∧ (¬ r_10 = (0) →
                  J_30 (1 : Int32)
                ))
              )
            ))
          )
        ))
      ) ∧ ((J_29 →
        J_30 (0 : Int32)
      ))
    ) ∧ ((∀ (v0_2 : Int32), J_30 v0_2 →
      ∃ (J_47 : gm_M → gm_M → Prop), (
        ((v0_2 = (0) →
          J_47 F A
        ) ∧ (¬ v0_2 = (0) →
          vc_T_writeTo K (K 43) (K 44) (135) p2 F A (fun (F_7 : gm_M) (A_7 : gm_M) =>
            J_47 F_7 A_7
          )
        ))
      ) ∧ ((∀ (F_3 : gm_M) (A_3 : gm_M), J_47 F_3 A_3 →
        ∀ F_4 : gm_M, F_4 = gm_up F_3 (K 2) 1 (0 : Int32) →
        ((¬ v0_2 = (0) →
          vc_K_keep K (K 43) (K 44) (135) p1 F_4 A_3 (fun (F_5 : gm_M) (A_5 : gm_M) =>
            vc_W_countBits (K 43) (K 44) (135) F_5 A_5 (fun (r_6 : Int32) =>
              post r_6 F_5 A_5
            )
          ) pe
        ) ∧ (v0_2 = (0) →
          pe 1 F_4 A_3
        ))
      ))
    ))
  )
def vc_K_show (K : Nat → Nat) (p1 : Int32) (p2 : Int32) (F A : gm_M) (post : Int32 → gm_M → gm_M → Prop) (pe : Nat → gm_M → gm_M → Prop) : Prop :=
  vc_K_needRegister p1 F A (
    vc_K_isBase p2 F A (fun (r_2 : Int32) =>
      ((¬ r_2 = (0) →
        (vp_in p1 16) ∧
        vc_W_takeCopy (K 43) (K 44) (135) (K (7 + 2 * p1.toNatClampNeg)) (K (8 + 2 * p1.toNatClampNeg)) (67) F A (fun (F_4 : gm_M) (A_4 : gm_M) =>
          vc_T_takeNumber K (K 43) (K 44) (135) p2 F_4 A_4 (fun (F_5 : gm_M) (A_5 : gm_M) =>
            post (F_5 (K 2) 1) F_5 A_5
          )
        )
      ) ∧ (r_2 = (0) →
        pe 1 F A
      ))
    )
  ) pe
def vc_K_letter (K : Nat → Nat) (p1 : Int32) (F A : gm_M) (post : Int32 → Prop) (pe : Nat → gm_M → gm_M → Prop) : Prop :=
  ((p1 < (0) →
    pe 2 F A
  ) ∧ (¬ p1 < (0) →
    ((p1 < (F (K 2) 1) →
      (vp_in p1 2100) ∧
      post (A (K 3) p1.toNatClampNeg)
    ) ∧ (¬ p1 < (F (K 2) 1) →
      pe 2 F A
    ))
  ))
def vc_K_needKind (p1 : Int32) (F A : gm_M) (post : Prop) (pe : Nat → gm_M → gm_M → Prop) : Prop :=
  ((p1 < (0) →
    pe 1 F A
  ) ∧ (¬ p1 < (0) →
    ((p1 ≤ (2 : Int32) →
      post
    ) ∧ (¬ p1 ≤ (2 : Int32) →
      pe 1 F A
    ))
  ))
def vc_K_needRegisters (p1 : Int32) (p2 : Int32) (p3 : Int32) (F A : gm_M) (post : Prop) (pe : Nat → gm_M → gm_M → Prop) : Prop :=
  vc_K_needRegister p1 F A (
    vc_K_needRegister p2 F A (
      vc_K_needRegister p3 F A (
        post
      ) pe
    ) pe
  ) pe
def vc_K_work (K : Nat → Nat) (p1 : Int32) (p2 : Int32) (p3 : Int32) (p4 : Int32) (F A : gm_M) (post : Int32 → gm_M → gm_M → Prop) (pe : Nat → gm_M → gm_M → Prop) : Prop :=
  vc_K_needKind p1 F A (
    vc_K_needRegisters p2 p3 p4 F A (
      (vp_in p3 16) ∧
      (vp_in p4 16) ∧
      ((¬ p1 = (0) →
        ((¬ p1 = (1 : Int32) →
          vc_W_takeProduct (K 43) (K 44) (135) (K (7 + 2 * p3.toNatClampNeg)) (K (8 + 2 * p3.toNatClampNeg)) (67) (K (7 + 2 * p4.toNatClampNeg)) (K (8 + 2 * p4.toNatClampNeg)) (67) F A (fun (F_5 : gm_M) (A_5 : gm_M) =>
            vc_K_keep K (K 43) (K 44) (135) p2 F_5 A_5 (fun (F_6 : gm_M) (A_6 : gm_M) =>
              vc_W_sign (K 43) (K 44) (135) F_6 A_6 (fun (r_7 : Int32) =>
                post r_7 F_6 A_6
              )
            ) pe
          )
        ) ∧ (p1 = (1 : Int32) →
          ∃ (J_77 : Int32 → Prop), (
            ((¬ (F (K (7 + 2 * p4.toNatClampNeg)) 2) = (0) →
              J_77 (0 : Int32)
            ) ∧ ((F (K (7 + 2 * p4.toNatClampNeg)) 2) = (0) →
              J_77 (1 : Int32)
            ))
          ) ∧ ((∀ (v0_8 : Int32), J_77 v0_8 →
            vc_W_takeSum (K 43) (K 44) (135) (K (7 + 2 * p3.toNatClampNeg)) (K (8 + 2 * p3.toNatClampNeg)) (67) (K (7 + 2 * p4.toNatClampNeg)) (K (8 + 2 * p4.toNatClampNeg)) (67) v0_8 F A (fun (F_9 : gm_M) (A_9 : gm_M) =>
              vc_K_keep K (K 43) (K 44) (135) p2 F_9 A_9 (fun (F_10 : gm_M) (A_10 : gm_M) =>
                vc_W_sign (K 43) (K 44) (135) F_10 A_10 (fun (r_11 : Int32) =>
                  post r_11 F_10 A_10
                )
              ) pe
            )
          ))
        ))
      ) ∧ (p1 = (0) →
        vc_W_takeSum (K 43) (K 44) (135) (K (7 + 2 * p3.toNatClampNeg)) (K (8 + 2 * p3.toNatClampNeg)) (67) (K (7 + 2 * p4.toNatClampNeg)) (K (8 + 2 * p4.toNatClampNeg)) (67) (F (K (7 + 2 * p4.toNatClampNeg)) 2) F A (fun (F_12 : gm_M) (A_12 : gm_M) =>
          vc_K_keep K (K 43) (K 44) (135) p2 F_12 A_12 (fun (F_13 : gm_M) (A_13 : gm_M) =>
            vc_W_sign (K 43) (K 44) (135) F_13 A_13 (fun (r_14 : Int32) =>
              post r_14 F_13 A_13
            )
          ) pe
        )
      ))
    ) pe
  ) pe
def vc_K_divide (K : Nat → Nat) (p1 : Int32) (p2 : Int32) (p3 : Int32) (p4 : Int32) (p5 : Int32) (F A : gm_M) (post : Int32 → gm_M → gm_M → Prop) (pe : Nat → gm_M → gm_M → Prop) : Prop :=
  vc_K_needRegisters p2 p4 p5 F A (
    vc_K_needRegister p3 F A (
      ((¬ p2 = p3 →
        (vp_in p5 16) ∧
        vc_W_sign (K (7 + 2 * p5.toNatClampNeg)) (K (8 + 2 * p5.toNatClampNeg)) (67) F A (fun (r_4 : Int32) =>
          ((¬ r_4 = (0) →
            (vp_in p4 16) ∧
            vc_D_cutSigned K (K (7 + 2 * p4.toNatClampNeg)) (K (8 + 2 * p4.toNatClampNeg)) (67) (K (7 + 2 * p5.toNatClampNeg)) (K (8 + 2 * p5.toNatClampNeg)) (67) F A (fun (F_6 : gm_M) (A_6 : gm_M) =>
              ∃ (J_83 : gm_M → gm_M → Prop), (
                ((p1 = (0) →
                  J_83 F_6 A_6
                ) ∧ (¬ p1 = (0) →
                  vc_D_roundDown K (K (7 + 2 * p5.toNatClampNeg)) (K (8 + 2 * p5.toNatClampNeg)) (67) F_6 A_6 (fun (F_11 : gm_M) (A_11 : gm_M) =>
                    J_83 F_11 A_11
                  )
                ))
              ) ∧ ((∀ (F_7 : gm_M) (A_7 : gm_M), J_83 F_7 A_7 →
                vc_K_keep K (K 39) (K 40) (135) p2 F_7 A_7 (fun (F_8 : gm_M) (A_8 : gm_M) =>
                  vc_K_keep K (K 41) (K 42) (135) p3 F_8 A_8 (fun (F_9 : gm_M) (A_9 : gm_M) =>
                    vc_W_sign (K 41) (K 42) (135) F_9 A_9 (fun (r_10 : Int32) =>
                      post r_10 F_9 A_9
                    )
                  ) pe
                ) pe
              ))
            )
          ) ∧ (r_4 = (0) →
            pe 3 F A
          ))
        )
      ) ∧ (p2 = p3 →
        pe 1 F A
      ))
    ) pe
  ) pe
def vc_K_shift (K : Nat → Nat) (p1 : Int32) (p2 : Int32) (p3 : Int32) (F A : gm_M) (post : Int32 → gm_M → gm_M → Prop) (pe : Nat → gm_M → gm_M → Prop) : Prop :=
  vc_K_needRegister p1 F A (
    vc_K_needRegister p2 F A (
      ((p3 < (-4000 : Int32) →
        pe 1 F A
      ) ∧ (¬ p3 < (-4000 : Int32) →
        ((p3 ≤ (4000 : Int32) →
          (vp_in p2 16) ∧
          ((p3 ≤ (0) →
            vc_W_takeLowered (K 43) (K 44) (135) (K (7 + 2 * p2.toNatClampNeg)) (K (8 + 2 * p2.toNatClampNeg)) (67) (-p3) F A (fun (F_4 : gm_M) (A_4 : gm_M) =>
              vc_K_keep K (K 43) (K 44) (135) p1 F_4 A_4 (fun (F_5 : gm_M) (A_5 : gm_M) =>
                vc_W_countBits (K 43) (K 44) (135) F_5 A_5 (fun (r_6 : Int32) =>
                  post r_6 F_5 A_5
                )
              ) pe
            )
          ) ∧ (¬ p3 ≤ (0) →
            vc_W_sign (K (7 + 2 * p2.toNatClampNeg)) (K (8 + 2 * p2.toNatClampNeg)) (67) F A (fun (r_7 : Int32) =>
              ∃ (J_75 : Prop), (
                ((r_7 = (0) →
                  J_75
                ) ∧ (¬ r_7 = (0) →
                  vc_W_countBits (K (7 + 2 * p2.toNatClampNeg)) (K (8 + 2 * p2.toNatClampNeg)) (67) F A (fun (r_12 : Int32) =>
                    (((r_12 + p3) ≤ (2048 : Int32) →
                      J_75
                    ) ∧ (¬ (r_12 + p3) ≤ (2048 : Int32) →
                      pe 3 F A
                    ))
                  )
                ))
              ) ∧ ((J_75 →
                vc_W_takeRaised (K 43) (K 44) (135) (K (7 + 2 * p2.toNatClampNeg)) (K (8 + 2 * p2.toNatClampNeg)) (67) p3 F A (fun (F_9 : gm_M) (A_9 : gm_M) =>
                  vc_K_keep K (K 43) (K 44) (135) p1 F_9 A_9 (fun (F_10 : gm_M) (A_10 : gm_M) =>
                    vc_W_countBits (K 43) (K 44) (135) F_10 A_10 (fun (r_11 : Int32) =>
                      post r_11 F_10 A_10
                    )
                  ) pe
                )
              ))
            )
          ))
        ) ∧ (¬ p3 ≤ (4000 : Int32) →
          pe 1 F A
        ))
      ))
    ) pe
  ) pe
def vc_K_bits (K : Nat → Nat) (p1 : Int32) (p2 : Int32) (p3 : Int32) (p4 : Int32) (F A : gm_M) (post : Int32 → gm_M → gm_M → Prop) (pe : Nat → gm_M → gm_M → Prop) : Prop :=
  vc_K_needKind p1 F A (
    vc_K_needRegisters p2 p3 p4 F A (
      (vp_in p3 16) ∧
      (vp_in p4 16) ∧
      vc_W_takeBits (K 43) (K 44) (135) p1 (K (7 + 2 * p3.toNatClampNeg)) (K (8 + 2 * p3.toNatClampNeg)) (67) (K (7 + 2 * p4.toNatClampNeg)) (K (8 + 2 * p4.toNatClampNeg)) (67) F A (fun (F_5 : gm_M) (A_5 : gm_M) =>
        vc_K_keep K (K 43) (K 44) (135) p2 F_5 A_5 (fun (F_6 : gm_M) (A_6 : gm_M) =>
          vc_W_sign (K 43) (K 44) (135) F_6 A_6 (fun (r_7 : Int32) =>
            post r_7 F_6 A_6
          )
        ) pe
      )
    ) pe
  ) pe
def vc_K_multiplyOutcome (K : Nat → Nat) (a1 l1 n1 : Nat) (F A : gm_M) (post : gm_M → gm_M → Prop) (pe : Nat → gm_M → gm_M → Prop) : Prop :=
  vc_W_takeProduct (K 45) (K 46) (135) (K 43) (K 44) (135) a1 l1 n1 F A (fun (F_1 : gm_M) (A_1 : gm_M) =>
    vc_K_needFit (K 45) (K 46) (135) F_1 A_1 (
      vc_W_takeCopy (K 43) (K 44) (135) (K 45) (K 46) (135) F_1 A_1 (fun (F_3 : gm_M) (A_3 : gm_M) =>
        post F_3 A_3
      )
    ) pe
  )
def vc_K_power (K : Nat → Nat) (p1 : Int32) (p2 : Int32) (p3 : Int32) (F A : gm_M) (post : Int32 → gm_M → gm_M → Prop) (pe : Nat → gm_M → gm_M → Prop) : Prop :=
  vc_K_needRegister p1 F A (
    vc_K_needRegister p2 F A (
      (((0) ≤ p3 →
        vc_W_takeLong (K 43) (K 44) (135) (1 : Int64) F A (fun (F_3 : gm_M) (A_3 : gm_M) =>
          ∃ (I_34 : Int32 → gm_M → gm_M → Prop) (μ_34 : Int32 → gm_M → gm_M → Nat), I_34 (30 : Int32) F_3 A_3 ∧ ∀ (x4_4 : Int32) (F_4 : gm_M) (A_4 : gm_M), I_34 x4_4 F_4 A_4 →
            ((x4_4 < (0) →
              vc_K_keep K (K 43) (K 44) (135) p1 F_4 A_4 (fun (F_5 : gm_M) (A_5 : gm_M) =>
                vc_W_countBits (K 43) (K 44) (135) F_5 A_5 (fun (r_6 : Int32) =>
                  post r_6 F_5 A_5
                )
              ) pe
            ) ∧ (¬ x4_4 < (0) →
              vc_K_multiplyOutcome K (K 43) (K 44) (135) F_4 A_4 (fun (F_7 : gm_M) (A_7 : gm_M) =>
                ((¬ ((j_iushr p3 x4_4) &&& (1 : Int32)) = (1 : Int32) →
                  ∀ x4_8 : Int32, x4_8 = x4_4 + (-1 : Int32) →
                  I_34 x4_8 F_7 A_7 ∧ μ_34 x4_8 F_7 A_7 < μ_34 x4_4 F_4 A_4
                ) ∧ (((j_iushr p3 x4_4) &&& (1 : Int32)) = (1 : Int32) →
                  (vp_in p2 16) ∧
                  vc_K_multiplyOutcome K (K (7 + 2 * p2.toNatClampNeg)) (K (8 + 2 * p2.toNatClampNeg)) (67) F_7 A_7 (fun (F_10 : gm_M) (A_10 : gm_M) =>
                    ∀ x4_11 : Int32, x4_11 = x4_4 + (-1 : Int32) →
                    I_34 x4_11 F_10 A_10 ∧ μ_34 x4_11 F_10 A_10 < μ_34 x4_4 F_4 A_4
                  ) pe
                ))
              ) pe
            ))
        )
      ) ∧ (¬ (0) ≤ p3 →
        pe 1 F A
      ))
    ) pe
  ) pe
def vc_K_residue (K : Nat → Nat) (p1 : Int32) (p2 : Int32) (p3 : Int32) (p4 : Int32) (F A : gm_M) (post : Int32 → gm_M → gm_M → Prop) (pe : Nat → gm_M → gm_M → Prop) : Prop :=
  vc_K_needRegisters p1 p2 p3 F A (
    vc_K_needRegister p4 F A (
      (vp_in p3 16) ∧
      vc_W_sign (K (7 + 2 * p3.toNatClampNeg)) (K (8 + 2 * p3.toNatClampNeg)) (67) F A (fun (r_4 : Int32) =>
        (((0) ≤ r_4 →
          (vp_in p4 16) ∧
          vc_W_sign (K (7 + 2 * p4.toNatClampNeg)) (K (8 + 2 * p4.toNatClampNeg)) (67) F A (fun (r_6 : Int32) =>
            ((¬ r_6 = (0) →
              (vp_in p2 16) ∧
              (vp_in p3 16) ∧
              (vp_in p4 16) ∧
              vc_K_raiseWithin K (K (7 + 2 * p2.toNatClampNeg)) (K (8 + 2 * p2.toNatClampNeg)) (67) (K (7 + 2 * p3.toNatClampNeg)) (K (8 + 2 * p3.toNatClampNeg)) (67) (K (7 + 2 * p4.toNatClampNeg)) (K (8 + 2 * p4.toNatClampNeg)) (67) F A (fun (F_10 : gm_M) (A_10 : gm_M) =>
                (vp_in p2 16) ∧
                ∃ (J_113 : Int32 → Prop), (
                  ∃ (J_112 : Prop), (
                    (((F_10 (K (7 + 2 * p2.toNatClampNeg)) 2) = (0) →
                      J_112
                    ) ∧ (¬ (F_10 (K (7 + 2 * p2.toNatClampNeg)) 2) = (0) →
                      (vp_in p3 16) ∧
                      vc_W_hasBit (K (7 + 2 * p3.toNatClampNeg)) (K (8 + 2 * p3.toNatClampNeg)) (67) (0 : Int32) F_10 A_10 (fun (r_26 : Int32) =>
                        ((r_26 = (0) →
                          J_112
                        ) ∧ (¬ r_26 = (0) →
                          J_113 (1 : Int32)
                        ))
                      )
                    ))
                  ) ∧ ((J_112 →
                    J_113 (0 : Int32)
                  ))
                ) ∧ ((∀ (v0_12 : Int32), J_113 v0_12 →
                  vc_W_setBelow (K 43) (K 44) (135) v0_12 F_10 A_10 (fun (F_13 : gm_M) =>
                    vc_W_sign (K 43) (K 44) (135) F_13 A_10 (fun (r_14 : Int32) =>
                      (vp_in p4 16) ∧
                      vc_W_sign (K (7 + 2 * p4.toNatClampNeg)) (K (8 + 2 * p4.toNatClampNeg)) (67) F_13 A_10 (fun (r_16 : Int32) =>
                        (((0) ≤ (r_14 * r_16) →
                          vc_K_keep K (K 43) (K 44) (135) p1 F_13 A_10 (fun (F_17 : gm_M) (A_17 : gm_M) =>
                            vc_W_sign (K 43) (K 44) (135) F_17 A_17 (fun (r_18 : Int32) =>
                              post r_18 F_17 A_17
                            )
                          ) pe
                        ) ∧ (¬ (0) ≤ (r_14 * r_16) →
                          (vp_in p4 16) ∧
                          (vp_in p4 16) ∧
                          vc_W_takeSum (K 43) (K 44) (135) (K 43) (K 44) (135) (K (7 + 2 * p4.toNatClampNeg)) (K (8 + 2 * p4.toNatClampNeg)) (67) (F_13 (K (7 + 2 * p4.toNatClampNeg)) 2) F_13 A_10 (fun (F_21 : gm_M) (A_21 : gm_M) =>
                            vc_K_keep K (K 43) (K 44) (135) p1 F_21 A_21 (fun (F_22 : gm_M) (A_22 : gm_M) =>
                              vc_W_sign (K 43) (K 44) (135) F_22 A_22 (fun (r_23 : Int32) =>
                                post r_23 F_22 A_22
                              )
                            ) pe
                          )
                        ))
                      )
                    )
                  )
                ))
              )
            ) ∧ (r_6 = (0) →
              pe 3 F A
            ))
          )
        ) ∧ (¬ (0) ≤ r_4 →
          pe 1 F A
        ))
      )
    ) pe
  ) pe
def vc_K_compare (K : Nat → Nat) (p1 : Int32) (p2 : Int32) (F A : gm_M) (post : Int32 → Prop) (pe : Nat → gm_M → gm_M → Prop) : Prop :=
  vc_K_needRegister p1 F A (
    vc_K_needRegister p2 F A (
      (vp_in p1 16) ∧
      (vp_in p2 16) ∧
      vc_W_orderTo (K (7 + 2 * p1.toNatClampNeg)) (K (8 + 2 * p1.toNatClampNeg)) (67) (K (7 + 2 * p2.toNatClampNeg)) (K (8 + 2 * p2.toNatClampNeg)) (67) F A (fun (r_5 : Int32) =>
        post r_5
      )
    ) pe
  ) pe
def vc_K_small (K : Nat → Nat) (p1 : Int32) (F A : gm_M) (post : Int64 → Prop) (pe : Nat → gm_M → gm_M → Prop) : Prop :=
  vc_K_needRegister p1 F A (
    (vp_in p1 16) ∧
    vc_W_fitsLong (K (7 + 2 * p1.toNatClampNeg)) (K (8 + 2 * p1.toNatClampNeg)) (67) F A (fun (r_3 : Int32) =>
      ((¬ r_3 = (0) →
        (vp_in p1 16) ∧
        vc_W_lowestBits (K (7 + 2 * p1.toNatClampNeg)) (K (8 + 2 * p1.toNatClampNeg)) (67) F A (fun (r_5 : Int64) =>
          post r_5
        )
      ) ∧ (r_3 = (0) →
        pe 3 F A
      ))
    )
  ) pe
def vc_K_low (K : Nat → Nat) (p1 : Int32) (F A : gm_M) (post : Int64 → Prop) (pe : Nat → gm_M → gm_M → Prop) : Prop :=
  vc_K_needRegister p1 F A (
    (vp_in p1 16) ∧
    vc_W_lowestBits (K (7 + 2 * p1.toNatClampNeg)) (K (8 + 2 * p1.toNatClampNeg)) (67) F A (fun (r_3 : Int64) =>
      post r_3
    )
  ) pe
def vc_K_folded (K : Nat → Nat) (p1 : Int32) (F A : gm_M) (post : Int64 → Prop) (pe : Nat → gm_M → gm_M → Prop) : Prop :=
  vc_K_needRegister p1 F A (
    (vp_in p1 16) ∧
    vc_W_foldedBits (K (7 + 2 * p1.toNatClampNeg)) (K (8 + 2 * p1.toNatClampNeg)) (67) F A (fun (r_3 : Int64) =>
      post r_3
    )
  ) pe
def vc_K_size (K : Nat → Nat) (p1 : Int32) (F A : gm_M) (post : Int32 → Prop) (pe : Nat → gm_M → gm_M → Prop) : Prop :=
  vc_K_needRegister p1 F A (
    (vp_in p1 16) ∧
    vc_W_countBits (K (7 + 2 * p1.toNatClampNeg)) (K (8 + 2 * p1.toNatClampNeg)) (67) F A (fun (r_3 : Int32) =>
      post r_3
    )
  ) pe
