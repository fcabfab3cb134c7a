/-! ===== a text: the reference's dish ===== -/
section RefDish
variable {M : ax_M} {N : ax_L} {t i : Nat} {B : Nat → Nat} {A : ax_A0}
set_option maxHeartbeats 1000000 in
theorem c206 (hT : TXm M B t) (hi : i ≤ t) (hL : LM M B t i) (hA : ∀ j, j < 181 → M 100 j = A j) (hW : WF A) : ∃ (M2 : ax_M) (b : Bool), (JR B t M2 b (itD B t i A) ∧ RG M M2) ∧ ∀ (S : ax_S) (d n : Nat) (Q : Option Value → Nat → ax_H → Prop), ax_W (d + 5) 206 0 [.ref 84] [] n (hx S M N) Q = Q (some (.int (bI b))) n (hx S M2 N) := by
  have hE := tkE_bd (B := B) hi
  have he := hE.2.1
  have n8 := hW.1.2
  have a0 : M 100 0 = nI (ndA A) := by rw [hA 0 (by omega)]; exact hW.1.1
  by_cases h8 : ndA A = 8
  · have e : itD B t i A = (false, tkP B t i, A) := by unfold itD; rw [if_pos h8]
    rw [e]
    refine ⟨M, false, ⟨Or.inr ⟨rfl, rfl, hL.1⟩, RG_rf⟩, fun S d n Q => ?_⟩
    simp only [↓s206_0, ↓s206_1, ↓s206_4, ↓s206_5, ↓s206_6, ↓s206_8, ↓s206_11, ↓s206_12, jc_84, gf_84_0, gf_84_1, gf_84_2, gf_84_3, gf_84_4, ok_84_4, gf_84_5, ok_84_5, gf_84_6, ok_84_6, gf_84_7, ok_84_7, gf_84_8, ok_84_8, gf_84_9, ok_84_9, gf_84_10, gf_84_11, gf_84_12, gf_84_13, gf_84_14, gf_84_15, gf_84_16, gf_84_17, ok_84_17, gf_84_18, gf_84_19, ok_84_19, gf_84_20, ok_84_20, gf_84_21, gf_84_22, gf_84_23, gf_84_24, ok_84_24, gf_84_25, ok_84_25, gf_84_26, ok_84_26, gf_84_27, ok_84_27, gf_84_28, ok_84_28, gf_84_29, gf_84_30, al_100 (show 0 < 181 by decide), a0, h8, ct_s, ct_n, ↓bI_01, bI_eq0, bI_eq1, nI_10, nI_01, dec_f, dec_t, if_n, eq_self, true_or, or_true, if_true, if_false, reduceIte]
    rfl
  · rw [itD_G h8]
    obtain ⟨M0, ⟨f1, f2⟩, g0⟩ := c202 (N := N) hT hi hL
    have r0 : RG M M0 := RG_f f2
    have n0 : NS M0 B t loD hiD (tkE B t i) 0 := NS_0 f1
    have z0 : M0 100 = M 100 := f2.1 100 (by decide)
    have q0 : ∀ (S : ax_S) (d n : Nat) (Q : Option Value → Nat → ax_H → Prop), ax_W (d + 5) 206 0 [.ref 84] [] n (hx S M N) Q = ax_W (d + 5) 206 17 [.ref 84] [] n (hx S M0 N) Q := by
      intro S d n Q
      simp only [↓s206_0, ↓s206_1, ↓s206_4, ↓s206_5, ↓s206_6, ↓s206_8, jc_84, gf_84_0, gf_84_1, gf_84_2, gf_84_3, gf_84_4, ok_84_4, gf_84_5, ok_84_5, gf_84_6, ok_84_6, gf_84_7, ok_84_7, gf_84_8, ok_84_8, gf_84_9, ok_84_9, gf_84_10, gf_84_11, gf_84_12, gf_84_13, gf_84_14, gf_84_15, gf_84_16, gf_84_17, ok_84_17, gf_84_18, gf_84_19, ok_84_19, gf_84_20, ok_84_20, gf_84_21, gf_84_22, gf_84_23, gf_84_24, ok_84_24, gf_84_25, ok_84_25, gf_84_26, ok_84_26, gf_84_27, ok_84_27, gf_84_28, ok_84_28, gf_84_29, gf_84_30, al_100 (show 0 < 181 by decide), a0, ct_s, ct_n, ↓bI_01, bI_eq0, bI_eq1, nI_10, nI_01, dec_f, dec_t, if_n, eq_self, true_or, or_true, if_true, if_false, reduceIte]
      rw [if_neg (fun q => h8 ((nI_eq (a := ndA A) (b := 8) (by omega) (by omega)).mp q))]
      simp only [↓s206_13, ↓s206_14, jc_84, gf_84_0, gf_84_1, gf_84_2, gf_84_3, gf_84_4, ok_84_4, gf_84_5, ok_84_5, gf_84_6, ok_84_6, gf_84_7, ok_84_7, gf_84_8, ok_84_8, gf_84_9, ok_84_9, gf_84_10, gf_84_11, gf_84_12, gf_84_13, gf_84_14, gf_84_15, gf_84_16, gf_84_17, ok_84_17, gf_84_18, gf_84_19, ok_84_19, gf_84_20, ok_84_20, gf_84_21, gf_84_22, gf_84_23, gf_84_24, ok_84_24, gf_84_25, ok_84_25, gf_84_26, ok_84_26, gf_84_27, ok_84_27, gf_84_28, ok_84_28, gf_84_29, gf_84_30, ↓g0, ct_s, ct_n, ↓bI_01, bI_eq0, bI_eq1, nI_10, nI_01, dec_f, dec_t, if_n, eq_self, true_or, or_true, if_true, if_false, reduceIte]
    obtain ⟨M1, ⟨s1, t1, u1, v1⟩, g1⟩ := c204 (N := N) (lo := loD) (hi := hiD) (k := 0) (TXm_rg r0 hT) he n0 (by omega) (b9D 0 (by omega))
    have h1 : ∀ (S : ax_S) (d n : Nat) (Q : Option Value → Nat → ax_H → Prop), ax_W (d + 4) 204 0 [.ref 84, .int (nI 0), .int (nI 0), .int (nI 5)] [] n (hx S M0 N) Q = Q (some (.int (bI (tok B t (loD 0) (hiD 0) (psn B t (tkE B t i) 0))))) n (hx S M1 N) := g1
    have r1 := RG_tr r0 u1
    cases ok0 : tok B t (loD 0) (hiD 0) (psn B t (tkE B t i) 0) with
    | false =>
      rw [ok0] at h1
      refine ⟨M1, false, ⟨JG_f (j := 0) n0.2.1 ok0 (by omega) (by rw [t1 ok0]; exact n0.1.1), r1⟩, fun S d n Q => ?_⟩
      rw [q0]
      simp only [↓s206_17, ↓s206_18, ↓s206_19, ↓s206_20, ↓s206_21, jc_84, gf_84_0, gf_84_1, gf_84_2, gf_84_3, gf_84_4, ok_84_4, gf_84_5, ok_84_5, gf_84_6, ok_84_6, gf_84_7, ok_84_7, gf_84_8, ok_84_8, gf_84_9, ok_84_9, gf_84_10, gf_84_11, gf_84_12, gf_84_13, gf_84_14, gf_84_15, gf_84_16, gf_84_17, ok_84_17, gf_84_18, gf_84_19, ok_84_19, gf_84_20, ok_84_20, gf_84_21, gf_84_22, gf_84_23, gf_84_24, ok_84_24, gf_84_25, ok_84_25, gf_84_26, ok_84_26, gf_84_27, ok_84_27, gf_84_28, ok_84_28, gf_84_29, gf_84_30, ↓h1, ct_s, ct_n, ↓bI_01, bI_eq0, bI_eq1, nI_10, nI_01, dec_f, dec_t, if_n, eq_self, true_or, or_true, if_true, if_false, reduceIte]
      simp only [↓s206_24, ↓s206_69, ↓s206_70, ct_s, ct_n, ↓bI_01, bI_eq0, bI_eq1, nI_10, nI_01, dec_f, dec_t, if_n, eq_self, true_or, or_true, if_true, if_false, reduceIte]
      rfl
    | true =>
      rw [ok0] at h1
      have n1 := s1 ok0
      have z1 : M1 100 = M 100 := v1.trans z0
      have q1 : ∀ (S : ax_S) (d n : Nat) (Q : Option Value → Nat → ax_H → Prop), ax_W (d + 5) 206 0 [.ref 84] [] n (hx S M N) Q = ax_W (d + 5) 206 27 [.ref 84] [] n (hx S M1 N) Q := by
        intro S d n Q
        rw [q0]
        simp only [↓s206_17, ↓s206_18, ↓s206_19, ↓s206_20, ↓s206_21, jc_84, gf_84_0, gf_84_1, gf_84_2, gf_84_3, gf_84_4, ok_84_4, gf_84_5, ok_84_5, gf_84_6, ok_84_6, gf_84_7, ok_84_7, gf_84_8, ok_84_8, gf_84_9, ok_84_9, gf_84_10, gf_84_11, gf_84_12, gf_84_13, gf_84_14, gf_84_15, gf_84_16, gf_84_17, ok_84_17, gf_84_18, gf_84_19, ok_84_19, gf_84_20, ok_84_20, gf_84_21, gf_84_22, gf_84_23, gf_84_24, ok_84_24, gf_84_25, ok_84_25, gf_84_26, ok_84_26, gf_84_27, ok_84_27, gf_84_28, ok_84_28, gf_84_29, gf_84_30, ↓h1, ct_s, ct_n, ↓bI_01, bI_eq0, bI_eq1, nI_10, nI_01, dec_f, dec_t, if_n, eq_self, true_or, or_true, if_true, if_false, reduceIte]
        simp only [↓s206_24, ct_s, ct_n, ↓bI_01, bI_eq0, bI_eq1, nI_10, nI_01, dec_f, dec_t, if_n, eq_self, true_or, or_true, if_true, if_false, reduceIte, Bool.true_eq_false]
      obtain ⟨M2, ⟨s2, t2, u2, v2⟩, g2⟩ := c204 (N := N) (lo := loD) (hi := hiD) (k := 1) (TXm_rg r1 hT) he n1 (by omega) (b9D 1 (by omega))
      have h2 : ∀ (S : ax_S) (d n : Nat) (Q : Option Value → Nat → ax_H → Prop), ax_W (d + 4) 204 0 [.ref 84, .int (nI 1), .int (nI 0), .int (nI 4)] [] n (hx S M1 N) Q = Q (some (.int (bI (tok B t (loD 1) (hiD 1) (psn B t (tkE B t i) 1))))) n (hx S M2 N) := g2
      have r2 := RG_tr r1 u2
      cases ok1 : tok B t (loD 1) (hiD 1) (psn B t (tkE B t i) 1) with
      | false =>
        rw [ok1] at h2
        refine ⟨M2, false, ⟨JG_f (j := 1) n1.2.1 ok1 (by omega) (by rw [t2 ok1]; exact n1.1.1), r2⟩, fun S d n Q => ?_⟩
        rw [q1]
        simp only [↓s206_27, ↓s206_28, ↓s206_29, ↓s206_30, ↓s206_31, jc_84, gf_84_0, gf_84_1, gf_84_2, gf_84_3, gf_84_4, ok_84_4, gf_84_5, ok_84_5, gf_84_6, ok_84_6, gf_84_7, ok_84_7, gf_84_8, ok_84_8, gf_84_9, ok_84_9, gf_84_10, gf_84_11, gf_84_12, gf_84_13, gf_84_14, gf_84_15, gf_84_16, gf_84_17, ok_84_17, gf_84_18, gf_84_19, ok_84_19, gf_84_20, ok_84_20, gf_84_21, gf_84_22, gf_84_23, gf_84_24, ok_84_24, gf_84_25, ok_84_25, gf_84_26, ok_84_26, gf_84_27, ok_84_27, gf_84_28, ok_84_28, gf_84_29, gf_84_30, ↓h2, ct_s, ct_n, ↓bI_01, bI_eq0, bI_eq1, nI_10, nI_01, dec_f, dec_t, if_n, eq_self, true_or, or_true, if_true, if_false, reduceIte]
        simp only [↓s206_34, ↓s206_69, ↓s206_70, ct_s, ct_n, ↓bI_01, bI_eq0, bI_eq1, nI_10, nI_01, dec_f, dec_t, if_n, eq_self, true_or, or_true, if_true, if_false, reduceIte]
        rfl
      | true =>
        rw [ok1] at h2
        have n2 := s2 ok1
        have z2 : M2 100 = M 100 := v2.trans z1
        have q2 : ∀ (S : ax_S) (d n : Nat) (Q : Option Value → Nat → ax_H → Prop), ax_W (d + 5) 206 0 [.ref 84] [] n (hx S M N) Q = ax_W (d + 5) 206 37 [.ref 84] [] n (hx S M2 N) Q := by
          intro S d n Q
          rw [q1]
          simp only [↓s206_27, ↓s206_28, ↓s206_29, ↓s206_30, ↓s206_31, jc_84, gf_84_0, gf_84_1, gf_84_2, gf_84_3, gf_84_4, ok_84_4, gf_84_5, ok_84_5, gf_84_6, ok_84_6, gf_84_7, ok_84_7, gf_84_8, ok_84_8, gf_84_9, ok_84_9, gf_84_10, gf_84_11, gf_84_12, gf_84_13, gf_84_14, gf_84_15, gf_84_16, gf_84_17, ok_84_17, gf_84_18, gf_84_19, ok_84_19, gf_84_20, ok_84_20, gf_84_21, gf_84_22, gf_84_23, gf_84_24, ok_84_24, gf_84_25, ok_84_25, gf_84_26, ok_84_26, gf_84_27, ok_84_27, gf_84_28, ok_84_28, gf_84_29, gf_84_30, ↓h2, ct_s, ct_n, ↓bI_01, bI_eq0, bI_eq1, nI_10, nI_01, dec_f, dec_t, if_n, eq_self, true_or, or_true, if_true, if_false, reduceIte]
          simp only [↓s206_34, ct_s, ct_n, ↓bI_01, bI_eq0, bI_eq1, nI_10, nI_01, dec_f, dec_t, if_n, eq_self, true_or, or_true, if_true, if_false, reduceIte, Bool.true_eq_false]
        obtain ⟨M3, ⟨s3, t3, u3, v3⟩, g3⟩ := c204 (N := N) (lo := loD) (hi := hiD) (k := 2) (TXm_rg r2 hT) he n2 (by omega) (b9D 2 (by omega))
        have h3 : ∀ (S : ax_S) (d n : Nat) (Q : Option Value → Nat → ax_H → Prop), ax_W (d + 4) 204 0 [.ref 84, .int (nI 2), .int (nI 1), .int (nI 9)] [] n (hx S M2 N) Q = Q (some (.int (bI (tok B t (loD 2) (hiD 2) (psn B t (tkE B t i) 2))))) n (hx S M3 N) := g3
        have r3 := RG_tr r2 u3
        cases ok2 : tok B t (loD 2) (hiD 2) (psn B t (tkE B t i) 2) with
        | false =>
          rw [ok2] at h3
          refine ⟨M3, false, ⟨JG_f (j := 2) n2.2.1 ok2 (by omega) (by rw [t3 ok2]; exact n2.1.1), r3⟩, fun S d n Q => ?_⟩
          rw [q2]
          simp only [↓s206_37, ↓s206_38, ↓s206_39, ↓s206_40, ↓s206_42, jc_84, gf_84_0, gf_84_1, gf_84_2, gf_84_3, gf_84_4, ok_84_4, gf_84_5, ok_84_5, gf_84_6, ok_84_6, gf_84_7, ok_84_7, gf_84_8, ok_84_8, gf_84_9, ok_84_9, gf_84_10, gf_84_11, gf_84_12, gf_84_13, gf_84_14, gf_84_15, gf_84_16, gf_84_17, ok_84_17, gf_84_18, gf_84_19, ok_84_19, gf_84_20, ok_84_20, gf_84_21, gf_84_22, gf_84_23, gf_84_24, ok_84_24, gf_84_25, ok_84_25, gf_84_26, ok_84_26, gf_84_27, ok_84_27, gf_84_28, ok_84_28, gf_84_29, gf_84_30, ↓h3, ct_s, ct_n, ↓bI_01, bI_eq0, bI_eq1, nI_10, nI_01, dec_f, dec_t, if_n, eq_self, true_or, or_true, if_true, if_false, reduceIte]
          simp only [↓s206_45, ↓s206_69, ↓s206_70, ct_s, ct_n, ↓bI_01, bI_eq0, bI_eq1, nI_10, nI_01, dec_f, dec_t, if_n, eq_self, true_or, or_true, if_true, if_false, reduceIte]
          rfl
        | true =>
          rw [ok2] at h3
          have n3 := s3 ok2
          have z3 : M3 100 = M 100 := v3.trans z2
          have q3 : ∀ (S : ax_S) (d n : Nat) (Q : Option Value → Nat → ax_H → Prop), ax_W (d + 5) 206 0 [.ref 84] [] n (hx S M N) Q = ax_W (d + 5) 206 48 [.ref 84] [] n (hx S M3 N) Q := by
            intro S d n Q
            rw [q2]
            simp only [↓s206_37, ↓s206_38, ↓s206_39, ↓s206_40, ↓s206_42, jc_84, gf_84_0, gf_84_1, gf_84_2, gf_84_3, gf_84_4, ok_84_4, gf_84_5, ok_84_5, gf_84_6, ok_84_6, gf_84_7, ok_84_7, gf_84_8, ok_84_8, gf_84_9, ok_84_9, gf_84_10, gf_84_11, gf_84_12, gf_84_13, gf_84_14, gf_84_15, gf_84_16, gf_84_17, ok_84_17, gf_84_18, gf_84_19, ok_84_19, gf_84_20, ok_84_20, gf_84_21, gf_84_22, gf_84_23, gf_84_24, ok_84_24, gf_84_25, ok_84_25, gf_84_26, ok_84_26, gf_84_27, ok_84_27, gf_84_28, ok_84_28, gf_84_29, gf_84_30, ↓h3, ct_s, ct_n, ↓bI_01, bI_eq0, bI_eq1, nI_10, nI_01, dec_f, dec_t, if_n, eq_self, true_or, or_true, if_true, if_false, reduceIte]
            simp only [↓s206_45, ct_s, ct_n, ↓bI_01, bI_eq0, bI_eq1, nI_10, nI_01, dec_f, dec_t, if_n, eq_self, true_or, or_true, if_true, if_false, reduceIte, Bool.true_eq_false]
          obtain ⟨M4, ⟨s4, t4, u4, v4⟩, g4⟩ := c204 (N := N) (lo := loD) (hi := hiD) (k := 3) (TXm_rg r3 hT) he n3 (by omega) (b9D 3 (by omega))
          have h4 : ∀ (S : ax_S) (d n : Nat) (Q : Option Value → Nat → ax_H → Prop), ax_W (d + 4) 204 0 [.ref 84, .int (nI 3), .int (nI 0), .int (nI 9)] [] n (hx S M3 N) Q = Q (some (.int (bI (tok B t (loD 3) (hiD 3) (psn B t (tkE B t i) 3))))) n (hx S M4 N) := g4
          have r4 := RG_tr r3 u4
          cases ok3 : tok B t (loD 3) (hiD 3) (psn B t (tkE B t i) 3) with
          | false =>
            rw [ok3] at h4
            refine ⟨M4, false, ⟨JG_f (j := 3) n3.2.1 ok3 (by omega) (by rw [t4 ok3]; exact n3.1.1), r4⟩, fun S d n Q => ?_⟩
            rw [q3]
            simp only [↓s206_48, ↓s206_49, ↓s206_50, ↓s206_51, ↓s206_53, jc_84, gf_84_0, gf_84_1, gf_84_2, gf_84_3, gf_84_4, ok_84_4, gf_84_5, ok_84_5, gf_84_6, ok_84_6, gf_84_7, ok_84_7, gf_84_8, ok_84_8, gf_84_9, ok_84_9, gf_84_10, gf_84_11, gf_84_12, gf_84_13, gf_84_14, gf_84_15, gf_84_16, gf_84_17, ok_84_17, gf_84_18, gf_84_19, ok_84_19, gf_84_20, ok_84_20, gf_84_21, gf_84_22, gf_84_23, gf_84_24, ok_84_24, gf_84_25, ok_84_25, gf_84_26, ok_84_26, gf_84_27, ok_84_27, gf_84_28, ok_84_28, gf_84_29, gf_84_30, ↓h4, ct_s, ct_n, ↓bI_01, bI_eq0, bI_eq1, nI_10, nI_01, dec_f, dec_t, if_n, eq_self, true_or, or_true, if_true, if_false, reduceIte]
            simp only [↓s206_56, ↓s206_69, ↓s206_70, ct_s, ct_n, ↓bI_01, bI_eq0, bI_eq1, nI_10, nI_01, dec_f, dec_t, if_n, eq_self, true_or, or_true, if_true, if_false, reduceIte]
            rfl
          | true =>
            rw [ok3] at h4
            have n4 := s4 ok3
            have z4 : M4 100 = M 100 := v4.trans z3
            have q4 : ∀ (S : ax_S) (d n : Nat) (Q : Option Value → Nat → ax_H → Prop), ax_W (d + 5) 206 0 [.ref 84] [] n (hx S M N) Q = ax_W (d + 5) 206 59 [.ref 84] [] n (hx S M4 N) Q := by
              intro S d n Q
              rw [q3]
              simp only [↓s206_48, ↓s206_49, ↓s206_50, ↓s206_51, ↓s206_53, jc_84, gf_84_0, gf_84_1, gf_84_2, gf_84_3, gf_84_4, ok_84_4, gf_84_5, ok_84_5, gf_84_6, ok_84_6, gf_84_7, ok_84_7, gf_84_8, ok_84_8, gf_84_9, ok_84_9, gf_84_10, gf_84_11, gf_84_12, gf_84_13, gf_84_14, gf_84_15, gf_84_16, gf_84_17, ok_84_17, gf_84_18, gf_84_19, ok_84_19, gf_84_20, ok_84_20, gf_84_21, gf_84_22, gf_84_23, gf_84_24, ok_84_24, gf_84_25, ok_84_25, gf_84_26, ok_84_26, gf_84_27, ok_84_27, gf_84_28, ok_84_28, gf_84_29, gf_84_30, ↓h4, ct_s, ct_n, ↓bI_01, bI_eq0, bI_eq1, nI_10, nI_01, dec_f, dec_t, if_n, eq_self, true_or, or_true, if_true, if_false, reduceIte]
              simp only [↓s206_56, ct_s, ct_n, ↓bI_01, bI_eq0, bI_eq1, nI_10, nI_01, dec_f, dec_t, if_n, eq_self, true_or, or_true, if_true, if_false, reduceIte, Bool.true_eq_false]
            obtain ⟨M5, ⟨s5, t5, u5, v5⟩, g5⟩ := c204 (N := N) (lo := loD) (hi := hiD) (k := 4) (TXm_rg r4 hT) he n4 (by omega) (b9D 4 (by omega))
            have h5 : ∀ (S : ax_S) (d n : Nat) (Q : Option Value → Nat → ax_H → Prop), ax_W (d + 4) 204 0 [.ref 84, .int (nI 4), .int (nI 0), .int (nI 2)] [] n (hx S M4 N) Q = Q (some (.int (bI (tok B t (loD 4) (hiD 4) (psn B t (tkE B t i) 4))))) n (hx S M5 N) := g5
            have r5 := RG_tr r4 u5
            cases ok4 : tok B t (loD 4) (hiD 4) (psn B t (tkE B t i) 4) with
            | false =>
              rw [ok4] at h5
              refine ⟨M5, false, ⟨JG_f (j := 4) n4.2.1 ok4 (by omega) (by rw [t5 ok4]; exact n4.1.1), r5⟩, fun S d n Q => ?_⟩
              rw [q4]
              simp only [↓s206_59, ↓s206_60, ↓s206_61, ↓s206_62, ↓s206_63, jc_84, gf_84_0, gf_84_1, gf_84_2, gf_84_3, gf_84_4, ok_84_4, gf_84_5, ok_84_5, gf_84_6, ok_84_6, gf_84_7, ok_84_7, gf_84_8, ok_84_8, gf_84_9, ok_84_9, gf_84_10, gf_84_11, gf_84_12, gf_84_13, gf_84_14, gf_84_15, gf_84_16, gf_84_17, ok_84_17, gf_84_18, gf_84_19, ok_84_19, gf_84_20, ok_84_20, gf_84_21, gf_84_22, gf_84_23, gf_84_24, ok_84_24, gf_84_25, ok_84_25, gf_84_26, ok_84_26, gf_84_27, ok_84_27, gf_84_28, ok_84_28, gf_84_29, gf_84_30, ↓h5, ct_s, ct_n, ↓bI_01, bI_eq0, bI_eq1, nI_10, nI_01, dec_f, dec_t, if_n, eq_self, true_or, or_true, if_true, if_false, reduceIte]
              simp only [↓s206_66, ↓s206_69, ↓s206_70, ct_s, ct_n, ↓bI_01, bI_eq0, bI_eq1, nI_10, nI_01, dec_f, dec_t, if_n, eq_self, true_or, or_true, if_true, if_false, reduceIte]
              rfl
            | true =>
              rw [ok4] at h5
              have n5 := s5 ok4
              have z5 : M5 100 = M 100 := v5.trans z4
              have q5 : ∀ (S : ax_S) (d n : Nat) (Q : Option Value → Nat → ax_H → Prop), ax_W (d + 5) 206 0 [.ref 84] [] n (hx S M N) Q = ax_W (d + 5) 206 71 [.ref 84] [] n (hx S M5 N) Q := by
                intro S d n Q
                rw [q4]
                simp only [↓s206_59, ↓s206_60, ↓s206_61, ↓s206_62, ↓s206_63, jc_84, gf_84_0, gf_84_1, gf_84_2, gf_84_3, gf_84_4, ok_84_4, gf_84_5, ok_84_5, gf_84_6, ok_84_6, gf_84_7, ok_84_7, gf_84_8, ok_84_8, gf_84_9, ok_84_9, gf_84_10, gf_84_11, gf_84_12, gf_84_13, gf_84_14, gf_84_15, gf_84_16, gf_84_17, ok_84_17, gf_84_18, gf_84_19, ok_84_19, gf_84_20, ok_84_20, gf_84_21, gf_84_22, gf_84_23, gf_84_24, ok_84_24, gf_84_25, ok_84_25, gf_84_26, ok_84_26, gf_84_27, ok_84_27, gf_84_28, ok_84_28, gf_84_29, gf_84_30, ↓h5, ct_s, ct_n, ↓bI_01, bI_eq0, bI_eq1, nI_10, nI_01, dec_f, dec_t, if_n, eq_self, true_or, or_true, if_true, if_false, reduceIte]
                simp only [↓s206_66, ct_s, ct_n, ↓bI_01, bI_eq0, bI_eq1, nI_10, nI_01, dec_f, dec_t, if_n, eq_self, true_or, or_true, if_true, if_false, reduceIte, Bool.true_eq_false]
              obtain ⟨p1, p2, p3⟩ := n5
              have e0 := p3 0 (by omega)
              have e1 := p3 1 (by omega)
              have e2 := p3 2 (by omega)
              have e3 := p3 3 (by omega)
              have e4 := p3 4 (by omega)
              generalize hw : nmV B t (tkE B t i) = w at *
              have a5 : M5 100 0 = nI (ndA A) := by rw [z5]; exact a0
              obtain ⟨M6, hM6⟩ : ∃ M6, M6 = ux (ux (ux (ux (ux (ux M5 100 (6 + 5 * ndA A + 0) (nI (w 0))) 100 (6 + 5 * ndA A + 1) (nI (w 1))) 100 (6 + 5 * ndA A + 2) (nI (w 2))) 100 (6 + 5 * ndA A + 3) (nI (w 3))) 100 (6 + 5 * ndA A + 4) (nI (w 4))) 100 0 (nI (ndA A + 1)) := ⟨_, rfl⟩
              have o6 : ∀ a, a ≠ 100 → M6 a = M5 a := fun a ha => by rw [hM6, ux_f ha, ux_f ha, ux_f ha, ux_f ha, ux_f ha, ux_f ha]
              have hL6 : LM M6 B t (psn B t (tkE B t i) 5) := by
                unfold LM
                rw [o6 84 (by decide)]
                exact p1
              refine ⟨M6, true, ⟨JG_t he p2 hL6 (fun j hj => ?_), RG_tr r5 ⟨fun a _ q _ => o6 a q, fun j _ => by rw [o6 84 (by decide)]⟩⟩, fun S d n Q => ?_⟩
              · rw [hM6, uxS, uxS, uxS, uxS, uxS, uxS, z5, hA j hj]
                rfl
              · rw [q5]
                simp only [↓s206_71, ↓s206_72, ↓s206_75, ↓s206_76, ↓s206_79, ↓s206_80, ↓s206_81, ↓s206_82, ↓s206_85, ↓s206_86, ↓s206_87, ↓s206_88, ↓s206_91, ↓s206_92, ↓s206_93, ↓s206_94, ↓s206_97, ↓s206_98, ↓s206_99, ↓s206_100, ↓s206_103, ↓s206_104, ↓s206_105, jc_84, gf_84_0, gf_84_1, gf_84_2, gf_84_3, gf_84_4, ok_84_4, gf_84_5, ok_84_5, gf_84_6, ok_84_6, gf_84_7, ok_84_7, gf_84_8, ok_84_8, gf_84_9, ok_84_9, gf_84_10, gf_84_11, gf_84_12, gf_84_13, gf_84_14, gf_84_15, gf_84_16, gf_84_17, ok_84_17, gf_84_18, gf_84_19, ok_84_19, gf_84_20, ok_84_20, gf_84_21, gf_84_22, gf_84_23, gf_84_24, ok_84_24, gf_84_25, ok_84_25, gf_84_26, ok_84_26, gf_84_27, ok_84_27, gf_84_28, ok_84_28, gf_84_29, gf_84_30, al_101 (show 0 < 5 by decide), al_101 (show 1 < 5 by decide), al_101 (show 2 < 5 by decide), al_101 (show 3 < 5 by decide), al_101 (show 4 < 5 by decide), e0, e1, e2, e3, e4, ↓c146 oka_100 a5 (show ndA A < 8 by omega), ← hM6, ct_s, ct_n, ↓bI_01, bI_eq0, bI_eq1, nI_10, nI_01, dec_f, dec_t, if_n, eq_self, true_or, or_true, if_true, if_false, reduceIte]
                simp only [↓s206_108, ↓s206_109, ct_s, ct_n, ↓bI_01, bI_eq0, bI_eq1, nI_10, nI_01, dec_f, dec_t, if_n, eq_self, true_or, or_true, if_true, if_false, reduceIte]
                rfl
end RefDish
