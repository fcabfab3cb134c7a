/-! ===== cancel: the reference ===== -/
section Cancel2
variable {M M0 : ax_M} {N : ax_L} {A : ax_A0} {x : Int32}
theorem b184 (hA : M 85 = A) (hW : WF A) {i j : Nat} (hi : i < ndA A) (hj : j < ndA A) (hij : j ≠ i) {cnt : Nat} {ans : Int32} {y6 : Value} : ∃ (M2 : ax_M) (y : Value), sc M M2 ∧ ∀ (S : ax_S) (d n : Nat) (Q : Option Value → Nat → ax_H → Prop), ax_W (d + 6) 184 44 [.ref 84, .int x, .int (nI cnt), .int ans, .int (nI i), .int (nI j), y6] [] n (hx S M N) Q = ax_W (d + 6) 184 132 [.ref 84, .int x, .int (nI (stp A x i j (cnt, ans)).1), .int (stp A x i j (cnt, ans)).2, .int (nI i), .int (nI j), y] [] n (hx S M2 N) Q := by
  obtain ⟨v1, v2, v3⟩ := nowA_ok hW
  have n8 := hW.1.2
  have hA1 : ∀ v, rvM M v 85 = A := fun v => by rw [rvM_85]; exact hA
  have p8 := bt_pop8 (nowA A).1
  by_cases hs : (!hasB (nowA A).1 i && !hasB (nowA A).1 j) = true
  · have h1 : hasB (nowA A).1 i = false := by
      simp only [Bool.and_eq_true, Bool.not_eq_true'] at hs
      exact hs.1
    have h2 : hasB (nowA A).1 j = false := by
      simp only [Bool.and_eq_true, Bool.not_eq_true'] at hs
      exact hs.2
    have p7 := bt_pop2 _ v1 i (by omega) h1
    have pre : ∀ (S : ax_S) (d n : Nat) (Q : Option Value → Nat → ax_H → Prop), ax_W (d + 6) 184 44 [.ref 84, .int x, .int (nI cnt), .int ans, .int (nI i), .int (nI j), y6] [] n (hx S M N) Q = ax_W (d + 6) 184 87 [.ref 84, .int x, .int (nI cnt), .int ans, .int (nI i), .int (nI j), .int (nI 1)] [] n (hx S (rvM M (nowA A)) N) Q := by
      intro S d n Q
      simp only [↓s184_44, ↓s184_45, ↓s184_48, ↓s184_49, ↓s184_52, ↓s184_54, jc_84, gf_84_0, gf_84_1, gf_84_2, gf_84_3, gf_84_4, ok_84_4, gf_84_5, ok_84_5, gf_84_6, ok_84_6, gf_84_7, ok_84_7, gf_84_8, ok_84_8, gf_84_9, ok_84_9, gf_84_10, gf_84_11, gf_84_12, gf_84_13, gf_84_14, gf_84_15, gf_84_16, gf_84_17, ok_84_17, gf_84_18, gf_84_19, ok_84_19, gf_84_20, ok_84_20, gf_84_21, gf_84_22, gf_84_23, gf_84_24, ok_84_24, gf_84_25, ok_84_25, gf_84_26, ok_84_26, gf_84_27, ok_84_27, gf_84_28, ok_84_28, gf_84_29, gf_84_30, ↓c151 hA hW, rvM_8, ct_s, ct_n, ↓bI_01, bI_eq0, bI_eq1, nI_10, nI_01, dec_f, dec_t, if_n, eq_self, true_or, or_true, if_true, if_false, reduceIte]
      rw [if_neg (nI_ge (a := pop (nowA A).1) (b := 8) (by omega) (by omega))]
      simp only [↓s184_57, ↓s184_58, ↓s184_60, ↓s184_63, ↓s184_66, ↓s184_67, ↓s184_69, ↓s184_72, ↓s184_75, ↓s184_76, ↓s184_79, ↓s184_80, ↓s184_82, ↓s184_84, jc_84, gf_84_0, gf_84_1, gf_84_2, gf_84_3, gf_84_4, ok_84_4, gf_84_5, ok_84_5, gf_84_6, ok_84_6, gf_84_7, ok_84_7, gf_84_8, ok_84_8, gf_84_9, ok_84_9, gf_84_10, gf_84_11, gf_84_12, gf_84_13, gf_84_14, gf_84_15, gf_84_16, gf_84_17, ok_84_17, gf_84_18, gf_84_19, ok_84_19, gf_84_20, ok_84_20, gf_84_21, gf_84_22, gf_84_23, gf_84_24, ok_84_24, gf_84_25, ok_84_25, gf_84_26, ok_84_26, gf_84_27, ok_84_27, gf_84_28, ok_84_28, gf_84_29, gf_84_30, ↓c157 (show i < 8 by omega) v1, ↓c157 (show j < 8 by omega) v1, h1, h2, ct_s, ct_n, ↓bI_01, bI_eq0, bI_eq1, nI_10, nI_01, dec_f, dec_t, if_n, eq_self, true_or, or_true, if_true, if_false, reduceIte]
    cases k1 : stB A 0 i j with
    | false =>
      have hc : cnA A i j = false := by unfold cnA; rw [k1, Bool.and_false, Bool.false_and]
      refine ⟨_, .int (bI true), sc_rv (v := evS A (1 - 0) j (evS A 0 i (nowA A))) sc_rf, fun S d n Q => ?_⟩
      rw [pre, stp_f hc]
      simp only [↓s184_87, ↓s184_88, ↓s184_90, ↓s184_91, ↓s184_93, ↓s184_96, jc_84, gf_84_0, gf_84_1, gf_84_2, gf_84_3, gf_84_4, ok_84_4, gf_84_5, ok_84_5, gf_84_6, ok_84_6, gf_84_7, ok_84_7, gf_84_8, ok_84_8, gf_84_9, ok_84_9, gf_84_10, gf_84_11, gf_84_12, gf_84_13, gf_84_14, gf_84_15, gf_84_16, gf_84_17, ok_84_17, gf_84_18, gf_84_19, ok_84_19, gf_84_20, ok_84_20, gf_84_21, gf_84_22, gf_84_23, gf_84_24, ok_84_24, gf_84_25, ok_84_25, gf_84_26, ok_84_26, gf_84_27, ok_84_27, gf_84_28, ok_84_28, gf_84_29, gf_84_30, ↓c183 (hA1 _) hW (s := 0) (by omega) hi hj hij h1 h2, k1, rvM_rvM, ct_s, ct_n, ↓bI_01, bI_eq0, bI_eq1, nI_10, nI_01, dec_f, dec_t, if_n, eq_self, true_or, or_true, if_true, if_false, reduceIte]
      rfl
    | true =>
      refine ⟨_, .int (bI true), sc_rv (v := evS A (1 - 1) i (evS A 1 j (nowA A))) sc_rf, fun S d n Q => ?_⟩
      rw [pre]
      simp only [↓s184_87, ↓s184_88, ↓s184_90, ↓s184_91, ↓s184_93, ↓s184_96, ↓s184_99, ↓s184_100, ↓s184_102, ↓s184_103, ↓s184_105, jc_84, gf_84_0, gf_84_1, gf_84_2, gf_84_3, gf_84_4, ok_84_4, gf_84_5, ok_84_5, gf_84_6, ok_84_6, gf_84_7, ok_84_7, gf_84_8, ok_84_8, gf_84_9, ok_84_9, gf_84_10, gf_84_11, gf_84_12, gf_84_13, gf_84_14, gf_84_15, gf_84_16, gf_84_17, ok_84_17, gf_84_18, gf_84_19, ok_84_19, gf_84_20, ok_84_20, gf_84_21, gf_84_22, gf_84_23, gf_84_24, ok_84_24, gf_84_25, ok_84_25, gf_84_26, ok_84_26, gf_84_27, ok_84_27, gf_84_28, ok_84_28, gf_84_29, gf_84_30, ↓c183 (hA1 _) hW (s := 0) (by omega) hi hj hij h1 h2, ↓c183 (hA1 _) hW (s := 1) (by omega) hj hi (Ne.symm hij) h2 h1, k1, rvM_rvM, ct_s, ct_n, ↓bI_01, bI_eq0, bI_eq1, nI_10, nI_01, dec_f, dec_t, if_n, eq_self, true_or, or_true, if_true, if_false, reduceIte, Bool.true_eq_false]
      cases k2 : stB A 1 j i with
      | false =>
        have hc : cnA A i j = false := by unfold cnA; rw [k2, Bool.and_false]
        rw [stp_f hc]
        simp only [↓s184_108, ct_s, ct_n, ↓bI_01, bI_eq0, bI_eq1, nI_10, nI_01, dec_f, dec_t, if_n, eq_self, true_or, or_true, if_true, if_false, reduceIte]
        rfl
      | true =>
        have hc : cnA A i j = true := by unfold cnA; rw [h1, h2, k1, k2]; rfl
        rw [stp_t hc]
        simp only [↓s184_108, ↓s184_111, ↓s184_112, ↓s184_113, ct_s, ct_n, ↓bI_01, bI_eq0, bI_eq1, nI_10, nI_01, dec_f, dec_t, if_n, eq_self, true_or, or_true, if_true, if_false, reduceIte, Bool.true_eq_false]
        by_cases e : nI cnt = x
        · rw [if_pos e, if_pos (show nI (cnt, ans).1 = x from e)]
          simp only [↓s184_116, ↓s184_118, ↓s184_120, ↓s184_121, ↓s184_123, ↓s184_124, ↓s184_127, ↓s184_128, ↓s184_129, nI_add, pk_mul, ct_s, ct_n, ↓bI_01, bI_eq0, bI_eq1, nI_10, nI_01, dec_f, dec_t, if_n, eq_self, true_or, or_true, if_true, if_false, reduceIte]
          rfl
        · rw [if_neg e, if_neg (show ¬ nI (cnt, ans).1 = x from e)]
          simp only [↓s184_127, ↓s184_128, ↓s184_129, nI_add, ct_s, ct_n, ↓bI_01, bI_eq0, bI_eq1, nI_10, nI_01, dec_f, dec_t, if_n, eq_self, true_or, or_true, if_true, if_false, reduceIte]
          rfl
  · have hs : (!hasB (nowA A).1 i && !hasB (nowA A).1 j) = false := by simpa using hs
    have hc : cnA A i j = false := by unfold cnA; rw [hs, Bool.false_and, Bool.false_and]
    refine ⟨_, .int (bI false), sc_rv (v := nowA A) sc_rf, fun S d n Q => ?_⟩
    rw [stp_f hc]
    simp only [↓s184_44, ↓s184_45, ↓s184_48, ↓s184_49, ↓s184_52, ↓s184_54, jc_84, gf_84_0, gf_84_1, gf_84_2, gf_84_3, gf_84_4, ok_84_4, gf_84_5, ok_84_5, gf_84_6, ok_84_6, gf_84_7, ok_84_7, gf_84_8, ok_84_8, gf_84_9, ok_84_9, gf_84_10, gf_84_11, gf_84_12, gf_84_13, gf_84_14, gf_84_15, gf_84_16, gf_84_17, ok_84_17, gf_84_18, gf_84_19, ok_84_19, gf_84_20, ok_84_20, gf_84_21, gf_84_22, gf_84_23, gf_84_24, ok_84_24, gf_84_25, ok_84_25, gf_84_26, ok_84_26, gf_84_27, ok_84_27, gf_84_28, ok_84_28, gf_84_29, gf_84_30, ↓c151 hA hW, rvM_8, ct_s, ct_n, ↓bI_01, bI_eq0, bI_eq1, nI_10, nI_01, dec_f, dec_t, if_n, eq_self, true_or, or_true, if_true, if_false, reduceIte]
    by_cases e8 : 8 ≤ pop (nowA A).1
    · rw [if_pos (nI_le (a := 8) (b := pop (nowA A).1) (by omega) (by omega))]
      simp only [↓s184_79, ↓s184_80, ↓s184_82, ↓s184_84, ct_s, ct_n, ↓bI_01, bI_eq0, bI_eq1, nI_10, nI_01, dec_f, dec_t, if_n, eq_self, true_or, or_true, if_true, if_false, reduceIte]
      rfl
    · rw [if_neg (nI_ge (a := pop (nowA A).1) (b := 8) (by omega) (by omega))]
      simp only [↓s184_57, ↓s184_58, ↓s184_60, jc_84, gf_84_0, gf_84_1, gf_84_2, gf_84_3, gf_84_4, ok_84_4, gf_84_5, ok_84_5, gf_84_6, ok_84_6, gf_84_7, ok_84_7, gf_84_8, ok_84_8, gf_84_9, ok_84_9, gf_84_10, gf_84_11, gf_84_12, gf_84_13, gf_84_14, gf_84_15, gf_84_16, gf_84_17, ok_84_17, gf_84_18, gf_84_19, ok_84_19, gf_84_20, ok_84_20, gf_84_21, gf_84_22, gf_84_23, gf_84_24, ok_84_24, gf_84_25, ok_84_25, gf_84_26, ok_84_26, gf_84_27, ok_84_27, gf_84_28, ok_84_28, gf_84_29, gf_84_30, ↓c157 (show i < 8 by omega) v1, ct_s, ct_n, ↓bI_01, bI_eq0, bI_eq1, nI_10, nI_01, dec_f, dec_t, if_n, eq_self, true_or, or_true, if_true, if_false, reduceIte]
      cases h1 : hasB (nowA A).1 i with
      | true =>
        simp only [↓s184_63, ↓s184_79, ↓s184_80, ↓s184_82, ↓s184_84, ct_s, ct_n, ↓bI_01, bI_eq0, bI_eq1, nI_10, nI_01, dec_f, dec_t, if_n, eq_self, true_or, or_true, if_true, if_false, reduceIte, Bool.true_eq_false]
        rfl
      | false =>
        rw [h1, Bool.not_false, Bool.true_and] at hs
        have h2 : hasB (nowA A).1 j = true := by simpa using hs
        simp only [↓s184_63, ↓s184_66, ↓s184_67, ↓s184_69, ↓s184_72, ↓s184_75, ↓s184_76, ↓s184_79, ↓s184_80, ↓s184_82, ↓s184_84, jc_84, gf_84_0, gf_84_1, gf_84_2, gf_84_3, gf_84_4, ok_84_4, gf_84_5, ok_84_5, gf_84_6, ok_84_6, gf_84_7, ok_84_7, gf_84_8, ok_84_8, gf_84_9, ok_84_9, gf_84_10, gf_84_11, gf_84_12, gf_84_13, gf_84_14, gf_84_15, gf_84_16, gf_84_17, ok_84_17, gf_84_18, gf_84_19, ok_84_19, gf_84_20, ok_84_20, gf_84_21, gf_84_22, gf_84_23, gf_84_24, ok_84_24, gf_84_25, ok_84_25, gf_84_26, ok_84_26, gf_84_27, ok_84_27, gf_84_28, ok_84_28, gf_84_29, gf_84_30, ↓c157 (show j < 8 by omega) v1, h2, ct_s, ct_n, ↓bI_01, bI_eq0, bI_eq1, nI_10, nI_01, dec_f, dec_t, if_n, eq_self, true_or, or_true, if_true, if_false, reduceIte, Bool.true_eq_false]
        rfl
theorem l184i (hA0 : M0 85 = A) (hW : WF A) {i co : Nat} (hi : i < ndA A) (K : ∀ (p : Nat × Int32) (M : ax_M), sc M0 M → ∀ y5 y6, ∃ M2, sc M0 M2 ∧ ∀ (S : ax_S) (d n : Nat) (Q : Option Value → Nat → ax_H → Prop), ax_W (d + 6) 184 20 [.ref 84, .int x, .int (nI p.1), .int p.2, .int (nI (i + 1)), y5, y6] [] n (hx S M N) Q = Q (some (.int (fnC x (otn A x co (i + 1) p)))) n (hx S M2 N)) : ∀ (c j : Nat) (p : Nat × Int32) (M : ax_M), j + c = ndA A → i < j → sc M0 M → ∀ y6, ∃ M2, sc M0 M2 ∧ ∀ (S : ax_S) (d n : Nat) (Q : Option Value → Nat → ax_H → Prop), ax_W (d + 6) 184 35 [.ref 84, .int x, .int (nI p.1), .int p.2, .int (nI i), .int (nI j), y6] [] n (hx S M N) Q = Q (some (.int (fnC x (otn A x co (i + 1) (inn A x i c j p))))) n (hx S M2 N) := by
  have n8 := hW.1.2
  intro c
  induction c with
  | zero =>
    intro j p M hj hij hM y6
    have hA := (hM.1 85 (by omega)).trans hA0
    have a0 : M 85 0 = nI (ndA A) := by rw [hA]; exact hW.1.1
    obtain ⟨M2, h2, h3⟩ := K p M hM (.int (nI j)) y6
    refine ⟨M2, h2, fun S d n Q => ?_⟩
    simp only [↓s184_35, ↓s184_37, ↓s184_38, ↓s184_41, jc_84, gf_84_0, gf_84_1, gf_84_2, gf_84_3, gf_84_4, ok_84_4, gf_84_5, ok_84_5, gf_84_6, ok_84_6, gf_84_7, ok_84_7, gf_84_8, ok_84_8, gf_84_9, ok_84_9, gf_84_10, gf_84_11, gf_84_12, gf_84_13, gf_84_14, gf_84_15, gf_84_16, gf_84_17, ok_84_17, gf_84_18, gf_84_19, ok_84_19, gf_84_20, ok_84_20, gf_84_21, gf_84_22, gf_84_23, gf_84_24, ok_84_24, gf_84_25, ok_84_25, gf_84_26, ok_84_26, gf_84_27, ok_84_27, gf_84_28, ok_84_28, gf_84_29, gf_84_30, ↓c140, a0, ct_s, ct_n, ↓bI_01, bI_eq0, bI_eq1, nI_10, nI_01, dec_f, dec_t, if_n, eq_self, true_or, or_true, if_true, if_false, reduceIte]
    rw [if_pos (nI_le (a := ndA A) (b := j) (by omega) (by omega))]
    simp only [↓s184_138, ↓s184_141, nI_add, ct_s, ct_n, ↓bI_01, bI_eq0, bI_eq1, nI_10, nI_01, dec_f, dec_t, if_n, eq_self, true_or, or_true, if_true, if_false, reduceIte]
    exact h3 S d n Q
  | succ c ih =>
    intro j p M hj hij hM y6
    have hA := (hM.1 85 (by omega)).trans hA0
    have a0 : M 85 0 = nI (ndA A) := by rw [hA]; exact hW.1.1
    obtain ⟨M1, y, s1, g1⟩ := b184 (N := N) (x := x) (cnt := p.1) (ans := p.2) (y6 := y6) hA hW hi (show j < ndA A by omega) (show j ≠ i by omega)
    obtain ⟨M2, h2, h3⟩ := ih (j + 1) (stp A x i j p) M1 (by omega) (by omega) (sc_tr hM s1) y
    refine ⟨M2, h2, fun S d n Q => ?_⟩
    simp only [↓s184_35, ↓s184_37, ↓s184_38, ↓s184_41, jc_84, gf_84_0, gf_84_1, gf_84_2, gf_84_3, gf_84_4, ok_84_4, gf_84_5, ok_84_5, gf_84_6, ok_84_6, gf_84_7, ok_84_7, gf_84_8, ok_84_8, gf_84_9, ok_84_9, gf_84_10, gf_84_11, gf_84_12, gf_84_13, gf_84_14, gf_84_15, gf_84_16, gf_84_17, ok_84_17, gf_84_18, gf_84_19, ok_84_19, gf_84_20, ok_84_20, gf_84_21, gf_84_22, gf_84_23, gf_84_24, ok_84_24, gf_84_25, ok_84_25, gf_84_26, ok_84_26, gf_84_27, ok_84_27, gf_84_28, ok_84_28, gf_84_29, gf_84_30, ↓c140, a0, ct_s, ct_n, ↓bI_01, bI_eq0, bI_eq1, nI_10, nI_01, dec_f, dec_t, if_n, eq_self, true_or, or_true, if_true, if_false, reduceIte]
    rw [if_neg (nI_ge (a := j) (b := ndA A) (by omega) (by omega))]
    have g := g1 S d n Q
    refine g.trans ?_
    simp only [↓s184_132, ↓s184_135, nI_add, ct_s, ct_n, ↓bI_01, bI_eq0, bI_eq1, nI_10, nI_01, dec_f, dec_t, if_n, eq_self, true_or, or_true, if_true, if_false, reduceIte]
    exact h3 S d n Q
theorem l184 (hA0 : M0 85 = A) (hW : WF A) : ∀ (c i : Nat), i + c = ndA A → ∀ (p : Nat × Int32) (M : ax_M), sc M0 M → ∀ y5 y6, ∃ M2, sc M0 M2 ∧ ∀ (S : ax_S) (d n : Nat) (Q : Option Value → Nat → ax_H → Prop), ax_W (d + 6) 184 20 [.ref 84, .int x, .int (nI p.1), .int p.2, .int (nI i), y5, y6] [] n (hx S M N) Q = Q (some (.int (fnC x (otn A x c i p)))) n (hx S M2 N) := by
  have n8 := hW.1.2
  intro c
  induction c with
  | zero =>
    intro i hi p M hM y5 y6
    have hA := (hM.1 85 (by omega)).trans hA0
    have a0 : M 85 0 = nI (ndA A) := by rw [hA]; exact hW.1.1
    refine ⟨M, hM, fun S d n Q => ?_⟩
    simp only [↓s184_20, ↓s184_22, ↓s184_23, ↓s184_26, jc_84, gf_84_0, gf_84_1, gf_84_2, gf_84_3, gf_84_4, ok_84_4, gf_84_5, ok_84_5, gf_84_6, ok_84_6, gf_84_7, ok_84_7, gf_84_8, ok_84_8, gf_84_9, ok_84_9, gf_84_10, gf_84_11, gf_84_12, gf_84_13, gf_84_14, gf_84_15, gf_84_16, gf_84_17, ok_84_17, gf_84_18, gf_84_19, ok_84_19, gf_84_20, ok_84_20, gf_84_21, gf_84_22, gf_84_23, gf_84_24, ok_84_24, gf_84_25, ok_84_25, gf_84_26, ok_84_26, gf_84_27, ok_84_27, gf_84_28, ok_84_28, gf_84_29, gf_84_30, ↓c140, a0, ct_s, ct_n, ↓bI_01, bI_eq0, bI_eq1, nI_10, nI_01, dec_f, dec_t, if_n, eq_self, true_or, or_true, if_true, if_false, reduceIte]
    rw [if_pos (nI_le (a := ndA A) (b := i) (by omega) (by omega))]
    simp only [↓s184_144, ↓s184_145, ↓s184_146, ct_s, ct_n, ↓bI_01, bI_eq0, bI_eq1, nI_10, nI_01, dec_f, dec_t, if_n, eq_self, true_or, or_true, if_true, if_false, reduceIte]
    show _ = Q (some (.int (if x = -1 then nI p.1 else p.2))) n (hx S M N)
    by_cases e : x = -1
    · rw [if_pos e, if_pos e]
      simp only [↓s184_149, ↓s184_150, ↓s184_153, ↓s184_154, ct_s, ct_n, ↓bI_01, bI_eq0, bI_eq1, nI_10, nI_01, dec_f, dec_t, if_n, eq_self, true_or, or_true, if_true, if_false, reduceIte]
    · rw [if_neg e, if_neg e]
      simp only [↓s184_153, ↓s184_154, ct_s, ct_n, ↓bI_01, bI_eq0, bI_eq1, nI_10, nI_01, dec_f, dec_t, if_n, eq_self, true_or, or_true, if_true, if_false, reduceIte]
  | succ c ih =>
    intro i hi p M hM y5 y6
    have hA := (hM.1 85 (by omega)).trans hA0
    have a0 : M 85 0 = nI (ndA A) := by rw [hA]; exact hW.1.1
    obtain ⟨M2, h2, h3⟩ := l184i (N := N) (x := x) hA0 hW (i := i) (co := c) (by omega) (fun p M h2 y5 y6 => ih (i + 1) (by omega) p M h2 y5 y6) c (i + 1) p M (by omega) (by omega) hM y6
    refine ⟨M2, h2, fun S d n Q => ?_⟩
    simp only [↓s184_20, ↓s184_22, ↓s184_23, ↓s184_26, jc_84, gf_84_0, gf_84_1, gf_84_2, gf_84_3, gf_84_4, ok_84_4, gf_84_5, ok_84_5, gf_84_6, ok_84_6, gf_84_7, ok_84_7, gf_84_8, ok_84_8, gf_84_9, ok_84_9, gf_84_10, gf_84_11, gf_84_12, gf_84_13, gf_84_14, gf_84_15, gf_84_16, gf_84_17, ok_84_17, gf_84_18, gf_84_19, ok_84_19, gf_84_20, ok_84_20, gf_84_21, gf_84_22, gf_84_23, gf_84_24, ok_84_24, gf_84_25, ok_84_25, gf_84_26, ok_84_26, gf_84_27, ok_84_27, gf_84_28, ok_84_28, gf_84_29, gf_84_30, ↓c140, a0, ct_s, ct_n, ↓bI_01, bI_eq0, bI_eq1, nI_10, nI_01, dec_f, dec_t, if_n, eq_self, true_or, or_true, if_true, if_false, reduceIte]
    rw [if_neg (nI_ge (a := i) (b := ndA A) (by omega) (by omega))]
    simp only [↓s184_29, ↓s184_31, ↓s184_32, ↓s184_33, nI_add, ct_s, ct_n, ↓bI_01, bI_eq0, bI_eq1, nI_10, nI_01, dec_f, dec_t, if_n, eq_self, true_or, or_true, if_true, if_false, reduceIte]
    exact h3 S d n Q
theorem p20 (hI : Inv M N) : RPi 101 184 [.ref 20, .int x, ax_dm, ax_dm, ax_dm] [.ref 84, .int x, ax_dm, ax_dm, ax_dm, ax_dm, ax_dm] M N := by
  have hC := hI.1
  have hW := hI.2.1
  have n8 := hW.1.2
  by_cases h0 : -1 ≤ x
  · obtain ⟨M1, h1, g1⟩ := l101 (N := N) (x := x) hC hW (ndA (M 85)) 0 (by omega) 0 M (by omega) sc_rf ax_dm
    obtain ⟨M2, h2, g2⟩ := l184 (N := N) (x := x) (h1.1 85 (by omega)) hW (ndA (M 85)) 0 (by omega) (0, -5) M1 sc_rf ax_dm ax_dm
    refine ⟨fnC x (otn (M 85) x (ndA (M 85)) 0 (0, -5)), M1, N, M2, N, fun S d n Q => ?_, fun S d n Q => ?_, Inv_sc (sc_tr h1 h2) hI⟩
    · simp only [↓s101_0, ↓s101_1, ↓s101_2, ct_s, ct_n, ↓bI_01, bI_eq0, bI_eq1, nI_10, nI_01, dec_f, dec_t, if_n, eq_self, true_or, or_true, if_true, if_false, reduceIte]
      rw [if_pos h0]
      simp only [↓s101_14, ↓s101_15, ↓s101_16, ↓s101_17, ct_s, ct_n, ↓bI_01, bI_eq0, bI_eq1, nI_10, nI_01, dec_f, dec_t, if_n, eq_self, true_or, or_true, if_true, if_false, reduceIte]
      exact g1 S (d + 894) n Q
    · simp only [↓s184_0, ↓s184_1, ↓s184_2, ct_s, ct_n, ↓bI_01, bI_eq0, bI_eq1, nI_10, nI_01, dec_f, dec_t, if_n, eq_self, true_or, or_true, if_true, if_false, reduceIte]
      rw [if_pos h0]
      simp only [↓s184_12, ↓s184_13, ↓s184_14, ↓s184_16, ↓s184_17, ↓s184_18, ct_s, ct_n, ↓bI_01, bI_eq0, bI_eq1, nI_10, nI_01, dec_f, dec_t, if_n, eq_self, true_or, or_true, if_true, if_false, reduceIte]
      exact g2 S (d + 894) n Q
  · refine ⟨-10, ux M 20 13 (M 20 13 + nI 1), N, rjM M 0, N, fun S d n Q => ?_, fun S d n Q => ?_, Inv_rj (by decide) hI⟩
    · simp only [↓s101_0, ↓s101_1, ↓s101_2, ↓s101_5, ↓s101_6, ↓s101_8, ↓s101_10, ↓s101_13, jc_20, ↓c116, refM_b, ct_s, ct_n, ↓bI_01, bI_eq0, bI_eq1, nI_10, nI_01, dec_f, dec_t, if_n, eq_self, true_or, or_true, if_true, if_false, reduceIte]
      rw [if_neg h0]
    · simp only [↓s184_0, ↓s184_1, ↓s184_2, ↓s184_5, ↓s184_6, ↓s184_8, ↓s184_11, jc_84, ↓c136, ux88, ct_s, ct_n, ↓bI_01, bI_eq0, bI_eq1, nI_10, nI_01, dec_f, dec_t, if_n, eq_self, true_or, or_true, if_true, if_false, reduceIte]
      rw [if_neg h0]
      rfl
end Cancel2
