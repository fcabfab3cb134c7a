/-! ===== play, first: answers alike ===== -/
section Play11
variable {M : ax_M} {N : ax_L} {x y : Int32}
theorem p17_bad (hI : Inv M N) (hb : ¬ ((nI 1 ≤ x ∧ x ≤ nI 5) ∧ (nI 0 ≤ y ∧ y ≤ nI 1))) : RPi 98 177 [.ref 20, .int x, .int y] [.ref 84, .int x, .int y] M N := by
  refine ⟨-1000, ux M 20 13 (M 20 13 + nI 1), N, rjM M 0, N, fun S d n Q => ?_, fun S d n Q => ?_, Inv_rj (by decide) hI⟩
  · simp only [↓s98_0, ↓s98_1, ↓s98_2, ↓s98_3, ↓s98_6, ↓s98_9, ↓s98_10, ↓s98_13, ↓s98_16, ↓s98_17, ↓s98_19, ↓s98_22, ↓s98_25, ↓c121, ↓c122, jc_20, ↓c116, refM_b, ct_s, ct_n, ↓bI_01, bI_eq0, bI_eq1, nI_10, nI_01, dec_f, dec_t, if_n, eq_self, true_or, or_true, if_true, if_false, reduceIte]
    by_cases h0 : nI 1 ≤ x ∧ x ≤ nI 5
    · rw [if_pos h0, if_neg (fun q => hb ⟨h0, q⟩)]
    · rw [if_neg h0]
  · have fin : rjM M 0 = ux (ux M 20 13 (M 20 13 + nI 1)) 88 0 (M 88 0 + nI 1) := rfl
    rw [fin]
    simp only [↓s177_0, ↓s177_1, ↓s177_2, ↓s177_3, ↓s177_6, ↓s177_9, ↓s177_12, ↓s177_13, ↓s177_16, ↓s177_28, ↓s177_29, ↓s177_32, ↓s177_35, ↓c135 (l := nI 1) (q := 1) (m := nI 5) (r := 5) rfl rfl, ↓c142, jc_84, ↓c136, ux88, ct_s, ct_n, ↓bI_01, bI_eq0, bI_eq1, nI_10, nI_01, dec_f, dec_t, if_n, eq_self, true_or, or_true, if_true, if_false, reduceIte]
    by_cases h0 : nI 1 ≤ x ∧ x ≤ nI 5
    · rw [if_pos h0, if_neg (fun q => hb ⟨h0, q⟩)]
    · rw [if_neg h0]
theorem p17 (hI : Inv M N) : RPi 98 177 [.ref 20, .int x, .int y] [.ref 84, .int x, .int y] M N := by
  have hC := hI.1
  have hW := hI.2.1
  by_cases h0 : nI 1 ≤ x ∧ x ≤ nI 5
  · by_cases h1 : nI 0 ≤ y ∧ y ≤ nI 1
    · obtain ⟨k, k5, rfl⟩ := rng (by decide) (show nI 0 ≤ x ∧ x ≤ nI 5 from ⟨Int32.le_trans (by decide) h0.1, h0.2⟩)
      have k1 : 1 ≤ k := (nI_leI (a := 1) (b := k) (by omega) (by omega)).mp h0.1
      obtain ⟨t, rfl⟩ : ∃ t, k = t + 1 := ⟨k - 1, by omega⟩
      obtain ⟨s, s1, rfl⟩ := rng (by decide) h1
      generalize hA : M 85 = A at *
      obtain ⟨v1, v2, v3⟩ := nowA_ok hW
      have t4 : t ≤ 4 := by omega
      have sc1 : sc M (plM M (pE A t s (nowA A).1 (nowA A).2.1)) := sc_ux (sc_ux sc_rf (by omega)) (by omega)
      have hC2 := RC_sc sc1 hC
      have hA1 : plM M (pE A t s (nowA A).1 (nowA A).2.1) 85 = A := (sc1.1 85 (by omega)).trans hA
      obtain ⟨M2, s2, f17, g2⟩ := c176 (N := N) (t := t) (s0 := s) hA1 hW t4 s1
      have eg := pE_g (s := s) hW t4 v1 v3
      have ev : iI (leA A) + tsI (nI s) (iI (pE A t s (nowA A).1 (nowA A).2.1).1) = iI (vV A (t + 1) s (nowA A)) := by
        rw [tsI_i s s1, iI_add, eg]
        rfl
      refine ⟨iI (vV A (t + 1) s (nowA A)), plM M (pE A t s (nowA A).1 (nowA A).2.1), N, M2, N, fun S d n Q => ?_, fun S d n Q => ?_, Inv_sc (sc_tr sc1 s2) hI⟩
      · simp only [↓s98_0, ↓s98_1, ↓s98_2, ↓s98_3, ↓s98_6, ↓s98_9, ↓s98_10, ↓s98_13, ↓c121, ↓c122, ct_s, ct_n, ↓bI_01, bI_eq0, bI_eq1, nI_10, nI_01, dec_f, dec_t, if_n, eq_self, true_or, or_true, if_true, if_false, reduceIte]
        rw [if_pos h0, if_pos h1]
        simp only [↓s98_26, ↓s98_27, ↓s98_30, ↓s98_31, ↓s98_32, ↓s98_35, ↓s98_36, ↓s98_39, ↓s98_42, ↓s98_43, ↓s98_44, ↓s98_47, ↓s98_50, ↓s98_53, ↓s98_54, ↓s35_0, ↓s35_1, ↓s35_4, jc_20, gf_20_0, gf_20_1, gf_20_2, gf_20_3, gf_20_4, gf_20_5, gf_20_6, gf_20_7, gf_20_8, gf_20_9, gf_20_10, gf_20_11, ok_20_11, gf_20_12, ok_20_12, gf_20_13, ok_20_13, gf_20_14, ok_20_14, gf_20_15, ok_20_15, jc_21, gf_21_0, gf_21_1, gf_21_2, gf_21_3, gf_21_4, gf_21_5, ok_21_5, gf_21_6, ok_21_6, jc_77, gf_77_0, gf_77_1, ok_77_1, gf_77_2, ok_77_2, ↓c37 hC hW t4 s1, rc_le hC2, pl_1, ↓c128, ev, ct_s, ct_n, ↓bI_01, bI_eq0, bI_eq1, nI_10, nI_01, dec_f, dec_t, if_n, eq_self, true_or, or_true, if_true, if_false, reduceIte]
      · simp only [↓s177_0, ↓s177_1, ↓s177_2, ↓s177_3, ↓s177_6, ↓s177_9, ↓s177_12, ↓s177_13, ↓s177_16, ↓c135 (l := nI 1) (q := 1) (m := nI 5) (r := 5) rfl rfl, ↓c142, ct_s, ct_n, ↓bI_01, bI_eq0, bI_eq1, nI_10, nI_01, dec_f, dec_t, if_n, eq_self, true_or, or_true, if_true, if_false, reduceIte]
        rw [if_pos h0, if_pos h1]
        simp only [↓s177_19, ↓s177_20, ↓s177_21, ↓s177_22, ↓s177_25, ↓s177_28, ↓s177_29, ↓s177_32, ↓s177_35, jc_84, gf_84_0, gf_84_1, gf_84_2, gf_84_3, gf_84_4, ok_84_4, gf_84_5, ok_84_5, gf_84_6, ok_84_6, gf_84_7, ok_84_7, gf_84_8, ok_84_8, gf_84_9, ok_84_9, gf_84_10, gf_84_11, gf_84_12, gf_84_13, gf_84_14, gf_84_15, gf_84_16, gf_84_17, ok_84_17, gf_84_18, gf_84_19, ok_84_19, gf_84_20, ok_84_20, gf_84_21, gf_84_22, gf_84_23, gf_84_24, ok_84_24, gf_84_25, ok_84_25, gf_84_26, ok_84_26, gf_84_27, ok_84_27, gf_84_28, ok_84_28, gf_84_29, gf_84_30, ↓g2, ct_s, ct_n, ↓bI_01, bI_eq0, bI_eq1, nI_10, nI_01, dec_f, dec_t, if_n, eq_self, true_or, or_true, if_true, if_false, reduceIte]
    · exact p17_bad hI (fun q => h1 q.2)
  · exact p17_bad hI (fun q => h0 q.1)
theorem p18_bad (hI : Inv M N) (hb : ¬ ((nI 1 ≤ x ∧ x ≤ nI 5) ∧ (nI 0 ≤ y ∧ y ≤ nI 1))) : RPi 99 178 [.ref 20, .int x, .int y] [.ref 84, .int x, .int y, ax_dm] M N := by
  refine ⟨-2, ux M 20 13 (M 20 13 + nI 1), N, rjM M 0, N, fun S d n Q => ?_, fun S d n Q => ?_, Inv_rj (by decide) hI⟩
  · simp only [↓s99_0, ↓s99_1, ↓s99_2, ↓s99_3, ↓s99_6, ↓s99_9, ↓s99_10, ↓s99_13, ↓s99_16, ↓s99_17, ↓s99_19, ↓s99_21, ↓s99_24, ↓s99_25, ↓c121, ↓c122, jc_20, ↓c116, refM_b, ct_s, ct_n, ↓bI_01, bI_eq0, bI_eq1, nI_10, nI_01, dec_f, dec_t, if_n, eq_self, true_or, or_true, if_true, if_false, reduceIte]
    by_cases h0 : nI 1 ≤ x ∧ x ≤ nI 5
    · rw [if_pos h0, if_neg (fun q => hb ⟨h0, q⟩)]
    · rw [if_neg h0]
  · have fin : rjM M 0 = ux (ux M 20 13 (M 20 13 + nI 1)) 88 0 (M 88 0 + nI 1) := rfl
    rw [fin]
    simp only [↓s178_0, ↓s178_1, ↓s178_2, ↓s178_3, ↓s178_6, ↓s178_9, ↓s178_12, ↓s178_13, ↓s178_16, ↓s178_19, ↓s178_20, ↓s178_22, ↓s178_25, ↓c135 (l := nI 1) (q := 1) (m := nI 5) (r := 5) rfl rfl, ↓c142, jc_84, ↓c136, ux88, ct_s, ct_n, ↓bI_01, bI_eq0, bI_eq1, nI_10, nI_01, dec_f, dec_t, if_n, eq_self, true_or, or_true, if_true, if_false, reduceIte]
    by_cases h0 : nI 1 ≤ x ∧ x ≤ nI 5
    · rw [if_pos h0, if_neg (fun q => hb ⟨h0, q⟩)]
    · rw [if_neg h0]
theorem p18 (hI : Inv M N) : RPi 99 178 [.ref 20, .int x, .int y] [.ref 84, .int x, .int y, ax_dm] M N := by
  have hC := hI.1
  have hW := hI.2.1
  by_cases h0 : nI 1 ≤ x ∧ x ≤ nI 5
  · by_cases h1 : nI 0 ≤ y ∧ y ≤ nI 1
    · obtain ⟨k, k5, rfl⟩ := rng (by decide) (show nI 0 ≤ x ∧ x ≤ nI 5 from ⟨Int32.le_trans (by decide) h0.1, h0.2⟩)
      have k1 : 1 ≤ k := (nI_leI (a := 1) (b := k) (by omega) (by omega)).mp h0.1
      obtain ⟨t, rfl⟩ : ∃ t, k = t + 1 := ⟨k - 1, by omega⟩
      obtain ⟨s, s1, rfl⟩ := rng (by decide) h1
      generalize hA : M 85 = A at *
      obtain ⟨v1, v2, v3⟩ := nowA_ok hW
      have t4 : t ≤ 4 := by omega
      have sc1 : sc M (plM M (pE A t s (nowA A).1 (nowA A).2.1)) := sc_ux (sc_ux sc_rf (by omega)) (by omega)
      have hC2 := RC_sc sc1 hC
      have hA1 : plM M (pE A t s (nowA A).1 (nowA A).2.1) 85 = A := (sc1.1 85 (by omega)).trans hA
      obtain ⟨M2, s2, f17, g2⟩ := c176 (N := N) (t := t) (s0 := s) hA1 hW t4 s1
      have eg := pE_g (s := s) hW t4 v1 v3
      refine ⟨nI (pE A t s (nowA A).1 (nowA A).2.1).2, plM M (pE A t s (nowA A).1 (nowA A).2.1), N, M2, N, fun S d n Q => ?_, fun S d n Q => ?_, Inv_sc (sc_tr sc1 s2) hI⟩
      · simp only [↓s99_0, ↓s99_1, ↓s99_2, ↓s99_3, ↓s99_6, ↓s99_9, ↓s99_10, ↓s99_13, ↓c121, ↓c122, ct_s, ct_n, ↓bI_01, bI_eq0, bI_eq1, nI_10, nI_01, dec_f, dec_t, if_n, eq_self, true_or, or_true, if_true, if_false, reduceIte]
        rw [if_pos h0, if_pos h1]
        simp only [↓s99_25, ↓s99_26, ↓s99_29, ↓s99_30, ↓s99_31, ↓s99_34, ↓s99_35, ↓s99_38, ↓s99_41, ↓s36_0, ↓s36_1, ↓s36_4, jc_20, gf_20_0, gf_20_1, gf_20_2, gf_20_3, gf_20_4, gf_20_5, gf_20_6, gf_20_7, gf_20_8, gf_20_9, gf_20_10, gf_20_11, ok_20_11, gf_20_12, ok_20_12, gf_20_13, ok_20_13, gf_20_14, ok_20_14, gf_20_15, ok_20_15, jc_77, gf_77_0, gf_77_1, ok_77_1, gf_77_2, ok_77_2, ↓c37 hC hW t4 s1, pl_2, ct_s, ct_n, ↓bI_01, bI_eq0, bI_eq1, nI_10, nI_01, dec_f, dec_t, if_n, eq_self, true_or, or_true, if_true, if_false, reduceIte]
      · simp only [↓s178_0, ↓s178_1, ↓s178_2, ↓s178_3, ↓s178_6, ↓s178_9, ↓s178_12, ↓s178_13, ↓s178_16, ↓c135 (l := nI 1) (q := 1) (m := nI 5) (r := 5) rfl rfl, ↓c142, ct_s, ct_n, ↓bI_01, bI_eq0, bI_eq1, nI_10, nI_01, dec_f, dec_t, if_n, eq_self, true_or, or_true, if_true, if_false, reduceIte]
        rw [if_pos h0, if_pos h1]
        simp only [↓s178_26, ↓s178_27, ↓s178_28, ↓s178_29, ↓s178_32, ↓s178_33, ↓s178_34, ↓s178_37, jc_84, gf_84_0, gf_84_1, gf_84_2, gf_84_3, gf_84_4, ok_84_4, gf_84_5, ok_84_5, gf_84_6, ok_84_6, gf_84_7, ok_84_7, gf_84_8, ok_84_8, gf_84_9, ok_84_9, gf_84_10, gf_84_11, gf_84_12, gf_84_13, gf_84_14, gf_84_15, gf_84_16, gf_84_17, ok_84_17, gf_84_18, gf_84_19, ok_84_19, gf_84_20, ok_84_20, gf_84_21, gf_84_22, gf_84_23, gf_84_24, ok_84_24, gf_84_25, ok_84_25, gf_84_26, ok_84_26, gf_84_27, ok_84_27, gf_84_28, ok_84_28, gf_84_29, gf_84_30, ↓g2, f17, ct_s, ct_n, ↓bI_01, bI_eq0, bI_eq1, nI_10, nI_01, dec_f, dec_t, if_n, eq_self, true_or, or_true, if_true, if_false, reduceIte]
    · exact p18_bad hI (fun q => h1 q.2)
  · exact p18_bad hI (fun q => h0 q.1)
end Play11
