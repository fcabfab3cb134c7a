/-! ===== calls that only ask ===== -/
theorem rng {x : Int32} {m : Nat} (hm : m < 2 ^ 31 - 1) (h : nI 0 ≤ x ∧ x ≤ nI m) : ∃ k, k ≤ m ∧ x = nI k := by
  obtain ⟨e, l⟩ := le_tn h.1
  refine ⟨tn x, ?_, e⟩
  have := h.2
  rw [e] at this
  exact (nI_leI l (by omega)).mp this
theorem rng_of {m k : Nat} (hm : m < 2 ^ 31) (h : k ≤ m) : nI 0 ≤ nI k ∧ nI k ≤ nI m := ⟨nI_le (by omega) (by omega), nI_le h hm⟩
theorem rngP {x : Int32} {m : Nat} (hm : m < 1000) (h : nI 0 ≤ x ∧ x ≤ nI m - nI 1) : ∃ k, k < m ∧ x = nI k := by
  cases m with
  | zero =>
    have h1 : nI 0 - nI 1 = -1 := by decide
    rw [h1] at h
    exact absurd (Int32.le_trans h.1 h.2) (by decide)
  | succ m =>
    rw [pk_sub (by omega), Nat.add_sub_cancel] at h
    obtain ⟨k, h1, h2⟩ := rng (by omega) h
    exact ⟨k, by omega, h2⟩
theorem rngP_of {m k : Nat} (hm : m < 1000) (h : k < m) : nI 0 ≤ nI k ∧ nI k ≤ nI m - nI 1 := by
  rw [pk_sub (by omega)]
  exact rng_of (by omega) (by omega)
section Ask
variable {M : ax_M} {N : ax_L} {x y z : Int32}
theorem p32 (hI : Inv M N) : RPi 113 213 [.ref 20, .int x] [.ref 84, .int x] M N := by
  obtain ⟨s0, s1, s2⟩ := hI.2.2.2.2.1
  by_cases hb : nI 0 ≤ x ∧ x ≤ nI 2
  · obtain ⟨k, k2, rfl⟩ := rng (by decide) hb
    refine ⟨M 88 k, M, N, M, N, fun S d n Q => ?_, fun S d n Q => ?_, hI⟩
    · rcases (show k = 0 ∨ k = 1 ∨ k = 2 by omega) with rfl | rfl | rfl
      · simp only [↓s113_0, ↓s113_1_0, ↓s113_1_1, ↓s113_1_2, ↓s113_28, ↓s113_29, ↓s113_32, ↓s113_33, ↓s113_34, ↓s113_37, ↓s113_38, ↓s113_39, ↓s113_42, ↓s113_43, ↓s113_44, ↓s113_46, ↓s113_47, ↓s113_50, jc_20, gf_20_0, gf_20_1, gf_20_2, gf_20_3, gf_20_4, gf_20_5, gf_20_6, gf_20_7, gf_20_8, gf_20_9, gf_20_10, gf_20_11, ok_20_11, gf_20_12, ok_20_12, gf_20_13, ok_20_13, gf_20_14, ok_20_14, gf_20_15, ok_20_15, s0, ct_s, ct_n, ↓bI_01, bI_eq0, bI_eq1, nI_10, nI_01, dec_f, dec_t, if_n, eq_self, true_or, or_true, if_true, if_false, reduceIte]
      · simp only [↓s113_0, ↓s113_1_0, ↓s113_1_1, ↓s113_1_2, ↓s113_28, ↓s113_29, ↓s113_32, ↓s113_33, ↓s113_34, ↓s113_37, ↓s113_38, ↓s113_39, ↓s113_42, ↓s113_43, ↓s113_44, ↓s113_46, ↓s113_47, ↓s113_50, jc_20, gf_20_0, gf_20_1, gf_20_2, gf_20_3, gf_20_4, gf_20_5, gf_20_6, gf_20_7, gf_20_8, gf_20_9, gf_20_10, gf_20_11, ok_20_11, gf_20_12, ok_20_12, gf_20_13, ok_20_13, gf_20_14, ok_20_14, gf_20_15, ok_20_15, s1, ct_s, ct_n, ↓bI_01, bI_eq0, bI_eq1, nI_10, nI_01, dec_f, dec_t, if_n, eq_self, true_or, or_true, if_true, if_false, reduceIte]
      · simp only [↓s113_0, ↓s113_1_0, ↓s113_1_1, ↓s113_1_2, ↓s113_28, ↓s113_29, ↓s113_32, ↓s113_33, ↓s113_34, ↓s113_37, ↓s113_38, ↓s113_39, ↓s113_42, ↓s113_43, ↓s113_44, ↓s113_46, ↓s113_47, ↓s113_50, jc_20, gf_20_0, gf_20_1, gf_20_2, gf_20_3, gf_20_4, gf_20_5, gf_20_6, gf_20_7, gf_20_8, gf_20_9, gf_20_10, gf_20_11, ok_20_11, gf_20_12, ok_20_12, gf_20_13, ok_20_13, gf_20_14, ok_20_14, gf_20_15, ok_20_15, s2, ct_s, ct_n, ↓bI_01, bI_eq0, bI_eq1, nI_10, nI_01, dec_f, dec_t, if_n, eq_self, true_or, or_true, if_true, if_false, reduceIte]
    · simp only [↓s213_0, ↓s213_1, ↓s213_2, ↓s213_3, ↓s213_6, ↓s213_9, ↓s213_12, ↓s213_13, ↓s213_16, ↓s213_17, ↓s213_18, ↓s213_21, ↓s213_22, ↓s213_23, ↓s213_26, jc_84, gf_84_0, gf_84_1, gf_84_2, gf_84_3, gf_84_4, ok_84_4, gf_84_5, ok_84_5, gf_84_6, ok_84_6, gf_84_7, ok_84_7, gf_84_8, ok_84_8, gf_84_9, ok_84_9, gf_84_10, gf_84_11, gf_84_12, gf_84_13, gf_84_14, gf_84_15, gf_84_16, gf_84_17, ok_84_17, gf_84_18, gf_84_19, ok_84_19, gf_84_20, ok_84_20, gf_84_21, gf_84_22, gf_84_23, gf_84_24, ok_84_24, gf_84_25, ok_84_25, gf_84_26, ok_84_26, gf_84_27, ok_84_27, gf_84_28, ok_84_28, gf_84_29, gf_84_30, ↓c135 (l := nI 0) (q := 0) (m := nI 2) (r := 2) rfl rfl, al_88 (show k < 3 by omega), ct_s, ct_n, ↓bI_01, bI_eq0, bI_eq1, nI_10, nI_01, dec_f, dec_t, if_n, eq_self, true_or, or_true, if_true, if_false, reduceIte]
      rw [if_pos hb]
  · refine ⟨-1, ux M 20 13 (M 20 13 + nI 1), N, rjM M 0, N, fun S d n Q => ?_, fun S d n Q => ?_, Inv_rj (by decide) hI⟩
    · have hx : x.toInt < 0 ∨ 2 < x.toInt := by
        rw [Int32.le_iff_toInt_le, Int32.le_iff_toInt_le, nI_toInt (by decide), nI_toInt (by decide)] at hb
        omega
      simp only [s113_0, s113_1_d hx]
      simp only [↓s113_43, ↓s113_44, ↓s113_46, ↓s113_47, ↓s113_50, ↓c116, refM_b, jc_20, ct_s, ct_n, ↓bI_01, bI_eq0, bI_eq1, nI_10, nI_01, dec_f, dec_t, if_n, eq_self, true_or, or_true, if_true, if_false, reduceIte]
    · simp only [↓s213_0, ↓s213_1, ↓s213_2, ↓s213_3, ↓s213_6, ↓s213_9, ↓s213_12, ↓s213_13, ↓s213_16, ↓s213_17, ↓s213_18, ↓s213_21, ↓s213_22, ↓s213_23, ↓s213_26, jc_84, gf_84_0, gf_84_1, gf_84_2, gf_84_3, gf_84_4, ok_84_4, gf_84_5, ok_84_5, gf_84_6, ok_84_6, gf_84_7, ok_84_7, gf_84_8, ok_84_8, gf_84_9, ok_84_9, gf_84_10, gf_84_11, gf_84_12, gf_84_13, gf_84_14, gf_84_15, gf_84_16, gf_84_17, ok_84_17, gf_84_18, gf_84_19, ok_84_19, gf_84_20, ok_84_20, gf_84_21, gf_84_22, gf_84_23, gf_84_24, ok_84_24, gf_84_25, ok_84_25, gf_84_26, ok_84_26, gf_84_27, ok_84_27, gf_84_28, ok_84_28, gf_84_29, gf_84_30, ↓c135 (l := nI 0) (q := 0) (m := nI 2) (r := 2) rfl rfl, ↓c136, ux88, ct_s, ct_n, ↓bI_01, bI_eq0, bI_eq1, nI_10, nI_01, dec_f, dec_t, if_n, eq_self, true_or, or_true, if_true, if_false, reduceIte]
      rw [if_neg hb]
      rfl
theorem p29 (hI : Inv M N) : RPl 110 210 [.ref 20, .int x] [.ref 84, .int x] M N := by
  obtain ⟨f0, f1⟩ := hI.2.2.2.2.2
  by_cases hb : nI 0 ≤ x ∧ x ≤ nI 1
  · obtain ⟨k, k2, rfl⟩ := rng (by decide) hb
    refine ⟨if k = 0 then N 84 4 else N 84 5, M, N, M, N, fun S d n Q => ?_, fun S d n Q => ?_, hI⟩
    · simp only [↓s110_0, ↓s110_1, ↓s110_2, ↓s110_3, ↓s110_6, ↓s110_9, ↓s110_10, ↓s110_12, ↓s110_14, ↓s110_17, ↓s110_18, ↓s110_19, ↓s110_20, ↓s110_23, ↓s110_24, ↓s110_27, ↓s110_30, ↓s110_31, ↓s110_34, jc_20, gf_20_0, gf_20_1, gf_20_2, gf_20_3, gf_20_4, gf_20_5, gf_20_6, gf_20_7, gf_20_8, gf_20_9, gf_20_10, gf_20_11, ok_20_11, gf_20_12, ok_20_12, gf_20_13, ok_20_13, gf_20_14, ok_20_14, gf_20_15, ok_20_15, ↓c121, f0, f1, ct_s, ct_n, ↓bI_01, bI_eq0, bI_eq1, nI_10, nI_01, dec_f, dec_t, if_n, eq_self, true_or, or_true, if_true, if_false, reduceIte]
      rw [if_pos hb]
      rcases (show k = 0 ∨ k = 1 by omega) with rfl | rfl
      · rw [if_pos rfl, if_pos rfl]
      · rw [if_neg (by decide), if_neg (by decide)]
    · simp only [↓s210_0, ↓s210_1, ↓s210_4, ↓s210_5, ↓s210_8, ↓s210_11, ↓s210_12, ↓s210_13, ↓s210_16, ↓s210_17, ↓s210_20, ↓s210_23, ↓s210_24, ↓s210_26, ↓s210_29, ↓s210_30, jc_84, gf_84_0, gf_84_1, gf_84_2, gf_84_3, gf_84_4, ok_84_4, gf_84_5, ok_84_5, gf_84_6, ok_84_6, gf_84_7, ok_84_7, gf_84_8, ok_84_8, gf_84_9, ok_84_9, gf_84_10, gf_84_11, gf_84_12, gf_84_13, gf_84_14, gf_84_15, gf_84_16, gf_84_17, ok_84_17, gf_84_18, gf_84_19, ok_84_19, gf_84_20, ok_84_20, gf_84_21, gf_84_22, gf_84_23, gf_84_24, ok_84_24, gf_84_25, ok_84_25, gf_84_26, ok_84_26, gf_84_27, ok_84_27, gf_84_28, ok_84_28, gf_84_29, gf_84_30, ct_s, ct_n, ↓bI_01, bI_eq0, bI_eq1, nI_10, nI_01, dec_f, dec_t, if_n, eq_self, true_or, or_true, if_true, if_false, reduceIte]
      rcases (show k = 0 ∨ k = 1 by omega) with rfl | rfl
      · rw [if_pos rfl, if_pos rfl]
      · rw [if_neg (by decide), if_pos rfl, if_neg (by decide)]
  · refine ⟨(-2 : Int32).toInt64, ux M 20 13 (M 20 13 + nI 1), N, rjM M 0, N, fun S d n Q => ?_, fun S d n Q => ?_, Inv_rj (by decide) hI⟩
    · simp only [↓s110_0, ↓s110_1, ↓s110_2, ↓s110_3, ↓s110_6, ↓s110_9, ↓s110_10, ↓s110_12, ↓s110_14, ↓s110_17, ↓s110_18, ↓s110_19, ↓s110_20, ↓s110_23, ↓s110_24, ↓s110_27, ↓s110_30, ↓s110_31, ↓s110_34, jc_20, gf_20_0, gf_20_1, gf_20_2, gf_20_3, gf_20_4, gf_20_5, gf_20_6, gf_20_7, gf_20_8, gf_20_9, gf_20_10, gf_20_11, ok_20_11, gf_20_12, ok_20_12, gf_20_13, ok_20_13, gf_20_14, ok_20_14, gf_20_15, ok_20_15, ↓c121, ↓c116, refM_b, ct_s, ct_n, ↓bI_01, bI_eq0, bI_eq1, nI_10, nI_01, dec_f, dec_t, if_n, eq_self, true_or, or_true, if_true, if_false, reduceIte]
      rw [if_neg hb]
    · simp only [↓s210_0, ↓s210_1, ↓s210_4, ↓s210_5, ↓s210_8, ↓s210_11, ↓s210_12, ↓s210_13, ↓s210_16, ↓s210_17, ↓s210_20, ↓s210_23, ↓s210_24, ↓s210_26, ↓s210_29, ↓s210_30, jc_84, gf_84_0, gf_84_1, gf_84_2, gf_84_3, gf_84_4, ok_84_4, gf_84_5, ok_84_5, gf_84_6, ok_84_6, gf_84_7, ok_84_7, gf_84_8, ok_84_8, gf_84_9, ok_84_9, gf_84_10, gf_84_11, gf_84_12, gf_84_13, gf_84_14, gf_84_15, gf_84_16, gf_84_17, ok_84_17, gf_84_18, gf_84_19, ok_84_19, gf_84_20, ok_84_20, gf_84_21, gf_84_22, gf_84_23, gf_84_24, ok_84_24, gf_84_25, ok_84_25, gf_84_26, ok_84_26, gf_84_27, ok_84_27, gf_84_28, ok_84_28, gf_84_29, gf_84_30, ↓c136, ux88, ct_s, ct_n, ↓bI_01, bI_eq0, bI_eq1, nI_10, nI_01, dec_f, dec_t, if_n, eq_self, true_or, or_true, if_true, if_false, reduceIte]
      rw [if_neg (fun e => hb (by rw [e]; decide)), if_neg (fun e => hb (by rw [e]; decide))]
      rfl
def cntV (M : ax_M) (k : Nat) : Int32 := if k = 0 then M 85 0 else if k = 1 then nI (huA (M 85) - ncA (M 85)) else if k = 2 then M 85 3 else if k = 3 then M 85 4 else if k = 4 then M 85 5 else M 84 24
theorem c117 {d n : Nat} {Q : Option Value → Nat → ax_H → Prop} {S : ax_S} (hI : Inv M N) {k : Nat} (hk : k ≤ 5) : ax_W (d + 1) 117 0 [.ref 20, .int (nI k)] [] n (hx S M N) Q = Q (some (.int (cntV M k))) n (hx S M N) := by
  obtain ⟨t, -, t2, t3, -⟩ := hI.2.2.2.1
  have hC := hI.1
  have hW := hI.2.1
  have h8 := hW.2.2.1.2
  have h67 : (67, 150, 1) ∈ rwt := by decide
  rcases (show k = 0 ∨ k = 1 ∨ k = 2 ∨ k = 3 ∨ k = 4 ∨ k = 5 by omega) with rfl | rfl | rfl | rfl | rfl | rfl
  · simp only [↓s117_0, ↓s117_1_0, ↓s117_1_1, ↓s117_1_2, ↓s117_1_3, ↓s117_1_4, ↓s117_36, ↓s117_37, ↓s117_40, ↓s117_43, ↓s117_46, ↓s117_47, ↓s117_48, ↓s117_51, ↓s117_52, ↓s117_55, ↓s117_58, ↓s117_61, ↓s117_64, ↓s117_65, ↓s117_66, ↓s117_69, ↓s117_72, ↓s117_75, ↓s117_76, ↓s117_77, ↓s117_80, ↓s117_83, ↓s117_86, ↓s117_87, ↓s117_88, ↓s117_91, ↓s117_94, ↓s117_97, ↓s117_98, ↓s117_99, ↓s117_102, ↓s117_105, jc_20, gf_20_0, gf_20_1, gf_20_2, gf_20_3, gf_20_4, gf_20_5, gf_20_6, gf_20_7, gf_20_8, gf_20_9, gf_20_10, gf_20_11, ok_20_11, gf_20_12, ok_20_12, gf_20_13, ok_20_13, gf_20_14, ok_20_14, gf_20_15, ok_20_15, jc_21, gf_21_0, gf_21_1, gf_21_2, gf_21_3, gf_21_4, gf_21_5, ok_21_5, gf_21_6, ok_21_6, jc_22, gf_22_0, gf_22_1, gf_22_2, gf_22_3, ok_22_3, ↓c53 h22, show M 22 3 = M 85 0 from hC.1, ct_s, ct_n, ↓bI_01, bI_eq0, bI_eq1, nI_10, nI_01, dec_f, dec_t, if_n, eq_self, true_or, or_true, if_true, if_false, reduceIte]
    rfl
  · simp only [↓s117_0, ↓s117_1_0, ↓s117_1_1, ↓s117_1_2, ↓s117_1_3, ↓s117_1_4, ↓s117_36, ↓s117_37, ↓s117_40, ↓s117_43, ↓s117_46, ↓s117_47, ↓s117_48, ↓s117_51, ↓s117_52, ↓s117_55, ↓s117_58, ↓s117_61, ↓s117_64, ↓s117_65, ↓s117_66, ↓s117_69, ↓s117_72, ↓s117_75, ↓s117_76, ↓s117_77, ↓s117_80, ↓s117_83, ↓s117_86, ↓s117_87, ↓s117_88, ↓s117_91, ↓s117_94, ↓s117_97, ↓s117_98, ↓s117_99, ↓s117_102, ↓s117_105, jc_20, gf_20_0, gf_20_1, gf_20_2, gf_20_3, gf_20_4, gf_20_5, gf_20_6, gf_20_7, gf_20_8, gf_20_9, gf_20_10, gf_20_11, ok_20_11, gf_20_12, ok_20_12, gf_20_13, ok_20_13, gf_20_14, ok_20_14, gf_20_15, ok_20_15, jc_21, gf_21_0, gf_21_1, gf_21_2, gf_21_3, gf_21_4, gf_21_5, ok_21_5, gf_21_6, ok_21_6, jc_26, gf_26_0, gf_26_1, gf_26_2, gf_26_3, ok_26_3, ↓c53 h26, (rc_nc hC hW).1, ↓c7 hC hW (show ncA (M 85) < 1000 by omega), ct_s, ct_n, ↓bI_01, bI_eq0, bI_eq1, nI_10, nI_01, dec_f, dec_t, if_n, eq_self, true_or, or_true, if_true, if_false, reduceIte]
    rfl
  · simp only [↓s117_0, ↓s117_1_0, ↓s117_1_1, ↓s117_1_2, ↓s117_1_3, ↓s117_1_4, ↓s117_36, ↓s117_37, ↓s117_40, ↓s117_43, ↓s117_46, ↓s117_47, ↓s117_48, ↓s117_51, ↓s117_52, ↓s117_55, ↓s117_58, ↓s117_61, ↓s117_64, ↓s117_65, ↓s117_66, ↓s117_69, ↓s117_72, ↓s117_75, ↓s117_76, ↓s117_77, ↓s117_80, ↓s117_83, ↓s117_86, ↓s117_87, ↓s117_88, ↓s117_91, ↓s117_94, ↓s117_97, ↓s117_98, ↓s117_99, ↓s117_102, ↓s117_105, jc_20, gf_20_0, gf_20_1, gf_20_2, gf_20_3, gf_20_4, gf_20_5, gf_20_6, gf_20_7, gf_20_8, gf_20_9, gf_20_10, gf_20_11, ok_20_11, gf_20_12, ok_20_12, gf_20_13, ok_20_13, gf_20_14, ok_20_14, gf_20_15, ok_20_15, jc_21, gf_21_0, gf_21_1, gf_21_2, gf_21_3, gf_21_4, gf_21_5, ok_21_5, gf_21_6, ok_21_6, jc_26, gf_26_0, gf_26_1, gf_26_2, gf_26_3, ok_26_3, ↓c53 h26, show M 26 3 = M 85 3 from hC.2.2.1, ct_s, ct_n, ↓bI_01, bI_eq0, bI_eq1, nI_10, nI_01, dec_f, dec_t, if_n, eq_self, true_or, or_true, if_true, if_false, reduceIte]
    rfl
  · simp only [↓s117_0, ↓s117_1_0, ↓s117_1_1, ↓s117_1_2, ↓s117_1_3, ↓s117_1_4, ↓s117_36, ↓s117_37, ↓s117_40, ↓s117_43, ↓s117_46, ↓s117_47, ↓s117_48, ↓s117_51, ↓s117_52, ↓s117_55, ↓s117_58, ↓s117_61, ↓s117_64, ↓s117_65, ↓s117_66, ↓s117_69, ↓s117_72, ↓s117_75, ↓s117_76, ↓s117_77, ↓s117_80, ↓s117_83, ↓s117_86, ↓s117_87, ↓s117_88, ↓s117_91, ↓s117_94, ↓s117_97, ↓s117_98, ↓s117_99, ↓s117_102, ↓s117_105, jc_20, gf_20_0, gf_20_1, gf_20_2, gf_20_3, gf_20_4, gf_20_5, gf_20_6, gf_20_7, gf_20_8, gf_20_9, gf_20_10, gf_20_11, ok_20_11, gf_20_12, ok_20_12, gf_20_13, ok_20_13, gf_20_14, ok_20_14, gf_20_15, ok_20_15, jc_21, gf_21_0, gf_21_1, gf_21_2, gf_21_3, gf_21_4, gf_21_5, ok_21_5, gf_21_6, ok_21_6, jc_28, gf_28_0, gf_28_1, gf_28_2, gf_28_3, ok_28_3, ↓c53 h28, show M 28 3 = M 85 4 from hC.2.2.2.1, ct_s, ct_n, ↓bI_01, bI_eq0, bI_eq1, nI_10, nI_01, dec_f, dec_t, if_n, eq_self, true_or, or_true, if_true, if_false, reduceIte]
    rfl
  · simp only [↓s117_0, ↓s117_1_0, ↓s117_1_1, ↓s117_1_2, ↓s117_1_3, ↓s117_1_4, ↓s117_36, ↓s117_37, ↓s117_40, ↓s117_43, ↓s117_46, ↓s117_47, ↓s117_48, ↓s117_51, ↓s117_52, ↓s117_55, ↓s117_58, ↓s117_61, ↓s117_64, ↓s117_65, ↓s117_66, ↓s117_69, ↓s117_72, ↓s117_75, ↓s117_76, ↓s117_77, ↓s117_80, ↓s117_83, ↓s117_86, ↓s117_87, ↓s117_88, ↓s117_91, ↓s117_94, ↓s117_97, ↓s117_98, ↓s117_99, ↓s117_102, ↓s117_105, jc_20, gf_20_0, gf_20_1, gf_20_2, gf_20_3, gf_20_4, gf_20_5, gf_20_6, gf_20_7, gf_20_8, gf_20_9, gf_20_10, gf_20_11, ok_20_11, gf_20_12, ok_20_12, gf_20_13, ok_20_13, gf_20_14, ok_20_14, gf_20_15, ok_20_15, jc_21, gf_21_0, gf_21_1, gf_21_2, gf_21_3, gf_21_4, gf_21_5, ok_21_5, gf_21_6, ok_21_6, jc_30, gf_30_0, gf_30_1, gf_30_2, gf_30_3, ok_30_3, ↓c53 h30, show M 30 3 = M 85 5 from hC.2.2.2.2.1, ct_s, ct_n, ↓bI_01, bI_eq0, bI_eq1, nI_10, nI_01, dec_f, dec_t, if_n, eq_self, true_or, or_true, if_true, if_false, reduceIte]
    rfl
  · rw [s117_0, s117_1_d (Or.inr (by decide))]
    simp only [↓s117_98, ↓s117_99, ↓s117_102, ↓s117_105, jc_20, gf_20_0, gf_20_1, gf_20_2, gf_20_3, gf_20_4, gf_20_5, gf_20_6, gf_20_7, gf_20_8, gf_20_9, gf_20_10, gf_20_11, ok_20_11, gf_20_12, ok_20_12, gf_20_13, ok_20_13, gf_20_14, ok_20_14, gf_20_15, ok_20_15, jc_67, gf_67_0, gf_67_1, gf_67_2, gf_67_3, ok_67_3, ↓c53 h67, t2.trans t3.symm, ct_s, ct_n, ↓bI_01, bI_eq0, bI_eq1, nI_10, nI_01, dec_f, dec_t, if_n, eq_self, true_or, or_true, if_true, if_false, reduceIte]
    rfl
/-- where counted leaves the reference -/
def cntM (M : ax_M) (k : Nat) : ax_M := if k = 1 then rvM M (nowA (M 85)) else M
theorem cntM_sc {k : Nat} : sc M (cntM M k) := by unfold cntM; split; exact sc_rv sc_rf; exact sc_rf
theorem c214c {d n : Nat} {Q : Option Value → Nat → ax_H → Prop} {S : ax_S} (hW : WF (M 85)) {k : Nat} (hk : k ≤ 5) : ax_W (d + 2) 214 0 [.ref 84, .int (nI k)] [] n (hx S M N) Q = Q (some (.int (cntV M k))) n (hx S (cntM M k) N) := by
  rcases (show k = 0 ∨ k = 1 ∨ k = 2 ∨ k = 3 ∨ k = 4 ∨ k = 5 by omega) with rfl | rfl | rfl | rfl | rfl | rfl
  · simp only [↓s214_0, ↓s214_1_0, ↓s214_1_1, ↓s214_1_2, ↓s214_1_3, ↓s214_1_4, ↓s214_36, ↓s214_37, ↓s214_40, ↓s214_41, ↓s214_42, ↓s214_45, ↓s214_46, ↓s214_49, ↓s214_50, ↓s214_51, ↓s214_54, ↓s214_55, ↓s214_56, ↓s214_57, ↓s214_58, ↓s214_61, ↓s214_62, ↓s214_63, ↓s214_64, ↓s214_65, ↓s214_68, ↓s214_69, ↓s214_70, ↓s214_71, ↓s214_72, ↓s214_75, jc_84, gf_84_0, gf_84_1, gf_84_2, gf_84_3, gf_84_4, ok_84_4, gf_84_5, ok_84_5, gf_84_6, ok_84_6, gf_84_7, ok_84_7, gf_84_8, ok_84_8, gf_84_9, ok_84_9, gf_84_10, gf_84_11, gf_84_12, gf_84_13, gf_84_14, gf_84_15, gf_84_16, gf_84_17, ok_84_17, gf_84_18, gf_84_19, ok_84_19, gf_84_20, ok_84_20, gf_84_21, gf_84_22, gf_84_23, gf_84_24, ok_84_24, gf_84_25, ok_84_25, gf_84_26, ok_84_26, gf_84_27, ok_84_27, gf_84_28, ok_84_28, gf_84_29, gf_84_30, ↓c140, ct_s, ct_n, ↓bI_01, bI_eq0, bI_eq1, nI_10, nI_01, dec_f, dec_t, if_n, eq_self, true_or, or_true, if_true, if_false, reduceIte]
    rfl
  · simp only [↓s214_0, ↓s214_1_0, ↓s214_1_1, ↓s214_1_2, ↓s214_1_3, ↓s214_1_4, ↓s214_36, ↓s214_37, ↓s214_40, ↓s214_41, ↓s214_42, ↓s214_45, ↓s214_46, ↓s214_49, ↓s214_50, ↓s214_51, ↓s214_54, ↓s214_55, ↓s214_56, ↓s214_57, ↓s214_58, ↓s214_61, ↓s214_62, ↓s214_63, ↓s214_64, ↓s214_65, ↓s214_68, ↓s214_69, ↓s214_70, ↓s214_71, ↓s214_72, ↓s214_75, jc_84, gf_84_0, gf_84_1, gf_84_2, gf_84_3, gf_84_4, ok_84_4, gf_84_5, ok_84_5, gf_84_6, ok_84_6, gf_84_7, ok_84_7, gf_84_8, ok_84_8, gf_84_9, ok_84_9, gf_84_10, gf_84_11, gf_84_12, gf_84_13, gf_84_14, gf_84_15, gf_84_16, gf_84_17, ok_84_17, gf_84_18, gf_84_19, ok_84_19, gf_84_20, ok_84_20, gf_84_21, gf_84_22, gf_84_23, gf_84_24, ok_84_24, gf_84_25, ok_84_25, gf_84_26, ok_84_26, gf_84_27, ok_84_27, gf_84_28, ok_84_28, gf_84_29, gf_84_30, ↓c151 rfl hW, ↓c152 rfl hW, (nowA_ok hW).2.1, ct_s, ct_n, ↓bI_01, bI_eq0, bI_eq1, nI_10, nI_01, dec_f, dec_t, if_n, eq_self, true_or, or_true, if_true, if_false, reduceIte]
    rfl
  · simp only [↓s214_0, ↓s214_1_0, ↓s214_1_1, ↓s214_1_2, ↓s214_1_3, ↓s214_1_4, ↓s214_36, ↓s214_37, ↓s214_40, ↓s214_41, ↓s214_42, ↓s214_45, ↓s214_46, ↓s214_49, ↓s214_50, ↓s214_51, ↓s214_54, ↓s214_55, ↓s214_56, ↓s214_57, ↓s214_58, ↓s214_61, ↓s214_62, ↓s214_63, ↓s214_64, ↓s214_65, ↓s214_68, ↓s214_69, ↓s214_70, ↓s214_71, ↓s214_72, ↓s214_75, jc_84, gf_84_0, gf_84_1, gf_84_2, gf_84_3, gf_84_4, ok_84_4, gf_84_5, ok_84_5, gf_84_6, ok_84_6, gf_84_7, ok_84_7, gf_84_8, ok_84_8, gf_84_9, ok_84_9, gf_84_10, gf_84_11, gf_84_12, gf_84_13, gf_84_14, gf_84_15, gf_84_16, gf_84_17, ok_84_17, gf_84_18, gf_84_19, ok_84_19, gf_84_20, ok_84_20, gf_84_21, gf_84_22, gf_84_23, gf_84_24, ok_84_24, gf_84_25, ok_84_25, gf_84_26, ok_84_26, gf_84_27, ok_84_27, gf_84_28, ok_84_28, gf_84_29, gf_84_30, al_85 (show 3 < 181 by decide), ct_s, ct_n, ↓bI_01, bI_eq0, bI_eq1, nI_10, nI_01, dec_f, dec_t, if_n, eq_self, true_or, or_true, if_true, if_false, reduceIte]
    rfl
  · simp only [↓s214_0, ↓s214_1_0, ↓s214_1_1, ↓s214_1_2, ↓s214_1_3, ↓s214_1_4, ↓s214_36, ↓s214_37, ↓s214_40, ↓s214_41, ↓s214_42, ↓s214_45, ↓s214_46, ↓s214_49, ↓s214_50, ↓s214_51, ↓s214_54, ↓s214_55, ↓s214_56, ↓s214_57, ↓s214_58, ↓s214_61, ↓s214_62, ↓s214_63, ↓s214_64, ↓s214_65, ↓s214_68, ↓s214_69, ↓s214_70, ↓s214_71, ↓s214_72, ↓s214_75, jc_84, gf_84_0, gf_84_1, gf_84_2, gf_84_3, gf_84_4, ok_84_4, gf_84_5, ok_84_5, gf_84_6, ok_84_6, gf_84_7, ok_84_7, gf_84_8, ok_84_8, gf_84_9, ok_84_9, gf_84_10, gf_84_11, gf_84_12, gf_84_13, gf_84_14, gf_84_15, gf_84_16, gf_84_17, ok_84_17, gf_84_18, gf_84_19, ok_84_19, gf_84_20, ok_84_20, gf_84_21, gf_84_22, gf_84_23, gf_84_24, ok_84_24, gf_84_25, ok_84_25, gf_84_26, ok_84_26, gf_84_27, ok_84_27, gf_84_28, ok_84_28, gf_84_29, gf_84_30, al_85 (show 4 < 181 by decide), ct_s, ct_n, ↓bI_01, bI_eq0, bI_eq1, nI_10, nI_01, dec_f, dec_t, if_n, eq_self, true_or, or_true, if_true, if_false, reduceIte]
    rfl
  · simp only [↓s214_0, ↓s214_1_0, ↓s214_1_1, ↓s214_1_2, ↓s214_1_3, ↓s214_1_4, ↓s214_36, ↓s214_37, ↓s214_40, ↓s214_41, ↓s214_42, ↓s214_45, ↓s214_46, ↓s214_49, ↓s214_50, ↓s214_51, ↓s214_54, ↓s214_55, ↓s214_56, ↓s214_57, ↓s214_58, ↓s214_61, ↓s214_62, ↓s214_63, ↓s214_64, ↓s214_65, ↓s214_68, ↓s214_69, ↓s214_70, ↓s214_71, ↓s214_72, ↓s214_75, jc_84, gf_84_0, gf_84_1, gf_84_2, gf_84_3, gf_84_4, ok_84_4, gf_84_5, ok_84_5, gf_84_6, ok_84_6, gf_84_7, ok_84_7, gf_84_8, ok_84_8, gf_84_9, ok_84_9, gf_84_10, gf_84_11, gf_84_12, gf_84_13, gf_84_14, gf_84_15, gf_84_16, gf_84_17, ok_84_17, gf_84_18, gf_84_19, ok_84_19, gf_84_20, ok_84_20, gf_84_21, gf_84_22, gf_84_23, gf_84_24, ok_84_24, gf_84_25, ok_84_25, gf_84_26, ok_84_26, gf_84_27, ok_84_27, gf_84_28, ok_84_28, gf_84_29, gf_84_30, al_85 (show 5 < 181 by decide), ct_s, ct_n, ↓bI_01, bI_eq0, bI_eq1, nI_10, nI_01, dec_f, dec_t, if_n, eq_self, true_or, or_true, if_true, if_false, reduceIte]
    rfl
  · rw [s214_0, s214_1_d (Or.inr (by decide))]
    simp only [↓s214_71, ↓s214_72, ↓s214_75, jc_84, gf_84_0, gf_84_1, gf_84_2, gf_84_3, gf_84_4, ok_84_4, gf_84_5, ok_84_5, gf_84_6, ok_84_6, gf_84_7, ok_84_7, gf_84_8, ok_84_8, gf_84_9, ok_84_9, gf_84_10, gf_84_11, gf_84_12, gf_84_13, gf_84_14, gf_84_15, gf_84_16, gf_84_17, ok_84_17, gf_84_18, gf_84_19, ok_84_19, gf_84_20, ok_84_20, gf_84_21, gf_84_22, gf_84_23, gf_84_24, ok_84_24, gf_84_25, ok_84_25, gf_84_26, ok_84_26, gf_84_27, ok_84_27, gf_84_28, ok_84_28, gf_84_29, gf_84_30, ct_s, ct_n, ↓bI_01, bI_eq0, bI_eq1, nI_10, nI_01, dec_f, dec_t, if_n, eq_self, true_or, or_true, if_true, if_false, reduceIte]
    rfl
theorem p33 (hI : Inv M N) : RPi 114 215 [.ref 20, .int x] [.ref 84, .int x] M N := by
  by_cases hb : nI 0 ≤ x ∧ x ≤ nI 5
  · obtain ⟨k, k5, rfl⟩ := rng (by decide) hb
    refine ⟨cntV M k, M, N, cntM M k, N, fun S d n Q => ?_, fun S d n Q => ?_, Inv_sc cntM_sc hI⟩
    · simp only [↓s114_0, ↓s114_1, ↓s114_2, ↓s114_3, ↓s114_6, ↓s114_9, ↓s114_10, ↓s114_12, ↓s114_14, ↓s114_17, ↓s114_18, ↓s114_19, ↓s114_20, ↓s114_23, jc_20, gf_20_0, gf_20_1, gf_20_2, gf_20_3, gf_20_4, gf_20_5, gf_20_6, gf_20_7, gf_20_8, gf_20_9, gf_20_10, gf_20_11, ok_20_11, gf_20_12, ok_20_12, gf_20_13, ok_20_13, gf_20_14, ok_20_14, gf_20_15, ok_20_15, ↓c121, ↓c117 hI k5, ct_s, ct_n, ↓bI_01, bI_eq0, bI_eq1, nI_10, nI_01, dec_f, dec_t, if_n, eq_self, true_or, or_true, if_true, if_false, reduceIte]
      rw [if_pos hb]
    · simp only [↓s215_0, ↓s215_1, ↓s215_2, ↓s215_3, ↓s215_6, ↓s215_9, ↓s215_12, ↓s215_13, ↓s215_14, ↓s215_17, ↓s215_20, ↓s215_21, ↓s215_23, ↓s215_26, jc_84, gf_84_0, gf_84_1, gf_84_2, gf_84_3, gf_84_4, ok_84_4, gf_84_5, ok_84_5, gf_84_6, ok_84_6, gf_84_7, ok_84_7, gf_84_8, ok_84_8, gf_84_9, ok_84_9, gf_84_10, gf_84_11, gf_84_12, gf_84_13, gf_84_14, gf_84_15, gf_84_16, gf_84_17, ok_84_17, gf_84_18, gf_84_19, ok_84_19, gf_84_20, ok_84_20, gf_84_21, gf_84_22, gf_84_23, gf_84_24, ok_84_24, gf_84_25, ok_84_25, gf_84_26, ok_84_26, gf_84_27, ok_84_27, gf_84_28, ok_84_28, gf_84_29, gf_84_30, ↓c135 (l := nI 0) (q := 0) (m := nI 5) (r := 5) rfl rfl, ↓c214c hI.2.1 k5, ct_s, ct_n, ↓bI_01, bI_eq0, bI_eq1, nI_10, nI_01, dec_f, dec_t, if_n, eq_self, true_or, or_true, if_true, if_false, reduceIte]
      rw [if_pos hb]
  · refine ⟨-2, ux M 20 13 (M 20 13 + nI 1), N, rjM M 0, N, fun S d n Q => ?_, fun S d n Q => ?_, Inv_rj (by decide) hI⟩
    · simp only [↓s114_0, ↓s114_1, ↓s114_2, ↓s114_3, ↓s114_6, ↓s114_9, ↓s114_10, ↓s114_12, ↓s114_14, ↓s114_17, ↓s114_18, ↓s114_19, ↓s114_20, ↓s114_23, jc_20, gf_20_0, gf_20_1, gf_20_2, gf_20_3, gf_20_4, gf_20_5, gf_20_6, gf_20_7, gf_20_8, gf_20_9, gf_20_10, gf_20_11, ok_20_11, gf_20_12, ok_20_12, gf_20_13, ok_20_13, gf_20_14, ok_20_14, gf_20_15, ok_20_15, ↓c121, ↓c116, refM_b, ct_s, ct_n, ↓bI_01, bI_eq0, bI_eq1, nI_10, nI_01, dec_f, dec_t, if_n, eq_self, true_or, or_true, if_true, if_false, reduceIte]
      rw [if_neg hb]
    · simp only [↓s215_0, ↓s215_1, ↓s215_2, ↓s215_3, ↓s215_6, ↓s215_9, ↓s215_12, ↓s215_13, ↓s215_14, ↓s215_17, ↓s215_20, ↓s215_21, ↓s215_23, ↓s215_26, jc_84, gf_84_0, gf_84_1, gf_84_2, gf_84_3, gf_84_4, ok_84_4, gf_84_5, ok_84_5, gf_84_6, ok_84_6, gf_84_7, ok_84_7, gf_84_8, ok_84_8, gf_84_9, ok_84_9, gf_84_10, gf_84_11, gf_84_12, gf_84_13, gf_84_14, gf_84_15, gf_84_16, gf_84_17, ok_84_17, gf_84_18, gf_84_19, ok_84_19, gf_84_20, ok_84_20, gf_84_21, gf_84_22, gf_84_23, gf_84_24, ok_84_24, gf_84_25, ok_84_25, gf_84_26, ok_84_26, gf_84_27, ok_84_27, gf_84_28, ok_84_28, gf_84_29, gf_84_30, ↓c135 (l := nI 0) (q := 0) (m := nI 5) (r := 5) rfl rfl, ↓c136, ux88, ct_s, ct_n, ↓bI_01, bI_eq0, bI_eq1, nI_10, nI_01, dec_f, dec_t, if_n, eq_self, true_or, or_true, if_true, if_false, reduceIte]
      rw [if_neg hb]
      rfl
theorem p10 (hI : Inv M N) : RPi 91 164 [.ref 20, .int x, .int y] [.ref 84, .int x, .int y] M N := by
  have hC := hI.1
  have hW := hI.2.1
  have h8 := hW.2.2.1.2
  have a3 : M 85 3 = nI (ncA (M 85)) := hW.2.2.1.1
  by_cases hb : (nI 0 ≤ x ∧ x ≤ nI (ncA (M 85)) - nI 1) ∧ (nI 0 ≤ y ∧ y ≤ nI 2)
  · obtain ⟨k, k2, rfl⟩ := rngP (by omega) hb.1
    obtain ⟨w, w2, rfl⟩ := rng (by decide) hb.2
    refine ⟨M 85 (71 + 4 * k + w), M, N, M, N, fun S d n Q => ?_, fun S d n Q => ?_, hI⟩
    · simp only [↓s91_0, ↓s91_1, ↓s91_2, ↓s91_3, ↓s91_6, ↓s91_9, ↓s91_12, ↓s91_13, ↓s91_14, ↓s91_17, ↓s91_20, ↓s91_21, ↓s91_22, ↓s91_23, ↓s91_26, ↓s91_29, ↓s91_30, ↓s91_32, ↓s91_34, ↓s91_37, ↓s91_38, ↓s91_39, ↓s91_42, ↓s91_45, ↓s91_46, ↓s91_47, ↓s91_50, jc_20, gf_20_0, gf_20_1, gf_20_2, gf_20_3, gf_20_4, gf_20_5, gf_20_6, gf_20_7, gf_20_8, gf_20_9, gf_20_10, gf_20_11, ok_20_11, gf_20_12, ok_20_12, gf_20_13, ok_20_13, gf_20_14, ok_20_14, gf_20_15, ok_20_15, jc_21, gf_21_0, gf_21_1, gf_21_2, gf_21_3, gf_21_4, gf_21_5, ok_21_5, gf_21_6, ok_21_6, jc_26, gf_26_0, gf_26_1, gf_26_2, gf_26_3, ok_26_3, ↓c53 h26, (rc_nc hC hW).1, ↓c121, ↓c54 h26 (cap26 hC hW), rd_course hC hW k2 (show w < 4 by omega), ct_s, ct_n, ↓bI_01, bI_eq0, bI_eq1, nI_10, nI_01, dec_f, dec_t, if_n, eq_self, true_or, or_true, if_true, if_false, reduceIte]
      rw [if_pos hb.1, if_pos hb.2]
    · simp only [↓s164_0, ↓s164_1, ↓s164_2, ↓s164_3, ↓s164_4, ↓s164_7, ↓s164_8, ↓s164_9, ↓s164_10, ↓s164_11, ↓s164_12, ↓s164_15, ↓s164_18, ↓s164_19, ↓s164_20, ↓s164_21, ↓s164_24, ↓s164_27, ↓s164_30, ↓s164_31, ↓s164_34, ↓s164_36, ↓s164_37, ↓s164_38, ↓s164_39, ↓s164_40, ↓s164_41, ↓s164_42, ↓s164_43, ↓s164_46, ↓s164_47, ↓s164_49, ↓s164_52, jc_84, gf_84_0, gf_84_1, gf_84_2, gf_84_3, gf_84_4, ok_84_4, gf_84_5, ok_84_5, gf_84_6, ok_84_6, gf_84_7, ok_84_7, gf_84_8, ok_84_8, gf_84_9, ok_84_9, gf_84_10, gf_84_11, gf_84_12, gf_84_13, gf_84_14, gf_84_15, gf_84_16, gf_84_17, ok_84_17, gf_84_18, gf_84_19, ok_84_19, gf_84_20, ok_84_20, gf_84_21, gf_84_22, gf_84_23, gf_84_24, ok_84_24, gf_84_25, ok_84_25, gf_84_26, ok_84_26, gf_84_27, ok_84_27, gf_84_28, ok_84_28, gf_84_29, gf_84_30, al_85 (show 3 < 181 by decide), a3, ↓c135 (l := nI 0) (q := 0) (m := nI (ncA (M 85)) - nI 1) rfl rfl, ↓c135 (l := nI 0) (q := 0) (m := nI 2) (r := 2) rfl rfl, nI_add, pk_mul, al_85 (show 71 + 4 * k + w < 181 by omega), ct_s, ct_n, ↓bI_01, bI_eq0, bI_eq1, nI_10, nI_01, dec_f, dec_t, if_n, eq_self, true_or, or_true, if_true, if_false, reduceIte]
      rw [if_pos hb.1, if_pos hb.2]
  · refine ⟨-2, ux M 20 13 (M 20 13 + nI 1), N, rjM M 0, N, fun S d n Q => ?_, fun S d n Q => ?_, Inv_rj (by decide) hI⟩
    · simp only [↓s91_0, ↓s91_1, ↓s91_2, ↓s91_3, ↓s91_6, ↓s91_9, ↓s91_12, ↓s91_13, ↓s91_14, ↓s91_17, ↓s91_20, ↓s91_21, ↓s91_22, ↓s91_23, ↓s91_26, ↓s91_29, ↓s91_30, ↓s91_32, ↓s91_34, ↓s91_37, ↓s91_38, ↓s91_39, ↓s91_42, ↓s91_45, ↓s91_46, ↓s91_47, ↓s91_50, jc_20, gf_20_0, gf_20_1, gf_20_2, gf_20_3, gf_20_4, gf_20_5, gf_20_6, gf_20_7, gf_20_8, gf_20_9, gf_20_10, gf_20_11, ok_20_11, gf_20_12, ok_20_12, gf_20_13, ok_20_13, gf_20_14, ok_20_14, gf_20_15, ok_20_15, jc_21, gf_21_0, gf_21_1, gf_21_2, gf_21_3, gf_21_4, gf_21_5, ok_21_5, gf_21_6, ok_21_6, jc_26, gf_26_0, gf_26_1, gf_26_2, gf_26_3, ok_26_3, ↓c53 h26, (rc_nc hC hW).1, ↓c121, ↓c116, refM_b, ct_s, ct_n, ↓bI_01, bI_eq0, bI_eq1, nI_10, nI_01, dec_f, dec_t, if_n, eq_self, true_or, or_true, if_true, if_false, reduceIte]
      by_cases h1 : nI 0 ≤ x ∧ x ≤ nI (ncA (M 85)) - nI 1
      · rw [if_pos h1, if_neg (fun q => hb ⟨h1, q⟩)]
      · rw [if_neg h1]
    · have a3' : ux M 20 13 (M 20 13 + nI 1) 85 3 = nI (ncA (M 85)) := by rw [ux_a (by decide)]; exact a3
      simp only [↓s164_0, ↓s164_1, ↓s164_2, ↓s164_3, ↓s164_4, ↓s164_7, ↓s164_8, ↓s164_9, ↓s164_10, ↓s164_11, ↓s164_12, ↓s164_15, ↓s164_18, ↓s164_19, ↓s164_20, ↓s164_21, ↓s164_24, ↓s164_27, ↓s164_30, ↓s164_31, ↓s164_34, ↓s164_36, ↓s164_37, ↓s164_38, ↓s164_39, ↓s164_40, ↓s164_41, ↓s164_42, ↓s164_43, ↓s164_46, ↓s164_47, ↓s164_49, ↓s164_52, jc_84, gf_84_0, gf_84_1, gf_84_2, gf_84_3, gf_84_4, ok_84_4, gf_84_5, ok_84_5, gf_84_6, ok_84_6, gf_84_7, ok_84_7, gf_84_8, ok_84_8, gf_84_9, ok_84_9, gf_84_10, gf_84_11, gf_84_12, gf_84_13, gf_84_14, gf_84_15, gf_84_16, gf_84_17, ok_84_17, gf_84_18, gf_84_19, ok_84_19, gf_84_20, ok_84_20, gf_84_21, gf_84_22, gf_84_23, gf_84_24, ok_84_24, gf_84_25, ok_84_25, gf_84_26, ok_84_26, gf_84_27, ok_84_27, gf_84_28, ok_84_28, gf_84_29, gf_84_30, al_85 (show 3 < 181 by decide), a3', ↓c135 (l := nI 0) (q := 0) (m := nI (ncA (M 85)) - nI 1) rfl rfl, ↓c135 (l := nI 0) (q := 0) (m := nI 2) (r := 2) rfl rfl, ↓c136, ux88, ct_s, ct_n, ↓bI_01, bI_eq0, bI_eq1, nI_10, nI_01, dec_f, dec_t, if_n, eq_self, true_or, or_true, if_true, if_false, reduceIte]
      by_cases h1 : nI 0 ≤ x ∧ x ≤ nI (ncA (M 85)) - nI 1
      · rw [if_pos h1, if_neg (fun q => hb ⟨h1, q⟩)]
        rfl
      · rw [if_neg h1]
        rfl
theorem p9 (hI : Inv M N) : RPi 90 163 [.ref 20, .int x, .int y] [.ref 84, .int x, .int y] M N := by
  have hC := hI.1
  have hW := hI.2.1
  have n8 := hW.1.2
  have a0 : M 85 0 = nI (ndA (M 85)) := hW.1.1
  obtain ⟨v1, v2, v3⟩ := nowA_ok hW
  by_cases hb : (nI 0 ≤ x ∧ x ≤ nI (ndA (M 85)) - nI 1) ∧ (nI 0 ≤ y ∧ y ≤ nI 6)
  · obtain ⟨k, k2, rfl⟩ := rngP (by omega) hb.1
    obtain ⟨w, w6, rfl⟩ := rng (by decide) hb.2
    have hA2 : rvM M (nowA (M 85)) 85 = M 85 := rvM_85
    refine ⟨if w < 5 then M 85 (6 + 5 * k + w) else if w = 6 then nI (dsN (M 85) k (pop (nowA (M 85)).1) (nowA (M 85)).2.1) else bI (hasB (nowA (M 85)).1 k), M, N, rvM M (nowA (M 85)), N, fun S d n Q => ?_, fun S d n Q => ?_, Inv_sc (sc_rv sc_rf) hI⟩
    · simp only [↓s90_0, ↓s90_1, ↓s90_4, ↓s90_5, ↓s90_8, ↓s90_11, ↓s90_12, ↓s90_13, ↓s90_15, ↓s90_18, ↓s90_21, ↓s90_22, ↓s90_24, ↓s90_26, ↓s90_29, ↓s90_30, ↓s90_31, ↓s90_32, jc_20, gf_20_0, gf_20_1, gf_20_2, gf_20_3, gf_20_4, gf_20_5, gf_20_6, gf_20_7, gf_20_8, gf_20_9, gf_20_10, gf_20_11, ok_20_11, gf_20_12, ok_20_12, gf_20_13, ok_20_13, gf_20_14, ok_20_14, gf_20_15, ok_20_15, jc_21, gf_21_0, gf_21_1, gf_21_2, gf_21_3, gf_21_4, gf_21_5, ok_21_5, gf_21_6, ok_21_6, jc_22, gf_22_0, gf_22_1, gf_22_2, gf_22_3, ok_22_3, ↓c3 hC hW, ↓c121, ct_s, ct_n, ↓bI_01, bI_eq0, bI_eq1, nI_10, nI_01, dec_f, dec_t, if_n, eq_self, true_or, or_true, if_true, if_false, reduceIte]
      rw [if_pos hb.1, if_pos hb.2]
      by_cases e5 : w = 5
      · subst e5
        rw [if_pos rfl, if_neg (by decide), if_neg (by decide)]
        simp only [↓s90_35, ↓s90_36, ↓s90_39, ↓s90_42, ↓s90_43, ↓s90_46, ↓s90_49, ↓s90_50, ↓s90_53, ↓s90_54, jc_20, gf_20_0, gf_20_1, gf_20_2, gf_20_3, gf_20_4, gf_20_5, gf_20_6, gf_20_7, gf_20_8, gf_20_9, gf_20_10, gf_20_11, ok_20_11, gf_20_12, ok_20_12, gf_20_13, ok_20_13, gf_20_14, ok_20_14, gf_20_15, ok_20_15, jc_21, gf_21_0, gf_21_1, gf_21_2, gf_21_3, gf_21_4, gf_21_5, ok_21_5, gf_21_6, ok_21_6, ↓c5 hC hW, ↓c129, bt_has _ v1 _ (show k < 8 by omega), ct_s, ct_n, ↓bI_01, bI_eq0, bI_eq1, nI_10, nI_01, dec_f, dec_t, if_n, eq_self, true_or, or_true, if_true, if_false, reduceIte]
        cases hasB (nowA (M 85)).1 k <;> rfl
      · rw [if_neg (fun q => e5 ((nI_eq (by omega) (by omega)).mp q))]
        simp only [↓s90_55, ↓s90_56, ↓s90_58]
        by_cases e6 : w = 6
        · subst e6
          rw [if_pos rfl, if_neg (by decide), if_pos rfl]
          simp only [↓s90_61, ↓s90_62, ↓s90_65, ↓s90_66, ↓s90_67, ↓s90_70, ↓s90_73, ↓s90_74, ↓s90_77, ↓s90_80, ↓s90_83, jc_20, gf_20_0, gf_20_1, gf_20_2, gf_20_3, gf_20_4, gf_20_5, gf_20_6, gf_20_7, gf_20_8, gf_20_9, gf_20_10, gf_20_11, ok_20_11, gf_20_12, ok_20_12, gf_20_13, ok_20_13, gf_20_14, ok_20_14, gf_20_15, ok_20_15, jc_21, gf_21_0, gf_21_1, gf_21_2, gf_21_3, gf_21_4, gf_21_5, ok_21_5, gf_21_6, ok_21_6, ↓c5 hC hW, ↓c6 hC hW, ↓c10 hC hW k2 v1 v3, ct_s, ct_n, ↓bI_01, bI_eq0, bI_eq1, nI_10, nI_01, dec_f, dec_t, if_n, eq_self, true_or, or_true, if_true, if_false, reduceIte]
        · rw [if_neg (fun q => e6 ((nI_eq (by omega) (by omega)).mp q)), if_pos (by omega)]
          simp only [↓s90_84, ↓s90_85, ↓s90_88, ↓s90_91, ↓s90_92, ↓s90_93, ↓s90_96, jc_20, gf_20_0, gf_20_1, gf_20_2, gf_20_3, gf_20_4, gf_20_5, gf_20_6, gf_20_7, gf_20_8, gf_20_9, gf_20_10, gf_20_11, ok_20_11, gf_20_12, ok_20_12, gf_20_13, ok_20_13, gf_20_14, ok_20_14, gf_20_15, ok_20_15, jc_21, gf_21_0, gf_21_1, gf_21_2, gf_21_3, gf_21_4, gf_21_5, ok_21_5, gf_21_6, ok_21_6, jc_22, gf_22_0, gf_22_1, gf_22_2, gf_22_3, ok_22_3, ↓c54 h22 (cap22 hC hW), rd_dish hC hW k2 (show w < 5 by omega), ct_s, ct_n, ↓bI_01, bI_eq0, bI_eq1, nI_10, nI_01, dec_f, dec_t, if_n, eq_self, true_or, or_true, if_true, if_false, reduceIte]
    · simp only [↓s163_0, ↓s163_1, ↓s163_2, ↓s163_5, ↓s163_8, ↓s163_9, ↓s163_10, ↓s163_11, ↓s163_14, ↓s163_17, ↓s163_20, ↓s163_21, ↓s163_23, ↓s163_26, ↓s163_27, ↓s163_28, ↓s163_31, ↓s163_32, ↓s163_33, jc_84, gf_84_0, gf_84_1, gf_84_2, gf_84_3, gf_84_4, ok_84_4, gf_84_5, ok_84_5, gf_84_6, ok_84_6, gf_84_7, ok_84_7, gf_84_8, ok_84_8, gf_84_9, ok_84_9, gf_84_10, gf_84_11, gf_84_12, gf_84_13, gf_84_14, gf_84_15, gf_84_16, gf_84_17, ok_84_17, gf_84_18, gf_84_19, ok_84_19, gf_84_20, ok_84_20, gf_84_21, gf_84_22, gf_84_23, gf_84_24, ok_84_24, gf_84_25, ok_84_25, gf_84_26, ok_84_26, gf_84_27, ok_84_27, gf_84_28, ok_84_28, gf_84_29, gf_84_30, ↓c141, a0, ↓c135 (l := nI 0) (q := 0) (m := nI 6) (r := 6) rfl rfl, ↓c151 rfl hW, ct_s, ct_n, ↓bI_01, bI_eq0, bI_eq1, nI_10, nI_01, dec_f, dec_t, if_n, eq_self, true_or, or_true, if_true, if_false, reduceIte]
      rw [if_pos hb.1, if_pos hb.2]
      by_cases e5 : w < 5
      · rw [if_neg (nI_ge e5 (by omega)), if_pos e5]
        simp only [↓s163_36, ↓s163_37, ↓s163_38, ↓s163_39, ↓s163_42, ↓s163_45, ↓s163_46, ↓s163_48, ↓s163_51, ↓s163_52, ↓s163_53, ↓s163_56, ↓s163_59, ↓s163_60, ↓s163_61, ↓s163_64, ↓s163_67, ↓s163_68, ↓s163_71, ↓s163_72, jc_84, gf_84_0, gf_84_1, gf_84_2, gf_84_3, gf_84_4, ok_84_4, gf_84_5, ok_84_5, gf_84_6, ok_84_6, gf_84_7, ok_84_7, gf_84_8, ok_84_8, gf_84_9, ok_84_9, gf_84_10, gf_84_11, gf_84_12, gf_84_13, gf_84_14, gf_84_15, gf_84_16, gf_84_17, ok_84_17, gf_84_18, gf_84_19, ok_84_19, gf_84_20, ok_84_20, gf_84_21, gf_84_22, gf_84_23, gf_84_24, ok_84_24, gf_84_25, ok_84_25, gf_84_26, ok_84_26, gf_84_27, ok_84_27, gf_84_28, ok_84_28, gf_84_29, gf_84_30, ↓c144 (show 6 + 5 * k + w < 181 by omega), rvM_85, ct_s, ct_n, ↓bI_01, bI_eq0, bI_eq1, nI_10, nI_01, dec_f, dec_t, if_n, eq_self, true_or, or_true, if_true, if_false, reduceIte]
      · rw [if_pos (nI_le (a := 5) (b := w) (by omega) (by omega)), if_neg e5]
        simp only [↓s163_45, ↓s163_46, ↓s163_48]
        by_cases e6 : w = 6
        · subst e6
          rw [if_pos rfl, if_pos rfl]
          simp only [↓s163_51, ↓s163_52, ↓s163_53, ↓s163_56, ↓s163_59, ↓s163_60, ↓s163_61, ↓s163_64, ↓s163_67, ↓s163_68, ↓s163_71, ↓s163_72, jc_84, gf_84_0, gf_84_1, gf_84_2, gf_84_3, gf_84_4, ok_84_4, gf_84_5, ok_84_5, gf_84_6, ok_84_6, gf_84_7, ok_84_7, gf_84_8, ok_84_8, gf_84_9, ok_84_9, gf_84_10, gf_84_11, gf_84_12, gf_84_13, gf_84_14, gf_84_15, gf_84_16, gf_84_17, ok_84_17, gf_84_18, gf_84_19, ok_84_19, gf_84_20, ok_84_20, gf_84_21, gf_84_22, gf_84_23, gf_84_24, ok_84_24, gf_84_25, ok_84_25, gf_84_26, ok_84_26, gf_84_27, ok_84_27, gf_84_28, ok_84_28, gf_84_29, gf_84_30, ↓c155 rfl hW k2 v3, ct_s, ct_n, ↓bI_01, bI_eq0, bI_eq1, nI_10, nI_01, dec_f, dec_t, if_n, eq_self, true_or, or_true, if_true, if_false, reduceIte]
        · rw [if_neg (fun q => e6 ((nI_eq (by omega) (by omega)).mp q)), if_neg e6]
          simp only [↓s163_59, ↓s163_60, ↓s163_61, ↓s163_64, ↓s163_67, ↓s163_68, ↓s163_71, ↓s163_72, jc_84, gf_84_0, gf_84_1, gf_84_2, gf_84_3, gf_84_4, ok_84_4, gf_84_5, ok_84_5, gf_84_6, ok_84_6, gf_84_7, ok_84_7, gf_84_8, ok_84_8, gf_84_9, ok_84_9, gf_84_10, gf_84_11, gf_84_12, gf_84_13, gf_84_14, gf_84_15, gf_84_16, gf_84_17, ok_84_17, gf_84_18, gf_84_19, ok_84_19, gf_84_20, ok_84_20, gf_84_21, gf_84_22, gf_84_23, gf_84_24, ok_84_24, gf_84_25, ok_84_25, gf_84_26, ok_84_26, gf_84_27, ok_84_27, gf_84_28, ok_84_28, gf_84_29, gf_84_30, ↓c157 (show k < 8 by omega) v1, ct_s, ct_n, ↓bI_01, bI_eq0, bI_eq1, nI_10, nI_01, dec_f, dec_t, if_n, eq_self, true_or, or_true, if_true, if_false, reduceIte]
          cases hasB (nowA (M 85)).1 k <;> rfl
  · refine ⟨-2, ux M 20 13 (M 20 13 + nI 1), N, rjM M 0, N, fun S d n Q => ?_, fun S d n Q => ?_, Inv_rj (by decide) hI⟩
    · simp only [↓s90_0, ↓s90_1, ↓s90_4, ↓s90_5, ↓s90_8, ↓s90_11, ↓s90_12, ↓s90_13, ↓s90_15, ↓s90_18, ↓s90_21, ↓s90_22, ↓s90_24, ↓s90_26, ↓s90_29, jc_20, gf_20_0, gf_20_1, gf_20_2, gf_20_3, gf_20_4, gf_20_5, gf_20_6, gf_20_7, gf_20_8, gf_20_9, gf_20_10, gf_20_11, ok_20_11, gf_20_12, ok_20_12, gf_20_13, ok_20_13, gf_20_14, ok_20_14, gf_20_15, ok_20_15, jc_21, gf_21_0, gf_21_1, gf_21_2, gf_21_3, gf_21_4, gf_21_5, ok_21_5, gf_21_6, ok_21_6, jc_22, gf_22_0, gf_22_1, gf_22_2, gf_22_3, ok_22_3, ↓c3 hC hW, ↓c121, ↓c116, refM_b, ct_s, ct_n, ↓bI_01, bI_eq0, bI_eq1, nI_10, nI_01, dec_f, dec_t, if_n, eq_self, true_or, or_true, if_true, if_false, reduceIte]
      by_cases h1 : nI 0 ≤ x ∧ x ≤ nI (ndA (M 85)) - nI 1
      · rw [if_pos h1, if_neg (fun q => hb ⟨h1, q⟩)]
      · rw [if_neg h1]
    · have a0' : ux M 20 13 (M 20 13 + nI 1) 85 0 = nI (ndA (M 85)) := by rw [ux_a (by decide)]; exact a0
      simp only [↓s163_0, ↓s163_1, ↓s163_2, ↓s163_5, ↓s163_8, ↓s163_9, ↓s163_10, ↓s163_11, ↓s163_14, ↓s163_17, ↓s163_20, ↓s163_21, ↓s163_23, ↓s163_26, jc_84, gf_84_0, gf_84_1, gf_84_2, gf_84_3, gf_84_4, ok_84_4, gf_84_5, ok_84_5, gf_84_6, ok_84_6, gf_84_7, ok_84_7, gf_84_8, ok_84_8, gf_84_9, ok_84_9, gf_84_10, gf_84_11, gf_84_12, gf_84_13, gf_84_14, gf_84_15, gf_84_16, gf_84_17, ok_84_17, gf_84_18, gf_84_19, ok_84_19, gf_84_20, ok_84_20, gf_84_21, gf_84_22, gf_84_23, gf_84_24, ok_84_24, gf_84_25, ok_84_25, gf_84_26, ok_84_26, gf_84_27, ok_84_27, gf_84_28, ok_84_28, gf_84_29, gf_84_30, ↓c141, a0', ↓c135 (l := nI 0) (q := 0) (m := nI 6) (r := 6) rfl rfl, ↓c136, ux88, ct_s, ct_n, ↓bI_01, bI_eq0, bI_eq1, nI_10, nI_01, dec_f, dec_t, if_n, eq_self, true_or, or_true, if_true, if_false, reduceIte]
      by_cases h1 : nI 0 ≤ x ∧ x ≤ nI (ndA (M 85)) - nI 1
      · rw [if_pos h1, if_neg (fun q => hb ⟨h1, q⟩)]
        rfl
      · rw [if_neg h1]
        rfl
end Ask
