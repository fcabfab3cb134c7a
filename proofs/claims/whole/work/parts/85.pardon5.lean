/-! ===== pardon: answers alike ===== -/
section Pardon6
variable {M : ax_M} {N : ax_L} {A : ax_A0} {x y : Int32} {b : bX}
def anP (y : Int32) : bX → Int32
  | none => -1
  | some b => if y = -1 then nI b.1 else if y < nI b.2.1 then nI (b.2.2 (tn y)) else -5
theorem p19_bad (hI : Inv M N) (hb : ¬ ((nI 0 ≤ x ∧ x ≤ nI 1) ∧ -1 ≤ y)) : RPi 100 182 [.ref 20, .int x, .int y] [.ref 84, .int x, .int y] M N := by
  refine ⟨-10, ux M 20 13 (M 20 13 + nI 1), N, rjM M 0, N, fun S d n Q => ?_, fun S d n Q => ?_, Inv_rj (by decide) hI⟩
  · simp only [↓s100_0, ↓s100_1, ↓s100_4, ↓s100_7, ↓s100_8, ↓s100_9, ↓s100_12, ↓s100_13, ↓s100_15, ↓s100_17, ↓s100_20, ↓c122, jc_20, ↓c116, refM_b, ct_s, ct_n, ↓bI_01, bI_eq0, bI_eq1, nI_10, nI_01, dec_f, dec_t, if_n, eq_self, true_or, or_true, if_true, if_false, reduceIte]
    by_cases h0 : nI 0 ≤ x ∧ x ≤ nI 1
    · rw [if_pos h0, if_neg (fun q => hb ⟨h0, q⟩)]
    · rw [if_neg h0]
  · have fin : rjM M 0 = ux (ux M 20 13 (M 20 13 + nI 1)) 88 0 (M 88 0 + nI 1) := rfl
    rw [fin]
    simp only [↓s182_0, ↓s182_1, ↓s182_4, ↓s182_7, ↓s182_8, ↓s182_9, ↓s182_12, ↓s182_13, ↓s182_15, ↓s182_18, ↓c142, jc_84, ↓c136, ux88, ct_s, ct_n, ↓bI_01, bI_eq0, bI_eq1, nI_10, nI_01, dec_f, dec_t, if_n, eq_self, true_or, or_true, if_true, if_false, reduceIte]
    by_cases h0 : nI 0 ≤ x ∧ x ≤ nI 1
    · rw [if_pos h0, if_neg (fun q => hb ⟨h0, q⟩)]
    · rw [if_neg h0]
theorem ge_m1 (h : -1 ≤ y) (hn : ¬ y = -1) : ∃ k, k < 2 ^ 31 ∧ y = nI k := by
  refine nI_of (fun q => hn ?_)
  have h1 := Int32.le_iff_toInt_le.mp h
  have h2 := Int32.lt_iff_toInt_lt.mp q
  have e1 : (-1 : Int32).toInt = -1 := by decide
  have e0 : (0 : Int32).toInt = 0 := by decide
  apply Int32.toInt_inj.mp
  rw [e1] at h1 ⊢
  rw [e0] at h2
  omega
theorem a100 (hb : bestC M b) (hy : -1 ≤ y) {d n : Nat} {S : ax_S} {Q : Option Value → Nat → ax_H → Prop} : ax_W (d + 5) 100 29 [.ref 20, .int x, .int y] [] n (hx S M N) Q = Q (some (.int (anP y b))) n (hx S M N) := by
  cases b with
  | none =>
    have e : M 78 3 = -1 := hb
    simp only [↓s100_29, ↓s100_30, ↓s100_31, ct_s, ct_n, ↓bI_01, bI_eq0, bI_eq1, nI_10, nI_01, dec_f, dec_t, if_n, eq_self, true_or, or_true, if_true, if_false, reduceIte]
    by_cases h : y = -1
    · rw [if_pos h]
      simp only [↓s100_45, ↓s100_46, ↓s100_49, ↓s100_52, ↓s28_0, ↓s28_1, ↓s28_4, jc_20, gf_20_0, gf_20_1, gf_20_2, gf_20_3, gf_20_4, gf_20_5, gf_20_6, gf_20_7, gf_20_8, gf_20_9, gf_20_10, gf_20_11, ok_20_11, gf_20_12, ok_20_12, gf_20_13, ok_20_13, gf_20_14, ok_20_14, gf_20_15, ok_20_15, jc_78, gf_78_0, gf_78_1, gf_78_2, gf_78_3, ok_78_3, e, ct_s, ct_n, ↓bI_01, bI_eq0, bI_eq1, nI_10, nI_01, dec_f, dec_t, if_n, eq_self, true_or, or_true, if_true, if_false, reduceIte]
      rfl
    · rw [if_neg h]
      simp only [↓s100_34, ↓s100_35, ↓s100_38, ↓s100_41, ↓s100_42, ↓s100_45, ↓s100_46, ↓s100_49, ↓s100_52, ↓s28_0, ↓s28_1, ↓s28_4, jc_20, gf_20_0, gf_20_1, gf_20_2, gf_20_3, gf_20_4, gf_20_5, gf_20_6, gf_20_7, gf_20_8, gf_20_9, gf_20_10, gf_20_11, ok_20_11, gf_20_12, ok_20_12, gf_20_13, ok_20_13, gf_20_14, ok_20_14, gf_20_15, ok_20_15, jc_78, gf_78_0, gf_78_1, gf_78_2, gf_78_3, ok_78_3, e, ct_s, ct_n, ↓bI_01, bI_eq0, bI_eq1, nI_10, nI_01, dec_f, dec_t, if_n, eq_self, true_or, or_true, if_true, if_false, reduceIte]
      rfl
  | some b =>
    obtain ⟨a1, a2, a3, a4, a5⟩ := hb
    simp only [↓s100_29, ↓s100_30, ↓s100_31, ct_s, ct_n, ↓bI_01, bI_eq0, bI_eq1, nI_10, nI_01, dec_f, dec_t, if_n, eq_self, true_or, or_true, if_true, if_false, reduceIte]
    rw [show anP y (some b) = if y = -1 then nI b.1 else if y < nI b.2.1 then nI (b.2.2 (tn y)) else -5 from rfl]
    by_cases h : y = -1
    · rw [if_pos h, if_pos h]
      simp only [↓s100_45, ↓s100_46, ↓s100_49, ↓s100_52, ↓s28_0, ↓s28_1, ↓s28_4, jc_20, gf_20_0, gf_20_1, gf_20_2, gf_20_3, gf_20_4, gf_20_5, gf_20_6, gf_20_7, gf_20_8, gf_20_9, gf_20_10, gf_20_11, ok_20_11, gf_20_12, ok_20_12, gf_20_13, ok_20_13, gf_20_14, ok_20_14, gf_20_15, ok_20_15, jc_78, gf_78_0, gf_78_1, gf_78_2, gf_78_3, ok_78_3, a1, ct_s, ct_n, ↓bI_01, bI_eq0, bI_eq1, nI_10, nI_01, dec_f, dec_t, if_n, eq_self, true_or, or_true, if_true, if_false, reduceIte]
    · rw [if_neg h, if_neg h]
      simp only [↓s100_34, ↓s100_35, ↓s100_38, ↓s100_41, ↓s100_42, ↓s28_0, ↓s28_1, ↓s28_4, jc_20, gf_20_0, gf_20_1, gf_20_2, gf_20_3, gf_20_4, gf_20_5, gf_20_6, gf_20_7, gf_20_8, gf_20_9, gf_20_10, gf_20_11, ok_20_11, gf_20_12, ok_20_12, gf_20_13, ok_20_13, gf_20_14, ok_20_14, gf_20_15, ok_20_15, jc_78, gf_78_0, gf_78_1, gf_78_2, gf_78_3, ok_78_3, a1, ct_s, ct_n, ↓bI_01, bI_eq0, bI_eq1, nI_10, nI_01, dec_f, dec_t, if_n, eq_self, true_or, or_true, if_true, if_false, reduceIte]
      rw [if_neg (nI_m1 (by omega))]
      simp only [↓s100_53, ↓s100_54, ↓s100_55, ↓s100_58, ↓s100_61, ↓s29_0, ↓s29_1, ↓s29_4, ↓s29_7, jc_20, gf_20_0, gf_20_1, gf_20_2, gf_20_3, gf_20_4, gf_20_5, gf_20_6, gf_20_7, gf_20_8, gf_20_9, gf_20_10, gf_20_11, ok_20_11, gf_20_12, ok_20_12, gf_20_13, ok_20_13, gf_20_14, ok_20_14, gf_20_15, ok_20_15, jc_78, gf_78_0, gf_78_1, gf_78_2, gf_78_3, ok_78_3, jc_81, gf_81_0, gf_81_1, gf_81_2, gf_81_3, ok_81_3, ↓c53 h81, a4, ct_s, ct_n, ↓bI_01, bI_eq0, bI_eq1, nI_10, nI_01, dec_f, dec_t, if_n, eq_self, true_or, or_true, if_true, if_false, reduceIte]
      obtain ⟨k, k1, rfl⟩ := ge_m1 hy h
      by_cases h2 : k < b.2.1
      · have cap : tn (M 81 3) ≤ 4 := cap_of a4 a3 (by omega)
        have rc := rcell_in (wi := 1) (c := 0) a4 (by omega) h2 (by omega) (by omega)
        rw [if_neg (nI_ge h2 (by omega)), if_pos (nI_lt h2 (by omega))]
        simp only [↓s100_64, ↓s100_65, ↓s100_68, ↓s100_69, ↓s100_72, ↓s100_75, ↓s100_77, ↓s30_0, ↓s30_1, ↓s30_4, ↓s30_5, ↓s30_6, ↓s30_9, jc_20, gf_20_0, gf_20_1, gf_20_2, gf_20_3, gf_20_4, gf_20_5, gf_20_6, gf_20_7, gf_20_8, gf_20_9, gf_20_10, gf_20_11, ok_20_11, gf_20_12, ok_20_12, gf_20_13, ok_20_13, gf_20_14, ok_20_14, gf_20_15, ok_20_15, jc_78, gf_78_0, gf_78_1, gf_78_2, gf_78_3, ok_78_3, jc_81, gf_81_0, gf_81_1, gf_81_2, gf_81_3, ok_81_3, ↓c54 h81 cap, rc, ct_s, ct_n, ↓bI_01, bI_eq0, bI_eq1, nI_10, nI_01, dec_f, dec_t, if_n, eq_self, true_or, or_true, if_true, if_false, reduceIte]
        rw [tn_nI k1, show k * 1 + 0 = k by omega]
        exact congrArg (fun z => Q (some (.int z)) n (hx S M N)) (a5 k h2)
      · rw [if_pos (nI_le (a := b.2.1) (b := k) (by omega) k1), if_neg (nI_nlt (a := k) (b := b.2.1) (by omega) k1)]
        simp only [↓s100_75, ↓s100_77, ct_s, ct_n, ↓bI_01, bI_eq0, bI_eq1, nI_10, nI_01, dec_f, dec_t, if_n, eq_self, true_or, or_true, if_true, if_false, reduceIte]
theorem a182 (hb : bestR M b) (hy : -1 ≤ y) {d n : Nat} {S : ax_S} {Q : Option Value → Nat → ax_H → Prop} : ax_W d 182 24 [.ref 84, .int x, .int y] [] n (hx S M N) Q = Q (some (.int (anP y b))) n (hx S M N) := by
  cases b with
  | none =>
    have e : M 84 19 = -1 := hb
    simp only [↓s182_24, ↓s182_25, ↓s182_28, ↓s182_29, ↓s182_32, ↓s182_33, ↓s182_67, jc_84, gf_84_0, gf_84_1, gf_84_2, gf_84_3, gf_84_4, ok_84_4, gf_84_5, ok_84_5, gf_84_6, ok_84_6, gf_84_7, ok_84_7, gf_84_8, ok_84_8, gf_84_9, ok_84_9, gf_84_10, gf_84_11, gf_84_12, gf_84_13, gf_84_14, gf_84_15, gf_84_16, gf_84_17, ok_84_17, gf_84_18, gf_84_19, ok_84_19, gf_84_20, ok_84_20, gf_84_21, gf_84_22, gf_84_23, gf_84_24, ok_84_24, gf_84_25, ok_84_25, gf_84_26, ok_84_26, gf_84_27, ok_84_27, gf_84_28, ok_84_28, gf_84_29, gf_84_30, e, ct_s, ct_n, ↓bI_01, bI_eq0, bI_eq1, nI_10, nI_01, dec_f, dec_t, if_n, eq_self, true_or, or_true, if_true, if_false, reduceIte]
    rfl
  | some b =>
    obtain ⟨a1, a2, a3, a4, a5⟩ := hb
    simp only [↓s182_24, ↓s182_25, ↓s182_28, ↓s182_29, jc_84, gf_84_0, gf_84_1, gf_84_2, gf_84_3, gf_84_4, ok_84_4, gf_84_5, ok_84_5, gf_84_6, ok_84_6, gf_84_7, ok_84_7, gf_84_8, ok_84_8, gf_84_9, ok_84_9, gf_84_10, gf_84_11, gf_84_12, gf_84_13, gf_84_14, gf_84_15, gf_84_16, gf_84_17, ok_84_17, gf_84_18, gf_84_19, ok_84_19, gf_84_20, ok_84_20, gf_84_21, gf_84_22, gf_84_23, gf_84_24, ok_84_24, gf_84_25, ok_84_25, gf_84_26, ok_84_26, gf_84_27, ok_84_27, gf_84_28, ok_84_28, gf_84_29, gf_84_30, a1, ct_s, ct_n, ↓bI_01, bI_eq0, bI_eq1, nI_10, nI_01, dec_f, dec_t, if_n, eq_self, true_or, or_true, if_true, if_false, reduceIte]
    rw [if_neg (nI_m1 (by omega))]
    simp only [↓s182_36, ↓s182_37, ↓s182_38, ct_s, ct_n, ↓bI_01, bI_eq0, bI_eq1, nI_10, nI_01, dec_f, dec_t, if_n, eq_self, true_or, or_true, if_true, if_false, reduceIte]
    rw [show anP y (some b) = if y = -1 then nI b.1 else if y < nI b.2.1 then nI (b.2.2 (tn y)) else -5 from rfl]
    by_cases h : y = -1
    · rw [if_pos h, if_pos h]
      simp only [↓s182_41, ↓s182_42, ↓s182_45, ↓s182_67, jc_84, gf_84_0, gf_84_1, gf_84_2, gf_84_3, gf_84_4, ok_84_4, gf_84_5, ok_84_5, gf_84_6, ok_84_6, gf_84_7, ok_84_7, gf_84_8, ok_84_8, gf_84_9, ok_84_9, gf_84_10, gf_84_11, gf_84_12, gf_84_13, gf_84_14, gf_84_15, gf_84_16, gf_84_17, ok_84_17, gf_84_18, gf_84_19, ok_84_19, gf_84_20, ok_84_20, gf_84_21, gf_84_22, gf_84_23, gf_84_24, ok_84_24, gf_84_25, ok_84_25, gf_84_26, ok_84_26, gf_84_27, ok_84_27, gf_84_28, ok_84_28, gf_84_29, gf_84_30, a2, ct_s, ct_n, ↓bI_01, bI_eq0, bI_eq1, nI_10, nI_01, dec_f, dec_t, if_n, eq_self, true_or, or_true, if_true, if_false, reduceIte]
    · rw [if_neg h, if_neg h]
      simp only [↓s182_48, ↓s182_49, ↓s182_50, ↓s182_53, jc_84, gf_84_0, gf_84_1, gf_84_2, gf_84_3, gf_84_4, ok_84_4, gf_84_5, ok_84_5, gf_84_6, ok_84_6, gf_84_7, ok_84_7, gf_84_8, ok_84_8, gf_84_9, ok_84_9, gf_84_10, gf_84_11, gf_84_12, gf_84_13, gf_84_14, gf_84_15, gf_84_16, gf_84_17, ok_84_17, gf_84_18, gf_84_19, ok_84_19, gf_84_20, ok_84_20, gf_84_21, gf_84_22, gf_84_23, gf_84_24, ok_84_24, gf_84_25, ok_84_25, gf_84_26, ok_84_26, gf_84_27, ok_84_27, gf_84_28, ok_84_28, gf_84_29, gf_84_30, a1, ct_s, ct_n, ↓bI_01, bI_eq0, bI_eq1, nI_10, nI_01, dec_f, dec_t, if_n, eq_self, true_or, or_true, if_true, if_false, reduceIte]
      obtain ⟨k, k1, rfl⟩ := ge_m1 hy h
      by_cases h2 : k < b.2.1
      · rw [if_neg (nI_ge h2 (by omega)), if_pos (nI_lt h2 (by omega))]
        simp only [↓s182_56, ↓s182_57, ↓s182_60, ↓s182_61, ↓s182_62, ↓s182_67, jc_84, gf_84_0, gf_84_1, gf_84_2, gf_84_3, gf_84_4, ok_84_4, gf_84_5, ok_84_5, gf_84_6, ok_84_6, gf_84_7, ok_84_7, gf_84_8, ok_84_8, gf_84_9, ok_84_9, gf_84_10, gf_84_11, gf_84_12, gf_84_13, gf_84_14, gf_84_15, gf_84_16, gf_84_17, ok_84_17, gf_84_18, gf_84_19, ok_84_19, gf_84_20, ok_84_20, gf_84_21, gf_84_22, gf_84_23, gf_84_24, ok_84_24, gf_84_25, ok_84_25, gf_84_26, ok_84_26, gf_84_27, ok_84_27, gf_84_28, ok_84_28, gf_84_29, gf_84_30, al_96 (show k < 4 by omega), a5 k h2, ct_s, ct_n, ↓bI_01, bI_eq0, bI_eq1, nI_10, nI_01, dec_f, dec_t, if_n, eq_self, true_or, or_true, if_true, if_false, reduceIte]
        rw [tn_nI k1]
      · rw [if_pos (nI_le (a := b.2.1) (b := k) (by omega) k1), if_neg (nI_nlt (a := k) (b := b.2.1) (by omega) k1)]
        simp only [↓s182_65, ↓s182_67, ct_s, ct_n, ↓bI_01, bI_eq0, bI_eq1, nI_10, nI_01, dec_f, dec_t, if_n, eq_self, true_or, or_true, if_true, if_false, reduceIte]
theorem p19 (hI : Inv M N) : RPi 100 182 [.ref 20, .int x, .int y] [.ref 84, .int x, .int y] M N := by
  have hC := hI.1
  have hW := hI.2.1
  by_cases h0 : nI 0 ≤ x ∧ x ≤ nI 1
  · by_cases h1 : -1 ≤ y
    · obtain ⟨s, s1, rfl⟩ := rng (by decide) h0
      generalize hA : M 85 = A at *
      obtain ⟨M1, ⟨f1, f2⟩, g1⟩ := c31 (N := N) hC hW s1
      have sc1 : sc M M1 := ⟨fun a ha => f2 a (by omega), by rw [f2 84 (by omega)]⟩
      obtain ⟨M2, ⟨k1, k2⟩, g2⟩ := c181 (N := N) ((f2 85 (by omega)).trans hA) hW s1
      refine ⟨anP y (sk A s), M1, N, M2, N, fun S d n Q => ?_, fun S d n Q => ?_, Inv_sc (sc_tr sc1 k1) hI⟩
      · simp only [↓s100_0, ↓s100_1, ↓c122, ct_s, ct_n, ↓bI_01, bI_eq0, bI_eq1, nI_10, nI_01, dec_f, dec_t, if_n, eq_self, true_or, or_true, if_true, if_false, reduceIte]
        simp only [↓s100_4, ↓s100_7, ↓s100_8, ↓s100_9, ct_s, ct_n, ↓bI_01, bI_eq0, bI_eq1, nI_10, nI_01, dec_f, dec_t, if_n, eq_self, true_or, or_true, if_true, if_false, reduceIte]
        rw [if_pos h0, if_pos h1]
        simp only [↓s100_21, ↓s100_22, ↓s100_25, ↓s100_26, jc_20, gf_20_0, gf_20_1, gf_20_2, gf_20_3, gf_20_4, gf_20_5, gf_20_6, gf_20_7, gf_20_8, gf_20_9, gf_20_10, gf_20_11, ok_20_11, gf_20_12, ok_20_12, gf_20_13, ok_20_13, gf_20_14, ok_20_14, gf_20_15, ok_20_15, jc_78, gf_78_0, gf_78_1, gf_78_2, gf_78_3, ok_78_3, ↓g1, ct_s, ct_n, ↓bI_01, bI_eq0, bI_eq1, nI_10, nI_01, dec_f, dec_t, if_n, eq_self, true_or, or_true, if_true, if_false, reduceIte]
        exact a100 (d := d + 895) f1 h1
      · simp only [↓s182_0, ↓s182_1, ↓c142, ct_s, ct_n, ↓bI_01, bI_eq0, bI_eq1, nI_10, nI_01, dec_f, dec_t, if_n, eq_self, true_or, or_true, if_true, if_false, reduceIte]
        simp only [↓s182_4, ↓s182_7, ↓s182_8, ↓s182_9, ct_s, ct_n, ↓bI_01, bI_eq0, bI_eq1, nI_10, nI_01, dec_f, dec_t, if_n, eq_self, true_or, or_true, if_true, if_false, reduceIte]
        rw [if_pos h0, if_pos h1]
        simp only [↓s182_19, ↓s182_20, ↓s182_21, jc_84, gf_84_0, gf_84_1, gf_84_2, gf_84_3, gf_84_4, ok_84_4, gf_84_5, ok_84_5, gf_84_6, ok_84_6, gf_84_7, ok_84_7, gf_84_8, ok_84_8, gf_84_9, ok_84_9, gf_84_10, gf_84_11, gf_84_12, gf_84_13, gf_84_14, gf_84_15, gf_84_16, gf_84_17, ok_84_17, gf_84_18, gf_84_19, ok_84_19, gf_84_20, ok_84_20, gf_84_21, gf_84_22, gf_84_23, gf_84_24, ok_84_24, gf_84_25, ok_84_25, gf_84_26, ok_84_26, gf_84_27, ok_84_27, gf_84_28, ok_84_28, gf_84_29, gf_84_30, ↓g2, ct_s, ct_n, ↓bI_01, bI_eq0, bI_eq1, nI_10, nI_01, dec_f, dec_t, if_n, eq_self, true_or, or_true, if_true, if_false, reduceIte]
        exact a182 k2 h1
    · exact p19_bad hI (fun q => h1 q.2)
  · exact p19_bad hI (fun q => h0 q.1)
end Pardon6
