/-! ===== before, tells ===== -/
/-- how many of lo .. hi lie below z -/
def cN (lo hi z : Int) : Int := max 0 (min (hi + 1) z - lo)
theorem cN_in {lo hi z : Int} (h : lo ≤ z ∧ z ≤ hi) : cN lo hi (z + 1) = cN lo hi z + 1 := by unfold cN; omega
theorem cN_out {lo hi z : Int} (h : ¬ (lo ≤ z ∧ z ≤ hi)) : cN lo hi (z + 1) = cN lo hi z := by unfold cN; omega
theorem cN_lo {lo hi : Int} (h : -30 ≤ lo) : cN lo hi (-30) = 0 := by unfold cN; omega
theorem cN_hi {lo hi : Int} (h : hi ≤ 30) : cN lo hi 31 = max 0 (hi - lo + 1) := by unfold cN; omega
theorem cN_bd {lo hi z : Int} (h : -30 ≤ lo) (hz : z ≤ 31) : 0 ≤ cN lo hi z ∧ cN lo hi z ≤ 61 := by unfold cN; omega
section Before2
variable {M M0 : ax_M} {N : ax_L} {A : ax_A0} {x y : Int32} {r : Nat} {d n : Nat} {S : ax_S} {Q : Option Value → Nat → ax_H → Prop}
theorem l190 (hA : M 85 = A) (hW : WF A) (h97 : ∀ j, j < nrA A → M 97 j = iI (rT A j)) {z : Int} (hz : -30 ≤ z ∧ z ≤ 30) : ∀ (c i : Nat), i + c = nrA A → ax_W (d + 1) 190 4 [.ref 84, .int (iI z), .int (bI (fb A z i)), .int (nI i)] [] n (hx S M N) Q = Q (some (.int (bI (fb A z (nrA A))))) n (hx S M N) := by
  have r6 := hW.2.2.2.2.1.2
  have a5 : M 85 5 = nI (nrA A) := by rw [hA]; exact hW.2.2.2.2.1.1
  intro c
  induction c with
  | zero =>
    intro i hi
    have e : i = nrA A := by omega
    simp only [↓s190_4, ↓s190_5, ↓s190_6, ↓s190_9, ↓s190_10, ↓s190_11, jc_84, gf_84_0, gf_84_1, gf_84_2, gf_84_3, gf_84_4, ok_84_4, gf_84_5, ok_84_5, gf_84_6, ok_84_6, gf_84_7, ok_84_7, gf_84_8, ok_84_8, gf_84_9, ok_84_9, gf_84_10, gf_84_11, gf_84_12, gf_84_13, gf_84_14, gf_84_15, gf_84_16, gf_84_17, ok_84_17, gf_84_18, gf_84_19, ok_84_19, gf_84_20, ok_84_20, gf_84_21, gf_84_22, gf_84_23, gf_84_24, ok_84_24, gf_84_25, ok_84_25, gf_84_26, ok_84_26, gf_84_27, ok_84_27, gf_84_28, ok_84_28, gf_84_29, gf_84_30, al_85 (show 5 < 181 by decide), a5, ct_s, ct_n, ↓bI_01, bI_eq0, bI_eq1, nI_10, nI_01, dec_f, dec_t, if_n, eq_self, true_or, or_true, if_true, if_false, reduceIte]
    rw [e, if_pos (nI_le (a := nrA A) (b := nrA A) (by omega) (by omega))]
    simp only [↓s190_58, ↓s190_59, ct_s, ct_n, ↓bI_01, bI_eq0, bI_eq1, nI_10, nI_01, dec_f, dec_t, if_n, eq_self, true_or, or_true, if_true, if_false, reduceIte]
  | succ c ih =>
    intro i hi
    have hr : i < nrA A := by omega
    have tb := rT_bd hW hr
    have v2 := (rd_v hW hr).2
    have q1 : M 85 (115 + 11 * i + 1) = nI (rdV A i) := by rw [hA, show 115 + 11 * i + 1 = 116 + 11 * i by omega]; exact (rd_v hW hr).1
    have ih := ih (i + 1) (by omega)
    rw [show fb A z (i + 1) = (fb A z i && decide (vdZ (z + rT A i) = rdV A i)) from rfl] at ih
    simp only [↓s190_4, ↓s190_5, ↓s190_6, ↓s190_9, ↓s190_10, ↓s190_11, jc_84, gf_84_0, gf_84_1, gf_84_2, gf_84_3, gf_84_4, ok_84_4, gf_84_5, ok_84_5, gf_84_6, ok_84_6, gf_84_7, ok_84_7, gf_84_8, ok_84_8, gf_84_9, ok_84_9, gf_84_10, gf_84_11, gf_84_12, gf_84_13, gf_84_14, gf_84_15, gf_84_16, gf_84_17, ok_84_17, gf_84_18, gf_84_19, ok_84_19, gf_84_20, ok_84_20, gf_84_21, gf_84_22, gf_84_23, gf_84_24, ok_84_24, gf_84_25, ok_84_25, gf_84_26, ok_84_26, gf_84_27, ok_84_27, gf_84_28, ok_84_28, gf_84_29, gf_84_30, al_85 (show 5 < 181 by decide), a5, ct_s, ct_n, ↓bI_01, bI_eq0, bI_eq1, nI_10, nI_01, dec_f, dec_t, if_n, eq_self, true_or, or_true, if_true, if_false, reduceIte]
    rw [if_neg (nI_ge (a := i) (b := nrA A) (by omega) (by omega))]
    cases h : fb A z i with
    | false =>
      rw [h, Bool.false_and] at ih
      simp only [↓s190_14, ↓s190_15, ↓s190_50, ↓s190_51, ↓s190_52, ↓s190_55, nI_add, ct_s, ct_n, ↓bI_01, bI_eq0, bI_eq1, nI_10, nI_01, dec_f, dec_t, if_n, eq_self, true_or, or_true, if_true, if_false, reduceIte]
      exact ih
    | true =>
      rw [h, Bool.true_and] at ih
      have vv : vdZ (z + rT A i) ≤ 2 := by unfold vdZ; split <;> (try split) <;> omega
      simp only [↓s190_14, ↓s190_15, ↓s190_18, ↓s190_19, ↓s190_20, ↓s190_23, ↓s190_24, ↓s190_25, ↓s190_26, ↓s190_29, ↓s190_30, ↓s190_33, ↓s190_35, ↓s190_37, ↓s190_38, ↓s190_39, ↓s190_40, ↓s190_41, ↓s190_42, ↓s190_43, jc_84, gf_84_0, gf_84_1, gf_84_2, gf_84_3, gf_84_4, ok_84_4, gf_84_5, ok_84_5, gf_84_6, ok_84_6, gf_84_7, ok_84_7, gf_84_8, ok_84_8, gf_84_9, ok_84_9, gf_84_10, gf_84_11, gf_84_12, gf_84_13, gf_84_14, gf_84_15, gf_84_16, gf_84_17, ok_84_17, gf_84_18, gf_84_19, ok_84_19, gf_84_20, ok_84_20, gf_84_21, gf_84_22, gf_84_23, gf_84_24, ok_84_24, gf_84_25, ok_84_25, gf_84_26, ok_84_26, gf_84_27, ok_84_27, gf_84_28, ok_84_28, gf_84_29, gf_84_30, al_97 (show i < 6 by omega), h97 i hr, iI_add, ↓c160, vdI_i (show -2147483648 ≤ z + rT A i by omega) (show z + rT A i < 2147483648 by omega), pk_mul, nI_add, al_85 (show 115 + 11 * i + 1 < 181 by omega), q1, nI_eq (show vdZ (z + rT A i) < 2 ^ 31 by omega) (show rdV A i < 2 ^ 31 by omega), ct_s, ct_n, ↓bI_01, bI_eq0, bI_eq1, nI_10, nI_01, dec_f, dec_t, if_n, eq_self, true_or, or_true, if_true, if_false, reduceIte, Bool.true_eq_false]
      by_cases e : vdZ (z + rT A i) = rdV A i
      · rw [decide_eq_true e] at ih
        rw [if_pos e]
        simp only [↓s190_46, ↓s190_47, ↓s190_50, ↓s190_51, ↓s190_52, ↓s190_55, nI_add, ct_s, ct_n, ↓bI_01, bI_eq0, bI_eq1, nI_10, nI_01, dec_f, dec_t, if_n, eq_self, true_or, or_true, if_true, if_false, reduceIte]
        exact ih
      · rw [decide_eq_false e] at ih
        rw [if_neg e]
        simp only [↓s190_50, ↓s190_51, ↓s190_52, ↓s190_55, nI_add, ct_s, ct_n, ↓bI_01, bI_eq0, bI_eq1, nI_10, nI_01, dec_f, dec_t, if_n, eq_self, true_or, or_true, if_true, if_false, reduceIte]
        exact ih
theorem c190 (hA : M 85 = A) (hW : WF A) (h97 : ∀ j, j < nrA A → M 97 j = iI (rT A j)) {z : Int} (hz : -30 ≤ z ∧ z ≤ 30) : ax_W (d + 1) 190 0 [.ref 84, .int (iI z), ax_dm, ax_dm] [] n (hx S M N) Q = Q (some (.int (bI (fb A z (nrA A))))) n (hx S M N) := by
  simp only [↓s190_0, ↓s190_1, ↓s190_2, ↓s190_3, ct_s, ct_n, ↓bI_01, bI_eq0, bI_eq1, nI_10, nI_01, dec_f, dec_t, if_n, eq_self, true_or, or_true, if_true, if_false, reduceIte]
  exact l190 hA hW h97 hz (nrA A) 0 (by omega)
def frs (lo hi z : Int) : Int := if cN lo hi z = 0 then -100 else lo
theorem l191 (hA : M 85 = A) (hW : WF A) (h97 : ∀ j, j < nrA A → M 97 j = iI (rT A j)) {k : Nat} (hk : k ≤ 1) : ∀ (c : Nat) (z : Int), z + (c : Int) = 31 → -30 ≤ z → ax_W (d + 2) 191 31 [.ref 84, .int (nI k), .int (iI (cN (spn A (nrA A)).1 (spn A (nrA A)).2 z)), .int (iI (frs (spn A (nrA A)).1 (spn A (nrA A)).2 z)), .int (iI z)] [] n (hx S M N) Q = Q (some (.int (iI (if k = 0 then cN (spn A (nrA A)).1 (spn A (nrA A)).2 31 else frs (spn A (nrA A)).1 (spn A (nrA A)).2 31)))) n (hx S M N) := by
  have b := sp_bd hW (nrA A) (Nat.le_refl _)
  intro c
  induction c with
  | zero =>
    intro z hz h1
    have e : z = 31 := by simpa using hz
    subst e
    simp only [↓s191_31, ↓s191_33, ↓s191_35, show nI 30 < iI 31 by decide, ct_s, ct_n, ↓bI_01, bI_eq0, bI_eq1, nI_10, nI_01, dec_f, dec_t, if_n, eq_self, true_or, or_true, if_true, if_false, reduceIte]
    rcases (show k = 0 ∨ k = 1 by omega) with rfl | rfl
    · simp only [↓s191_67, ↓s191_68, ↓s191_71, ↓s191_72, ↓s191_75, ↓s191_76, ct_s, ct_n, ↓bI_01, bI_eq0, bI_eq1, nI_10, nI_01, dec_f, dec_t, if_n, eq_self, true_or, or_true, if_true, if_false, reduceIte]
    · rw [if_neg (by decide)]
      simp only [↓s191_67, ↓s191_68, ↓s191_71, ↓s191_72, ↓s191_75, ↓s191_76, ct_s, ct_n, ↓bI_01, bI_eq0, bI_eq1, nI_10, nI_01, dec_f, dec_t, if_n, eq_self, true_or, or_true, if_true, if_false, reduceIte]
  | succ c ih =>
    intro z hz h1
    have hf := fb_sp hW (z := z) (nrA A) (Nat.le_refl _) h1 (by omega)
    have ih := ih (z + 1) (by omega) (by omega)
    have cb := cN_bd (hi := (spn A (nrA A)).2) (z := z) b.1.1 (by omega)
    have hz2 : ¬ nI 30 < iI z := by
      rw [show nI 30 = iI 30 by decide, iI_lt (by omega) (by omega) (by omega) (by omega)]; omega
    simp only [↓s191_31, ↓s191_33, ↓s191_35, ct_s, ct_n, ↓bI_01, bI_eq0, bI_eq1, nI_10, nI_01, dec_f, dec_t, if_n, eq_self, true_or, or_true, if_true, if_false, reduceIte]
    rw [if_neg hz2]
    simp only [↓s191_38, ↓s191_39, ↓s191_41, jc_84, gf_84_0, gf_84_1, gf_84_2, gf_84_3, gf_84_4, ok_84_4, gf_84_5, ok_84_5, gf_84_6, ok_84_6, gf_84_7, ok_84_7, gf_84_8, ok_84_8, gf_84_9, ok_84_9, gf_84_10, gf_84_11, gf_84_12, gf_84_13, gf_84_14, gf_84_15, gf_84_16, gf_84_17, ok_84_17, gf_84_18, gf_84_19, ok_84_19, gf_84_20, ok_84_20, gf_84_21, gf_84_22, gf_84_23, gf_84_24, ok_84_24, gf_84_25, ok_84_25, gf_84_26, ok_84_26, gf_84_27, ok_84_27, gf_84_28, ok_84_28, gf_84_29, gf_84_30, ↓c190 hA hW h97 (show -30 ≤ z ∧ z ≤ 30 by omega), ct_s, ct_n, ↓bI_01, bI_eq0, bI_eq1, nI_10, nI_01, dec_f, dec_t, if_n, eq_self, true_or, or_true, if_true, if_false, reduceIte]
    cases h : fb A z (nrA A) with
    | false =>
      have hn : ¬ ((spn A (nrA A)).1 ≤ z ∧ z ≤ (spn A (nrA A)).2) := fun q => by rw [hf.mpr q] at h; cases h
      have e2 : frs (spn A (nrA A)).1 (spn A (nrA A)).2 (z + 1) = frs (spn A (nrA A)).1 (spn A (nrA A)).2 z := by unfold frs; rw [cN_out hn]
      rw [cN_out hn, e2] at ih
      simp only [↓s191_44, ↓s191_61, ↓s191_64, i_1, iI_add, ct_s, ct_n, ↓bI_01, bI_eq0, bI_eq1, nI_10, nI_01, dec_f, dec_t, if_n, eq_self, true_or, or_true, if_true, if_false, reduceIte]
      exact ih
    | true =>
      have hn := hf.mp h
      rw [cN_in hn] at ih
      simp only [↓s191_44, ↓s191_47, ↓s191_48, ct_s, ct_n, ↓bI_01, bI_eq0, bI_eq1, nI_10, nI_01, dec_f, dec_t, if_n, eq_self, true_or, or_true, if_true, if_false, reduceIte, Bool.true_eq_false]
      by_cases e : cN (spn A (nrA A)).1 (spn A (nrA A)).2 z = 0
      · have e2 : frs (spn A (nrA A)).1 (spn A (nrA A)).2 (z + 1) = z := by
          unfold frs
          rw [cN_in hn, e, if_neg (by omega)]
          unfold cN at e
          omega
        rw [e2] at ih
        rw [if_pos (by rw [e]; decide)]
        simp only [↓s191_51, ↓s191_53, ↓s191_56, ↓s191_57, ↓s191_58, ↓s191_61, ↓s191_64, i_1, iI_add, ct_s, ct_n, ↓bI_01, bI_eq0, bI_eq1, nI_10, nI_01, dec_f, dec_t, if_n, eq_self, true_or, or_true, if_true, if_false, reduceIte]
        exact ih
      · have e2 : frs (spn A (nrA A)).1 (spn A (nrA A)).2 (z + 1) = frs (spn A (nrA A)).1 (spn A (nrA A)).2 z := by
          unfold frs
          rw [cN_in hn, if_neg (by omega), if_neg e]
        rw [e2] at ih
        rw [if_neg (by rw [i_0, iI_eq (by omega) (by omega) (by omega) (by omega)]; exact e)]
        simp only [↓s191_56, ↓s191_57, ↓s191_58, ↓s191_61, ↓s191_64, i_1, iI_add, ct_s, ct_n, ↓bI_01, bI_eq0, bI_eq1, nI_10, nI_01, dec_f, dec_t, if_n, eq_self, true_or, or_true, if_true, if_false, reduceIte]
        exact ih
theorem p24 (hI : Inv M N) : RPi 105 191 [.ref 20, .int x] [.ref 84, .int x, ax_dm, ax_dm, ax_dm] M N := by
  have hC := hI.1
  have hW := hI.2.1
  by_cases h0 : nI 0 ≤ x ∧ x ≤ nI 1
  · obtain ⟨k, k1, rfl⟩ := rng (by decide) h0
    generalize hA : M 85 = A at *
    have b := sp_bd hW (nrA A) (Nat.le_refl _)
    obtain ⟨M1, s1, ⟨f0, f1⟩, g1⟩ := c119 (N := N) hC hW
    have hA1 : M1 85 = A := (s1.1 85 (by omega)).trans hA
    obtain ⟨M2, s2, h97, g2⟩ := c189 (N := N) hA1 hW
    have hA2 : M2 85 = A := (s2.1 85 (by omega)).trans hA1
    refine ⟨iI (if k = 0 then cN (spn A (nrA A)).1 (spn A (nrA A)).2 31 else frs (spn A (nrA A)).1 (spn A (nrA A)).2 31), M1, N, M2, N, fun S d n Q => ?_, fun S d n Q => ?_, Inv_sc (sc_tr s1 s2) hI⟩
    · have e1 := cN_hi (lo := (spn A (nrA A)).1) b.2.2
      simp only [↓s105_0, ↓s105_1, ↓s105_2, ↓s105_3, ↓s105_6, ↓c121, ct_s, ct_n, ↓bI_01, bI_eq0, bI_eq1, nI_10, nI_01, dec_f, dec_t, if_n, eq_self, true_or, or_true, if_true, if_false, reduceIte]
      rw [if_pos h0]
      simp only [↓s105_19, ↓s105_20, jc_20, gf_20_0, gf_20_1, gf_20_2, gf_20_3, gf_20_4, gf_20_5, gf_20_6, gf_20_7, gf_20_8, gf_20_9, gf_20_10, gf_20_11, ok_20_11, gf_20_12, ok_20_12, gf_20_13, ok_20_13, gf_20_14, ok_20_14, gf_20_15, ok_20_15, ↓g1, ct_s, ct_n, ↓bI_01, bI_eq0, bI_eq1, nI_10, nI_01, dec_f, dec_t, if_n, eq_self, true_or, or_true, if_true, if_false, reduceIte]
      rcases (show k = 0 ∨ k = 1 by omega) with rfl | rfl
      · rw [if_pos rfl, e1]
        simp only [↓s105_23, ↓s105_24, ↓s105_27, ↓s105_28, ↓s105_31, ↓s105_34, jc_20, gf_20_0, gf_20_1, gf_20_2, gf_20_3, gf_20_4, gf_20_5, gf_20_6, gf_20_7, gf_20_8, gf_20_9, gf_20_10, gf_20_11, ok_20_11, gf_20_12, ok_20_12, gf_20_13, ok_20_13, gf_20_14, ok_20_14, gf_20_15, ok_20_15, jc_83, gf_83_0, ok_83_0, gf_83_1, ok_83_1, ↓c64 f0 f1 b.1 b.2, ct_s, ct_n, ↓bI_01, bI_eq0, bI_eq1, nI_10, nI_01, dec_f, dec_t, if_n, eq_self, true_or, or_true, if_true, if_false, reduceIte]
      · rw [if_neg (by decide)]
        simp only [↓s105_23, ↓s105_24, ct_s, ct_n, ↓bI_01, bI_eq0, bI_eq1, nI_10, nI_01, dec_f, dec_t, if_n, eq_self, true_or, or_true, if_true, if_false, reduceIte]
        simp only [↓s105_35, ↓s105_36, ↓s105_39, ↓s105_42, jc_20, gf_20_0, gf_20_1, gf_20_2, gf_20_3, gf_20_4, gf_20_5, gf_20_6, gf_20_7, gf_20_8, gf_20_9, gf_20_10, gf_20_11, ok_20_11, gf_20_12, ok_20_12, gf_20_13, ok_20_13, gf_20_14, ok_20_14, gf_20_15, ok_20_15, jc_83, gf_83_0, ok_83_0, gf_83_1, ok_83_1, ↓c64 f0 f1 b.1 b.2, ct_s, ct_n, ↓bI_01, bI_eq0, bI_eq1, nI_10, nI_01, dec_f, dec_t, if_n, eq_self, true_or, or_true, if_true, if_false, reduceIte]
        unfold frs
        rw [e1]
        by_cases e : max 0 ((spn A (nrA A)).2 - (spn A (nrA A)).1 + 1) = 0
        · rw [if_pos e, e, if_pos (by decide)]
          simp only [↓s105_55, ↓s105_57, ct_s, ct_n, ↓bI_01, bI_eq0, bI_eq1, nI_10, nI_01, dec_f, dec_t, if_n, eq_self, true_or, or_true, if_true, if_false, reduceIte]
          rfl
        · rw [if_neg e, if_neg (by rw [i_0, iI_le (by omega) (by omega) (by omega) (by omega)]; omega)]
          simp only [↓s105_45, ↓s105_46, ↓s105_49, ↓s105_52, ↓s105_55, ↓s105_57, ↓s63_0, ↓s63_1, ↓s63_4, jc_20, gf_20_0, gf_20_1, gf_20_2, gf_20_3, gf_20_4, gf_20_5, gf_20_6, gf_20_7, gf_20_8, gf_20_9, gf_20_10, gf_20_11, ok_20_11, gf_20_12, ok_20_12, gf_20_13, ok_20_13, gf_20_14, ok_20_14, gf_20_15, ok_20_15, jc_83, gf_83_0, ok_83_0, gf_83_1, ok_83_1, f0, ct_s, ct_n, ↓bI_01, bI_eq0, bI_eq1, nI_10, nI_01, dec_f, dec_t, if_n, eq_self, true_or, or_true, if_true, if_false, reduceIte]
    · simp only [↓s191_0, ↓s191_1, ↓s191_2, ↓s191_3, ↓s191_4, ↓s191_7, ↓c135 (l := nI 0) (q := 0) (m := nI 1) (r := 1) rfl rfl, ct_s, ct_n, ↓bI_01, bI_eq0, bI_eq1, nI_10, nI_01, dec_f, dec_t, if_n, eq_self, true_or, or_true, if_true, if_false, reduceIte]
      rw [if_pos h0]
      simp only [↓s191_18, ↓s191_19, ↓s191_20, ↓s191_22, ↓s191_23, ↓s191_24, ↓s191_27, ↓s191_29, jc_84, gf_84_0, gf_84_1, gf_84_2, gf_84_3, gf_84_4, ok_84_4, gf_84_5, ok_84_5, gf_84_6, ok_84_6, gf_84_7, ok_84_7, gf_84_8, ok_84_8, gf_84_9, ok_84_9, gf_84_10, gf_84_11, gf_84_12, gf_84_13, gf_84_14, gf_84_15, gf_84_16, gf_84_17, ok_84_17, gf_84_18, gf_84_19, ok_84_19, gf_84_20, ok_84_20, gf_84_21, gf_84_22, gf_84_23, gf_84_24, ok_84_24, gf_84_25, ok_84_25, gf_84_26, ok_84_26, gf_84_27, ok_84_27, gf_84_28, ok_84_28, gf_84_29, gf_84_30, ↓g2, ct_s, ct_n, ↓bI_01, bI_eq0, bI_eq1, nI_10, nI_01, dec_f, dec_t, if_n, eq_self, true_or, or_true, if_true, if_false, reduceIte]
      have h := l191 (d := d + 898) (n := n) (Q := Q) (S := S) (N := N) hA2 hW h97 k1 61 (-30) (by decide) (by decide)
      have e3 : frs (spn A (nrA A)).1 (spn A (nrA A)).2 (-30) = -100 := by unfold frs; rw [cN_lo b.1.1, if_pos rfl]
      rw [cN_lo b.1.1, e3] at h
      exact h
  · refine ⟨-1000, ux M 20 13 (M 20 13 + nI 1), N, rjM M 0, N, fun S d n Q => ?_, fun S d n Q => ?_, Inv_rj (by decide) hI⟩
    · simp only [↓s105_0, ↓s105_1, ↓s105_2, ↓s105_3, ↓s105_6, ↓s105_9, ↓s105_10, ↓s105_12, ↓s105_15, ↓s105_18, ↓c121, jc_20, ↓c116, refM_b, ct_s, ct_n, ↓bI_01, bI_eq0, bI_eq1, nI_10, nI_01, dec_f, dec_t, if_n, eq_self, true_or, or_true, if_true, if_false, reduceIte]
      rw [if_neg h0]
    · simp only [↓s191_0, ↓s191_1, ↓s191_2, ↓s191_3, ↓s191_4, ↓s191_7, ↓s191_10, ↓s191_11, ↓s191_14, ↓s191_17, ↓c135 (l := nI 0) (q := 0) (m := nI 1) (r := 1) rfl rfl, jc_84, ↓c136, ux88, ct_s, ct_n, ↓bI_01, bI_eq0, bI_eq1, nI_10, nI_01, dec_f, dec_t, if_n, eq_self, true_or, or_true, if_true, if_false, reduceIte]
      rw [if_neg h0]
      rfl
/-! tells -/
def mbM (M : ax_M) (a b c : Int) : ax_M := ux (ux (ux M 98 0 (iI a)) 98 1 (iI b)) 98 2 (iI c)
theorem mb_0 {a b c : Int} : mbM M a b c 98 0 = iI a := by unfold mbM; rw [ux_j (by decide), ux_j (by decide), ux_s]
theorem mb_1 {a b c : Int} : mbM M a b c 98 1 = iI b := by unfold mbM; rw [ux_j (by decide), ux_s]
theorem mb_2 {a b c : Int} : mbM M a b c 98 2 = iI c := by unfold mbM; rw [ux_s]
theorem mb_o {a b c : Int} {q : Nat} (h : q ≠ 98) : mbM M a b c q = M q := by unfold mbM; rw [ux_f h, ux_f h, ux_f h]
theorem mb_u0 {a b c e : Int} : ux (mbM M a b c) 98 0 (iI e) = mbM M e b c := by
  funext q j
  unfold mbM ux
  by_cases h : q = 98
  · subst h
    by_cases h0 : j = 0
    · subst h0; simp
    · simp [h0]
  · simp [h]
theorem mb_u1 {a b c e : Int} : ux (mbM M a b c) 98 1 (iI e) = mbM M a e c := by
  funext q j
  unfold mbM ux
  by_cases h : q = 98
  · subst h
    by_cases h0 : j = 1
    · subst h0; simp
    · simp [h0]
  · simp [h]
theorem mb_u2 {a b c e : Int} : ux (mbM M a b c) 98 2 (iI e) = mbM M a b e := by
  funext q j
  unfold mbM ux
  by_cases h : q = 98
  · subst h
    by_cases h0 : j = 2
    · subst h0; simp
    · simp [h0]
  · simp [h]
def cV (A : ax_A0) (T : Int) (v : Nat) (z : Int) : Int := cN (lsF T v (spn A (nrA A)).1) (msF T v (spn A (nrA A)).2) z
theorem cV_s (hW : WF A) {T z : Int} {v : Nat} (hv : v ≤ 2) (h1 : -30 ≤ z) (h2 : z ≤ 30) : cV A T v (z + 1) = cV A T v z + (if fb A z (nrA A) = true ∧ vdZ (z + T) = v then 1 else 0) := by
  have hf := fb_sp hW (z := z) (nrA A) (Nat.le_refl _) h1 h2
  have e := ls_ms (t := T) (z := z) (lo := (spn A (nrA A)).1) (hi := (spn A (nrA A)).2) hv
  unfold cV
  by_cases h : fb A z (nrA A) = true ∧ vdZ (z + T) = v
  · rw [if_pos h]
    exact cN_in (e.mpr ⟨(hf.mp h.1).1, (hf.mp h.1).2, h.2⟩)
  · rw [if_neg h, Int.add_zero]
    exact cN_out (fun q => h ⟨hf.mpr ⟨(e.mp q).1, (e.mp q).2.1⟩, (e.mp q).2.2⟩)
def tbM (M : ax_M) (A : ax_A0) (T z : Int) : ax_M := mbM M (cV A T 0 z) (cV A T 1 z) (cV A T 2 z)
theorem l192 (hA : M 85 = A) (hW : WF A) (h97 : ∀ j, j < nrA A → M 97 j = iI (rT A j)) {T : Int} (hT : -200 ≤ T ∧ T ≤ 200) {y1 : Int32} : ∀ (c : Nat) (z : Int), z + (c : Int) = 31 → -30 ≤ z → ∀ y4, ∃ z4, ∀ (S : ax_S) (d n : Nat) (Q : Option Value → Nat → ax_H → Prop), ax_W (d + 2) 192 55 [.ref 84, .int y1, .int (iI T), .int (iI z), y4] [] n (hx S (tbM M A T z) N) Q = ax_W (d + 2) 192 94 [.ref 84, .int y1, .int (iI T), .int (iI 31), z4] [] n (hx S (tbM M A T 31) N) Q := by
  intro c
  induction c with
  | zero =>
    intro z hz h1 y4
    have e : z = 31 := by simpa using hz
    subst e
    refine ⟨y4, fun S d n Q => ?_⟩
    simp only [↓s192_55, ↓s192_56, ↓s192_58, show nI 30 < iI 31 by decide, ct_s, ct_n, ↓bI_01, bI_eq0, bI_eq1, nI_10, nI_01, dec_f, dec_t, if_n, eq_self, true_or, or_true, if_true, if_false, reduceIte]
  | succ c ih =>
    intro z hz h1 y4
    have hz2 : ¬ nI 30 < iI z := by
      rw [show nI 30 = iI 30 by decide, iI_lt (by omega) (by omega) (by omega) (by omega)]; omega
    have s0 := cV_s (T := T) (v := 0) hW (by omega) h1 (by omega)
    have s1 := cV_s (T := T) (v := 1) hW (by omega) h1 (by omega)
    have s2 := cV_s (T := T) (v := 2) hW (by omega) h1 (by omega)
    have hA1 : tbM M A T z 85 = A := by unfold tbM; rw [mb_o (by decide)]; exact hA
    have h971 : ∀ j, j < nrA A → tbM M A T z 97 j = iI (rT A j) := fun j hj => by unfold tbM; rw [mb_o (by decide)]; exact h97 j hj
    have pre : ∀ (S : ax_S) (d n : Nat) (Q : Option Value → Nat → ax_H → Prop), ax_W (d + 2) 192 55 [.ref 84, .int y1, .int (iI T), .int (iI z), y4] [] n (hx S (tbM M A T z) N) Q = ax_W (d + 2) 192 66 [.ref 84, .int y1, .int (iI T), .int (iI z), y4] [.int (bI (fb A z (nrA A)))] n (hx S (tbM M A T z) N) Q := by
      intro S d n Q
      simp only [↓s192_55, ↓s192_56, ↓s192_58, ct_s, ct_n, ↓bI_01, bI_eq0, bI_eq1, nI_10, nI_01, dec_f, dec_t, if_n, eq_self, true_or, or_true, if_true, if_false, reduceIte]
      rw [if_neg hz2]
      simp only [↓s192_61, ↓s192_62, ↓s192_63, jc_84, gf_84_0, gf_84_1, gf_84_2, gf_84_3, gf_84_4, ok_84_4, gf_84_5, ok_84_5, gf_84_6, ok_84_6, gf_84_7, ok_84_7, gf_84_8, ok_84_8, gf_84_9, ok_84_9, gf_84_10, gf_84_11, gf_84_12, gf_84_13, gf_84_14, gf_84_15, gf_84_16, gf_84_17, ok_84_17, gf_84_18, gf_84_19, ok_84_19, gf_84_20, ok_84_20, gf_84_21, gf_84_22, gf_84_23, gf_84_24, ok_84_24, gf_84_25, ok_84_25, gf_84_26, ok_84_26, gf_84_27, ok_84_27, gf_84_28, ok_84_28, gf_84_29, gf_84_30, ↓c190 hA1 hW h971 (show -30 ≤ z ∧ z ≤ 30 by omega), ct_s, ct_n, ↓bI_01, bI_eq0, bI_eq1, nI_10, nI_01, dec_f, dec_t, if_n, eq_self, true_or, or_true, if_true, if_false, reduceIte]
    cases h : fb A z (nrA A) with
    | false =>
      rw [h, if_neg (by simp)] at s0 s1 s2
      have e : tbM M A T (z + 1) = tbM M A T z := by unfold tbM; rw [s0, s1, s2, Int.add_zero, Int.add_zero, Int.add_zero]
      obtain ⟨z4, g⟩ := ih (z + 1) (by omega) (by omega) y4
      rw [e] at g
      refine ⟨z4, fun S d n Q => ?_⟩
      rw [pre, h]
      simp only [↓s192_66, ↓s192_88, ↓s192_91, i_1, iI_add, ct_s, ct_n, ↓bI_01, bI_eq0, bI_eq1, nI_10, nI_01, dec_f, dec_t, if_n, eq_self, true_or, or_true, if_true, if_false, reduceIte]
      exact g S d n Q
    | true =>
      have vv : vdZ (z + T) = 0 ∨ vdZ (z + T) = 1 ∨ vdZ (z + T) = 2 := by unfold vdZ; split <;> (try split) <;> omega
      have vd := vdI_i (z := z + T) (by omega) (by omega)
      obtain ⟨z4, g⟩ := ih (z + 1) (by omega) (by omega) (.int (nI (vdZ (z + T))))
      refine ⟨z4, fun S d n Q => ?_⟩
      rw [pre, h]
      simp only [↓s192_66, ↓s192_69, ↓s192_70, ↓s192_71, ↓s192_72, ↓s192_75, jc_84, gf_84_0, gf_84_1, gf_84_2, gf_84_3, gf_84_4, ok_84_4, gf_84_5, ok_84_5, gf_84_6, ok_84_6, gf_84_7, ok_84_7, gf_84_8, ok_84_8, gf_84_9, ok_84_9, gf_84_10, gf_84_11, gf_84_12, gf_84_13, gf_84_14, gf_84_15, gf_84_16, gf_84_17, ok_84_17, gf_84_18, gf_84_19, ok_84_19, gf_84_20, ok_84_20, gf_84_21, gf_84_22, gf_84_23, gf_84_24, ok_84_24, gf_84_25, ok_84_25, gf_84_26, ok_84_26, gf_84_27, ok_84_27, gf_84_28, ok_84_28, gf_84_29, gf_84_30, iI_add, ↓c160, vd, ct_s, ct_n, ↓bI_01, bI_eq0, bI_eq1, nI_10, nI_01, dec_f, dec_t, if_n, eq_self, true_or, or_true, if_true, if_false, reduceIte, Bool.true_eq_false]
      rw [h] at s0 s1 s2
      rcases vv with e | e | e
      · rw [e] at g ⊢
        rw [e, if_pos ⟨rfl, rfl⟩] at s0
        rw [e, if_neg (by simp), Int.add_zero] at s1 s2
        have e5 : tbM M A T (z + 1) = mbM M (cV A T 0 z + 1) (cV A T 1 z) (cV A T 2 z) := by unfold tbM; rw [s0, s1, s2]
        rw [e5] at g
        unfold tbM
        simp only [↓s192_77, ↓s192_78, ↓s192_81, ↓s192_83, ↓s192_84, ↓s192_85, ↓s192_86, ↓s192_87, ↓s192_88, ↓s192_91, jc_84, gf_84_0, gf_84_1, gf_84_2, gf_84_3, gf_84_4, ok_84_4, gf_84_5, ok_84_5, gf_84_6, ok_84_6, gf_84_7, ok_84_7, gf_84_8, ok_84_8, gf_84_9, ok_84_9, gf_84_10, gf_84_11, gf_84_12, gf_84_13, gf_84_14, gf_84_15, gf_84_16, gf_84_17, ok_84_17, gf_84_18, gf_84_19, ok_84_19, gf_84_20, ok_84_20, gf_84_21, gf_84_22, gf_84_23, gf_84_24, ok_84_24, gf_84_25, ok_84_25, gf_84_26, ok_84_26, gf_84_27, ok_84_27, gf_84_28, ok_84_28, gf_84_29, gf_84_30, al_98 (show 0 < 3 by decide), sa_98 (show 0 < 3 by decide), mb_0, i_1, iI_add, mb_u0, ct_s, ct_n, ↓bI_01, bI_eq0, bI_eq1, nI_10, nI_01, dec_f, dec_t, if_n, eq_self, true_or, or_true, if_true, if_false, reduceIte]
        exact g S d n Q
      · rw [e] at g ⊢
        rw [e, if_pos ⟨rfl, rfl⟩] at s1
        rw [e, if_neg (by simp), Int.add_zero] at s0 s2
        have e5 : tbM M A T (z + 1) = mbM M (cV A T 0 z) (cV A T 1 z + 1) (cV A T 2 z) := by unfold tbM; rw [s0, s1, s2]
        rw [e5] at g
        unfold tbM
        simp only [↓s192_77, ↓s192_78, ↓s192_81, ↓s192_83, ↓s192_84, ↓s192_85, ↓s192_86, ↓s192_87, ↓s192_88, ↓s192_91, jc_84, gf_84_0, gf_84_1, gf_84_2, gf_84_3, gf_84_4, ok_84_4, gf_84_5, ok_84_5, gf_84_6, ok_84_6, gf_84_7, ok_84_7, gf_84_8, ok_84_8, gf_84_9, ok_84_9, gf_84_10, gf_84_11, gf_84_12, gf_84_13, gf_84_14, gf_84_15, gf_84_16, gf_84_17, ok_84_17, gf_84_18, gf_84_19, ok_84_19, gf_84_20, ok_84_20, gf_84_21, gf_84_22, gf_84_23, gf_84_24, ok_84_24, gf_84_25, ok_84_25, gf_84_26, ok_84_26, gf_84_27, ok_84_27, gf_84_28, ok_84_28, gf_84_29, gf_84_30, al_98 (show 1 < 3 by decide), sa_98 (show 1 < 3 by decide), mb_1, ct_s, ct_n, ↓bI_01, bI_eq0, bI_eq1, nI_10, nI_01, dec_f, dec_t, if_n, eq_self, true_or, or_true, if_true, if_false, reduceIte]
        simp only [i_1, iI_add, mb_u1] at g ⊢
        exact g S d n Q
      · rw [e] at g ⊢
        rw [e, if_pos ⟨rfl, rfl⟩] at s2
        rw [e, if_neg (by simp), Int.add_zero] at s0 s1
        have e5 : tbM M A T (z + 1) = mbM M (cV A T 0 z) (cV A T 1 z) (cV A T 2 z + 1) := by unfold tbM; rw [s0, s1, s2]
        rw [e5] at g
        unfold tbM
        simp only [↓s192_77, ↓s192_78, ↓s192_81, ↓s192_83, ↓s192_84, ↓s192_85, ↓s192_86, ↓s192_87, ↓s192_88, ↓s192_91, jc_84, gf_84_0, gf_84_1, gf_84_2, gf_84_3, gf_84_4, ok_84_4, gf_84_5, ok_84_5, gf_84_6, ok_84_6, gf_84_7, ok_84_7, gf_84_8, ok_84_8, gf_84_9, ok_84_9, gf_84_10, gf_84_11, gf_84_12, gf_84_13, gf_84_14, gf_84_15, gf_84_16, gf_84_17, ok_84_17, gf_84_18, gf_84_19, ok_84_19, gf_84_20, ok_84_20, gf_84_21, gf_84_22, gf_84_23, gf_84_24, ok_84_24, gf_84_25, ok_84_25, gf_84_26, ok_84_26, gf_84_27, ok_84_27, gf_84_28, ok_84_28, gf_84_29, gf_84_30, al_98 (show 2 < 3 by decide), sa_98 (show 2 < 3 by decide), mb_2, i_1, iI_add, mb_u2, ct_s, ct_n, ↓bI_01, bI_eq0, bI_eq1, nI_10, nI_01, dec_f, dec_t, if_n, eq_self, true_or, or_true, if_true, if_false, reduceIte]
        exact g S d n Q
end Before2
