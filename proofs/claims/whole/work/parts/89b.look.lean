/-! ===== a text: the reference's tokens ===== -/
def TXm (M : ax_M) (B : Nat → Nat) (t : Nat) : Prop := M 84 24 = nI t ∧ t ≤ 150 ∧ ∀ i, i < t → M 99 i = nI (B i) ∧ B i < 128
def tkM (B : Nat → Nat) (t i : Nat) : Nat := if tkK B t i = 2 ∧ 2 < tkE B t i - tkP B t i then 4 else tkK B t i
/-- the reference looks at the token from i on -/
def LM (M : ax_M) (B : Nat → Nat) (t i : Nat) : Prop := M 84 25 = nI (tkP B t i) ∧ M 84 26 = nI (tkE B t i - tkP B t i) ∧ M 84 27 = nI (tkM B t i) ∧ (tkM B t i = 2 → M 84 28 = iI (tvA B t i))
section Look
variable {M M2 : ax_M} {N : ax_L} {d n t i p k : Nat} {S : ax_S} {Q : Option Value → Nat → ax_H → Prop} {B : Nat → Nat} {h : ax_H}
theorem TXm_eq (h4 : M2 84 24 = M 84 24) (h9 : M2 99 = M 99) (h : TXm M B t) : TXm M2 B t := ⟨by rw [h4]; exact h.1, h.2.1, fun i hi => by rw [h9]; exact h.2.2 i hi⟩
theorem TXm_84 {j : Nat} {x : Int32} (hj : j ≠ 24) (h : TXm M B t) : TXm (ux M 84 j x) B t := TXm_eq (ux_j (Ne.symm hj)) (ux_f (by decide)) h
theorem al99 (h : TXm M B t) (hi : i < t) : al (hx S M N) 99 (nI i) = some (nI (B i)) := by
  have := h.2.1
  rw [al_99 (show i < 150 by omega), (h.2.2 i hi).1]
theorem c199 {c : Nat} (hc : c < 128) : ax_W (d + 1) 199 0 [.int (nI c)] [] n h Q = Q (some (.int (bI (decide (srt c = 1))))) n h := by
  have e : decide (srt c = 1) = decide (nI 97 ≤ nI c ∧ nI c ≤ nI 122) := decide_eq_decide.mpr (by
    rw [nI_leI (by omega) (by omega), nI_leI (by omega) (by omega)]
    unfold srt
    split
    · omega
    · split
      · omega
      · split <;> omega)
  rw [e]
  simp only [↓s199_0, ↓s199_1, ↓s199_2, ↓s199_5, ↓s199_8, ↓s199_11, ↓c135 (l := nI 97) (q := 97) (m := nI 122) (r := 122) rfl rfl, ct_s, ct_n, ↓bI_01, bI_eq0, bI_eq1, nI_10, nI_01, dec_f, dec_t, if_n, eq_self, true_or, or_true, if_true, if_false, reduceIte]
theorem c200 {c : Nat} (hc : c < 128) : ax_W (d + 1) 200 0 [.int (nI c)] [] n h Q = Q (some (.int (bI (decide (srt c = 2))))) n h := by
  have e : decide (srt c = 2) = decide (nI 48 ≤ nI c ∧ nI c ≤ nI 57) := decide_eq_decide.mpr (by
    rw [nI_leI (by omega) (by omega), nI_leI (by omega) (by omega)]
    unfold srt
    split
    · omega
    · split
      · omega
      · split <;> omega)
  rw [e]
  simp only [↓s200_0, ↓s200_1, ↓s200_2, ↓s200_5, ↓s200_8, ↓s200_11, ↓c135 (l := nI 48) (q := 48) (m := nI 57) (r := 57) rfl rfl, ct_s, ct_n, ↓bI_01, bI_eq0, bI_eq1, nI_10, nI_01, dec_f, dec_t, if_n, eq_self, true_or, or_true, if_true, if_false, reduceIte]
theorem l201a {y1 y2 y3 y4 : Value} (hT : TXm M B t) : ∀ c i, i + c = t → ax_W d 201 5 [.ref 84, y1, y2, y3, y4] [] n (hx S (ux M 84 25 (nI i)) N) Q = ax_W d 201 43 [.ref 84, y1, y2, y3, y4] [] n (hx S (ux M 84 25 (nI (skF B c i))) N) Q := by
  have t1 := hT.2.1
  intro c
  induction c with
  | zero =>
    intro i hi
    have hT2 := TXm_84 (j := 25) (x := nI i) (by decide) hT
    simp only [↓s201_5, ↓s201_6, ↓s201_9, ↓s201_10, ↓s201_13, jc_84, gf_84_0, gf_84_1, gf_84_2, gf_84_3, gf_84_4, ok_84_4, gf_84_5, ok_84_5, gf_84_6, ok_84_6, gf_84_7, ok_84_7, gf_84_8, ok_84_8, gf_84_9, ok_84_9, gf_84_10, gf_84_11, gf_84_12, gf_84_13, gf_84_14, gf_84_15, gf_84_16, gf_84_17, ok_84_17, gf_84_18, gf_84_19, ok_84_19, gf_84_20, ok_84_20, gf_84_21, gf_84_22, gf_84_23, gf_84_24, ok_84_24, gf_84_25, ok_84_25, gf_84_26, ok_84_26, gf_84_27, ok_84_27, gf_84_28, ok_84_28, gf_84_29, gf_84_30, ux_s, hT2.1, ct_s, ct_n, ↓bI_01, bI_eq0, bI_eq1, nI_10, nI_01, dec_f, dec_t, if_n, eq_self, true_or, or_true, if_true, if_false, reduceIte]
    rw [if_pos (nI_le (a := t) (b := i) (by omega) (by omega))]
    rfl
  | succ c ih =>
    intro i hi
    have hT2 := TXm_84 (j := 25) (x := nI i) (by decide) hT
    have ih := ih (i + 1) (by omega)
    have b1 := (hT.2.2 i (by omega)).2
    simp only [↓s201_5, ↓s201_6, ↓s201_9, ↓s201_10, ↓s201_13, jc_84, gf_84_0, gf_84_1, gf_84_2, gf_84_3, gf_84_4, ok_84_4, gf_84_5, ok_84_5, gf_84_6, ok_84_6, gf_84_7, ok_84_7, gf_84_8, ok_84_8, gf_84_9, ok_84_9, gf_84_10, gf_84_11, gf_84_12, gf_84_13, gf_84_14, gf_84_15, gf_84_16, gf_84_17, ok_84_17, gf_84_18, gf_84_19, ok_84_19, gf_84_20, ok_84_20, gf_84_21, gf_84_22, gf_84_23, gf_84_24, ok_84_24, gf_84_25, ok_84_25, gf_84_26, ok_84_26, gf_84_27, ok_84_27, gf_84_28, ok_84_28, gf_84_29, gf_84_30, ux_s, hT2.1, ct_s, ct_n, ↓bI_01, bI_eq0, bI_eq1, nI_10, nI_01, dec_f, dec_t, if_n, eq_self, true_or, or_true, if_true, if_false, reduceIte]
    rw [if_neg (nI_ge (a := i) (b := t) (by omega) (by omega))]
    simp only [↓s201_16, ↓s201_17, ↓s201_20, ↓s201_21, ↓s201_24, ↓s201_25, ↓s201_27, jc_84, gf_84_0, gf_84_1, gf_84_2, gf_84_3, gf_84_4, ok_84_4, gf_84_5, ok_84_5, gf_84_6, ok_84_6, gf_84_7, ok_84_7, gf_84_8, ok_84_8, gf_84_9, ok_84_9, gf_84_10, gf_84_11, gf_84_12, gf_84_13, gf_84_14, gf_84_15, gf_84_16, gf_84_17, ok_84_17, gf_84_18, gf_84_19, ok_84_19, gf_84_20, ok_84_20, gf_84_21, gf_84_22, gf_84_23, gf_84_24, ok_84_24, gf_84_25, ok_84_25, gf_84_26, ok_84_26, gf_84_27, ok_84_27, gf_84_28, ok_84_28, gf_84_29, gf_84_30, ux_s, al99 hT2 (show i < t by omega), ct_s, ct_n, ↓bI_01, bI_eq0, bI_eq1, nI_10, nI_01, dec_f, dec_t, if_n, eq_self, true_or, or_true, if_true, if_false, reduceIte]
    rw [show skF B (c + 1) i = if B i = 32 then skF B c (i + 1) else i from rfl]
    by_cases hb : B i = 32
    · rw [if_pos (by rw [hb]), if_pos hb]
      simp only [↓s201_30, ↓s201_31, ↓s201_32, ↓s201_35, ↓s201_36, ↓s201_37, ↓s201_40, jc_84, gf_84_0, gf_84_1, gf_84_2, gf_84_3, gf_84_4, ok_84_4, gf_84_5, ok_84_5, gf_84_6, ok_84_6, gf_84_7, ok_84_7, gf_84_8, ok_84_8, gf_84_9, ok_84_9, gf_84_10, gf_84_11, gf_84_12, gf_84_13, gf_84_14, gf_84_15, gf_84_16, gf_84_17, ok_84_17, gf_84_18, gf_84_19, ok_84_19, gf_84_20, ok_84_20, gf_84_21, gf_84_22, gf_84_23, gf_84_24, ok_84_24, gf_84_25, ok_84_25, gf_84_26, ok_84_26, gf_84_27, ok_84_27, gf_84_28, ok_84_28, gf_84_29, gf_84_30, ux_s, nI_add, ux_ux, ct_s, ct_n, ↓bI_01, bI_eq0, bI_eq1, nI_10, nI_01, dec_f, dec_t, if_n, eq_self, true_or, or_true, if_true, if_false, reduceIte]
      exact ih
    · rw [if_neg (fun q => hb ((nI_eq (a := B i) (b := 32) (by omega) (by omega)).mp q)), if_neg hb]
theorem l201b {y1 : Value} {y2 : Int32} (hT : TXm M B t) (h5 : M 84 25 = nI p) (h7 : M 84 27 = nI k) (hk : k = 1 ∨ k = 2) : ∀ c j, j + c = t → p < j → ∀ y4 : Value, ∃ (z3 : Int32) (z4 : Value), ∀ (S : ax_S) (d n : Nat) (Q : Option Value → Nat → ax_H → Prop), ax_W (d + 2) 201 136 [.ref 84, y1, .int y2, .int (nI 1), y4] [] n (hx S (ux M 84 26 (nI (j - p))) N) Q = ax_W (d + 2) 201 215 [.ref 84, y1, .int y2, .int z3, z4] [] n (hx S (ux M 84 26 (nI (enF B k c j - p))) N) Q := by
  have t1 := hT.2.1
  intro c
  induction c with
  | zero =>
    intro j hj hp y4
    have hT2 := TXm_84 (j := 26) (x := nI (j - p)) (by decide) hT
    have e5 : ux M 84 26 (nI (j - p)) 84 25 = nI p := by rw [ux_j (by decide)]; exact h5
    refine ⟨nI 1, y4, fun S d n Q => ?_⟩
    simp only [↓s201_136, ↓s201_137, ↓s201_140, ↓s201_141, ↓s201_144, ↓s201_145, ↓s201_148, ↓s201_149, ↓s201_150, ↓s201_153, jc_84, gf_84_0, gf_84_1, gf_84_2, gf_84_3, gf_84_4, ok_84_4, gf_84_5, ok_84_5, gf_84_6, ok_84_6, gf_84_7, ok_84_7, gf_84_8, ok_84_8, gf_84_9, ok_84_9, gf_84_10, gf_84_11, gf_84_12, gf_84_13, gf_84_14, gf_84_15, gf_84_16, gf_84_17, ok_84_17, gf_84_18, gf_84_19, ok_84_19, gf_84_20, ok_84_20, gf_84_21, gf_84_22, gf_84_23, gf_84_24, ok_84_24, gf_84_25, ok_84_25, gf_84_26, ok_84_26, gf_84_27, ok_84_27, gf_84_28, ok_84_28, gf_84_29, gf_84_30, e5, ux_s, hT2.1, nI_add, show p + (j - p) = j by omega, ct_s, ct_n, ↓bI_01, bI_eq0, bI_eq1, nI_10, nI_01, dec_f, dec_t, if_n, eq_self, true_or, or_true, if_true, if_false, reduceIte]
    rw [if_pos (nI_le (a := t) (b := j) (by omega) (by omega))]
    rfl
  | succ c ih =>
    intro j hj hp y4
    have hT2 := TXm_84 (j := 26) (x := nI (j - p)) (by decide) hT
    have e5 : ux M 84 26 (nI (j - p)) 84 25 = nI p := by rw [ux_j (by decide)]; exact h5
    have e7 : ux M 84 26 (nI (j - p)) 84 27 = nI k := by rw [ux_j (by decide)]; exact h7
    have b1 := (hT.2.2 j (by omega)).2
    obtain ⟨z3, z4, g⟩ := ih (j + 1) (by omega) (by omega) (.int (nI (B j)))
    have pre : ∀ (S : ax_S) (d n : Nat) (Q : Option Value → Nat → ax_H → Prop), ax_W (d + 2) 201 136 [.ref 84, y1, .int y2, .int (nI 1), y4] [] n (hx S (ux M 84 26 (nI (j - p))) N) Q = ax_W (d + 2) 201 193 [.ref 84, y1, .int y2, .int (nI 1), .int (nI (B j))] [.int (bI (decide (srt (B j) = k)))] n (hx S (ux M 84 26 (nI (j - p))) N) Q := by
      intro S d n Q
      simp only [↓s201_136, ↓s201_137, ↓s201_140, ↓s201_141, ↓s201_144, ↓s201_145, ↓s201_148, ↓s201_149, ↓s201_150, ↓s201_153, jc_84, gf_84_0, gf_84_1, gf_84_2, gf_84_3, gf_84_4, ok_84_4, gf_84_5, ok_84_5, gf_84_6, ok_84_6, gf_84_7, ok_84_7, gf_84_8, ok_84_8, gf_84_9, ok_84_9, gf_84_10, gf_84_11, gf_84_12, gf_84_13, gf_84_14, gf_84_15, gf_84_16, gf_84_17, ok_84_17, gf_84_18, gf_84_19, ok_84_19, gf_84_20, ok_84_20, gf_84_21, gf_84_22, gf_84_23, gf_84_24, ok_84_24, gf_84_25, ok_84_25, gf_84_26, ok_84_26, gf_84_27, ok_84_27, gf_84_28, ok_84_28, gf_84_29, gf_84_30, e5, ux_s, hT2.1, nI_add, show p + (j - p) = j by omega, ct_s, ct_n, ↓bI_01, bI_eq0, bI_eq1, nI_10, nI_01, dec_f, dec_t, if_n, eq_self, true_or, or_true, if_true, if_false, reduceIte]
      rw [if_neg (nI_ge (a := j) (b := t) (by omega) (by omega))]
      simp only [↓s201_156, ↓s201_157, ↓s201_160, ↓s201_161, ↓s201_164, ↓s201_165, ↓s201_168, ↓s201_169, ↓s201_170, ↓s201_172, ↓s201_173, ↓s201_176, ↓s201_177, jc_84, gf_84_0, gf_84_1, gf_84_2, gf_84_3, gf_84_4, ok_84_4, gf_84_5, ok_84_5, gf_84_6, ok_84_6, gf_84_7, ok_84_7, gf_84_8, ok_84_8, gf_84_9, ok_84_9, gf_84_10, gf_84_11, gf_84_12, gf_84_13, gf_84_14, gf_84_15, gf_84_16, gf_84_17, ok_84_17, gf_84_18, gf_84_19, ok_84_19, gf_84_20, ok_84_20, gf_84_21, gf_84_22, gf_84_23, gf_84_24, ok_84_24, gf_84_25, ok_84_25, gf_84_26, ok_84_26, gf_84_27, ok_84_27, gf_84_28, ok_84_28, gf_84_29, gf_84_30, e5, e7, ux_s, nI_add, show p + (j - p) = j by omega, al99 hT2 (show j < t by omega), ct_s, ct_n, ↓bI_01, bI_eq0, bI_eq1, nI_10, nI_01, dec_f, dec_t, if_n, eq_self, true_or, or_true, if_true, if_false, reduceIte]
      rcases hk with rfl | rfl
      · simp only [↓s201_180, ↓s201_182, ↓s201_185, ↓c199 b1, ct_s, ct_n, ↓bI_01, bI_eq0, bI_eq1, nI_10, nI_01, dec_f, dec_t, if_n, eq_self, true_or, or_true, if_true, if_false, reduceIte]
      · simp only [show ¬ nI 2 = nI 1 by decide, ct_s, ct_n, ↓bI_01, bI_eq0, bI_eq1, nI_10, nI_01, dec_f, dec_t, if_n, eq_self, true_or, or_true, if_true, if_false, reduceIte]
        simp only [↓s201_188, ↓s201_190, ↓c200 b1, ct_s, ct_n, ↓bI_01, bI_eq0, bI_eq1, nI_10, nI_01, dec_f, dec_t, if_n, eq_self, true_or, or_true, if_true, if_false, reduceIte]
    rw [show enF B k (c + 1) j = if srt (B j) = k then enF B k c (j + 1) else j from rfl]
    by_cases hb : srt (B j) = k
    · rw [if_pos hb]
      refine ⟨z3, z4, fun S d n Q => ?_⟩
      rw [pre, bI_t hb]
      simp only [↓s201_193, ↓s201_194, ↓s201_195, ↓s201_196, ↓s201_199, ↓s201_200, ↓s201_203, ↓s201_204, ↓s201_207, ↓s201_208, ↓s201_209, ↓s201_212, jc_84, gf_84_0, gf_84_1, gf_84_2, gf_84_3, gf_84_4, ok_84_4, gf_84_5, ok_84_5, gf_84_6, ok_84_6, gf_84_7, ok_84_7, gf_84_8, ok_84_8, gf_84_9, ok_84_9, gf_84_10, gf_84_11, gf_84_12, gf_84_13, gf_84_14, gf_84_15, gf_84_16, gf_84_17, ok_84_17, gf_84_18, gf_84_19, ok_84_19, gf_84_20, ok_84_20, gf_84_21, gf_84_22, gf_84_23, gf_84_24, ok_84_24, gf_84_25, ok_84_25, gf_84_26, ok_84_26, gf_84_27, ok_84_27, gf_84_28, ok_84_28, gf_84_29, gf_84_30, ux_s, nI_add, ux_ux, ct_s, ct_n, ↓bI_01, bI_eq0, bI_eq1, nI_10, nI_01, dec_f, dec_t, if_n, eq_self, true_or, or_true, if_true, if_false, reduceIte]
      rw [show j - p + 1 = j + 1 - p by omega]
      exact g S d n Q
    · rw [if_neg hb]
      refine ⟨nI 0, .int (nI (B j)), fun S d n Q => ?_⟩
      rw [pre, bI_f hb]
      simp only [↓s201_193, ↓s201_194, ↓s201_195, ↓s201_196, ↓s201_199, ↓s201_200, ↓s201_203, ↓s201_204, ↓s201_207, ↓s201_208, ↓s201_209, ↓s201_212, jc_84, gf_84_0, gf_84_1, gf_84_2, gf_84_3, gf_84_4, ok_84_4, gf_84_5, ok_84_5, gf_84_6, ok_84_6, gf_84_7, ok_84_7, gf_84_8, ok_84_8, gf_84_9, ok_84_9, gf_84_10, gf_84_11, gf_84_12, gf_84_13, gf_84_14, gf_84_15, gf_84_16, gf_84_17, ok_84_17, gf_84_18, gf_84_19, ok_84_19, gf_84_20, ok_84_20, gf_84_21, gf_84_22, gf_84_23, gf_84_24, ok_84_24, gf_84_25, ok_84_25, gf_84_26, ok_84_26, gf_84_27, ok_84_27, gf_84_28, ok_84_28, gf_84_29, gf_84_30, ux_s, nI_add, ux_ux, Nat.add_zero, ct_s, ct_n, ↓bI_01, bI_eq0, bI_eq1, nI_10, nI_01, dec_f, dec_t, if_n, eq_self, true_or, or_true, if_true, if_false, reduceIte]
      simp only [↓s201_136, ↓s201_137, ct_s, ct_n, ↓bI_01, bI_eq0, bI_eq1, nI_10, nI_01, dec_f, dec_t, if_n, eq_self, true_or, or_true, if_true, if_false, reduceIte]
theorem v201a (hc : B p < 128) : nI 10 * nI 0 + nI (B (p + 0)) - nI 48 = iI (tvZ B p (p + 1)) := by
  unfold tvZ
  rw [if_pos (by omega), Nat.add_zero, iI_nat 10, iI_nat 0, iI_mul, iI_nat (B p), iI_add, iI_nat 48, iI_sub]
  exact congrArg iI (by omega)
theorem v201b : nI 10 * iI (tvZ B p (p + 1)) + nI (B (p + 1)) - nI 48 = iI (tvZ B p (p + 2)) := by
  unfold tvZ
  rw [if_pos (by omega), if_neg (by omega), if_pos (by omega), iI_nat 10, iI_mul, iI_nat (B (p + 1)), iI_add, iI_nat 48, iI_sub]
  rfl
theorem l201c {e : Nat} (hT : TXm M B t) (h5 : M 84 25 = nI p) (h6 : M 84 26 = nI (e - p)) (h7 : M 84 27 = nI k) (h8 : M 84 28 = nI 0) (hp : p < e) (he : e ≤ t) (hk : 1 ≤ k ∧ k ≤ 4) : ∃ M2, (M2 84 27 = nI (if k = 2 ∧ 2 < e - p then 4 else k) ∧ (k = 2 → e - p ≤ 2 → M2 84 28 = iI (tvZ B p e)) ∧ (∀ a, a ≠ 84 → M2 a = M a) ∧ ∀ j, j ≠ 27 → j ≠ 28 → M2 84 j = M 84 j) ∧ ∀ (y1 : Value) (y2 z3 : Int32) (z4 : Value) (S : ax_S) (d n : Nat) (Q : Option Value → Nat → ax_H → Prop), ax_W d 201 215 [.ref 84, y1, .int y2, .int z3, z4] [] n (hx S M N) Q = Q none n (hx S M2 N) := by
  have t1 := hT.2.1
  by_cases k2 : k = 2
  · subst k2
    obtain ⟨M1, hM1⟩ : ∃ M1, M1 = ux M 84 28 (iI (tvZ B p (p + 1))) := ⟨_, rfl⟩
    have hT1 : TXm M1 B t := by rw [hM1]; exact TXm_84 (by decide) hT
    have a5 : M1 84 25 = nI p := by rw [hM1, ux_j (by decide)]; exact h5
    have a6 : M1 84 26 = nI (e - p) := by rw [hM1, ux_j (by decide)]; exact h6
    have a7 : M1 84 27 = nI 2 := by rw [hM1, ux_j (by decide)]; exact h7
    have a8 : M1 84 28 = iI (tvZ B p (p + 1)) := by rw [hM1, ux_s]
    have b0 := (hT.2.2 p (by omega)).2
    have vv := v201a (B := B) b0
    have pre : ∀ (y1 : Value) (y2 z3 : Int32) (z4 : Value) (S : ax_S) (d n : Nat) (Q : Option Value → Nat → ax_H → Prop), ax_W d 201 215 [.ref 84, y1, .int y2, .int z3, z4] [] n (hx S M N) Q = ax_W d 201 218 [.ref 84, y1, .int y2, .int z3, .int (nI 1)] [] n (hx S M1 N) Q := by
      intro y1 y2 z3 z4 S d n Q
      generalize hR : ax_W d 201 218 [.ref 84, y1, .int y2, .int z3, .int (nI 1)] [] n (hx S M1 N) Q = R
      simp only [↓s201_215, ↓s201_216, ↓s201_218, ↓s201_220, ↓s201_221, ↓s201_224, jc_84, gf_84_0, gf_84_1, gf_84_2, gf_84_3, gf_84_4, ok_84_4, gf_84_5, ok_84_5, gf_84_6, ok_84_6, gf_84_7, ok_84_7, gf_84_8, ok_84_8, gf_84_9, ok_84_9, gf_84_10, gf_84_11, gf_84_12, gf_84_13, gf_84_14, gf_84_15, gf_84_16, gf_84_17, ok_84_17, gf_84_18, gf_84_19, ok_84_19, gf_84_20, ok_84_20, gf_84_21, gf_84_22, gf_84_23, gf_84_24, ok_84_24, gf_84_25, ok_84_25, gf_84_26, ok_84_26, gf_84_27, ok_84_27, gf_84_28, ok_84_28, gf_84_29, gf_84_30, h6, ct_s, ct_n, ↓bI_01, bI_eq0, bI_eq1, nI_10, nI_01, dec_f, dec_t, if_n, eq_self, true_or, or_true, if_true, if_false, reduceIte]
      rw [if_neg (nI_ge (a := 0) (b := e - p) (by omega) (by omega))]
      simp only [↓s201_227, ↓s201_229, ↓s201_230, show ¬ nI 2 ≤ nI 0 by decide, ct_s, ct_n, ↓bI_01, bI_eq0, bI_eq1, nI_10, nI_01, dec_f, dec_t, if_n, eq_self, true_or, or_true, if_true, if_false, reduceIte]
      simp only [↓s201_233, ↓s201_234, ↓s201_237, ↓s201_238, ↓s201_241, ↓s201_242, ↓s201_244, ↓s201_245, ↓s201_248, ↓s201_249, ↓s201_250, ↓s201_253, ↓s201_254, ↓s201_257, ↓s201_259, ↓s201_260, ↓s201_261, ↓s201_262, ↓s201_264, ↓s201_265, ↓s201_268, ↓s201_271, jc_84, gf_84_0, gf_84_1, gf_84_2, gf_84_3, gf_84_4, ok_84_4, gf_84_5, ok_84_5, gf_84_6, ok_84_6, gf_84_7, ok_84_7, gf_84_8, ok_84_8, gf_84_9, ok_84_9, gf_84_10, gf_84_11, gf_84_12, gf_84_13, gf_84_14, gf_84_15, gf_84_16, gf_84_17, ok_84_17, gf_84_18, gf_84_19, ok_84_19, gf_84_20, ok_84_20, gf_84_21, gf_84_22, gf_84_23, gf_84_24, ok_84_24, gf_84_25, ok_84_25, gf_84_26, ok_84_26, gf_84_27, ok_84_27, gf_84_28, ok_84_28, gf_84_29, gf_84_30, h5, h7, h8, nI_add, al99 hT (show p + 0 < t by omega), vv, ← hM1, ct_s, ct_n, ↓bI_01, bI_eq0, bI_eq1, nI_10, nI_01, dec_f, dec_t, if_n, eq_self, true_or, or_true, if_true, if_false, reduceIte]
      exact hR
    by_cases l1 : e - p = 1
    · have ee : e = p + 1 := by omega
      refine ⟨ux M1 84 27 (nI 2), ⟨?_, fun _ _ => ?_, fun a ha => ?_, fun j h1 h2 => ?_⟩, fun y1 y2 z3 z4 S d n Q => ?_⟩
      · rw [ux_s, if_neg (by omega)]
      · rw [ux_j (by decide), a8, ee]
      · rw [ux_f ha, hM1, ux_f ha]
      · rw [ux_j h1, hM1, ux_j h2]
      · rw [pre]
        simp only [↓s201_218, ↓s201_220, ↓s201_221, ↓s201_224, jc_84, gf_84_0, gf_84_1, gf_84_2, gf_84_3, gf_84_4, ok_84_4, gf_84_5, ok_84_5, gf_84_6, ok_84_6, gf_84_7, ok_84_7, gf_84_8, ok_84_8, gf_84_9, ok_84_9, gf_84_10, gf_84_11, gf_84_12, gf_84_13, gf_84_14, gf_84_15, gf_84_16, gf_84_17, ok_84_17, gf_84_18, gf_84_19, ok_84_19, gf_84_20, ok_84_20, gf_84_21, gf_84_22, gf_84_23, gf_84_24, ok_84_24, gf_84_25, ok_84_25, gf_84_26, ok_84_26, gf_84_27, ok_84_27, gf_84_28, ok_84_28, gf_84_29, gf_84_30, a6, l1, show nI 1 ≤ nI 1 by decide, ct_s, ct_n, ↓bI_01, bI_eq0, bI_eq1, nI_10, nI_01, dec_f, dec_t, if_n, eq_self, true_or, or_true, if_true, if_false, reduceIte]
        simp only [↓s201_274, ↓s201_275, ↓s201_276, ↓s201_279, ↓s201_280, ↓s201_283, ↓s201_284, ↓s201_287, ↓s201_288, ↓s201_291, ↓s201_292, ↓s201_295, ↓s201_296, ↓s201_299, jc_84, gf_84_0, gf_84_1, gf_84_2, gf_84_3, gf_84_4, ok_84_4, gf_84_5, ok_84_5, gf_84_6, ok_84_6, gf_84_7, ok_84_7, gf_84_8, ok_84_8, gf_84_9, ok_84_9, gf_84_10, gf_84_11, gf_84_12, gf_84_13, gf_84_14, gf_84_15, gf_84_16, gf_84_17, ok_84_17, gf_84_18, gf_84_19, ok_84_19, gf_84_20, ok_84_20, gf_84_21, gf_84_22, gf_84_23, gf_84_24, ok_84_24, gf_84_25, ok_84_25, gf_84_26, ok_84_26, gf_84_27, ok_84_27, gf_84_28, ok_84_28, gf_84_29, gf_84_30, a6, a7, l1, show nI 1 ≤ nI 2 by decide, ct_s, ct_n, ↓bI_01, bI_eq0, bI_eq1, nI_10, nI_01, dec_f, dec_t, if_n, eq_self, true_or, or_true, if_true, if_false, reduceIte]
        simp only [↓s201_302, ct_s, ct_n, ↓bI_01, bI_eq0, bI_eq1, nI_10, nI_01, dec_f, dec_t, if_n, eq_self, true_or, or_true, if_true, if_false, reduceIte]
    · obtain ⟨M3, hM3⟩ : ∃ M3, M3 = ux M1 84 28 (iI (tvZ B p (p + 2))) := ⟨_, rfl⟩
      have c6 : M3 84 26 = nI (e - p) := by rw [hM3, ux_j (by decide)]; exact a6
      have c7 : M3 84 27 = nI 2 := by rw [hM3, ux_j (by decide)]; exact a7
      have c8 : M3 84 28 = iI (tvZ B p (p + 2)) := by rw [hM3, ux_s]
      have o3 : ∀ a, a ≠ 84 → M3 a = M a := fun a ha => by rw [hM3, ux_f ha, hM1, ux_f ha]
      have j3 : ∀ j, j ≠ 28 → M3 84 j = M 84 j := fun j h2 => by rw [hM3, ux_j h2, hM1, ux_j h2]
      have vw := v201b (B := B) (p := p)
      have pre2 : ∀ (y1 : Value) (y2 z3 : Int32) (z4 : Value) (S : ax_S) (d n : Nat) (Q : Option Value → Nat → ax_H → Prop), ax_W d 201 215 [.ref 84, y1, .int y2, .int z3, z4] [] n (hx S M N) Q = ax_W d 201 274 [.ref 84, y1, .int y2, .int z3, .int (nI 2)] [] n (hx S M3 N) Q := by
        intro y1 y2 z3 z4 S d n Q
        rw [pre]
        simp only [↓s201_218, ↓s201_220, ↓s201_221, ↓s201_224, jc_84, gf_84_0, gf_84_1, gf_84_2, gf_84_3, gf_84_4, ok_84_4, gf_84_5, ok_84_5, gf_84_6, ok_84_6, gf_84_7, ok_84_7, gf_84_8, ok_84_8, gf_84_9, ok_84_9, gf_84_10, gf_84_11, gf_84_12, gf_84_13, gf_84_14, gf_84_15, gf_84_16, gf_84_17, ok_84_17, gf_84_18, gf_84_19, ok_84_19, gf_84_20, ok_84_20, gf_84_21, gf_84_22, gf_84_23, gf_84_24, ok_84_24, gf_84_25, ok_84_25, gf_84_26, ok_84_26, gf_84_27, ok_84_27, gf_84_28, ok_84_28, gf_84_29, gf_84_30, a6, ct_s, ct_n, ↓bI_01, bI_eq0, bI_eq1, nI_10, nI_01, dec_f, dec_t, if_n, eq_self, true_or, or_true, if_true, if_false, reduceIte]
        rw [if_neg (nI_ge (a := 1) (b := e - p) (by omega) (by omega))]
        simp only [↓s201_227, ↓s201_229, ↓s201_230, show ¬ nI 2 ≤ nI 1 by decide, ct_s, ct_n, ↓bI_01, bI_eq0, bI_eq1, nI_10, nI_01, dec_f, dec_t, if_n, eq_self, true_or, or_true, if_true, if_false, reduceIte]
        simp only [↓s201_233, ↓s201_234, ↓s201_237, ↓s201_238, ↓s201_241, ↓s201_242, ↓s201_244, ↓s201_245, ↓s201_248, ↓s201_249, ↓s201_250, ↓s201_253, ↓s201_254, ↓s201_257, ↓s201_259, ↓s201_260, ↓s201_261, ↓s201_262, ↓s201_264, ↓s201_265, ↓s201_268, ↓s201_271, jc_84, gf_84_0, gf_84_1, gf_84_2, gf_84_3, gf_84_4, ok_84_4, gf_84_5, ok_84_5, gf_84_6, ok_84_6, gf_84_7, ok_84_7, gf_84_8, ok_84_8, gf_84_9, ok_84_9, gf_84_10, gf_84_11, gf_84_12, gf_84_13, gf_84_14, gf_84_15, gf_84_16, gf_84_17, ok_84_17, gf_84_18, gf_84_19, ok_84_19, gf_84_20, ok_84_20, gf_84_21, gf_84_22, gf_84_23, gf_84_24, ok_84_24, gf_84_25, ok_84_25, gf_84_26, ok_84_26, gf_84_27, ok_84_27, gf_84_28, ok_84_28, gf_84_29, gf_84_30, a5, a7, a8, nI_add, al99 hT1 (show p + 1 < t by omega), vw, ← hM3, ct_s, ct_n, ↓bI_01, bI_eq0, bI_eq1, nI_10, nI_01, dec_f, dec_t, if_n, eq_self, true_or, or_true, if_true, if_false, reduceIte]
        simp only [↓s201_218, ↓s201_220, ↓s201_221, ↓s201_224, jc_84, gf_84_0, gf_84_1, gf_84_2, gf_84_3, gf_84_4, ok_84_4, gf_84_5, ok_84_5, gf_84_6, ok_84_6, gf_84_7, ok_84_7, gf_84_8, ok_84_8, gf_84_9, ok_84_9, gf_84_10, gf_84_11, gf_84_12, gf_84_13, gf_84_14, gf_84_15, gf_84_16, gf_84_17, ok_84_17, gf_84_18, gf_84_19, ok_84_19, gf_84_20, ok_84_20, gf_84_21, gf_84_22, gf_84_23, gf_84_24, ok_84_24, gf_84_25, ok_84_25, gf_84_26, ok_84_26, gf_84_27, ok_84_27, gf_84_28, ok_84_28, gf_84_29, gf_84_30, c6, ct_s, ct_n, ↓bI_01, bI_eq0, bI_eq1, nI_10, nI_01, dec_f, dec_t, if_n, eq_self, true_or, or_true, if_true, if_false, reduceIte]
        by_cases l2 : e - p = 2
        · rw [if_pos (nI_le (a := e - p) (b := 2) (by omega) (by omega))]
        · rw [if_neg (nI_ge (a := 2) (b := e - p) (by omega) (by omega))]
          simp only [↓s201_227, ↓s201_229, ↓s201_230, show nI 2 ≤ nI 2 by decide, ct_s, ct_n, ↓bI_01, bI_eq0, bI_eq1, nI_10, nI_01, dec_f, dec_t, if_n, eq_self, true_or, or_true, if_true, if_false, reduceIte]
      by_cases l2 : e - p = 2
      · have ee : e = p + 2 := by omega
        refine ⟨ux M3 84 27 (nI 2), ⟨?_, fun _ _ => ?_, fun a ha => ?_, fun j h1 h2 => ?_⟩, fun y1 y2 z3 z4 S d n Q => ?_⟩
        · rw [ux_s, if_neg (by omega)]
        · rw [ux_j (by decide), c8, ee]
        · rw [ux_f ha, o3 a ha]
        · rw [ux_j h1, j3 j h2]
        · rw [pre2]
          simp only [↓s201_274, ↓s201_275, ↓s201_276, ↓s201_279, ↓s201_280, ↓s201_283, ↓s201_284, ↓s201_287, ↓s201_288, ↓s201_291, ↓s201_292, ↓s201_295, ↓s201_296, ↓s201_299, jc_84, gf_84_0, gf_84_1, gf_84_2, gf_84_3, gf_84_4, ok_84_4, gf_84_5, ok_84_5, gf_84_6, ok_84_6, gf_84_7, ok_84_7, gf_84_8, ok_84_8, gf_84_9, ok_84_9, gf_84_10, gf_84_11, gf_84_12, gf_84_13, gf_84_14, gf_84_15, gf_84_16, gf_84_17, ok_84_17, gf_84_18, gf_84_19, ok_84_19, gf_84_20, ok_84_20, gf_84_21, gf_84_22, gf_84_23, gf_84_24, ok_84_24, gf_84_25, ok_84_25, gf_84_26, ok_84_26, gf_84_27, ok_84_27, gf_84_28, ok_84_28, gf_84_29, gf_84_30, c6, c7, l2, show nI 2 ≤ nI 2 by decide, ct_s, ct_n, ↓bI_01, bI_eq0, bI_eq1, nI_10, nI_01, dec_f, dec_t, if_n, eq_self, true_or, or_true, if_true, if_false, reduceIte]
          simp only [↓s201_302, ct_s, ct_n, ↓bI_01, bI_eq0, bI_eq1, nI_10, nI_01, dec_f, dec_t, if_n, eq_self, true_or, or_true, if_true, if_false, reduceIte]
      · refine ⟨ux M3 84 27 (nI 4), ⟨?_, fun _ q => absurd q (by omega), fun a ha => ?_, fun j h1 h2 => ?_⟩, fun y1 y2 z3 z4 S d n Q => ?_⟩
        · rw [ux_s, if_pos ⟨rfl, by omega⟩]
        · rw [ux_f ha, o3 a ha]
        · rw [ux_j h1, j3 j h2]
        · rw [pre2]
          simp only [↓s201_274, ↓s201_275, ↓s201_276, ↓s201_279, ↓s201_280, ↓s201_283, ↓s201_284, ↓s201_287, ↓s201_288, jc_84, gf_84_0, gf_84_1, gf_84_2, gf_84_3, gf_84_4, ok_84_4, gf_84_5, ok_84_5, gf_84_6, ok_84_6, gf_84_7, ok_84_7, gf_84_8, ok_84_8, gf_84_9, ok_84_9, gf_84_10, gf_84_11, gf_84_12, gf_84_13, gf_84_14, gf_84_15, gf_84_16, gf_84_17, ok_84_17, gf_84_18, gf_84_19, ok_84_19, gf_84_20, ok_84_20, gf_84_21, gf_84_22, gf_84_23, gf_84_24, ok_84_24, gf_84_25, ok_84_25, gf_84_26, ok_84_26, gf_84_27, ok_84_27, gf_84_28, ok_84_28, gf_84_29, gf_84_30, c6, c7, ct_s, ct_n, ↓bI_01, bI_eq0, bI_eq1, nI_10, nI_01, dec_f, dec_t, if_n, eq_self, true_or, or_true, if_true, if_false, reduceIte]
          rw [if_neg (nI_ge (a := 2) (b := e - p) (by omega) (by omega))]
          simp only [↓s201_291, ↓s201_292, ↓s201_295, ↓s201_296, ↓s201_299, ↓s201_302, jc_84, gf_84_0, gf_84_1, gf_84_2, gf_84_3, gf_84_4, ok_84_4, gf_84_5, ok_84_5, gf_84_6, ok_84_6, gf_84_7, ok_84_7, gf_84_8, ok_84_8, gf_84_9, ok_84_9, gf_84_10, gf_84_11, gf_84_12, gf_84_13, gf_84_14, gf_84_15, gf_84_16, gf_84_17, ok_84_17, gf_84_18, gf_84_19, ok_84_19, gf_84_20, ok_84_20, gf_84_21, gf_84_22, gf_84_23, gf_84_24, ok_84_24, gf_84_25, ok_84_25, gf_84_26, ok_84_26, gf_84_27, ok_84_27, gf_84_28, ok_84_28, gf_84_29, gf_84_30, ct_s, ct_n, ↓bI_01, bI_eq0, bI_eq1, nI_10, nI_01, dec_f, dec_t, if_n, eq_self, true_or, or_true, if_true, if_false, reduceIte]
  · have nk : ¬ nI k = nI 2 := fun q => k2 ((nI_eq (a := k) (b := 2) (by omega) (by omega)).mp q)
    refine ⟨ux M 84 27 (nI k), ⟨?_, fun q => absurd q k2, fun a ha => ux_f ha, fun j h1 _ => ux_j h1⟩, fun y1 y2 z3 z4 S d n Q => ?_⟩
    · rw [ux_s, if_neg (fun q => k2 q.1)]
    · simp only [↓s201_215, ↓s201_216, ↓s201_218, ↓s201_220, ↓s201_221, ↓s201_224, jc_84, gf_84_0, gf_84_1, gf_84_2, gf_84_3, gf_84_4, ok_84_4, gf_84_5, ok_84_5, gf_84_6, ok_84_6, gf_84_7, ok_84_7, gf_84_8, ok_84_8, gf_84_9, ok_84_9, gf_84_10, gf_84_11, gf_84_12, gf_84_13, gf_84_14, gf_84_15, gf_84_16, gf_84_17, ok_84_17, gf_84_18, gf_84_19, ok_84_19, gf_84_20, ok_84_20, gf_84_21, gf_84_22, gf_84_23, gf_84_24, ok_84_24, gf_84_25, ok_84_25, gf_84_26, ok_84_26, gf_84_27, ok_84_27, gf_84_28, ok_84_28, gf_84_29, gf_84_30, h6, ct_s, ct_n, ↓bI_01, bI_eq0, bI_eq1, nI_10, nI_01, dec_f, dec_t, if_n, eq_self, true_or, or_true, if_true, if_false, reduceIte]
      rw [if_neg (nI_ge (a := 0) (b := e - p) (by omega) (by omega))]
      simp only [↓s201_227, ↓s201_229, ↓s201_230, ↓s201_233, ↓s201_234, ↓s201_237, ↓s201_238, jc_84, gf_84_0, gf_84_1, gf_84_2, gf_84_3, gf_84_4, ok_84_4, gf_84_5, ok_84_5, gf_84_6, ok_84_6, gf_84_7, ok_84_7, gf_84_8, ok_84_8, gf_84_9, ok_84_9, gf_84_10, gf_84_11, gf_84_12, gf_84_13, gf_84_14, gf_84_15, gf_84_16, gf_84_17, ok_84_17, gf_84_18, gf_84_19, ok_84_19, gf_84_20, ok_84_20, gf_84_21, gf_84_22, gf_84_23, gf_84_24, ok_84_24, gf_84_25, ok_84_25, gf_84_26, ok_84_26, gf_84_27, ok_84_27, gf_84_28, ok_84_28, gf_84_29, gf_84_30, h7, nk, show ¬ nI 2 ≤ nI 0 by decide, ct_s, ct_n, ↓bI_01, bI_eq0, bI_eq1, nI_10, nI_01, dec_f, dec_t, if_n, eq_self, true_or, or_true, if_true, if_false, reduceIte]
      simp only [↓s201_274, ↓s201_275, ↓s201_276, ↓s201_279, ↓s201_280, ↓s201_295, ↓s201_296, ↓s201_299, ↓s201_302, jc_84, gf_84_0, gf_84_1, gf_84_2, gf_84_3, gf_84_4, ok_84_4, gf_84_5, ok_84_5, gf_84_6, ok_84_6, gf_84_7, ok_84_7, gf_84_8, ok_84_8, gf_84_9, ok_84_9, gf_84_10, gf_84_11, gf_84_12, gf_84_13, gf_84_14, gf_84_15, gf_84_16, gf_84_17, ok_84_17, gf_84_18, gf_84_19, ok_84_19, gf_84_20, ok_84_20, gf_84_21, gf_84_22, gf_84_23, gf_84_24, ok_84_24, gf_84_25, ok_84_25, gf_84_26, ok_84_26, gf_84_27, ok_84_27, gf_84_28, ok_84_28, gf_84_29, gf_84_30, h7, nk, ct_s, ct_n, ↓bI_01, bI_eq0, bI_eq1, nI_10, nI_01, dec_f, dec_t, if_n, eq_self, true_or, or_true, if_true, if_false, reduceIte]
def RF (M M2 : ax_M) : Prop := (∀ a, a ≠ 84 → M2 a = M a) ∧ ∀ j, ¬ (25 ≤ j ∧ j ≤ 28) → M2 84 j = M 84 j
theorem c201 (hT : TXm M B t) (hi : i ≤ t) : ∃ M2, (LM M2 B t i ∧ RF M M2) ∧ ∀ (S : ax_S) (d n : Nat) (Q : Option Value → Nat → ax_H → Prop), ax_W (d + 2) 201 0 [.ref 84, .int (nI i), ax_dm, ax_dm, ax_dm] [] n (hx S M N) Q = Q none n (hx S M2 N) := by
  have t1 := hT.2.1
  have hp := tkP_bd (B := B) hi
  have hE := tkE_bd (B := B) hi
  obtain ⟨M1, hM1⟩ : ∃ M1, M1 = ux (ux (ux (ux M 84 25 (nI (tkP B t i))) 84 26 (nI 0)) 84 27 (nI 0)) 84 28 (nI 0) := ⟨_, rfl⟩
  have b5 : M1 84 25 = nI (tkP B t i) := by rw [hM1, ux_j (by decide), ux_j (by decide), ux_j (by decide), ux_s]
  have b6 : M1 84 26 = nI 0 := by rw [hM1, ux_j (by decide), ux_j (by decide), ux_s]
  have b7 : M1 84 27 = nI 0 := by rw [hM1, ux_j (by decide), ux_s]
  have b8 : M1 84 28 = nI 0 := by rw [hM1, ux_s]
  have oa : ∀ a, a ≠ 84 → M1 a = M a := fun a ha => by rw [hM1, ux_f ha, ux_f ha, ux_f ha, ux_f ha]
  have oj : ∀ j, ¬ (25 ≤ j ∧ j ≤ 28) → M1 84 j = M 84 j := fun j hj => by rw [hM1, ux_j (by omega), ux_j (by omega), ux_j (by omega), ux_j (by omega)]
  have hT1 : TXm M1 B t := TXm_eq (oj 24 (by omega)) (oa 99 (by decide)) hT
  have pre : ∀ (S : ax_S) (d n : Nat) (Q : Option Value → Nat → ax_H → Prop), ax_W (d + 2) 201 0 [.ref 84, .int (nI i), ax_dm, ax_dm, ax_dm] [] n (hx S M N) Q = ax_W (d + 2) 201 58 [.ref 84, .int (nI i), ax_dm, ax_dm, ax_dm] [] n (hx S M1 N) Q := by
    intro S d n Q
    have h := l201a (d := d + 2) (n := n) (S := S) (N := N) (Q := Q) (y1 := .int (nI i)) (y2 := ax_dm) (y3 := ax_dm) (y4 := ax_dm) hT (t - i) i (by omega)
    simp only [↓s201_0, ↓s201_1, ↓s201_2, jc_84, gf_84_0, gf_84_1, gf_84_2, gf_84_3, gf_84_4, ok_84_4, gf_84_5, ok_84_5, gf_84_6, ok_84_6, gf_84_7, ok_84_7, gf_84_8, ok_84_8, gf_84_9, ok_84_9, gf_84_10, gf_84_11, gf_84_12, gf_84_13, gf_84_14, gf_84_15, gf_84_16, gf_84_17, ok_84_17, gf_84_18, gf_84_19, ok_84_19, gf_84_20, ok_84_20, gf_84_21, gf_84_22, gf_84_23, gf_84_24, ok_84_24, gf_84_25, ok_84_25, gf_84_26, ok_84_26, gf_84_27, ok_84_27, gf_84_28, ok_84_28, gf_84_29, gf_84_30, ct_s, ct_n, ↓bI_01, bI_eq0, bI_eq1, nI_10, nI_01, dec_f, dec_t, if_n, eq_self, true_or, or_true, if_true, if_false, reduceIte]
    rw [h]
    rw [show skF B (t - i) i = tkP B t i from rfl]
    simp only [↓s201_43, ↓s201_44, ↓s201_45, ↓s201_48, ↓s201_49, ↓s201_50, ↓s201_53, ↓s201_54, ↓s201_55, jc_84, gf_84_0, gf_84_1, gf_84_2, gf_84_3, gf_84_4, ok_84_4, gf_84_5, ok_84_5, gf_84_6, ok_84_6, gf_84_7, ok_84_7, gf_84_8, ok_84_8, gf_84_9, ok_84_9, gf_84_10, gf_84_11, gf_84_12, gf_84_13, gf_84_14, gf_84_15, gf_84_16, gf_84_17, ok_84_17, gf_84_18, gf_84_19, ok_84_19, gf_84_20, ok_84_20, gf_84_21, gf_84_22, gf_84_23, gf_84_24, ok_84_24, gf_84_25, ok_84_25, gf_84_26, ok_84_26, gf_84_27, ok_84_27, gf_84_28, ok_84_28, gf_84_29, gf_84_30, ← hM1, ct_s, ct_n, ↓bI_01, bI_eq0, bI_eq1, nI_10, nI_01, dec_f, dec_t, if_n, eq_self, true_or, or_true, if_true, if_false, reduceIte]
  by_cases hpt : tkP B t i < t
  · have eK : tkK B t i = srt (B (tkP B t i)) := by unfold tkK; rw [if_pos hpt]
    have c1 := (hT.2.2 _ hpt).2
    have sb := srt_bd (B (tkP B t i))
    obtain ⟨M3, hM3⟩ : ∃ M3, M3 = ux M1 84 27 (nI (tkK B t i)) := ⟨_, rfl⟩
    have hT3 : TXm M3 B t := by rw [hM3]; exact TXm_84 (by decide) hT1
    have d5 : M3 84 25 = nI (tkP B t i) := by rw [hM3, ux_j (by decide)]; exact b5
    have d7 : M3 84 27 = nI (tkK B t i) := by rw [hM3, ux_s]
    have d8 : M3 84 28 = nI 0 := by rw [hM3, ux_j (by decide)]; exact b8
    have pa : ∀ a, a ≠ 84 → M3 a = M a := fun a ha => by rw [hM3, ux_f ha]; exact oa a ha
    have pj : ∀ j, ¬ (25 ≤ j ∧ j ≤ 28) → M3 84 j = M 84 j := fun j hj => by rw [hM3, ux_j (by omega)]; exact oj j hj
    have pre2 : ∀ (S : ax_S) (d n : Nat) (Q : Option Value → Nat → ax_H → Prop), ax_W (d + 2) 201 0 [.ref 84, .int (nI i), ax_dm, ax_dm, ax_dm] [] n (hx S M N) Q = ax_W (d + 2) 201 117 [.ref 84, .int (nI i), .int (nI (B (tkP B t i))), ax_dm, ax_dm] [] n (hx S M3 N) Q := by
      intro S d n Q
      rw [pre]
      simp only [↓s201_58, ↓s201_59, ↓s201_62, ↓s201_63, ↓s201_66, jc_84, gf_84_0, gf_84_1, gf_84_2, gf_84_3, gf_84_4, ok_84_4, gf_84_5, ok_84_5, gf_84_6, ok_84_6, gf_84_7, ok_84_7, gf_84_8, ok_84_8, gf_84_9, ok_84_9, gf_84_10, gf_84_11, gf_84_12, gf_84_13, gf_84_14, gf_84_15, gf_84_16, gf_84_17, ok_84_17, gf_84_18, gf_84_19, ok_84_19, gf_84_20, ok_84_20, gf_84_21, gf_84_22, gf_84_23, gf_84_24, ok_84_24, gf_84_25, ok_84_25, gf_84_26, ok_84_26, gf_84_27, ok_84_27, gf_84_28, ok_84_28, gf_84_29, gf_84_30, b5, hT1.1, ct_s, ct_n, ↓bI_01, bI_eq0, bI_eq1, nI_10, nI_01, dec_f, dec_t, if_n, eq_self, true_or, or_true, if_true, if_false, reduceIte]
      rw [if_neg (fun q => by have := (nI_eq (a := tkP B t i) (b := t) (by omega) (by omega)).mp q; omega)]
      simp only [↓s201_70, ↓s201_71, ↓s201_74, ↓s201_75, ↓s201_78, ↓s201_79, ↓s201_80, ↓s201_81, ↓s201_82, jc_84, gf_84_0, gf_84_1, gf_84_2, gf_84_3, gf_84_4, ok_84_4, gf_84_5, ok_84_5, gf_84_6, ok_84_6, gf_84_7, ok_84_7, gf_84_8, ok_84_8, gf_84_9, ok_84_9, gf_84_10, gf_84_11, gf_84_12, gf_84_13, gf_84_14, gf_84_15, gf_84_16, gf_84_17, ok_84_17, gf_84_18, gf_84_19, ok_84_19, gf_84_20, ok_84_20, gf_84_21, gf_84_22, gf_84_23, gf_84_24, ok_84_24, gf_84_25, ok_84_25, gf_84_26, ok_84_26, gf_84_27, ok_84_27, gf_84_28, ok_84_28, gf_84_29, gf_84_30, b5, al99 hT1 hpt, ↓c199 c1, ← eK, ct_s, ct_n, ↓bI_01, bI_eq0, bI_eq1, nI_10, nI_01, dec_f, dec_t, if_n, eq_self, true_or, or_true, if_true, if_false, reduceIte]
      rcases (show tkK B t i = 1 ∨ tkK B t i = 2 ∨ tkK B t i = 3 ∨ tkK B t i = 4 by omega) with e | e | e | e
      · rw [e] at hM3
        simp only [↓s201_85, ↓s201_88, ↓s201_89, ↓s201_114, jc_84, gf_84_0, gf_84_1, gf_84_2, gf_84_3, gf_84_4, ok_84_4, gf_84_5, ok_84_5, gf_84_6, ok_84_6, gf_84_7, ok_84_7, gf_84_8, ok_84_8, gf_84_9, ok_84_9, gf_84_10, gf_84_11, gf_84_12, gf_84_13, gf_84_14, gf_84_15, gf_84_16, gf_84_17, ok_84_17, gf_84_18, gf_84_19, ok_84_19, gf_84_20, ok_84_20, gf_84_21, gf_84_22, gf_84_23, gf_84_24, ok_84_24, gf_84_25, ok_84_25, gf_84_26, ok_84_26, gf_84_27, ok_84_27, gf_84_28, ok_84_28, gf_84_29, gf_84_30, e, ← hM3, ct_s, ct_n, ↓bI_01, bI_eq0, bI_eq1, nI_10, nI_01, dec_f, dec_t, if_n, eq_self, true_or, or_true, if_true, if_false, reduceIte]
      · rw [e] at hM3
        simp only [↓s201_85, ↓s201_92, ↓s201_93, ↓s201_96, ↓s201_99, ↓s201_100, ↓s201_114, jc_84, gf_84_0, gf_84_1, gf_84_2, gf_84_3, gf_84_4, ok_84_4, gf_84_5, ok_84_5, gf_84_6, ok_84_6, gf_84_7, ok_84_7, gf_84_8, ok_84_8, gf_84_9, ok_84_9, gf_84_10, gf_84_11, gf_84_12, gf_84_13, gf_84_14, gf_84_15, gf_84_16, gf_84_17, ok_84_17, gf_84_18, gf_84_19, ok_84_19, gf_84_20, ok_84_20, gf_84_21, gf_84_22, gf_84_23, gf_84_24, ok_84_24, gf_84_25, ok_84_25, gf_84_26, ok_84_26, gf_84_27, ok_84_27, gf_84_28, ok_84_28, gf_84_29, gf_84_30, ↓c200 c1, ← eK, e, show ¬ (2 : Nat) = 1 by decide, ← hM3, ct_s, ct_n, ↓bI_01, bI_eq0, bI_eq1, nI_10, nI_01, dec_f, dec_t, if_n, eq_self, true_or, or_true, if_true, if_false, reduceIte]
      · rw [e] at hM3
        have q59 : B (tkP B t i) = 59 := by
          rw [eK] at e
          unfold srt at e
          split at e
          · omega
          · split at e
            · omega
            · split at e
              · assumption
              · omega
        simp only [↓s201_85, ↓s201_92, ↓s201_93, ↓s201_96, ↓s201_99, ↓s201_100, ↓s201_103, ↓s201_104, ↓s201_106, jc_84, gf_84_0, gf_84_1, gf_84_2, gf_84_3, gf_84_4, ok_84_4, gf_84_5, ok_84_5, gf_84_6, ok_84_6, gf_84_7, ok_84_7, gf_84_8, ok_84_8, gf_84_9, ok_84_9, gf_84_10, gf_84_11, gf_84_12, gf_84_13, gf_84_14, gf_84_15, gf_84_16, gf_84_17, ok_84_17, gf_84_18, gf_84_19, ok_84_19, gf_84_20, ok_84_20, gf_84_21, gf_84_22, gf_84_23, gf_84_24, ok_84_24, gf_84_25, ok_84_25, gf_84_26, ok_84_26, gf_84_27, ok_84_27, gf_84_28, ok_84_28, gf_84_29, gf_84_30, ↓c200 c1, ← eK, e, show ¬ (3 : Nat) = 1 by decide, show ¬ (3 : Nat) = 2 by decide, ct_s, ct_n, ↓bI_01, bI_eq0, bI_eq1, nI_10, nI_01, dec_f, dec_t, if_n, eq_self, true_or, or_true, if_true, if_false, reduceIte]
        rw [q59]
        simp only [↓s201_109, ↓s201_110, ↓s201_113, ↓s201_114, jc_84, gf_84_0, gf_84_1, gf_84_2, gf_84_3, gf_84_4, ok_84_4, gf_84_5, ok_84_5, gf_84_6, ok_84_6, gf_84_7, ok_84_7, gf_84_8, ok_84_8, gf_84_9, ok_84_9, gf_84_10, gf_84_11, gf_84_12, gf_84_13, gf_84_14, gf_84_15, gf_84_16, gf_84_17, ok_84_17, gf_84_18, gf_84_19, ok_84_19, gf_84_20, ok_84_20, gf_84_21, gf_84_22, gf_84_23, gf_84_24, ok_84_24, gf_84_25, ok_84_25, gf_84_26, ok_84_26, gf_84_27, ok_84_27, gf_84_28, ok_84_28, gf_84_29, gf_84_30, ← hM3, ct_s, ct_n, ↓bI_01, bI_eq0, bI_eq1, nI_10, nI_01, dec_f, dec_t, if_n, eq_self, true_or, or_true, if_true, if_false, reduceIte]
      · rw [e] at hM3
        have q59 : ¬ B (tkP B t i) = 59 := by
          intro q
          rw [eK, q] at e
          exact absurd e (by decide)
        simp only [↓s201_85, ↓s201_92, ↓s201_93, ↓s201_96, ↓s201_99, ↓s201_100, ↓s201_103, ↓s201_104, ↓s201_106, jc_84, gf_84_0, gf_84_1, gf_84_2, gf_84_3, gf_84_4, ok_84_4, gf_84_5, ok_84_5, gf_84_6, ok_84_6, gf_84_7, ok_84_7, gf_84_8, ok_84_8, gf_84_9, ok_84_9, gf_84_10, gf_84_11, gf_84_12, gf_84_13, gf_84_14, gf_84_15, gf_84_16, gf_84_17, ok_84_17, gf_84_18, gf_84_19, ok_84_19, gf_84_20, ok_84_20, gf_84_21, gf_84_22, gf_84_23, gf_84_24, ok_84_24, gf_84_25, ok_84_25, gf_84_26, ok_84_26, gf_84_27, ok_84_27, gf_84_28, ok_84_28, gf_84_29, gf_84_30, ↓c200 c1, ← eK, e, show ¬ (4 : Nat) = 1 by decide, show ¬ (4 : Nat) = 2 by decide, ct_s, ct_n, ↓bI_01, bI_eq0, bI_eq1, nI_10, nI_01, dec_f, dec_t, if_n, eq_self, true_or, or_true, if_true, if_false, reduceIte]
        rw [if_neg (fun q => q59 ((nI_eq (a := B (tkP B t i)) (b := 59) (by omega) (by omega)).mp q))]
        simp only [↓s201_113, ↓s201_114, jc_84, gf_84_0, gf_84_1, gf_84_2, gf_84_3, gf_84_4, ok_84_4, gf_84_5, ok_84_5, gf_84_6, ok_84_6, gf_84_7, ok_84_7, gf_84_8, ok_84_8, gf_84_9, ok_84_9, gf_84_10, gf_84_11, gf_84_12, gf_84_13, gf_84_14, gf_84_15, gf_84_16, gf_84_17, ok_84_17, gf_84_18, gf_84_19, ok_84_19, gf_84_20, ok_84_20, gf_84_21, gf_84_22, gf_84_23, gf_84_24, ok_84_24, gf_84_25, ok_84_25, gf_84_26, ok_84_26, gf_84_27, ok_84_27, gf_84_28, ok_84_28, gf_84_29, gf_84_30, ← hM3, ct_s, ct_n, ↓bI_01, bI_eq0, bI_eq1, nI_10, nI_01, dec_f, dec_t, if_n, eq_self, true_or, or_true, if_true, if_false, reduceIte]
    have fin : ∀ M4 : ax_M, (∀ j, j ≠ 26 → M4 84 j = M3 84 j) → (∀ a, a ≠ 84 → M4 a = M3 a) → M4 84 26 = nI (tkE B t i - tkP B t i) → ∃ M2, (LM M2 B t i ∧ RF M M2) ∧ ∀ (y1 : Value) (y2 z3 : Int32) (z4 : Value) (S : ax_S) (d n : Nat) (Q : Option Value → Nat → ax_H → Prop), ax_W d 201 215 [.ref 84, y1, .int y2, .int z3, z4] [] n (hx S M4 N) Q = Q none n (hx S M2 N) := by
      intro M4 h1 h2 h3
      obtain ⟨M2, ⟨f1, f2, f3, f4⟩, g⟩ := l201c (N := N) (M := M4) (k := tkK B t i) (TXm_eq (h1 24 (by decide)) (h2 99 (by decide)) hT3) ((h1 25 (by decide)).trans d5) h3 ((h1 27 (by decide)).trans d7) ((h1 28 (by decide)).trans d8) (hE.2.2 hpt) hE.2.1 (by omega)
      refine ⟨M2, ⟨⟨?_, ?_, f1, fun q => ?_⟩, fun a ha => ?_, fun j hj => ?_⟩, g⟩
      · rw [f4 25 (by decide) (by decide), h1 25 (by decide)]; exact d5
      · rw [f4 26 (by decide) (by decide)]; exact h3
      · unfold tkM at q
        by_cases z : tkK B t i = 2 ∧ 2 < tkE B t i - tkP B t i
        · rw [if_pos z] at q; omega
        · rw [if_neg z] at q
          exact f2 q (by omega)
      · rw [f3 a ha, h2 a ha, pa a ha]
      · rw [f4 j (by omega) (by omega), h1 j (by omega), pj j hj]
    by_cases hk : tkK B t i ≤ 2
    · have eE : tkE B t i = enF B (tkK B t i) (t - (tkP B t i + 1)) (tkP B t i + 1) := by unfold tkE; rw [if_pos hpt, if_pos hk]
      obtain ⟨z3, z4, lp⟩ := l201b (N := N) (y1 := .int (nI i)) (y2 := nI (B (tkP B t i))) hT3 d5 d7 (by omega) (t - (tkP B t i + 1)) (tkP B t i + 1) (by omega) (by omega) ax_dm
      rw [← eE, show tkP B t i + 1 - tkP B t i = 1 by omega] at lp
      obtain ⟨M2, f, g⟩ := fin (ux M3 84 26 (nI (tkE B t i - tkP B t i))) (fun j hj => ux_j hj) (fun a ha => ux_f ha) ux_s
      have d7' : ux M3 84 26 (nI 1) 84 27 = nI (tkK B t i) := by rw [ux_j (by decide)]; exact d7
      refine ⟨M2, f, fun S d n Q => ?_⟩
      rw [pre2]
      simp only [↓s201_117, ↓s201_118, ↓s201_119, ↓s201_122, ↓s201_123, ↓s201_126, ↓s201_127, jc_84, gf_84_0, gf_84_1, gf_84_2, gf_84_3, gf_84_4, ok_84_4, gf_84_5, ok_84_5, gf_84_6, ok_84_6, gf_84_7, ok_84_7, gf_84_8, ok_84_8, gf_84_9, ok_84_9, gf_84_10, gf_84_11, gf_84_12, gf_84_13, gf_84_14, gf_84_15, gf_84_16, gf_84_17, ok_84_17, gf_84_18, gf_84_19, ok_84_19, gf_84_20, ok_84_20, gf_84_21, gf_84_22, gf_84_23, gf_84_24, ok_84_24, gf_84_25, ok_84_25, gf_84_26, ok_84_26, gf_84_27, ok_84_27, gf_84_28, ok_84_28, gf_84_29, gf_84_30, d7', ct_s, ct_n, ↓bI_01, bI_eq0, bI_eq1, nI_10, nI_01, dec_f, dec_t, if_n, eq_self, true_or, or_true, if_true, if_false, reduceIte]
      rw [if_neg (nI_ge (a := tkK B t i) (b := 3) (by omega) (by omega))]
      simp only [↓s201_130, ↓s201_131, ↓s201_134, ↓s201_135, ct_s, ct_n, ↓bI_01, bI_eq0, bI_eq1, nI_10, nI_01, dec_f, dec_t, if_n, eq_self, true_or, or_true, if_true, if_false, reduceIte]
      rw [lp, g]
    · have eE : tkE B t i = tkP B t i + 1 := by unfold tkE; rw [if_pos hpt, if_neg hk]
      have e1 : tkE B t i - tkP B t i = 1 := by omega
      obtain ⟨M2, f, g⟩ := fin (ux M3 84 26 (nI 1)) (fun j hj => ux_j hj) (fun a ha => ux_f ha) (by rw [e1, ux_s])
      have d7' : ux M3 84 26 (nI 1) 84 27 = nI (tkK B t i) := by rw [ux_j (by decide)]; exact d7
      refine ⟨M2, f, fun S d n Q => ?_⟩
      rw [pre2]
      simp only [↓s201_117, ↓s201_118, ↓s201_119, ↓s201_122, ↓s201_123, ↓s201_126, ↓s201_127, jc_84, gf_84_0, gf_84_1, gf_84_2, gf_84_3, gf_84_4, ok_84_4, gf_84_5, ok_84_5, gf_84_6, ok_84_6, gf_84_7, ok_84_7, gf_84_8, ok_84_8, gf_84_9, ok_84_9, gf_84_10, gf_84_11, gf_84_12, gf_84_13, gf_84_14, gf_84_15, gf_84_16, gf_84_17, ok_84_17, gf_84_18, gf_84_19, ok_84_19, gf_84_20, ok_84_20, gf_84_21, gf_84_22, gf_84_23, gf_84_24, ok_84_24, gf_84_25, ok_84_25, gf_84_26, ok_84_26, gf_84_27, ok_84_27, gf_84_28, ok_84_28, gf_84_29, gf_84_30, d7', ct_s, ct_n, ↓bI_01, bI_eq0, bI_eq1, nI_10, nI_01, dec_f, dec_t, if_n, eq_self, true_or, or_true, if_true, if_false, reduceIte]
      rw [if_pos (nI_le (a := 3) (b := tkK B t i) (by omega) (by omega))]
      simp only [↓s201_134, ↓s201_135, ↓s201_136, ↓s201_137, ct_s, ct_n, ↓bI_01, bI_eq0, bI_eq1, nI_10, nI_01, dec_f, dec_t, if_n, eq_self, true_or, or_true, if_true, if_false, reduceIte]
      rw [g]
  · have eK : tkK B t i = 0 := by unfold tkK; rw [if_neg hpt]
    have eE : tkE B t i = tkP B t i := by unfold tkE; rw [if_neg hpt]
    have ep : tkP B t i = t := by omega
    have eM : tkM B t i = 0 := by unfold tkM; rw [if_neg (fun q => by omega)]; exact eK
    refine ⟨M1, ⟨⟨b5, by rw [eE, Nat.sub_self]; exact b6, by rw [eM]; exact b7, fun q => by omega⟩, oa, oj⟩, fun S d n Q => ?_⟩
    rw [pre]
    simp only [↓s201_58, ↓s201_59, ↓s201_62, ↓s201_63, ↓s201_66, jc_84, gf_84_0, gf_84_1, gf_84_2, gf_84_3, gf_84_4, ok_84_4, gf_84_5, ok_84_5, gf_84_6, ok_84_6, gf_84_7, ok_84_7, gf_84_8, ok_84_8, gf_84_9, ok_84_9, gf_84_10, gf_84_11, gf_84_12, gf_84_13, gf_84_14, gf_84_15, gf_84_16, gf_84_17, ok_84_17, gf_84_18, gf_84_19, ok_84_19, gf_84_20, ok_84_20, gf_84_21, gf_84_22, gf_84_23, gf_84_24, ok_84_24, gf_84_25, ok_84_25, gf_84_26, ok_84_26, gf_84_27, ok_84_27, gf_84_28, ok_84_28, gf_84_29, gf_84_30, b5, hT1.1, ep, ct_s, ct_n, ↓bI_01, bI_eq0, bI_eq1, nI_10, nI_01, dec_f, dec_t, if_n, eq_self, true_or, or_true, if_true, if_false, reduceIte]
    simp only [↓s201_69, ct_s, ct_n, ↓bI_01, bI_eq0, bI_eq1, nI_10, nI_01, dec_f, dec_t, if_n, eq_self, true_or, or_true, if_true, if_false, reduceIte]
end Look
