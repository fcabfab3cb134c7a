/-! ===== a text: tokens ===== -/
def srt (c : Nat) : Nat := if 97 ≤ c ∧ c ≤ 122 then 1 else if 48 ≤ c ∧ c ≤ 57 then 2 else if c = 59 then 3 else 4
def skF (B : Nat → Nat) : Nat → Nat → Nat
  | 0, i => i
  | c + 1, i => if B i = 32 then skF B c (i + 1) else i
def enF (B : Nat → Nat) (k : Nat) : Nat → Nat → Nat
  | 0, j => j
  | c + 1, j => if srt (B j) = k then enF B k c (j + 1) else j
/-- the token from i on: where it starts, its sort, where it ends, its number -/
def tkP (B : Nat → Nat) (t i : Nat) : Nat := skF B (t - i) i
def tkK (B : Nat → Nat) (t i : Nat) : Nat := if tkP B t i < t then srt (B (tkP B t i)) else 0
def tkE (B : Nat → Nat) (t i : Nat) : Nat := if tkP B t i < t then (if tkK B t i ≤ 2 then enF B (tkK B t i) (t - (tkP B t i + 1)) (tkP B t i + 1) else tkP B t i + 1) else tkP B t i
def tvZ (B : Nat → Nat) (p e : Nat) : Int := if e - p = 1 then (B p : Int) - 48 else if e - p = 2 then 10 * ((B p : Int) - 48) + (B (p + 1) : Int) - 48 else 100
def TXc (M : ax_M) (B : Nat → Nat) (t : Nat) : Prop := M 67 3 = nI t ∧ t ≤ 150 ∧ ∀ i, i < t → M 68 i = nI (B i) ∧ B i < 128
section Text
variable {M M2 : ax_M} {N : ax_L} {d n t i p k : Nat} {S : ax_S} {Q : Option Value → Nat → ax_H → Prop} {B : Nat → Nat} {h : ax_H}
theorem srt_bd (c : Nat) : 1 ≤ srt c ∧ srt c ≤ 4 := by
  unfold srt
  split
  · omega
  · split
    · omega
    · split <;> omega
theorem skF_bd : ∀ c i, i ≤ skF B c i ∧ skF B c i ≤ i + c := by
  intro c
  induction c with
  | zero => intro i; exact ⟨Nat.le_refl _, Nat.le_refl _⟩
  | succ c ih =>
    intro i
    have := ih (i + 1)
    show i ≤ (if _ then _ else _) ∧ (if _ then _ else _) ≤ i + (c + 1)
    split <;> omega
theorem enF_bd : ∀ c j, j ≤ enF B k c j ∧ enF B k c j ≤ j + c := by
  intro c
  induction c with
  | zero => intro i; exact ⟨Nat.le_refl _, Nat.le_refl _⟩
  | succ c ih =>
    intro j
    have := ih (j + 1)
    show j ≤ (if _ then _ else _) ∧ (if _ then _ else _) ≤ j + (c + 1)
    split <;> omega
theorem tkP_bd (hi : i ≤ t) : i ≤ tkP B t i ∧ tkP B t i ≤ t := by
  have := skF_bd (B := B) (t - i) i
  unfold tkP
  omega
theorem tkE_bd (hi : i ≤ t) : tkP B t i ≤ tkE B t i ∧ tkE B t i ≤ t ∧ (tkP B t i < t → tkP B t i < tkE B t i) := by
  have hp := tkP_bd (B := B) hi
  unfold tkE
  by_cases h : tkP B t i < t
  · rw [if_pos h]
    split
    · have := enF_bd (B := B) (k := tkK B t i) (t - (tkP B t i + 1)) (tkP B t i + 1)
      omega
    · omega
  · rw [if_neg h]
    omega
theorem tkK_bd : tkK B t i ≤ 4 := by
  unfold tkK
  split
  · exact (srt_bd _).2
  · omega
theorem ux_cj {a i j : Nat} {x y : Int32} (h : i ≠ j) : ux (ux M a i x) a j y = ux (ux M a j y) a i x := by
  funext c l
  unfold ux
  by_cases h1 : c = a ∧ l = j
  · rw [if_pos h1, if_neg (fun q => h (q.2.symm.trans h1.2)), if_pos h1]
  · rw [if_neg h1, if_neg h1]
theorem TXc_eq (h7 : M2 67 = M 67) (h8 : M2 68 = M 68) (h : TXc M B t) : TXc M2 B t := ⟨by rw [h7]; exact h.1, h.2.1, fun i hi => by rw [h8]; exact h.2.2 i hi⟩
theorem TXc_69 {j : Nat} {x : Int32} (h : TXc M B t) : TXc (ux M 69 j x) B t := TXc_eq (ux_f (by decide)) (ux_f (by decide)) h
theorem cap67 (h : TXc M B t) : tn (M 67 3) ≤ 150 := cap_of h.1 h.2.1 (by have := h.2.1; omega)
theorem rdT (h : TXc M B t) (hi : i < t) : rcell M 67 1 (nI i) (nI 0) = nI (B i) := by
  have t1 := h.2.1
  rw [rcell_in (k := t) h.1 (by omega) hi (by omega) (by omega), show i * 1 + 0 = i by omega]
  exact (h.2.2 i hi).1
theorem c51 {c : Nat} (hc : c < 128) : ax_W d 51 0 [.int (nI c)] [] n h Q = Q (some (.int (nI (srt c)))) n h := by
  unfold srt
  simp only [↓s51_0, ↓s51_1, ↓s51_3, ct_s, ct_n, ↓bI_01, bI_eq0, bI_eq1, nI_10, nI_01, dec_f, dec_t, if_n, eq_self, true_or, or_true, if_true, if_false, reduceIte]
  by_cases h1 : 97 ≤ c
  · rw [if_neg (nI_nlt (a := c) (b := 97) h1 (by omega))]
    simp only [↓s51_6, ↓s51_7, ↓s51_9, ct_s, ct_n, ↓bI_01, bI_eq0, bI_eq1, nI_10, nI_01, dec_f, dec_t, if_n, eq_self, true_or, or_true, if_true, if_false, reduceIte]
    by_cases h2 : c ≤ 122
    · rw [if_neg (nI_nlt (a := 122) (b := c) h2 (by omega)), if_pos ⟨h1, h2⟩]
      simp only [↓s51_12, ↓s51_13, ct_s, ct_n, ↓bI_01, bI_eq0, bI_eq1, nI_10, nI_01, dec_f, dec_t, if_n, eq_self, true_or, or_true, if_true, if_false, reduceIte]
    · rw [if_pos (nI_lt (a := 122) (b := c) (by omega) (by omega)), if_neg (fun q => h2 q.2), if_neg (by omega), if_neg (by omega)]
      simp only [↓s51_14, ↓s51_15, ↓s51_17, ct_s, ct_n, ↓bI_01, bI_eq0, bI_eq1, nI_10, nI_01, dec_f, dec_t, if_n, eq_self, true_or, or_true, if_true, if_false, reduceIte]
      rw [if_neg (nI_nlt (a := c) (b := 48) (by omega) (by omega))]
      simp only [↓s51_20, ↓s51_21, ↓s51_23, ct_s, ct_n, ↓bI_01, bI_eq0, bI_eq1, nI_10, nI_01, dec_f, dec_t, if_n, eq_self, true_or, or_true, if_true, if_false, reduceIte]
      rw [if_pos (nI_lt (a := 57) (b := c) (by omega) (by omega))]
      simp only [↓s51_28, ↓s51_29, ↓s51_31, ct_s, ct_n, ↓bI_01, bI_eq0, bI_eq1, nI_10, nI_01, dec_f, dec_t, if_n, eq_self, true_or, or_true, if_true, if_false, reduceIte]
      rw [if_neg (fun q => by have := (nI_eq (a := c) (b := 59) (by omega) (by omega)).mp q; omega)]
      simp only [↓s51_38, ↓s51_39, ct_s, ct_n, ↓bI_01, bI_eq0, bI_eq1, nI_10, nI_01, dec_f, dec_t, if_n, eq_self, true_or, or_true, if_true, if_false, reduceIte]
  · rw [if_pos (nI_lt (a := c) (b := 97) (by omega) (by omega)), if_neg (fun q => h1 q.1)]
    simp only [↓s51_14, ↓s51_15, ↓s51_17, ct_s, ct_n, ↓bI_01, bI_eq0, bI_eq1, nI_10, nI_01, dec_f, dec_t, if_n, eq_self, true_or, or_true, if_true, if_false, reduceIte]
    by_cases h3 : 48 ≤ c
    · rw [if_neg (nI_nlt (a := c) (b := 48) h3 (by omega))]
      simp only [↓s51_20, ↓s51_21, ↓s51_23, ct_s, ct_n, ↓bI_01, bI_eq0, bI_eq1, nI_10, nI_01, dec_f, dec_t, if_n, eq_self, true_or, or_true, if_true, if_false, reduceIte]
      by_cases h4 : c ≤ 57
      · rw [if_neg (nI_nlt (a := 57) (b := c) h4 (by omega)), if_pos ⟨h3, h4⟩]
        simp only [↓s51_26, ↓s51_27, ct_s, ct_n, ↓bI_01, bI_eq0, bI_eq1, nI_10, nI_01, dec_f, dec_t, if_n, eq_self, true_or, or_true, if_true, if_false, reduceIte]
      · rw [if_pos (nI_lt (a := 57) (b := c) (by omega) (by omega)), if_neg (fun q => h4 q.2)]
        simp only [↓s51_28, ↓s51_29, ↓s51_31, ct_s, ct_n, ↓bI_01, bI_eq0, bI_eq1, nI_10, nI_01, dec_f, dec_t, if_n, eq_self, true_or, or_true, if_true, if_false, reduceIte]
        by_cases h5 : c = 59
        · rw [if_pos (by rw [h5]), if_pos h5]
          simp only [↓s51_34, ↓s51_35, ↓s51_38, ↓s51_39, ct_s, ct_n, ↓bI_01, bI_eq0, bI_eq1, nI_10, nI_01, dec_f, dec_t, if_n, eq_self, true_or, or_true, if_true, if_false, reduceIte]
        · rw [if_neg (fun q => h5 ((nI_eq (a := c) (b := 59) (by omega) (by omega)).mp q)), if_neg h5]
          simp only [↓s51_38, ↓s51_39, ct_s, ct_n, ↓bI_01, bI_eq0, bI_eq1, nI_10, nI_01, dec_f, dec_t, if_n, eq_self, true_or, or_true, if_true, if_false, reduceIte]
    · rw [if_pos (nI_lt (a := c) (b := 48) (by omega) (by omega)), if_neg (fun q => h3 q.1), if_neg (by omega)]
      simp only [↓s51_28, ↓s51_29, ↓s51_31, ct_s, ct_n, ↓bI_01, bI_eq0, bI_eq1, nI_10, nI_01, dec_f, dec_t, if_n, eq_self, true_or, or_true, if_true, if_false, reduceIte]
      rw [if_neg (fun q => by have := (nI_eq (a := c) (b := 59) (by omega) (by omega)).mp q; omega)]
      simp only [↓s51_38, ↓s51_39, ct_s, ct_n, ↓bI_01, bI_eq0, bI_eq1, nI_10, nI_01, dec_f, dec_t, if_n, eq_self, true_or, or_true, if_true, if_false, reduceIte]
/-- blanks -/
theorem l50a {y1 : Value} (hT : TXc M B t) : ∀ c i, i + c = t → ax_W (d + 1) 50 0 [.ref 69, y1] [] n (hx S (ux M 69 2 (nI i)) N) Q = ax_W (d + 1) 50 44 [.ref 69, y1] [] n (hx S (ux M 69 2 (nI (skF B c i))) N) Q := by
  have t1 := hT.2.1
  intro c
  induction c with
  | zero =>
    intro i hi
    have hT2 := TXc_69 (j := 2) (x := nI i) hT
    simp only [↓s50_0, ↓s50_1, ↓s50_4, ↓s50_5, ↓s50_8, ↓s50_11, jc_69, gf_69_0, gf_69_1, gf_69_2, ok_69_2, gf_69_3, ok_69_3, gf_69_4, ok_69_4, gf_69_5, ok_69_5, jc_67, gf_67_0, gf_67_1, gf_67_2, gf_67_3, ok_67_3, ux_s, ↓c53 h67, hT2.1, ct_s, ct_n, ↓bI_01, bI_eq0, bI_eq1, nI_10, nI_01, dec_f, dec_t, if_n, eq_self, true_or, or_true, if_true, if_false, reduceIte]
    rw [if_pos (nI_le (a := t) (b := i) (by omega) (by omega))]
    rfl
  | succ c ih =>
    intro i hi
    have hT2 := TXc_69 (j := 2) (x := nI i) hT
    have ih := ih (i + 1) (by omega)
    have b1 := (hT.2.2 i (by omega)).2
    simp only [↓s50_0, ↓s50_1, ↓s50_4, ↓s50_5, ↓s50_8, ↓s50_11, jc_69, gf_69_0, gf_69_1, gf_69_2, ok_69_2, gf_69_3, ok_69_3, gf_69_4, ok_69_4, gf_69_5, ok_69_5, jc_67, gf_67_0, gf_67_1, gf_67_2, gf_67_3, ok_67_3, ux_s, ↓c53 h67, hT2.1, ct_s, ct_n, ↓bI_01, bI_eq0, bI_eq1, nI_10, nI_01, dec_f, dec_t, if_n, eq_self, true_or, or_true, if_true, if_false, reduceIte]
    rw [if_neg (nI_ge (a := i) (b := t) (by omega) (by omega))]
    simp only [↓s50_14, ↓s50_15, ↓s50_18, ↓s50_19, ↓s50_22, ↓s50_23, ↓s50_26, ↓s50_28, jc_69, gf_69_0, gf_69_1, gf_69_2, ok_69_2, gf_69_3, ok_69_3, gf_69_4, ok_69_4, gf_69_5, ok_69_5, jc_67, gf_67_0, gf_67_1, gf_67_2, gf_67_3, ok_67_3, ux_s, ↓c54 h67 (cap67 hT2), rdT hT2 (show i < t by omega), ct_s, ct_n, ↓bI_01, bI_eq0, bI_eq1, nI_10, nI_01, dec_f, dec_t, if_n, eq_self, true_or, or_true, if_true, if_false, reduceIte]
    rw [show skF B (c + 1) i = if B i = 32 then skF B c (i + 1) else i from rfl]
    by_cases hb : B i = 32
    · rw [if_pos (by rw [hb]), if_pos hb]
      simp only [↓s50_31, ↓s50_32, ↓s50_33, ↓s50_36, ↓s50_37, ↓s50_38, ↓s50_41, jc_69, gf_69_0, gf_69_1, gf_69_2, ok_69_2, gf_69_3, ok_69_3, gf_69_4, ok_69_4, gf_69_5, ok_69_5, ux_s, nI_add, ux_ux, ct_s, ct_n, ↓bI_01, bI_eq0, bI_eq1, nI_10, nI_01, dec_f, dec_t, if_n, eq_self, true_or, or_true, if_true, if_false, reduceIte]
      exact ih
    · rw [if_neg (fun q => hb ((nI_eq (a := B i) (b := 32) (by omega) (by omega)).mp q)), if_neg hb]
/-- figures, letters -/
theorem l50b (hT : TXc M B t) (h3 : M 69 3 = nI p) (h4 : M 69 4 = nI k) (hk : k ≤ 4) : ∀ c j, j + c = t → p < j → ax_W (d + 2) 50 142 [.ref 69, .int (nI 1)] [] n (hx S (ux (ux M 69 5 (iI (tvZ B p j))) 69 2 (nI j)) N) Q = Q none n (hx S (ux (ux M 69 5 (iI (tvZ B p (enF B k c j)))) 69 2 (nI (enF B k c j))) N) := by
  have t1 := hT.2.1
  intro c
  induction c with
  | zero =>
    intro j hj hp
    have hT2 := TXc_69 (j := 2) (x := nI j) (TXc_69 (j := 5) (x := iI (tvZ B p j)) hT)
    simp only [↓s50_142, ↓s50_143, ↓s50_146, ↓s50_147, ↓s50_150, ↓s50_151, ↓s50_154, ↓s50_157, jc_69, gf_69_0, gf_69_1, gf_69_2, ok_69_2, gf_69_3, ok_69_3, gf_69_4, ok_69_4, gf_69_5, ok_69_5, jc_67, gf_67_0, gf_67_1, gf_67_2, gf_67_3, ok_67_3, ux_s, ↓c53 h67, hT2.1, ct_s, ct_n, ↓bI_01, bI_eq0, bI_eq1, nI_10, nI_01, dec_f, dec_t, if_n, eq_self, true_or, or_true, if_true, if_false, reduceIte]
    rw [if_pos (nI_le (a := t) (b := j) (by omega) (by omega))]
    simp only [↓s50_240, ct_s, ct_n, ↓bI_01, bI_eq0, bI_eq1, nI_10, nI_01, dec_f, dec_t, if_n, eq_self, true_or, or_true, if_true, if_false, reduceIte]
    rfl
  | succ c ih =>
    intro j hj hp
    have hT2 := TXc_69 (j := 2) (x := nI j) (TXc_69 (j := 5) (x := iI (tvZ B p j)) hT)
    have ih := ih (j + 1) (by omega) (by omega)
    have b1 := (hT.2.2 j (by omega)).2
    have e3 : ux (ux M 69 5 (iI (tvZ B p j))) 69 2 (nI j) 69 3 = nI p := by rw [ux_j (by decide), ux_j (by decide)]; exact h3
    have e4 : ux (ux M 69 5 (iI (tvZ B p j))) 69 2 (nI j) 69 4 = nI k := by rw [ux_j (by decide), ux_j (by decide)]; exact h4
    have e5 : ux (ux M 69 5 (iI (tvZ B p j))) 69 2 (nI j) 69 5 = iI (tvZ B p j) := by rw [ux_j (by decide), ux_s]
    simp only [↓s50_142, ↓s50_143, ↓s50_146, ↓s50_147, ↓s50_150, ↓s50_151, ↓s50_154, ↓s50_157, jc_69, gf_69_0, gf_69_1, gf_69_2, ok_69_2, gf_69_3, ok_69_3, gf_69_4, ok_69_4, gf_69_5, ok_69_5, jc_67, gf_67_0, gf_67_1, gf_67_2, gf_67_3, ok_67_3, ux_s, ↓c53 h67, hT2.1, ct_s, ct_n, ↓bI_01, bI_eq0, bI_eq1, nI_10, nI_01, dec_f, dec_t, if_n, eq_self, true_or, or_true, if_true, if_false, reduceIte]
    rw [if_neg (nI_ge (a := j) (b := t) (by omega) (by omega))]
    simp only [↓s50_160, ↓s50_161, ↓s50_164, ↓s50_165, ↓s50_168, ↓s50_169, ↓s50_172, ↓s50_175, ↓s50_176, ↓s50_179, jc_69, gf_69_0, gf_69_1, gf_69_2, ok_69_2, gf_69_3, ok_69_3, gf_69_4, ok_69_4, gf_69_5, ok_69_5, jc_67, gf_67_0, gf_67_1, gf_67_2, gf_67_3, ok_67_3, ux_s, ↓c54 h67 (cap67 hT2), rdT hT2 (show j < t by omega), ↓c51 b1, e4, ct_s, ct_n, ↓bI_01, bI_eq0, bI_eq1, nI_10, nI_01, dec_f, dec_t, if_n, eq_self, true_or, or_true, if_true, if_false, reduceIte]
    rw [show enF B k (c + 1) j = if srt (B j) = k then enF B k c (j + 1) else j from rfl]
    have sb := srt_bd (B j)
    by_cases hb : srt (B j) = k
    · rw [if_pos (by rw [hb]), if_pos hb]
      simp only [↓s50_182, ↓s50_183, ↓s50_184, ↓s50_187, ↓s50_188, ↓s50_191, ↓s50_192, ↓s50_193, jc_69, gf_69_0, gf_69_1, gf_69_2, ok_69_2, gf_69_3, ok_69_3, gf_69_4, ok_69_4, gf_69_5, ok_69_5, ux_s, e3, pk_sub (show p ≤ j by omega), ct_s, ct_n, ↓bI_01, bI_eq0, bI_eq1, nI_10, nI_01, dec_f, dec_t, if_n, eq_self, true_or, or_true, if_true, if_false, reduceIte]
      have fin : ∀ x, x = iI (tvZ B p (j + 1)) → ax_W (d + 2) 50 224 [.ref 69, .int (nI 1)] [.int x, .ref 69] n (hx S (ux (ux M 69 5 (iI (tvZ B p j))) 69 2 (nI j)) N) Q = Q none n (hx S (ux (ux M 69 5 (iI (tvZ B p (enF B k c (j + 1))))) 69 2 (nI (enF B k c (j + 1)))) N) := by
        intro x ex
        have q2 : ux (ux (ux M 69 5 (iI (tvZ B p j))) 69 2 (nI j)) 69 5 x = ux (ux M 69 5 x) 69 2 (nI j) := by rw [ux_cj (by decide), ux_ux]
        simp only [↓s50_224, ↓s50_227, ↓s50_228, ↓s50_229, ↓s50_232, ↓s50_233, ↓s50_234, ↓s50_237, jc_69, gf_69_0, gf_69_1, gf_69_2, ok_69_2, gf_69_3, ok_69_3, gf_69_4, ok_69_4, gf_69_5, ok_69_5, q2, ux_s, nI_add, ux_ux, ct_s, ct_n, ↓bI_01, bI_eq0, bI_eq1, nI_10, nI_01, dec_f, dec_t, if_n, eq_self, true_or, or_true, if_true, if_false, reduceIte]
        rw [ex]
        exact ih
      by_cases h2 : 2 ≤ j - p
      · rw [if_pos (nI_le h2 (by omega))]
        simp only [↓s50_222, ct_s, ct_n, ↓bI_01, bI_eq0, bI_eq1, nI_10, nI_01, dec_f, dec_t, if_n, eq_self, true_or, or_true, if_true, if_false, reduceIte]
        refine fin _ ?_
        unfold tvZ
        rw [if_neg (by omega), if_neg (by omega), iI_nat]
        rfl
      · rw [if_neg (nI_ge (a := j - p) (b := 2) (by omega) (by omega))]
        simp only [↓s50_196, ↓s50_198, ↓s50_199, ↓s50_202, ↓s50_203, ↓s50_204, ↓s50_207, ↓s50_208, ↓s50_211, ↓s50_212, ↓s50_215, ↓s50_216, ↓s50_218, ↓s50_219, jc_69, gf_69_0, gf_69_1, gf_69_2, ok_69_2, gf_69_3, ok_69_3, gf_69_4, ok_69_4, gf_69_5, ok_69_5, jc_67, gf_67_0, gf_67_1, gf_67_2, gf_67_3, ok_67_3, ux_s, e5, ↓c54 h67 (cap67 hT2), rdT hT2 (show j < t by omega), ct_s, ct_n, ↓bI_01, bI_eq0, bI_eq1, nI_10, nI_01, dec_f, dec_t, if_n, eq_self, true_or, or_true, if_true, if_false, reduceIte]
        refine fin _ ?_
        have ej : j = p + 1 := by omega
        subst ej
        unfold tvZ
        rw [if_pos (by omega), if_neg (by omega), if_pos (by omega), iI_nat 10, iI_mul, iI_nat (B (p + 1)), iI_add, iI_nat 48, iI_sub]
        rfl
    · rw [if_neg (fun q => hb ((nI_eq (a := srt (B j)) (b := k) (by omega) (by omega)).mp q)), if_neg hb]
      simp only [↓s50_240, ct_s, ct_n, ↓bI_01, bI_eq0, bI_eq1, nI_10, nI_01, dec_f, dec_t, if_n, eq_self, true_or, or_true, if_true, if_false, reduceIte]
/-- the class looks at the token from i on -/
def LC (M : ax_M) (B : Nat → Nat) (t i : Nat) : Prop := M 69 2 = nI (tkE B t i) ∧ M 69 3 = nI (tkP B t i) ∧ M 69 4 = nI (tkK B t i) ∧ (tkK B t i = 2 → M 69 5 = iI (tvZ B (tkP B t i) (tkE B t i)))
theorem c50 (hT : TXc M B t) (hat : M 69 2 = nI i) (hi : i ≤ t) : ∃ M2, (LC M2 B t i ∧ ∀ a, a ≠ 69 → M2 a = M a) ∧ ∀ (S : ax_S) (d n : Nat) (Q : Option Value → Nat → ax_H → Prop), ax_W (d + 2) 50 0 [.ref 69, ax_dm] [] n (hx S M N) Q = Q none n (hx S M2 N) := by
  have t1 := hT.2.1
  have hp := tkP_bd (B := B) hi
  obtain ⟨M1, hM1⟩ : ∃ M1, M1 = ux M 69 2 (nI (tkP B t i)) := ⟨_, rfl⟩
  have pre : ∀ (S : ax_S) (d n : Nat) (Q : Option Value → Nat → ax_H → Prop), ax_W (d + 2) 50 0 [.ref 69, ax_dm] [] n (hx S M N) Q = ax_W (d + 2) 50 44 [.ref 69, ax_dm] [] n (hx S M1 N) Q := by
    intro S d n Q
    have h := l50a (d := d + 1) (n := n) (S := S) (N := N) (Q := Q) (y1 := ax_dm) hT (t - i) i (by omega)
    rw [← hat, ux_id] at h
    rw [hM1]
    exact h
  have a1 : M1 69 2 = nI (tkP B t i) := by rw [hM1, ux_s]
  have hT1 : TXc M1 B t := by rw [hM1]; exact TXc_69 hT
  have o1 : ∀ a, a ≠ 69 → M1 a = M a := fun a ha => by rw [hM1, ux_f ha]
  obtain ⟨M3, hM3⟩ : ∃ M3, M3 = ux M1 69 3 (nI (tkP B t i)) := ⟨_, rfl⟩
  have hT3 : TXc M3 B t := by rw [hM3]; exact TXc_69 hT1
  have a3 : M3 69 2 = nI (tkP B t i) := by rw [hM3, ux_j (by decide)]; exact a1
  have s3 : M3 69 3 = nI (tkP B t i) := by rw [hM3, ux_s]
  have o3 : ∀ a, a ≠ 69 → M3 a = M a := fun a ha => by rw [hM3, ux_f ha]; exact o1 a ha
  by_cases hpt : tkP B t i < t
  · have eK : tkK B t i = srt (B (tkP B t i)) := by unfold tkK; rw [if_pos hpt]
    have b1 := (hT.2.2 _ hpt).2
    have sb := srt_bd (B (tkP B t i))
    obtain ⟨M4, hM4⟩ : ∃ M4, M4 = ux M3 69 4 (nI (tkK B t i)) := ⟨_, rfl⟩
    have hT4 : TXc M4 B t := by rw [hM4]; exact TXc_69 hT3
    have a4 : M4 69 2 = nI (tkP B t i) := by rw [hM4, ux_j (by decide)]; exact a3
    have s4 : M4 69 3 = nI (tkP B t i) := by rw [hM4, ux_j (by decide)]; exact s3
    have k4 : M4 69 4 = nI (tkK B t i) := by rw [hM4, ux_s]
    have o4 : ∀ a, a ≠ 69 → M4 a = M a := fun a ha => by rw [hM4, ux_f ha]; exact o3 a ha
    have ev : nI (B (tkP B t i)) - nI 48 = iI (tvZ B (tkP B t i) (tkP B t i + 1)) := by
      unfold tvZ
      rw [if_pos (by omega), iI_nat, iI_nat 48, iI_sub]
      rfl
    have pre2 : ∀ (S : ax_S) (d n : Nat) (Q : Option Value → Nat → ax_H → Prop), ax_W (d + 2) 50 0 [.ref 69, ax_dm] [] n (hx S M N) Q = ax_W (d + 2) 50 120 [.ref 69, ax_dm] [] n (hx S (ux (ux M4 69 5 (iI (tvZ B (tkP B t i) (tkP B t i + 1)))) 69 2 (nI (tkP B t i + 1))) N) Q := by
      intro S d n Q
      have a5 : ∀ x, ux M4 69 5 x 69 2 = nI (tkP B t i) := fun x => by rw [ux_j (by decide)]; exact a4
      rw [pre]
      simp only [↓s50_44, ↓s50_45, ↓s50_46, ↓s50_49, ↓s50_52, ↓s50_53, ↓s50_56, ↓s50_57, ↓s50_60, ↓s50_63, jc_69, gf_69_0, gf_69_1, gf_69_2, ok_69_2, gf_69_3, ok_69_3, gf_69_4, ok_69_4, gf_69_5, ok_69_5, jc_67, gf_67_0, gf_67_1, gf_67_2, gf_67_3, ok_67_3, a1, ← hM3, a3, ↓c53 h67, hT3.1, ct_s, ct_n, ↓bI_01, bI_eq0, bI_eq1, nI_10, nI_01, dec_f, dec_t, if_n, eq_self, true_or, or_true, if_true, if_false, reduceIte]
      rw [if_pos (nI_lt hpt (by omega))]
      simp only [↓s50_72, ↓s50_73, ↓s50_74, ↓s50_77, ↓s50_78, ↓s50_81, ↓s50_82, ↓s50_85, ↓s50_88, jc_69, gf_69_0, gf_69_1, gf_69_2, ok_69_2, gf_69_3, ok_69_3, gf_69_4, ok_69_4, gf_69_5, ok_69_5, jc_67, gf_67_0, gf_67_1, gf_67_2, gf_67_3, ok_67_3, a3, ↓c54 h67 (cap67 hT3), rdT hT3 hpt, ↓c51 b1, ← eK, ← hM4, ct_s, ct_n, ↓bI_01, bI_eq0, bI_eq1, nI_10, nI_01, dec_f, dec_t, if_n, eq_self, true_or, or_true, if_true, if_false, reduceIte]
      simp only [↓s50_91, ↓s50_92, ↓s50_93, ↓s50_96, ↓s50_97, ↓s50_100, ↓s50_101, ↓s50_104, ↓s50_106, ↓s50_107, ↓s50_110, ↓s50_111, ↓s50_112, ↓s50_115, ↓s50_116, ↓s50_117, jc_69, gf_69_0, gf_69_1, gf_69_2, ok_69_2, gf_69_3, ok_69_3, gf_69_4, ok_69_4, gf_69_5, ok_69_5, jc_67, gf_67_0, gf_67_1, gf_67_2, gf_67_3, ok_67_3, a4, ↓c54 h67 (cap67 hT4), rdT hT4 hpt, ev, a5, nI_add, ct_s, ct_n, ↓bI_01, bI_eq0, bI_eq1, nI_10, nI_01, dec_f, dec_t, if_n, eq_self, true_or, or_true, if_true, if_false, reduceIte]
    have k5 : ∀ x y, ux (ux M4 69 5 x) 69 2 y 69 4 = nI (tkK B t i) := fun x y => by rw [ux_j (by decide), ux_j (by decide)]; exact k4
    by_cases hk : tkK B t i ≤ 2
    · have eE : tkE B t i = enF B (tkK B t i) (t - (tkP B t i + 1)) (tkP B t i + 1) := by unfold tkE; rw [if_pos hpt, if_pos hk]
      refine ⟨ux (ux M4 69 5 (iI (tvZ B (tkP B t i) (tkE B t i)))) 69 2 (nI (tkE B t i)), ⟨⟨ux_s, ?_, k5 _ _, fun _ => ?_⟩, fun a ha => ?_⟩, fun S d n Q => ?_⟩
      · rw [ux_j (by decide), ux_j (by decide)]; exact s4
      · rw [ux_j (by decide), ux_s]
      · rw [ux_f ha, ux_f ha]; exact o4 a ha
      · rw [pre2]
        have lp := l50b (d := d) (n := n) (S := S) (N := N) (Q := Q) hT4 s4 k4 (by omega) (t - (tkP B t i + 1)) (tkP B t i + 1) (by omega) (by omega)
        rw [← eE] at lp
        rcases (show tkK B t i = 1 ∨ tkK B t i = 2 by omega) with e | e
        · simp only [↓s50_120, ↓s50_121, ↓s50_124, ↓s50_125, jc_69, gf_69_0, gf_69_1, gf_69_2, ok_69_2, gf_69_3, ok_69_3, gf_69_4, ok_69_4, gf_69_5, ok_69_5, k5, e, ct_s, ct_n, ↓bI_01, bI_eq0, bI_eq1, nI_10, nI_01, dec_f, dec_t, if_n, eq_self, true_or, or_true, if_true, if_false, reduceIte]
          simp only [↓s50_136, ↓s50_137, ↓s50_140, ↓s50_141, ct_s, ct_n, ↓bI_01, bI_eq0, bI_eq1, nI_10, nI_01, dec_f, dec_t, if_n, eq_self, true_or, or_true, if_true, if_false, reduceIte]
          exact lp
        · simp only [↓s50_120, ↓s50_121, ↓s50_124, ↓s50_125, ↓s50_128, ↓s50_129, ↓s50_132, ↓s50_133, jc_69, gf_69_0, gf_69_1, gf_69_2, ok_69_2, gf_69_3, ok_69_3, gf_69_4, ok_69_4, gf_69_5, ok_69_5, k5, e, show ¬ nI 2 = nI 1 by decide, ct_s, ct_n, ↓bI_01, bI_eq0, bI_eq1, nI_10, nI_01, dec_f, dec_t, if_n, eq_self, true_or, or_true, if_true, if_false, reduceIte]
          simp only [↓s50_136, ↓s50_137, ↓s50_140, ↓s50_141, ct_s, ct_n, ↓bI_01, bI_eq0, bI_eq1, nI_10, nI_01, dec_f, dec_t, if_n, eq_self, true_or, or_true, if_true, if_false, reduceIte]
          exact lp
    · have eE : tkE B t i = tkP B t i + 1 := by unfold tkE; rw [if_pos hpt, if_neg hk]
      rw [← eE] at pre2
      refine ⟨ux (ux M4 69 5 (iI (tvZ B (tkP B t i) (tkE B t i)))) 69 2 (nI (tkE B t i)), ⟨⟨ux_s, ?_, k5 _ _, fun _ => ?_⟩, fun a ha => ?_⟩, fun S d n Q => ?_⟩
      · rw [ux_j (by decide), ux_j (by decide)]; exact s4
      · rw [ux_j (by decide), ux_s]
      · rw [ux_f ha, ux_f ha]; exact o4 a ha
      · rw [pre2]
        rcases (show tkK B t i = 3 ∨ tkK B t i = 4 by omega) with e | e
        · simp only [↓s50_120, ↓s50_121, ↓s50_124, ↓s50_125, ↓s50_128, ↓s50_129, ↓s50_132, ↓s50_133, jc_69, gf_69_0, gf_69_1, gf_69_2, ok_69_2, gf_69_3, ok_69_3, gf_69_4, ok_69_4, gf_69_5, ok_69_5, k5, e, show ¬ nI 3 = nI 1 by decide, show ¬ nI 3 = nI 2 by decide, ct_s, ct_n, ↓bI_01, bI_eq0, bI_eq1, nI_10, nI_01, dec_f, dec_t, if_n, eq_self, true_or, or_true, if_true, if_false, reduceIte]
          simp only [↓s50_140, ↓s50_141, ↓s50_142, ↓s50_143, ↓s50_240, ct_s, ct_n, ↓bI_01, bI_eq0, bI_eq1, nI_10, nI_01, dec_f, dec_t, if_n, eq_self, true_or, or_true, if_true, if_false, reduceIte]
        · simp only [↓s50_120, ↓s50_121, ↓s50_124, ↓s50_125, ↓s50_128, ↓s50_129, ↓s50_132, ↓s50_133, jc_69, gf_69_0, gf_69_1, gf_69_2, ok_69_2, gf_69_3, ok_69_3, gf_69_4, ok_69_4, gf_69_5, ok_69_5, k5, e, show ¬ nI 4 = nI 1 by decide, show ¬ nI 4 = nI 2 by decide, ct_s, ct_n, ↓bI_01, bI_eq0, bI_eq1, nI_10, nI_01, dec_f, dec_t, if_n, eq_self, true_or, or_true, if_true, if_false, reduceIte]
          simp only [↓s50_140, ↓s50_141, ↓s50_142, ↓s50_143, ↓s50_240, ct_s, ct_n, ↓bI_01, bI_eq0, bI_eq1, nI_10, nI_01, dec_f, dec_t, if_n, eq_self, true_or, or_true, if_true, if_false, reduceIte]
  · have eK : tkK B t i = 0 := by unfold tkK; rw [if_neg hpt]
    have eE : tkE B t i = tkP B t i := by unfold tkE; rw [if_neg hpt]
    refine ⟨ux M3 69 4 (nI 0), ⟨⟨?_, ?_, ?_, fun q => ?_⟩, fun a ha => ?_⟩, fun S d n Q => ?_⟩
    · rw [eE, ux_j (by decide)]; exact a3
    · rw [ux_j (by decide)]; exact s3
    · rw [eK, ux_s]
    · omega
    · rw [ux_f ha]; exact o3 a ha
    · rw [pre]
      simp only [↓s50_44, ↓s50_45, ↓s50_46, ↓s50_49, ↓s50_52, ↓s50_53, ↓s50_56, ↓s50_57, ↓s50_60, ↓s50_63, jc_69, gf_69_0, gf_69_1, gf_69_2, ok_69_2, gf_69_3, ok_69_3, gf_69_4, ok_69_4, gf_69_5, ok_69_5, jc_67, gf_67_0, gf_67_1, gf_67_2, gf_67_3, ok_67_3, a1, ← hM3, a3, ↓c53 h67, hT3.1, ct_s, ct_n, ↓bI_01, bI_eq0, bI_eq1, nI_10, nI_01, dec_f, dec_t, if_n, eq_self, true_or, or_true, if_true, if_false, reduceIte]
      rw [if_neg (nI_nlt (a := tkP B t i) (b := t) (by omega) (by omega))]
      simp only [↓s50_66, ↓s50_67, ↓s50_68, ↓s50_71, jc_69, gf_69_0, gf_69_1, gf_69_2, ok_69_2, gf_69_3, ok_69_3, gf_69_4, ok_69_4, gf_69_5, ok_69_5, ct_s, ct_n, ↓bI_01, bI_eq0, bI_eq1, nI_10, nI_01, dec_f, dec_t, if_n, eq_self, true_or, or_true, if_true, if_false, reduceIte]
end Text
