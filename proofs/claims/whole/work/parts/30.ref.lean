/-! ===== the reference: leaves, its evening ===== -/
theorem lg_lt (p q : Int64) : (lg_cmp p q < nI 0) ↔ p < q := lg_cmp_lt p q
theorem lg_gt (p q : Int64) : (nI 0 < lg_cmp p q) ↔ q < p := lg_cmp_gt p q
theorem i64_le {x y : Int32} : x.toInt64 ≤ y.toInt64 ↔ x ≤ y := by
  rw [Int64.le_iff_toInt_le, Int32.le_iff_toInt_le, Int32.toInt_toInt64, Int32.toInt_toInt64]
section Ref
variable {d n : Nat} {h : ax_H} {Q : Option Value → Nat → ax_H → Prop} {S : ax_S} {M : ax_M} {N : ax_L} {A : ax_A0} {x l m : Int32} {p q r : Int64}
theorem c135 (hq : q = l.toInt64) (hr : r = m.toInt64) : ax_W d 135 0 [.long x.toInt64, ax_dm, .long q, ax_dm, .long r, ax_dm] [] n h Q = Q (some (.int (bI (decide (l ≤ x ∧ x ≤ m))))) n h := by
  subst hq; subst hr
  simp only [↓s135_0, ↓s135_1, ↓s135_2, ↓s135_3, ↓s135_6, ↓s135_7, ↓s135_9, ↓s135_10, ↓s135_13, ↓s135_14, ↓s135_17, ↓s135_18, ct_s, ct_n, ↓bI_01, bI_eq0, bI_eq1, nI_10, nI_01, dec_f, dec_t, if_n, eq_self, true_or, or_true, if_true, if_false, reduceIte]
  by_cases h1 : x < l
  · rw [if_pos ((lg_lt _ _).mpr (Int64.not_le.mp (fun z => Int32.not_le.mpr h1 (i64_le.mp z)))), bI_f (fun q => Int32.not_le.mpr h1 q.1)]
  · rw [if_neg (fun z => h1 (Int32.not_le.mp (fun w => Int64.not_le.mpr ((lg_lt _ _).mp z) (i64_le.mpr w))))]
    by_cases h2 : m < x
    · rw [if_pos ((lg_gt _ _).mpr (Int64.not_le.mp (fun z => Int32.not_le.mpr h2 (i64_le.mp z)))), bI_f (fun q => Int32.not_le.mpr h2 q.2)]
    · rw [if_neg (fun z => h2 (Int32.not_le.mp (fun w => Int64.not_le.mpr ((lg_gt _ _).mp z) (i64_le.mpr w)))), bI_t ⟨Int32.not_lt.mp h1, Int32.not_lt.mp h2⟩]
theorem c136 : ax_W d 136 0 [.ref 84, .int x] [] n (hx S M N) Q = Q (some (.int x)) n (hx S (ux M 88 0 (M 88 0 + nI 1)) N) := by
  simp only [↓s136_0, ↓s136_1, ↓s136_4, ↓s136_5, ↓s136_6, ↓s136_7, ↓s136_8, ↓s136_9, ↓s136_10, ↓s136_11, jc_84, gf_84_0, gf_84_1, gf_84_2, gf_84_3, gf_84_4, ok_84_4, gf_84_5, ok_84_5, gf_84_6, ok_84_6, gf_84_7, ok_84_7, gf_84_8, ok_84_8, gf_84_9, ok_84_9, gf_84_10, gf_84_11, gf_84_12, gf_84_13, gf_84_14, gf_84_15, gf_84_16, gf_84_17, ok_84_17, gf_84_18, gf_84_19, ok_84_19, gf_84_20, ok_84_20, gf_84_21, gf_84_22, gf_84_23, gf_84_24, ok_84_24, gf_84_25, ok_84_25, gf_84_26, ok_84_26, gf_84_27, ok_84_27, gf_84_28, ok_84_28, gf_84_29, gf_84_30, al_88 (show 0 < 3 by decide), sa_88 (show 0 < 3 by decide), ct_s, ct_n, ↓bI_01, bI_eq0, bI_eq1, nI_10, nI_01, dec_f, dec_t, if_n, eq_self, true_or, or_true, if_true, if_false, reduceIte]
theorem c137 : ax_W d 137 0 [.ref 84] [] n (hx S M N) Q = Q (some (.int (-3))) n (hx S (ux M 88 1 (M 88 1 + nI 1)) N) := by
  simp only [↓s137_0, ↓s137_1, ↓s137_4, ↓s137_5, ↓s137_6, ↓s137_7, ↓s137_8, ↓s137_9, ↓s137_10, ↓s137_12, jc_84, gf_84_0, gf_84_1, gf_84_2, gf_84_3, gf_84_4, ok_84_4, gf_84_5, ok_84_5, gf_84_6, ok_84_6, gf_84_7, ok_84_7, gf_84_8, ok_84_8, gf_84_9, ok_84_9, gf_84_10, gf_84_11, gf_84_12, gf_84_13, gf_84_14, gf_84_15, gf_84_16, gf_84_17, ok_84_17, gf_84_18, gf_84_19, ok_84_19, gf_84_20, ok_84_20, gf_84_21, gf_84_22, gf_84_23, gf_84_24, ok_84_24, gf_84_25, ok_84_25, gf_84_26, ok_84_26, gf_84_27, ok_84_27, gf_84_28, ok_84_28, gf_84_29, gf_84_30, al_88 (show 1 < 3 by decide), sa_88 (show 1 < 3 by decide), ct_s, ct_n, ↓bI_01, bI_eq0, bI_eq1, nI_10, nI_01, dec_f, dec_t, if_n, eq_self, true_or, or_true, if_true, if_false, reduceIte]
theorem c138 : ax_W d 138 0 [.ref 84] [] n (hx S M N) Q = Q (some (.int (-4))) n (hx S (ux M 88 2 (M 88 2 + nI 1)) N) := by
  simp only [↓s138_0, ↓s138_1, ↓s138_4, ↓s138_5, ↓s138_6, ↓s138_7, ↓s138_8, ↓s138_9, ↓s138_10, ↓s138_12, jc_84, gf_84_0, gf_84_1, gf_84_2, gf_84_3, gf_84_4, ok_84_4, gf_84_5, ok_84_5, gf_84_6, ok_84_6, gf_84_7, ok_84_7, gf_84_8, ok_84_8, gf_84_9, ok_84_9, gf_84_10, gf_84_11, gf_84_12, gf_84_13, gf_84_14, gf_84_15, gf_84_16, gf_84_17, ok_84_17, gf_84_18, gf_84_19, ok_84_19, gf_84_20, ok_84_20, gf_84_21, gf_84_22, gf_84_23, gf_84_24, ok_84_24, gf_84_25, ok_84_25, gf_84_26, ok_84_26, gf_84_27, ok_84_27, gf_84_28, ok_84_28, gf_84_29, gf_84_30, al_88 (show 2 < 3 by decide), sa_88 (show 2 < 3 by decide), ct_s, ct_n, ↓bI_01, bI_eq0, bI_eq1, nI_10, nI_01, dec_f, dec_t, if_n, eq_self, true_or, or_true, if_true, if_false, reduceIte]
theorem c140 : ax_W d 140 0 [.ref 84] [] n (hx S M N) Q = Q (some (.int (M 85 0))) n (hx S M N) := by
  simp only [↓s140_0, ↓s140_1, ↓s140_4, ↓s140_5, ↓s140_6, jc_84, gf_84_0, gf_84_1, gf_84_2, gf_84_3, gf_84_4, ok_84_4, gf_84_5, ok_84_5, gf_84_6, ok_84_6, gf_84_7, ok_84_7, gf_84_8, ok_84_8, gf_84_9, ok_84_9, gf_84_10, gf_84_11, gf_84_12, gf_84_13, gf_84_14, gf_84_15, gf_84_16, gf_84_17, ok_84_17, gf_84_18, gf_84_19, ok_84_19, gf_84_20, ok_84_20, gf_84_21, gf_84_22, gf_84_23, gf_84_24, ok_84_24, gf_84_25, ok_84_25, gf_84_26, ok_84_26, gf_84_27, ok_84_27, gf_84_28, ok_84_28, gf_84_29, gf_84_30, al_85 (show 0 < 181 by decide), ct_s, ct_n, ↓bI_01, bI_eq0, bI_eq1, nI_10, nI_01, dec_f, dec_t, if_n, eq_self, true_or, or_true, if_true, if_false, reduceIte]
theorem c141 : ax_W (d + 1) 141 0 [.ref 84, .int x] [] n (hx S M N) Q = Q (some (.int (bI (decide (nI 0 ≤ x ∧ x ≤ M 85 0 - nI 1))))) n (hx S M N) := by
  simp only [↓s141_0, ↓s141_1, ↓s141_2, ↓s141_3, ↓s141_4, ↓s141_7, ↓s141_8, ↓s141_9, ↓s141_10, ↓s141_13, jc_84, ↓c140, ↓c135 (l := nI 0) (q := 0) rfl rfl, ct_s, ct_n, ↓bI_01, bI_eq0, bI_eq1, nI_10, nI_01, dec_f, dec_t, if_n, eq_self, true_or, or_true, if_true, if_false, reduceIte]
theorem c142 : ax_W (d + 1) 142 0 [.int x] [] n h Q = Q (some (.int (bI (decide (nI 0 ≤ x ∧ x ≤ nI 1))))) n h := by
  simp only [↓s142_0, ↓s142_1, ↓s142_2, ↓s142_3, ↓s142_4, ↓s142_7, ↓c135 (l := nI 0) (q := 0) (m := nI 1) (r := 1) rfl rfl, ct_s, ct_n, ↓bI_01, bI_eq0, bI_eq1, nI_10, nI_01, dec_f, dec_t, if_n, eq_self, true_or, or_true, if_true, if_false, reduceIte]
theorem c143 : ax_W (d + 1) 143 0 [.int x] [] n h Q = Q (some (.int (bI (decide (nI 0 ≤ x ∧ x ≤ nI 4))))) n h := by
  simp only [↓s143_0, ↓s143_1, ↓s143_2, ↓s143_3, ↓s143_6, ↓s143_9, ↓c135 (l := nI 0) (q := 0) (m := nI 4) (r := 4) rfl rfl, ct_s, ct_n, ↓bI_01, bI_eq0, bI_eq1, nI_10, nI_01, dec_f, dec_t, if_n, eq_self, true_or, or_true, if_true, if_false, reduceIte]
theorem c144 {k w : Nat} (hk : 6 + 5 * k + w < 181) : ax_W d 144 0 [.ref 84, .int (nI k), .int (nI w)] [] n (hx S M N) Q = Q (some (.int (M 85 (6 + 5 * k + w)))) n (hx S M N) := by
  simp only [↓s144_0, ↓s144_1, ↓s144_4, ↓s144_6, ↓s144_7, ↓s144_8, ↓s144_9, ↓s144_10, ↓s144_11, ↓s144_12, ↓s144_13, jc_84, gf_84_0, gf_84_1, gf_84_2, gf_84_3, gf_84_4, ok_84_4, gf_84_5, ok_84_5, gf_84_6, ok_84_6, gf_84_7, ok_84_7, gf_84_8, ok_84_8, gf_84_9, ok_84_9, gf_84_10, gf_84_11, gf_84_12, gf_84_13, gf_84_14, gf_84_15, gf_84_16, gf_84_17, ok_84_17, gf_84_18, gf_84_19, ok_84_19, gf_84_20, ok_84_20, gf_84_21, gf_84_22, gf_84_23, gf_84_24, ok_84_24, gf_84_25, ok_84_25, gf_84_26, ok_84_26, gf_84_27, ok_84_27, gf_84_28, ok_84_28, gf_84_29, gf_84_30, nI_add, pk_mul, al_85 hk, ct_s, ct_n, ↓bI_01, bI_eq0, bI_eq1, nI_10, nI_01, dec_f, dec_t, if_n, eq_self, true_or, or_true, if_true, if_false, reduceIte]
theorem c160 : ax_W d 160 0 [.int x] [] n h Q = Q (some (.int (vdI x))) n h := by
  unfold vdI
  simp only [↓s160_0, ↓s160_1, ↓s160_4, ↓s160_5, ↓s160_8, ↓s160_9, ↓s160_12, ↓s160_13, ↓s160_16, ↓s160_17, ct_s, ct_n, ↓bI_01, bI_eq0, bI_eq1, nI_10, nI_01, dec_f, dec_t, if_n, eq_self, true_or, or_true, if_true, if_false, reduceIte]
  split <;> (try split) <;> rfl
/-- the reference's evening is v -/
def rvM (M : ax_M) (v : ax_V) : ax_M := fun b j => if b = 84 then (if j = 6 then iI v.2.2 else if j = 7 then nI v.1 else if j = 8 then nI (pop v.1) else if j = 9 then lsI v.2.1 else M b j) else M b j
theorem rvM_o {b : Nat} {v : ax_V} (hb : b ≠ 84) : rvM M v b = M b := by funext j; unfold rvM; rw [if_neg hb]
theorem rvM_j {j : Nat} {v : ax_V} (h6 : j ≠ 6) (h7 : j ≠ 7) (h8 : j ≠ 8) (h9 : j ≠ 9) : rvM M v 84 j = M 84 j := by unfold rvM; rw [if_pos rfl, if_neg h6, if_neg h7, if_neg h8, if_neg h9]
theorem rvM_6 {v : ax_V} : rvM M v 84 6 = iI v.2.2 := by unfold rvM; simp
theorem rvM_7 {v : ax_V} : rvM M v 84 7 = nI v.1 := by unfold rvM; simp
theorem rvM_8 {v : ax_V} : rvM M v 84 8 = nI (pop v.1) := by unfold rvM; simp
theorem rvM_9 {v : ax_V} : rvM M v 84 9 = lsI v.2.1 := by unfold rvM; simp
theorem rvM_85 {v : ax_V} : rvM M v 85 = M 85 := rvM_o (by decide)
theorem rvM_ext {M1 M2 : ax_M} {v : ax_V} (ho : ∀ b j, (b = 84 ∧ (j = 6 ∨ j = 7 ∨ j = 8 ∨ j = 9)) ∨ M1 b j = M2 b j) (h6 : M1 84 6 = iI v.2.2) (h7 : M1 84 7 = nI v.1) (h8 : M1 84 8 = nI (pop v.1)) (h9 : M1 84 9 = lsI v.2.1) : M1 = rvM M2 v := by
  funext b j
  unfold rvM
  by_cases hb : b = 84
  · subst hb
    rw [if_pos rfl]
    by_cases j6 : j = 6
    · rw [if_pos j6, j6, h6]
    · rw [if_neg j6]
      by_cases j7 : j = 7
      · rw [if_pos j7, j7, h7]
      · rw [if_neg j7]
        by_cases j8 : j = 8
        · rw [if_pos j8, j8, h8]
        · rw [if_neg j8]
          by_cases j9 : j = 9
          · rw [if_pos j9, j9, h9]
          · rw [if_neg j9]
            rcases ho 84 j with ⟨-, q⟩ | q
            · omega
            · exact q
  · rw [if_neg hb]
    rcases ho b j with ⟨q, -⟩ | q
    · exact absurd q hb
    · exact q
theorem rvM_rvM {v w : ax_V} : rvM (rvM M v) w = rvM M w := by
  refine rvM_ext (fun b j => ?_) rvM_6 rvM_7 rvM_8 rvM_9
  by_cases hb : b = 84
  · subst hb
    by_cases hj : j = 6 ∨ j = 7 ∨ j = 8 ∨ j = 9
    · exact Or.inl ⟨rfl, hj⟩
    · refine Or.inr ?_
      rw [rvM_j (by omega) (by omega) (by omega) (by omega), rvM_j (by omega) (by omega) (by omega) (by omega)]
  · exact Or.inr (by rw [rvM_o hb, rvM_o hb])
theorem c150 : ax_W d 150 0 [.ref 84] [] n (hx S M N) Q = Q none n (hx S (rvM M (0, none, 0)) N) := by
  simp only [↓s150_0, ↓s150_1, ↓s150_2, ↓s150_5, ↓s150_6, ↓s150_7, ↓s150_10, ↓s150_11, ↓s150_12, ↓s150_15, ↓s150_16, ↓s150_17, ↓s150_20, jc_84, gf_84_0, gf_84_1, gf_84_2, gf_84_3, gf_84_4, ok_84_4, gf_84_5, ok_84_5, gf_84_6, ok_84_6, gf_84_7, ok_84_7, gf_84_8, ok_84_8, gf_84_9, ok_84_9, gf_84_10, gf_84_11, gf_84_12, gf_84_13, gf_84_14, gf_84_15, gf_84_16, gf_84_17, ok_84_17, gf_84_18, gf_84_19, ok_84_19, gf_84_20, ok_84_20, gf_84_21, gf_84_22, gf_84_23, gf_84_24, ok_84_24, gf_84_25, ok_84_25, gf_84_26, ok_84_26, gf_84_27, ok_84_27, gf_84_28, ok_84_28, gf_84_29, gf_84_30, ct_s, ct_n, ↓bI_01, bI_eq0, bI_eq1, nI_10, nI_01, dec_f, dec_t, if_n, eq_self, true_or, or_true, if_true, if_false, reduceIte]
  refine congrArg (fun m => Q none n (hx S m N)) (rvM_ext (fun b j => ?_) ?_ ?_ ?_ ?_)
  · by_cases hb : b = 84
    · by_cases hj : j = 6 ∨ j = 7 ∨ j = 8 ∨ j = 9
      · exact Or.inl ⟨hb, hj⟩
      · refine Or.inr ?_
        subst hb
        rw [ux_j (by omega), ux_j (by omega), ux_j (by omega), ux_j (by omega)]
    · exact Or.inr (by rw [ux_a hb, ux_a hb, ux_a hb, ux_a hb])
  · rw [ux_j (by decide), ux_j (by decide), ux_j (by decide), ux_s]; decide
  · rw [ux_j (by decide), ux_j (by decide), ux_s]
  · rw [ux_j (by decide), ux_s]; decide
  · rw [ux_s]; rfl
theorem l151 (hA : M 85 = A) (hW : WF A) : ∀ (c i : Nat), i + c = ncA A → ax_W (d + 1) 151 6 [.ref 84, .int (nI i)] [] n (hx S (rvM M (svA A i, lsA A i, 0)) N) Q = Q none n (hx S (rvM M (nowA A)) N) := by
  have n8 := hW.1.2
  have c8 := hW.2.2.1.2
  have a3 := hW.2.2.1.1
  intro c
  induction c with
  | zero =>
    intro i hi
    simp only [↓s151_6, ↓s151_7, ↓s151_8, ↓s151_11, ↓s151_12, ↓s151_13, jc_84, gf_84_0, gf_84_1, gf_84_2, gf_84_3, gf_84_4, ok_84_4, gf_84_5, ok_84_5, gf_84_6, ok_84_6, gf_84_7, ok_84_7, gf_84_8, ok_84_8, gf_84_9, ok_84_9, gf_84_10, gf_84_11, gf_84_12, gf_84_13, gf_84_14, gf_84_15, gf_84_16, gf_84_17, ok_84_17, gf_84_18, gf_84_19, ok_84_19, gf_84_20, ok_84_20, gf_84_21, gf_84_22, gf_84_23, gf_84_24, ok_84_24, gf_84_25, ok_84_25, gf_84_26, ok_84_26, gf_84_27, ok_84_27, gf_84_28, ok_84_28, gf_84_29, gf_84_30, al_85 (show 3 < 181 by decide), rvM_85, hA, a3, ct_s, ct_n, ↓bI_01, bI_eq0, bI_eq1, nI_10, nI_01, dec_f, dec_t, if_n, eq_self, true_or, or_true, if_true, if_false, reduceIte]
    rw [if_pos (nI_le (a := ncA A) (b := i) (by omega) (by omega))]
    simp only [↓s151_62, ↓s151_63, ↓s151_64, ↓s151_67, ↓s151_68, ↓s151_69, ↓s151_72, jc_84, gf_84_0, gf_84_1, gf_84_2, gf_84_3, gf_84_4, ok_84_4, gf_84_5, ok_84_5, gf_84_6, ok_84_6, gf_84_7, ok_84_7, gf_84_8, ok_84_8, gf_84_9, ok_84_9, gf_84_10, gf_84_11, gf_84_12, gf_84_13, gf_84_14, gf_84_15, gf_84_16, gf_84_17, ok_84_17, gf_84_18, gf_84_19, ok_84_19, gf_84_20, ok_84_20, gf_84_21, gf_84_22, gf_84_23, gf_84_24, ok_84_24, gf_84_25, ok_84_25, gf_84_26, ok_84_26, gf_84_27, ok_84_27, gf_84_28, ok_84_28, gf_84_29, gf_84_30, al_85 (show 2 < 181 by decide), rvM_85, hA, ct_s, ct_n, ↓bI_01, bI_eq0, bI_eq1, nI_10, nI_01, dec_f, dec_t, if_n, eq_self, true_or, or_true, if_true, if_false, reduceIte]
    refine congrArg (fun m => Q none n (hx S m N)) (rvM_ext (fun b j => ?_) ?_ ?_ ?_ ?_)
    · by_cases hb : b = 84
      · subst hb
        by_cases hj : j = 6 ∨ j = 7 ∨ j = 8 ∨ j = 9
        · exact Or.inl ⟨rfl, hj⟩
        · exact Or.inr (by rw [ux_j (by omega), rvM_j (by omega) (by omega) (by omega) (by omega)])
      · exact Or.inr (by rw [ux_a hb, rvM_o hb])
    · rw [ux_s]; exact (iI_to _).symm
    · rw [ux_j (by decide), rvM_7, show i = ncA A by omega]; rfl
    · rw [ux_j (by decide), rvM_8, show i = ncA A by omega]; rfl
    · rw [ux_j (by decide), rvM_9, show i = ncA A by omega]; rfl
  | succ c ih =>
    intro i hi
    have hcd := (hW.2.2.2.2.2.2.2.2.1 i (by omega)).1
    have hp0 := hW.2.2.2.2.2.2.2.2.2.1 i (by omega)
    have hp1 := hW.2.2.2.2.2.2.2.2.2.1 (i + 1) (by omega)
    simp only [↓s151_6, ↓s151_7, ↓s151_8, ↓s151_11, ↓s151_12, ↓s151_13, jc_84, gf_84_0, gf_84_1, gf_84_2, gf_84_3, gf_84_4, ok_84_4, gf_84_5, ok_84_5, gf_84_6, ok_84_6, gf_84_7, ok_84_7, gf_84_8, ok_84_8, gf_84_9, ok_84_9, gf_84_10, gf_84_11, gf_84_12, gf_84_13, gf_84_14, gf_84_15, gf_84_16, gf_84_17, ok_84_17, gf_84_18, gf_84_19, ok_84_19, gf_84_20, ok_84_20, gf_84_21, gf_84_22, gf_84_23, gf_84_24, ok_84_24, gf_84_25, ok_84_25, gf_84_26, ok_84_26, gf_84_27, ok_84_27, gf_84_28, ok_84_28, gf_84_29, gf_84_30, al_85 (show 3 < 181 by decide), rvM_85, hA, a3, ct_s, ct_n, ↓bI_01, bI_eq0, bI_eq1, nI_10, nI_01, dec_f, dec_t, if_n, eq_self, true_or, or_true, if_true, if_false, reduceIte]
    rw [if_neg (nI_ge (a := i) (b := ncA A) (by omega) (by omega))]
    simp only [↓s151_16, ↓s151_17, ↓s151_18, ↓s151_21, ↓s151_23, ↓s151_24, ↓s151_25, ↓s151_26, ↓s151_27, ↓s151_28, ↓s151_31, ↓s151_32, ↓s151_33, ↓s151_36, ↓s151_37, ↓s151_38, ↓s151_41, ↓s151_42, ↓s151_43, ↓s151_46, ↓s151_47, ↓s151_48, ↓s151_51, ↓s151_52, ↓s151_53, ↓s151_56, ↓s151_59, jc_84, gf_84_0, gf_84_1, gf_84_2, gf_84_3, gf_84_4, ok_84_4, gf_84_5, ok_84_5, gf_84_6, ok_84_6, gf_84_7, ok_84_7, gf_84_8, ok_84_8, gf_84_9, ok_84_9, gf_84_10, gf_84_11, gf_84_12, gf_84_13, gf_84_14, gf_84_15, gf_84_16, gf_84_17, ok_84_17, gf_84_18, gf_84_19, ok_84_19, gf_84_20, ok_84_20, gf_84_21, gf_84_22, gf_84_23, gf_84_24, ok_84_24, gf_84_25, ok_84_25, gf_84_26, ok_84_26, gf_84_27, ok_84_27, gf_84_28, ok_84_28, gf_84_29, gf_84_30, nI_add, pk_mul, al_85 (show 71 + 4 * i < 181 by omega), rvM_85, hA, hcd.1, ux_s, ux_j (show (7 : Nat) ≠ 9 by decide), ux_j (show (8 : Nat) ≠ 9 by decide), ux_j (show (8 : Nat) ≠ 7 by decide), ux_j (show (9 : Nat) ≠ 7 by decide), rvM_7, rvM_8, hp0, bt_add _ (svA_lt hW i (by omega)) _ (show cdA A i < 8 by omega), ct_s, ct_n, ↓bI_01, bI_eq0, bI_eq1, nI_10, nI_01, dec_f, dec_t, if_n, eq_self, true_or, or_true, if_true, if_false, reduceIte]
    rw [← ih (i + 1) (by omega)]
    refine congrArg (fun m => ax_W (d + 1) 151 6 [.ref 84, .int (nI (i + 1))] [] n (hx S m N) Q) (rvM_ext (fun b j => ?_) ?_ ?_ ?_ ?_)
    · by_cases hb : b = 84
      · subst hb
        by_cases hj : j = 6 ∨ j = 7 ∨ j = 8 ∨ j = 9
        · exact Or.inl ⟨rfl, hj⟩
        · exact Or.inr (by rw [ux_j (by omega), ux_j (by omega), ux_j (by omega), rvM_j (by omega) (by omega) (by omega) (by omega)])
      · exact Or.inr (by rw [ux_a hb, ux_a hb, ux_a hb, rvM_o hb])
    · rw [ux_j (by decide), ux_j (by decide), ux_j (by decide), rvM_6]
    · rw [ux_j (by decide), ux_s]; rfl
    · rw [ux_s, hp1]
    · rw [ux_j (by decide), ux_j (by decide), ux_s]; rfl
theorem c151 (hA : M 85 = A) (hW : WF A) : ax_W (d + 1) 151 0 [.ref 84, ax_dm] [] n (hx S M N) Q = Q none n (hx S (rvM M (nowA A)) N) := by
  simp only [↓s151_0, ↓s151_1, ↓s151_4, ↓s151_5, jc_84, ↓c150, ct_s, ct_n, ↓bI_01, bI_eq0, bI_eq1, nI_10, nI_01, dec_f, dec_t, if_n, eq_self, true_or, or_true, if_true, if_false, reduceIte]
  exact l151 hA hW (ncA A) 0 (by omega)
end Ref
