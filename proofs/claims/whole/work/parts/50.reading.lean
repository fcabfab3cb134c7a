/-! ===== reading ===== -/
/-- places lo .. lo + k of cell a are f 0 .. f (k - 1) -/
def cpy (M : ax_M) (a lo k : Nat) (f : Nat → Int32) : ax_M := fun b j => if b = a ∧ lo ≤ j ∧ j < lo + k then f (j - lo) else M b j
section Reading
variable {M : ax_M} {N : ax_L} {x y : Int32} {A : ax_A0} {f : Nat → Int32}
theorem cpy_0 {a lo : Nat} : cpy M a lo 0 f = M := by
  funext b j
  unfold cpy
  rw [if_neg (by omega)]
theorem cpy_s {a lo k : Nat} : ux (cpy M a lo k f) a (lo + k) (f k) = cpy M a lo (k + 1) f := by
  funext b j
  show (if b = a ∧ j = lo + k then f k else if b = a ∧ lo ≤ j ∧ j < lo + k then f (j - lo) else M b j) = (if b = a ∧ lo ≤ j ∧ j < lo + (k + 1) then f (j - lo) else M b j)
  by_cases hb : b = a
  · by_cases h1 : j = lo + k
    · rw [if_pos ⟨hb, h1⟩, if_pos ⟨hb, by omega, by omega⟩, show j - lo = k by omega]
    · rw [if_neg (fun q => h1 q.2)]
      by_cases h2 : lo ≤ j ∧ j < lo + k
      · rw [if_pos ⟨hb, h2⟩, if_pos ⟨hb, by omega, by omega⟩]
      · rw [if_neg (fun q => h2 q.2), if_neg (fun q => h2 ⟨q.2.1, by omega⟩)]
  · rw [if_neg (fun q => hb q.1), if_neg (fun q => hb q.1), if_neg (fun q => hb q.1)]
theorem cpy_a {a lo k b : Nat} (hb : b ≠ a) : cpy M a lo k f b = M b := by
  funext j
  unfold cpy
  rw [if_neg (fun q => hb q.1)]
theorem cpy_o {a lo k j : Nat} (h : j < lo ∨ lo + k ≤ j) : cpy M a lo k f a j = M a j := by
  unfold cpy
  rw [if_neg (by omega)]
theorem cpy_i {a lo k j : Nat} (h : j < k) : cpy M a lo k f a (lo + j) = f j := by
  unfold cpy
  rw [if_pos ⟨rfl, by omega, by omega⟩, show lo + j - lo = j by omega]
/-- the court behind a reading -/
def rdgA (A : ax_A0) (s v : Int32) : ax_A0 := fun j => if j = 5 then nI (nrA A + 1) else if j = 115 + 11 * nrA A then s else if j = 116 + 11 * nrA A then v else if j = 117 + 11 * nrA A then A 4 else if 118 + 11 * nrA A ≤ j ∧ j < 118 + 11 * nrA A + nmA A then A (107 + (j - (118 + 11 * nrA A))) else A j
theorem rdgA_o {s v : Int32} {j : Nat} (h5 : j ≠ 5) (h : j < 115 + 11 * nrA A ∨ 118 + 11 * nrA A + nmA A ≤ j) : rdgA A s v j = A j := by
  unfold rdgA
  rw [if_neg h5, if_neg (by omega), if_neg (by omega), if_neg (by omega), if_neg (by omega)]
theorem rdgA_0 {s v : Int32} : rdgA A s v (115 + 11 * nrA A) = s := by unfold rdgA; rw [if_neg (by omega), if_pos rfl]
theorem rdgA_1 {s v : Int32} : rdgA A s v (116 + 11 * nrA A) = v := by unfold rdgA; rw [if_neg (by omega), if_neg (by omega), if_pos rfl]
theorem rdgA_2 {s v : Int32} : rdgA A s v (117 + 11 * nrA A) = A 4 := by unfold rdgA; rw [if_neg (by omega), if_neg (by omega), if_neg (by omega), if_pos rfl]
theorem rdgA_3 {s v : Int32} {j : Nat} (h : j < nmA A) : rdgA A s v (118 + 11 * nrA A + j) = A (107 + j) := by unfold rdgA; rw [if_neg (by omega), if_neg (by omega), if_neg (by omega), if_neg (by omega), if_pos ⟨by omega, by omega⟩, show 118 + 11 * nrA A + j - (118 + 11 * nrA A) = j by omega]
theorem rdgA_wf (hW : WF A) {s v : Nat} (hn : nrA A < 6) (hs : s ≤ 1) (hv : v ≤ 2) : WF (rdgA A (nI s) (nI v)) := by
  have m8 := hW.2.2.2.1.2
  have en : nrA (rdgA A (nI s) (nI v)) = nrA A + 1 := by
    unfold nrA
    rw [show rdgA A (nI s) (nI v) 5 = nI (nrA A + 1) from rfl]
    exact tn_nI (by omega)
  have u : ∀ j, j ≠ 5 → j < 115 → rdgA A (nI s) (nI v) j = A j := fun j h1 h2 => rdgA_o h1 (by omega)
  have e0 : ndA (rdgA A (nI s) (nI v)) = ndA A := by unfold ndA; rw [u 0 (by omega) (by omega)]
  refine WF_mk (WFd_eq (u 0 (by omega) (by omega)) (u 1 (by omega) (by omega)) (fun i _ _ => u i (by omega) (by omega)) hW.d) (WFb_eq (fun i _ _ => u i (by omega) (by omega)) hW.b) (WFc_eq (Nat.le_of_eq e0.symm) (u 2 (by omega) (by omega)) (u 3 (by omega) (by omega)) (fun i _ _ => u i (by omega) (by omega)) hW.c) (WFm_eq (Nat.le_of_eq e0.symm) (u 4 (by omega) (by omega)) (fun i _ _ => u i (by omega) (by omega)) hW.m) ⟨by rw [en]; exact ⟨rfl, by omega⟩, fun r hr => ?_⟩
  rw [en] at hr
  rw [e0]
  by_cases e : r < nrA A
  · obtain ⟨x1, x2, x3, x4⟩ := hW.r.2 r e
    rw [rdgA_o (j := 115 + 11 * r) (by omega) (by omega), rdgA_o (j := 116 + 11 * r) (by omega) (by omega), rdgA_o (j := 117 + 11 * r) (by omega) (by omega)]
    refine ⟨x1, x2, x3, fun k hk => ?_⟩
    have := x3.2
    rw [rdgA_o (j := 118 + 11 * r + k) (by omega) (by omega)]
    exact x4 k hk
  · have e : r = nrA A := by omega
    subst e
    rw [rdgA_0, rdgA_1, rdgA_2, tn_nI (by omega)]
    refine ⟨?_, ⟨rfl, hv⟩, hW.2.2.2.1, fun k hk => ?_⟩
    · rcases (show s = 0 ∨ s = 1 by omega) with rfl | rfl
      · exact Or.inl rfl
      · exact Or.inr rfl
    · rw [rdgA_3 hk]
      exact hW.m.2.1 k hk
theorem l13 {d n : Nat} {Q : Option Value → Nat → ax_H → Prop} {S : ax_S} {r m : Nat} {y0 y1 : Value} (hr : r < 6) (hm : m ≤ 8) (h30' : M 30 3 = nI (r + 1)) (h28' : M 28 3 = nI m) (hf : ∀ i, i < m → M 29 i = f i) : ∀ (c i : Nat), i + c = m → ax_W (d + 2) 13 54 [.ref 21, y0, y1, .int (nI r), .int (nI i)] [] n (hx S (cpy M 31 (r * 11 + 3) i f) N) Q = Q (some (.int (nI 1))) n (hx S (cpy M 31 (r * 11 + 3) m f) N) := by
  intro c
  induction c with
  | zero =>
    intro i hi
    have e : i = m := by omega
    subst e
    have q : cpy M 31 (r * 11 + 3) i f 28 3 = nI i := by rw [cpy_a (by decide)]; exact h28'
    simp only [↓s13_54, ↓s13_56, ↓s13_57, ↓s13_60, ↓s13_63, jc_21, gf_21_0, gf_21_1, gf_21_2, gf_21_3, gf_21_4, gf_21_5, ok_21_5, gf_21_6, ok_21_6, jc_28, gf_28_0, gf_28_1, gf_28_2, gf_28_3, ok_28_3, ↓c53 h28, q, ct_s, ct_n, ↓bI_01, bI_eq0, bI_eq1, nI_10, nI_01, dec_f, dec_t, if_n, eq_self, true_or, or_true, if_true, if_false, reduceIte]
    rw [if_pos (nI_le (a := i) (b := i) (by omega) (by omega))]
    simp only [↓s13_94, ↓s13_95, ct_s, ct_n, ↓bI_01, bI_eq0, bI_eq1, nI_10, nI_01, dec_f, dec_t, if_n, eq_self, true_or, or_true, if_true, if_false, reduceIte]
  | succ c ih =>
    intro i hi
    have q : cpy M 31 (r * 11 + 3) i f 28 3 = nI m := by rw [cpy_a (by decide)]; exact h28'
    have q30 : cpy M 31 (r * 11 + 3) i f 30 3 = nI (r + 1) := by rw [cpy_a (by decide)]; exact h30'
    have rc : rcell (cpy M 31 (r * 11 + 3) i f) 28 1 (nI i) (nI 0) = f i := by
      rw [rcell_in q (by omega) (show i < m by omega) (by omega) (by omega), show i * 1 + 0 = i by omega, cpy_a (by decide)]
      exact hf i (by omega)
    simp only [↓s13_54, ↓s13_56, ↓s13_57, ↓s13_60, ↓s13_63, jc_21, gf_21_0, gf_21_1, gf_21_2, gf_21_3, gf_21_4, gf_21_5, ok_21_5, gf_21_6, ok_21_6, jc_28, gf_28_0, gf_28_1, gf_28_2, gf_28_3, ok_28_3, ↓c53 h28, q, ct_s, ct_n, ↓bI_01, bI_eq0, bI_eq1, nI_10, nI_01, dec_f, dec_t, if_n, eq_self, true_or, or_true, if_true, if_false, reduceIte]
    rw [if_neg (nI_ge (a := i) (b := m) (by omega) (by omega))]
    simp only [↓s13_66, ↓s13_67, ↓s13_70, ↓s13_71, ↓s13_72, ↓s13_74, ↓s13_75, ↓s13_76, ↓s13_79, ↓s13_81, ↓s13_82, ↓s13_85, ↓s13_88, ↓s13_91, jc_21, gf_21_0, gf_21_1, gf_21_2, gf_21_3, gf_21_4, gf_21_5, ok_21_5, gf_21_6, ok_21_6, jc_28, gf_28_0, gf_28_1, gf_28_2, gf_28_3, ok_28_3, jc_30, gf_30_0, gf_30_1, gf_30_2, gf_30_3, ok_30_3, ↓c54 h28 (cap_of q hm (by omega)), rc, nI_add, ↓c55 h30 (cap_of q30 (show r + 1 ≤ 6 by omega) (by omega)), rput_in q30 (show r + 1 < 2 ^ 31 by omega) (Nat.lt_succ_self r) (by decide) (show 3 + i < 11 by omega), ← Nat.add_assoc, cpy_s, ct_s, ct_n, ↓bI_01, bI_eq0, bI_eq1, nI_10, nI_01, dec_f, dec_t, if_n, eq_self, true_or, or_true, if_true, if_false, reduceIte]
    exact ih (i + 1) (by omega)
theorem l186 {d n : Nat} {Q : Option Value → Nat → ax_H → Prop} {S : ax_S} {r : Nat} {y0 y1 : Value} (hr : r < 6) (hm : nmA A ≤ 8) (h4 : A 4 = nI (nmA A)) (hA : M 85 4 = A 4) (hf : ∀ i, i < nmA A → M 85 (107 + i) = f i) : ∀ (c i : Nat), i + c = nmA A → ax_W (d + 2) 186 88 [.ref 84, y0, y1, .int (nI (115 + 11 * r)), .int (nI i)] [] n (hx S (cpy M 85 (115 + 11 * r + 3) i f) N) Q = ax_W (d + 2) 186 126 [.ref 84, y0, y1, .int (nI (115 + 11 * r)), .int (nI (nmA A))] [] n (hx S (cpy M 85 (115 + 11 * r + 3) (nmA A) f) N) Q := by
  intro c
  induction c with
  | zero =>
    intro i hi
    have q : cpy M 85 (115 + 11 * r + 3) i f 85 4 = nI (nmA A) := by rw [cpy_o (by omega), hA]; exact h4
    simp only [↓s186_88, ↓s186_90, ↓s186_91, ↓s186_94, ↓s186_95, ↓s186_96, jc_84, gf_84_0, gf_84_1, gf_84_2, gf_84_3, gf_84_4, ok_84_4, gf_84_5, ok_84_5, gf_84_6, ok_84_6, gf_84_7, ok_84_7, gf_84_8, ok_84_8, gf_84_9, ok_84_9, gf_84_10, gf_84_11, gf_84_12, gf_84_13, gf_84_14, gf_84_15, gf_84_16, gf_84_17, ok_84_17, gf_84_18, gf_84_19, ok_84_19, gf_84_20, ok_84_20, gf_84_21, gf_84_22, gf_84_23, gf_84_24, ok_84_24, gf_84_25, ok_84_25, gf_84_26, ok_84_26, gf_84_27, ok_84_27, gf_84_28, ok_84_28, gf_84_29, gf_84_30, al_85 (show 4 < 181 by decide), q, ct_s, ct_n, ↓bI_01, bI_eq0, bI_eq1, nI_10, nI_01, dec_f, dec_t, if_n, eq_self, true_or, or_true, if_true, if_false, reduceIte]
    have e : i = nmA A := by omega
    rw [e, if_pos (nI_le (a := nmA A) (b := nmA A) (by omega) (by omega))]
  | succ c ih =>
    intro i hi
    have q : cpy M 85 (115 + 11 * r + 3) i f 85 4 = nI (nmA A) := by rw [cpy_o (by omega), hA]; exact h4
    have q2 : cpy M 85 (115 + 11 * r + 3) i f 85 (107 + i) = f i := by rw [cpy_o (by omega)]; exact hf i (by omega)
    simp only [↓s186_88, ↓s186_90, ↓s186_91, ↓s186_94, ↓s186_95, ↓s186_96, jc_84, gf_84_0, gf_84_1, gf_84_2, gf_84_3, gf_84_4, ok_84_4, gf_84_5, ok_84_5, gf_84_6, ok_84_6, gf_84_7, ok_84_7, gf_84_8, ok_84_8, gf_84_9, ok_84_9, gf_84_10, gf_84_11, gf_84_12, gf_84_13, gf_84_14, gf_84_15, gf_84_16, gf_84_17, ok_84_17, gf_84_18, gf_84_19, ok_84_19, gf_84_20, ok_84_20, gf_84_21, gf_84_22, gf_84_23, gf_84_24, ok_84_24, gf_84_25, ok_84_25, gf_84_26, ok_84_26, gf_84_27, ok_84_27, gf_84_28, ok_84_28, gf_84_29, gf_84_30, al_85 (show 4 < 181 by decide), q, ct_s, ct_n, ↓bI_01, bI_eq0, bI_eq1, nI_10, nI_01, dec_f, dec_t, if_n, eq_self, true_or, or_true, if_true, if_false, reduceIte]
    rw [if_neg (nI_ge (a := i) (b := nmA A) (by omega) (by omega))]
    simp only [↓s186_99, ↓s186_100, ↓s186_103, ↓s186_104, ↓s186_105, ↓s186_106, ↓s186_108, ↓s186_109, ↓s186_110, ↓s186_113, ↓s186_115, ↓s186_117, ↓s186_118, ↓s186_119, ↓s186_120, ↓s186_123, jc_84, gf_84_0, gf_84_1, gf_84_2, gf_84_3, gf_84_4, ok_84_4, gf_84_5, ok_84_5, gf_84_6, ok_84_6, gf_84_7, ok_84_7, gf_84_8, ok_84_8, gf_84_9, ok_84_9, gf_84_10, gf_84_11, gf_84_12, gf_84_13, gf_84_14, gf_84_15, gf_84_16, gf_84_17, ok_84_17, gf_84_18, gf_84_19, ok_84_19, gf_84_20, ok_84_20, gf_84_21, gf_84_22, gf_84_23, gf_84_24, ok_84_24, gf_84_25, ok_84_25, gf_84_26, ok_84_26, gf_84_27, ok_84_27, gf_84_28, ok_84_28, gf_84_29, gf_84_30, nI_add, al_85 (show 107 + i < 181 by omega), q2, sa_85 (show 115 + 11 * r + 3 + i < 181 by omega), cpy_s, ct_s, ct_n, ↓bI_01, bI_eq0, bI_eq1, nI_10, nI_01, dec_f, dec_t, if_n, eq_self, true_or, or_true, if_true, if_false, reduceIte]
    exact ih (i + 1) (by omega)
theorem p22_bad (hI : Inv M N) (hb : ¬ ((nI 0 ≤ x ∧ x ≤ nI 1) ∧ (nI 0 ≤ y ∧ y ≤ nI 2))) : RPi 103 186 [.ref 20, .int x, .int y] [.ref 84, .int x, .int y, ax_dm, ax_dm] M N := by
  refine ⟨-2, ux M 20 13 (M 20 13 + nI 1), N, rjM M 0, N, fun S d n Q => ?_, fun S d n Q => ?_, Inv_rj (by decide) hI⟩
  · simp only [↓s103_0, ↓s103_1, ↓s103_4, ↓s103_7, ↓s103_8, ↓s103_11, ↓s103_14, ↓s103_15, ↓s103_17, ↓s103_19, ↓s103_22, ↓c122, ↓c124, jc_20, ↓c116, refM_b, ct_s, ct_n, ↓bI_01, bI_eq0, bI_eq1, nI_10, nI_01, dec_f, dec_t, if_n, eq_self, true_or, or_true, if_true, if_false, reduceIte]
    by_cases h0 : nI 0 ≤ x ∧ x ≤ nI 1
    · rw [if_pos h0, if_neg (fun q => hb ⟨h0, q⟩)]
    · rw [if_neg h0]
  · simp only [↓s186_0, ↓s186_1, ↓s186_4, ↓s186_7, ↓s186_8, ↓s186_9, ↓s186_10, ↓s186_13, ↓s186_16, ↓s186_19, ↓s186_20, ↓s186_22, ↓s186_25, ↓c142, ↓c135 (l := nI 0) (q := 0) (m := nI 2) (r := 2) rfl rfl, jc_84, ↓c136, ux88, ct_s, ct_n, ↓bI_01, bI_eq0, bI_eq1, nI_10, nI_01, dec_f, dec_t, if_n, eq_self, true_or, or_true, if_true, if_false, reduceIte]
    have fin : rjM M 0 = ux (ux M 20 13 (M 20 13 + nI 1)) 88 0 (M 88 0 + nI 1) := rfl
    rw [fin]
    by_cases h0 : nI 0 ≤ x ∧ x ≤ nI 1
    · rw [if_pos h0, if_neg (fun q => hb ⟨h0, q⟩)]
    · rw [if_neg h0]
set_option maxHeartbeats 2000000 in
theorem p22 (hI : Inv M N) : RPi 103 186 [.ref 20, .int x, .int y] [.ref 84, .int x, .int y, ax_dm, ax_dm] M N := by
  have hC := hI.1
  have hW := hI.2.1
  have r6 := hW.2.2.2.2.1.2
  have m8 := hW.2.2.2.1.2
  have a5 : M 85 5 = nI (nrA (M 85)) := hW.2.2.2.2.1.1
  have a4 : M 85 4 = nI (nmA (M 85)) := hW.2.2.2.1.1
  have m3 := (rc_nr hC hW).1
  have m28 := (rc_nm hC hW).1
  by_cases h0 : nI 0 ≤ x ∧ x ≤ nI 1
  · by_cases h1 : nI 0 ≤ y ∧ y ≤ nI 2
    · obtain ⟨s, s1, rfl⟩ := rng (by decide) h0
      obtain ⟨v, v2, rfl⟩ := rng (by decide) h1
      by_cases hf : nrA (M 85) = 6
      · refine ⟨-4, ux M 20 15 (M 20 15 + nI 1), N, rjM M 2, N, fun S d n Q => ?_, fun S d n Q => ?_, Inv_rj (by decide) hI⟩
        · rw [hf] at m3
          simp only [↓s103_0, ↓s103_1, ↓s103_4, ↓s103_7, ↓s103_8, ↓s103_11, ↓c122, ↓c124, ct_s, ct_n, ↓bI_01, bI_eq0, bI_eq1, nI_10, nI_01, dec_f, dec_t, if_n, eq_self, true_or, or_true, if_true, if_false, reduceIte]
          rw [if_pos h0, if_pos h1]
          simp only [↓s103_23, ↓s103_24, ↓s103_27, ↓s103_28, ↓s103_29, ↓s103_32, ↓s103_35, ↓s103_36, ↓s103_38, ↓s103_40, ↓s103_43, ↓s13_0, ↓s13_1, ↓s13_4, ↓s13_7, ↓s13_8, ↓s13_9, ↓s13_10, ↓s13_13, ↓s13_14, jc_20, gf_20_0, gf_20_1, gf_20_2, gf_20_3, gf_20_4, gf_20_5, gf_20_6, gf_20_7, gf_20_8, gf_20_9, gf_20_10, gf_20_11, ok_20_11, gf_20_12, ok_20_12, gf_20_13, ok_20_13, gf_20_14, ok_20_14, gf_20_15, ok_20_15, jc_21, gf_21_0, gf_21_1, gf_21_2, gf_21_3, gf_21_4, gf_21_5, ok_21_5, gf_21_6, ok_21_6, jc_30, gf_30_0, gf_30_1, gf_30_2, gf_30_3, ok_30_3, ↓c56f h30 m3, ↓c116, refM_f, ct_s, ct_n, ↓bI_01, bI_eq0, bI_eq1, nI_10, nI_01, dec_f, dec_t, if_n, eq_self, true_or, or_true, if_true, if_false, reduceIte]
        · have a5' : ux M 20 15 (M 20 15 + nI 1) 85 5 = nI 6 := by rw [ux_a (by decide), a5, hf]
          simp only [↓s186_0, ↓s186_1, ↓s186_4, ↓s186_7, ↓s186_8, ↓s186_9, ↓s186_10, ↓s186_13, ↓s186_16, ↓s186_19, ↓s186_20, ↓s186_22, ↓s186_25, ↓s186_26, ↓s186_27, ↓s186_30, ↓s186_31, ↓s186_32, ↓s186_34, jc_84, gf_84_0, gf_84_1, gf_84_2, gf_84_3, gf_84_4, ok_84_4, gf_84_5, ok_84_5, gf_84_6, ok_84_6, gf_84_7, ok_84_7, gf_84_8, ok_84_8, gf_84_9, ok_84_9, gf_84_10, gf_84_11, gf_84_12, gf_84_13, gf_84_14, gf_84_15, gf_84_16, gf_84_17, ok_84_17, gf_84_18, gf_84_19, ok_84_19, gf_84_20, ok_84_20, gf_84_21, gf_84_22, gf_84_23, gf_84_24, ok_84_24, gf_84_25, ok_84_25, gf_84_26, ok_84_26, gf_84_27, ok_84_27, gf_84_28, ok_84_28, gf_84_29, gf_84_30, ↓c142, ↓c135 (l := nI 0) (q := 0) (m := nI 2) (r := 2) rfl rfl, al_85 (show 5 < 181 by decide), a5', ct_s, ct_n, ↓bI_01, bI_eq0, bI_eq1, nI_10, nI_01, dec_f, dec_t, if_n, eq_self, true_or, or_true, if_true, if_false, reduceIte]
          rw [if_pos h0, if_pos h1]
          simp only [↓s186_37, ↓s186_38, ↓s186_41, jc_84, gf_84_0, gf_84_1, gf_84_2, gf_84_3, gf_84_4, ok_84_4, gf_84_5, ok_84_5, gf_84_6, ok_84_6, gf_84_7, ok_84_7, gf_84_8, ok_84_8, gf_84_9, ok_84_9, gf_84_10, gf_84_11, gf_84_12, gf_84_13, gf_84_14, gf_84_15, gf_84_16, gf_84_17, ok_84_17, gf_84_18, gf_84_19, ok_84_19, gf_84_20, ok_84_20, gf_84_21, gf_84_22, gf_84_23, gf_84_24, ok_84_24, gf_84_25, ok_84_25, gf_84_26, ok_84_26, gf_84_27, ok_84_27, gf_84_28, ok_84_28, gf_84_29, gf_84_30, ↓c138, ux88, ct_s, ct_n, ↓bI_01, bI_eq0, bI_eq1, nI_10, nI_01, dec_f, dec_t, if_n, eq_self, true_or, or_true, if_true, if_false, reduceIte]
          rfl
      · have hn : nrA (M 85) < 6 := by omega
        generalize hr : nrA (M 85) = r at *
        generalize hm0 : zr (ux M 30 3 (nI (r + 1))) (30 + 1) (r * 11) 11 = m0
        have o0 : ∀ a, a ≠ 30 → a ≠ 31 → m0 a = M a := fun a h1 h2 => by rw [← hm0, zr_a h2, ux_f h1]
        have e0 : m0 30 3 = nI (r + 1) := by rw [← hm0, zr_a (by decide), ux_s]
        have f0 : ∀ j, j < r * 11 → m0 31 j = M 31 j := fun j hj => by
          rw [← hm0]
          show (if _ then _ else _) = _
          rw [if_neg (by omega), ux_a (by decide)]
        generalize hm1 : ux m0 (30 + 1) (r * 11 + 0) (nI s) = m1
        have o1 : ∀ a, a ≠ 31 → m1 a = m0 a := fun a h => by rw [← hm1, ux_f h]
        generalize hm2 : ux m1 (30 + 1) (r * 11 + 1) (nI v) = m2
        have o2 : ∀ a, a ≠ 31 → m2 a = m1 a := fun a h => by rw [← hm2, ux_f h]
        generalize hm3 : ux m2 (30 + 1) (r * 11 + 2) (nI (nmA (M 85))) = m3'
        have o3 : ∀ a, a ≠ 31 → m3' a = m2 a := fun a h => by rw [← hm3, ux_f h]
        have k1 : ∀ a, a ≠ 31 → m3' a = m0 a := fun a h => by rw [o3 a h, o2 a h, o1 a h]
        have e1 : m1 30 3 = nI (r + 1) := by rw [o1 30 (by decide)]; exact e0
        have e2 : m2 30 3 = nI (r + 1) := by rw [o2 30 (by decide)]; exact e1
        have e3 : m3' 30 3 = nI (r + 1) := by rw [o3 30 (by decide)]; exact e2
        have g2 : m2 28 3 = nI (nmA (M 85)) := by rw [o2 28 (by decide), o1 28 (by decide), o0 28 (by decide) (by decide)]; exact m28
        have g3 : m3' 28 3 = nI (nmA (M 85)) := by rw [k1 28 (by decide), o0 28 (by decide) (by decide)]; exact m28
        have hfm : ∀ i, i < nmA (M 85) → m3' 29 i = M 85 (107 + i) := fun i hi => by
          rw [k1 29 (by decide), o0 29 (by decide) (by decide)]
          exact hC.pm.2 i hi
        have w31 : ∀ j, m3' 31 j = if j = r * 11 + 2 then nI (nmA (M 85)) else if j = r * 11 + 1 then nI v else if j = r * 11 + 0 then nI s else m0 31 j := fun j => by
          rw [← hm3, ← hm2, ← hm1]
          show ux (ux (ux m0 31 _ _) 31 _ _) 31 _ _ 31 j = _
          rw [uxS, uxS, uxS]
        generalize hm4 : cpy m3' 31 (r * 11 + 3) (nmA (M 85)) (fun i => M 85 (107 + i)) = m4
        have o4 : ∀ a, a ≠ 31 → m4 a = m3' a := fun a h => by rw [← hm4, cpy_a h]
        have k4 : ∀ a, a ≠ 30 → a ≠ 31 → m4 a = M a := fun a h1 h2 => by rw [o4 a h2, k1 a h2, o0 a h1 h2]
        have e4 : m4 30 3 = nI (r + 1) := by rw [o4 30 (by decide)]; exact e3
        have hA : m4 85 = M 85 := k4 85 (by decide) (by decide)
        generalize hm5 : ux (ux (ux m4 85 (115 + 11 * r) (nI s)) 85 (115 + 11 * r + 1) (nI v)) 85 (115 + 11 * r + 2) (nI (nmA (M 85))) = m5
        have o5 : ∀ a, a ≠ 85 → m5 a = m4 a := fun a h => by rw [← hm5, ux_f h, ux_f h, ux_f h]
        have w5 : ∀ j, m5 85 j = if j = 115 + 11 * r + 2 then nI (nmA (M 85)) else if j = 115 + 11 * r + 1 then nI v else if j = 115 + 11 * r then nI s else M 85 j := fun j => by
          rw [← hm5, ux85, ux85, ux85, hA]
        have w5o : ∀ j, j < 115 → m5 85 j = M 85 j := fun j hj => by rw [w5, if_neg (by omega), if_neg (by omega), if_neg (by omega)]
        generalize hm6 : cpy m5 85 (115 + 11 * r + 3) (nmA (M 85)) (fun i => M 85 (107 + i)) = m6
        have o6 : ∀ a, a ≠ 85 → m6 a = m4 a := fun a h => by rw [← hm6, cpy_a h, o5 a h]
        have w65 : m6 85 5 = nI r := by rw [← hm6, cpy_o (by omega), w5o 5 (by decide)]; exact a5
        refine ⟨nI (r + 1), m4, N, ux m6 85 5 (nI (r + 1)), N, fun S d n Q => ?_, fun S d n Q => ?_, ?_⟩
        · simp only [↓s103_0, ↓s103_1, ↓s103_4, ↓s103_7, ↓s103_8, ↓s103_11, ↓c122, ↓c124, ct_s, ct_n, ↓bI_01, bI_eq0, bI_eq1, nI_10, nI_01, dec_f, dec_t, if_n, eq_self, true_or, or_true, if_true, if_false, reduceIte]
          rw [if_pos h0, if_pos h1]
          simp only [↓s103_23, ↓s103_24, ↓s103_27, ↓s103_28, ↓s103_29, ↓s13_0, ↓s13_1, ↓s13_4, ↓s13_7, ↓s13_8, ↓s13_9, ↓s13_10, jc_20, gf_20_0, gf_20_1, gf_20_2, gf_20_3, gf_20_4, gf_20_5, gf_20_6, gf_20_7, gf_20_8, gf_20_9, gf_20_10, gf_20_11, ok_20_11, gf_20_12, ok_20_12, gf_20_13, ok_20_13, gf_20_14, ok_20_14, gf_20_15, ok_20_15, jc_21, gf_21_0, gf_21_1, gf_21_2, gf_21_3, gf_21_4, gf_21_5, ok_21_5, gf_21_6, ok_21_6, jc_30, gf_30_0, gf_30_1, gf_30_2, gf_30_3, ok_30_3, ↓c56 h30 m3 hn, hm0, ct_s, ct_n, ↓bI_01, bI_eq0, bI_eq1, nI_10, nI_01, dec_f, dec_t, if_n, eq_self, true_or, or_true, if_true, if_false, reduceIte]
          rw [if_neg (show ¬ nI r = -1 from nI_m1 (by omega))]
          simp only [↓s13_15, ↓s13_16, ↓s13_19, ↓s13_20, ↓s13_21, ↓s13_22, jc_20, gf_20_0, gf_20_1, gf_20_2, gf_20_3, gf_20_4, gf_20_5, gf_20_6, gf_20_7, gf_20_8, gf_20_9, gf_20_10, gf_20_11, ok_20_11, gf_20_12, ok_20_12, gf_20_13, ok_20_13, gf_20_14, ok_20_14, gf_20_15, ok_20_15, jc_21, gf_21_0, gf_21_1, gf_21_2, gf_21_3, gf_21_4, gf_21_5, ok_21_5, gf_21_6, ok_21_6, jc_30, gf_30_0, gf_30_1, gf_30_2, gf_30_3, ok_30_3, ↓c55 h30 (cap_of e0 (show r + 1 ≤ 6 by omega) (by omega)), rput_in e0 (show r + 1 < 2 ^ 31 by omega) (Nat.lt_succ_self r) (by decide) (show 0 < 11 by decide), hm1, ct_s, ct_n, ↓bI_01, bI_eq0, bI_eq1, nI_10, nI_01, dec_f, dec_t, if_n, eq_self, true_or, or_true, if_true, if_false, reduceIte]
          simp only [↓s13_25, ↓s13_26, ↓s13_29, ↓s13_30, ↓s13_31, ↓s13_32, jc_20, gf_20_0, gf_20_1, gf_20_2, gf_20_3, gf_20_4, gf_20_5, gf_20_6, gf_20_7, gf_20_8, gf_20_9, gf_20_10, gf_20_11, ok_20_11, gf_20_12, ok_20_12, gf_20_13, ok_20_13, gf_20_14, ok_20_14, gf_20_15, ok_20_15, jc_21, gf_21_0, gf_21_1, gf_21_2, gf_21_3, gf_21_4, gf_21_5, ok_21_5, gf_21_6, ok_21_6, jc_30, gf_30_0, gf_30_1, gf_30_2, gf_30_3, ok_30_3, ↓c55 h30 (cap_of e1 (show r + 1 ≤ 6 by omega) (by omega)), rput_in e1 (show r + 1 < 2 ^ 31 by omega) (Nat.lt_succ_self r) (by decide) (show 1 < 11 by decide), hm2, ct_s, ct_n, ↓bI_01, bI_eq0, bI_eq1, nI_10, nI_01, dec_f, dec_t, if_n, eq_self, true_or, or_true, if_true, if_false, reduceIte]
          simp only [↓s13_35, ↓s13_36, ↓s13_39, ↓s13_40, ↓s13_41, ↓s13_42, ↓s13_45, ↓s13_48, ↓s13_51, ↓s13_52, jc_20, gf_20_0, gf_20_1, gf_20_2, gf_20_3, gf_20_4, gf_20_5, gf_20_6, gf_20_7, gf_20_8, gf_20_9, gf_20_10, gf_20_11, ok_20_11, gf_20_12, ok_20_12, gf_20_13, ok_20_13, gf_20_14, ok_20_14, gf_20_15, ok_20_15, jc_21, gf_21_0, gf_21_1, gf_21_2, gf_21_3, gf_21_4, gf_21_5, ok_21_5, gf_21_6, ok_21_6, jc_28, gf_28_0, gf_28_1, gf_28_2, gf_28_3, ok_28_3, jc_30, gf_30_0, gf_30_1, gf_30_2, gf_30_3, ok_30_3, ↓c53 h28, g2, ↓c55 h30 (cap_of e2 (show r + 1 ≤ 6 by omega) (by omega)), rput_in e2 (show r + 1 < 2 ^ 31 by omega) (Nat.lt_succ_self r) (by decide) (show 2 < 11 by decide), hm3, ct_s, ct_n, ↓bI_01, bI_eq0, bI_eq1, nI_10, nI_01, dec_f, dec_t, if_n, eq_self, true_or, or_true, if_true, if_false, reduceIte]
          have hl := fun Q => l13 (d := d + 897) (n := n) (Q := Q) (S := S) (N := N) (y0 := .int (nI s)) (y1 := .int (nI v)) hn m8 e3 g3 hfm (nmA (M 85)) 0 (by omega)
          simp only [cpy_0, hm4] at hl
          rw [hl]
          simp only [↓s103_32, ↓s103_35, ↓s103_36, ↓s103_38, ↓s103_40, ↓s103_43, ↓s103_44, ↓s103_45, ↓s103_48, ↓s103_51, ↓s103_54, jc_20, gf_20_0, gf_20_1, gf_20_2, gf_20_3, gf_20_4, gf_20_5, gf_20_6, gf_20_7, gf_20_8, gf_20_9, gf_20_10, gf_20_11, ok_20_11, gf_20_12, ok_20_12, gf_20_13, ok_20_13, gf_20_14, ok_20_14, gf_20_15, ok_20_15, jc_21, gf_21_0, gf_21_1, gf_21_2, gf_21_3, gf_21_4, gf_21_5, ok_21_5, gf_21_6, ok_21_6, jc_30, gf_30_0, gf_30_1, gf_30_2, gf_30_3, ok_30_3, ↓c53 h30, e4, ct_s, ct_n, ↓bI_01, bI_eq0, bI_eq1, nI_10, nI_01, dec_f, dec_t, if_n, eq_self, true_or, or_true, if_true, if_false, reduceIte]
        · have a5' : m4 85 5 = nI r := by rw [hA]; exact a5
          have a4' : m4 85 4 = nI (nmA (M 85)) := by rw [hA]; exact a4
          simp only [↓s186_0, ↓s186_1, ↓s186_4, ↓s186_7, ↓s186_8, ↓s186_9, ↓s186_10, ↓s186_13, ↓s186_16, ↓s186_19, ↓s186_20, ↓s186_22, ↓s186_25, ↓s186_26, ↓s186_27, ↓s186_30, ↓s186_31, ↓s186_32, ↓s186_34, jc_84, gf_84_0, gf_84_1, gf_84_2, gf_84_3, gf_84_4, ok_84_4, gf_84_5, ok_84_5, gf_84_6, ok_84_6, gf_84_7, ok_84_7, gf_84_8, ok_84_8, gf_84_9, ok_84_9, gf_84_10, gf_84_11, gf_84_12, gf_84_13, gf_84_14, gf_84_15, gf_84_16, gf_84_17, ok_84_17, gf_84_18, gf_84_19, ok_84_19, gf_84_20, ok_84_20, gf_84_21, gf_84_22, gf_84_23, gf_84_24, ok_84_24, gf_84_25, ok_84_25, gf_84_26, ok_84_26, gf_84_27, ok_84_27, gf_84_28, ok_84_28, gf_84_29, gf_84_30, ↓c142, ↓c135 (l := nI 0) (q := 0) (m := nI 2) (r := 2) rfl rfl, al_85 (show 5 < 181 by decide), a5', ct_s, ct_n, ↓bI_01, bI_eq0, bI_eq1, nI_10, nI_01, dec_f, dec_t, if_n, eq_self, true_or, or_true, if_true, if_false, reduceIte]
          rw [if_pos h0, if_pos h1, if_neg (fun q => hf ((nI_eq (a := r) (b := 6) (by omega) (by omega)).mp q))]
          simp only [↓s186_42, ↓s186_44, ↓s186_46, ↓s186_47, ↓s186_50, ↓s186_51, ↓s186_52, ↓s186_53, ↓s186_54, ↓s186_55, ↓s186_56, ↓s186_59, ↓s186_60, ↓s186_61, ↓s186_62, ↓s186_63, ↓s186_66, ↓s186_67, ↓s186_68, ↓s186_69, ↓s186_70, ↓s186_71, ↓s186_72, ↓s186_75, ↓s186_76, ↓s186_77, ↓s186_78, ↓s186_79, ↓s186_82, ↓s186_83, ↓s186_84, ↓s186_85, ↓s186_86, jc_84, gf_84_0, gf_84_1, gf_84_2, gf_84_3, gf_84_4, ok_84_4, gf_84_5, ok_84_5, gf_84_6, ok_84_6, gf_84_7, ok_84_7, gf_84_8, ok_84_8, gf_84_9, ok_84_9, gf_84_10, gf_84_11, gf_84_12, gf_84_13, gf_84_14, gf_84_15, gf_84_16, gf_84_17, ok_84_17, gf_84_18, gf_84_19, ok_84_19, gf_84_20, ok_84_20, gf_84_21, gf_84_22, gf_84_23, gf_84_24, ok_84_24, gf_84_25, ok_84_25, gf_84_26, ok_84_26, gf_84_27, ok_84_27, gf_84_28, ok_84_28, gf_84_29, gf_84_30, al_85 (show 5 < 181 by decide), al_85 (show 4 < 181 by decide), a5', a4', pk_mul, nI_add, sa_85 (show 115 + 11 * r < 181 by omega), sa_85 (show 115 + 11 * r + 1 < 181 by omega), sa_85 (show 115 + 11 * r + 2 < 181 by omega), ux_j (show 4 ≠ 115 + 11 * r by omega), ux_j (show 4 ≠ 115 + 11 * r + 1 by omega), hm5, ct_s, ct_n, ↓bI_01, bI_eq0, bI_eq1, nI_10, nI_01, dec_f, dec_t, if_n, eq_self, true_or, or_true, if_true, if_false, reduceIte]
          have hl := fun Q => l186 (d := d + 898) (n := n) (Q := Q) (S := S) (N := N) (M := m5) (f := fun i => M 85 (107 + i)) (y0 := .int (nI s)) (y1 := .int (nI v)) (A := M 85) hn m8 a4 (w5o 4 (by decide)) (fun i hi => w5o (107 + i) (by omega)) (nmA (M 85)) 0 (by omega)
          simp only [cpy_0, hm6] at hl
          rw [hl]
          simp only [↓s186_126, ↓s186_127, ↓s186_130, ↓s186_131, ↓s186_132, ↓s186_133, ↓s186_134, ↓s186_135, ↓s186_136, ↓s186_137, ↓s186_140, ↓s186_141, ↓s186_142, jc_84, gf_84_0, gf_84_1, gf_84_2, gf_84_3, gf_84_4, ok_84_4, gf_84_5, ok_84_5, gf_84_6, ok_84_6, gf_84_7, ok_84_7, gf_84_8, ok_84_8, gf_84_9, ok_84_9, gf_84_10, gf_84_11, gf_84_12, gf_84_13, gf_84_14, gf_84_15, gf_84_16, gf_84_17, ok_84_17, gf_84_18, gf_84_19, ok_84_19, gf_84_20, ok_84_20, gf_84_21, gf_84_22, gf_84_23, gf_84_24, ok_84_24, gf_84_25, ok_84_25, gf_84_26, ok_84_26, gf_84_27, ok_84_27, gf_84_28, ok_84_28, gf_84_29, gf_84_30, al_85 (show 5 < 181 by decide), sa_85 (show 5 < 181 by decide), w65, nI_add, ux_s, ct_s, ct_n, ↓bI_01, bI_eq0, bI_eq1, nI_10, nI_01, dec_f, dec_t, if_n, eq_self, true_or, or_true, if_true, if_false, reduceIte]
        · have hB : ux m6 85 5 (nI (r + 1)) 85 = rdgA (M 85) (nI s) (nI v) := by
            funext j
            rw [ux85, ← hm6]
            show (if j = 5 then _ else if _ then _ else _) = _
            unfold rdgA
            rw [hr, a4, w5]
            have q1 : (115 + 11 * r + 1 : Nat) = 116 + 11 * r := by omega
            have q2 : (115 + 11 * r + 2 : Nat) = 117 + 11 * r := by omega
            have q3 : (115 + 11 * r + 3 : Nat) = 118 + 11 * r := by omega
            rw [q1, q2, q3]
            by_cases z5 : j = 5
            · rw [if_pos z5, if_pos z5]
            · rw [if_neg z5, if_neg z5]
              by_cases z3 : 118 + 11 * r ≤ j ∧ j < 118 + 11 * r + nmA (M 85)
              · rw [if_pos ⟨rfl, z3.1, z3.2⟩, if_neg (by omega), if_neg (by omega), if_neg (by omega), if_pos z3]
              · rw [if_neg (fun q => z3 q.2), if_neg z3]
                by_cases y0 : j = 115 + 11 * r
                · rw [if_neg (by omega), if_neg (by omega), if_pos y0, if_pos y0]
                · rw [if_neg y0, if_neg y0]
                  by_cases y1 : j = 116 + 11 * r
                  · rw [if_neg (by omega), if_pos y1, if_pos y1]
                  · rw [if_neg y1, if_neg y1]
          have m : ∀ a, a ≠ 30 → a ≠ 31 → a ≠ 85 → ux m6 85 5 (nI (r + 1)) a = M a := fun a h1 h2 h3 => by rw [ux_f h3, o6 a h3, k4 a h1 h2]
          have u : ∀ j, j ≠ 5 → j < 115 → rdgA (M 85) (nI s) (nI v) j = M 85 j := fun j h1 h2 => rdgA_o h1 (by omega)
          refine Inv_court (M := M) ?_ hB (rdgA_wf hW (by omega) s1 v2) (fun a h => m a (by omega) (by omega) (by omega)) (by rw [m 84 (by decide) (by decide) (by decide)]) hI
          refine RC_mk (RCd_eq (m 22 (by decide) (by decide) (by decide)) (m 23 (by decide) (by decide) (by decide)) (u 0 (by omega) (by omega)) hW.1.2 (fun i _ _ => u i (by omega) (by omega)) hC.pd) (RCb_eq (m 24 (by decide) (by decide) (by decide)) (m 25 (by decide) (by decide) (by decide)) (fun i _ _ => u i (by omega) (by omega)) hC.pb) (RCc_eq (m 26 (by decide) (by decide) (by decide)) (m 27 (by decide) (by decide) (by decide)) (u 3 (by omega) (by omega)) hW.2.2.1.2 (fun i _ _ => u i (by omega) (by omega)) hC.pc) (RCm_eq (m 28 (by decide) (by decide) (by decide)) (m 29 (by decide) (by decide) (by decide)) (u 4 (by omega) (by omega)) hW.2.2.2.1.2 (fun i _ _ => u i (by omega) (by omega)) hC.pm) ⟨?_, fun r' w hr' hw => ?_⟩ (RCh_eq (m 21 (by decide) (by decide) (by decide)) (u 1 (by omega) (by omega)) (u 2 (by omega) (by omega)) hC.ph)
          · show ux m6 85 5 _ 30 3 = _
            rw [ux_a (by decide), o6 30 (by decide), e4]
            unfold rdgA
            rw [if_pos rfl, hr]
          · have en : nrA (rdgA (M 85) (nI s) (nI v)) = r + 1 := by
              unfold nrA
              rw [show rdgA (M 85) (nI s) (nI v) 5 = nI (nrA (M 85) + 1) from rfl, hr]
              exact tn_nI (by omega)
            rw [en] at hr'
            show ux m6 85 5 _ 31 (11 * r' + w) = _
            rw [ux_a (by decide), o6 31 (by decide), ← hm4]
            by_cases e : r' < r
            · have x3 := (hW.r.2 r' (by omega)).2.2.1.2
              rw [rdgA_o (j := 117 + 11 * r') (by omega) (by omega)] at hw
              rw [rdgA_o (j := 115 + 11 * r' + w) (by omega) (by omega), cpy_o (by omega), w31, if_neg (by omega), if_neg (by omega), if_neg (by omega), f0 _ (by omega)]
              exact hC.pr.2 r' w (by omega) hw
            · have e : r' = r := by omega
              subst e
              have t2 := rdgA_2 (A := M 85) (s := nI s) (v := nI v)
              have t0 := rdgA_0 (A := M 85) (s := nI s) (v := nI v)
              have t1 := rdgA_1 (A := M 85) (s := nI s) (v := nI v)
              rw [hr] at t2 t0 t1
              rw [t2, a4, tn_nI (by omega)] at hw
              rcases (show w = 0 ∨ w = 1 ∨ w = 2 ∨ ∃ q, w = 3 + q by exact if h : w < 3 then by omega else Or.inr (Or.inr (Or.inr ⟨w - 3, by omega⟩))) with rfl | rfl | rfl | ⟨q, rfl⟩
              · rw [cpy_o (by omega), w31, if_neg (by omega), if_neg (by omega), if_pos (by omega), Nat.add_zero, t0]
              · rw [cpy_o (by omega), w31, if_neg (by omega), if_pos (by omega), show 115 + 11 * r' + 1 = 116 + 11 * r' by omega, t1]
              · rw [cpy_o (by omega), w31, if_pos (by omega), show 115 + 11 * r' + 2 = 117 + 11 * r' by omega, t2, a4]
              · have t3 := rdgA_3 (A := M 85) (s := nI s) (v := nI v) (j := q) (by omega)
                rw [hr] at t3
                rw [show 11 * r' + (3 + q) = r' * 11 + 3 + q by omega, cpy_i (by omega), show 115 + 11 * r' + (3 + q) = 118 + 11 * r' + q by omega, t3]
    · exact p22_bad hI (fun q => h1 q.2)
  · exact p22_bad hI (fun q => h0 q.1)
end Reading
