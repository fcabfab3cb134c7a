/-! ===== the class: served ones, evenings ===== -/
section Eve
variable {d n : Nat} {h : ax_H} {Q : Option Value → Nat → ax_H → Prop} {S : ax_S} {M : ax_M} {N : ax_L} {A : ax_A0}
theorem nowA_ok (hW : WF A) : (nowA A).1 < 256 ∧ pop (nowA A).1 = ncA A ∧ ∀ j, (nowA A).2.1 = some j → j < ndA A := by
  refine ⟨svA_lt hW _ (Nat.le_refl _), hW.2.2.2.2.2.2.2.2.2.1 _ (Nat.le_refl _), ?_⟩
  intro j hj
  have w := hW.2.2.2.2.2.2.2.2.1
  unfold nowA at hj
  dsimp only at hj
  cases hn : ncA A with
  | zero => rw [hn] at hj; cases hj
  | succ k => rw [hn] at hj; cases hj; exact (w k (by omega)).1.2
theorem l5 (hC : RC M 21 A) (hW : WF A) : ∀ (c i : Nat), i + c = ncA A → ax_W (d + 1) 5 4 [.ref 21, .int (nI (svA A i)), .int (nI i)] [] n (hx S M N) Q = Q (some (.int (nI (svA A (ncA A))))) n (hx S M N) := by
  have h8 := (rc_nc hC hW).2
  have n8 := (rc_nd hC hW).2
  intro c
  induction c with
  | zero =>
    intro i hi
    simp only [↓s5_4, ↓s5_5, ↓s5_6, ↓s5_9, ↓s5_12, jc_21, gf_21_0, gf_21_1, gf_21_2, gf_21_3, gf_21_4, gf_21_5, ok_21_5, gf_21_6, ok_21_6, jc_26, gf_26_0, gf_26_1, gf_26_2, gf_26_3, ok_26_3, ↓c53 h26, (rc_nc hC hW).1, ct_s, ct_n, ↓bI_01, bI_eq0, bI_eq1, nI_10, nI_01, dec_f, dec_t, if_n, eq_self, true_or, or_true, if_true, if_false, reduceIte]
    rw [if_pos (nI_le (a := ncA A) (b := i) (by omega) (by omega))]
    simp only [↓s5_35, ↓s5_36]
    rw [show i = ncA A by omega]
  | succ c ih =>
    intro i hi
    simp only [↓s5_4, ↓s5_5, ↓s5_6, ↓s5_9, ↓s5_12, jc_21, gf_21_0, gf_21_1, gf_21_2, gf_21_3, gf_21_4, gf_21_5, ok_21_5, gf_21_6, ok_21_6, jc_26, gf_26_0, gf_26_1, gf_26_2, gf_26_3, ok_26_3, ↓c53 h26, (rc_nc hC hW).1, ct_s, ct_n, ↓bI_01, bI_eq0, bI_eq1, nI_10, nI_01, dec_f, dec_t, if_n, eq_self, true_or, or_true, if_true, if_false, reduceIte]
    rw [if_neg (nI_ge (a := i) (b := ncA A) (by omega) (by omega))]
    have hd := (hW.2.2.2.2.2.2.2.2.1 i (by omega)).1.2
    simp only [↓s5_15, ↓s5_16, ↓s5_17, ↓s5_20, ↓s5_21, ↓s5_22, ↓s5_25, ↓s5_28, ↓s5_29, ↓s5_32, jc_21, gf_21_0, gf_21_1, gf_21_2, gf_21_3, gf_21_4, gf_21_5, ok_21_5, gf_21_6, ok_21_6, jc_26, gf_26_0, gf_26_1, gf_26_2, gf_26_3, ok_26_3, ↓c54 h26 (cap26 hC hW), rd_cdish hC hW (show i < ncA A by omega), ↓c130, bt_add _ (svA_lt hW i (by omega)) _ (show cdA A i < 8 by omega), nI_add, ct_s, ct_n, ↓bI_01, bI_eq0, bI_eq1, nI_10, nI_01, dec_f, dec_t, if_n, eq_self, true_or, or_true, if_true, if_false, reduceIte]
    exact ih (i + 1) (by omega)
theorem c5 (hC : RC M 21 A) (hW : WF A) : ax_W (d + 1) 5 0 [.ref 21, ax_dm, ax_dm] [] n (hx S M N) Q = Q (some (.int (nI (nowA A).1))) n (hx S M N) := by
  simp only [↓s5_0, ↓s5_1, ↓s5_2, ↓s5_3]
  exact l5 hC hW (ncA A) 0 (by omega)
theorem c6 (hC : RC M 21 A) (hW : WF A) : ax_W (d + 1) 6 0 [.ref 21, ax_dm] [] n (hx S M N) Q = Q (some (.int (lsI (nowA A).2.1))) n (hx S M N) := by
  have h8 := (rc_nc hC hW).2
  simp only [↓s6_0, ↓s6_1, ↓s6_4, ↓s6_7, ↓s6_8, ↓s6_9, jc_21, gf_21_0, gf_21_1, gf_21_2, gf_21_3, gf_21_4, gf_21_5, ok_21_5, gf_21_6, ok_21_6, jc_26, gf_26_0, gf_26_1, gf_26_2, gf_26_3, ok_26_3, ↓c53 h26, (rc_nc hC hW).1, ct_s, ct_n, ↓bI_01, bI_eq0, bI_eq1, nI_10, nI_01, dec_f, dec_t, if_n, eq_self, true_or, or_true, if_true, if_false, reduceIte]
  unfold nowA
  dsimp only
  cases hn : ncA A with
  | zero =>
    rw [if_pos (nI_le (a := 0) (b := 0) (by omega) (by omega))]
    simp only [↓s6_26, ↓s6_27]
    rfl
  | succ k =>
    rw [if_neg (nI_ge (a := 0) (b := k + 1) (by omega) (by omega))]
    simp only [↓s6_12, ↓s6_13, ↓s6_16, ↓s6_17, ↓s6_18, ↓s6_19, ↓s6_20, ↓s6_23, ↓s6_26, ↓s6_27, jc_21, gf_21_0, gf_21_1, gf_21_2, gf_21_3, gf_21_4, gf_21_5, ok_21_5, gf_21_6, ok_21_6, jc_26, gf_26_0, gf_26_1, gf_26_2, gf_26_3, ok_26_3, ↓c54 h26 (cap26 hC hW), pk_sub (show 1 ≤ k + 1 by omega), Nat.add_sub_cancel, rd_cdish hC hW (show k < ncA A by omega), ct_s, ct_n, ↓bI_01, bI_eq0, bI_eq1, nI_10, nI_01, dec_f, dec_t, if_n, eq_self, true_or, or_true, if_true, if_false, reduceIte]
    rfl
theorem c8 (hC : RC M 21 A) (hW : WF A) {k sv : Nat} (hk : k < 1000) (hs : sv < 256) : ax_W (d + 1) 8 0 [.ref 21, .int (nI k), .int (nI sv)] [] n (hx S M N) Q = Q (some (.int (bI (decide (k < ndA A) && !hasB sv k)))) n (hx S M N) := by
  have n8 := (rc_nd hC hW).2
  have p8 := bt_pop8 sv
  simp only [↓s8_0, ↓s8_1]
  rw [if_neg (nI_nlt (a := k) (b := 0) (by omega) (by omega))]
  simp only [↓s8_4, ↓s8_5, ↓s8_6, ↓s8_9, ↓s8_12, jc_21, gf_21_0, gf_21_1, gf_21_2, gf_21_3, gf_21_4, gf_21_5, ok_21_5, gf_21_6, ok_21_6, jc_22, gf_22_0, gf_22_1, gf_22_2, gf_22_3, ok_22_3, ↓c53 h22, (rc_nd hC hW).1, ct_s, ct_n, ↓bI_01, bI_eq0, bI_eq1, nI_10, nI_01, dec_f, dec_t, if_n, eq_self, true_or, or_true, if_true, if_false, reduceIte]
  by_cases h1 : k < ndA A
  · rw [if_neg (nI_ge h1 (by omega))]
    simp only [↓s8_15, ↓s8_16, ↓s8_17, ↓s8_20, ↓c129, bt_has _ hs _ (show k < 8 by omega), ct_s, ct_n, ↓bI_01, bI_eq0, bI_eq1, nI_10, nI_01, dec_f, dec_t, if_n, eq_self, true_or, or_true, if_true, if_false, reduceIte]
    rw [decide_eq_true h1]
    cases hb : hasB sv k with
    | true =>
      simp only [↓s8_36, ↓s8_37, ct_s, ct_n, ↓bI_01, bI_eq0, bI_eq1, nI_10, nI_01, dec_f, dec_t, if_n, eq_self, true_or, or_true, if_true, if_false, reduceIte]
      rfl
    | false =>
      simp only [↓s8_23, ↓s8_24, ↓s8_27, ↓s8_29, ↓c218 hs, ct_s, ct_n, ↓bI_01, bI_eq0, bI_eq1, nI_10, nI_01, dec_f, dec_t, if_n, eq_self, true_or, or_true, if_true, if_false, reduceIte]
      rw [if_neg (nI_ge (a := pop sv) (b := 9) (by omega) (by omega))]
      simp only [↓s8_32, ↓s8_33, ↓s8_36, ↓s8_37, ct_s, ct_n, ↓bI_01, bI_eq0, bI_eq1, nI_10, nI_01, dec_f, dec_t, if_n, eq_self, true_or, or_true, if_true, if_false, reduceIte]
      rfl
  · rw [if_pos (nI_le (a := ndA A) (b := k) (by omega) (by omega)), decide_eq_false h1]
    simp only [↓s8_36, ↓s8_37, ct_s, ct_n, ↓bI_01, bI_eq0, bI_eq1, nI_10, nI_01, dec_f, dec_t, if_n, eq_self, true_or, or_true, if_true, if_false, reduceIte]
    rfl
theorem c9 (hC : RC M 21 A) (hW : WF A) {k s sv : Nat} (hk : k < 1000) (hs1 : s ≤ 1) (hs : sv < 256) : ax_W (d + 2) 9 0 [.ref 21, .int (nI k), .int (nI s), .int (nI sv), ax_dm] [] n (hx S M N) Q = Q (some (.int (bI (mayA A k s sv)))) n (hx S M N) := by
  have n8 := (rc_nd hC hW).2
  simp only [↓s9_0, ↓s9_1, ↓s9_4, ↓s9_5, ↓s9_6, ↓s9_9, ↓s9_11, ↓s9_12, ↓s9_13, ↓s9_14, ↓s9_17, jc_21, gf_21_0, gf_21_1, gf_21_2, gf_21_3, gf_21_4, gf_21_5, ok_21_5, gf_21_6, ok_21_6, jc_22, gf_22_0, gf_22_1, gf_22_2, gf_22_3, ok_22_3, ↓c54 h22 (cap22 hC hW), ↓c8 hC hW hk hs, ct_s, ct_n, ↓bI_01, bI_eq0, bI_eq1, nI_10, nI_01, dec_f, dec_t, if_n, eq_self, true_or, or_true, if_true, if_false, reduceIte]
  unfold mayA
  by_cases h1 : k < ndA A
  · have hco := (hW.2.2.2.2.2.2.1 k h1).2.2.2.2.2
    rw [decide_eq_true h1, rd_cook hC hW h1]
    cases hb : hasB sv k with
    | true =>
      simp only [↓s9_36, ↓s9_37, ct_s, ct_n, ↓bI_01, bI_eq0, bI_eq1, nI_10, nI_01, dec_f, dec_t, if_n, eq_self, true_or, or_true, if_true, if_false, reduceIte, Bool.not_true, Bool.and_false, Bool.false_and, Bool.and_true]
      rfl
    | false =>
      simp only [Bool.not_false, Bool.and_true, Bool.true_and, ct_s, ct_n, ↓bI_01, bI_eq0, bI_eq1, nI_10, nI_01, dec_f, dec_t, if_n, eq_self, true_or, or_true, if_true, if_false, reduceIte, Bool.true_eq_false]
      simp only [↓s9_20, ↓s9_22, ↓s9_23]
      by_cases e1 : coA A k = 2
      · rw [if_pos (by rw [e1]), decide_eq_true e1]
        simp only [↓s9_32, ↓s9_33, ↓s9_36, ↓s9_37, ct_s, ct_n, ↓bI_01, bI_eq0, bI_eq1, nI_10, nI_01, dec_f, dec_t, if_n, eq_self, true_or, or_true, if_true, if_false, reduceIte]
        rfl
      · rw [if_neg (fun q => e1 ((nI_eq (by omega) (by omega)).mp q)), decide_eq_false e1]
        simp only [↓s9_26, ↓s9_28, ↓s9_29]
        by_cases e2 : coA A k = s
        · rw [if_pos (by rw [e2]), decide_eq_true e2]
          simp only [↓s9_32, ↓s9_33, ↓s9_36, ↓s9_37, ct_s, ct_n, ↓bI_01, bI_eq0, bI_eq1, nI_10, nI_01, dec_f, dec_t, if_n, eq_self, true_or, or_true, if_true, if_false, reduceIte]
          rfl
        · rw [if_neg (fun q => e2 ((nI_eq (by omega) (by omega)).mp q)), decide_eq_false e2]
          simp only [↓s9_36, ↓s9_37, ct_s, ct_n, ↓bI_01, bI_eq0, bI_eq1, nI_10, nI_01, dec_f, dec_t, if_n, eq_self, true_or, or_true, if_true, if_false, reduceIte]
          rfl
  · rw [decide_eq_false h1]
    simp only [Bool.false_and, ct_s, ct_n, ↓bI_01, bI_eq0, bI_eq1, nI_10, nI_01, dec_f, dec_t, if_n, eq_self, true_or, or_true, if_true, if_false, reduceIte]
    simp only [↓s9_36, ↓s9_37, ct_s, ct_n, ↓bI_01, bI_eq0, bI_eq1, nI_10, nI_01, dec_f, dec_t, if_n, eq_self, true_or, or_true, if_true, if_false, reduceIte]
    rfl
/-! evenings -/
/-- the evening at e is v -/
def evM (M : ax_M) (e : Nat) (v : ax_V) : ax_M := fun b j => if b = e then (if j = 1 then nI v.1 else if j = 2 then lsI v.2.1 else if j = 3 then iI v.2.2 else M b j) else M b j
theorem evM_o {e b : Nat} {v : ax_V} (hb : b ≠ e) : evM M e v b = M b := by funext j; unfold evM; rw [if_neg hb]
theorem evM_1 {e : Nat} {v : ax_V} : evM M e v e 1 = nI v.1 := by unfold evM; rw [if_pos rfl, if_pos rfl]
theorem evM_2 {e : Nat} {v : ax_V} : evM M e v e 2 = lsI v.2.1 := by unfold evM; rw [if_pos rfl, if_neg (by decide), if_pos rfl]
theorem evM_3 {e : Nat} {v : ax_V} : evM M e v e 3 = iI v.2.2 := by unfold evM; rw [if_pos rfl, if_neg (by decide), if_neg (by decide), if_pos rfl]
theorem evM_evM {e : Nat} {v w : ax_V} : evM (evM M e v) e w = evM M e w := by
  funext b j
  by_cases hb : b = e
  · by_cases j1 : j = 1
    · simp [evM, hb, j1]
    · by_cases j2 : j = 2
      · simp [evM, hb, j2]
      · by_cases j3 : j = 3
        · simp [evM, hb, j3]
        · simp [evM, hb, j1, j2, j3]
  · simp [evM, hb]
theorem ux_ev1 {e : Nat} {x y z : Int32} {v : ax_V} (h1 : x = nI v.1) (h2 : y = lsI v.2.1) (h3 : z = iI v.2.2) : ux (ux (ux M e 1 x) e 2 y) e 3 z = evM M e v := by
  subst h1; subst h2; subst h3
  funext b j
  unfold evM ux
  by_cases hb : b = e
  · by_cases j1 : j = 1
    · simp [hb, j1]
    · by_cases j2 : j = 2
      · simp [hb, j2]
      · by_cases j3 : j = 3
        · simp [hb, j3]
        · simp [hb, j1, j2, j3]
  · simp [hb]
theorem ux_ev2 {e : Nat} {x y z : Int32} {v : ax_V} (h1 : x = nI v.1) (h2 : y = lsI v.2.1) (h3 : z = iI v.2.2) : ux (ux (ux M e 3 z) e 1 x) e 2 y = evM M e v := by
  subst h1; subst h2; subst h3
  funext b j
  unfold evM ux
  by_cases hb : b = e
  · by_cases j1 : j = 1
    · simp [hb, j1]
    · by_cases j2 : j = 2
      · simp [hb, j2]
      · by_cases j3 : j = 3
        · simp [hb, j3]
        · simp [hb, j1, j2, j3]
  · simp [hb]
theorem RC_keep {M2 : ax_M} (h : ∀ a, 21 ≤ a → a ≤ 31 → M2 a = M a) (hC : RC M 21 A) : RC M2 21 A := by
  unfold RC at hC ⊢
  rw [h 21 (by omega) (by omega), h (21 + 1) (by omega) (by omega), h (21 + 2) (by omega) (by omega), h (21 + 3) (by omega) (by omega), h (21 + 4) (by omega) (by omega), h (21 + 5) (by omega) (by omega), h (21 + 6) (by omega) (by omega), h (21 + 7) (by omega) (by omega), h (21 + 8) (by omega) (by omega), h (21 + 9) (by omega) (by omega), h (21 + 10) (by omega) (by omega)]
  exact hC
theorem RC_ux {a j : Nat} {v : Int32} (ha : 31 < a) (hC : RC M 21 A) : RC (ux M a j v) 21 A := RC_keep (fun b _ _ => ux_f (by omega)) hC
theorem RC_ev {e : Nat} {v : ax_V} (he : 31 < e) (hC : RC M 21 A) : RC (evM M e v) 21 A := RC_keep (fun b _ _ => evM_o (by omega)) hC
theorem ev_gf {e : Nat} (he : e = 72 ∨ e = 76) : gf (hx S M N) e 1 0 = some (.ref 21) ∧ gf (hx S M N) e 1 1 = some (.int (M e 1)) ∧ gf (hx S M N) e 1 2 = some (.int (M e 2)) ∧ gf (hx S M N) e 1 3 = some (.int (M e 3)) ∧ isC (hx S M N) e 1 = true ∧ okI e 1 1 = true ∧ okI e 1 2 = true ∧ okI e 1 3 = true ∧ 31 < e := by
  rcases he with rfl | rfl <;> exact ⟨rfl, rfl, rfl, rfl, rfl, by decide +kernel, by decide +kernel, by decide +kernel, by decide⟩
theorem c15 {e : Nat} (he : e = 72 ∨ e = 76) (hC : RC M 21 A) (hW : WF A) : ax_W (d + 2) 15 0 [.ref e] [] n (hx S M N) Q = Q none n (hx S (evM M e (nowA A)) N) := by
  obtain ⟨g0, g1, g2, g3, g4, g5, g6, g7, g8⟩ := ev_gf (S := S) (M := M) (N := N) he
  simp only [↓s15_0, ↓s15_1, ↓s15_2, ↓s15_5, g0, jc_21, ↓c5 hC hW, ct_s, ct_n, ↓bI_01, bI_eq0, bI_eq1, nI_10, nI_01, dec_f, dec_t, if_n, eq_self, true_or, or_true, if_true, if_false, reduceIte]
  simp only [s15_8 g5]
  obtain ⟨f0, -⟩ := ev_gf (S := S) (M := ux M e 1 (nI (nowA A).1)) (N := N) he
  simp only [↓s15_11, ↓s15_12, ↓s15_13, ↓s15_16, f0, jc_21, ↓c6 (RC_ux (v := nI (nowA A).1) (j := 1) g8 hC) hW, ct_s, ct_n, ↓bI_01, bI_eq0, bI_eq1, nI_10, nI_01, dec_f, dec_t, if_n, eq_self, true_or, or_true, if_true, if_false, reduceIte]
  simp only [s15_19 g6]
  obtain ⟨f0, -⟩ := ev_gf (S := S) (M := ux (ux M e 1 (nI (nowA A).1)) e 2 (lsI (nowA A).2.1)) (N := N) he
  have hC2 := RC_ux (v := lsI (nowA A).2.1) (j := 2) g8 (RC_ux (v := nI (nowA A).1) (j := 1) g8 hC)
  simp only [↓s15_22, ↓s15_23, ↓s15_24, ↓s15_27, f0, jc_21, gf_21_0, gf_21_1, gf_21_2, gf_21_3, gf_21_4, gf_21_5, ok_21_5, gf_21_6, ok_21_6, rc_le hC2, ct_s, ct_n, ↓bI_01, bI_eq0, bI_eq1, nI_10, nI_01, dec_f, dec_t, if_n, eq_self, true_or, or_true, if_true, if_false, reduceIte]
  simp only [s15_30 g7, s15_33]
  exact congrArg (fun m => Q none n (hx S m N)) (ux_ev1 (v := nowA A) rfl rfl rfl)
theorem c16 {e : Nat} (he : e = 72 ∨ e = 76) : ax_W d 16 0 [.ref e] [] n (hx S M N) Q = Q none n (hx S (evM M e (0, none, 0)) N) := by
  obtain ⟨g0, g1, g2, g3, g4, g5, g6, g7, g8⟩ := ev_gf (S := S) (M := M) (N := N) he
  simp only [s16_0, s16_1, s16_2 g5, s16_5, s16_6, s16_7 g6, s16_10, s16_11, s16_12 g7, s16_15]
  exact congrArg (fun m => Q none n (hx S m N)) (ux_ev1 (v := (0, none, 0)) rfl rfl (by decide))
theorem c17 {e : Nat} {v : ax_V} {k s : Nat} (he : e = 72 ∨ e = 76) (hC : RC M 21 A) (hW : WF A) (hk : k < ndA A) (hs : s ≤ 1) (hv : v.1 < 256) (hl : ∀ j, v.2.1 = some j → j < ndA A) : ax_W (d + 3) 17 0 [.ref e, .int (nI s), .int (nI k), ax_dm] [] n (hx S (evM M e v) N) Q = Q (some (.int (nI (dsN A k (pop v.1) v.2.1)))) n (hx S (evM M e (evS A s k v)) N) := by
  have n8 := (rc_nd hC hW).2
  obtain ⟨g0, g1, g2, g3, g4, g5, g6, g7, g8⟩ := ev_gf (S := S) (M := evM M e v) (N := N) he
  simp only [↓s17_0, ↓s17_1, ↓s17_4, ↓s17_5, ↓s17_6, ↓s17_9, ↓s17_10, ↓s17_13, ↓s17_16, ↓s17_17, ↓s17_18, ↓s17_19, ↓s17_22, ↓s17_23, ↓s17_24, ↓s17_27, g0, g1, g2, g3, jc_21, evM_1, evM_2, evM_3, ↓c10 (RC_ev g8 hC) hW hk hv hl, ↓c128, ct_s, ct_n, ↓bI_01, bI_eq0, bI_eq1, nI_10, nI_01, dec_f, dec_t, if_n, eq_self, true_or, or_true, if_true, if_false, reduceIte]
  rw [iI_nat (dsN A k (pop v.1) v.2.1), tsI_i s hs, iI_add]
  simp only [s17_28 g7]
  obtain ⟨f0, f1, -⟩ := ev_gf (S := S) (M := ux (evM M e v) e 3 (iI (v.2.2 + if s = 0 then (dsN A k (pop v.1) v.2.1 : Int) else -(dsN A k (pop v.1) v.2.1 : Int)))) (N := N) he
  simp only [↓s17_31, ↓s17_32, ↓s17_33, ↓s17_36, ↓s17_37, f1, ↓c130, ux_j (show (1 : Nat) ≠ 3 by decide), evM_1, bt_add _ hv _ (show k < 8 by omega), ct_s, ct_n, ↓bI_01, bI_eq0, bI_eq1, nI_10, nI_01, dec_f, dec_t, if_n, eq_self, true_or, or_true, if_true, if_false, reduceIte]
  simp only [s17_40 g5, s17_43, s17_44, s17_45 g6, s17_48, s17_49]
  exact congrArg (fun m => Q (some (Value.int (iI (dsN A k (pop v.1) v.2.1)))) n (hx S m N)) ((ux_ev2 (v := evS A s k v) rfl rfl rfl).trans evM_evM)
theorem c18 {e : Nat} {v : ax_V} (he : e = 72 ∨ e = 76) : ax_W (d + 1) 18 0 [.ref e] [] n (hx S (evM M e v) N) Q = Q (some (.int (vdI (iI v.2.2)))) n (hx S (evM M e v) N) := by
  obtain ⟨g0, g1, g2, g3, g4, g5, g6, g7, g8⟩ := ev_gf (S := S) (M := evM M e v) (N := N) he
  simp only [↓s18_0, ↓s18_1, ↓s18_4, ↓s18_7, g3, evM_3, ↓c126, ct_s, ct_n, ↓bI_01, bI_eq0, bI_eq1, nI_10, nI_01, dec_f, dec_t, if_n, eq_self, true_or, or_true, if_true, if_false, reduceIte]
theorem evS_ok (hW : WF A) {v : ax_V} {k s : Nat} (hk : k < ndA A) (hv : v.1 < 256) : (evS A s k v).1 < 256 ∧ ∀ j, (evS A s k v).2.1 = some j → j < ndA A := by
  have n8 := hW.1.2
  exact ⟨bt_lt _ hv _ (by omega), fun j hj => by cases hj; exact hk⟩
end Eve
