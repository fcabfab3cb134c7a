/-! ===== a text: the reference's loop ===== -/
section RefLoop
variable {M M1 M2 M3 : ax_M} {N : ax_L} {t i : Nat} {B : Nat → Nat} {A A2 : ax_A0}
theorem c208 (hT : TXm M B t) (hi : i ≤ t) (hL : LM M B t i) (hA : ∀ j, j < 181 → M 100 j = A j) (hW : WF A) : ∃ (M2 : ax_M) (b : Bool), (JR B t M2 b (itm B t i A) ∧ RG M M2) ∧ ∀ (S : ax_S) (d n : Nat) (Q : Option Value → Nat → ax_H → Prop), ax_W (d + 6) 208 0 [.ref 84] [] n (hx S M N) Q = Q (some (.int (bI b))) n (hx S M2 N) := by
  have k1 : ∀ (S : ax_S) (d n : Nat) (Q : Option Value → Nat → ax_H → Prop), ax_W d 203 0 [.ref 84, .int (nI 4), .int (nI 100), .int (nI 105), .int (nI 115), .int (nI 104), .int (nI 0), ax_dm, ax_dm] [] n (hx S M N) Q = Q (some (.int (bI (wdB B t i 1)))) n (hx S M N) := fun S d n Q => k203 (s := 1) hT hi (by omega) hL S d n Q
  have k2 : ∀ (S : ax_S) (d n : Nat) (Q : Option Value → Nat → ax_H → Prop), ax_W d 203 0 [.ref 84, .int (nI 4), .int (nI 109), .int (nI 111), .int (nI 114), .int (nI 101), .int (nI 0), ax_dm, ax_dm] [] n (hx S M N) Q = Q (some (.int (bI (wdB B t i 2)))) n (hx S M N) := fun S d n Q => k203 (s := 2) hT hi (by omega) hL S d n Q
  have k3 : ∀ (S : ax_S) (d n : Nat) (Q : Option Value → Nat → ax_H → Prop), ax_W d 203 0 [.ref 84, .int (nI 4), .int (nI 108), .int (nI 101), .int (nI 115), .int (nI 115), .int (nI 0), ax_dm, ax_dm] [] n (hx S M N) Q = Q (some (.int (bI (wdB B t i 3)))) n (hx S M N) := fun S d n Q => k203 (s := 3) hT hi (by omega) hL S d n Q
  unfold itm
  cases e1 : wdB B t i 1 with
  | true =>
    rw [e1] at k1
    rw [if_pos rfl]
    obtain ⟨M2, b, r, g⟩ := c206 (N := N) hT hi hL hA hW
    refine ⟨M2, b, r, fun S d n Q => ?_⟩
    simp only [↓s208_0, ↓s208_1, ↓s208_2, ↓s208_4, ↓s208_6, ↓s208_8, ↓s208_10, ↓s208_11, ↓s208_14, jc_84, gf_84_0, gf_84_1, gf_84_2, gf_84_3, gf_84_4, ok_84_4, gf_84_5, ok_84_5, gf_84_6, ok_84_6, gf_84_7, ok_84_7, gf_84_8, ok_84_8, gf_84_9, ok_84_9, gf_84_10, gf_84_11, gf_84_12, gf_84_13, gf_84_14, gf_84_15, gf_84_16, gf_84_17, ok_84_17, gf_84_18, gf_84_19, ok_84_19, gf_84_20, ok_84_20, gf_84_21, gf_84_22, gf_84_23, gf_84_24, ok_84_24, gf_84_25, ok_84_25, gf_84_26, ok_84_26, gf_84_27, ok_84_27, gf_84_28, ok_84_28, gf_84_29, gf_84_30, ↓k1, ct_s, ct_n, ↓bI_01, bI_eq0, bI_eq1, nI_10, nI_01, dec_f, dec_t, if_n, eq_self, true_or, or_true, if_true, if_false, reduceIte, Bool.true_eq_false]
    simp only [↓s208_17, ↓s208_18, ↓s208_21, jc_84, gf_84_0, gf_84_1, gf_84_2, gf_84_3, gf_84_4, ok_84_4, gf_84_5, ok_84_5, gf_84_6, ok_84_6, gf_84_7, ok_84_7, gf_84_8, ok_84_8, gf_84_9, ok_84_9, gf_84_10, gf_84_11, gf_84_12, gf_84_13, gf_84_14, gf_84_15, gf_84_16, gf_84_17, ok_84_17, gf_84_18, gf_84_19, ok_84_19, gf_84_20, ok_84_20, gf_84_21, gf_84_22, gf_84_23, gf_84_24, ok_84_24, gf_84_25, ok_84_25, gf_84_26, ok_84_26, gf_84_27, ok_84_27, gf_84_28, ok_84_28, gf_84_29, gf_84_30, ↓g, ct_s, ct_n, ↓bI_01, bI_eq0, bI_eq1, nI_10, nI_01, dec_f, dec_t, if_n, eq_self, true_or, or_true, if_true, if_false, reduceIte]
  | false =>
    rw [e1] at k1
    rw [if_neg (by decide)]
    cases e2 : wdB B t i 2 with
    | true =>
      rw [e2] at k2
      rw [if_pos rfl]
      obtain ⟨M2, b, r, g⟩ := c207 (N := N) (g := nI 1) hT hi hL hA
      refine ⟨M2, b, r, fun S d n Q => ?_⟩
      simp only [↓s208_0, ↓s208_1, ↓s208_2, ↓s208_4, ↓s208_6, ↓s208_8, ↓s208_10, ↓s208_11, ↓s208_14, ↓s208_22, ↓s208_23, ↓s208_24, ↓s208_26, ↓s208_28, ↓s208_30, ↓s208_32, ↓s208_33, ↓s208_36, jc_84, gf_84_0, gf_84_1, gf_84_2, gf_84_3, gf_84_4, ok_84_4, gf_84_5, ok_84_5, gf_84_6, ok_84_6, gf_84_7, ok_84_7, gf_84_8, ok_84_8, gf_84_9, ok_84_9, gf_84_10, gf_84_11, gf_84_12, gf_84_13, gf_84_14, gf_84_15, gf_84_16, gf_84_17, ok_84_17, gf_84_18, gf_84_19, ok_84_19, gf_84_20, ok_84_20, gf_84_21, gf_84_22, gf_84_23, gf_84_24, ok_84_24, gf_84_25, ok_84_25, gf_84_26, ok_84_26, gf_84_27, ok_84_27, gf_84_28, ok_84_28, gf_84_29, gf_84_30, ↓k1, ↓k2, ct_s, ct_n, ↓bI_01, bI_eq0, bI_eq1, nI_10, nI_01, dec_f, dec_t, if_n, eq_self, true_or, or_true, if_true, if_false, reduceIte, Bool.true_eq_false]
      simp only [↓s208_39, ↓s208_40, ↓s208_41, ↓s208_44, jc_84, gf_84_0, gf_84_1, gf_84_2, gf_84_3, gf_84_4, ok_84_4, gf_84_5, ok_84_5, gf_84_6, ok_84_6, gf_84_7, ok_84_7, gf_84_8, ok_84_8, gf_84_9, ok_84_9, gf_84_10, gf_84_11, gf_84_12, gf_84_13, gf_84_14, gf_84_15, gf_84_16, gf_84_17, ok_84_17, gf_84_18, gf_84_19, ok_84_19, gf_84_20, ok_84_20, gf_84_21, gf_84_22, gf_84_23, gf_84_24, ok_84_24, gf_84_25, ok_84_25, gf_84_26, ok_84_26, gf_84_27, ok_84_27, gf_84_28, ok_84_28, gf_84_29, gf_84_30, ↓g, ct_s, ct_n, ↓bI_01, bI_eq0, bI_eq1, nI_10, nI_01, dec_f, dec_t, if_n, eq_self, true_or, or_true, if_true, if_false, reduceIte]
    | false =>
      rw [e2] at k2
      rw [if_neg (by decide)]
      cases e3 : wdB B t i 3 with
      | true =>
        rw [e3] at k3
        rw [if_pos rfl]
        obtain ⟨M2, b, r, g⟩ := c207 (N := N) (g := -1) hT hi hL hA
        refine ⟨M2, b, r, fun S d n Q => ?_⟩
        simp only [↓s208_0, ↓s208_1, ↓s208_2, ↓s208_4, ↓s208_6, ↓s208_8, ↓s208_10, ↓s208_11, ↓s208_14, ↓s208_22, ↓s208_23, ↓s208_24, ↓s208_26, ↓s208_28, ↓s208_30, ↓s208_32, ↓s208_33, ↓s208_36, ↓s208_45, ↓s208_46, ↓s208_47, ↓s208_49, ↓s208_51, ↓s208_53, ↓s208_55, ↓s208_56, ↓s208_59, jc_84, gf_84_0, gf_84_1, gf_84_2, gf_84_3, gf_84_4, ok_84_4, gf_84_5, ok_84_5, gf_84_6, ok_84_6, gf_84_7, ok_84_7, gf_84_8, ok_84_8, gf_84_9, ok_84_9, gf_84_10, gf_84_11, gf_84_12, gf_84_13, gf_84_14, gf_84_15, gf_84_16, gf_84_17, ok_84_17, gf_84_18, gf_84_19, ok_84_19, gf_84_20, ok_84_20, gf_84_21, gf_84_22, gf_84_23, gf_84_24, ok_84_24, gf_84_25, ok_84_25, gf_84_26, ok_84_26, gf_84_27, ok_84_27, gf_84_28, ok_84_28, gf_84_29, gf_84_30, ↓k1, ↓k2, ↓k3, ct_s, ct_n, ↓bI_01, bI_eq0, bI_eq1, nI_10, nI_01, dec_f, dec_t, if_n, eq_self, true_or, or_true, if_true, if_false, reduceIte, Bool.true_eq_false]
        simp only [↓s208_62, ↓s208_63, ↓s208_64, ↓s208_67, jc_84, gf_84_0, gf_84_1, gf_84_2, gf_84_3, gf_84_4, ok_84_4, gf_84_5, ok_84_5, gf_84_6, ok_84_6, gf_84_7, ok_84_7, gf_84_8, ok_84_8, gf_84_9, ok_84_9, gf_84_10, gf_84_11, gf_84_12, gf_84_13, gf_84_14, gf_84_15, gf_84_16, gf_84_17, ok_84_17, gf_84_18, gf_84_19, ok_84_19, gf_84_20, ok_84_20, gf_84_21, gf_84_22, gf_84_23, gf_84_24, ok_84_24, gf_84_25, ok_84_25, gf_84_26, ok_84_26, gf_84_27, ok_84_27, gf_84_28, ok_84_28, gf_84_29, gf_84_30, ↓g, ct_s, ct_n, ↓bI_01, bI_eq0, bI_eq1, nI_10, nI_01, dec_f, dec_t, if_n, eq_self, true_or, or_true, if_true, if_false, reduceIte]
        cases b with
        | true => simp only [↓s208_70, ↓s208_71, ↓s208_74, ↓s208_75, ct_s, ct_n, ↓bI_01, bI_eq0, bI_eq1, nI_10, nI_01, dec_f, dec_t, if_n, eq_self, true_or, or_true, if_true, if_false, reduceIte, Bool.true_eq_false]; rfl
        | false => simp only [↓s208_74, ↓s208_75, ct_s, ct_n, ↓bI_01, bI_eq0, bI_eq1, nI_10, nI_01, dec_f, dec_t, if_n, eq_self, true_or, or_true, if_true, if_false, reduceIte]; rfl
      | false =>
        rw [e3] at k3
        rw [if_neg (by decide)]
        refine ⟨M, false, ⟨Or.inr ⟨rfl, rfl, hL.1⟩, RG_rf⟩, fun S d n Q => ?_⟩
        simp only [↓s208_0, ↓s208_1, ↓s208_2, ↓s208_4, ↓s208_6, ↓s208_8, ↓s208_10, ↓s208_11, ↓s208_14, ↓s208_22, ↓s208_23, ↓s208_24, ↓s208_26, ↓s208_28, ↓s208_30, ↓s208_32, ↓s208_33, ↓s208_36, ↓s208_45, ↓s208_46, ↓s208_47, ↓s208_49, ↓s208_51, ↓s208_53, ↓s208_55, ↓s208_56, ↓s208_59, jc_84, gf_84_0, gf_84_1, gf_84_2, gf_84_3, gf_84_4, ok_84_4, gf_84_5, ok_84_5, gf_84_6, ok_84_6, gf_84_7, ok_84_7, gf_84_8, ok_84_8, gf_84_9, ok_84_9, gf_84_10, gf_84_11, gf_84_12, gf_84_13, gf_84_14, gf_84_15, gf_84_16, gf_84_17, ok_84_17, gf_84_18, gf_84_19, ok_84_19, gf_84_20, ok_84_20, gf_84_21, gf_84_22, gf_84_23, gf_84_24, ok_84_24, gf_84_25, ok_84_25, gf_84_26, ok_84_26, gf_84_27, ok_84_27, gf_84_28, ok_84_28, gf_84_29, gf_84_30, ↓k1, ↓k2, ↓k3, ct_s, ct_n, ↓bI_01, bI_eq0, bI_eq1, nI_10, nI_01, dec_f, dec_t, if_n, eq_self, true_or, or_true, if_true, if_false, reduceIte]
        simp only [↓s208_74, ↓s208_75, ct_s, ct_n, ↓bI_01, bI_eq0, bI_eq1, nI_10, nI_01, dec_f, dec_t, if_n, eq_self, true_or, or_true, if_true, if_false, reduceIte]
        rfl
theorem l209c {m : Int32} {d n : Nat} {S : ax_S} {Q : Option Value → Nat → ax_H → Prop} : ∀ c k, k + c = 181 → ax_W d 209 68 [.ref 84, .int m, .int (nI k)] [] n (hx S (cpM M 85 0 100 0 k) N) Q = Q (some (.int m)) n (hx S (cpM M 85 0 100 0 181) N) := by
  intro c
  induction c with
  | zero =>
    intro k hk
    simp only [↓s209_68, ↓s209_69, ↓s209_72, ct_s, ct_n, ↓bI_01, bI_eq0, bI_eq1, nI_10, nI_01, dec_f, dec_t, if_n, eq_self, true_or, or_true, if_true, if_false, reduceIte]
    rw [if_pos (nI_le (a := 181) (b := k) (by omega) (by omega)), show k = 181 by omega]
    simp only [↓s209_93, ↓s209_94, ct_s, ct_n, ↓bI_01, bI_eq0, bI_eq1, nI_10, nI_01, dec_f, dec_t, if_n, eq_self, true_or, or_true, if_true, if_false, reduceIte]
  | succ c ih =>
    intro k hk
    have e := cpM_s (M := M) (a := 85) (to := 0) (b := 100) (fr := 0) (k := k) (by decide)
    rw [Nat.zero_add] at e
    simp only [↓s209_68, ↓s209_69, ↓s209_72, ct_s, ct_n, ↓bI_01, bI_eq0, bI_eq1, nI_10, nI_01, dec_f, dec_t, if_n, eq_self, true_or, or_true, if_true, if_false, reduceIte]
    rw [if_neg (nI_ge (a := k) (b := 181) (by omega) (by omega))]
    simp only [↓s209_75, ↓s209_76, ↓s209_79, ↓s209_80, ↓s209_81, ↓s209_84, ↓s209_85, ↓s209_86, ↓s209_87, ↓s209_90, jc_84, gf_84_0, gf_84_1, gf_84_2, gf_84_3, gf_84_4, ok_84_4, gf_84_5, ok_84_5, gf_84_6, ok_84_6, gf_84_7, ok_84_7, gf_84_8, ok_84_8, gf_84_9, ok_84_9, gf_84_10, gf_84_11, gf_84_12, gf_84_13, gf_84_14, gf_84_15, gf_84_16, gf_84_17, ok_84_17, gf_84_18, gf_84_19, ok_84_19, gf_84_20, ok_84_20, gf_84_21, gf_84_22, gf_84_23, gf_84_24, ok_84_24, gf_84_25, ok_84_25, gf_84_26, ok_84_26, gf_84_27, ok_84_27, gf_84_28, ok_84_28, gf_84_29, gf_84_30, al_100 (show k < 181 by omega), sa_85 (show k < 181 by omega), e, nI_add, ct_s, ct_n, ↓bI_01, bI_eq0, bI_eq1, nI_10, nI_01, dec_f, dec_t, if_n, eq_self, true_or, or_true, if_true, if_false, reduceIte]
    exact ih (k + 1) (by omega)
def RH (M M2 : ax_M) (r : pR) : Prop := (r.1 = true → ∀ j, j < 181 → M2 85 j = r.2.2 j) ∧ (r.1 = false → M2 85 = M 85) ∧ (∀ a, a ≠ 84 → a ≠ 85 → a ≠ 100 → a ≠ 101 → M2 a = M a) ∧ ∀ j, ¬ (25 ≤ j ∧ j ≤ 28) → M2 84 j = M 84 j
theorem RH_g {r : pR} (h : RG M M1) (h2 : RH M1 M2 r) : RH M M2 r := ⟨h2.1, fun q => (h2.2.1 q).trans (h.1 85 (by decide) (by decide) (by decide)), fun a q1 q2 q3 q4 => (h2.2.2.1 a q1 q2 q3 q4).trans (h.1 a q1 q3 q4), fun j q => (h2.2.2.2 j q).trans (h.2 j q)⟩
theorem RH_f {p : Nat} (h : RG M M2) : RH M M2 (false, p, A) := ⟨fun q => (ft q).elim, fun _ => h.1 85 (by decide) (by decide) (by decide), fun a q1 _ q3 q4 => h.1 a q1 q3 q4, h.2⟩
theorem l209 : ∀ c m i A M (y2 : Value), m + c = t + 1 → m ≤ i → 1 ≤ m → i ≤ t → TXm M B t → LM M B t i → (∀ j, j < 181 → M 100 j = A j) → WF A → ∃ M2, RH M M2 (prs B t c m i A) ∧ ∀ (S : ax_S) (d n : Nat) (Q : Option Value → Nat → ax_H → Prop), ax_W (d + 7) 209 26 [.ref 84, .int (nI m), y2] [] n (hx S M N) Q = Q (some (.int (anR (prs B t c m i A)))) n (hx S M2 N) := by
  intro c
  induction c with
  | zero => intro m i A M y2 hm h1 h2 hi; omega
  | succ c ih =>
    intro m i A M y2 hm h1 h2 hi hT hL hA hW
    have t1 := hT.2.1
    have mb := tkM_bd (B := B) (t := t) (i := i)
    rw [show prs B t (c + 1) m i A = if tkK B t i = 0 then (true, m, A) else if (itm B t i A).1 = true then prs B t c (m + 1) (itm B t i A).2.1 (itm B t i A).2.2 else (false, (itm B t i A).2.1, A) from rfl]
    by_cases h0 : tkK B t i = 0
    · rw [if_pos h0]
      refine ⟨cpM M 85 0 100 0 181, ⟨fun _ j hj => ?_, fun q => (ft q.symm).elim, fun a _ q _ _ => cpM_o q, fun j _ => by rw [cpM_o (by decide)]⟩, fun S d n Q => ?_⟩
      · show cpM M 85 0 100 0 181 85 j = A j
        unfold cpM
        rw [if_pos ⟨rfl, by omega, by omega⟩, show 0 + (j - 0) = j by omega]
        exact hA j hj
      · have lp := l209c (M := M) (N := N) (m := nI m) (d := d + 7) (n := n) (S := S) (Q := Q) 181 0 (by omega)
        rw [cpM_0] at lp
        simp only [↓s209_26, ↓s209_27, ↓s209_30, jc_84, gf_84_0, gf_84_1, gf_84_2, gf_84_3, gf_84_4, ok_84_4, gf_84_5, ok_84_5, gf_84_6, ok_84_6, gf_84_7, ok_84_7, gf_84_8, ok_84_8, gf_84_9, ok_84_9, gf_84_10, gf_84_11, gf_84_12, gf_84_13, gf_84_14, gf_84_15, gf_84_16, gf_84_17, ok_84_17, gf_84_18, gf_84_19, ok_84_19, gf_84_20, ok_84_20, gf_84_21, gf_84_22, gf_84_23, gf_84_24, ok_84_24, gf_84_25, ok_84_25, gf_84_26, ok_84_26, gf_84_27, ok_84_27, gf_84_28, ok_84_28, gf_84_29, gf_84_30, hL.2.2.1, (tkM_1 (B := B) (t := t) (i := i) (k := 0) (by omega)).mpr h0, ct_s, ct_n, ↓bI_01, bI_eq0, bI_eq1, nI_10, nI_01, dec_f, dec_t, if_n, eq_self, true_or, or_true, if_true, if_false, reduceIte]
        simp only [↓s209_66, ↓s209_67, ct_s, ct_n, ↓bI_01, bI_eq0, bI_eq1, nI_10, nI_01, dec_f, dec_t, if_n, eq_self, true_or, or_true, if_true, if_false, reduceIte]
        exact lp
    · rw [if_neg h0]
      obtain ⟨M1, b, ⟨r1, r2⟩, g1⟩ := c208 (N := N) hT hi hL hA hW
      have pre : ∀ (S : ax_S) (d n : Nat) (Q : Option Value → Nat → ax_H → Prop), ax_W (d + 7) 209 26 [.ref 84, .int (nI m), y2] [] n (hx S M N) Q = ax_W (d + 7) 209 37 [.ref 84, .int (nI m), y2] [.int (bI b)] n (hx S M1 N) Q := by
        intro S d n Q
        simp only [↓s209_26, ↓s209_27, ↓s209_30, jc_84, gf_84_0, gf_84_1, gf_84_2, gf_84_3, gf_84_4, ok_84_4, gf_84_5, ok_84_5, gf_84_6, ok_84_6, gf_84_7, ok_84_7, gf_84_8, ok_84_8, gf_84_9, ok_84_9, gf_84_10, gf_84_11, gf_84_12, gf_84_13, gf_84_14, gf_84_15, gf_84_16, gf_84_17, ok_84_17, gf_84_18, gf_84_19, ok_84_19, gf_84_20, ok_84_20, gf_84_21, gf_84_22, gf_84_23, gf_84_24, ok_84_24, gf_84_25, ok_84_25, gf_84_26, ok_84_26, gf_84_27, ok_84_27, gf_84_28, ok_84_28, gf_84_29, gf_84_30, hL.2.2.1, ct_s, ct_n, ↓bI_01, bI_eq0, bI_eq1, nI_10, nI_01, dec_f, dec_t, if_n, eq_self, true_or, or_true, if_true, if_false, reduceIte]
        rw [if_neg (fun q => h0 ((tkM_1 (by omega)).mp ((nI_eq (a := tkM B t i) (b := 0) (by omega) (by omega)).mp q)))]
        simp only [↓s209_33, ↓s209_34, jc_84, gf_84_0, gf_84_1, gf_84_2, gf_84_3, gf_84_4, ok_84_4, gf_84_5, ok_84_5, gf_84_6, ok_84_6, gf_84_7, ok_84_7, gf_84_8, ok_84_8, gf_84_9, ok_84_9, gf_84_10, gf_84_11, gf_84_12, gf_84_13, gf_84_14, gf_84_15, gf_84_16, gf_84_17, ok_84_17, gf_84_18, gf_84_19, ok_84_19, gf_84_20, ok_84_20, gf_84_21, gf_84_22, gf_84_23, gf_84_24, ok_84_24, gf_84_25, ok_84_25, gf_84_26, ok_84_26, gf_84_27, ok_84_27, gf_84_28, ok_84_28, gf_84_29, gf_84_30, ↓g1, ct_s, ct_n, ↓bI_01, bI_eq0, bI_eq1, nI_10, nI_01, dec_f, dec_t, if_n, eq_self, true_or, or_true, if_true, if_false, reduceIte]
      cases b with
      | false =>
        obtain ⟨j1, j2⟩ := JR_ff r1
        rw [if_neg (by rw [j1]; decide)]
        refine ⟨M1, RH_f r2, fun S d n Q => ?_⟩
        rw [pre]
        simp only [↓s209_37, ↓s209_48, ↓s209_50, ↓s209_51, ↓s209_54, ↓s209_55, jc_84, gf_84_0, gf_84_1, gf_84_2, gf_84_3, gf_84_4, ok_84_4, gf_84_5, ok_84_5, gf_84_6, ok_84_6, gf_84_7, ok_84_7, gf_84_8, ok_84_8, gf_84_9, ok_84_9, gf_84_10, gf_84_11, gf_84_12, gf_84_13, gf_84_14, gf_84_15, gf_84_16, gf_84_17, ok_84_17, gf_84_18, gf_84_19, ok_84_19, gf_84_20, ok_84_20, gf_84_21, gf_84_22, gf_84_23, gf_84_24, ok_84_24, gf_84_25, ok_84_25, gf_84_26, ok_84_26, gf_84_27, ok_84_27, gf_84_28, ok_84_28, gf_84_29, gf_84_30, j2, ct_s, ct_n, ↓bI_01, bI_eq0, bI_eq1, nI_10, nI_01, dec_f, dec_t, if_n, eq_self, true_or, or_true, if_true, if_false, reduceIte]
        rfl
      | true =>
        obtain ⟨j1, j2⟩ := JF_t r1
        by_cases h3 : (itm B t i A).1 = true
        · rw [if_pos h3]
          have ok := itm_ok hi hW h3
          obtain ⟨p, p1, p2, p3, p4, p5⟩ := j1 h3
          obtain ⟨M3, ⟨f1, f2⟩, g3⟩ := c202 (N := N) (TXm_rg r2 hT) p1 p2
          have r3 : RG M M3 := RG_tr r2 (RG_f f2)
          have mb2 := tkM_bd (B := B) (t := t) (i := p)
          obtain ⟨M2, f, g⟩ := ih (m + 1) (itm B t i A).2.1 (itm B t i A).2.2 M3 y2 (by omega) (by omega) (by omega) ok.1.2 (TXm_rg r3 hT) (by rw [p4]; exact f1) (fun j hj => by rw [f2.1 100 (by decide)]; exact p5 j hj) ok.2
          refine ⟨M2, RH_g r3 f, fun S d n Q => ?_⟩
          rw [pre]
          simp only [↓s209_37, ↓s209_40, ↓s209_41, ↓s209_44, ↓s209_45, jc_84, gf_84_0, gf_84_1, gf_84_2, gf_84_3, gf_84_4, ok_84_4, gf_84_5, ok_84_5, gf_84_6, ok_84_6, gf_84_7, ok_84_7, gf_84_8, ok_84_8, gf_84_9, ok_84_9, gf_84_10, gf_84_11, gf_84_12, gf_84_13, gf_84_14, gf_84_15, gf_84_16, gf_84_17, ok_84_17, gf_84_18, gf_84_19, ok_84_19, gf_84_20, ok_84_20, gf_84_21, gf_84_22, gf_84_23, gf_84_24, ok_84_24, gf_84_25, ok_84_25, gf_84_26, ok_84_26, gf_84_27, ok_84_27, gf_84_28, ok_84_28, gf_84_29, gf_84_30, p2.2.2.1, (tkM_1 (B := B) (t := t) (i := p) (k := 3) (by omega)).mpr p3, ct_s, ct_n, ↓bI_01, bI_eq0, bI_eq1, nI_10, nI_01, dec_f, dec_t, if_n, eq_self, true_or, or_true, if_true, if_false, reduceIte, Bool.true_eq_false]
          simp only [↓s209_56, ↓s209_57, ↓s209_60, ↓s209_63, jc_84, gf_84_0, gf_84_1, gf_84_2, gf_84_3, gf_84_4, ok_84_4, gf_84_5, ok_84_5, gf_84_6, ok_84_6, gf_84_7, ok_84_7, gf_84_8, ok_84_8, gf_84_9, ok_84_9, gf_84_10, gf_84_11, gf_84_12, gf_84_13, gf_84_14, gf_84_15, gf_84_16, gf_84_17, ok_84_17, gf_84_18, gf_84_19, ok_84_19, gf_84_20, ok_84_20, gf_84_21, gf_84_22, gf_84_23, gf_84_24, ok_84_24, gf_84_25, ok_84_25, gf_84_26, ok_84_26, gf_84_27, ok_84_27, gf_84_28, ok_84_28, gf_84_29, gf_84_30, ↓g3, nI_add, ct_s, ct_n, ↓bI_01, bI_eq0, bI_eq1, nI_10, nI_01, dec_f, dec_t, if_n, eq_self, true_or, or_true, if_true, if_false, reduceIte]
          exact g S d n Q
        · rw [if_neg h3]
          have h3' : (itm B t i A).1 = false := by
            cases e : (itm B t i A).1 with
            | true => exact absurd e h3
            | false => rfl
          obtain ⟨p, p1, p2, p3, p4⟩ := j2 h3'
          have mb2 := tkM_bd (B := B) (t := t) (i := p)
          refine ⟨M1, RH_f r2, fun S d n Q => ?_⟩
          rw [pre, p4]
          simp only [↓s209_37, ↓s209_40, ↓s209_41, ↓s209_44, ↓s209_45, jc_84, gf_84_0, gf_84_1, gf_84_2, gf_84_3, gf_84_4, ok_84_4, gf_84_5, ok_84_5, gf_84_6, ok_84_6, gf_84_7, ok_84_7, gf_84_8, ok_84_8, gf_84_9, ok_84_9, gf_84_10, gf_84_11, gf_84_12, gf_84_13, gf_84_14, gf_84_15, gf_84_16, gf_84_17, ok_84_17, gf_84_18, gf_84_19, ok_84_19, gf_84_20, ok_84_20, gf_84_21, gf_84_22, gf_84_23, gf_84_24, ok_84_24, gf_84_25, ok_84_25, gf_84_26, ok_84_26, gf_84_27, ok_84_27, gf_84_28, ok_84_28, gf_84_29, gf_84_30, p2.2.2.1, ct_s, ct_n, ↓bI_01, bI_eq0, bI_eq1, nI_10, nI_01, dec_f, dec_t, if_n, eq_self, true_or, or_true, if_true, if_false, reduceIte, Bool.true_eq_false]
          rw [if_neg (fun q => p3 ((tkM_1 (by omega)).mp ((nI_eq (a := tkM B t p) (b := 3) (by omega) (by omega)).mp q)))]
          simp only [↓s209_48, ↓s209_50, ↓s209_51, ↓s209_54, ↓s209_55, jc_84, gf_84_0, gf_84_1, gf_84_2, gf_84_3, gf_84_4, ok_84_4, gf_84_5, ok_84_5, gf_84_6, ok_84_6, gf_84_7, ok_84_7, gf_84_8, ok_84_8, gf_84_9, ok_84_9, gf_84_10, gf_84_11, gf_84_12, gf_84_13, gf_84_14, gf_84_15, gf_84_16, gf_84_17, ok_84_17, gf_84_18, gf_84_19, ok_84_19, gf_84_20, ok_84_20, gf_84_21, gf_84_22, gf_84_23, gf_84_24, ok_84_24, gf_84_25, ok_84_25, gf_84_26, ok_84_26, gf_84_27, ok_84_27, gf_84_28, ok_84_28, gf_84_29, gf_84_30, p2.1, ct_s, ct_n, ↓bI_01, bI_eq0, bI_eq1, nI_10, nI_01, dec_f, dec_t, if_n, eq_self, true_or, or_true, if_true, if_false, reduceIte]
          rfl
theorem c209 (hT : TXm M B t) : ∃ M2, RH M M2 (rdP B t A) ∧ ∀ (S : ax_S) (d n : Nat) (Q : Option Value → Nat → ax_H → Prop), ax_W (d + 7) 209 0 [.ref 84, ax_dm, ax_dm] [] n (hx S M N) Q = Q (some (.int (anR (rdP B t A)))) n (hx S M2 N) := by
  obtain ⟨M0, ⟨hL, r0⟩, g0⟩ := c201 (N := N) (i := 0) hT (Nat.zero_le t)
  have r0 : RG M M0 := RG_f r0
  obtain ⟨M1, ⟨⟨j1, j2⟩, r1⟩, g1⟩ := c205 (N := N) (A := A) (TXm_rg r0 hT) (Nat.zero_le t) hL
  have r1 : RG M M1 := RG_tr r0 r1
  have pre : ∀ (S : ax_S) (d n : Nat) (Q : Option Value → Nat → ax_H → Prop), ax_W (d + 7) 209 0 [.ref 84, ax_dm, ax_dm] [] n (hx S M N) Q = ax_W (d + 7) 209 9 [.ref 84, ax_dm, ax_dm] [.int (bI (itf B t 0 A).1)] n (hx S M1 N) Q := by
    intro S d n Q
    simp only [↓s209_0, ↓s209_1, ↓s209_2, ↓s209_5, ↓s209_6, jc_84, gf_84_0, gf_84_1, gf_84_2, gf_84_3, gf_84_4, ok_84_4, gf_84_5, ok_84_5, gf_84_6, ok_84_6, gf_84_7, ok_84_7, gf_84_8, ok_84_8, gf_84_9, ok_84_9, gf_84_10, gf_84_11, gf_84_12, gf_84_13, gf_84_14, gf_84_15, gf_84_16, gf_84_17, ok_84_17, gf_84_18, gf_84_19, ok_84_19, gf_84_20, ok_84_20, gf_84_21, gf_84_22, gf_84_23, gf_84_24, ok_84_24, gf_84_25, ok_84_25, gf_84_26, ok_84_26, gf_84_27, ok_84_27, gf_84_28, ok_84_28, gf_84_29, gf_84_30, ↓g0, ↓g1, ct_s, ct_n, ↓bI_01, bI_eq0, bI_eq1, nI_10, nI_01, dec_f, dec_t, if_n, eq_self, true_or, or_true, if_true, if_false, reduceIte]
  unfold rdP
  by_cases h3 : (itf B t 0 A).1 = true
  · rw [if_pos h3]
    have ok := itf_ok (Nat.zero_le t) h3
    obtain ⟨p, p1, p2, p4, p5⟩ := j1 h3
    obtain ⟨M3, ⟨f1, f2⟩, g3⟩ := c202 (N := N) (TXm_rg r1 hT) p1 p2
    have r3 : RG M M3 := RG_tr r1 (RG_f f2)
    obtain ⟨M2, f, g⟩ := l209 (N := N) t 1 (itf B t 0 A).2.1 (itf B t 0 A).2.2 M3 ax_dm (by omega) (by omega) (by omega) ok.1.2 (TXm_rg r3 hT) (by rw [p4]; exact f1) (fun j hj => by rw [f2.1 100 (by decide)]; exact p5 j hj) ok.2
    refine ⟨M2, RH_g r3 f, fun S d n Q => ?_⟩
    rw [pre, h3]
    simp only [↓s209_9, ↓s209_20, ↓s209_21, ↓s209_24, ↓s209_25, jc_84, gf_84_0, gf_84_1, gf_84_2, gf_84_3, gf_84_4, ok_84_4, gf_84_5, ok_84_5, gf_84_6, ok_84_6, gf_84_7, ok_84_7, gf_84_8, ok_84_8, gf_84_9, ok_84_9, gf_84_10, gf_84_11, gf_84_12, gf_84_13, gf_84_14, gf_84_15, gf_84_16, gf_84_17, ok_84_17, gf_84_18, gf_84_19, ok_84_19, gf_84_20, ok_84_20, gf_84_21, gf_84_22, gf_84_23, gf_84_24, ok_84_24, gf_84_25, ok_84_25, gf_84_26, ok_84_26, gf_84_27, ok_84_27, gf_84_28, ok_84_28, gf_84_29, gf_84_30, ↓g3, ct_s, ct_n, ↓bI_01, bI_eq0, bI_eq1, nI_10, nI_01, dec_f, dec_t, if_n, eq_self, true_or, or_true, if_true, if_false, reduceIte, Bool.true_eq_false]
    exact g S d n Q
  · rw [if_neg h3]
    have h3' : (itf B t 0 A).1 = false := by
      cases e : (itf B t 0 A).1 with
      | true => exact absurd e h3
      | false => rfl
    refine ⟨M1, RH_f r1, fun S d n Q => ?_⟩
    rw [pre, h3']
    simp only [↓s209_9, ↓s209_12, ↓s209_14, ↓s209_15, ↓s209_18, ↓s209_19, jc_84, gf_84_0, gf_84_1, gf_84_2, gf_84_3, gf_84_4, ok_84_4, gf_84_5, ok_84_5, gf_84_6, ok_84_6, gf_84_7, ok_84_7, gf_84_8, ok_84_8, gf_84_9, ok_84_9, gf_84_10, gf_84_11, gf_84_12, gf_84_13, gf_84_14, gf_84_15, gf_84_16, gf_84_17, ok_84_17, gf_84_18, gf_84_19, ok_84_19, gf_84_20, ok_84_20, gf_84_21, gf_84_22, gf_84_23, gf_84_24, ok_84_24, gf_84_25, ok_84_25, gf_84_26, ok_84_26, gf_84_27, ok_84_27, gf_84_28, ok_84_28, gf_84_29, gf_84_30, j2 h3', ct_s, ct_n, ↓bI_01, bI_eq0, bI_eq1, nI_10, nI_01, dec_f, dec_t, if_n, eq_self, true_or, or_true, if_true, if_false, reduceIte]
    rfl
end RefLoop
