/-! ===== cancel ===== -/
section Cancel
variable {M M0 : ax_M} {N : ax_L} {A : ax_A0} {x : Int32}
/-- a served by s, then b by the other: the leaning stays -/
def stB (A : ax_A0) (s a b : Nat) : Bool := decide (iI (evS A (1 - s) b (evS A s a (nowA A))).2.2 = iI (leA A))
def cnA (A : ax_A0) (a b : Nat) : Bool := !hasB (nowA A).1 a && !hasB (nowA A).1 b && stB A 0 a b && stB A 1 b a
theorem has_add {sv a b : Nat} (hs : sv < 256) (ha : a < 8) (hb : b < 8) (h : b ≠ a) : hasB (addB sv a) b = hasB sv b := by
  rw [bt_has2 sv hs a ha b hb, decide_eq_false h, Bool.false_or]
theorem c22 (hC : RC M 21 A) (hW : WF A) {s a b : Nat} (hs : s ≤ 1) (ha : a < ndA A) (hb : b < ndA A) (hab : b ≠ a) : ∃ M2, sc M M2 ∧ ∀ (S : ax_S) (d n : Nat) (Q : Option Value → Nat → ax_H → Prop), ax_W (d + 4) 22 0 [.ref 72, .int (nI s), .int (nI a), .int (nI b)] [] n (hx S M N) Q = Q (some (.int (bI (!hasB (nowA A).1 a && !hasB (nowA A).1 b && stB A s a b)))) n (hx S M2 N) := by
  obtain ⟨v1, v2, v3⟩ := nowA_ok hW
  have n8 := hW.1.2
  have hC1 := RC_ev (e := 72) (v := nowA A) (by decide) hC
  have hC2 := RC_ev (e := 72) (v := evS A s a (nowA A)) (by decide) hC
  have hC3 := RC_ev (e := 72) (v := evS A (1 - s) b (evS A s a (nowA A))) (by decide) hC
  have ok := evS_ok (s := s) hW ha v1
  cases h1 : hasB (nowA A).1 a with
  | true =>
    refine ⟨_, sc_ev (v := nowA A) sc_rf (Or.inl rfl), fun S d n Q => ?_⟩
    simp only [↓s22_0, ↓s22_1, ↓s22_4, ↓s22_5, ↓s22_8, ↓s22_9, ↓s22_10, ↓s22_13, ↓s22_16, ↓s22_19, ↓s22_20, jc_72, gf_72_0, gf_72_1, ok_72_1, gf_72_2, ok_72_2, gf_72_3, ok_72_3, jc_21, gf_21_0, gf_21_1, gf_21_2, gf_21_3, gf_21_4, gf_21_5, ok_21_5, gf_21_6, ok_21_6, ↓c15 (e := 72) (Or.inl rfl) hC hW, evM_1, ↓c8 hC1 hW (show a < 1000 by omega) v1, h1, Bool.not_true, Bool.and_false, Bool.false_and, ct_s, ct_n, ↓bI_01, bI_eq0, bI_eq1, nI_10, nI_01, dec_f, dec_t, if_n, eq_self, true_or, or_true, if_true, if_false, reduceIte]
    rfl
  | false =>
    have e2 : hasB (evS A s a (nowA A)).1 b = hasB (nowA A).1 b := has_add v1 (by omega) (by omega) hab
    have pre : ∀ (S : ax_S) (d n : Nat) (Q : Option Value → Nat → ax_H → Prop), ax_W (d + 4) 22 0 [.ref 72, .int (nI s), .int (nI a), .int (nI b)] [] n (hx S M N) Q = ax_W (d + 4) 22 40 [.ref 72, .int (nI s), .int (nI a), .int (nI b)] [.int (bI (!hasB (nowA A).1 b))] n (hx S (evM M 72 (evS A s a (nowA A))) N) Q := by
      intro S d n Q
      simp only [↓s22_0, ↓s22_1, ↓s22_4, ↓s22_5, ↓s22_8, ↓s22_9, ↓s22_10, ↓s22_13, ↓s22_16, ↓s22_19, ↓s22_20, ↓s22_21, ↓s22_22, ↓s22_23, ↓s22_24, ↓s22_27, ↓s22_28, ↓s22_29, ↓s22_32, ↓s22_33, ↓s22_34, ↓s22_37, jc_72, gf_72_0, gf_72_1, ok_72_1, gf_72_2, ok_72_2, gf_72_3, ok_72_3, jc_21, gf_21_0, gf_21_1, gf_21_2, gf_21_3, gf_21_4, gf_21_5, ok_21_5, gf_21_6, ok_21_6, ↓c15 (e := 72) (Or.inl rfl) hC hW, evM_1, ↓c8 hC1 hW (show a < 1000 by omega) v1, h1, decide_eq_true ha, Bool.not_false, Bool.and_true, ↓c17 (e := 72) (Or.inl rfl) hC hW ha hs v1 v3, ↓c8 hC2 hW (show b < 1000 by omega) ok.1, e2, decide_eq_true hb, Bool.true_and, ct_s, ct_n, ↓bI_01, bI_eq0, bI_eq1, nI_10, nI_01, dec_f, dec_t, if_n, eq_self, true_or, or_true, if_true, if_false, reduceIte, Bool.true_eq_false]
    cases h2 : hasB (nowA A).1 b with
    | true =>
      refine ⟨_, sc_ev (v := evS A s a (nowA A)) sc_rf (Or.inl rfl), fun S d n Q => ?_⟩
      rw [pre, h2]
      simp only [↓s22_40, ↓s22_43, ↓s22_44, Bool.not_true, Bool.not_false, Bool.true_and, Bool.false_and, ct_s, ct_n, ↓bI_01, bI_eq0, bI_eq1, nI_10, nI_01, dec_f, dec_t, if_n, eq_self, true_or, or_true, if_true, if_false, reduceIte]
      rfl
    | false =>
      refine ⟨_, sc_ev (v := evS A (1 - s) b (evS A s a (nowA A))) sc_rf (Or.inl rfl), fun S d n Q => ?_⟩
      rw [pre, h2]
      simp only [↓s22_40, ↓s22_43, ↓s22_44, ↓s22_45, ↓s22_46, ↓s22_47, ↓s22_48, ↓s22_49, ↓s22_50, ↓s22_53, ↓s22_54, ↓s22_55, ↓s22_58, ↓s22_59, ↓s22_62, ↓s22_65, jc_72, gf_72_0, gf_72_1, ok_72_1, gf_72_2, ok_72_2, gf_72_3, ok_72_3, jc_21, gf_21_0, gf_21_1, gf_21_2, gf_21_3, gf_21_4, gf_21_5, ok_21_5, gf_21_6, ok_21_6, Bool.not_false, Bool.true_and, pk_sub hs, ↓c17 (e := 72) (Or.inl rfl) hC hW hb (show 1 - s ≤ 1 by omega) ok.1 ok.2, evM_3, rc_le hC3, ct_s, ct_n, ↓bI_01, bI_eq0, bI_eq1, nI_10, nI_01, dec_f, dec_t, if_n, eq_self, true_or, or_true, if_true, if_false, reduceIte, Bool.true_eq_false]
      unfold stB
      by_cases e : iI (evS A (1 - s) b (evS A s a (nowA A))).2.2 = iI (leA A)
      · rw [if_pos e, bI_t e]
        simp only [↓s22_68, ↓s22_69, ↓s22_72, ↓s22_73, ct_s, ct_n, ↓bI_01, bI_eq0, bI_eq1, nI_10, nI_01, dec_f, dec_t, if_n, eq_self, true_or, or_true, if_true, if_false, reduceIte]
      · rw [if_neg e, bI_f e]
        simp only [↓s22_72, ↓s22_73, ct_s, ct_n, ↓bI_01, bI_eq0, bI_eq1, nI_10, nI_01, dec_f, dec_t, if_n, eq_self, true_or, or_true, if_true, if_false, reduceIte]
theorem c19 (hC : RC M 21 A) (hW : WF A) {a b : Nat} (ha : a < ndA A) (hb : b < ndA A) (hab : b ≠ a) : ∃ M2, sc M M2 ∧ ∀ (S : ax_S) (d n : Nat) (Q : Option Value → Nat → ax_H → Prop), ax_W (d + 5) 19 0 [.ref 72, .int (nI a), .int (nI b)] [] n (hx S M N) Q = Q (some (.int (bI (cnA A a b)))) n (hx S M2 N) := by
  obtain ⟨M1, s1, g1⟩ := c22 (N := N) hC hW (s := 0) (by omega) ha hb hab
  obtain ⟨M2, s2, g2⟩ := c22 (N := N) (RC_sc s1 hC) hW (s := 1) (by omega) hb ha (Ne.symm hab)
  unfold cnA
  cases h1 : (!hasB (nowA A).1 a && !hasB (nowA A).1 b && stB A 0 a b) with
  | false =>
    refine ⟨M1, s1, fun S d n Q => ?_⟩
    simp only [↓s19_0, ↓s19_1, ↓s19_2, ↓s19_3, ↓s19_4, ↓s19_7, ↓s19_24, ↓s19_25, jc_72, gf_72_0, gf_72_1, ok_72_1, gf_72_2, ok_72_2, gf_72_3, ok_72_3, ↓g1, h1, Bool.false_and, ct_s, ct_n, ↓bI_01, bI_eq0, bI_eq1, nI_10, nI_01, dec_f, dec_t, if_n, eq_self, true_or, or_true, if_true, if_false, reduceIte]
    rfl
  | true =>
    refine ⟨M2, sc_tr s1 s2, fun S d n Q => ?_⟩
    have h3 : (!hasB (nowA A).1 b && !hasB (nowA A).1 a && stB A 1 b a) = stB A 1 b a := by
      simp only [Bool.and_eq_true] at h1
      rw [h1.1.1, h1.1.2, Bool.true_and, Bool.true_and]
    simp only [↓s19_0, ↓s19_1, ↓s19_2, ↓s19_3, ↓s19_4, ↓s19_7, ↓s19_10, ↓s19_11, ↓s19_12, ↓s19_13, ↓s19_14, jc_72, gf_72_0, gf_72_1, ok_72_1, gf_72_2, ok_72_2, gf_72_3, ok_72_3, ↓g1, ↓g2, h1, h3, Bool.true_and, ct_s, ct_n, ↓bI_01, bI_eq0, bI_eq1, nI_10, nI_01, dec_f, dec_t, if_n, eq_self, true_or, or_true, if_true, if_false, reduceIte, Bool.true_eq_false]
    cases stB A 1 b a with
    | true => simp only [↓s19_17, ↓s19_20, ↓s19_21, ↓s19_24, ↓s19_25, ct_s, ct_n, ↓bI_01, bI_eq0, bI_eq1, nI_10, nI_01, dec_f, dec_t, if_n, eq_self, true_or, or_true, if_true, if_false, reduceIte, Bool.true_eq_false]; rfl
    | false => simp only [↓s19_17, ↓s19_20, ↓s19_21, ↓s19_24, ↓s19_25, ct_s, ct_n, ↓bI_01, bI_eq0, bI_eq1, nI_10, nI_01, dec_f, dec_t, if_n, eq_self, true_or, or_true, if_true, if_false, reduceIte]; rfl
theorem c183 (hA : M 85 = A) (hW : WF A) {s a b : Nat} (hs : s ≤ 1) (ha : a < ndA A) (hb : b < ndA A) (hab : b ≠ a) (h1 : hasB (nowA A).1 a = false) (h2 : hasB (nowA A).1 b = false) {d n : Nat} {S : ax_S} {Q : Option Value → Nat → ax_H → Prop} : ax_W (d + 5) 183 0 [.ref 84, .int (nI a), .int (nI s), .int (nI b), ax_dm, ax_dm] [] n (hx S M N) Q = Q (some (.int (bI (stB A s a b)))) n (hx S (rvM M (evS A (1 - s) b (evS A s a (nowA A)))) N) := by
  obtain ⟨v1, v2, v3⟩ := nowA_ok hW
  have n8 := hW.1.2
  have ok := evS_ok (s := s) hW ha v1
  have e2 : hasB (evS A s a (nowA A)).1 b = false := (has_add v1 (by omega) (by omega) hab).trans h2
  have k1 : ∀ (d : Nat) (Q : Option Value → Nat → ax_H → Prop), ax_W (d + 4) 156 0 [.ref 84, .int (nI a), .int (nI s), .int (nI 1), ax_dm] [] n (hx S (rvM M (nowA A)) N) Q = Q (some (.int (nI (dsN A a (pop (nowA A).1) (nowA A).2.1)))) n (hx S (rvM M (evS A s a (nowA A))) N) := fun d Q => by
    have := c156 (d := d) (n := n) (Q := Q) (S := S) (N := N) (c := 1) hA hW ha hs (by omega) v1 h1 v3
    rw [evB_1] at this
    exact this
  have k2 : ∀ (d : Nat) (Q : Option Value → Nat → ax_H → Prop), ax_W (d + 4) 156 0 [.ref 84, .int (nI b), .int (nI (1 - s)), .int (nI 1), ax_dm] [] n (hx S (rvM M (evS A s a (nowA A))) N) Q = Q (some (.int (nI (dsN A b (pop (evS A s a (nowA A)).1) (evS A s a (nowA A)).2.1)))) n (hx S (rvM M (evS A (1 - s) b (evS A s a (nowA A)))) N) := fun d Q => by
    have := c156 (d := d) (n := n) (Q := Q) (S := S) (N := N) (c := 1) hA hW hb (show 1 - s ≤ 1 by omega) (by omega) ok.1 e2 ok.2
    rw [evB_1] at this
    exact this
  have e3 : M 85 2 = iI (leA A) := by rw [hA]; exact (iI_to _).symm
  simp only [↓s183_0, ↓s183_1, ↓s183_4, ↓s183_5, ↓s183_6, ↓s183_7, ↓s183_8, ↓s183_11, ↓s183_13, ↓s183_14, ↓s183_15, ↓s183_16, ↓s183_17, ↓s183_18, ↓s183_19, ↓s183_22, ↓s183_24, ↓s183_25, ↓s183_28, ↓s183_29, ↓s183_32, ↓s183_33, ↓s183_34, jc_84, gf_84_0, gf_84_1, gf_84_2, gf_84_3, gf_84_4, ok_84_4, gf_84_5, ok_84_5, gf_84_6, ok_84_6, gf_84_7, ok_84_7, gf_84_8, ok_84_8, gf_84_9, ok_84_9, gf_84_10, gf_84_11, gf_84_12, gf_84_13, gf_84_14, gf_84_15, gf_84_16, gf_84_17, ok_84_17, gf_84_18, gf_84_19, ok_84_19, gf_84_20, ok_84_20, gf_84_21, gf_84_22, gf_84_23, gf_84_24, ok_84_24, gf_84_25, ok_84_25, gf_84_26, ok_84_26, gf_84_27, ok_84_27, gf_84_28, ok_84_28, gf_84_29, gf_84_30, ↓c151 hA hW, ↓k1, pk_sub hs, ↓k2, rvM_6, al_85 (show 2 < 181 by decide), rvM_85, e3, ct_s, ct_n, ↓bI_01, bI_eq0, bI_eq1, nI_10, nI_01, dec_f, dec_t, if_n, eq_self, true_or, or_true, if_true, if_false, reduceIte]
  unfold stB
  by_cases e : iI (evS A (1 - s) b (evS A s a (nowA A))).2.2 = iI (leA A)
  · rw [if_pos e, bI_t e]
    simp only [↓s183_37, ↓s183_38, ↓s183_41, ↓s183_42, ct_s, ct_n, ↓bI_01, bI_eq0, bI_eq1, nI_10, nI_01, dec_f, dec_t, if_n, eq_self, true_or, or_true, if_true, if_false, reduceIte]
  · rw [if_neg e, bI_f e]
    simp only [↓s183_41, ↓s183_42, ct_s, ct_n, ↓bI_01, bI_eq0, bI_eq1, nI_10, nI_01, dec_f, dec_t, if_n, eq_self, true_or, or_true, if_true, if_false, reduceIte]
/-! the pairs in order: how many so far, what was found -/
def stp (A : ax_A0) (x : Int32) (i j : Nat) (p : Nat × Int32) : Nat × Int32 := if cnA A i j = true then (p.1 + 1, if nI p.1 = x then nI (10 * i + j) else p.2) else p
def inn (A : ax_A0) (x : Int32) (i : Nat) : Nat → Nat → Nat × Int32 → Nat × Int32
  | 0, _, p => p
  | c + 1, j, p => inn A x i c (j + 1) (stp A x i j p)
def otn (A : ax_A0) (x : Int32) : Nat → Nat → Nat × Int32 → Nat × Int32
  | 0, _, p => p
  | c + 1, i, p => otn A x c (i + 1) (inn A x i c (i + 1) p)
def fnC (x : Int32) (p : Nat × Int32) : Int32 := if x = -1 then nI p.1 else p.2
theorem stp_t {i j : Nat} {p : Nat × Int32} (h : cnA A i j = true) : stp A x i j p = (p.1 + 1, if nI p.1 = x then nI (10 * i + j) else p.2) := by unfold stp; rw [if_pos h]
theorem stp_f {i j : Nat} {p : Nat × Int32} (h : cnA A i j = false) : stp A x i j p = p := by unfold stp; rw [if_neg (by rw [h]; decide)]
theorem inn_k {i k : Nat} (hx : nI k = x) : ∀ c j (p : Nat × Int32), k < p.1 → p.1 + c < 1000 → (inn A x i c j p).2 = p.2 ∧ p.1 ≤ (inn A x i c j p).1 ∧ (inn A x i c j p).1 ≤ p.1 + c := by
  intro c
  induction c with
  | zero => intro j p _ _; exact ⟨rfl, Nat.le_refl _, Nat.le_refl _⟩
  | succ c ih =>
    intro j p hk hb
    show (inn A x i c (j + 1) (stp A x i j p)).2 = p.2 ∧ p.1 ≤ (inn A x i c (j + 1) (stp A x i j p)).1 ∧ (inn A x i c (j + 1) (stp A x i j p)).1 ≤ p.1 + (c + 1)
    cases h : cnA A i j with
    | false =>
      rw [stp_f h]
      obtain ⟨a1, a2, a3⟩ := ih (j + 1) p hk (by omega)
      exact ⟨a1, a2, by omega⟩
    | true =>
      rw [stp_t h, if_neg (fun q => by have := (nI_eq (a := p.1) (b := k) (by omega) (by omega)).mp (q.trans hx.symm); omega)]
      obtain ⟨a1, a2, a3⟩ := ih (j + 1) (p.1 + 1, p.2) (by show k < p.1 + 1; omega) (by show p.1 + 1 + c < 1000; omega)
      refine ⟨a1, ?_, ?_⟩
      · show p.1 ≤ _
        have : p.1 + 1 ≤ _ := a2
        omega
      · have : _ ≤ p.1 + 1 + c := a3
        omega
theorem otn_k {k : Nat} (hx : nI k = x) : ∀ c i (p : Nat × Int32), k < p.1 → p.1 + 8 * c < 1000 → c ≤ 8 → (otn A x c i p).2 = p.2 := by
  intro c
  induction c with
  | zero => intro i p _ _ _; rfl
  | succ c ih =>
    intro i p hk hb hc
    obtain ⟨a1, a2, a3⟩ := inn_k (A := A) (i := i) hx c (i + 1) p hk (by omega)
    show (otn A x c (i + 1) (inn A x i c (i + 1) p)).2 = p.2
    rw [ih (i + 1) _ (by omega) (by omega) (by omega), a1]
theorem l101i (hC0 : RC M0 21 A) (hW : WF A) {i co : Nat} (hi : i < ndA A) (hco : co ≤ 8) (K : ∀ (cnt : Nat) (M : ax_M), cnt + 8 * co < 1000 → sc M0 M → ∀ y, ∃ M2, sc M0 M2 ∧ ∀ (S : ax_S) (d n : Nat) (Q : Option Value → Nat → ax_H → Prop), ax_W (d + 6) 101 18 [.ref 20, .int x, .int (nI cnt), .int (nI (i + 1)), y] [] n (hx S M N) Q = Q (some (.int (fnC x (otn A x co (i + 1) (cnt, -5))))) n (hx S M2 N)) : ∀ (c j cnt : Nat) (M : ax_M), j + c = ndA A → i < j → cnt + c + 8 * co < 1000 → sc M0 M → ∃ M2, sc M0 M2 ∧ ∀ (S : ax_S) (d n : Nat) (Q : Option Value → Nat → ax_H → Prop), ax_W (d + 6) 101 37 [.ref 20, .int x, .int (nI cnt), .int (nI i), .int (nI j)] [] n (hx S M N) Q = Q (some (.int (fnC x (otn A x co (i + 1) (inn A x i c j (cnt, -5)))))) n (hx S M2 N) := by
  have n8 := hW.1.2
  intro c
  induction c with
  | zero =>
    intro j cnt M hj hij hb hM
    have hC := RC_sc hM hC0
    obtain ⟨M2, h2, h3⟩ := K cnt M (by omega) hM (.int (nI j))
    refine ⟨M2, h2, fun S d n Q => ?_⟩
    simp only [↓s101_37, ↓s101_39, ↓s101_40, ↓s101_43, ↓s101_46, ↓s101_49, jc_20, gf_20_0, gf_20_1, gf_20_2, gf_20_3, gf_20_4, gf_20_5, gf_20_6, gf_20_7, gf_20_8, gf_20_9, gf_20_10, gf_20_11, ok_20_11, gf_20_12, ok_20_12, gf_20_13, ok_20_13, gf_20_14, ok_20_14, gf_20_15, ok_20_15, jc_21, gf_21_0, gf_21_1, gf_21_2, gf_21_3, gf_21_4, gf_21_5, ok_21_5, gf_21_6, ok_21_6, jc_22, gf_22_0, gf_22_1, gf_22_2, gf_22_3, ok_22_3, ↓c53 h22, (rc_nd hC hW).1, ct_s, ct_n, ↓bI_01, bI_eq0, bI_eq1, nI_10, nI_01, dec_f, dec_t, if_n, eq_self, true_or, or_true, if_true, if_false, reduceIte]
    rw [if_pos (nI_le (a := ndA A) (b := j) (by omega) (by omega))]
    simp only [↓s101_87, ↓s101_90, nI_add, ct_s, ct_n, ↓bI_01, bI_eq0, bI_eq1, nI_10, nI_01, dec_f, dec_t, if_n, eq_self, true_or, or_true, if_true, if_false, reduceIte]
    exact h3 S d n Q
  | succ c ih =>
    intro j cnt M hj hij hb hM
    have hC := RC_sc hM hC0
    obtain ⟨M1, s1, g1⟩ := c19 (N := N) hC hW hi (show j < ndA A by omega) (show j ≠ i by omega)
    have hM1 := sc_tr hM s1
    have pre : ∀ (S : ax_S) (d n : Nat) (Q : Option Value → Nat → ax_H → Prop), ax_W (d + 6) 101 37 [.ref 20, .int x, .int (nI cnt), .int (nI i), .int (nI j)] [] n (hx S M N) Q = ax_W (d + 6) 101 62 [.ref 20, .int x, .int (nI cnt), .int (nI i), .int (nI j)] [.int (bI (cnA A i j))] n (hx S M1 N) Q := by
      intro S d n Q
      simp only [↓s101_37, ↓s101_39, ↓s101_40, ↓s101_43, ↓s101_46, ↓s101_49, jc_20, gf_20_0, gf_20_1, gf_20_2, gf_20_3, gf_20_4, gf_20_5, gf_20_6, gf_20_7, gf_20_8, gf_20_9, gf_20_10, gf_20_11, ok_20_11, gf_20_12, ok_20_12, gf_20_13, ok_20_13, gf_20_14, ok_20_14, gf_20_15, ok_20_15, jc_21, gf_21_0, gf_21_1, gf_21_2, gf_21_3, gf_21_4, gf_21_5, ok_21_5, gf_21_6, ok_21_6, jc_22, gf_22_0, gf_22_1, gf_22_2, gf_22_3, ok_22_3, ↓c53 h22, (rc_nd hC hW).1, ct_s, ct_n, ↓bI_01, bI_eq0, bI_eq1, nI_10, nI_01, dec_f, dec_t, if_n, eq_self, true_or, or_true, if_true, if_false, reduceIte]
      rw [if_neg (nI_ge (a := j) (b := ndA A) (by omega) (by omega))]
      simp only [↓s101_52, ↓s101_53, ↓s101_56, ↓s101_57, ↓s101_59, jc_20, gf_20_0, gf_20_1, gf_20_2, gf_20_3, gf_20_4, gf_20_5, gf_20_6, gf_20_7, gf_20_8, gf_20_9, gf_20_10, gf_20_11, ok_20_11, gf_20_12, ok_20_12, gf_20_13, ok_20_13, gf_20_14, ok_20_14, gf_20_15, ok_20_15, jc_72, gf_72_0, gf_72_1, ok_72_1, gf_72_2, ok_72_2, gf_72_3, ok_72_3, ↓g1, ct_s, ct_n, ↓bI_01, bI_eq0, bI_eq1, nI_10, nI_01, dec_f, dec_t, if_n, eq_self, true_or, or_true, if_true, if_false, reduceIte]
    cases h : cnA A i j with
    | false =>
      obtain ⟨M2, h2, h3⟩ := ih (j + 1) cnt M1 (by omega) (by omega) (by omega) hM1
      refine ⟨M2, h2, fun S d n Q => ?_⟩
      rw [pre, h]
      simp only [↓s101_62, ↓s101_81, ↓s101_84, nI_add, ct_s, ct_n, ↓bI_01, bI_eq0, bI_eq1, nI_10, nI_01, dec_f, dec_t, if_n, eq_self, true_or, or_true, if_true, if_false, reduceIte]
      show _ = Q (some (.int (fnC x (otn A x co (i + 1) (inn A x i c (j + 1) (stp A x i j (cnt, -5))))))) n (hx S M2 N)
      rw [stp_f h]
      exact h3 S d n Q
    | true =>
      by_cases e : nI cnt = x
      · refine ⟨M1, hM1, fun S d n Q => ?_⟩
        rw [pre, h]
        simp only [↓s101_62, ↓s101_65, ↓s101_66, ↓s101_67, ct_s, ct_n, ↓bI_01, bI_eq0, bI_eq1, nI_10, nI_01, dec_f, dec_t, if_n, eq_self, true_or, or_true, if_true, if_false, reduceIte, Bool.true_eq_false]
        rw [if_pos e]
        simp only [↓s101_70, ↓s101_72, ↓s101_73, ↓s101_74, ↓s101_76, ↓s101_77, nI_add, pk_mul, ct_s, ct_n, ↓bI_01, bI_eq0, bI_eq1, nI_10, nI_01, dec_f, dec_t, if_n, eq_self, true_or, or_true, if_true, if_false, reduceIte]
        show _ = Q (some (.int (fnC x (otn A x co (i + 1) (inn A x i c (j + 1) (stp A x i j (cnt, -5))))))) n (hx S M1 N)
        rw [stp_t h, if_pos (show nI (cnt, (-5 : Int32)).1 = x from e)]
        have a := inn_k (A := A) (i := i) e c (j + 1) ((cnt, (-5 : Int32)).1 + 1, nI (10 * i + j)) (by show cnt < cnt + 1; omega) (by show cnt + 1 + c < 1000; omega)
        have b := otn_k (A := A) e co (i + 1) (inn A x i c (j + 1) ((cnt, (-5 : Int32)).1 + 1, nI (10 * i + j))) (by have : cnt + 1 ≤ _ := a.2.1; omega) (by have : _ ≤ cnt + 1 + c := a.2.2; omega) hco
        unfold fnC
        rw [if_neg (by rw [← e]; exact nI_m1 (by omega)), b, a.1]
      · obtain ⟨M2, h2, h3⟩ := ih (j + 1) (cnt + 1) M1 (by omega) (by omega) (by omega) hM1
        refine ⟨M2, h2, fun S d n Q => ?_⟩
        rw [pre, h]
        simp only [↓s101_62, ↓s101_65, ↓s101_66, ↓s101_67, ct_s, ct_n, ↓bI_01, bI_eq0, bI_eq1, nI_10, nI_01, dec_f, dec_t, if_n, eq_self, true_or, or_true, if_true, if_false, reduceIte, Bool.true_eq_false]
        rw [if_neg e]
        simp only [↓s101_78, ↓s101_81, ↓s101_84, nI_add, ct_s, ct_n, ↓bI_01, bI_eq0, bI_eq1, nI_10, nI_01, dec_f, dec_t, if_n, eq_self, true_or, or_true, if_true, if_false, reduceIte]
        show _ = Q (some (.int (fnC x (otn A x co (i + 1) (inn A x i c (j + 1) (stp A x i j (cnt, -5))))))) n (hx S M2 N)
        rw [stp_t h, if_neg (show ¬ nI (cnt, (-5 : Int32)).1 = x from e)]
        exact h3 S d n Q
theorem l101 (hC0 : RC M0 21 A) (hW : WF A) : ∀ (c i : Nat), i + c = ndA A → ∀ (cnt : Nat) (M : ax_M), cnt + 8 * c < 1000 → sc M0 M → ∀ y, ∃ M2, sc M0 M2 ∧ ∀ (S : ax_S) (d n : Nat) (Q : Option Value → Nat → ax_H → Prop), ax_W (d + 6) 101 18 [.ref 20, .int x, .int (nI cnt), .int (nI i), y] [] n (hx S M N) Q = Q (some (.int (fnC x (otn A x c i (cnt, -5))))) n (hx S M2 N) := by
  have n8 := hW.1.2
  intro c
  induction c with
  | zero =>
    intro i hi cnt M hb hM y
    have hC := RC_sc hM hC0
    refine ⟨M, hM, fun S d n Q => ?_⟩
    simp only [↓s101_18, ↓s101_19, ↓s101_20, ↓s101_23, ↓s101_26, ↓s101_29, jc_20, gf_20_0, gf_20_1, gf_20_2, gf_20_3, gf_20_4, gf_20_5, gf_20_6, gf_20_7, gf_20_8, gf_20_9, gf_20_10, gf_20_11, ok_20_11, gf_20_12, ok_20_12, gf_20_13, ok_20_13, gf_20_14, ok_20_14, gf_20_15, ok_20_15, jc_21, gf_21_0, gf_21_1, gf_21_2, gf_21_3, gf_21_4, gf_21_5, ok_21_5, gf_21_6, ok_21_6, jc_22, gf_22_0, gf_22_1, gf_22_2, gf_22_3, ok_22_3, ↓c53 h22, (rc_nd hC hW).1, ct_s, ct_n, ↓bI_01, bI_eq0, bI_eq1, nI_10, nI_01, dec_f, dec_t, if_n, eq_self, true_or, or_true, if_true, if_false, reduceIte]
    rw [if_pos (nI_le (a := ndA A) (b := i) (by omega) (by omega))]
    simp only [↓s101_93, ↓s101_94, ↓s101_95, ct_s, ct_n, ↓bI_01, bI_eq0, bI_eq1, nI_10, nI_01, dec_f, dec_t, if_n, eq_self, true_or, or_true, if_true, if_false, reduceIte]
    show _ = Q (some (.int (if x = -1 then nI cnt else -5))) n (hx S M N)
    by_cases e : x = -1
    · rw [if_pos e, if_pos e]
      simp only [↓s101_98, ↓s101_99, ↓s101_102, ↓s101_104, ct_s, ct_n, ↓bI_01, bI_eq0, bI_eq1, nI_10, nI_01, dec_f, dec_t, if_n, eq_self, true_or, or_true, if_true, if_false, reduceIte]
    · rw [if_neg e, if_neg e]
      simp only [↓s101_102, ↓s101_104, ct_s, ct_n, ↓bI_01, bI_eq0, bI_eq1, nI_10, nI_01, dec_f, dec_t, if_n, eq_self, true_or, or_true, if_true, if_false, reduceIte]
  | succ c ih =>
    intro i hi cnt M hb hM y
    have hC := RC_sc hM hC0
    obtain ⟨M2, h2, h3⟩ := l101i (N := N) (x := x) hC0 hW (i := i) (co := c) (by omega) (by omega) (fun cnt M h1 h2 y => ih (i + 1) (by omega) cnt M h1 h2 y) c (i + 1) cnt M (by omega) (by omega) (by omega) hM
    refine ⟨M2, h2, fun S d n Q => ?_⟩
    simp only [↓s101_18, ↓s101_19, ↓s101_20, ↓s101_23, ↓s101_26, ↓s101_29, jc_20, gf_20_0, gf_20_1, gf_20_2, gf_20_3, gf_20_4, gf_20_5, gf_20_6, gf_20_7, gf_20_8, gf_20_9, gf_20_10, gf_20_11, ok_20_11, gf_20_12, ok_20_12, gf_20_13, ok_20_13, gf_20_14, ok_20_14, gf_20_15, ok_20_15, jc_21, gf_21_0, gf_21_1, gf_21_2, gf_21_3, gf_21_4, gf_21_5, ok_21_5, gf_21_6, ok_21_6, jc_22, gf_22_0, gf_22_1, gf_22_2, gf_22_3, ok_22_3, ↓c53 h22, (rc_nd hC hW).1, ct_s, ct_n, ↓bI_01, bI_eq0, bI_eq1, nI_10, nI_01, dec_f, dec_t, if_n, eq_self, true_or, or_true, if_true, if_false, reduceIte]
    rw [if_neg (nI_ge (a := i) (b := ndA A) (by omega) (by omega))]
    simp only [↓s101_32, ↓s101_33, ↓s101_34, ↓s101_35, nI_add, ct_s, ct_n, ↓bI_01, bI_eq0, bI_eq1, nI_10, nI_01, dec_f, dec_t, if_n, eq_self, true_or, or_true, if_true, if_false, reduceIte]
    exact h3 S d n Q
end Cancel
