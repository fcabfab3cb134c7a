/-! ===== a text: read into the draft ===== -/
def prs (B : Nat → Nat) (t : Nat) : Nat → Nat → Nat → ax_A0 → pR
  | 0, _, _, A => (false, t, A)
  | c + 1, m, i, A => if tkK B t i = 0 then (true, m, A) else if (itm B t i A).1 = true then prs B t c (m + 1) (itm B t i A).2.1 (itm B t i A).2.2 else (false, (itm B t i A).2.1, A)
def rdP (B : Nat → Nat) (t : Nat) (A : ax_A0) : pR := if (itf B t 0 A).1 = true then prs B t t 1 (itf B t 0 A).2.1 (itf B t 0 A).2.2 else (false, (itf B t 0 A).2.1, A)
def anR (r : pR) : Int32 := if r.1 = true then nI r.2.1 else -10 - nI r.2.1
theorem ft (h : false = true) : False := by cases h
section Reader
variable {M : ax_M} {N : ax_L} {t i : Nat} {B : Nat → Nat} {A : ax_A0}
theorem psn_s {e : Nat} (he : e ≤ t) {len : Nat} (hk : tkK B t (psn B t e len) = 3) : e < psn B t e (len + 1) ∧ psn B t e (len + 1) ≤ t := by
  have h1 := psn_bd (B := B) he len
  have h2 := psn_ge (B := B) he len
  have h3 := tkP_bd (B := B) h1
  have h4 := tkE_bd (B := B) h1
  have h5 : tkP B t (psn B t e len) < t := by
    rcases Nat.lt_or_ge (tkP B t (psn B t e len)) t with q | q
    · exact q
    · unfold tkK at hk
      rw [if_neg (by omega)] at hk
      omega
  show e < tkE B t (psn B t e len) ∧ tkE B t (psn B t e len) ≤ t
  have := h4.2.2 h5
  omega
theorem itC_ok (hi : i ≤ t) (h : (itC B t i A).1 = true) : (i < (itC B t i A).2.1 ∧ (itC B t i A).2.1 ≤ t) ∧ WF (itC B t i A).2.2 := by
  have hE := tkE_bd (B := B) hi
  have hP := tkP_bd (B := B) hi
  unfold itC at h ⊢
  cases e : nmK B t loC hiC 1 (tkE B t i) with
  | false => rw [e, if_neg (by decide)] at h; cases h
  | true =>
    rw [if_pos rfl]
    have hk := (of_decide_eq_true e).2
    have := psn_s (B := B) hE.2.1 hk
    have v := nm_v e 0 (by omega)
    have w : hiC 0 = 9 := rfl
    refine ⟨?_, beg_wf (k := nmV B t (tkE B t i) 0) (by omega) (fun j _ => rfl)⟩
    show i < psn B t (tkE B t i) (1 + 1) ∧ psn B t (tkE B t i) (1 + 1) ≤ t
    omega
theorem itD_ok (hi : i ≤ t) (hW : WF A) (h : (itD B t i A).1 = true) : (i < (itD B t i A).2.1 ∧ (itD B t i A).2.1 ≤ t) ∧ WF (itD B t i A).2.2 := by
  have hE := tkE_bd (B := B) hi
  have hP := tkP_bd (B := B) hi
  have n8 := hW.1.2
  unfold itD at h ⊢
  by_cases h8 : ndA A = 8
  · rw [if_pos h8] at h; cases h
  · rw [if_neg h8] at h ⊢
    cases e : nmK B t loD hiD 5 (tkE B t i) with
    | false => rw [e, if_neg (by decide)] at h; cases h
    | true =>
      rw [if_pos rfl]
      have hk := (of_decide_eq_true e).2
      have := psn_s (B := B) hE.2.1 hk
      have vb := nm_v e
      have v0 := vb 0 (by omega)
      have v1 := vb 1 (by omega)
      have v2 := vb 2 (by omega)
      have v3 := vb 3 (by omega)
      have v4 := vb 4 (by omega)
      have w0 : loD 0 = 0 ∧ hiD 0 = 5 ∧ loD 1 = 0 ∧ hiD 1 = 4 ∧ loD 2 = 1 ∧ hiD 2 = 9 ∧ loD 3 = 0 ∧ hiD 3 = 9 ∧ loD 4 = 0 ∧ hiD 4 = 2 := by decide
      refine ⟨?_, dshA_wf hW (by omega) (by omega) (by omega) (by omega) (by omega) (by omega) (by omega)⟩
      show i < psn B t (tkE B t i) (5 + 1) ∧ psn B t (tkE B t i) (5 + 1) ≤ t
      omega
theorem itB_ok {g : Int32} (hg : g = nI 1 ∨ g = -1) (hi : i ≤ t) (hW : WF A) (h : (itB B t i g A).1 = true) : (i < (itB B t i g A).2.1 ∧ (itB B t i g A).2.1 ≤ t) ∧ WF (itB B t i g A).2.2 := by
  have hE := tkE_bd (B := B) hi
  have hP := tkP_bd (B := B) hi
  unfold itB at h ⊢
  cases e : nmK B t loF hiF 3 (tkE B t i) with
  | false => rw [e, if_neg (by decide)] at h; cases h
  | true =>
    rw [if_pos rfl]
    have hk := (of_decide_eq_true e).2
    have := psn_s (B := B) hE.2.1 hk
    have vb := nm_v e
    have v0 := vb 0 (by omega)
    have v1 := vb 1 (by omega)
    have v2 := vb 2 (by omega)
    have w0 : hiF 0 = 4 ∧ hiF 1 = 4 ∧ hiF 2 = 3 := by decide
    have gb : -3 ≤ (g * nI (nmV B t (tkE B t i) 2)).toInt ∧ (g * nI (nmV B t (tkE B t i) 2)).toInt ≤ 3 := by
      rw [iI_nat]
      rcases hg with rfl | rfl
      · rw [iI_nat 1, iI_mul, iI_int (by omega) (by omega)]; omega
      · rw [iI_m1, iI_mul, iI_int (by omega) (by omega)]; omega
    refine ⟨?_, upB_wf hW (by omega) (by omega) gb.1 gb.2⟩
    show i < psn B t (tkE B t i) (3 + 1) ∧ psn B t (tkE B t i) (3 + 1) ≤ t
    omega
theorem itm_ok (hi : i ≤ t) (hW : WF A) (h : (itm B t i A).1 = true) : (i < (itm B t i A).2.1 ∧ (itm B t i A).2.1 ≤ t) ∧ WF (itm B t i A).2.2 := by
  unfold itm at h ⊢
  cases e1 : wdB B t i 1 with
  | true => rw [e1, if_pos rfl] at h; rw [if_pos rfl]; exact itD_ok hi hW h
  | false =>
    rw [e1, if_neg (by decide)] at h
    rw [if_neg (by decide)]
    cases e2 : wdB B t i 2 with
    | true => rw [e2, if_pos rfl] at h; rw [if_pos rfl]; exact itB_ok (Or.inl rfl) hi hW h
    | false =>
      rw [e2, if_neg (by decide)] at h
      rw [if_neg (by decide)]
      cases e3 : wdB B t i 3 with
      | true => rw [e3, if_pos rfl] at h; rw [if_pos rfl]; exact itB_ok (Or.inr rfl) hi hW h
      | false => rw [e3, if_neg (by decide)] at h; cases h
theorem itf_ok (hi : i ≤ t) (h : (itf B t i A).1 = true) : (i < (itf B t i A).2.1 ∧ (itf B t i A).2.1 ≤ t) ∧ WF (itf B t i A).2.2 := by
  unfold itf at h ⊢
  cases e1 : wdB B t i 0 with
  | true => rw [e1, if_pos rfl] at h; rw [if_pos rfl]; exact itC_ok hi h
  | false => rw [e1, if_neg (by decide)] at h; cases h
theorem prs_ok : ∀ c m i A, i ≤ t → 1 ≤ m → WF A → (prs B t c m i A).1 = true → (1 ≤ (prs B t c m i A).2.1 ∧ (prs B t c m i A).2.1 ≤ m + c) ∧ WF (prs B t c m i A).2.2 := by
  intro c
  induction c with
  | zero => intro m i A _ _ _ h; cases h
  | succ c ih =>
    intro m i A hi hm hW h
    rw [show prs B t (c + 1) m i A = if tkK B t i = 0 then (true, m, A) else if (itm B t i A).1 = true then prs B t c (m + 1) (itm B t i A).2.1 (itm B t i A).2.2 else (false, (itm B t i A).2.1, A) from rfl] at h ⊢
    by_cases h0 : tkK B t i = 0
    · rw [if_pos h0]; exact ⟨⟨hm, Nat.le_add_right m (c + 1)⟩, hW⟩
    · rw [if_neg h0] at h ⊢
      by_cases h1 : (itm B t i A).1 = true
      · rw [if_pos h1] at h ⊢
        have ok := itm_ok hi hW h1
        have := ih (m + 1) _ _ ok.1.2 (by omega) ok.2 h
        exact ⟨by omega, this.2⟩
      · rw [if_neg h1] at h; cases h
theorem c44f (hT : TXc M B t) (hL : LC M B t i) (hi : i ≤ t) : ∃ M2, IR M M2 (itf B t i A) ∧ ∀ (S : ax_S) (d n : Nat) (Q : Option Value → Nat → ax_H → Prop), ax_W (d + 7) 44 0 [.ref 69, .ref 32, .int (nI 1)] [] n (hx S M N) Q = Q (some (.int (bI (itf B t i A).1))) n (hx S M2 N) := by
  have k49 : ∀ (S : ax_S) (d n : Nat) (Q : Option Value → Nat → ax_H → Prop), ax_W (d + 5) 49 0 [.ref 69, .ref 7, ax_dm] [] n (hx S M N) Q = Q (some (.int (bI (wdB B t i 0)))) n (hx S M N) := fun S d n Q => c49 (s := 0) hT hi (by omega) hL
  have i7 : ∀ {S : ax_S}, isC (hx S M N) 69 5 = true := jc_69
  unfold itf
  cases e : wdB B t i 0 with
  | false =>
    rw [e] at k49
    rw [if_neg (by decide)]
    refine ⟨M, IR_f hL.2.1 (fun _ _ _ => rfl), fun S d n Q => ?_⟩
    simp only [↓s44_0, ↓s44_1, ↓s44_4, ↓s44_5, ↓s44_7, ↓s44_10, jc_69, gf_69_0, gf_69_1, gf_69_2, ok_69_2, gf_69_3, ok_69_3, gf_69_4, ok_69_4, gf_69_5, ok_69_5, ↓k49, ct_s, ct_n, ↓bI_01, bI_eq0, bI_eq1, nI_10, nI_01, dec_f, dec_t, if_n, eq_self, true_or, or_true, if_true, if_false, reduceIte]
    simp only [↓s44_25, ↓s44_26, ct_s, ct_n, ↓bI_01, bI_eq0, bI_eq1, nI_10, nI_01, dec_f, dec_t, if_n, eq_self, true_or, or_true, if_true, if_false, reduceIte]
    rfl
  | true =>
    rw [e] at k49
    rw [if_pos rfl]
    obtain ⟨M2, r, g⟩ := c45 (N := N) (A := A) hT hL.1 hi
    refine ⟨M2, r, fun S d n Q => ?_⟩
    simp only [↓s44_0, ↓s44_1, ↓s44_4, ↓s44_5, ↓s44_7, ↓s44_10, jc_69, gf_69_0, gf_69_1, gf_69_2, ok_69_2, gf_69_3, ok_69_3, gf_69_4, ok_69_4, gf_69_5, ok_69_5, ↓k49, ct_s, ct_n, ↓bI_01, bI_eq0, bI_eq1, nI_10, nI_01, dec_f, dec_t, if_n, eq_self, true_or, or_true, if_true, if_false, reduceIte, Bool.true_eq_false]
    simp only [↓s44_13, ↓s44_14, ↓s44_15, ↓s44_18, jc_69, gf_69_0, gf_69_1, gf_69_2, ok_69_2, gf_69_3, ok_69_3, gf_69_4, ok_69_4, gf_69_5, ok_69_5, ↓g, ct_s, ct_n, ↓bI_01, bI_eq0, bI_eq1, nI_10, nI_01, dec_f, dec_t, if_n, eq_self, true_or, or_true, if_true, if_false, reduceIte]
    cases (itC B t i A).1 with
    | true => simp only [↓s44_21, ↓s44_22, ↓s44_25, ↓s44_26, ct_s, ct_n, ↓bI_01, bI_eq0, bI_eq1, nI_10, nI_01, dec_f, dec_t, if_n, eq_self, true_or, or_true, if_true, if_false, reduceIte, Bool.true_eq_false]; rfl
    | false => simp only [↓s44_25, ↓s44_26, ct_s, ct_n, ↓bI_01, bI_eq0, bI_eq1, nI_10, nI_01, dec_f, dec_t, if_n, eq_self, true_or, or_true, if_true, if_false, reduceIte]; rfl
theorem c44m (hT : TXc M B t) (hL : LC M B t i) (hi : i ≤ t) (hC : RC M 32 A) (hW : WF A) : ∃ M2, IR M M2 (itm B t i A) ∧ ∀ (S : ax_S) (d n : Nat) (Q : Option Value → Nat → ax_H → Prop), ax_W (d + 7) 44 0 [.ref 69, .ref 32, .int (nI 0)] [] n (hx S M N) Q = Q (some (.int (bI (itm B t i A).1))) n (hx S M2 N) := by
  have k1 : ∀ (S : ax_S) (d n : Nat) (Q : Option Value → Nat → ax_H → Prop), ax_W (d + 5) 49 0 [.ref 69, .ref 8, ax_dm] [] n (hx S M N) Q = Q (some (.int (bI (wdB B t i 1)))) n (hx S M N) := fun S d n Q => c49 (s := 1) hT hi (by omega) hL
  have k2 : ∀ (S : ax_S) (d n : Nat) (Q : Option Value → Nat → ax_H → Prop), ax_W (d + 5) 49 0 [.ref 69, .ref 9, ax_dm] [] n (hx S M N) Q = Q (some (.int (bI (wdB B t i 2)))) n (hx S M N) := fun S d n Q => c49 (s := 2) hT hi (by omega) hL
  have k3 : ∀ (S : ax_S) (d n : Nat) (Q : Option Value → Nat → ax_H → Prop), ax_W (d + 5) 49 0 [.ref 69, .ref 10, ax_dm] [] n (hx S M N) Q = Q (some (.int (bI (wdB B t i 3)))) n (hx S M N) := fun S d n Q => c49 (s := 3) hT hi (by omega) hL
  unfold itm
  cases e1 : wdB B t i 1 with
  | true =>
    rw [e1] at k1
    rw [if_pos rfl]
    obtain ⟨M2, r, g⟩ := c46 (N := N) hT hL.1 hL.2.1 hi hC hW
    refine ⟨M2, r, fun S d n Q => ?_⟩
    simp only [↓s44_0, ↓s44_1, ↓s44_27, ↓s44_28, ↓s44_30, ↓s44_33, jc_69, gf_69_0, gf_69_1, gf_69_2, ok_69_2, gf_69_3, ok_69_3, gf_69_4, ok_69_4, gf_69_5, ok_69_5, ↓k1, ct_s, ct_n, ↓bI_01, bI_eq0, bI_eq1, nI_10, nI_01, dec_f, dec_t, if_n, eq_self, true_or, or_true, if_true, if_false, reduceIte, Bool.true_eq_false]
    simp only [↓s44_36, ↓s44_37, ↓s44_38, ↓s44_41, jc_69, gf_69_0, gf_69_1, gf_69_2, ok_69_2, gf_69_3, ok_69_3, gf_69_4, ok_69_4, gf_69_5, ok_69_5, ↓g, ct_s, ct_n, ↓bI_01, bI_eq0, bI_eq1, nI_10, nI_01, dec_f, dec_t, if_n, eq_self, true_or, or_true, if_true, if_false, reduceIte]
  | false =>
    rw [e1] at k1
    rw [if_neg (by decide)]
    cases e2 : wdB B t i 2 with
    | true =>
      rw [e2] at k2
      rw [if_pos rfl]
      obtain ⟨M2, r, g⟩ := c47 (N := N) (g := nI 1) hT hL.1 hi hC hW
      refine ⟨M2, r, fun S d n Q => ?_⟩
      simp only [↓s44_0, ↓s44_1, ↓s44_27, ↓s44_28, ↓s44_30, ↓s44_33, ↓s44_42, ↓s44_43, ↓s44_45, ↓s44_48, jc_69, gf_69_0, gf_69_1, gf_69_2, ok_69_2, gf_69_3, ok_69_3, gf_69_4, ok_69_4, gf_69_5, ok_69_5, ↓k1, ↓k2, ct_s, ct_n, ↓bI_01, bI_eq0, bI_eq1, nI_10, nI_01, dec_f, dec_t, if_n, eq_self, true_or, or_true, if_true, if_false, reduceIte, Bool.true_eq_false]
      simp only [↓s44_51, ↓s44_52, ↓s44_53, ↓s44_54, ↓s44_57, jc_69, gf_69_0, gf_69_1, gf_69_2, ok_69_2, gf_69_3, ok_69_3, gf_69_4, ok_69_4, gf_69_5, ok_69_5, ↓g, ct_s, ct_n, ↓bI_01, bI_eq0, bI_eq1, nI_10, nI_01, dec_f, dec_t, if_n, eq_self, true_or, or_true, if_true, if_false, reduceIte]
    | false =>
      rw [e2] at k2
      rw [if_neg (by decide)]
      cases e3 : wdB B t i 3 with
      | true =>
        rw [e3] at k3
        rw [if_pos rfl]
        obtain ⟨M2, r, g⟩ := c47 (N := N) (g := -1) hT hL.1 hi hC hW
        refine ⟨M2, r, fun S d n Q => ?_⟩
        simp only [↓s44_0, ↓s44_1, ↓s44_27, ↓s44_28, ↓s44_30, ↓s44_33, ↓s44_42, ↓s44_43, ↓s44_45, ↓s44_48, ↓s44_58, ↓s44_59, ↓s44_61, ↓s44_64, jc_69, gf_69_0, gf_69_1, gf_69_2, ok_69_2, gf_69_3, ok_69_3, gf_69_4, ok_69_4, gf_69_5, ok_69_5, ↓k1, ↓k2, ↓k3, ct_s, ct_n, ↓bI_01, bI_eq0, bI_eq1, nI_10, nI_01, dec_f, dec_t, if_n, eq_self, true_or, or_true, if_true, if_false, reduceIte, Bool.true_eq_false]
        simp only [↓s44_67, ↓s44_68, ↓s44_69, ↓s44_70, ↓s44_73, jc_69, gf_69_0, gf_69_1, gf_69_2, ok_69_2, gf_69_3, ok_69_3, gf_69_4, ok_69_4, gf_69_5, ok_69_5, ↓g, ct_s, ct_n, ↓bI_01, bI_eq0, bI_eq1, nI_10, nI_01, dec_f, dec_t, if_n, eq_self, true_or, or_true, if_true, if_false, reduceIte]
        cases (itB B t i (-1) A).1 with
        | true => simp only [↓s44_76, ↓s44_77, ↓s44_80, ↓s44_81, ct_s, ct_n, ↓bI_01, bI_eq0, bI_eq1, nI_10, nI_01, dec_f, dec_t, if_n, eq_self, true_or, or_true, if_true, if_false, reduceIte, Bool.true_eq_false]; rfl
        | false => simp only [↓s44_80, ↓s44_81, ct_s, ct_n, ↓bI_01, bI_eq0, bI_eq1, nI_10, nI_01, dec_f, dec_t, if_n, eq_self, true_or, or_true, if_true, if_false, reduceIte]; rfl
      | false =>
        rw [e3] at k3
        rw [if_neg (by decide)]
        refine ⟨M, IR_f hL.2.1 (fun _ _ _ => rfl), fun S d n Q => ?_⟩
        simp only [↓s44_0, ↓s44_1, ↓s44_27, ↓s44_28, ↓s44_30, ↓s44_33, ↓s44_42, ↓s44_43, ↓s44_45, ↓s44_48, ↓s44_58, ↓s44_59, ↓s44_61, ↓s44_64, jc_69, gf_69_0, gf_69_1, gf_69_2, ok_69_2, gf_69_3, ok_69_3, gf_69_4, ok_69_4, gf_69_5, ok_69_5, ↓k1, ↓k2, ↓k3, ct_s, ct_n, ↓bI_01, bI_eq0, bI_eq1, nI_10, nI_01, dec_f, dec_t, if_n, eq_self, true_or, or_true, if_true, if_false, reduceIte]
        simp only [↓s44_80, ↓s44_81, ct_s, ct_n, ↓bI_01, bI_eq0, bI_eq1, nI_10, nI_01, dec_f, dec_t, if_n, eq_self, true_or, or_true, if_true, if_false, reduceIte]
        rfl
theorem DO_rf : DO M M := fun _ _ _ => rfl
theorem DO_tr {M1 M2 : ax_M} (h1 : DO M M1) (h2 : DO M1 M2) : DO M M2 := fun a q1 q2 => (h2 a q1 q2).trans (h1 a q1 q2)
theorem DO_69 {M1 : ax_M} (h : ∀ a, a ≠ 69 → M1 a = M a) : DO M M1 := fun a _ q2 => h a (by omega)
theorem TXc_do {M1 : ax_M} (h : DO M M1) (hT : TXc M B t) : TXc M1 B t := TXc_eq (h 67 (by omega) (by omega)) (h 68 (by omega) (by omega)) hT
theorem l43 : ∀ c m i A M, m + c = t + 1 → 1 ≤ m → i ≤ t → TXc M B t → M 69 2 = nI i → RC M 32 A → WF A → ∃ M2, (((prs B t c m i A).1 = true → RC M2 32 (prs B t c m i A).2.2) ∧ DO M M2) ∧ ∀ (S : ax_S) (d n : Nat) (Q : Option Value → Nat → ax_H → Prop), ax_W (d + 8) 43 7 [.ref 69, .ref 32, .int (nI m)] [] n (hx S M N) Q = Q (some (.int (anR (prs B t c m i A)))) n (hx S M2 N) := by
  intro c
  induction c with
  | zero =>
    intro m i A M hm h1 hi hT h2 hC hW
    have t1 := hT.2.1
    refine ⟨M, ⟨fun q => (ft q).elim, DO_rf⟩, fun S d n Q => ?_⟩
    simp only [↓s43_7, ↓s43_8, ↓s43_9, ↓s43_12, ↓s43_15, jc_69, gf_69_0, gf_69_1, gf_69_2, ok_69_2, gf_69_3, ok_69_3, gf_69_4, ok_69_4, gf_69_5, ok_69_5, jc_67, gf_67_0, gf_67_1, gf_67_2, gf_67_3, ok_67_3, ↓c53 h67, hT.1, ct_s, ct_n, ↓bI_01, bI_eq0, bI_eq1, nI_10, nI_01, dec_f, dec_t, if_n, eq_self, true_or, or_true, if_true, if_false, reduceIte]
    rw [if_pos (nI_lt (a := t) (b := m) (by omega) (by omega))]
    simp only [↓s43_66, ↓s43_68, ↓s43_69, ↓s43_72, ↓s43_75, ↓s43_76, jc_69, gf_69_0, gf_69_1, gf_69_2, ok_69_2, gf_69_3, ok_69_3, gf_69_4, ok_69_4, gf_69_5, ok_69_5, jc_67, gf_67_0, gf_67_1, gf_67_2, gf_67_3, ok_67_3, ↓c53 h67, hT.1, ct_s, ct_n, ↓bI_01, bI_eq0, bI_eq1, nI_10, nI_01, dec_f, dec_t, if_n, eq_self, true_or, or_true, if_true, if_false, reduceIte]
    rfl
  | succ c ih =>
    intro m i A M hm h1 hi hT h2 hC hW
    have t1 := hT.2.1
    have kb := tkK_bd (B := B) (t := t) (i := i)
    obtain ⟨M1, ⟨hL, o1⟩, g1⟩ := c50 (N := N) hT h2 hi
    have d1 : DO M M1 := DO_69 o1
    have hT1 := TXc_do d1 hT
    have hC1 : RC M1 32 A := RC_keepc (fun a _ _ => o1 a (by omega)) hC
    have pre : ∀ (S : ax_S) (d n : Nat) (Q : Option Value → Nat → ax_H → Prop), ax_W (d + 8) 43 7 [.ref 69, .ref 32, .int (nI m)] [] n (hx S M N) Q = ax_W (d + 8) 43 22 [.ref 69, .ref 32, .int (nI m)] [] n (hx S M1 N) Q := by
      intro S d n Q
      simp only [↓s43_7, ↓s43_8, ↓s43_9, ↓s43_12, ↓s43_15, jc_69, gf_69_0, gf_69_1, gf_69_2, ok_69_2, gf_69_3, ok_69_3, gf_69_4, ok_69_4, gf_69_5, ok_69_5, jc_67, gf_67_0, gf_67_1, gf_67_2, gf_67_3, ok_67_3, ↓c53 h67, hT.1, ct_s, ct_n, ↓bI_01, bI_eq0, bI_eq1, nI_10, nI_01, dec_f, dec_t, if_n, eq_self, true_or, or_true, if_true, if_false, reduceIte]
      rw [if_neg (nI_nlt (a := t) (b := m) (by omega) (by omega))]
      simp only [↓s43_18, ↓s43_19, jc_69, gf_69_0, gf_69_1, gf_69_2, ok_69_2, gf_69_3, ok_69_3, gf_69_4, ok_69_4, gf_69_5, ok_69_5, ↓g1, ct_s, ct_n, ↓bI_01, bI_eq0, bI_eq1, nI_10, nI_01, dec_f, dec_t, if_n, eq_self, true_or, or_true, if_true, if_false, reduceIte]
    rw [show prs B t (c + 1) m i A = if tkK B t i = 0 then (true, m, A) else if (itm B t i A).1 = true then prs B t c (m + 1) (itm B t i A).2.1 (itm B t i A).2.2 else (false, (itm B t i A).2.1, A) from rfl]
    by_cases h0 : tkK B t i = 0
    · rw [if_pos h0]
      refine ⟨M1, ⟨fun _ => hC1, d1⟩, fun S d n Q => ?_⟩
      rw [pre]
      simp only [↓s43_22, ↓s43_23, ↓s43_26, jc_69, gf_69_0, gf_69_1, gf_69_2, ok_69_2, gf_69_3, ok_69_3, gf_69_4, ok_69_4, gf_69_5, ok_69_5, hL.2.2.1, h0, ct_s, ct_n, ↓bI_01, bI_eq0, bI_eq1, nI_10, nI_01, dec_f, dec_t, if_n, eq_self, true_or, or_true, if_true, if_false, reduceIte]
      simp only [↓s43_29, ↓s43_30, ct_s, ct_n, ↓bI_01, bI_eq0, bI_eq1, nI_10, nI_01, dec_f, dec_t, if_n, eq_self, true_or, or_true, if_true, if_false, reduceIte]
      rw [if_neg (nI_ge (a := 0) (b := m) (by omega) (by omega))]
      simp only [↓s43_33, ↓s43_34, ct_s, ct_n, ↓bI_01, bI_eq0, bI_eq1, nI_10, nI_01, dec_f, dec_t, if_n, eq_self, true_or, or_true, if_true, if_false, reduceIte]
      rfl
    · rw [if_neg h0]
      obtain ⟨M2, r, g2⟩ := c44m (N := N) hT1 hL hi hC1 hW
      have d2 : DO M M2 := DO_tr d1 r.2.2
      have pre2 : ∀ (S : ax_S) (d n : Nat) (Q : Option Value → Nat → ax_H → Prop), ax_W (d + 8) 43 7 [.ref 69, .ref 32, .int (nI m)] [] n (hx S M N) Q = ax_W (d + 8) 43 49 [.ref 69, .ref 32, .int (nI m)] [.int (bI (itm B t i A).1)] n (hx S M2 N) Q := by
        intro S d n Q
        rw [pre]
        simp only [↓s43_22, ↓s43_23, ↓s43_26, jc_69, gf_69_0, gf_69_1, gf_69_2, ok_69_2, gf_69_3, ok_69_3, gf_69_4, ok_69_4, gf_69_5, ok_69_5, hL.2.2.1, ct_s, ct_n, ↓bI_01, bI_eq0, bI_eq1, nI_10, nI_01, dec_f, dec_t, if_n, eq_self, true_or, or_true, if_true, if_false, reduceIte]
        rw [if_neg (fun q => h0 ((nI_eq (a := tkK B t i) (b := 0) (by omega) (by omega)).mp q))]
        simp only [↓s43_35, ↓s43_36, ↓s43_37, ↓s43_38, ct_s, ct_n, ↓bI_01, bI_eq0, bI_eq1, nI_10, nI_01, dec_f, dec_t, if_n, eq_self, true_or, or_true, if_true, if_false, reduceIte]
        rw [if_neg (fun q => by have := (nI_eq (a := m) (b := 0) (by omega) (by omega)).mp q; omega)]
        simp only [↓s43_45, ↓s43_46, jc_69, gf_69_0, gf_69_1, gf_69_2, ok_69_2, gf_69_3, ok_69_3, gf_69_4, ok_69_4, gf_69_5, ok_69_5, ↓g2, ct_s, ct_n, ↓bI_01, bI_eq0, bI_eq1, nI_10, nI_01, dec_f, dec_t, if_n, eq_self, true_or, or_true, if_true, if_false, reduceIte]
      by_cases h3 : (itm B t i A).1 = true
      · rw [if_pos h3]
        have ok := itm_ok hi hW h3
        obtain ⟨q1, q2⟩ := r.1 h3
        obtain ⟨M3, ⟨f1, f2⟩, g3⟩ := ih (m + 1) _ _ M2 (by omega) (by omega) ok.1.2 (TXc_do d2 hT) q1 q2 ok.2
        refine ⟨M3, ⟨f1, DO_tr d2 f2⟩, fun S d n Q => ?_⟩
        rw [pre2, h3]
        simp only [↓s43_49, ↓s43_60, ↓s43_63, nI_add, ct_s, ct_n, ↓bI_01, bI_eq0, bI_eq1, nI_10, nI_01, dec_f, dec_t, if_n, eq_self, true_or, or_true, if_true, if_false, reduceIte, Bool.true_eq_false]
        exact g3 S d n Q
      · rw [if_neg h3]
        have h3' : (itm B t i A).1 = false := by
          cases e : (itm B t i A).1 with
          | true => exact absurd e h3
          | false => rfl
        refine ⟨M2, ⟨fun q => (ft q).elim, d2⟩, fun S d n Q => ?_⟩
        rw [pre2, h3']
        simp only [↓s43_49, ↓s43_52, ↓s43_54, ↓s43_55, ↓s43_58, ↓s43_59, jc_69, gf_69_0, gf_69_1, gf_69_2, ok_69_2, gf_69_3, ok_69_3, gf_69_4, ok_69_4, gf_69_5, ok_69_5, r.2.1 h3', ct_s, ct_n, ↓bI_01, bI_eq0, bI_eq1, nI_10, nI_01, dec_f, dec_t, if_n, eq_self, true_or, or_true, if_true, if_false, reduceIte]
        rfl
theorem c43 (hT : TXc M B t) : ∃ M2, (((rdP B t A).1 = true → RC M2 32 (rdP B t A).2.2) ∧ DO M M2) ∧ ∀ (S : ax_S) (d n : Nat) (Q : Option Value → Nat → ax_H → Prop), ax_W (d + 8) 43 0 [.ref 69, .ref 32, ax_dm] [] n (hx S M N) Q = Q (some (.int (anR (rdP B t A)))) n (hx S M2 N) := by
  have t1 := hT.2.1
  obtain ⟨M0, hM0⟩ : ∃ M0, M0 = ux M 69 2 (nI 0) := ⟨_, rfl⟩
  have d0 : DO M M0 := DO_69 (fun a ha => by rw [hM0, ux_f ha])
  have hT0 := TXc_do d0 hT
  obtain ⟨M1, ⟨hL, o1⟩, g1⟩ := c50 (N := N) (i := 0) hT0 (by rw [hM0, ux_s]) (Nat.zero_le t)
  have d1 : DO M M1 := DO_tr d0 (DO_69 o1)
  have hT1 := TXc_do d1 hT
  obtain ⟨M2, r, g2⟩ := c44f (N := N) (A := A) hT1 hL (Nat.zero_le t)
  have d2 : DO M M2 := DO_tr d1 r.2.2
  have pre2 : ∀ (S : ax_S) (d n : Nat) (Q : Option Value → Nat → ax_H → Prop), ax_W (d + 8) 43 0 [.ref 69, .ref 32, ax_dm] [] n (hx S M N) Q = ax_W (d + 8) 43 49 [.ref 69, .ref 32, .int (nI 0)] [.int (bI (itf B t 0 A).1)] n (hx S M2 N) Q := by
    intro S d n Q
    simp only [↓s43_0, ↓s43_1, ↓s43_2, ↓s43_5, ↓s43_6, ↓s43_7, ↓s43_8, ↓s43_9, ↓s43_12, ↓s43_15, jc_69, gf_69_0, gf_69_1, gf_69_2, ok_69_2, gf_69_3, ok_69_3, gf_69_4, ok_69_4, gf_69_5, ok_69_5, jc_67, gf_67_0, gf_67_1, gf_67_2, gf_67_3, ok_67_3, ← hM0, ↓c53 h67, hT0.1, ct_s, ct_n, ↓bI_01, bI_eq0, bI_eq1, nI_10, nI_01, dec_f, dec_t, if_n, eq_self, true_or, or_true, if_true, if_false, reduceIte]
    rw [if_neg (nI_nlt (a := t) (b := 0) (by omega) (by omega))]
    simp only [↓s43_18, ↓s43_19, ↓s43_22, ↓s43_23, ↓s43_26, jc_69, gf_69_0, gf_69_1, gf_69_2, ok_69_2, gf_69_3, ok_69_3, gf_69_4, ok_69_4, gf_69_5, ok_69_5, ↓g1, hL.2.2.1, ct_s, ct_n, ↓bI_01, bI_eq0, bI_eq1, nI_10, nI_01, dec_f, dec_t, if_n, eq_self, true_or, or_true, if_true, if_false, reduceIte]
    have fin : ax_W (d + 8) 43 35 [.ref 69, .ref 32, .int (nI 0)] [] n (hx S M1 N) Q = ax_W (d + 8) 43 49 [.ref 69, .ref 32, .int (nI 0)] [.int (bI (itf B t 0 A).1)] n (hx S M2 N) Q := by
      simp only [↓s43_35, ↓s43_36, ↓s43_37, ↓s43_38, ↓s43_41, ↓s43_42, ↓s43_45, ↓s43_46, jc_69, gf_69_0, gf_69_1, gf_69_2, ok_69_2, gf_69_3, ok_69_3, gf_69_4, ok_69_4, gf_69_5, ok_69_5, ↓g2, ct_s, ct_n, ↓bI_01, bI_eq0, bI_eq1, nI_10, nI_01, dec_f, dec_t, if_n, eq_self, true_or, or_true, if_true, if_false, reduceIte]
    by_cases h0 : nI (tkK B t 0) = nI 0
    · rw [if_pos h0]
      simp only [↓s43_29, ↓s43_30, show nI 0 ≤ nI 0 by decide, ct_s, ct_n, ↓bI_01, bI_eq0, bI_eq1, nI_10, nI_01, dec_f, dec_t, if_n, eq_self, true_or, or_true, if_true, if_false, reduceIte]
      exact fin
    · rw [if_neg h0]
      exact fin
  unfold rdP
  by_cases h3 : (itf B t 0 A).1 = true
  · rw [if_pos h3]
    have ok := itf_ok (Nat.zero_le t) h3
    obtain ⟨q1, q2⟩ := r.1 h3
    obtain ⟨M3, ⟨f1, f2⟩, g3⟩ := l43 (N := N) t 1 _ _ M2 (by omega) (by omega) ok.1.2 (TXc_do d2 hT) q1 q2 ok.2
    refine ⟨M3, ⟨f1, DO_tr d2 f2⟩, fun S d n Q => ?_⟩
    rw [pre2, h3]
    simp only [↓s43_49, ↓s43_60, ↓s43_63, nI_add, ct_s, ct_n, ↓bI_01, bI_eq0, bI_eq1, nI_10, nI_01, dec_f, dec_t, if_n, eq_self, true_or, or_true, if_true, if_false, reduceIte, Bool.true_eq_false]
    exact g3 S d n Q
  · rw [if_neg h3]
    have h3' : (itf B t 0 A).1 = false := by
      cases e : (itf B t 0 A).1 with
      | true => exact absurd e h3
      | false => rfl
    refine ⟨M2, ⟨fun q => (ft q).elim, d2⟩, fun S d n Q => ?_⟩
    rw [pre2, h3']
    simp only [↓s43_49, ↓s43_52, ↓s43_54, ↓s43_55, ↓s43_58, ↓s43_59, jc_69, gf_69_0, gf_69_1, gf_69_2, ok_69_2, gf_69_3, ok_69_3, gf_69_4, ok_69_4, gf_69_5, ok_69_5, r.2.1 h3', ct_s, ct_n, ↓bI_01, bI_eq0, bI_eq1, nI_10, nI_01, dec_f, dec_t, if_n, eq_self, true_or, or_true, if_true, if_false, reduceIte]
    rfl
end Reader
