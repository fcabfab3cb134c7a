/-! ===== a text: the reference reads ===== -/
def RG (M M2 : ax_M) : Prop := (∀ a, a ≠ 84 → a ≠ 100 → a ≠ 101 → M2 a = M a) ∧ ∀ j, ¬ (25 ≤ j ∧ j ≤ 28) → M2 84 j = M 84 j
def itG (B : Nat → Nat) (t : Nat) (lo hi : Nat → Nat) (len e : Nat) (A A2 : ax_A0) : pR := if nmK B t lo hi len e = true then (true, psn B t e (len + 1), A2) else (false, tkP B t (psn B t e (nmQ B t lo hi len e)), A)
/-- b: what the reference's item says, ahead of the stop -/
def JR (B : Nat → Nat) (t : Nat) (M2 : ax_M) (b : Bool) (r : pR) : Prop := (b = true ∧ ∃ p, p ≤ t ∧ LM M2 B t p ∧ ((tkK B t p = 3 ∧ r.1 = true ∧ r.2.1 = tkE B t p ∧ ∀ j, j < 181 → M2 100 j = r.2.2 j) ∨ (tkK B t p ≠ 3 ∧ r.1 = false ∧ r.2.1 = tkP B t p))) ∨ (b = false ∧ r.1 = false ∧ M2 84 25 = nI r.2.1)
def NS (M : ax_M) (B : Nat → Nat) (t : Nat) (lo hi : Nat → Nat) (e j : Nat) : Prop := LM M B t (psn B t e j) ∧ (∀ l, l < j → tok B t (lo l) (hi l) (psn B t e l) = true) ∧ ∀ l, l < j → M 101 l = nI (nmV B t e l)
section RefRead
variable {M M1 M2 M3 : ax_M} {N : ax_L} {t i : Nat} {B : Nat → Nat} {A A2 : ax_A0} {lo hi : Nat → Nat} {len e j : Nat}
theorem RG_rf : RG M M := ⟨fun _ _ _ _ => rfl, fun _ _ => rfl⟩
theorem RG_tr (h1 : RG M M1) (h2 : RG M1 M2) : RG M M2 := ⟨fun a q1 q2 q3 => (h2.1 a q1 q2 q3).trans (h1.1 a q1 q2 q3), fun j q => (h2.2 j q).trans (h1.2 j q)⟩
theorem RG_f (h : RF M M2) : RG M M2 := ⟨fun a q _ _ => h.1 a q, h.2⟩
theorem TXm_rg (h : RG M M2) (hT : TXm M B t) : TXm M2 B t := TXm_eq (h.2 24 (by omega)) (h.1 99 (by decide) (by decide) (by decide)) hT
theorem tkM_n (h : tkK B t i ≠ 2) : tkM B t i = tkK B t i := by unfold tkM; rw [if_neg (fun q => h q.1)]
theorem tkM_y (h : tkK B t i = 2) : tkM B t i = 2 ∨ tkM B t i = 4 := by
  unfold tkM
  split
  · exact Or.inr rfl
  · exact Or.inl h
theorem tkM_bd : tkM B t i ≤ 4 := by
  have := tkK_bd (B := B) (t := t) (i := i)
  by_cases h : tkK B t i = 2
  · rcases tkM_y h with q | q <;> omega
  · rw [tkM_n h]; exact this
theorem tkM_1 {k : Nat} (hk : k = 0 ∨ k = 1 ∨ k = 3) : tkM B t i = k ↔ tkK B t i = k := by
  by_cases h : tkK B t i = 2
  · rcases tkM_y h with q | q <;> omega
  · rw [tkM_n h]
theorem tv_bdm (hT : TXm M B t) (hi : i ≤ t) : -100000 ≤ tvA B t i ∧ tvA B t i ≤ 100000 := by
  have t1 := hT.2.1
  have he := tkE_bd (B := B) hi
  unfold tvA tvZ
  split
  · have := (hT.2.2 (tkP B t i) (by omega)).2; omega
  · split
    · have := (hT.2.2 (tkP B t i) (by omega)).2
      have := (hT.2.2 (tkP B t i + 1) (by omega)).2
      omega
    · omega
theorem ldF_at {f : Nat → Bool} : ∀ c j0, (∀ l, j0 ≤ l → l < j → f l = true) → f j = false → j0 ≤ j → j < j0 + c → ldF f c j0 = j := by
  intro c
  induction c with
  | zero => intro j0 _ _ h1 h2; omega
  | succ c ih =>
    intro j0 hl hj h1 h2
    show (if f j0 = true then ldF f c (j0 + 1) else j0) = j
    by_cases z : j0 = j
    · rw [z, if_neg (by rw [hj]; decide)]
    · rw [if_pos (hl j0 (Nat.le_refl _) (by omega))]
      exact ih (j0 + 1) (fun l q1 q2 => hl l (by omega) q2) hj (by omega) (by omega)
theorem ldF_all {f : Nat → Bool} : ∀ c j0, (∀ l, j0 ≤ l → l < j0 + c → f l = true) → ldF f c j0 = j0 + c := by
  intro c
  induction c with
  | zero => intro j0 _; rfl
  | succ c ih =>
    intro j0 hl
    show (if f j0 = true then ldF f c (j0 + 1) else j0) = j0 + (c + 1)
    rw [if_pos (hl j0 (Nat.le_refl _) (by omega)), ih (j0 + 1) (fun l q1 q2 => hl l (by omega) (by omega))]
    omega
theorem JG_f (hall : ∀ l, l < j → tok B t (lo l) (hi l) (psn B t e l) = true) (hf : tok B t (lo j) (hi j) (psn B t e j) = false) (hj : j < len) (h25 : M2 84 25 = nI (tkP B t (psn B t e j))) : JR B t M2 false (itG B t lo hi len e A A2) := by
  have q : nmQ B t lo hi len e = j := ldF_at len 0 (fun l _ h => hall l h) hf (Nat.zero_le j) (by omega)
  have k : nmK B t lo hi len e = false := decide_eq_false (fun z => by omega)
  refine Or.inr ⟨rfl, ?_⟩
  unfold itG
  rw [k, if_neg (by decide), q]
  exact ⟨rfl, h25⟩
theorem JG_t (he : e ≤ t) (hall : ∀ l, l < len → tok B t (lo l) (hi l) (psn B t e l) = true) (hL : LM M2 B t (psn B t e len)) (hA : ∀ j, j < 181 → M2 100 j = A2 j) : JR B t M2 true (itG B t lo hi len e A A2) := by
  have q : nmQ B t lo hi len e = len := by
    have := ldF_all (f := fun j => tok B t (lo j) (hi j) (psn B t e j)) len 0 (fun l _ h => hall l (by omega))
    unfold nmQ
    rw [this]
    omega
  refine Or.inl ⟨rfl, psn B t e len, psn_bd he len, hL, ?_⟩
  unfold itG
  by_cases k3 : tkK B t (psn B t e len) = 3
  · have k : nmK B t lo hi len e = true := decide_eq_true ⟨q, k3⟩
    rw [k, if_pos rfl]
    exact Or.inl ⟨k3, rfl, rfl, hA⟩
  · have k : nmK B t lo hi len e = false := decide_eq_false (fun z => k3 z.2)
    rw [k, if_neg (by decide), q]
    exact Or.inr ⟨k3, rfl, rfl⟩
theorem c202 (hT : TXm M B t) (hi : i ≤ t) (hL : LM M B t i) : ∃ M2, (LM M2 B t (tkE B t i) ∧ RF M M2) ∧ ∀ (S : ax_S) (d n : Nat) (Q : Option Value → Nat → ax_H → Prop), ax_W (d + 3) 202 0 [.ref 84] [] n (hx S M N) Q = Q none n (hx S M2 N) := by
  have he := tkE_bd (B := B) hi
  obtain ⟨M2, f, g⟩ := c201 (N := N) hT he.2.1
  refine ⟨M2, f, fun S d n Q => ?_⟩
  simp only [↓s202_0, ↓s202_1, ↓s202_2, ↓s202_5, ↓s202_6, ↓s202_9, ↓s202_10, jc_84, gf_84_0, gf_84_1, gf_84_2, gf_84_3, gf_84_4, ok_84_4, gf_84_5, ok_84_5, gf_84_6, ok_84_6, gf_84_7, ok_84_7, gf_84_8, ok_84_8, gf_84_9, ok_84_9, gf_84_10, gf_84_11, gf_84_12, gf_84_13, gf_84_14, gf_84_15, gf_84_16, gf_84_17, ok_84_17, gf_84_18, gf_84_19, ok_84_19, gf_84_20, ok_84_20, gf_84_21, gf_84_22, gf_84_23, gf_84_24, ok_84_24, gf_84_25, ok_84_25, gf_84_26, ok_84_26, gf_84_27, ok_84_27, gf_84_28, ok_84_28, gf_84_29, gf_84_30, hL.1, hL.2.1, nI_add, show tkP B t i + (tkE B t i - tkP B t i) = tkE B t i by omega, ↓g, ct_s, ct_n, ↓bI_01, bI_eq0, bI_eq1, nI_10, nI_01, dec_f, dec_t, if_n, eq_self, true_or, or_true, if_true, if_false, reduceIte]
  simp only [↓s202_13, ct_s, ct_n, ↓bI_01, bI_eq0, bI_eq1, nI_10, nI_01, dec_f, dec_t, if_n, eq_self, true_or, or_true, if_true, if_false, reduceIte]
theorem l203 {s : Nat} (hT : TXm M B t) (hi : i ≤ t) (hs : s < 4) (hL : LM M B t i) (hk : tkK B t i = 1) (hl : tkE B t i - tkP B t i = wl s) {d n : Nat} {S : ax_S} {Q : Option Value → Nat → ax_H → Prop} : ∀ c j, j + c = wl s → (∀ l, l < j → B (tkP B t i + l) = wch s l) → ax_W d 203 26 [.ref 84, .int (nI (wl s)), .int (nI (wch s 0)), .int (nI (wch s 1)), .int (nI (wch s 2)), .int (nI (wch s 3)), .int (nI (wch s 4)), .int (nI 1), .int (nI j)] [] n (hx S M N) Q = Q (some (.int (bI (wdB B t i s)))) n (hx S M N) := by
  have t1 := hT.2.1
  have w5 := wl_bd (s := s)
  have he := tkE_bd (B := B) hi
  have l5 := hL.1
  intro c
  induction c with
  | zero =>
    intro j hj hm
    have e : wdB B t i s = true := decide_eq_true ⟨hk, hl, fun l h => hm l (by omega)⟩
    rw [e]
    simp only [↓s203_26, ↓s203_28, ↓s203_29, ct_s, ct_n, ↓bI_01, bI_eq0, bI_eq1, nI_10, nI_01, dec_f, dec_t, if_n, eq_self, true_or, or_true, if_true, if_false, reduceIte]
    rw [if_pos (nI_le (a := wl s) (b := j) (by omega) (by omega))]
    simp only [↓s203_108, ↓s203_110, ct_s, ct_n, ↓bI_01, bI_eq0, bI_eq1, nI_10, nI_01, dec_f, dec_t, if_n, eq_self, true_or, or_true, if_true, if_false, reduceIte]
    rfl
  | succ c ih =>
    intro j hj hm
    have b1 := (hT.2.2 (tkP B t i + j) (by omega)).2
    have b2 := wch_bd s hs j (by omega)
    have step : ax_W d 203 26 [.ref 84, .int (nI (wl s)), .int (nI (wch s 0)), .int (nI (wch s 1)), .int (nI (wch s 2)), .int (nI (wch s 3)), .int (nI (wch s 4)), .int (nI 1), .int (nI j)] [] n (hx S M N) Q = ax_W d 203 92 [.ref 84, .int (nI (wl s)), .int (nI (wch s 0)), .int (nI (wch s 1)), .int (nI (wch s 2)), .int (nI (wch s 3)), .int (nI (wch s 4)), .int (nI 1), .int (nI j)] [.int (nI (wch s j)), .int (nI (B (tkP B t i + j)))] n (hx S M N) Q := by
      simp only [↓s203_26, ↓s203_28, ↓s203_29, ct_s, ct_n, ↓bI_01, bI_eq0, bI_eq1, nI_10, nI_01, dec_f, dec_t, if_n, eq_self, true_or, or_true, if_true, if_false, reduceIte]
      rw [if_neg (nI_ge (a := j) (b := wl s) (by omega) (by omega))]
      simp only [↓s203_32, ↓s203_34, ↓s203_37, ↓s203_38, ↓s203_41, ↓s203_42, ↓s203_45, ↓s203_47, ↓s203_48, ↓s203_49, jc_84, gf_84_0, gf_84_1, gf_84_2, gf_84_3, gf_84_4, ok_84_4, gf_84_5, ok_84_5, gf_84_6, ok_84_6, gf_84_7, ok_84_7, gf_84_8, ok_84_8, gf_84_9, ok_84_9, gf_84_10, gf_84_11, gf_84_12, gf_84_13, gf_84_14, gf_84_15, gf_84_16, gf_84_17, ok_84_17, gf_84_18, gf_84_19, ok_84_19, gf_84_20, ok_84_20, gf_84_21, gf_84_22, gf_84_23, gf_84_24, ok_84_24, gf_84_25, ok_84_25, gf_84_26, ok_84_26, gf_84_27, ok_84_27, gf_84_28, ok_84_28, gf_84_29, gf_84_30, l5, nI_add, al99 hT (show tkP B t i + j < t by omega), ct_s, ct_n, ↓bI_01, bI_eq0, bI_eq1, nI_10, nI_01, dec_f, dec_t, if_n, eq_self, true_or, or_true, if_true, if_false, reduceIte]
      rcases (show j = 0 ∨ j = 1 ∨ j = 2 ∨ j = 3 ∨ j = 4 by omega) with rfl | rfl | rfl | rfl | rfl
      · simp only [↓s203_51, ↓s203_54, ↓s203_55, ct_s, ct_n, ↓bI_01, bI_eq0, bI_eq1, nI_10, nI_01, dec_f, dec_t, if_n, eq_self, true_or, or_true, if_true, if_false, reduceIte]
      · simp only [↓s203_51, ↓s203_58, ↓s203_60, ↓s203_61, ↓s203_64, ↓s203_65, ct_s, ct_n, ↓bI_01, bI_eq0, bI_eq1, nI_10, nI_01, dec_f, dec_t, if_n, eq_self, true_or, or_true, if_true, if_false, reduceIte]
      · simp only [↓s203_51, ↓s203_58, ↓s203_60, ↓s203_61, ↓s203_68, ↓s203_70, ↓s203_71, ↓s203_74, ↓s203_76, show ¬ nI 2 = nI 0 by decide, show ¬ nI 2 = nI 1 by decide, ct_s, ct_n, ↓bI_01, bI_eq0, bI_eq1, nI_10, nI_01, dec_f, dec_t, if_n, eq_self, true_or, or_true, if_true, if_false, reduceIte]
      · simp only [↓s203_51, ↓s203_58, ↓s203_60, ↓s203_61, ↓s203_68, ↓s203_70, ↓s203_71, ↓s203_79, ↓s203_81, ↓s203_82, ↓s203_85, ↓s203_87, show ¬ nI 3 = nI 0 by decide, show ¬ nI 3 = nI 1 by decide, show ¬ nI 3 = nI 2 by decide, ct_s, ct_n, ↓bI_01, bI_eq0, bI_eq1, nI_10, nI_01, dec_f, dec_t, if_n, eq_self, true_or, or_true, if_true, if_false, reduceIte]
      · simp only [↓s203_51, ↓s203_58, ↓s203_60, ↓s203_61, ↓s203_68, ↓s203_70, ↓s203_71, ↓s203_79, ↓s203_81, ↓s203_82, ↓s203_90, show ¬ nI 4 = nI 0 by decide, show ¬ nI 4 = nI 1 by decide, show ¬ nI 4 = nI 2 by decide, show ¬ nI 4 = nI 3 by decide, ct_s, ct_n, ↓bI_01, bI_eq0, bI_eq1, nI_10, nI_01, dec_f, dec_t, if_n, eq_self, true_or, or_true, if_true, if_false, reduceIte]
    rw [step]
    by_cases hb : B (tkP B t i + j) = wch s j
    · rw [hb]
      simp only [↓s203_92, ↓s203_95, ↓s203_96, ↓s203_99, ↓s203_100, ↓s203_102, ↓s203_105, nI_add, ct_s, ct_n, ↓bI_01, bI_eq0, bI_eq1, nI_10, nI_01, dec_f, dec_t, if_n, eq_self, true_or, or_true, if_true, if_false, reduceIte]
      exact ih (j + 1) (by omega) (fun l hl2 => by
        by_cases z : l = j
        · rw [z]; exact hb
        · exact hm l (by omega))
    · have e : wdB B t i s = false := decide_eq_false (fun q => hb (q.2.2 j (by omega)))
      rw [e]
      simp only [↓s203_92, ct_s, ct_n, ↓bI_01, bI_eq0, bI_eq1, nI_10, nI_01, dec_f, dec_t, if_n, eq_self, true_or, or_true, if_true, if_false, reduceIte]
      rw [if_neg (fun q => hb ((nI_eq (a := B (tkP B t i + j)) (b := wch s j) (by omega) (by omega)).mp q))]
      simp only [↓s203_99, ↓s203_100, ↓s203_102, ↓s203_105, nI_add, ct_s, ct_n, ↓bI_01, bI_eq0, bI_eq1, nI_10, nI_01, dec_f, dec_t, if_n, eq_self, true_or, or_true, if_true, if_false, reduceIte]
      simp only [↓s203_26, ↓s203_28, ↓s203_29, ct_s, ct_n, ↓bI_01, bI_eq0, bI_eq1, nI_10, nI_01, dec_f, dec_t, if_n, eq_self, true_or, or_true, if_true, if_false, reduceIte]
      by_cases z : wl s ≤ j + 1
      · rw [if_pos (nI_le z (by omega))]
        simp only [↓s203_108, ↓s203_110, ct_s, ct_n, ↓bI_01, bI_eq0, bI_eq1, nI_10, nI_01, dec_f, dec_t, if_n, eq_self, true_or, or_true, if_true, if_false, reduceIte]
        rfl
      · rw [if_neg (nI_ge (a := j + 1) (b := wl s) (by omega) (by omega))]
        simp only [↓s203_32, ↓s203_34, ↓s203_108, ↓s203_110, ct_s, ct_n, ↓bI_01, bI_eq0, bI_eq1, nI_10, nI_01, dec_f, dec_t, if_n, eq_self, true_or, or_true, if_true, if_false, reduceIte]
        rfl
theorem c203 {s : Nat} (hT : TXm M B t) (hi : i ≤ t) (hs : s < 4) (hL : LM M B t i) {d n : Nat} {S : ax_S} {Q : Option Value → Nat → ax_H → Prop} : ax_W d 203 0 [.ref 84, .int (nI (wl s)), .int (nI (wch s 0)), .int (nI (wch s 1)), .int (nI (wch s 2)), .int (nI (wch s 3)), .int (nI (wch s 4)), ax_dm, ax_dm] [] n (hx S M N) Q = Q (some (.int (bI (wdB B t i s)))) n (hx S M N) := by
  have t1 := hT.2.1
  have w5 := wl_bd (s := s)
  have w4 : 0 < wl s := by unfold wl; split <;> omega
  have he := tkE_bd (B := B) hi
  have mb := tkM_bd (B := B) (t := t) (i := i)
  obtain ⟨l1, l2, l3, l4⟩ := hL
  have bad : wdB B t i s = false → ax_W d 203 20 [.ref 84, .int (nI (wl s)), .int (nI (wch s 0)), .int (nI (wch s 1)), .int (nI (wch s 2)), .int (nI (wch s 3)), .int (nI (wch s 4)), ax_dm, ax_dm] [] n (hx S M N) Q = Q (some (.int (bI (wdB B t i s)))) n (hx S M N) := by
    intro e
    rw [e]
    simp only [↓s203_20, ↓s203_21, ↓s203_23, ↓s203_24, ↓s203_26, ↓s203_28, ↓s203_29, ct_s, ct_n, ↓bI_01, bI_eq0, bI_eq1, nI_10, nI_01, dec_f, dec_t, if_n, eq_self, true_or, or_true, if_true, if_false, reduceIte]
    rw [if_neg (nI_ge (a := 0) (b := wl s) w4 (by omega))]
    simp only [↓s203_32, ↓s203_34, ↓s203_108, ↓s203_110, ct_s, ct_n, ↓bI_01, bI_eq0, bI_eq1, nI_10, nI_01, dec_f, dec_t, if_n, eq_self, true_or, or_true, if_true, if_false, reduceIte]
    rfl
  simp only [↓s203_0, ↓s203_1, ↓s203_4, ↓s203_5, jc_84, gf_84_0, gf_84_1, gf_84_2, gf_84_3, gf_84_4, ok_84_4, gf_84_5, ok_84_5, gf_84_6, ok_84_6, gf_84_7, ok_84_7, gf_84_8, ok_84_8, gf_84_9, ok_84_9, gf_84_10, gf_84_11, gf_84_12, gf_84_13, gf_84_14, gf_84_15, gf_84_16, gf_84_17, ok_84_17, gf_84_18, gf_84_19, ok_84_19, gf_84_20, ok_84_20, gf_84_21, gf_84_22, gf_84_23, gf_84_24, ok_84_24, gf_84_25, ok_84_25, gf_84_26, ok_84_26, gf_84_27, ok_84_27, gf_84_28, ok_84_28, gf_84_29, gf_84_30, l3, ct_s, ct_n, ↓bI_01, bI_eq0, bI_eq1, nI_10, nI_01, dec_f, dec_t, if_n, eq_self, true_or, or_true, if_true, if_false, reduceIte]
  by_cases hk : tkK B t i = 1
  · rw [if_pos (by rw [(tkM_1 (by omega)).mpr hk])]
    simp only [↓s203_8, ↓s203_9, ↓s203_12, ↓s203_13, jc_84, gf_84_0, gf_84_1, gf_84_2, gf_84_3, gf_84_4, ok_84_4, gf_84_5, ok_84_5, gf_84_6, ok_84_6, gf_84_7, ok_84_7, gf_84_8, ok_84_8, gf_84_9, ok_84_9, gf_84_10, gf_84_11, gf_84_12, gf_84_13, gf_84_14, gf_84_15, gf_84_16, gf_84_17, ok_84_17, gf_84_18, gf_84_19, ok_84_19, gf_84_20, ok_84_20, gf_84_21, gf_84_22, gf_84_23, gf_84_24, ok_84_24, gf_84_25, ok_84_25, gf_84_26, ok_84_26, gf_84_27, ok_84_27, gf_84_28, ok_84_28, gf_84_29, gf_84_30, l2, ct_s, ct_n, ↓bI_01, bI_eq0, bI_eq1, nI_10, nI_01, dec_f, dec_t, if_n, eq_self, true_or, or_true, if_true, if_false, reduceIte]
    by_cases hl : tkE B t i - tkP B t i = wl s
    · rw [if_pos (by rw [hl])]
      simp only [↓s203_16, ↓s203_17, ↓s203_20, ↓s203_21, ↓s203_23, ↓s203_24, ct_s, ct_n, ↓bI_01, bI_eq0, bI_eq1, nI_10, nI_01, dec_f, dec_t, if_n, eq_self, true_or, or_true, if_true, if_false, reduceIte]
      exact l203 hT hi hs ⟨l1, l2, l3, l4⟩ hk hl (wl s) 0 (by omega) (fun l h => absurd h (Nat.not_lt_zero l))
    · rw [if_neg (fun q => hl ((nI_eq (a := tkE B t i - tkP B t i) (b := wl s) (by omega) (by omega)).mp q))]
      exact bad (decide_eq_false (fun q => hl q.2.1))
  · rw [if_neg (fun q => hk ((tkM_1 (by omega)).mp ((nI_eq (a := tkM B t i) (b := 1) (by omega) (by omega)).mp q)))]
    exact bad (decide_eq_false (fun q => hk q.1))
theorem c204 {k : Nat} (hT : TXm M B t) (he : e ≤ t) (hS : NS M B t lo hi e k) (hk : k < 5) (h9 : lo k ≤ 9 ∧ hi k ≤ 9) : ∃ M2, ((tok B t (lo k) (hi k) (psn B t e k) = true → NS M2 B t lo hi e (k + 1)) ∧ (tok B t (lo k) (hi k) (psn B t e k) = false → M2 = M) ∧ RG M M2 ∧ M2 100 = M 100) ∧ ∀ (S : ax_S) (d n : Nat) (Q : Option Value → Nat → ax_H → Prop), ax_W (d + 4) 204 0 [.ref 84, .int (nI k), .int (nI (lo k)), .int (nI (hi k))] [] n (hx S M N) Q = Q (some (.int (bI (tok B t (lo k) (hi k) (psn B t e k))))) n (hx S M2 N) := by
  obtain ⟨⟨l1, l2, l3, l4⟩, n2, n3⟩ := hS
  have p1 := psn_bd (B := B) he k
  have hE := tkE_bd (B := B) p1
  have tb := tv_bdm hT p1
  have mb := tkM_bd (B := B) (t := t) (i := psn B t e k)
  by_cases m2 : tkM B t (psn B t e k) = 2
  · have k2 : tkK B t (psn B t e k) = 2 := by
      by_cases z : tkK B t (psn B t e k) = 2
      · exact z
      · rw [tkM_n z] at m2; exact m2
    have v5 := l4 m2
    have et : decide (nI (lo k) ≤ iI (tvA B t (psn B t e k)) ∧ iI (tvA B t (psn B t e k)) ≤ nI (hi k)) = tok B t (lo k) (hi k) (psn B t e k) := decide_eq_decide.mpr (by
      rw [iI_nat (lo k), iI_nat (hi k), iI_le (by omega) (by omega) (by omega) (by omega), iI_le (by omega) (by omega) (by omega) (by omega)]
      exact ⟨fun q => ⟨k2, q⟩, fun q => q.2⟩)
    have pre : ∀ (S : ax_S) (d n : Nat) (Q : Option Value → Nat → ax_H → Prop), ax_W (d + 4) 204 0 [.ref 84, .int (nI k), .int (nI (lo k)), .int (nI (hi k))] [] n (hx S M N) Q = ax_W (d + 4) 204 20 [.ref 84, .int (nI k), .int (nI (lo k)), .int (nI (hi k))] [.int (bI (tok B t (lo k) (hi k) (psn B t e k)))] n (hx S M N) Q := by
      intro S d n Q
      simp only [↓s204_0, ↓s204_1, ↓s204_4, ↓s204_5, ↓s204_8, ↓s204_9, ↓s204_12, ↓s204_13, ↓s204_14, ↓s204_15, ↓s204_16, ↓s204_17, jc_84, gf_84_0, gf_84_1, gf_84_2, gf_84_3, gf_84_4, ok_84_4, gf_84_5, ok_84_5, gf_84_6, ok_84_6, gf_84_7, ok_84_7, gf_84_8, ok_84_8, gf_84_9, ok_84_9, gf_84_10, gf_84_11, gf_84_12, gf_84_13, gf_84_14, gf_84_15, gf_84_16, gf_84_17, ok_84_17, gf_84_18, gf_84_19, ok_84_19, gf_84_20, ok_84_20, gf_84_21, gf_84_22, gf_84_23, gf_84_24, ok_84_24, gf_84_25, ok_84_25, gf_84_26, ok_84_26, gf_84_27, ok_84_27, gf_84_28, ok_84_28, gf_84_29, gf_84_30, l3, m2, v5, ↓c135 (l := nI (lo k)) (m := nI (hi k)) rfl rfl, et, ct_s, ct_n, ↓bI_01, bI_eq0, bI_eq1, nI_10, nI_01, dec_f, dec_t, if_n, eq_self, true_or, or_true, if_true, if_false, reduceIte]
    cases ok : tok B t (lo k) (hi k) (psn B t e k) with
    | false =>
      rw [ok] at pre
      refine ⟨M, ⟨fun q => (ft q).elim, fun _ => rfl, RG_rf, rfl⟩, fun S d n Q => ?_⟩
      rw [pre]
      simp only [↓s204_20, ↓s204_23, ↓s204_24, ct_s, ct_n, ↓bI_01, bI_eq0, bI_eq1, nI_10, nI_01, dec_f, dec_t, if_n, eq_self, true_or, or_true, if_true, if_false, reduceIte]
      rfl
    | true =>
      rw [ok] at pre
      obtain ⟨o1, o2, o3, o4⟩ := tok_v ok
      have v6 : M 84 28 = nI (nmV B t e k) := by rw [v5, iI_nat]; exact congrArg iI o2
      obtain ⟨M1, hM1⟩ : ∃ M1, M1 = ux M 101 k (nI (nmV B t e k)) := ⟨_, rfl⟩
      have o : ∀ a, a ≠ 101 → M1 a = M a := fun a ha => by rw [hM1, ux_f ha]
      have hL1 : LM M1 B t (psn B t e k) := by
        unfold LM
        rw [o 84 (by decide)]
        exact ⟨l1, l2, l3, l4⟩
      have r1 : RG M M1 := ⟨fun a _ _ h => o a h, fun j _ => by rw [o 84 (by decide)]⟩
      obtain ⟨M2, ⟨f1, f2⟩, g⟩ := c202 (N := N) (TXm_rg r1 hT) p1 hL1
      refine ⟨M2, ⟨fun _ => ⟨f1, fun l hl => ?_, fun l hl => ?_⟩, fun q => (ft q.symm).elim, RG_tr r1 (RG_f f2), ?_⟩, fun S d n Q => ?_⟩
      · by_cases z : l = k
        · rw [z]; exact ok
        · exact n2 l (by omega)
      · rw [f2.1 101 (by decide)]
        by_cases z : l = k
        · rw [z, hM1, ux_s]
        · rw [hM1, ux_j z]; exact n3 l (by omega)
      · rw [f2.1 100 (by decide), o 100 (by decide)]
      · rw [pre]
        simp only [↓s204_20, ↓s204_23, ↓s204_24, ↓s204_25, ↓s204_26, ↓s204_29, ↓s204_30, ↓s204_31, ↓s204_34, jc_84, gf_84_0, gf_84_1, gf_84_2, gf_84_3, gf_84_4, ok_84_4, gf_84_5, ok_84_5, gf_84_6, ok_84_6, gf_84_7, ok_84_7, gf_84_8, ok_84_8, gf_84_9, ok_84_9, gf_84_10, gf_84_11, gf_84_12, gf_84_13, gf_84_14, gf_84_15, gf_84_16, gf_84_17, ok_84_17, gf_84_18, gf_84_19, ok_84_19, gf_84_20, ok_84_20, gf_84_21, gf_84_22, gf_84_23, gf_84_24, ok_84_24, gf_84_25, ok_84_25, gf_84_26, ok_84_26, gf_84_27, ok_84_27, gf_84_28, ok_84_28, gf_84_29, gf_84_30, v6, sa_101 hk, ← hM1, ct_s, ct_n, ↓bI_01, bI_eq0, bI_eq1, nI_10, nI_01, dec_f, dec_t, if_n, eq_self, true_or, or_true, if_true, if_false, reduceIte, Bool.true_eq_false]
        simp only [↓s204_35, ↓s204_36, ↓s204_39, ↓s204_40, jc_84, gf_84_0, gf_84_1, gf_84_2, gf_84_3, gf_84_4, ok_84_4, gf_84_5, ok_84_5, gf_84_6, ok_84_6, gf_84_7, ok_84_7, gf_84_8, ok_84_8, gf_84_9, ok_84_9, gf_84_10, gf_84_11, gf_84_12, gf_84_13, gf_84_14, gf_84_15, gf_84_16, gf_84_17, ok_84_17, gf_84_18, gf_84_19, ok_84_19, gf_84_20, ok_84_20, gf_84_21, gf_84_22, gf_84_23, gf_84_24, ok_84_24, gf_84_25, ok_84_25, gf_84_26, ok_84_26, gf_84_27, ok_84_27, gf_84_28, ok_84_28, gf_84_29, gf_84_30, ↓g, ct_s, ct_n, ↓bI_01, bI_eq0, bI_eq1, nI_10, nI_01, dec_f, dec_t, if_n, eq_self, true_or, or_true, if_true, if_false, reduceIte]
        rfl
  · have ok : tok B t (lo k) (hi k) (psn B t e k) = false := decide_eq_false (fun q => by
      obtain ⟨q1, q2, q3⟩ := q
      have z : 2 < tkE B t (psn B t e k) - tkP B t (psn B t e k) := by
        rcases Nat.lt_or_ge 2 (tkE B t (psn B t e k) - tkP B t (psn B t e k)) with w | w
        · exact w
        · exact absurd (by unfold tkM; rw [if_neg (fun y => by omega)]; exact q1) m2
      unfold tvA tvZ at q3
      rw [if_neg (by omega), if_neg (by omega)] at q3
      omega)
    refine ⟨M, ⟨fun q => (ft (ok.symm.trans q)).elim, fun _ => rfl, RG_rf, rfl⟩, fun S d n Q => ?_⟩
    rw [ok]
    simp only [↓s204_0, ↓s204_1, ↓s204_4, ↓s204_5, jc_84, gf_84_0, gf_84_1, gf_84_2, gf_84_3, gf_84_4, ok_84_4, gf_84_5, ok_84_5, gf_84_6, ok_84_6, gf_84_7, ok_84_7, gf_84_8, ok_84_8, gf_84_9, ok_84_9, gf_84_10, gf_84_11, gf_84_12, gf_84_13, gf_84_14, gf_84_15, gf_84_16, gf_84_17, ok_84_17, gf_84_18, gf_84_19, ok_84_19, gf_84_20, ok_84_20, gf_84_21, gf_84_22, gf_84_23, gf_84_24, ok_84_24, gf_84_25, ok_84_25, gf_84_26, ok_84_26, gf_84_27, ok_84_27, gf_84_28, ok_84_28, gf_84_29, gf_84_30, l3, ct_s, ct_n, ↓bI_01, bI_eq0, bI_eq1, nI_10, nI_01, dec_f, dec_t, if_n, eq_self, true_or, or_true, if_true, if_false, reduceIte]
    rw [if_neg (fun q => m2 ((nI_eq (a := tkM B t (psn B t e k)) (b := 2) (by omega) (by omega)).mp q))]
    simp only [↓s204_23, ↓s204_24, ct_s, ct_n, ↓bI_01, bI_eq0, bI_eq1, nI_10, nI_01, dec_f, dec_t, if_n, eq_self, true_or, or_true, if_true, if_false, reduceIte]
    rfl
/-- behind the word: no number yet -/
theorem NS_0 (h : LM M B t e) : NS M B t lo hi e 0 := ⟨h, fun l hl => absurd hl (Nat.not_lt_zero l), fun l hl => absurd hl (Nat.not_lt_zero l)⟩
end RefRead
