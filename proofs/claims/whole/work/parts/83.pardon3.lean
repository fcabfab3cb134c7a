/-! ===== pardon: the reference ===== -/
def bestR (M : ax_M) : bX → Prop
  | none => M 84 19 = -1
  | some b => M 84 19 = nI b.2.1 ∧ M 84 20 = nI b.1 ∧ b.1 ≤ 100 ∧ b.2.1 ≤ 4 ∧ ∀ j, j < b.2.1 → M 96 j = nI (b.2.2 j)
def rowR (M : ax_M) (A : ax_A0) (m : Nat) (f : Nat → Nat) : Prop := ∀ j, j < m → M 94 j = nI (f j) ∧ f j < ndA A
def bsum (A : ax_A0) (f : Nat → Nat) : Nat → Nat
  | 0 => 0
  | k + 1 => bsum A f k + buA A (f k)
/-- M2 is M but for the current evening, the best, the frames from p on -/
def chh (p : Nat) (M M2 : ax_M) : Prop := ∀ a j, ¬ (a = 84 ∧ ((6 ≤ j ∧ j ≤ 9) ∨ j = 19 ∨ j = 20)) → ¬ (90 ≤ a ∧ a ≤ 95 ∧ p ≤ j) → a ≠ 96 → M2 a j = M a j
section Pardon4
variable {M M2 M3 : ax_M} {N : ax_L} {A : ax_A0} {d n : Nat} {S : ax_S} {Q : Option Value → Nat → ax_H → Prop} {s c m k p : Nat} {f f' : Nat → Nat} {b : bX} {v : ax_V}
theorem chh_rf : chh p M M := fun _ _ _ _ _ => rfl
theorem chh_tr (h1 : chh p M M2) (h2 : chh p M2 M3) : chh p M M3 := fun a j q1 q2 q3 => (h2 a j q1 q2 q3).trans (h1 a j q1 q2 q3)
theorem chh_le {q : Nat} (h : p ≤ q) (h1 : chh q M M2) : chh p M M2 := fun a j q1 q2 q3 => h1 a j q1 (fun z => q2 ⟨z.1, z.2.1, by omega⟩) q3
theorem chh_of (h : chg p M M2) : chh p M M2 := fun a j q1 q2 _ => h a j (fun z => q1 ⟨z.1, Or.inl z.2⟩) q2
theorem chh_frm {q : Nat} (h : p < q) (hc : chh q M M2) (hf : frm M p v) : frm M2 p v := by
  unfold frm at *
  rw [hc 90 p (by omega) (by omega) (by omega), hc 91 p (by omega) (by omega) (by omega), hc 92 p (by omega) (by omega) (by omega), hc 93 p (by omega) (by omega) (by omega)]
  exact hf
theorem chh_row (hc : chh m M M2) (h : rowR M A m f) : rowR M2 A m f := fun j hj => ⟨by rw [hc 94 j (by omega) (by omega) (by omega)]; exact (h j hj).1, (h j hj).2⟩
theorem chh_85 (hc : chh m M M2) : M2 85 = M 85 := funext fun j => hc 85 j (by omega) (by omega) (by omega)
theorem bestR_eq (h19 : M2 84 19 = M 84 19) (h20 : M2 84 20 = M 84 20) (h96 : M2 96 = M 96) (h : bestR M b) : bestR M2 b := by
  cases b with
  | none => show M2 84 19 = -1; rw [h19]; exact h
  | some b =>
    obtain ⟨a1, a2, a3, a4, a5⟩ := h
    exact ⟨by rw [h19]; exact a1, by rw [h20]; exact a2, a3, a4, fun j hj => by rw [h96]; exact a5 j hj⟩
theorem chg_best (hc : chg p M M2) (h : bestR M b) : bestR M2 b := bestR_eq (hc 84 19 (by omega) (by omega)) (hc 84 20 (by omega) (by omega)) (funext fun j => hc 96 j (by omega) (by omega)) h
theorem bsum_eq : ∀ k, (∀ j, j < k → f' j = f j) → bsum A f' k = bsum A f k := by
  intro k
  induction k with
  | zero => intro _; rfl
  | succ k ih => intro h; show bsum A f' k + buA A (f' k) = bsum A f k + buA A (f k); rw [ih (fun j hj => h j (by omega)), h k (by omega)]
theorem bsum_fu : bsum A (fu f m k) (m + 1) = bsum A f m + buA A k := by
  show bsum A (fu f m k) m + buA A (fu f m k m) = _
  rw [fu_s, bsum_eq m (fun j hj => fu_n (by omega))]
theorem l180 (hA : M 85 = A) (hW : WF A) (hm : m ≤ 4) (hr : rowR M A m f) : ∀ (t k : Nat), k + t = m → ax_W (d + 1) 180 4 [.ref 84, .int (nI m), .int (nI (bsum A f k)), .int (nI k)] [] n (hx S M N) Q = Q (some (.int (nI (bsum A f m)))) n (hx S M N) := by
  have n8 := hW.1.2
  intro t
  induction t with
  | zero =>
    intro k hk
    have e : k = m := by omega
    subst e
    simp only [↓s180_4, ↓s180_5, ↓s180_6, ct_s, ct_n, ↓bI_01, bI_eq0, bI_eq1, nI_10, nI_01, dec_f, dec_t, if_n, eq_self, true_or, or_true, if_true, if_false, reduceIte]
    rw [if_pos (nI_le (a := k) (b := k) (by omega) (by omega))]
    simp only [↓s180_29, ↓s180_30, ct_s, ct_n, ↓bI_01, bI_eq0, bI_eq1, nI_10, nI_01, dec_f, dec_t, if_n, eq_self, true_or, or_true, if_true, if_false, reduceIte]
  | succ t ih =>
    intro k hk
    obtain ⟨r1, r2⟩ := hr k (by omega)
    have ih := ih (k + 1) (by omega)
    have hb := rg_butter hA hW r2
    simp only [↓s180_4, ↓s180_5, ↓s180_6, ct_s, ct_n, ↓bI_01, bI_eq0, bI_eq1, nI_10, nI_01, dec_f, dec_t, if_n, eq_self, true_or, or_true, if_true, if_false, reduceIte]
    rw [if_neg (nI_ge (a := k) (b := m) (by omega) (by omega))]
    simp only [↓s180_9, ↓s180_10, ↓s180_11, ↓s180_12, ↓s180_15, ↓s180_16, ↓s180_17, ↓s180_18, jc_84, gf_84_0, gf_84_1, gf_84_2, gf_84_3, gf_84_4, ok_84_4, gf_84_5, ok_84_5, gf_84_6, ok_84_6, gf_84_7, ok_84_7, gf_84_8, ok_84_8, gf_84_9, ok_84_9, gf_84_10, gf_84_11, gf_84_12, gf_84_13, gf_84_14, gf_84_15, gf_84_16, gf_84_17, ok_84_17, gf_84_18, gf_84_19, ok_84_19, gf_84_20, ok_84_20, gf_84_21, gf_84_22, gf_84_23, gf_84_24, ok_84_24, gf_84_25, ok_84_25, gf_84_26, ok_84_26, gf_84_27, ok_84_27, gf_84_28, ok_84_28, gf_84_29, gf_84_30, al_94 (show k < 6 by omega), r1, ↓c144 (k := f k) (w := 3) (show 6 + 5 * f k + 3 < 181 by omega), hb, ct_s, ct_n, ↓bI_01, bI_eq0, bI_eq1, nI_10, nI_01, dec_f, dec_t, if_n, eq_self, true_or, or_true, if_true, if_false, reduceIte]
    simp only [↓s180_21, ↓s180_22, ↓s180_23, ↓s180_26, nI_add, ct_s, ct_n, ↓bI_01, bI_eq0, bI_eq1, nI_10, nI_01, dec_f, dec_t, if_n, eq_self, true_or, or_true, if_true, if_false, reduceIte]
    exact ih
theorem c180 (hA : M 85 = A) (hW : WF A) (hm : m ≤ 4) (hr : rowR M A m f) : ax_W (d + 1) 180 0 [.ref 84, .int (nI m), ax_dm, ax_dm] [] n (hx S M N) Q = Q (some (.int (nI (bsum A f m)))) n (hx S M N) := by
  simp only [↓s180_0, ↓s180_1, ↓s180_2, ↓s180_3, ct_s, ct_n, ↓bI_01, bI_eq0, bI_eq1, nI_10, nI_01, dec_f, dec_t, if_n, eq_self, true_or, or_true, if_true, if_false, reduceIte]
  exact l180 hA hW hm hr m 0 (by omega)
theorem l179 (hm : m ≤ 4) (hr : ∀ j, j < m → M 94 j = nI (f j)) : ∀ (t k : Nat), k + t = m → ax_W d 179 56 [.ref 84, .int (nI m), .int (nI s), .int (nI c), .int (nI k)] [] n (hx S (cpy M 96 0 k (fun j => nI (f j))) N) Q = Q none n (hx S (cpy M 96 0 m (fun j => nI (f j))) N) := by
  intro t
  induction t with
  | zero =>
    intro k hk
    have e : k = m := by omega
    subst e
    simp only [↓s179_56, ↓s179_58, ↓s179_59, ct_s, ct_n, ↓bI_01, bI_eq0, bI_eq1, nI_10, nI_01, dec_f, dec_t, if_n, eq_self, true_or, or_true, if_true, if_false, reduceIte]
    rw [if_pos (nI_le (a := k) (b := k) (by omega) (by omega))]
    simp only [↓s179_82, ct_s, ct_n, ↓bI_01, bI_eq0, bI_eq1, nI_10, nI_01, dec_f, dec_t, if_n, eq_self, true_or, or_true, if_true, if_false, reduceIte]
  | succ t ih =>
    intro k hk
    have ih := ih (k + 1) (by omega)
    have q : cpy M 96 0 k (fun j => nI (f j)) 94 k = nI (f k) := by rw [cpy_a (by decide)]; exact hr k (by omega)
    have cs := cpy_s (M := M) (a := 96) (lo := 0) (k := k) (f := fun j => nI (f j))
    rw [Nat.zero_add] at cs
    simp only [↓s179_56, ↓s179_58, ↓s179_59, ct_s, ct_n, ↓bI_01, bI_eq0, bI_eq1, nI_10, nI_01, dec_f, dec_t, if_n, eq_self, true_or, or_true, if_true, if_false, reduceIte]
    rw [if_neg (nI_ge (a := k) (b := m) (by omega) (by omega))]
    simp only [↓s179_62, ↓s179_63, ↓s179_66, ↓s179_68, ↓s179_69, ↓s179_72, ↓s179_74, ↓s179_75, ↓s179_76, ↓s179_79, jc_84, gf_84_0, gf_84_1, gf_84_2, gf_84_3, gf_84_4, ok_84_4, gf_84_5, ok_84_5, gf_84_6, ok_84_6, gf_84_7, ok_84_7, gf_84_8, ok_84_8, gf_84_9, ok_84_9, gf_84_10, gf_84_11, gf_84_12, gf_84_13, gf_84_14, gf_84_15, gf_84_16, gf_84_17, ok_84_17, gf_84_18, gf_84_19, ok_84_19, gf_84_20, ok_84_20, gf_84_21, gf_84_22, gf_84_23, gf_84_24, ok_84_24, gf_84_25, ok_84_25, gf_84_26, ok_84_26, gf_84_27, ok_84_27, gf_84_28, ok_84_28, gf_84_29, gf_84_30, al_94 (show k < 6 by omega), q, sa_96 (show k < 4 by omega), cs, nI_add, ct_s, ct_n, ↓bI_01, bI_eq0, bI_eq1, nI_10, nI_01, dec_f, dec_t, if_n, eq_self, true_or, or_true, if_true, if_false, reduceIte]
    exact ih
theorem c179 (hcu : cur M v) (hv1 : -100000 ≤ v.2.2) (hv2 : v.2.2 ≤ 100000) (hs : s ≤ 1) (hb : bestR M b) (hm : m ≤ 4) (hc : c ≤ 100) (hr : ∀ j, j < m → M 94 j = nI (f j)) : ∃ M2, (bestR M2 (jr s v c m f b) ∧ (∀ a, a ≠ 84 → a ≠ 96 → M2 a = M a) ∧ ∀ j, j ≠ 19 → j ≠ 20 → M2 84 j = M 84 j) ∧ ∀ (S : ax_S) (d n : Nat) (Q : Option Value → Nat → ax_H → Prop), ax_W (d + 1) 179 0 [.ref 84, .int (nI m), .int (nI s), .int (nI c), ax_dm] [] n (hx S M N) Q = Q none n (hx S M2 N) := by
  have vv := vdI_i (z := v.2.2) (by omega) (by omega)
  have vb : vdZ v.2.2 ≤ 2 := by unfold vdZ; split <;> (try split) <;> omega
  have e6 := hcu.1
  by_cases hv : vdZ v.2.2 = s
  · have pre : ∀ (S : ax_S) (d n : Nat) (Q : Option Value → Nat → ax_H → Prop), ax_W (d + 1) 179 0 [.ref 84, .int (nI m), .int (nI s), .int (nI c), ax_dm] [] n (hx S M N) Q = ax_W (d + 1) 179 11 [.ref 84, .int (nI m), .int (nI s), .int (nI c), ax_dm] [] n (hx S M N) Q := by
      intro S d n Q
      simp only [↓s179_0, ↓s179_1, ↓s179_4, ↓s179_7, ↓s179_8, jc_84, gf_84_0, gf_84_1, gf_84_2, gf_84_3, gf_84_4, ok_84_4, gf_84_5, ok_84_5, gf_84_6, ok_84_6, gf_84_7, ok_84_7, gf_84_8, ok_84_8, gf_84_9, ok_84_9, gf_84_10, gf_84_11, gf_84_12, gf_84_13, gf_84_14, gf_84_15, gf_84_16, gf_84_17, ok_84_17, gf_84_18, gf_84_19, ok_84_19, gf_84_20, ok_84_20, gf_84_21, gf_84_22, gf_84_23, gf_84_24, ok_84_24, gf_84_25, ok_84_25, gf_84_26, ok_84_26, gf_84_27, ok_84_27, gf_84_28, ok_84_28, gf_84_29, gf_84_30, e6, ↓c160, vv, hv, ct_s, ct_n, ↓bI_01, bI_eq0, bI_eq1, nI_10, nI_01, dec_f, dec_t, if_n, eq_self, true_or, or_true, if_true, if_false, reduceIte]
    cases eb : btr c m b with
    | false =>
      refine ⟨M, ⟨by rw [jr_id eb]; exact hb, fun _ _ _ => rfl, fun _ _ _ => rfl⟩, fun S d n Q => ?_⟩
      rw [pre]
      cases b with
      | none => cases eb
      | some b =>
        obtain ⟨a1, a2, a3, a4, -⟩ := hb
        have nb := of_decide_eq_false eb
        simp only [↓s179_11, ↓s179_12, ↓s179_15, ↓s179_16, jc_84, gf_84_0, gf_84_1, gf_84_2, gf_84_3, gf_84_4, ok_84_4, gf_84_5, ok_84_5, gf_84_6, ok_84_6, gf_84_7, ok_84_7, gf_84_8, ok_84_8, gf_84_9, ok_84_9, gf_84_10, gf_84_11, gf_84_12, gf_84_13, gf_84_14, gf_84_15, gf_84_16, gf_84_17, ok_84_17, gf_84_18, gf_84_19, ok_84_19, gf_84_20, ok_84_20, gf_84_21, gf_84_22, gf_84_23, gf_84_24, ok_84_24, gf_84_25, ok_84_25, gf_84_26, ok_84_26, gf_84_27, ok_84_27, gf_84_28, ok_84_28, gf_84_29, gf_84_30, a1, ct_s, ct_n, ↓bI_01, bI_eq0, bI_eq1, nI_10, nI_01, dec_f, dec_t, if_n, eq_self, true_or, or_true, if_true, if_false, reduceIte]
        rw [if_neg (nI_m1 (by omega))]
        simp only [↓s179_19, ↓s179_20, ↓s179_21, ↓s179_24, jc_84, gf_84_0, gf_84_1, gf_84_2, gf_84_3, gf_84_4, ok_84_4, gf_84_5, ok_84_5, gf_84_6, ok_84_6, gf_84_7, ok_84_7, gf_84_8, ok_84_8, gf_84_9, ok_84_9, gf_84_10, gf_84_11, gf_84_12, gf_84_13, gf_84_14, gf_84_15, gf_84_16, gf_84_17, ok_84_17, gf_84_18, gf_84_19, ok_84_19, gf_84_20, ok_84_20, gf_84_21, gf_84_22, gf_84_23, gf_84_24, ok_84_24, gf_84_25, ok_84_25, gf_84_26, ok_84_26, gf_84_27, ok_84_27, gf_84_28, ok_84_28, gf_84_29, gf_84_30, a2, ct_s, ct_n, ↓bI_01, bI_eq0, bI_eq1, nI_10, nI_01, dec_f, dec_t, if_n, eq_self, true_or, or_true, if_true, if_false, reduceIte]
        rw [if_neg (nI_nlt (a := c) (b := b.1) (by omega) (by omega))]
        simp only [↓s179_27, ↓s179_28, ↓s179_29, ↓s179_32, jc_84, gf_84_0, gf_84_1, gf_84_2, gf_84_3, gf_84_4, ok_84_4, gf_84_5, ok_84_5, gf_84_6, ok_84_6, gf_84_7, ok_84_7, gf_84_8, ok_84_8, gf_84_9, ok_84_9, gf_84_10, gf_84_11, gf_84_12, gf_84_13, gf_84_14, gf_84_15, gf_84_16, gf_84_17, ok_84_17, gf_84_18, gf_84_19, ok_84_19, gf_84_20, ok_84_20, gf_84_21, gf_84_22, gf_84_23, gf_84_24, ok_84_24, gf_84_25, ok_84_25, gf_84_26, ok_84_26, gf_84_27, ok_84_27, gf_84_28, ok_84_28, gf_84_29, gf_84_30, a2, ct_s, ct_n, ↓bI_01, bI_eq0, bI_eq1, nI_10, nI_01, dec_f, dec_t, if_n, eq_self, true_or, or_true, if_true, if_false, reduceIte]
        by_cases h2 : c = b.1
        · rw [if_pos (by rw [h2])]
          simp only [↓s179_35, ↓s179_36, ↓s179_37, ↓s179_40, jc_84, gf_84_0, gf_84_1, gf_84_2, gf_84_3, gf_84_4, ok_84_4, gf_84_5, ok_84_5, gf_84_6, ok_84_6, gf_84_7, ok_84_7, gf_84_8, ok_84_8, gf_84_9, ok_84_9, gf_84_10, gf_84_11, gf_84_12, gf_84_13, gf_84_14, gf_84_15, gf_84_16, gf_84_17, ok_84_17, gf_84_18, gf_84_19, ok_84_19, gf_84_20, ok_84_20, gf_84_21, gf_84_22, gf_84_23, gf_84_24, ok_84_24, gf_84_25, ok_84_25, gf_84_26, ok_84_26, gf_84_27, ok_84_27, gf_84_28, ok_84_28, gf_84_29, gf_84_30, a1, ct_s, ct_n, ↓bI_01, bI_eq0, bI_eq1, nI_10, nI_01, dec_f, dec_t, if_n, eq_self, true_or, or_true, if_true, if_false, reduceIte]
          rw [if_pos (nI_le (a := b.2.1) (b := m) (by omega) (by omega))]
          simp only [↓s179_82, ct_s, ct_n, ↓bI_01, bI_eq0, bI_eq1, nI_10, nI_01, dec_f, dec_t, if_n, eq_self, true_or, or_true, if_true, if_false, reduceIte]
        · rw [if_neg (fun q => h2 ((nI_eq (a := c) (b := b.1) (by omega) (by omega)).mp q))]
          simp only [↓s179_82, ct_s, ct_n, ↓bI_01, bI_eq0, bI_eq1, nI_10, nI_01, dec_f, dec_t, if_n, eq_self, true_or, or_true, if_true, if_false, reduceIte]
    | true =>
      have ej : jr s v c m f b = some (c, m, f) := if_pos ⟨hv, eb⟩
      obtain ⟨M1, hM1⟩ : ∃ M1, M1 = ux (ux M 84 19 (nI m)) 84 20 (nI c) := ⟨_, rfl⟩
      have q19 : M1 84 19 = nI m := by rw [hM1, ux_j (by decide), ux_s]
      have q20 : M1 84 20 = nI c := by rw [hM1, ux_s]
      have qo : ∀ a, a ≠ 84 → M1 a = M a := fun a ha => by rw [hM1, ux_f ha, ux_f ha]
      have qj : ∀ j, j ≠ 19 → j ≠ 20 → M1 84 j = M 84 j := fun j h1 h2 => by rw [hM1, ux_j h2, ux_j h1]
      refine ⟨cpy M1 96 0 m (fun j => nI (f j)), ⟨?_, fun a h1 h2 => ?_, fun j h1 h2 => ?_⟩, fun S d n Q => ?_⟩
      · rw [ej]
        refine ⟨?_, ?_, hc, hm, fun j hj => ?_⟩
        · rw [cpy_a (by decide)]; exact q19
        · rw [cpy_a (by decide)]; exact q20
        · have := cpy_i (M := M1) (a := 96) (lo := 0) (k := m) (f := fun j => nI (f j)) (j := j) hj
          rw [Nat.zero_add] at this
          exact this
      · rw [cpy_a h2, qo a h1]
      · rw [cpy_a (by decide), qj j h1 h2]
      · rw [pre]
        have lp := l179 (d := d + 1) (n := n) (S := S) (N := N) (Q := Q) (M := M1) (s := s) (c := c) hm (f := f) (fun j hj => by rw [qo 94 (by decide)]; exact hr j hj) m 0 (by omega)
        rw [cpy_0] at lp
        have fin : ax_W (d + 1) 179 43 [.ref 84, .int (nI m), .int (nI s), .int (nI c), ax_dm] [] n (hx S M N) Q = Q none n (hx S (cpy M1 96 0 m (fun j => nI (f j))) N) := by
          simp only [↓s179_43, ↓s179_44, ↓s179_45, ↓s179_48, ↓s179_49, ↓s179_50, ↓s179_53, ↓s179_54, jc_84, gf_84_0, gf_84_1, gf_84_2, gf_84_3, gf_84_4, ok_84_4, gf_84_5, ok_84_5, gf_84_6, ok_84_6, gf_84_7, ok_84_7, gf_84_8, ok_84_8, gf_84_9, ok_84_9, gf_84_10, gf_84_11, gf_84_12, gf_84_13, gf_84_14, gf_84_15, gf_84_16, gf_84_17, ok_84_17, gf_84_18, gf_84_19, ok_84_19, gf_84_20, ok_84_20, gf_84_21, gf_84_22, gf_84_23, gf_84_24, ok_84_24, gf_84_25, ok_84_25, gf_84_26, ok_84_26, gf_84_27, ok_84_27, gf_84_28, ok_84_28, gf_84_29, gf_84_30, ← hM1, ct_s, ct_n, ↓bI_01, bI_eq0, bI_eq1, nI_10, nI_01, dec_f, dec_t, if_n, eq_self, true_or, or_true, if_true, if_false, reduceIte]
          exact lp
        cases b with
        | none =>
          have a1 : M 84 19 = -1 := hb
          simp only [↓s179_11, ↓s179_12, ↓s179_15, ↓s179_16, jc_84, gf_84_0, gf_84_1, gf_84_2, gf_84_3, gf_84_4, ok_84_4, gf_84_5, ok_84_5, gf_84_6, ok_84_6, gf_84_7, ok_84_7, gf_84_8, ok_84_8, gf_84_9, ok_84_9, gf_84_10, gf_84_11, gf_84_12, gf_84_13, gf_84_14, gf_84_15, gf_84_16, gf_84_17, ok_84_17, gf_84_18, gf_84_19, ok_84_19, gf_84_20, ok_84_20, gf_84_21, gf_84_22, gf_84_23, gf_84_24, ok_84_24, gf_84_25, ok_84_25, gf_84_26, ok_84_26, gf_84_27, ok_84_27, gf_84_28, ok_84_28, gf_84_29, gf_84_30, a1, ct_s, ct_n, ↓bI_01, bI_eq0, bI_eq1, nI_10, nI_01, dec_f, dec_t, if_n, eq_self, true_or, or_true, if_true, if_false, reduceIte]
          exact fin
        | some b =>
          obtain ⟨a1, a2, a3, a4, -⟩ := hb
          have nb := of_decide_eq_true eb
          simp only [↓s179_11, ↓s179_12, ↓s179_15, ↓s179_16, jc_84, gf_84_0, gf_84_1, gf_84_2, gf_84_3, gf_84_4, ok_84_4, gf_84_5, ok_84_5, gf_84_6, ok_84_6, gf_84_7, ok_84_7, gf_84_8, ok_84_8, gf_84_9, ok_84_9, gf_84_10, gf_84_11, gf_84_12, gf_84_13, gf_84_14, gf_84_15, gf_84_16, gf_84_17, ok_84_17, gf_84_18, gf_84_19, ok_84_19, gf_84_20, ok_84_20, gf_84_21, gf_84_22, gf_84_23, gf_84_24, ok_84_24, gf_84_25, ok_84_25, gf_84_26, ok_84_26, gf_84_27, ok_84_27, gf_84_28, ok_84_28, gf_84_29, gf_84_30, a1, ct_s, ct_n, ↓bI_01, bI_eq0, bI_eq1, nI_10, nI_01, dec_f, dec_t, if_n, eq_self, true_or, or_true, if_true, if_false, reduceIte]
          rw [if_neg (nI_m1 (by omega))]
          simp only [↓s179_19, ↓s179_20, ↓s179_21, ↓s179_24, jc_84, gf_84_0, gf_84_1, gf_84_2, gf_84_3, gf_84_4, ok_84_4, gf_84_5, ok_84_5, gf_84_6, ok_84_6, gf_84_7, ok_84_7, gf_84_8, ok_84_8, gf_84_9, ok_84_9, gf_84_10, gf_84_11, gf_84_12, gf_84_13, gf_84_14, gf_84_15, gf_84_16, gf_84_17, ok_84_17, gf_84_18, gf_84_19, ok_84_19, gf_84_20, ok_84_20, gf_84_21, gf_84_22, gf_84_23, gf_84_24, ok_84_24, gf_84_25, ok_84_25, gf_84_26, ok_84_26, gf_84_27, ok_84_27, gf_84_28, ok_84_28, gf_84_29, gf_84_30, a2, ct_s, ct_n, ↓bI_01, bI_eq0, bI_eq1, nI_10, nI_01, dec_f, dec_t, if_n, eq_self, true_or, or_true, if_true, if_false, reduceIte]
          by_cases h1 : c < b.1
          · rw [if_pos (nI_lt h1 (by omega))]
            exact fin
          · rw [if_neg (nI_nlt (a := c) (b := b.1) (by omega) (by omega))]
            simp only [↓s179_27, ↓s179_28, ↓s179_29, ↓s179_32, jc_84, gf_84_0, gf_84_1, gf_84_2, gf_84_3, gf_84_4, ok_84_4, gf_84_5, ok_84_5, gf_84_6, ok_84_6, gf_84_7, ok_84_7, gf_84_8, ok_84_8, gf_84_9, ok_84_9, gf_84_10, gf_84_11, gf_84_12, gf_84_13, gf_84_14, gf_84_15, gf_84_16, gf_84_17, ok_84_17, gf_84_18, gf_84_19, ok_84_19, gf_84_20, ok_84_20, gf_84_21, gf_84_22, gf_84_23, gf_84_24, ok_84_24, gf_84_25, ok_84_25, gf_84_26, ok_84_26, gf_84_27, ok_84_27, gf_84_28, ok_84_28, gf_84_29, gf_84_30, a2, ct_s, ct_n, ↓bI_01, bI_eq0, bI_eq1, nI_10, nI_01, dec_f, dec_t, if_n, eq_self, true_or, or_true, if_true, if_false, reduceIte]
            rw [if_pos (by rw [show c = b.1 by omega])]
            simp only [↓s179_35, ↓s179_36, ↓s179_37, ↓s179_40, jc_84, gf_84_0, gf_84_1, gf_84_2, gf_84_3, gf_84_4, ok_84_4, gf_84_5, ok_84_5, gf_84_6, ok_84_6, gf_84_7, ok_84_7, gf_84_8, ok_84_8, gf_84_9, ok_84_9, gf_84_10, gf_84_11, gf_84_12, gf_84_13, gf_84_14, gf_84_15, gf_84_16, gf_84_17, ok_84_17, gf_84_18, gf_84_19, ok_84_19, gf_84_20, ok_84_20, gf_84_21, gf_84_22, gf_84_23, gf_84_24, ok_84_24, gf_84_25, ok_84_25, gf_84_26, ok_84_26, gf_84_27, ok_84_27, gf_84_28, ok_84_28, gf_84_29, gf_84_30, a1, ct_s, ct_n, ↓bI_01, bI_eq0, bI_eq1, nI_10, nI_01, dec_f, dec_t, if_n, eq_self, true_or, or_true, if_true, if_false, reduceIte]
            rw [if_neg (nI_ge (a := m) (b := b.2.1) (by omega) (by omega))]
            exact fin
  · refine ⟨M, ⟨?_, fun _ _ _ => rfl, fun _ _ _ => rfl⟩, fun S d n Q => ?_⟩
    · rw [show jr s v c m f b = b from if_neg (fun q => hv q.1)]; exact hb
    · simp only [↓s179_0, ↓s179_1, ↓s179_4, ↓s179_7, ↓s179_8, jc_84, gf_84_0, gf_84_1, gf_84_2, gf_84_3, gf_84_4, ok_84_4, gf_84_5, ok_84_5, gf_84_6, ok_84_6, gf_84_7, ok_84_7, gf_84_8, ok_84_8, gf_84_9, ok_84_9, gf_84_10, gf_84_11, gf_84_12, gf_84_13, gf_84_14, gf_84_15, gf_84_16, gf_84_17, ok_84_17, gf_84_18, gf_84_19, ok_84_19, gf_84_20, ok_84_20, gf_84_21, gf_84_22, gf_84_23, gf_84_24, ok_84_24, gf_84_25, ok_84_25, gf_84_26, ok_84_26, gf_84_27, ok_84_27, gf_84_28, ok_84_28, gf_84_29, gf_84_30, e6, ↓c160, vv, ct_s, ct_n, ↓bI_01, bI_eq0, bI_eq1, nI_10, nI_01, dec_f, dec_t, if_n, eq_self, true_or, or_true, if_true, if_false, reduceIte]
      rw [if_neg (fun q => hv ((nI_eq (a := vdZ v.2.2) (b := s) (by omega) (by omega)).mp q))]
      simp only [↓s179_82, ct_s, ct_n, ↓bI_01, bI_eq0, bI_eq1, nI_10, nI_01, dec_f, dec_t, if_n, eq_self, true_or, or_true, if_true, if_false, reduceIte]
end Pardon4
