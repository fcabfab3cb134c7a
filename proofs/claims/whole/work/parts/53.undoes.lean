/-! ===== undoes ===== -/
section Undoes
variable {M M0 : ax_M} {N : ax_L} {A : ax_A0} {x : Int32}
theorem RC_sc (h : sc M0 M) (hC : RC M0 21 A) : RC M 21 A := RC_keep (fun b h1 h2 => h.1 b (by omega)) hC
def ovA (A : ax_A0) (k s : Nat) : Bool := mayA A k s (nowA A).1 && !decide (vdI (iI (evS A s k (nowA A)).2.2) = vdI (iI (nowA A).2.2))
theorem mayA_lt {k s sv : Nat} (h : mayA A k s sv = true) : k < ndA A ∧ hasB sv k = false := by
  unfold mayA at h
  simp only [Bool.and_eq_true, decide_eq_true_eq, Bool.not_eq_true'] at h
  exact ⟨h.1.1, h.1.2⟩
theorem c20 {d n : Nat} {Q : Option Value → Nat → ax_H → Prop} {S : ax_S} (hC : RC M 21 A) (hW : WF A) {k s : Nat} (hk : k < 1000) (hs : s ≤ 1) : ax_W (d + 4) 20 0 [.ref 72, .int (nI k), .int (nI s), ax_dm] [] n (hx S M N) Q = Q (some (.int (bI (ovA A k s)))) n (hx S (evM M 72 (if mayA A k s (nowA A).1 = true then evS A s k (nowA A) else nowA A)) N) := by
  obtain ⟨v1, v2, v3⟩ := nowA_ok hW
  have hC1 := RC_ev (e := 72) (v := nowA A) (by decide) hC
  simp only [↓s20_0, ↓s20_1, ↓s20_4, ↓s20_5, ↓s20_8, ↓s20_9, ↓s20_10, ↓s20_11, ↓s20_14, jc_72, gf_72_0, gf_72_1, ok_72_1, gf_72_2, ok_72_2, gf_72_3, ok_72_3, jc_21, gf_21_0, gf_21_1, gf_21_2, gf_21_3, gf_21_4, gf_21_5, ok_21_5, gf_21_6, ok_21_6, ↓c15 (e := 72) (Or.inl rfl) hC hW, evM_1, ↓c9 hC1 hW hk hs v1, ct_s, ct_n, ↓bI_01, bI_eq0, bI_eq1, nI_10, nI_01, dec_f, dec_t, if_n, eq_self, true_or, or_true, if_true, if_false, reduceIte]
  unfold ovA
  cases h : mayA A k s (nowA A).1 with
  | false =>
    simp only [↓s20_17, ↓s20_20, ↓s20_21, Bool.false_and, ct_s, ct_n, ↓bI_01, bI_eq0, bI_eq1, nI_10, nI_01, dec_f, dec_t, if_n, eq_self, true_or, or_true, if_true, if_false, reduceIte, Bool.false_eq_true]
    rfl
  | true =>
    simp only [↓s20_17, ↓s20_20, ↓s20_21, ↓s20_22, ↓s20_23, ↓s20_26, ↓s20_27, ↓s20_28, ↓s20_29, ↓s20_30, ↓s20_33, ↓s20_34, ↓s20_35, ↓s20_38, ↓s20_39, jc_72, gf_72_0, gf_72_1, ok_72_1, gf_72_2, ok_72_2, gf_72_3, ok_72_3, jc_21, gf_21_0, gf_21_1, gf_21_2, gf_21_3, gf_21_4, gf_21_5, ok_21_5, gf_21_6, ok_21_6, ↓c18 (e := 72) (Or.inl rfl), ↓c17 (e := 72) (Or.inl rfl) hC hW (mayA_lt h).1 hs v1 v3, Bool.true_and, ct_s, ct_n, ↓bI_01, bI_eq0, bI_eq1, nI_10, nI_01, dec_f, dec_t, if_n, eq_self, true_or, or_true, if_true, if_false, reduceIte, Bool.true_eq_false]
    by_cases e : vdI (iI (evS A s k (nowA A)).2.2) = vdI (iI (nowA A).2.2)
    · rw [if_pos e, decide_eq_true e]
      simp only [↓s20_46, ↓s20_47, ct_s, ct_n, ↓bI_01, bI_eq0, bI_eq1, nI_10, nI_01, dec_f, dec_t, if_n, eq_self, true_or, or_true, if_true, if_false, reduceIte]
      rfl
    · rw [if_neg e, decide_eq_false e]
      simp only [↓s20_42, ↓s20_43, ↓s20_46, ↓s20_47, ct_s, ct_n, ↓bI_01, bI_eq0, bI_eq1, nI_10, nI_01, dec_f, dec_t, if_n, eq_self, true_or, or_true, if_true, if_false, reduceIte]
      rfl
def btU (A : ax_A0) (i : Nat) : Option Nat → Bool
  | none => true
  | some b => decide (buA A i < buA A b)
def bsU (A : ax_A0) (s : Nat) : Nat → Option Nat
  | 0 => none
  | i + 1 => if (ovA A i s && btU A i (bsU A s i)) = true then some i else bsU A s i
theorem bsU_t {s i : Nat} (h1 : ovA A i s = true) (h2 : btU A i (bsU A s i) = true) : bsU A s (i + 1) = some i := by
  show (if _ then _ else _) = _
  rw [h1, h2]; rfl
theorem bsU_f {s i : Nat} (h1 : ovA A i s = false) : bsU A s (i + 1) = bsU A s i := by
  show (if _ then _ else _) = _
  rw [h1, Bool.false_and, if_neg (by decide)]
theorem bsU_g {s i : Nat} (h1 : btU A i (bsU A s i) = false) : bsU A s (i + 1) = bsU A s i := by
  show (if _ then _ else _) = _
  rw [h1, Bool.and_false, if_neg (by decide)]
theorem bsU_lt {s : Nat} : ∀ i b, bsU A s i = some b → b < i := by
  intro i
  induction i with
  | zero => intro b h; cases h
  | succ i ih =>
    intro b h
    cases h1 : ovA A i s with
    | false => rw [bsU_f h1] at h; have := ih b h; omega
    | true =>
      cases h2 : btU A i (bsU A s i) with
      | false => rw [bsU_g h2] at h; have := ih b h; omega
      | true => rw [bsU_t h1 h2] at h; cases h; omega
theorem l102 (hC0 : RC M0 21 A) (hW : WF A) {s : Nat} (hs : s ≤ 1) : ∀ (c i : Nat), i + c = ndA A → ∀ M, sc M0 M → ∃ M2, sc M0 M2 ∧ ∀ (S : ax_S) (d n : Nat) (Q : Option Value → Nat → ax_H → Prop), ax_W (d + 5) 102 20 [.ref 20, .int (nI s), .int (lsI (bsU A s i)), .int (nI i)] [] n (hx S M N) Q = Q (some (.int (lsI (bsU A s (ndA A))))) n (hx S M2 N) := by
  have n8 := hW.1.2
  intro c
  induction c with
  | zero =>
    intro i hi M hM
    have hC := RC_sc hM hC0
    refine ⟨M, hM, fun S d n Q => ?_⟩
    have e : i = ndA A := by omega
    simp only [↓s102_20, ↓s102_21, ↓s102_22, ↓s102_25, ↓s102_28, ↓s102_31, jc_20, gf_20_0, gf_20_1, gf_20_2, gf_20_3, gf_20_4, gf_20_5, gf_20_6, gf_20_7, gf_20_8, gf_20_9, gf_20_10, gf_20_11, ok_20_11, gf_20_12, ok_20_12, gf_20_13, ok_20_13, gf_20_14, ok_20_14, gf_20_15, ok_20_15, jc_21, gf_21_0, gf_21_1, gf_21_2, gf_21_3, gf_21_4, gf_21_5, ok_21_5, gf_21_6, ok_21_6, jc_22, gf_22_0, gf_22_1, gf_22_2, gf_22_3, ok_22_3, ↓c53 h22, (rc_nd hC hW).1, ct_s, ct_n, ↓bI_01, bI_eq0, bI_eq1, nI_10, nI_01, dec_f, dec_t, if_n, eq_self, true_or, or_true, if_true, if_false, reduceIte]
    rw [e, if_pos (nI_le (a := ndA A) (b := ndA A) (by omega) (by omega))]
    simp only [↓s102_86, ↓s102_87, ct_s, ct_n, ↓bI_01, bI_eq0, bI_eq1, nI_10, nI_01, dec_f, dec_t, if_n, eq_self, true_or, or_true, if_true, if_false, reduceIte]
  | succ c ih =>
    intro i hi M hM
    have hC := RC_sc hM hC0
    have hM1 : sc M0 (evM M 72 (if mayA A i s (nowA A).1 = true then evS A s i (nowA A) else nowA A)) := sc_ev hM (Or.inl rfl)
    generalize hm1 : evM M 72 (if mayA A i s (nowA A).1 = true then evS A s i (nowA A) else nowA A) = M1 at hM1
    have hC1 := RC_sc hM1 hC0
    obtain ⟨M2, h2, h3⟩ := ih (i + 1) (by omega) M1 hM1
    refine ⟨M2, h2, fun S d n Q => ?_⟩
    simp only [↓s102_20, ↓s102_21, ↓s102_22, ↓s102_25, ↓s102_28, ↓s102_31, jc_20, gf_20_0, gf_20_1, gf_20_2, gf_20_3, gf_20_4, gf_20_5, gf_20_6, gf_20_7, gf_20_8, gf_20_9, gf_20_10, gf_20_11, ok_20_11, gf_20_12, ok_20_12, gf_20_13, ok_20_13, gf_20_14, ok_20_14, gf_20_15, ok_20_15, jc_21, gf_21_0, gf_21_1, gf_21_2, gf_21_3, gf_21_4, gf_21_5, ok_21_5, gf_21_6, ok_21_6, jc_22, gf_22_0, gf_22_1, gf_22_2, gf_22_3, ok_22_3, ↓c53 h22, (rc_nd hC hW).1, ct_s, ct_n, ↓bI_01, bI_eq0, bI_eq1, nI_10, nI_01, dec_f, dec_t, if_n, eq_self, true_or, or_true, if_true, if_false, reduceIte]
    rw [if_neg (nI_ge (a := i) (b := ndA A) (by omega) (by omega))]
    simp only [↓s102_34, ↓s102_35, ↓s102_38, ↓s102_39, ↓s102_40, jc_20, gf_20_0, gf_20_1, gf_20_2, gf_20_3, gf_20_4, gf_20_5, gf_20_6, gf_20_7, gf_20_8, gf_20_9, gf_20_10, gf_20_11, ok_20_11, gf_20_12, ok_20_12, gf_20_13, ok_20_13, gf_20_14, ok_20_14, gf_20_15, ok_20_15, jc_72, gf_72_0, gf_72_1, ok_72_1, gf_72_2, ok_72_2, gf_72_3, ok_72_3, ↓c20 hC hW (show i < 1000 by omega) hs, hm1, ct_s, ct_n, ↓bI_01, bI_eq0, bI_eq1, nI_10, nI_01, dec_f, dec_t, if_n, eq_self, true_or, or_true, if_true, if_false, reduceIte]
    cases h4 : ovA A i s with
    | false =>
      rw [bsU_f h4] at h3
      simp only [↓s102_43, ↓s102_80, ↓s102_83, nI_add, ct_s, ct_n, ↓bI_01, bI_eq0, bI_eq1, nI_10, nI_01, dec_f, dec_t, if_n, eq_self, true_or, or_true, if_true, if_false, reduceIte]
      exact h3 S d n Q
    | true =>
      simp only [↓s102_43, ↓s102_46, ↓s102_47, ↓s102_48, ct_s, ct_n, ↓bI_01, bI_eq0, bI_eq1, nI_10, nI_01, dec_f, dec_t, if_n, eq_self, true_or, or_true, if_true, if_false, reduceIte, Bool.true_eq_false]
      cases hb : bsU A s i with
      | none =>
        rw [bsU_t h4 (by rw [hb]; rfl)] at h3
        rw [if_pos (show lsI none = -1 from rfl)]
        simp only [↓s102_78, ↓s102_79, ↓s102_80, ↓s102_83, nI_add, ct_s, ct_n, ↓bI_01, bI_eq0, bI_eq1, nI_10, nI_01, dec_f, dec_t, if_n, eq_self, true_or, or_true, if_true, if_false, reduceIte]
        exact h3 S d n Q
      | some b =>
        have lb := bsU_lt _ _ hb
        have b9i := (hW.2.2.2.2.2.2.1 i (by omega)).2.2.2.1.2
        have b9b := (hW.2.2.2.2.2.2.1 b (by omega)).2.2.2.1.2
        rw [if_neg (show ¬ lsI (some b) = -1 from nI_m1 (by omega))]
        simp only [↓s102_51, ↓s102_52, ↓s102_55, ↓s102_58, ↓s102_59, ↓s102_60, ↓s102_63, ↓s102_64, ↓s102_67, ↓s102_70, ↓s102_71, ↓s102_72, ↓s102_75, jc_20, gf_20_0, gf_20_1, gf_20_2, gf_20_3, gf_20_4, gf_20_5, gf_20_6, gf_20_7, gf_20_8, gf_20_9, gf_20_10, gf_20_11, ok_20_11, gf_20_12, ok_20_12, gf_20_13, ok_20_13, gf_20_14, ok_20_14, gf_20_15, ok_20_15, jc_21, gf_21_0, gf_21_1, gf_21_2, gf_21_3, gf_21_4, gf_21_5, ok_21_5, gf_21_6, ok_21_6, jc_22, gf_22_0, gf_22_1, gf_22_2, gf_22_3, ok_22_3, ↓c54 h22 (cap22 hC1 hW), rd_butter hC1 hW (show i < ndA A by omega), show lsI (some b) = nI b from rfl, rd_butter hC1 hW (show b < ndA A by omega), ct_s, ct_n, ↓bI_01, bI_eq0, bI_eq1, nI_10, nI_01, dec_f, dec_t, if_n, eq_self, true_or, or_true, if_true, if_false, reduceIte]
        by_cases e : buA A i < buA A b
        · rw [bsU_t h4 (by rw [hb]; exact decide_eq_true e)] at h3
          rw [if_neg (nI_ge (a := buA A i) (b := buA A b) (by omega) (by omega))]
          simp only [↓s102_78, ↓s102_79, ↓s102_80, ↓s102_83, nI_add, ct_s, ct_n, ↓bI_01, bI_eq0, bI_eq1, nI_10, nI_01, dec_f, dec_t, if_n, eq_self, true_or, or_true, if_true, if_false, reduceIte]
          exact h3 S d n Q
        · rw [bsU_g (by rw [hb]; exact decide_eq_false e), hb] at h3
          rw [if_pos (nI_le (a := buA A b) (b := buA A i) (by omega) (by omega))]
          simp only [↓s102_80, ↓s102_83, nI_add, ct_s, ct_n, ↓bI_01, bI_eq0, bI_eq1, nI_10, nI_01, dec_f, dec_t, if_n, eq_self, true_or, or_true, if_true, if_false, reduceIte]
          exact h3 S d n Q
theorem c166 {d n : Nat} {Q : Option Value → Nat → ax_H → Prop} {S : ax_S} (hA : M 85 = A) : ax_W (d + 1) 166 0 [.ref 84] [] n (hx S M N) Q = Q (some (.int (vdI (iI (leA A))))) n (hx S M N) := by
  have e : M 85 2 = iI (leA A) := by rw [hA]; exact (iI_to _).symm
  simp only [↓s166_0, ↓s166_1, ↓s166_4, ↓s166_5, ↓s166_6, ↓s166_9, jc_84, gf_84_0, gf_84_1, gf_84_2, gf_84_3, gf_84_4, ok_84_4, gf_84_5, ok_84_5, gf_84_6, ok_84_6, gf_84_7, ok_84_7, gf_84_8, ok_84_8, gf_84_9, ok_84_9, gf_84_10, gf_84_11, gf_84_12, gf_84_13, gf_84_14, gf_84_15, gf_84_16, gf_84_17, ok_84_17, gf_84_18, gf_84_19, ok_84_19, gf_84_20, ok_84_20, gf_84_21, gf_84_22, gf_84_23, gf_84_24, ok_84_24, gf_84_25, ok_84_25, gf_84_26, ok_84_26, gf_84_27, ok_84_27, gf_84_28, ok_84_28, gf_84_29, gf_84_30, al_85 (show 2 < 181 by decide), e, ↓c160, ct_s, ct_n, ↓bI_01, bI_eq0, bI_eq1, nI_10, nI_01, dec_f, dec_t, if_n, eq_self, true_or, or_true, if_true, if_false, reduceIte]
theorem l185 (hA0 : M0 85 = A) (hW : WF A) {s : Nat} (hs : s ≤ 1) : ∀ (c i : Nat), i + c = ndA A → ∀ M, sc M0 M → ∀ y4 y5, ∃ M2, sc M0 M2 ∧ ∀ (S : ax_S) (d n : Nat) (Q : Option Value → Nat → ax_H → Prop), ax_W (d + 5) 185 18 [.ref 84, .int (nI s), .int (lsI (bsU A s i)), .int (nI i), y4, y5] [] n (hx S M N) Q = Q (some (.int (lsI (bsU A s (ndA A))))) n (hx S M2 N) := by
  have n8 := hW.1.2
  obtain ⟨v1, v2, v3⟩ := nowA_ok hW
  intro c
  induction c with
  | zero =>
    intro i hi M hM y4 y5
    have hA := (hM.1 85 (by omega)).trans hA0
    have a0 : M 85 0 = nI (ndA A) := by rw [hA]; exact hW.1.1
    refine ⟨M, hM, fun S d n Q => ?_⟩
    have e : i = ndA A := by omega
    simp only [↓s185_18, ↓s185_19, ↓s185_20, ↓s185_23, jc_84, gf_84_0, gf_84_1, gf_84_2, gf_84_3, gf_84_4, ok_84_4, gf_84_5, ok_84_5, gf_84_6, ok_84_6, gf_84_7, ok_84_7, gf_84_8, ok_84_8, gf_84_9, ok_84_9, gf_84_10, gf_84_11, gf_84_12, gf_84_13, gf_84_14, gf_84_15, gf_84_16, gf_84_17, ok_84_17, gf_84_18, gf_84_19, ok_84_19, gf_84_20, ok_84_20, gf_84_21, gf_84_22, gf_84_23, gf_84_24, ok_84_24, gf_84_25, ok_84_25, gf_84_26, ok_84_26, gf_84_27, ok_84_27, gf_84_28, ok_84_28, gf_84_29, gf_84_30, ↓c140, a0, ct_s, ct_n, ↓bI_01, bI_eq0, bI_eq1, nI_10, nI_01, dec_f, dec_t, if_n, eq_self, true_or, or_true, if_true, if_false, reduceIte]
    rw [e, if_pos (nI_le (a := ndA A) (b := ndA A) (by omega) (by omega))]
    simp only [↓s185_106, ↓s185_107, ct_s, ct_n, ↓bI_01, bI_eq0, bI_eq1, nI_10, nI_01, dec_f, dec_t, if_n, eq_self, true_or, or_true, if_true, if_false, reduceIte]
  | succ c ih =>
    intro i hi M hM y4 y5
    have hA := (hM.1 85 (by omega)).trans hA0
    have a0 : M 85 0 = nI (ndA A) := by rw [hA]; exact hW.1.1
    cases h4 : mayA A i s (nowA A).1 with
    | false =>
      have ho : ovA A i s = false := by unfold ovA; rw [h4, Bool.false_and]
      obtain ⟨M2, h2, h3⟩ := ih (i + 1) (by omega) _ (sc_rv (v := nowA A) hM) y4 y5
      rw [bsU_f ho] at h3
      refine ⟨M2, h2, fun S d n Q => ?_⟩
      simp only [↓s185_18, ↓s185_19, ↓s185_20, ↓s185_23, jc_84, gf_84_0, gf_84_1, gf_84_2, gf_84_3, gf_84_4, ok_84_4, gf_84_5, ok_84_5, gf_84_6, ok_84_6, gf_84_7, ok_84_7, gf_84_8, ok_84_8, gf_84_9, ok_84_9, gf_84_10, gf_84_11, gf_84_12, gf_84_13, gf_84_14, gf_84_15, gf_84_16, gf_84_17, ok_84_17, gf_84_18, gf_84_19, ok_84_19, gf_84_20, ok_84_20, gf_84_21, gf_84_22, gf_84_23, gf_84_24, ok_84_24, gf_84_25, ok_84_25, gf_84_26, ok_84_26, gf_84_27, ok_84_27, gf_84_28, ok_84_28, gf_84_29, gf_84_30, ↓c140, a0, ct_s, ct_n, ↓bI_01, bI_eq0, bI_eq1, nI_10, nI_01, dec_f, dec_t, if_n, eq_self, true_or, or_true, if_true, if_false, reduceIte]
      rw [if_neg (nI_ge (a := i) (b := ndA A) (by omega) (by omega))]
      simp only [↓s185_26, ↓s185_27, ↓s185_30, ↓s185_31, ↓s185_32, ↓s185_33, ↓s185_36, ↓s185_100, ↓s185_103, jc_84, gf_84_0, gf_84_1, gf_84_2, gf_84_3, gf_84_4, ok_84_4, gf_84_5, ok_84_5, gf_84_6, ok_84_6, gf_84_7, ok_84_7, gf_84_8, ok_84_8, gf_84_9, ok_84_9, gf_84_10, gf_84_11, gf_84_12, gf_84_13, gf_84_14, gf_84_15, gf_84_16, gf_84_17, ok_84_17, gf_84_18, gf_84_19, ok_84_19, gf_84_20, ok_84_20, gf_84_21, gf_84_22, gf_84_23, gf_84_24, ok_84_24, gf_84_25, ok_84_25, gf_84_26, ok_84_26, gf_84_27, ok_84_27, gf_84_28, ok_84_28, gf_84_29, gf_84_30, ↓c151 hA hW, ↓c159 hA hW (show i < ndA A by omega) hs v1, h4, nI_add, ct_s, ct_n, ↓bI_01, bI_eq0, bI_eq1, nI_10, nI_01, dec_f, dec_t, if_n, eq_self, true_or, or_true, if_true, if_false, reduceIte]
      exact h3 S d n Q
    | true =>
      have lt := mayA_lt h4
      have e1 : rvM M (evS A s i (nowA A)) 85 = A := by rw [rvM_85]; exact hA
      have k156 : ∀ (S : ax_S) (d n : Nat) (Q : Option Value → Nat → ax_H → Prop), ax_W (d + 4) 156 0 [.ref 84, .int (nI i), .int (nI s), .int (nI 1), ax_dm] [] n (hx S (rvM M (nowA A)) N) Q = Q (some (.int (nI (dsN A i (pop (nowA A).1) (nowA A).2.1)))) n (hx S (rvM M (evS A s i (nowA A))) N) := fun S d n Q => by
        have := c156 (d := d) (n := n) (Q := Q) (S := S) (N := N) (c := 1) hA hW lt.1 hs (by omega) v1 lt.2 v3
        rw [evB_1] at this
        exact this
      have pre : ∀ (S : ax_S) (d n : Nat) (Q : Option Value → Nat → ax_H → Prop), ax_W (d + 5) 185 18 [.ref 84, .int (nI s), .int (lsI (bsU A s i)), .int (nI i), y4, y5] [] n (hx S M N) Q = ax_W (d + 5) 185 48 [.ref 84, .int (nI s), .int (lsI (bsU A s i)), .int (nI i), .int (nI (dsN A i (pop (nowA A).1) (nowA A).2.1)), y5] [] n (hx S (rvM M (evS A s i (nowA A))) N) Q := by
        intro S d n Q
        simp only [↓s185_18, ↓s185_19, ↓s185_20, ↓s185_23, jc_84, gf_84_0, gf_84_1, gf_84_2, gf_84_3, gf_84_4, ok_84_4, gf_84_5, ok_84_5, gf_84_6, ok_84_6, gf_84_7, ok_84_7, gf_84_8, ok_84_8, gf_84_9, ok_84_9, gf_84_10, gf_84_11, gf_84_12, gf_84_13, gf_84_14, gf_84_15, gf_84_16, gf_84_17, ok_84_17, gf_84_18, gf_84_19, ok_84_19, gf_84_20, ok_84_20, gf_84_21, gf_84_22, gf_84_23, gf_84_24, ok_84_24, gf_84_25, ok_84_25, gf_84_26, ok_84_26, gf_84_27, ok_84_27, gf_84_28, ok_84_28, gf_84_29, gf_84_30, ↓c140, a0, ct_s, ct_n, ↓bI_01, bI_eq0, bI_eq1, nI_10, nI_01, dec_f, dec_t, if_n, eq_self, true_or, or_true, if_true, if_false, reduceIte]
        rw [if_neg (nI_ge (a := i) (b := ndA A) (by omega) (by omega))]
        simp only [↓s185_26, ↓s185_27, ↓s185_30, ↓s185_31, ↓s185_32, ↓s185_33, ↓s185_36, ↓s185_39, ↓s185_40, ↓s185_41, ↓s185_42, ↓s185_43, ↓s185_46, jc_84, gf_84_0, gf_84_1, gf_84_2, gf_84_3, gf_84_4, ok_84_4, gf_84_5, ok_84_5, gf_84_6, ok_84_6, gf_84_7, ok_84_7, gf_84_8, ok_84_8, gf_84_9, ok_84_9, gf_84_10, gf_84_11, gf_84_12, gf_84_13, gf_84_14, gf_84_15, gf_84_16, gf_84_17, ok_84_17, gf_84_18, gf_84_19, ok_84_19, gf_84_20, ok_84_20, gf_84_21, gf_84_22, gf_84_23, gf_84_24, ok_84_24, gf_84_25, ok_84_25, gf_84_26, ok_84_26, gf_84_27, ok_84_27, gf_84_28, ok_84_28, gf_84_29, gf_84_30, ↓c151 hA hW, ↓c159 hA hW (show i < ndA A by omega) hs v1, h4, ↓k156, ct_s, ct_n, ↓bI_01, bI_eq0, bI_eq1, nI_10, nI_01, dec_f, dec_t, if_n, eq_self, true_or, or_true, if_true, if_false, reduceIte, Bool.true_eq_false]
      have hM1 : sc M0 (rvM M (evS A s i (nowA A))) := sc_rv hM
      generalize hm1 : rvM M (evS A s i (nowA A)) = M1 at hM1 pre e1
      have e6 : M1 84 6 = iI (evS A s i (nowA A)).2.2 := by rw [← hm1, rvM_6]
      have fin : ∀ b : Bool, bI b = nI 1 ∨ bI b = nI 0 := fun b => by cases b <;> simp [bI]
      have post : ∀ (S : ax_S) (d n : Nat) (Q : Option Value → Nat → ax_H → Prop), ax_W (d + 5) 185 48 [.ref 84, .int (nI s), .int (lsI (bsU A s i)), .int (nI i), .int (nI (dsN A i (pop (nowA A).1) (nowA A).2.1)), y5] [] n (hx S M1 N) Q = ax_W (d + 5) 185 75 [.ref 84, .int (nI s), .int (lsI (bsU A s i)), .int (nI i), .int (nI (dsN A i (pop (nowA A).1) (nowA A).2.1)), .int (bI (btU A i (bsU A s i)))] [] n (hx S M1 N) Q := by
        intro S d n Q
        simp only [↓s185_48, ↓s185_49, ↓s185_50, ct_s, ct_n, ↓bI_01, bI_eq0, bI_eq1, nI_10, nI_01, dec_f, dec_t, if_n, eq_self, true_or, or_true, if_true, if_false, reduceIte]
        cases hb : bsU A s i with
        | none =>
          rw [if_pos (show lsI none = -1 from rfl)]
          simp only [↓s185_68, ↓s185_69, ↓s185_72, ↓s185_73, ct_s, ct_n, ↓bI_01, bI_eq0, bI_eq1, nI_10, nI_01, dec_f, dec_t, if_n, eq_self, true_or, or_true, if_true, if_false, reduceIte]
          rfl
        | some b =>
          have lb := bsU_lt _ _ hb
          have b9i := (hW.2.2.2.2.2.2.1 i (by omega)).2.2.2.1.2
          have b9b := (hW.2.2.2.2.2.2.1 b (by omega)).2.2.2.1.2
          rw [if_neg (show ¬ lsI (some b) = -1 from nI_m1 (by omega))]
          simp only [↓s185_53, ↓s185_54, ↓s185_55, ↓s185_56, ↓s185_59, ↓s185_60, ↓s185_61, ↓s185_62, ↓s185_65, jc_84, gf_84_0, gf_84_1, gf_84_2, gf_84_3, gf_84_4, ok_84_4, gf_84_5, ok_84_5, gf_84_6, ok_84_6, gf_84_7, ok_84_7, gf_84_8, ok_84_8, gf_84_9, ok_84_9, gf_84_10, gf_84_11, gf_84_12, gf_84_13, gf_84_14, gf_84_15, gf_84_16, gf_84_17, ok_84_17, gf_84_18, gf_84_19, ok_84_19, gf_84_20, ok_84_20, gf_84_21, gf_84_22, gf_84_23, gf_84_24, ok_84_24, gf_84_25, ok_84_25, gf_84_26, ok_84_26, gf_84_27, ok_84_27, gf_84_28, ok_84_28, gf_84_29, gf_84_30, show lsI (some b) = nI b from rfl, ↓c144 (show 6 + 5 * i + 3 < 181 by omega), ↓c144 (show 6 + 5 * b + 3 < 181 by omega), rg_butter e1 hW (show i < ndA A by omega), rg_butter e1 hW (show b < ndA A by omega), ct_s, ct_n, ↓bI_01, bI_eq0, bI_eq1, nI_10, nI_01, dec_f, dec_t, if_n, eq_self, true_or, or_true, if_true, if_false, reduceIte]
          by_cases e : buA A i < buA A b
          · rw [if_neg (nI_ge (a := buA A i) (b := buA A b) (by omega) (by omega)), show btU A i (some b) = true from decide_eq_true e]
            simp only [↓s185_68, ↓s185_69, ↓s185_72, ↓s185_73, ct_s, ct_n, ↓bI_01, bI_eq0, bI_eq1, nI_10, nI_01, dec_f, dec_t, if_n, eq_self, true_or, or_true, if_true, if_false, reduceIte]
            rfl
          · rw [if_pos (nI_le (a := buA A b) (b := buA A i) (by omega) (by omega)), show btU A i (some b) = false from decide_eq_false e]
            simp only [↓s185_72, ↓s185_73, ct_s, ct_n, ↓bI_01, bI_eq0, bI_eq1, nI_10, nI_01, dec_f, dec_t, if_n, eq_self, true_or, or_true, if_true, if_false, reduceIte]
            rfl
      obtain ⟨M2, h2, h3⟩ := ih (i + 1) (by omega) M1 hM1 (.int (nI (dsN A i (pop (nowA A).1) (nowA A).2.1))) (.int (bI (btU A i (bsU A s i))))
      refine ⟨M2, h2, fun S d n Q => ?_⟩
      rw [pre, post]
      cases h5 : btU A i (bsU A s i) with
      | false =>
        rw [bsU_g h5, h5] at h3
        simp only [↓s185_75, ↓s185_77, ↓s185_98, ↓s185_99, ↓s185_100, ↓s185_103, nI_add, ct_s, ct_n, ↓bI_01, bI_eq0, bI_eq1, nI_10, nI_01, dec_f, dec_t, if_n, eq_self, true_or, or_true, if_true, if_false, reduceIte]
        exact h3 S d n Q
      | true =>
        rw [h5] at h3
        simp only [↓s185_75, ↓s185_77, ↓s185_80, ↓s185_81, ↓s185_84, ↓s185_87, ↓s185_88, ↓s185_91, jc_84, gf_84_0, gf_84_1, gf_84_2, gf_84_3, gf_84_4, ok_84_4, gf_84_5, ok_84_5, gf_84_6, ok_84_6, gf_84_7, ok_84_7, gf_84_8, ok_84_8, gf_84_9, ok_84_9, gf_84_10, gf_84_11, gf_84_12, gf_84_13, gf_84_14, gf_84_15, gf_84_16, gf_84_17, ok_84_17, gf_84_18, gf_84_19, ok_84_19, gf_84_20, ok_84_20, gf_84_21, gf_84_22, gf_84_23, gf_84_24, ok_84_24, gf_84_25, ok_84_25, gf_84_26, ok_84_26, gf_84_27, ok_84_27, gf_84_28, ok_84_28, gf_84_29, gf_84_30, e6, ↓c160, ↓c166 e1, ct_s, ct_n, ↓bI_01, bI_eq0, bI_eq1, nI_10, nI_01, dec_f, dec_t, if_n, eq_self, true_or, or_true, if_true, if_false, reduceIte, Bool.true_eq_false]
        by_cases e : vdI (iI (evS A s i (nowA A)).2.2) = vdI (iI (leA A))
        · rw [if_pos e]
          rw [bsU_f (by unfold ovA; rw [decide_eq_true (show vdI (iI (evS A s i (nowA A)).2.2) = vdI (iI (nowA A).2.2) from e), Bool.not_true, Bool.and_false])] at h3
          simp only [↓s185_98, ↓s185_99, ↓s185_100, ↓s185_103, nI_add, ct_s, ct_n, ↓bI_01, bI_eq0, bI_eq1, nI_10, nI_01, dec_f, dec_t, if_n, eq_self, true_or, or_true, if_true, if_false, reduceIte]
          exact h3 S d n Q
        · rw [if_neg e]
          rw [bsU_t (by unfold ovA; rw [h4, decide_eq_false (show ¬ vdI (iI (evS A s i (nowA A)).2.2) = vdI (iI (nowA A).2.2) from e)]; rfl) h5] at h3
          simp only [↓s185_94, ↓s185_95, ↓s185_98, ↓s185_99, ↓s185_100, ↓s185_103, nI_add, ct_s, ct_n, ↓bI_01, bI_eq0, bI_eq1, nI_10, nI_01, dec_f, dec_t, if_n, eq_self, true_or, or_true, if_true, if_false, reduceIte]
          exact h3 S d n Q
theorem p21 (hI : Inv M N) : RPi 102 185 [.ref 20, .int x, ax_dm, ax_dm] [.ref 84, .int x, ax_dm, ax_dm, ax_dm, ax_dm] M N := by
  have hC := hI.1
  have hW := hI.2.1
  by_cases h0 : nI 0 ≤ x ∧ x ≤ nI 1
  · obtain ⟨s, s1, rfl⟩ := rng (by decide) h0
    obtain ⟨M1, h1, g1⟩ := l102 (N := N) hC hW s1 (ndA (M 85)) 0 (by omega) M sc_rf
    obtain ⟨M2, h2, g2⟩ := l185 (N := N) (h1.1 85 (by omega)) hW s1 (ndA (M 85)) 0 (by omega) M1 sc_rf ax_dm ax_dm
    refine ⟨lsI (bsU (M 85) s (ndA (M 85))), M1, N, M2, N, fun S d n Q => ?_, fun S d n Q => ?_, Inv_sc (sc_tr h1 h2) hI⟩
    · simp only [↓s102_0, ↓s102_1, ↓s102_4, ↓c122, ct_s, ct_n, ↓bI_01, bI_eq0, bI_eq1, nI_10, nI_01, dec_f, dec_t, if_n, eq_self, true_or, or_true, if_true, if_false, reduceIte]
      rw [if_pos h0]
      simp only [↓s102_16, ↓s102_17, ↓s102_18, ↓s102_19, ct_s, ct_n, ↓bI_01, bI_eq0, bI_eq1, nI_10, nI_01, dec_f, dec_t, if_n, eq_self, true_or, or_true, if_true, if_false, reduceIte]
      exact g1 S (d + 895) n Q
    · simp only [↓s185_0, ↓s185_1, ↓s185_4, ↓c142, ct_s, ct_n, ↓bI_01, bI_eq0, bI_eq1, nI_10, nI_01, dec_f, dec_t, if_n, eq_self, true_or, or_true, if_true, if_false, reduceIte]
      rw [if_pos h0]
      simp only [↓s185_14, ↓s185_15, ↓s185_16, ↓s185_17, ct_s, ct_n, ↓bI_01, bI_eq0, bI_eq1, nI_10, nI_01, dec_f, dec_t, if_n, eq_self, true_or, or_true, if_true, if_false, reduceIte]
      exact g2 S (d + 895) n Q
  · refine ⟨-2, ux M 20 13 (M 20 13 + nI 1), N, rjM M 0, N, fun S d n Q => ?_, fun S d n Q => ?_, Inv_rj (by decide) hI⟩
    · simp only [↓s102_0, ↓s102_1, ↓s102_4, ↓s102_7, ↓s102_8, ↓s102_10, ↓s102_12, ↓s102_15, ↓c122, jc_20, ↓c116, refM_b, ct_s, ct_n, ↓bI_01, bI_eq0, bI_eq1, nI_10, nI_01, dec_f, dec_t, if_n, eq_self, true_or, or_true, if_true, if_false, reduceIte]
      rw [if_neg h0]
    · simp only [↓s185_0, ↓s185_1, ↓s185_4, ↓s185_7, ↓s185_8, ↓s185_10, ↓s185_13, ↓c142, jc_84, ↓c136, ux88, ct_s, ct_n, ↓bI_01, bI_eq0, bI_eq1, nI_10, nI_01, dec_f, dec_t, if_n, eq_self, true_or, or_true, if_true, if_false, reduceIte]
      rw [if_neg h0]
      rfl
end Undoes
