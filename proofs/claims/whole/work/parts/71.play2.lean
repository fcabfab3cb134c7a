/-! ===== play: the class's search ===== -/
def AB (lo hi g R : Int) : Prop := (g ≤ lo → R ≤ lo) ∧ (lo < g → g < hi → R = g) ∧ (hi ≤ g → hi ≤ R)
section Play2
variable {M : ax_M} {N : ax_L} {A : ax_A0} {s sv : Nat} {l : Option Nat}
theorem mxI_j {a b : Int} (ha : -100000 ≤ a ∧ a ≤ 100000) (hb : -100000 ≤ b ∧ b ≤ 100000) : mxI (iI a) (iI b) = iI (max a b) := by
  unfold mxI
  by_cases h : a < b
  · rw [if_pos ((iI_lt (by omega) (by omega) (by omega) (by omega)).mpr h), show max a b = b by omega]
  · rw [if_neg (fun q => h ((iI_lt (by omega) (by omega) (by omega) (by omega)).mp q)), show max a b = a by omega]
theorem c39 {t k : Nat} {lo hi R : Int} (ht : t < 100) (hC : RC M 21 A) (hW : WF A) (hk : k < ndA A) (hs : s ≤ 1) (hv : sv < 256) (hl : ∀ j, l = some j → j < ndA A) (hK : ∀ (S : ax_S) (d n : Nat) (Q : Option Value → Nat → ax_H → Prop), ax_W (d + 2 * t + 4) 41 0 [.ref 77, .int (nI t), .int (nI (1 - s)), .int (nI (addB sv k)), .int (nI k), .int (iI ((dsN A k (pop sv) l : Int) - hi)), .int (iI ((dsN A k (pop sv) l : Int) - lo)), ax_dm, ax_dm] [] n (hx S M N) Q = Q (some (.int (iI R))) n (hx S M N)) {d n : Nat} {S : ax_S} {Q : Option Value → Nat → ax_H → Prop} : ax_W (d + 2 * t + 5) 39 0 [.ref 77, .int (nI k), .int (nI (t + 1)), .int (nI s), .int (nI sv), .int (lsI l), .int (iI lo), .int (iI hi), ax_dm] [] n (hx S M N) Q = Q (some (.int (iI ((dsN A k (pop sv) l : Int) - R)))) n (hx S M N) := by
  have n8 := hW.1.2
  simp only [↓s39_0, ↓s39_1, ↓s39_4, ↓s39_5, ↓s39_7, ↓s39_9, ↓s39_12, jc_77, gf_77_0, gf_77_1, ok_77_1, gf_77_2, ok_77_2, jc_21, gf_21_0, gf_21_1, gf_21_2, gf_21_3, gf_21_4, gf_21_5, ok_21_5, gf_21_6, ok_21_6, ↓c10 hC hW hk hv hl, ct_s, ct_n, ↓bI_01, bI_eq0, bI_eq1, nI_10, nI_01, dec_f, dec_t, if_n, eq_self, true_or, or_true, if_true, if_false, reduceIte]
  simp only [↓s39_14, ↓s39_16, ↓s39_17, ↓s39_18, ↓s39_19, ↓s39_20, ↓s39_21, ↓s39_22, ↓s39_23, ↓s39_25, ↓s39_26, ↓s39_29, ↓s39_30, ↓s39_32, ↓s39_34, ↓s39_35, ↓s39_37, ↓s39_39, ↓s39_40, jc_77, gf_77_0, gf_77_1, ok_77_1, gf_77_2, ok_77_2, jc_21, gf_21_0, gf_21_1, gf_21_2, gf_21_3, gf_21_4, gf_21_5, ok_21_5, gf_21_6, ok_21_6, pk_sub (show 1 ≤ t + 1 by omega), Nat.add_sub_cancel, pk_sub hs, ↓c130, bt_add sv hv k (show k < 8 by omega), iI_nat (dsN A k (pop sv) l), iI_sub, ↓hK, ct_s, ct_n, ↓bI_01, bI_eq0, bI_eq1, nI_10, nI_01, dec_f, dec_t, if_n, eq_self, true_or, or_true, if_true, if_false, reduceIte]
  simp only [↓s39_43, ↓s39_44, iI_sub, ct_s, ct_n, ↓bI_01, bI_eq0, bI_eq1, nI_10, nI_01, dec_f, dec_t, if_n, eq_self, true_or, or_true, if_true, if_false, reduceIte]
theorem c40 {t : Nat} {lo hi R : Int} (ht : t < 100) (hs : s ≤ 1) (hK : ∀ (S : ax_S) (d n : Nat) (Q : Option Value → Nat → ax_H → Prop), ax_W (d + 2 * t + 4) 41 0 [.ref 77, .int (nI t), .int (nI (1 - s)), .int (nI sv), .int (lsI l), .int (iI (-hi)), .int (iI (-lo)), ax_dm, ax_dm] [] n (hx S M N) Q = Q (some (.int (iI R))) n (hx S M N)) {d n : Nat} {S : ax_S} {Q : Option Value → Nat → ax_H → Prop} : ax_W (d + 2 * t + 5) 40 0 [.ref 77, .int (nI (t + 1)), .int (nI s), .int (nI sv), .int (lsI l), .int (iI lo), .int (iI hi)] [] n (hx S M N) Q = Q (some (.int (iI (-R)))) n (hx S M N) := by
  simp only [↓s40_0, ↓s40_1, ↓s40_2, ↓s40_3, ↓s40_4, ↓s40_5, ↓s40_6, ↓s40_7, ↓s40_8, ↓s40_10, ↓s40_12, ↓s40_13, ↓s40_15, ↓s40_16, ↓s40_19, ↓s40_20, jc_77, gf_77_0, gf_77_1, ok_77_1, gf_77_2, ok_77_2, pk_sub (show 1 ≤ t + 1 by omega), Nat.add_sub_cancel, pk_sub hs, iI_neg, ↓hK, ct_s, ct_n, ↓bI_01, bI_eq0, bI_eq1, nI_10, nI_01, dec_f, dec_t, if_n, eq_self, true_or, or_true, if_true, if_false, reduceIte]
/-- the search at t turns is right -/
def P41 (M : ax_M) (N : ax_L) (A : ax_A0) (t : Nat) : Prop := ∀ (s sv : Nat) (l : Option Nat) (lo hi : Int), s ≤ 1 → sv < 256 → (∀ j, l = some j → j < ndA A) → -(1120 - 24 * (t : Int)) ≤ lo → lo < hi → hi ≤ 1120 - 24 * (t : Int) → ∃ R, AB lo hi (gG A t s sv l) R ∧ (-(2000 + 24 * (t : Int)) ≤ R ∧ R ≤ 2000 + 24 * (t : Int)) ∧ ∀ (S : ax_S) (d n : Nat) (Q : Option Value → Nat → ax_H → Prop), ax_W (d + 2 * t + 4) 41 0 [.ref 77, .int (nI t), .int (nI s), .int (nI sv), .int (lsI l), .int (iI lo), .int (iI hi), ax_dm, ax_dm] [] n (hx S M N) Q = Q (some (.int (iI R))) n (hx S M N)
theorem l41 {t : Nat} (ht : t < 5) (hC : RC M 21 A) (hW : WF A) (ih : P41 M N A t) (hs : s ≤ 1) (hv : sv < 256) (hl : ∀ j, l = some j → j < ndA A) {lo hi : Int} (w1 : -(1120 - 24 * ((t + 1 : Nat) : Int)) ≤ lo) (w2 : lo < hi) (w3 : hi ≤ 1120 - 24 * ((t + 1 : Nat) : Int)) : ∀ (c i : Nat) (B : Int), i + c = ndA A → lo ≤ B → B ≤ 2000 + 24 * ((t + 1 : Nat) : Int) → (gmx A s sv (fun k => (dsN A k (pop sv) l : Int) - gG A t (1 - s) (addB sv k) (some k)) i lo < hi → B = gmx A s sv (fun k => (dsN A k (pop sv) l : Int) - gG A t (1 - s) (addB sv k) (some k)) i lo) → (hi ≤ gmx A s sv (fun k => (dsN A k (pop sv) l : Int) - gG A t (1 - s) (addB sv k) (some k)) i lo → hi ≤ B) → ∃ (B2 : Int) (y8 : Value), lo ≤ B2 ∧ B2 ≤ 2000 + 24 * ((t + 1 : Nat) : Int) ∧ (gmx A s sv (fun k => (dsN A k (pop sv) l : Int) - gG A t (1 - s) (addB sv k) (some k)) (ndA A) lo < hi → B2 = gmx A s sv (fun k => (dsN A k (pop sv) l : Int) - gG A t (1 - s) (addB sv k) (some k)) (ndA A) lo) ∧ (hi ≤ gmx A s sv (fun k => (dsN A k (pop sv) l : Int) - gG A t (1 - s) (addB sv k) (some k)) (ndA A) lo → hi ≤ B2) ∧ ∀ (S : ax_S) (d n : Nat) (Q : Option Value → Nat → ax_H → Prop), ax_W (d + 2 * t + 6) 41 13 [.ref 77, .int (nI (t + 1)), .int (nI s), .int (nI sv), .int (lsI l), .int (iI lo), .int (iI hi), .int (iI B), .int (nI i)] [] n (hx S M N) Q = ax_W (d + 2 * t + 6) 41 77 [.ref 77, .int (nI (t + 1)), .int (nI s), .int (nI sv), .int (lsI l), .int (iI lo), .int (iI hi), .int (iI B2), y8] [] n (hx S M N) Q := by
  have n8 := hW.1.2
  generalize hc : (fun k => (dsN A k (pop sv) l : Int) - gG A t (1 - s) (addB sv k) (some k)) = c
  intro r
  induction r with
  | zero =>
    intro i B hi' b1 b2 b3 b4
    have e : i = ndA A := by omega
    subst e
    refine ⟨B, .int (nI (ndA A)), b1, b2, b3, b4, fun S d n Q => ?_⟩
    simp only [↓s41_13, ↓s41_15, ↓s41_16, ↓s41_19, ↓s41_22, ↓s41_25, jc_77, gf_77_0, gf_77_1, ok_77_1, gf_77_2, ok_77_2, jc_21, gf_21_0, gf_21_1, gf_21_2, gf_21_3, gf_21_4, gf_21_5, ok_21_5, gf_21_6, ok_21_6, jc_22, gf_22_0, gf_22_1, gf_22_2, gf_22_3, ok_22_3, ↓c53 h22, (rc_nd hC hW).1, ct_s, ct_n, ↓bI_01, bI_eq0, bI_eq1, nI_10, nI_01, dec_f, dec_t, if_n, eq_self, true_or, or_true, if_true, if_false, reduceIte]
    rw [if_pos (nI_le (a := ndA A) (b := ndA A) (by omega) (by omega))]
  | succ r ihr =>
    intro i B hi' b1 b2 b3 b4
    have hin : i < ndA A := by omega
    by_cases hB : hi ≤ B
    · have g1 : hi ≤ gmx A s sv c i lo := by
        by_cases q : gmx A s sv c i lo < hi
        · have := b3 q; omega
        · omega
      have g2 : hi ≤ gmx A s sv c (ndA A) lo := by
        have := gmx_mono (A := A) (s := s) (sv := sv) (c := c) (ndA A - i) i lo
        rw [show i + (ndA A - i) = ndA A by omega] at this
        omega
      refine ⟨B, .int (nI i), b1, b2, fun q => by omega, fun _ => hB, fun S d n Q => ?_⟩
      simp only [↓s41_13, ↓s41_15, ↓s41_16, ↓s41_19, ↓s41_22, ↓s41_25, jc_77, gf_77_0, gf_77_1, ok_77_1, gf_77_2, ok_77_2, jc_21, gf_21_0, gf_21_1, gf_21_2, gf_21_3, gf_21_4, gf_21_5, ok_21_5, gf_21_6, ok_21_6, jc_22, gf_22_0, gf_22_1, gf_22_2, gf_22_3, ok_22_3, ↓c53 h22, (rc_nd hC hW).1, ct_s, ct_n, ↓bI_01, bI_eq0, bI_eq1, nI_10, nI_01, dec_f, dec_t, if_n, eq_self, true_or, or_true, if_true, if_false, reduceIte]
      rw [if_neg (nI_ge (a := i) (b := ndA A) (by omega) (by omega))]
      simp only [↓s41_28, ↓s41_30, ↓s41_32, ct_s, ct_n, ↓bI_01, bI_eq0, bI_eq1, nI_10, nI_01, dec_f, dec_t, if_n, eq_self, true_or, or_true, if_true, if_false, reduceIte]
      rw [if_pos ((iI_le (by omega) (by omega) (by omega) (by omega)).mpr hB)]
    · have eB : B = gmx A s sv c i lo := b3 (by
        by_cases q : gmx A s sv c i lo < hi
        · exact q
        · have := b4 (by omega); omega)
      have pre : ∀ (S : ax_S) (d n : Nat) (Q : Option Value → Nat → ax_H → Prop), ax_W (d + 2 * t + 6) 41 13 [.ref 77, .int (nI (t + 1)), .int (nI s), .int (nI sv), .int (lsI l), .int (iI lo), .int (iI hi), .int (iI B), .int (nI i)] [] n (hx S M N) Q = ax_W (d + 2 * t + 6) 41 46 [.ref 77, .int (nI (t + 1)), .int (nI s), .int (nI sv), .int (lsI l), .int (iI lo), .int (iI hi), .int (iI B), .int (nI i)] [.int (bI (mayA A i s sv))] n (hx S M N) Q := by
        intro S d n Q
        simp only [↓s41_13, ↓s41_15, ↓s41_16, ↓s41_19, ↓s41_22, ↓s41_25, jc_77, gf_77_0, gf_77_1, ok_77_1, gf_77_2, ok_77_2, jc_21, gf_21_0, gf_21_1, gf_21_2, gf_21_3, gf_21_4, gf_21_5, ok_21_5, gf_21_6, ok_21_6, jc_22, gf_22_0, gf_22_1, gf_22_2, gf_22_3, ok_22_3, ↓c53 h22, (rc_nd hC hW).1, ct_s, ct_n, ↓bI_01, bI_eq0, bI_eq1, nI_10, nI_01, dec_f, dec_t, if_n, eq_self, true_or, or_true, if_true, if_false, reduceIte]
        rw [if_neg (nI_ge (a := i) (b := ndA A) (by omega) (by omega))]
        simp only [↓s41_28, ↓s41_30, ↓s41_32, ct_s, ct_n, ↓bI_01, bI_eq0, bI_eq1, nI_10, nI_01, dec_f, dec_t, if_n, eq_self, true_or, or_true, if_true, if_false, reduceIte]
        rw [if_neg (fun q => hB ((iI_le (by omega) (by omega) (by omega) (by omega)).mp q))]
        simp only [↓s41_35, ↓s41_36, ↓s41_39, ↓s41_41, ↓s41_42, ↓s41_43, jc_77, gf_77_0, gf_77_1, ok_77_1, gf_77_2, ok_77_2, jc_21, gf_21_0, gf_21_1, gf_21_2, gf_21_3, gf_21_4, gf_21_5, ok_21_5, gf_21_6, ok_21_6, ↓c9 hC hW (show i < 1000 by omega) hs hv, ct_s, ct_n, ↓bI_01, bI_eq0, bI_eq1, nI_10, nI_01, dec_f, dec_t, if_n, eq_self, true_or, or_true, if_true, if_false, reduceIte]
      cases e : mayA A i s sv with
      | false =>
        obtain ⟨B2, y8, a1, a2, a3, a4, g⟩ := ihr (i + 1) B (by omega) b1 b2 (by rw [gmx_f e]; exact b3) (by rw [gmx_f e]; exact b4)
        refine ⟨B2, y8, a1, a2, a3, a4, fun S d n Q => ?_⟩
        rw [pre, e]
        simp only [↓s41_46, ↓s41_71, ↓s41_74, nI_add, ct_s, ct_n, ↓bI_01, bI_eq0, bI_eq1, nI_10, nI_01, dec_f, dec_t, if_n, eq_self, true_or, or_true, if_true, if_false, reduceIte]
        exact g S d n Q
      | true =>
        have ds24 := dsN_le hW hin (bt_pop8 sv) hl
        have ecl : c i = (dsN A i (pop sv) l : Int) - gG A t (1 - s) (addB sv i) (some i) := by rw [← hc]
        obtain ⟨R, hAB, hR, hK⟩ := ih (1 - s) (addB sv i) (some i) ((dsN A i (pop sv) l : Int) - hi) ((dsN A i (pop sv) l : Int) - B) (by omega) (bt_lt _ hv _ (by omega)) (fun j hj => by cases hj; exact hin) (by omega) (by omega) (by omega)
        have hK2 := fun (S : ax_S) (n d : Nat) (Q : Option Value → Nat → ax_H → Prop) => c39 (M := M) (N := N) (d := d) (n := n) (Q := Q) (S := S) (R := R) (lo := B) (hi := hi) (by omega) hC hW hin hs hv hl hK
        obtain ⟨q1, q2, q3⟩ := hAB
        generalize hg : gG A t (1 - s) (addB sv i) (some i) = g at *
        generalize hd : dsN A i (pop sv) l = ds at *
        obtain ⟨B2, y8, a1, a2, a3, a4, g5⟩ := ihr (i + 1) (max B ((ds : Int) - R)) (by omega) (by omega) (by omega) (by
          rw [gmx_t e, ecl, ← eB]
          intro q
          by_cases z : (ds : Int) - g ≤ B
          · have := q3 (by omega); omega
          · have := q2 (by omega) (by omega); omega) (by
          rw [gmx_t e, ecl, ← eB]
          intro q
          have := q1 (by omega)
          omega)
        refine ⟨B2, y8, a1, a2, a3, a4, fun S d n Q => ?_⟩
        rw [pre, e]
        simp only [↓s41_46, ↓s41_49, ↓s41_51, ↓s41_52, ↓s41_54, ↓s41_55, ↓s41_56, ↓s41_57, ↓s41_59, ↓s41_61, ↓s41_63, jc_77, gf_77_0, gf_77_1, ok_77_1, gf_77_2, ok_77_2, ↓hK2, ct_s, ct_n, ↓bI_01, bI_eq0, bI_eq1, nI_10, nI_01, dec_f, dec_t, if_n, eq_self, true_or, or_true, if_true, if_false, reduceIte, Bool.true_eq_false]
        simp only [↓s41_66, ↓s41_69, ↓s41_71, ↓s41_74, mxI_j (show -100000 ≤ B ∧ B ≤ 100000 by omega) (show -100000 ≤ (ds : Int) - R ∧ (ds : Int) - R ≤ 100000 by omega), nI_add, ct_s, ct_n, ↓bI_01, bI_eq0, bI_eq1, nI_10, nI_01, dec_f, dec_t, if_n, eq_self, true_or, or_true, if_true, if_false, reduceIte]
        exact g5 S d n Q
end Play2
