/-! ===== play: the reference's pieces ===== -/
section Play4
variable {M : ax_M} {N : ax_L} {d n : Nat} {S : ax_S} {Q : Option Value → Nat → ax_H → Prop} {p : Nat} {x : Int32}
theorem ux_id {a j : Nat} : ux M a j (M a j) = M := by
  funext b k
  unfold ux
  by_cases h : b = a ∧ k = j
  · rw [if_pos h, h.1, h.2]
  · rw [if_neg h]
def ltM (M : ax_M) (p : Nat) : ax_M := ux (ux (ux (ux (ux (ux M 90 p (M 84 6)) 91 p (M 84 7)) 92 p (M 84 8)) 93 p (M 84 9)) 94 p (nI 0)) 95 p (nI 1000000)
def btM (M : ax_M) (p : Nat) : ax_M := ux (ux (ux (ux M 84 6 (M 90 p)) 84 7 (M 91 p)) 84 8 (M 92 p)) 84 9 (M 93 p)
def bet (s : Nat) (o x : Int32) : Bool := decide (o = nI 1000000) || (if s = 0 then decide (o < x) else decide (x < o))
def jgM (M : ax_M) (p : Nat) (b : Bool) (x : Int32) : ax_M := ux (if b = true then (if p = 0 then ux (ux M 95 p x) 84 17 (M 94 p) else ux M 95 p x) else M) 94 p (M 94 p + nI 1)
theorem c173 (hp : p < 6) : ax_W d 173 0 [.ref 84, .int (nI p)] [] n (hx S M N) Q = Q none n (hx S (ltM M p) N) := by
  simp only [↓s173_0, ↓s173_1, ↓s173_4, ↓s173_5, ↓s173_6, ↓s173_9, ↓s173_10, ↓s173_11, ↓s173_14, ↓s173_15, ↓s173_16, ↓s173_19, ↓s173_20, ↓s173_21, ↓s173_24, ↓s173_25, ↓s173_26, ↓s173_29, ↓s173_30, ↓s173_31, ↓s173_34, ↓s173_35, ↓s173_36, ↓s173_39, ↓s173_40, ↓s173_41, ↓s173_44, ↓s173_45, ↓s173_46, ↓s173_47, ↓s173_48, ↓s173_51, ↓s173_52, ↓s173_54, ↓s173_55, jc_84, gf_84_0, gf_84_1, gf_84_2, gf_84_3, gf_84_4, ok_84_4, gf_84_5, ok_84_5, gf_84_6, ok_84_6, gf_84_7, ok_84_7, gf_84_8, ok_84_8, gf_84_9, ok_84_9, gf_84_10, gf_84_11, gf_84_12, gf_84_13, gf_84_14, gf_84_15, gf_84_16, gf_84_17, ok_84_17, gf_84_18, gf_84_19, ok_84_19, gf_84_20, ok_84_20, gf_84_21, gf_84_22, gf_84_23, gf_84_24, ok_84_24, gf_84_25, ok_84_25, gf_84_26, ok_84_26, gf_84_27, ok_84_27, gf_84_28, ok_84_28, gf_84_29, gf_84_30, sa_90 hp, sa_91 hp, sa_92 hp, sa_93 hp, sa_94 hp, sa_95 hp, ux_a (show 84 ≠ 90 by decide), ux_a (show 84 ≠ 91 by decide), ux_a (show 84 ≠ 92 by decide), ct_s, ct_n, ↓bI_01, bI_eq0, bI_eq1, nI_10, nI_01, dec_f, dec_t, if_n, eq_self, true_or, or_true, if_true, if_false, reduceIte]
  rfl
theorem c174 (hp : p < 6) : ax_W d 174 0 [.ref 84, .int (nI p)] [] n (hx S M N) Q = Q none n (hx S (btM M p) N) := by
  simp only [↓s174_0, ↓s174_1, ↓s174_2, ↓s174_5, ↓s174_6, ↓s174_7, ↓s174_10, ↓s174_11, ↓s174_12, ↓s174_15, ↓s174_16, ↓s174_17, ↓s174_20, ↓s174_21, ↓s174_22, ↓s174_25, ↓s174_26, ↓s174_27, ↓s174_30, ↓s174_31, ↓s174_32, ↓s174_35, ↓s174_36, ↓s174_37, ↓s174_40, jc_84, gf_84_0, gf_84_1, gf_84_2, gf_84_3, gf_84_4, ok_84_4, gf_84_5, ok_84_5, gf_84_6, ok_84_6, gf_84_7, ok_84_7, gf_84_8, ok_84_8, gf_84_9, ok_84_9, gf_84_10, gf_84_11, gf_84_12, gf_84_13, gf_84_14, gf_84_15, gf_84_16, gf_84_17, ok_84_17, gf_84_18, gf_84_19, ok_84_19, gf_84_20, ok_84_20, gf_84_21, gf_84_22, gf_84_23, gf_84_24, ok_84_24, gf_84_25, ok_84_25, gf_84_26, ok_84_26, gf_84_27, ok_84_27, gf_84_28, ok_84_28, gf_84_29, gf_84_30, al_90 hp, al_91 hp, al_92 hp, al_93 hp, ux_a (show 91 ≠ 84 by decide), ux_a (show 92 ≠ 84 by decide), ux_a (show 93 ≠ 84 by decide), ct_s, ct_n, ↓bI_01, bI_eq0, bI_eq1, nI_10, nI_01, dec_f, dec_t, if_n, eq_self, true_or, or_true, if_true, if_false, reduceIte]
  rfl
theorem b175 (hp : p < 6) {s : Nat} (hs : s ≤ 1) {b : Bool} : ax_W d 175 43 [.ref 84, .int (nI p), .int (nI s), .int x, ax_dm] [.int (bI b)] n (hx S M N) Q = Q none n (hx S (jgM M p b x) N) := by
  unfold jgM
  cases b with
  | true =>
    simp only [↓s175_43, ↓s175_45, ↓s175_46, ↓s175_49, ↓s175_50, ↓s175_52, ↓s175_55, ↓s175_56, ↓s175_59, ↓s175_60, ↓s175_63, ↓s175_64, ↓s175_65, ↓s175_66, ↓s175_67, ↓s175_69, ↓s175_72, ↓s175_73, jc_84, gf_84_0, gf_84_1, gf_84_2, gf_84_3, gf_84_4, ok_84_4, gf_84_5, ok_84_5, gf_84_6, ok_84_6, gf_84_7, ok_84_7, gf_84_8, ok_84_8, gf_84_9, ok_84_9, gf_84_10, gf_84_11, gf_84_12, gf_84_13, gf_84_14, gf_84_15, gf_84_16, gf_84_17, ok_84_17, gf_84_18, gf_84_19, ok_84_19, gf_84_20, ok_84_20, gf_84_21, gf_84_22, gf_84_23, gf_84_24, ok_84_24, gf_84_25, ok_84_25, gf_84_26, ok_84_26, gf_84_27, ok_84_27, gf_84_28, ok_84_28, gf_84_29, gf_84_30, sa_95 hp, ct_s, ct_n, ↓bI_01, bI_eq0, bI_eq1, nI_10, nI_01, dec_f, dec_t, if_n, eq_self, true_or, or_true, if_true, if_false, reduceIte, Bool.true_eq_false]
    by_cases h : p = 0
    · subst h
      simp only [↓s175_76, ↓s175_77, ↓s175_80, ↓s175_81, ↓s175_82, ↓s175_85, ↓s175_86, ↓s175_89, ↓s175_92, ↓s175_93, ↓s175_96, ↓s175_97, ↓s175_98, ↓s175_99, ↓s175_100, ↓s175_101, ↓s175_102, jc_84, gf_84_0, gf_84_1, gf_84_2, gf_84_3, gf_84_4, ok_84_4, gf_84_5, ok_84_5, gf_84_6, ok_84_6, gf_84_7, ok_84_7, gf_84_8, ok_84_8, gf_84_9, ok_84_9, gf_84_10, gf_84_11, gf_84_12, gf_84_13, gf_84_14, gf_84_15, gf_84_16, gf_84_17, ok_84_17, gf_84_18, gf_84_19, ok_84_19, gf_84_20, ok_84_20, gf_84_21, gf_84_22, gf_84_23, gf_84_24, ok_84_24, gf_84_25, ok_84_25, gf_84_26, ok_84_26, gf_84_27, ok_84_27, gf_84_28, ok_84_28, gf_84_29, gf_84_30, al_94 hp, sa_94 hp, ux_a (show 94 ≠ 95 by decide), ux_a (show 94 ≠ 84 by decide), ct_s, ct_n, ↓bI_01, bI_eq0, bI_eq1, nI_10, nI_01, dec_f, dec_t, if_n, eq_self, true_or, or_true, if_true, if_false, reduceIte]
    · rw [if_neg (fun q => h ((nI_eq (a := p) (b := 0) (by omega) (by omega)).mp q)), if_neg h]
      simp only [↓s175_85, ↓s175_86, ↓s175_89, ↓s175_92, ↓s175_93, ↓s175_96, ↓s175_97, ↓s175_98, ↓s175_99, ↓s175_100, ↓s175_101, ↓s175_102, jc_84, gf_84_0, gf_84_1, gf_84_2, gf_84_3, gf_84_4, ok_84_4, gf_84_5, ok_84_5, gf_84_6, ok_84_6, gf_84_7, ok_84_7, gf_84_8, ok_84_8, gf_84_9, ok_84_9, gf_84_10, gf_84_11, gf_84_12, gf_84_13, gf_84_14, gf_84_15, gf_84_16, gf_84_17, ok_84_17, gf_84_18, gf_84_19, ok_84_19, gf_84_20, ok_84_20, gf_84_21, gf_84_22, gf_84_23, gf_84_24, ok_84_24, gf_84_25, ok_84_25, gf_84_26, ok_84_26, gf_84_27, ok_84_27, gf_84_28, ok_84_28, gf_84_29, gf_84_30, al_94 hp, sa_94 hp, ux_id, ux_a (show 94 ≠ 95 by decide), ct_s, ct_n, ↓bI_01, bI_eq0, bI_eq1, nI_10, nI_01, dec_f, dec_t, if_n, eq_self, true_or, or_true, if_true, if_false, reduceIte]
  | false =>
    simp only [↓s175_43, ↓s175_45, ↓s175_46, ↓s175_49, ↓s175_50, ↓s175_52, ↓s175_55, ↓s175_56, ↓s175_59, ↓s175_60, ↓s175_63, ↓s175_64, ↓s175_65, ↓s175_66, ↓s175_67, ↓s175_69, ↓s175_72, ↓s175_73, ↓s175_76, ↓s175_77, ↓s175_80, ↓s175_81, ↓s175_82, ↓s175_85, ↓s175_86, ↓s175_89, ↓s175_92, ↓s175_93, ↓s175_96, ↓s175_97, ↓s175_98, ↓s175_99, ↓s175_100, ↓s175_101, ↓s175_102, jc_84, gf_84_0, gf_84_1, gf_84_2, gf_84_3, gf_84_4, ok_84_4, gf_84_5, ok_84_5, gf_84_6, ok_84_6, gf_84_7, ok_84_7, gf_84_8, ok_84_8, gf_84_9, ok_84_9, gf_84_10, gf_84_11, gf_84_12, gf_84_13, gf_84_14, gf_84_15, gf_84_16, gf_84_17, ok_84_17, gf_84_18, gf_84_19, ok_84_19, gf_84_20, ok_84_20, gf_84_21, gf_84_22, gf_84_23, gf_84_24, ok_84_24, gf_84_25, ok_84_25, gf_84_26, ok_84_26, gf_84_27, ok_84_27, gf_84_28, ok_84_28, gf_84_29, gf_84_30, al_95 hp, sa_95 hp, ux_id, al_94 hp, sa_94 hp, ct_s, ct_n, ↓bI_01, bI_eq0, bI_eq1, nI_10, nI_01, dec_f, dec_t, if_n, eq_self, true_or, or_true, if_true, if_false, reduceIte, Bool.false_eq_true]
theorem c175 (hp : p < 6) {s : Nat} (hs : s ≤ 1) : ax_W d 175 0 [.ref 84, .int (nI p), .int (nI s), .int x, ax_dm] [] n (hx S M N) Q = Q none n (hx S (jgM M p (bet s (M 95 p) x) x) N) := by
  simp only [↓s175_0, ↓s175_1, ↓s175_4, ↓s175_5, ↓s175_6, ↓s175_8, jc_84, gf_84_0, gf_84_1, gf_84_2, gf_84_3, gf_84_4, ok_84_4, gf_84_5, ok_84_5, gf_84_6, ok_84_6, gf_84_7, ok_84_7, gf_84_8, ok_84_8, gf_84_9, ok_84_9, gf_84_10, gf_84_11, gf_84_12, gf_84_13, gf_84_14, gf_84_15, gf_84_16, gf_84_17, ok_84_17, gf_84_18, gf_84_19, ok_84_19, gf_84_20, ok_84_20, gf_84_21, gf_84_22, gf_84_23, gf_84_24, ok_84_24, gf_84_25, ok_84_25, gf_84_26, ok_84_26, gf_84_27, ok_84_27, gf_84_28, ok_84_28, gf_84_29, gf_84_30, al_95 hp, ct_s, ct_n, ↓bI_01, bI_eq0, bI_eq1, nI_10, nI_01, dec_f, dec_t, if_n, eq_self, true_or, or_true, if_true, if_false, reduceIte]
  unfold bet
  by_cases h : M 95 p = nI 1000000
  · rw [if_pos h, decide_eq_true h, Bool.true_or]
    simp only [↓s175_38, ↓s175_39, ct_s, ct_n, ↓bI_01, bI_eq0, bI_eq1, nI_10, nI_01, dec_f, dec_t, if_n, eq_self, true_or, or_true, if_true, if_false, reduceIte]
    exact b175 (b := true) hp hs
  · rw [if_neg h, decide_eq_false h, Bool.false_or]
    rcases (show s = 0 ∨ s = 1 by omega) with rfl | rfl
    · rw [if_pos rfl]
      simp only [↓s175_11, ↓s175_12, ↓s175_15, ↓s175_16, ↓s175_17, ↓s175_20, ↓s175_21, ↓s175_22, jc_84, gf_84_0, gf_84_1, gf_84_2, gf_84_3, gf_84_4, ok_84_4, gf_84_5, ok_84_5, gf_84_6, ok_84_6, gf_84_7, ok_84_7, gf_84_8, ok_84_8, gf_84_9, ok_84_9, gf_84_10, gf_84_11, gf_84_12, gf_84_13, gf_84_14, gf_84_15, gf_84_16, gf_84_17, ok_84_17, gf_84_18, gf_84_19, ok_84_19, gf_84_20, ok_84_20, gf_84_21, gf_84_22, gf_84_23, gf_84_24, ok_84_24, gf_84_25, ok_84_25, gf_84_26, ok_84_26, gf_84_27, ok_84_27, gf_84_28, ok_84_28, gf_84_29, gf_84_30, al_95 hp, ct_s, ct_n, ↓bI_01, bI_eq0, bI_eq1, nI_10, nI_01, dec_f, dec_t, if_n, eq_self, true_or, or_true, if_true, if_false, reduceIte]
      by_cases e : M 95 p < x
      · rw [if_neg (Int32.not_le.mpr e), decide_eq_true e]
        simp only [↓s175_25, ↓s175_28, ↓s175_29, ↓s175_30, ↓s175_33, ↓s175_34, ↓s175_35, ↓s175_38, ↓s175_39, ct_s, ct_n, ↓bI_01, bI_eq0, bI_eq1, nI_10, nI_01, dec_f, dec_t, if_n, eq_self, true_or, or_true, if_true, if_false, reduceIte]
        exact b175 (b := true) hp (by omega)
      · rw [if_pos (Int32.not_lt.mp e), decide_eq_false e]
        simp only [↓s175_42, ct_s, ct_n, ↓bI_01, bI_eq0, bI_eq1, nI_10, nI_01, dec_f, dec_t, if_n, eq_self, true_or, or_true, if_true, if_false, reduceIte]
        exact b175 (b := false) hp (by omega)
    · rw [if_neg (show ¬ (1 : Nat) = 0 by decide)]
      simp only [↓s175_11, ↓s175_12, ct_s, ct_n, ↓bI_01, bI_eq0, bI_eq1, nI_10, nI_01, dec_f, dec_t, if_n, eq_self, true_or, or_true, if_true, if_false, reduceIte]
      simp only [↓s175_28, ↓s175_29, ↓s175_30, ↓s175_33, ↓s175_34, ↓s175_35, jc_84, gf_84_0, gf_84_1, gf_84_2, gf_84_3, gf_84_4, ok_84_4, gf_84_5, ok_84_5, gf_84_6, ok_84_6, gf_84_7, ok_84_7, gf_84_8, ok_84_8, gf_84_9, ok_84_9, gf_84_10, gf_84_11, gf_84_12, gf_84_13, gf_84_14, gf_84_15, gf_84_16, gf_84_17, ok_84_17, gf_84_18, gf_84_19, ok_84_19, gf_84_20, ok_84_20, gf_84_21, gf_84_22, gf_84_23, gf_84_24, ok_84_24, gf_84_25, ok_84_25, gf_84_26, ok_84_26, gf_84_27, ok_84_27, gf_84_28, ok_84_28, gf_84_29, gf_84_30, al_95 hp, ct_s, ct_n, ↓bI_01, bI_eq0, bI_eq1, nI_10, nI_01, dec_f, dec_t, if_n, eq_self, true_or, or_true, if_true, if_false, reduceIte]
      by_cases e : x < M 95 p
      · rw [if_neg (Int32.not_le.mpr e), decide_eq_true e]
        simp only [↓s175_38, ↓s175_39, ct_s, ct_n, ↓bI_01, bI_eq0, bI_eq1, nI_10, nI_01, dec_f, dec_t, if_n, eq_self, true_or, or_true, if_true, if_false, reduceIte]
        exact b175 (b := true) hp (by omega)
      · rw [if_pos (Int32.not_lt.mp e), decide_eq_false e]
        simp only [↓s175_42, ct_s, ct_n, ↓bI_01, bI_eq0, bI_eq1, nI_10, nI_01, dec_f, dec_t, if_n, eq_self, true_or, or_true, if_true, if_false, reduceIte]
        exact b175 (b := false) hp (by omega)
/-! pure -/
variable {A : ax_A0}
theorem pO_gmx {s sv : Nat} {c : Nat → Int} : ∀ i, (pO A s sv c i).1 = gmx A s sv c i (-1000) := by
  intro i
  induction i with
  | zero => rfl
  | succ i ih =>
    cases e : mayA A i s sv with
    | false =>
      rw [gmx_f e, show pO A s sv c (i + 1) = pO A s sv c i from if_neg (fun q => by rw [q.1] at e; cases e)]
      exact ih
    | true =>
      rw [gmx_t e, ← ih]
      by_cases z : (pO A s sv c i).1 < c i
      · rw [show pO A s sv c (i + 1) = (c i, i) from if_pos ⟨e, z⟩]
        show c i = _
        omega
      · rw [show pO A s sv c (i + 1) = pO A s sv c i from if_neg (fun q => z q.2)]
        omega
theorem pE_g (hW : WF A) {t s sv : Nat} {l : Option Nat} (ht : t ≤ 4) (hv : sv < 256) (hl : ∀ j, l = some j → j < ndA A) : (pE A t s sv l).1 = gG A (t + 1) s sv l := by
  have gb := gG_bd hW t (1 - s) sv l hv hl
  have h1 := gmx_max (A := A) (s := s) (sv := sv) (c := fun k => (dsN A k (pop sv) l : Int) - gG A t (1 - s) (addB sv k) (some k)) (b := - gG A t (1 - s) sv l) (ndA A) (-1000)
  rw [show max (-1000) (- gG A t (1 - s) sv l) = - gG A t (1 - s) sv l by omega] at h1
  rw [show gG A (t + 1) s sv l = gmx A s sv (fun k => (dsN A k (pop sv) l : Int) - gG A t (1 - s) (addB sv k) (some k)) (ndA A) (- gG A t (1 - s) sv l) from rfl, h1, ← pO_gmx]
  unfold pE
  by_cases z : (pO A s sv (fun k => (dsN A k (pop sv) l : Int) - gG A t (1 - s) (addB sv k) (some k)) (ndA A)).1 < - gG A t (1 - s) sv l
  · rw [if_pos z]
    show - gG A t (1 - s) sv l = _
    omega
  · rw [if_neg z]
    omega
def sgn (s : Nat) (x : Int) : Int := if s = 0 then x else -x
/-- what comes of evening v, t turns left, side s to move -/
def vV (A : ax_A0) (t s : Nat) (v : ax_V) : Int := v.2.2 + sgn s (gG A t s v.1 v.2.1)
theorem vV_d {t s k : Nat} {v : ax_V} (hs : s ≤ 1) : vV A t (1 - s) (evS A s k v) = v.2.2 + sgn s ((dsN A k (pop v.1) v.2.1 : Int) - gG A t (1 - s) (addB v.1 k) (some k)) := by
  unfold vV evS sgn sg
  rcases (show s = 0 ∨ s = 1 by omega) with rfl | rfl
  · simp only [if_true, show ¬ (1 - 0 : Nat) = 0 by decide, if_false]
    omega
  · simp only [show ¬ (1 : Nat) = 0 by decide, show (1 - 1 : Nat) = 0 by decide, if_true, if_false]
    omega
theorem vV_n {t s : Nat} {v : ax_V} (hs : s ≤ 1) : vV A t (1 - s) v = v.2.2 + sgn s (- gG A t (1 - s) v.1 v.2.1) := by
  unfold vV sgn
  rcases (show s = 0 ∨ s = 1 by omega) with rfl | rfl
  · simp only [if_true, show ¬ (1 - 0 : Nat) = 0 by decide, if_false]
  · simp only [show ¬ (1 : Nat) = 0 by decide, show (1 - 1 : Nat) = 0 by decide, if_true, if_false]
    omega
end Play4
