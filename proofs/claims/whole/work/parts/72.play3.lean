/-! ===== play: the class's answer ===== -/
section Play3
variable {M : ax_M} {N : ax_L} {A : ax_A0} {s sv : Nat} {l : Option Nat}
theorem P41_all (hC : RC M 21 A) (hW : WF A) : ∀ t, t ≤ 5 → P41 M N A t := by
  intro t
  induction t with
  | zero =>
    intro _ s sv l lo hi hs hv hl w1 w2 w3
    refine ⟨0, ⟨fun q => q, fun _ _ => rfl, fun q => q⟩, ⟨by decide, by decide⟩, fun S d n Q => ?_⟩
    simp only [↓s41_0, ↓s41_1, ↓s41_4, ↓s41_5, show ¬ nI 0 < nI 0 by decide, ct_s, ct_n, ↓bI_01, bI_eq0, bI_eq1, nI_10, nI_01, dec_f, dec_t, if_n, eq_self, true_or, or_true, if_true, if_false, reduceIte]
    rw [i_0]
  | succ t ih =>
    intro ht s sv l lo hi hs hv hl w1 w2 w3
    have ih := ih (by omega)
    obtain ⟨B2, y8, a1, a2, a3, a4, g⟩ := l41 (by omega) hC hW ih hs hv hl w1 w2 w3 (ndA A) 0 lo (by omega) (Int.le_refl _) (by omega) (fun _ => rfl) (fun q => q)
    have hX := gmx_max (A := A) (s := s) (sv := sv) (c := fun k => (dsN A k (pop sv) l : Int) - gG A t (1 - s) (addB sv k) (some k)) (b := - gG A t (1 - s) sv l) (ndA A) lo
    have hY := gmx_max (A := A) (s := s) (sv := sv) (c := fun k => (dsN A k (pop sv) l : Int) - gG A t (1 - s) (addB sv k) (some k)) (b := lo) (ndA A) (- gG A t (1 - s) sv l)
    rw [show max (- gG A t (1 - s) sv l) lo = max lo (- gG A t (1 - s) sv l) by omega, hX] at hY
    rw [show gmx A s sv (fun k => (dsN A k (pop sv) l : Int) - gG A t (1 - s) (addB sv k) (some k)) (ndA A) (- gG A t (1 - s) sv l) = gG A (t + 1) s sv l from rfl] at hY
    generalize gG A (t + 1) s sv l = gg at *
    generalize gmx A s sv (fun k => (dsN A k (pop sv) l : Int) - gG A t (1 - s) (addB sv k) (some k)) (ndA A) lo = X at *
    have pre : ∀ (S : ax_S) (d n : Nat) (Q : Option Value → Nat → ax_H → Prop), ax_W (d + 2 * (t + 1) + 4) 41 0 [.ref 77, .int (nI (t + 1)), .int (nI s), .int (nI sv), .int (lsI l), .int (iI lo), .int (iI hi), ax_dm, ax_dm] [] n (hx S M N) Q = ax_W (d + 2 * t + 6) 41 77 [.ref 77, .int (nI (t + 1)), .int (nI s), .int (nI sv), .int (lsI l), .int (iI lo), .int (iI hi), .int (iI B2), y8] [] n (hx S M N) Q := by
      intro S d n Q
      rw [show d + 2 * (t + 1) + 4 = d + 2 * t + 6 by omega]
      simp only [↓s41_0, ↓s41_1, ct_s, ct_n, ↓bI_01, bI_eq0, bI_eq1, nI_10, nI_01, dec_f, dec_t, if_n, eq_self, true_or, or_true, if_true, if_false, reduceIte]
      rw [if_pos (nI_lt (a := 0) (b := t + 1) (by omega) (by omega))]
      simp only [↓s41_6, ↓s41_8, ↓s41_10, ↓s41_11, ct_s, ct_n, ↓bI_01, bI_eq0, bI_eq1, nI_10, nI_01, dec_f, dec_t, if_n, eq_self, true_or, or_true, if_true, if_false, reduceIte]
      exact g S d n Q
    by_cases hB : hi ≤ B2
    · refine ⟨B2, ⟨fun q => by omega, fun q1 q2 => by omega, fun q => hB⟩, ⟨by omega, by omega⟩, fun S d n Q => ?_⟩
      rw [pre]
      simp only [↓s41_77, ↓s41_79, ↓s41_81, ct_s, ct_n, ↓bI_01, bI_eq0, bI_eq1, nI_10, nI_01, dec_f, dec_t, if_n, eq_self, true_or, or_true, if_true, if_false, reduceIte]
      rw [if_pos ((iI_le (by omega) (by omega) (by omega) (by omega)).mpr hB)]
      simp only [↓s41_104, ↓s41_106, ct_s, ct_n, ↓bI_01, bI_eq0, bI_eq1, nI_10, nI_01, dec_f, dec_t, if_n, eq_self, true_or, or_true, if_true, if_false, reduceIte]
    · obtain ⟨R, ⟨q1, q2, q3⟩, hR, hK⟩ := ih (1 - s) sv l (-hi) (-B2) (by omega) hv hl (by omega) (by omega) (by omega)
      have hK2 := fun (S : ax_S) (n d : Nat) (Q : Option Value → Nat → ax_H → Prop) => c40 (M := M) (N := N) (d := d) (n := n) (Q := Q) (S := S) (R := R) (lo := B2) (hi := hi) (t := t) (by omega) hs hK
      have hxx : B2 = X := a3 (by omega)
      refine ⟨max B2 (-R), ?_, ⟨by omega, by omega⟩, fun S d n Q => ?_⟩
      · generalize gG A t (1 - s) sv l = gN at *
        refine ⟨fun q => ?_, fun q1' q2' => ?_, fun q => ?_⟩
        · have := q3 (by omega); omega
        · by_cases z : -gN ≤ X
          · have := q3 (by omega); omega
          · have := q2 (by omega) (by omega); omega
        · have := q1 (by omega); omega
      · rw [pre]
        simp only [↓s41_77, ↓s41_79, ↓s41_81, ct_s, ct_n, ↓bI_01, bI_eq0, bI_eq1, nI_10, nI_01, dec_f, dec_t, if_n, eq_self, true_or, or_true, if_true, if_false, reduceIte]
        rw [if_neg (fun q => hB ((iI_le (by omega) (by omega) (by omega) (by omega)).mp q))]
        simp only [↓s41_84, ↓s41_86, ↓s41_87, ↓s41_88, ↓s41_89, ↓s41_90, ↓s41_92, ↓s41_94, ↓s41_96, jc_77, gf_77_0, gf_77_1, ok_77_1, gf_77_2, ok_77_2, ↓hK2, ct_s, ct_n, ↓bI_01, bI_eq0, bI_eq1, nI_10, nI_01, dec_f, dec_t, if_n, eq_self, true_or, or_true, if_true, if_false, reduceIte]
        simp only [↓s41_99, ↓s41_102, ↓s41_104, ↓s41_106, mxI_j (show -100000 ≤ B2 ∧ B2 ≤ 100000 by omega) (show -100000 ≤ -R ∧ -R ≤ 100000 by omega), ct_s, ct_n, ↓bI_01, bI_eq0, bI_eq1, nI_10, nI_01, dec_f, dec_t, if_n, eq_self, true_or, or_true, if_true, if_false, reduceIte]
/-- the choice so far -/
def pO (A : ax_A0) (s sv : Nat) (c : Nat → Int) : Nat → Int × Nat
  | 0 => (-1000, 8)
  | i + 1 => if mayA A i s sv = true ∧ (pO A s sv c i).1 < c i then (c i, i) else pO A s sv c i
def pE (A : ax_A0) (t s sv : Nat) (l : Option Nat) : Int × Nat :=
  if (pO A s sv (fun k => (dsN A k (pop sv) l : Int) - gG A t (1 - s) (addB sv k) (some k)) (ndA A)).1 < - gG A t (1 - s) sv l then (- gG A t (1 - s) sv l, 8) else pO A s sv (fun k => (dsN A k (pop sv) l : Int) - gG A t (1 - s) (addB sv k) (some k)) (ndA A)
def plM (M : ax_M) (p : Int × Nat) : ax_M := ux (ux M 77 1 (iI p.1)) 77 2 (nI p.2)
theorem pl_1 {p : Int × Nat} : plM M p 77 1 = iI p.1 := by unfold plM; rw [ux_j (by decide), ux_s]
theorem pl_2 {p : Int × Nat} : plM M p 77 2 = nI p.2 := by unfold plM; rw [ux_s]
theorem pl_o {p : Int × Nat} {a : Nat} (h : a ≠ 77) : plM M p a = M a := by unfold plM; rw [ux_f h, ux_f h]
theorem pl_pl {p q : Int × Nat} : ux (ux (plM M p) 77 1 (iI q.1)) 77 2 (nI q.2) = plM M q := by
  unfold plM
  funext b j
  unfold ux
  by_cases hb : b = 77
  · subst hb
    by_cases h1 : j = 1
    · subst h1; simp
    · by_cases h2 : j = 2
      · subst h2; simp
      · simp [h1, h2]
  · simp [hb]
theorem c38 {p : Int × Nat} {k : Nat} {x : Int} (hxx : -100000 ≤ x ∧ x ≤ 100000) (hp : -100000 ≤ p.1 ∧ p.1 ≤ 100000) {d n : Nat} {S : ax_S} {Q : Option Value → Nat → ax_H → Prop} : ax_W d 38 0 [.ref 77, .int (nI k), .int (iI x)] [] n (hx S (plM M p) N) Q = Q none n (hx S (plM M (if p.1 < x then (x, k) else p)) N) := by
  simp only [↓s38_0, ↓s38_1, ↓s38_2, ↓s38_5, jc_77, gf_77_0, gf_77_1, ok_77_1, gf_77_2, ok_77_2, pl_1, ct_s, ct_n, ↓bI_01, bI_eq0, bI_eq1, nI_10, nI_01, dec_f, dec_t, if_n, eq_self, true_or, or_true, if_true, if_false, reduceIte]
  by_cases h : p.1 < x
  · rw [if_pos h, if_neg (fun q => by have := (iI_le (by omega) (by omega) (by omega) (by omega)).mp q; omega)]
    simp only [↓s38_8, ↓s38_9, ↓s38_10, ↓s38_13, ↓s38_14, ↓s38_15, ↓s38_18, jc_77, gf_77_0, gf_77_1, ok_77_1, gf_77_2, ok_77_2, ct_s, ct_n, ↓bI_01, bI_eq0, bI_eq1, nI_10, nI_01, dec_f, dec_t, if_n, eq_self, true_or, or_true, if_true, if_false, reduceIte]
    exact congrArg (fun m => Q none n (hx S m N)) (pl_pl (q := (x, k)))
  · rw [if_neg h, if_pos ((iI_le (by omega) (by omega) (by omega) (by omega)).mpr (by omega))]
    simp only [↓s38_18, ct_s, ct_n, ↓bI_01, bI_eq0, bI_eq1, nI_10, nI_01, dec_f, dec_t, if_n, eq_self, true_or, or_true, if_true, if_false, reduceIte]
theorem pO_bd {c : Nat → Int} : ∀ i, i ≤ ndA A → (∀ k, k < ndA A → mayA A k s sv = true → -200 ≤ c k ∧ c k ≤ 200) → -1000 ≤ (pO A s sv c i).1 ∧ (pO A s sv c i).1 ≤ 200 := by
  intro i
  induction i with
  | zero => intro _ _; exact ⟨show (-1000 : Int) ≤ -1000 by decide, show (-1000 : Int) ≤ 200 by decide⟩
  | succ i ih =>
    intro hi hc
    have h := ih (by omega) hc
    by_cases e : mayA A i s sv = true ∧ (pO A s sv c i).1 < c i
    · rw [show pO A s sv c (i + 1) = (c i, i) from if_pos e]
      have := hc i (by omega) e.1
      exact ⟨by show -1000 ≤ c i; omega, this.2⟩
    · rw [show pO A s sv c (i + 1) = pO A s sv c i from if_neg e]
      exact h
theorem cd_bd (hW : WF A) {t : Nat} (ht : t ≤ 4) (hv : sv < 256) (hl : ∀ j, l = some j → j < ndA A) : ∀ k, k < ndA A → mayA A k s sv = true → -200 ≤ (dsN A k (pop sv) l : Int) - gG A t (1 - s) (addB sv k) (some k) ∧ (dsN A k (pop sv) l : Int) - gG A t (1 - s) (addB sv k) (some k) ≤ 200 := by
  have n8 := hW.1.2
  intro k hk hm
  have h1 := gG_bd hW t (1 - s) (addB sv k) (some k) (bt_lt _ hv _ (by omega)) (fun j hj => by cases hj; exact hk)
  have h2 := dsN_le hW hk (bt_pop8 sv) hl
  omega
theorem l37 (hC : RC M 21 A) (hW : WF A) {t : Nat} (ht : t ≤ 4) (hs : s ≤ 1) (hv : sv < 256) (hl : ∀ j, l = some j → j < ndA A) {d n : Nat} {S : ax_S} {Q : Option Value → Nat → ax_H → Prop} : ∀ (r i : Nat), i + r = ndA A → ax_W (d + 2 * t + 6) 37 33 [.ref 77, .int (nI (t + 1)), .int (nI s), .int (nI sv), .int (lsI l), .int (nI i)] [] n (hx S (plM M (pO A s sv (fun k => (dsN A k (pop sv) l : Int) - gG A t (1 - s) (addB sv k) (some k)) i)) N) Q = Q none n (hx S (plM M (pE A t s sv l)) N) := by
  have n8 := hW.1.2
  have hcd := cd_bd (s := s) hW ht hv hl
  have hCp : ∀ p, RC (plM M p) 21 A := fun p => RC_keep (fun b _ _ => pl_o (by omega)) hC
  unfold pE
  generalize hc : (fun k => (dsN A k (pop sv) l : Int) - gG A t (1 - s) (addB sv k) (some k)) = c
  have ecl : ∀ k, c k = (dsN A k (pop sv) l : Int) - gG A t (1 - s) (addB sv k) (some k) := fun k => by rw [← hc]
  have hcd2 : ∀ k, k < ndA A → mayA A k s sv = true → -200 ≤ c k ∧ c k ≤ 200 := fun k h1 h2 => by rw [ecl]; exact hcd k h1 h2
  intro r
  induction r with
  | zero =>
    intro i hi
    have e : i = ndA A := by omega
    subst e
    have pb := pO_bd (c := c) (ndA A) (Nat.le_refl _) hcd2
    have gb := gG_bd hW t (1 - s) sv l hv hl
    obtain ⟨R, ⟨q1, q2, q3⟩, hR, hK⟩ := P41_all (N := N) (hCp (pO A s sv c (ndA A))) hW t (by omega) (1 - s) sv l (-1000) (-(pO A s sv c (ndA A)).1) (by omega) hv hl (by omega) (by omega) (by omega)
    have hK2 := fun (d : Nat) (Q : Option Value → Nat → ax_H → Prop) => c40 (d := d) (n := n) (Q := Q) (S := S) (N := N) (R := R) (lo := (pO A s sv c (ndA A)).1) (hi := 1000) (t := t) (by omega) hs hK
    simp only [↓s37_33, ↓s37_35, ↓s37_36, ↓s37_39, ↓s37_42, ↓s37_45, jc_77, gf_77_0, gf_77_1, ok_77_1, gf_77_2, ok_77_2, jc_21, gf_21_0, gf_21_1, gf_21_2, gf_21_3, gf_21_4, gf_21_5, ok_21_5, gf_21_6, ok_21_6, jc_22, gf_22_0, gf_22_1, gf_22_2, gf_22_3, ok_22_3, ↓c53 h22, (rc_nd (hCp _) hW).1, ct_s, ct_n, ↓bI_01, bI_eq0, bI_eq1, nI_10, nI_01, dec_f, dec_t, if_n, eq_self, true_or, or_true, if_true, if_false, reduceIte]
    rw [if_pos (nI_le (a := ndA A) (b := ndA A) (by omega) (by omega))]
    simp only [↓s37_92, ↓s37_93, ↓s37_95, ↓s37_96, ↓s37_97, ↓s37_98, ↓s37_99, ↓s37_101, ↓s37_102, ↓s37_105, ↓s37_108, jc_77, gf_77_0, gf_77_1, ok_77_1, gf_77_2, ok_77_2, pl_1, show nI 1000 = iI 1000 by decide, ↓hK2, ct_s, ct_n, ↓bI_01, bI_eq0, bI_eq1, nI_10, nI_01, dec_f, dec_t, if_n, eq_self, true_or, or_true, if_true, if_false, reduceIte]
    simp only [↓s37_111, ↓s37_114, jc_77, gf_77_0, gf_77_1, ok_77_1, gf_77_2, ok_77_2, ↓c38 (show -100000 ≤ -R ∧ -R ≤ 100000 by omega) (show -100000 ≤ (pO A s sv c (ndA A)).1 ∧ (pO A s sv c (ndA A)).1 ≤ 100000 by omega), ct_s, ct_n, ↓bI_01, bI_eq0, bI_eq1, nI_10, nI_01, dec_f, dec_t, if_n, eq_self, true_or, or_true, if_true, if_false, reduceIte]
    by_cases z : (pO A s sv c (ndA A)).1 < -gG A t (1 - s) sv l
    · have e := q2 (by omega) (by omega)
      rw [e]
    · have e := q3 (by omega)
      rw [if_neg z, if_neg (by omega)]
  | succ r ih =>
    intro i hi
    have hin : i < ndA A := by omega
    have ih := ih (i + 1) (by omega)
    have pb := pO_bd (c := c) i (by omega) hcd2
    simp only [↓s37_33, ↓s37_35, ↓s37_36, ↓s37_39, ↓s37_42, ↓s37_45, jc_77, gf_77_0, gf_77_1, ok_77_1, gf_77_2, ok_77_2, jc_21, gf_21_0, gf_21_1, gf_21_2, gf_21_3, gf_21_4, gf_21_5, ok_21_5, gf_21_6, ok_21_6, jc_22, gf_22_0, gf_22_1, gf_22_2, gf_22_3, ok_22_3, ↓c53 h22, (rc_nd (hCp _) hW).1, ct_s, ct_n, ↓bI_01, bI_eq0, bI_eq1, nI_10, nI_01, dec_f, dec_t, if_n, eq_self, true_or, or_true, if_true, if_false, reduceIte]
    rw [if_neg (nI_ge (a := i) (b := ndA A) (by omega) (by omega))]
    simp only [↓s37_48, ↓s37_49, ↓s37_52, ↓s37_54, ↓s37_55, ↓s37_56, jc_77, gf_77_0, gf_77_1, ok_77_1, gf_77_2, ok_77_2, jc_21, gf_21_0, gf_21_1, gf_21_2, gf_21_3, gf_21_4, gf_21_5, ok_21_5, gf_21_6, ok_21_6, ↓c9 (hCp _) hW (show i < 1000 by omega) hs hv, ct_s, ct_n, ↓bI_01, bI_eq0, bI_eq1, nI_10, nI_01, dec_f, dec_t, if_n, eq_self, true_or, or_true, if_true, if_false, reduceIte]
    cases e : mayA A i s sv with
    | false =>
      rw [show pO A s sv c (i + 1) = pO A s sv c i from if_neg (fun q => by rw [q.1] at e; cases e)] at ih
      simp only [↓s37_59, ↓s37_86, ↓s37_89, nI_add, ct_s, ct_n, ↓bI_01, bI_eq0, bI_eq1, nI_10, nI_01, dec_f, dec_t, if_n, eq_self, true_or, or_true, if_true, if_false, reduceIte]
      exact ih
    | true =>
      have ds24 := dsN_le hW hin (bt_pop8 sv) hl
      have cb := hcd2 i hin e
      have ei := ecl i
      obtain ⟨R, ⟨q1, q2, q3⟩, hR, hK⟩ := P41_all (N := N) (hCp (pO A s sv c i)) hW t (by omega) (1 - s) (addB sv i) (some i) ((dsN A i (pop sv) l : Int) - 1000) ((dsN A i (pop sv) l : Int) - (pO A s sv c i).1) (by omega) (bt_lt _ hv _ (by omega)) (fun j hj => by cases hj; exact hin) (by omega) (by omega) (by omega)
      have hK2 := fun (d : Nat) (Q : Option Value → Nat → ax_H → Prop) => c39 (d := d) (n := n) (Q := Q) (S := S) (N := N) (R := R) (lo := (pO A s sv c i).1) (hi := 1000) (t := t) (by omega) (hCp (pO A s sv c i)) hW hin hs hv hl hK
      simp only [↓s37_59, ↓s37_62, ↓s37_63, ↓s37_65, ↓s37_66, ↓s37_68, ↓s37_69, ↓s37_70, ↓s37_71, ↓s37_73, ↓s37_74, ↓s37_77, ↓s37_80, jc_77, gf_77_0, gf_77_1, ok_77_1, gf_77_2, ok_77_2, pl_1, show nI 1000 = iI 1000 by decide, ↓hK2, ct_s, ct_n, ↓bI_01, bI_eq0, bI_eq1, nI_10, nI_01, dec_f, dec_t, if_n, eq_self, true_or, or_true, if_true, if_false, reduceIte, Bool.true_eq_false]
      simp only [↓s37_83, ↓s37_86, ↓s37_89, jc_77, gf_77_0, gf_77_1, ok_77_1, gf_77_2, ok_77_2, ↓c38 (show -100000 ≤ (dsN A i (pop sv) l : Int) - R ∧ (dsN A i (pop sv) l : Int) - R ≤ 100000 by omega) (show -100000 ≤ (pO A s sv c i).1 ∧ (pO A s sv c i).1 ≤ 100000 by omega), nI_add, ct_s, ct_n, ↓bI_01, bI_eq0, bI_eq1, nI_10, nI_01, dec_f, dec_t, if_n, eq_self, true_or, or_true, if_true, if_false, reduceIte]
      by_cases z : (pO A s sv c i).1 < c i
      · have e5 := q2 (by omega) (by omega)
        rw [show pO A s sv c (i + 1) = (c i, i) from if_pos ⟨e, z⟩] at ih
        rw [e5, ← ei, if_pos z]
        exact ih
      · have e5 := q3 (by omega)
        rw [show pO A s sv c (i + 1) = pO A s sv c i from if_neg (fun q => z q.2)] at ih
        rw [if_neg (by omega)]
        exact ih
theorem c37 (hC : RC M 21 A) (hW : WF A) {t : Nat} (ht : t ≤ 4) (hs : s ≤ 1) {d n : Nat} {S : ax_S} {Q : Option Value → Nat → ax_H → Prop} : ax_W (d + 20) 37 0 [.ref 77, .int (nI (t + 1)), .int (nI s), ax_dm, ax_dm, ax_dm] [] n (hx S M N) Q = Q none n (hx S (plM M (pE A t s (nowA A).1 (nowA A).2.1)) N) := by
  obtain ⟨v1, v2, v3⟩ := nowA_ok hW
  simp only [↓s37_0, ↓s37_1, ↓s37_4, ↓s37_7, ↓s37_8, ↓s37_9, ↓s37_12, ↓s37_15, ↓s37_17, ↓s37_18, ↓s37_21, ↓s37_24, ↓s37_25, ↓s37_27, ↓s37_30, ↓s37_31, jc_77, gf_77_0, gf_77_1, ok_77_1, gf_77_2, ok_77_2, jc_21, gf_21_0, gf_21_1, gf_21_2, gf_21_3, gf_21_4, gf_21_5, ok_21_5, gf_21_6, ok_21_6, ↓c5 hC hW, ↓c6 hC hW, ct_s, ct_n, ↓bI_01, bI_eq0, bI_eq1, nI_10, nI_01, dec_f, dec_t, if_n, eq_self, true_or, or_true, if_true, if_false, reduceIte]
  have h := l37 (d := d + 20 - 6 - 2 * t) (n := n) (Q := Q) (S := S) (N := N) hC hW ht hs v1 v3 (ndA A) 0 (by omega)
  rw [show d + 20 - 6 - 2 * t + 2 * t + 6 = d + 20 by omega] at h
  exact h
end Play3
