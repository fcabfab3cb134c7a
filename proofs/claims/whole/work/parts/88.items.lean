/-! ===== a text: items ===== -/
def loC : Nat → Nat := fun _ => 0
def hiC : Nat → Nat := fun _ => 9
def loD : Nat → Nat := fun k => [0, 0, 1, 0, 0].getD k 0
def hiD : Nat → Nat := fun k => [5, 4, 9, 9, 2].getD k 0
def loF : Nat → Nat := fun _ => 0
def hiF : Nat → Nat := fun k => [4, 4, 3].getD k 0
/-- went well; where it goes on, or where the fault is; the court -/
abbrev pR : Type := Bool × Nat × ax_A0
def itC (B : Nat → Nat) (t i : Nat) (A : ax_A0) : pR := if nmK B t loC hiC 1 (tkE B t i) = true then (true, psn B t (tkE B t i) 2, begA (nI (nmV B t (tkE B t i) 0))) else (false, tkP B t (psn B t (tkE B t i) (nmQ B t loC hiC 1 (tkE B t i))), A)
def itD (B : Nat → Nat) (t i : Nat) (A : ax_A0) : pR := if ndA A = 8 then (false, tkP B t i, A) else if nmK B t loD hiD 5 (tkE B t i) = true then (true, psn B t (tkE B t i) 6, dshA A (nI (nmV B t (tkE B t i) 0)) (nI (nmV B t (tkE B t i) 1)) (nI (nmV B t (tkE B t i) 2)) (nI (nmV B t (tkE B t i) 3)) (nI (nmV B t (tkE B t i) 4))) else (false, tkP B t (psn B t (tkE B t i) (nmQ B t loD hiD 5 (tkE B t i))), A)
def itB (B : Nat → Nat) (t i : Nat) (g : Int32) (A : ax_A0) : pR := if nmK B t loF hiF 3 (tkE B t i) = true then (true, psn B t (tkE B t i) 4, upd A (46 + 5 * nmV B t (tkE B t i) 0 + nmV B t (tkE B t i) 1) (g * nI (nmV B t (tkE B t i) 2))) else (false, tkP B t (psn B t (tkE B t i) (nmQ B t loF hiF 3 (tkE B t i))), A)
def itf (B : Nat → Nat) (t i : Nat) (A : ax_A0) : pR := if wdB B t i 0 = true then itC B t i A else (false, tkP B t i, A)
def itm (B : Nat → Nat) (t i : Nat) (A : ax_A0) : pR := if wdB B t i 1 = true then itD B t i A else if wdB B t i 2 = true then itB B t i (nI 1) A else if wdB B t i 3 = true then itB B t i (-1) A else (false, tkP B t i, A)
section Items
variable {M : ax_M} {N : ax_L} {t i : Nat} {B : Nat → Nat} {A : ax_A0}
theorem al_k {S : ax_S} {M : ax_M} {N : ax_L} {a len k : Nat} {f : Nat → Int32} (e : hx S M N a = .inl (0, len, f)) (hk : k < len) (hl : len < 1000) : al (hx S M N) a (nI k) = some (f k) := by
  unfold al
  rw [e]
  dsimp only
  rw [nI_clamp (by omega), if_pos ⟨rfl, fun q => q.elim (fun z => nI_pos (n := k) (by omega) z) (fun z => by omega)⟩]
theorem al_3 (S : ax_S) (M : ax_M) (N : ax_L) (k : Nat) (hk : k < 1) : al (hx S M N) 3 (nI k) = some (nI (loC k)) := by
  rw [al_k (len := 1) rfl hk (by decide)]
  rcases (show k = 0 by omega) with rfl
  rfl
theorem al_4 (S : ax_S) (M : ax_M) (N : ax_L) (k : Nat) (hk : k < 1) : al (hx S M N) 4 (nI k) = some (nI (hiC k)) := by
  rw [al_k (len := 1) rfl hk (by decide)]
  rcases (show k = 0 by omega) with rfl
  rfl
theorem al_1 (S : ax_S) (M : ax_M) (N : ax_L) (k : Nat) (hk : k < 5) : al (hx S M N) 1 (nI k) = some (nI (loD k)) := by
  rw [al_k (len := 5) rfl hk (by decide)]
  rcases (show k = 0 ∨ k = 1 ∨ k = 2 ∨ k = 3 ∨ k = 4 by omega) with rfl | rfl | rfl | rfl | rfl <;> rfl
theorem al_2 (S : ax_S) (M : ax_M) (N : ax_L) (k : Nat) (hk : k < 5) : al (hx S M N) 2 (nI k) = some (nI (hiD k)) := by
  rw [al_k (len := 5) rfl hk (by decide)]
  rcases (show k = 0 ∨ k = 1 ∨ k = 2 ∨ k = 3 ∨ k = 4 by omega) with rfl | rfl | rfl | rfl | rfl <;> rfl
theorem al_5 (S : ax_S) (M : ax_M) (N : ax_L) (k : Nat) (hk : k < 3) : al (hx S M N) 5 (nI k) = some (nI (loF k)) := by
  rw [al_k (len := 3) rfl hk (by decide)]
  rcases (show k = 0 ∨ k = 1 ∨ k = 2 by omega) with rfl | rfl | rfl <;> rfl
theorem al_6 (S : ax_S) (M : ax_M) (N : ax_L) (k : Nat) (hk : k < 3) : al (hx S M N) 6 (nI k) = some (nI (hiF k)) := by
  rw [al_k (len := 3) rfl hk (by decide)]
  rcases (show k = 0 ∨ k = 1 ∨ k = 2 by omega) with rfl | rfl | rfl <;> rfl
theorem b9C : ∀ k, k < 1 → loC k ≤ 9 ∧ hiC k ≤ 9 := by decide
theorem b9D : ∀ k, k < 5 → loD k ≤ 9 ∧ hiD k ≤ 9 := by decide
theorem b9F : ∀ k, k < 3 → loF k ≤ 9 ∧ hiF k ≤ 9 := by decide
/-- a number read -/
theorem rd70 {l k : Nat} {x : Int32} (h3 : M 70 3 = nI k) (hk : k ≤ 5) (hl : l < k) (hx1 : M 71 l = x) : rcell M 70 1 (nI l) (nI 0) = x := by
  rw [rcell_in (k := k) h3 (by omega) hl (by omega) (by omega), show l * 1 + 0 = l by omega]
  exact hx1
theorem cap70 {k : Nat} (h3 : M 70 3 = nI k) (hk : k ≤ 5) : tn (M 70 3) ≤ 5 := cap_of h3 hk (by omega)
def DO (M M2 : ax_M) : Prop := ∀ a, ¬ (32 ≤ a ∧ a ≤ 42) → ¬ (69 ≤ a ∧ a ≤ 71) → M2 a = M a
/-- what an item leaves -/
def IR (M M2 : ax_M) (r : pR) : Prop := (r.1 = true → M2 69 2 = nI r.2.1 ∧ RC M2 32 r.2.2) ∧ (r.1 = false → M2 69 3 = nI r.2.1) ∧ DO M M2
theorem IR_t {M2 : ax_M} {p : Nat} {A2 : ax_A0} (h1 : M2 69 2 = nI p) (h2 : RC M2 32 A2) (h3 : DO M M2) : IR M M2 (true, p, A2) := ⟨fun _ => ⟨h1, h2⟩, fun q => Bool.noConfusion q, h3⟩
theorem IR_f {M2 : ax_M} {p : Nat} {A2 : ax_A0} (h1 : M2 69 3 = nI p) (h3 : DO M M2) : IR M M2 (false, p, A2) := ⟨fun q => Bool.noConfusion q, fun _ => h1, h3⟩
theorem c45 (hT : TXc M B t) (h2 : M 69 2 = nI (tkE B t i)) (hi : i ≤ t) : ∃ M2, IR M M2 (itC B t i A) ∧ ∀ (S : ax_S) (d n : Nat) (Q : Option Value → Nat → ax_H → Prop), ax_W (d + 5) 45 0 [.ref 69, .ref 32] [] n (hx S M N) Q = Q (some (.int (bI (itC B t i A).1))) n (hx S M2 N) := by
  have hE := (tkE_bd (B := B) hi).2.1
  obtain ⟨M1, ⟨f1, f2, f3⟩, g⟩ := c48 (N := N) al_3 al_4 (fun _ _ _ => rfl) (fun _ _ _ => rfl) (by omega) b9C hT h2 hE
  unfold itC
  cases e : nmK B t loC hiC 1 (tkE B t i) with
  | false =>
    rw [e] at g
    rw [if_neg (by decide)]
    refine ⟨M1, IR_f f1 (fun a h1 h2 => f3 a h2), fun S d n Q => ?_⟩
    simp only [↓s45_0, ↓s45_1, ↓s45_4, ↓s45_7, jc_69, gf_69_0, gf_69_1, gf_69_2, ok_69_2, gf_69_3, ok_69_3, gf_69_4, ok_69_4, gf_69_5, ok_69_5, ↓g, ct_s, ct_n, ↓bI_01, bI_eq0, bI_eq1, nI_10, nI_01, dec_f, dec_t, if_n, eq_self, true_or, or_true, if_true, if_false, reduceIte]
    simp only [↓s45_10, ↓s45_13, ↓s45_14, ct_s, ct_n, ↓bI_01, bI_eq0, bI_eq1, nI_10, nI_01, dec_f, dec_t, if_n, eq_self, true_or, or_true, if_true, if_false, reduceIte]
    rfl
  | true =>
    rw [e] at g
    rw [if_pos rfl]
    obtain ⟨k1, k2, k3⟩ := f2 e
    obtain ⟨M2, g2, r2, o2⟩ := c1 (M := M1) (hu := nI (nmV B t (tkE B t i) 0)) (c := 32) (Or.inr (Or.inl rfl))
    refine ⟨M2, IR_t ?_ (r2 _ (fun j _ => rfl)) (fun a h1 h2 => ?_), fun S d n Q => ?_⟩
    · rw [o2 69 (by omega)]; exact k1
    · rw [o2 a (by omega)]; exact f3 a h2
    · simp only [↓s45_0, ↓s45_1, ↓s45_4, ↓s45_7, jc_69, gf_69_0, gf_69_1, gf_69_2, ok_69_2, gf_69_3, ok_69_3, gf_69_4, ok_69_4, gf_69_5, ok_69_5, ↓g, ct_s, ct_n, ↓bI_01, bI_eq0, bI_eq1, nI_10, nI_01, dec_f, dec_t, if_n, eq_self, true_or, or_true, if_true, if_false, reduceIte]
      simp only [↓s45_10, ↓s45_13, ↓s45_14, ↓s45_15, ↓s45_16, ↓s45_17, ↓s45_20, ↓s45_21, ↓s45_22, jc_69, gf_69_0, gf_69_1, gf_69_2, ok_69_2, gf_69_3, ok_69_3, gf_69_4, ok_69_4, gf_69_5, ok_69_5, jc_70, gf_70_0, gf_70_1, gf_70_2, gf_70_3, ok_70_3, ↓c54 h70 (cap70 k2 (by omega)), rd70 k2 (by omega) (by omega) (k3 0 (by omega)), bI_eq0, ct_s, ct_n, ↓bI_01, bI_eq0, bI_eq1, nI_10, nI_01, dec_f, dec_t, if_n, eq_self, true_or, or_true, if_true, if_false, reduceIte, Bool.true_eq_false]
      simp only [↓s45_25, ↓s45_28, ↓s45_29, jc_32, gf_32_0, gf_32_1, gf_32_2, gf_32_3, gf_32_4, gf_32_5, ok_32_5, gf_32_6, ok_32_6, ↓g2, ct_s, ct_n, ↓bI_01, bI_eq0, bI_eq1, nI_10, nI_01, dec_f, dec_t, if_n, eq_self, true_or, or_true, if_true, if_false, reduceIte]
      rfl
/-- a dish -/
theorem h33 : (33, 8, 5) ∈ rwt := by decide
theorem h35 : (35, 5, 5) ∈ rwt := by decide
theorem l46 {r : Nat} {w : Nat → Nat} (hr : M 33 3 = nI (r + 1)) (h8 : r < 8) (h70' : M 70 3 = nI 5) (hw : ∀ l, l < 5 → M 71 l = nI (w l)) {d n : Nat} {S : ax_S} {Q : Option Value → Nat → ax_H → Prop} : ∀ c j, j + c = 5 → ax_W (d + 2) 46 30 [.ref 69, .ref 32, .int (nI r), .int (nI j)] [] n (hx S (cpy M 34 (r * 5) j (fun j => nI (w j))) N) Q = Q (some (.int (nI 1))) n (hx S (cpy M 34 (r * 5) 5 (fun j => nI (w j))) N) := by
  intro c
  induction c with
  | zero =>
    intro j hj
    have e : j = 5 := by omega
    subst e
    simp only [↓s46_30, ↓s46_31, ↓s46_32, show nI 5 ≤ nI 5 by decide, ct_s, ct_n, ↓bI_01, bI_eq0, bI_eq1, nI_10, nI_01, dec_f, dec_t, if_n, eq_self, true_or, or_true, if_true, if_false, reduceIte]
    simp only [↓s46_59, ↓s46_60, ct_s, ct_n, ↓bI_01, bI_eq0, bI_eq1, nI_10, nI_01, dec_f, dec_t, if_n, eq_self, true_or, or_true, if_true, if_false, reduceIte]
  | succ c ih =>
    intro j hj
    have ih := ih (j + 1) (by omega)
    have a33 : cpy M 34 (r * 5) j (fun j => nI (w j)) 33 3 = nI (r + 1) := by rw [cpy_a (by decide)]; exact hr
    have a70 : cpy M 34 (r * 5) j (fun j => nI (w j)) 70 3 = nI 5 := by rw [cpy_a (by decide)]; exact h70'
    have a71 : cpy M 34 (r * 5) j (fun j => nI (w j)) 71 j = nI (w j) := by rw [cpy_a (by decide)]; exact hw j (by omega)
    have cap : tn (cpy M 34 (r * 5) j (fun j => nI (w j)) 33 3) ≤ 8 := cap_of a33 (by omega) (by omega)
    have pt := rput_in (r := 33) (wi := 5) (i := r) (c := j) (v := nI (w j)) a33 (by omega) (by omega) (by omega) (by omega)
    have cs := cpy_s (M := M) (a := 34) (lo := r * 5) (k := j) (f := fun j => nI (w j))
    rw [show (33 + 1) = 34 from rfl, cs] at pt
    simp only [↓s46_30, ↓s46_31, ↓s46_32, ct_s, ct_n, ↓bI_01, bI_eq0, bI_eq1, nI_10, nI_01, dec_f, dec_t, if_n, eq_self, true_or, or_true, if_true, if_false, reduceIte]
    rw [if_neg (nI_ge (a := j) (b := 5) (by omega) (by omega))]
    simp only [↓s46_35, ↓s46_36, ↓s46_39, ↓s46_40, ↓s46_41, ↓s46_42, ↓s46_45, ↓s46_46, ↓s46_47, ↓s46_50, jc_69, gf_69_0, gf_69_1, gf_69_2, ok_69_2, gf_69_3, ok_69_3, gf_69_4, ok_69_4, gf_69_5, ok_69_5, jc_70, gf_70_0, gf_70_1, gf_70_2, gf_70_3, ok_70_3, jc_32, gf_32_0, gf_32_1, gf_32_2, gf_32_3, gf_32_4, gf_32_5, ok_32_5, gf_32_6, ok_32_6, jc_33, gf_33_0, gf_33_1, gf_33_2, gf_33_3, ok_33_3, ↓c54 h70 (cap70 a70 (by omega)), rd70 a70 (by omega) (show j < 5 by omega) a71, ↓c55 h33 cap, pt, ct_s, ct_n, ↓bI_01, bI_eq0, bI_eq1, nI_10, nI_01, dec_f, dec_t, if_n, eq_self, true_or, or_true, if_true, if_false, reduceIte]
    simp only [↓s46_53, ↓s46_56, nI_add, ct_s, ct_n, ↓bI_01, bI_eq0, bI_eq1, nI_10, nI_01, dec_f, dec_t, if_n, eq_self, true_or, or_true, if_true, if_false, reduceIte]
    exact ih
theorem c46 (hT : TXc M B t) (h2 : M 69 2 = nI (tkE B t i)) (h3 : M 69 3 = nI (tkP B t i)) (hi : i ≤ t) (hC : RC M 32 A) (hW : WF A) : ∃ M2, IR M M2 (itD B t i A) ∧ ∀ (S : ax_S) (d n : Nat) (Q : Option Value → Nat → ax_H → Prop), ax_W (d + 5) 46 0 [.ref 69, .ref 32, ax_dm, ax_dm] [] n (hx S M N) Q = Q (some (.int (bI (itD B t i A).1))) n (hx S M2 N) := by
  have hE := (tkE_bd (B := B) hi).2.1
  have n8 := hW.1.2
  have m3 : M 33 3 = nI (ndA A) := hC.1.trans hW.1.1
  unfold itD
  by_cases h8 : ndA A = 8
  · rw [if_pos h8]
    refine ⟨M, IR_f h3 (fun _ _ _ => rfl), fun S d n Q => ?_⟩
    rw [h8] at m3
    simp only [↓s46_0, ↓s46_1, ↓s46_4, ↓s46_7, ↓s46_8, ↓s46_9, ↓s46_10, jc_32, gf_32_0, gf_32_1, gf_32_2, gf_32_3, gf_32_4, gf_32_5, ok_32_5, gf_32_6, ok_32_6, jc_33, gf_33_0, gf_33_1, gf_33_2, gf_33_3, ok_33_3, ↓c56f h33 m3, ct_s, ct_n, ↓bI_01, bI_eq0, bI_eq1, nI_10, nI_01, dec_f, dec_t, if_n, eq_self, true_or, or_true, if_true, if_false, reduceIte]
    simp only [↓s46_26, ↓s46_27, ct_s, ct_n, ↓bI_01, bI_eq0, bI_eq1, nI_10, nI_01, dec_f, dec_t, if_n, eq_self, true_or, or_true, if_true, if_false, reduceIte]
    rfl
  · rw [if_neg h8]
    obtain ⟨M0, hM0⟩ : ∃ M0, M0 = zr (ux M 33 3 (nI (ndA A + 1))) (33 + 1) (ndA A * 5) 5 := ⟨_, rfl⟩
    have hM0' : M0 = zr (ux M 33 3 (nI (ndA A + 1))) 34 (ndA A * 5) 5 := hM0
    have o0 : ∀ a, a ≠ 33 → a ≠ 34 → M0 a = M a := fun a h1 h2 => by rw [hM0', zr_a h2, ux_f h1]
    have e0 : M0 33 3 = nI (ndA A + 1) := by rw [hM0', zr_a (by decide), ux_s]
    have e4 : ∀ j, j < ndA A * 5 → M0 34 j = M 34 j := fun j hj => by
      rw [hM0']
      unfold zr
      rw [if_neg (by omega), ux_a (by decide)]
    obtain ⟨M1, ⟨f1, f2, f3⟩, g⟩ := c48 (N := N) al_1 al_2 (fun _ _ _ => rfl) (fun _ _ _ => rfl) (by omega) b9D (TXc_eq (o0 67 (by decide) (by decide)) (o0 68 (by decide) (by decide)) hT) (by rw [o0 69 (by decide) (by decide)]; exact h2) hE
    have pre : ∀ (S : ax_S) (d n : Nat) (Q : Option Value → Nat → ax_H → Prop), ax_W (d + 5) 46 0 [.ref 69, .ref 32, ax_dm, ax_dm] [] n (hx S M N) Q = ax_W (d + 5) 46 23 [.ref 69, .ref 32, .int (nI (ndA A)), ax_dm] [.int (bI (nmK B t loD hiD 5 (tkE B t i)))] n (hx S M1 N) Q := by
      intro S d n Q
      simp only [↓s46_0, ↓s46_1, ↓s46_4, ↓s46_7, ↓s46_8, ↓s46_9, ↓s46_10, jc_32, gf_32_0, gf_32_1, gf_32_2, gf_32_3, gf_32_4, gf_32_5, ok_32_5, gf_32_6, ok_32_6, jc_33, gf_33_0, gf_33_1, gf_33_2, gf_33_3, ok_33_3, ↓c56 h33 m3 (show ndA A < 8 by omega), ← hM0, ct_s, ct_n, ↓bI_01, bI_eq0, bI_eq1, nI_10, nI_01, dec_f, dec_t, if_n, eq_self, true_or, or_true, if_true, if_false, reduceIte]
      rw [if_neg (nI_m1 (by omega))]
      simp only [↓s46_13, ↓s46_14, ↓s46_17, ↓s46_20, jc_69, gf_69_0, gf_69_1, gf_69_2, ok_69_2, gf_69_3, ok_69_3, gf_69_4, ok_69_4, gf_69_5, ok_69_5, ↓g, ct_s, ct_n, ↓bI_01, bI_eq0, bI_eq1, nI_10, nI_01, dec_f, dec_t, if_n, eq_self, true_or, or_true, if_true, if_false, reduceIte]
    cases e : nmK B t loD hiD 5 (tkE B t i) with
    | false =>
      rw [e] at pre
      rw [if_neg (by decide)]
      refine ⟨M1, IR_f f1 (fun a h1 h2 => ?_), fun S d n Q => ?_⟩
      · rw [f3 a h2, o0 a (by omega) (by omega)]
      · rw [pre]
        simp only [↓s46_23, ↓s46_26, ↓s46_27, ct_s, ct_n, ↓bI_01, bI_eq0, bI_eq1, nI_10, nI_01, dec_f, dec_t, if_n, eq_self, true_or, or_true, if_true, if_false, reduceIte]
        rfl
    | true =>
      rw [e] at pre
      rw [if_pos rfl]
      obtain ⟨k1, k2, k3⟩ := f2 e
      have vb := nm_v e
      have v0 := vb 0 (by omega)
      have v1 := vb 1 (by omega)
      have v2 := vb 2 (by omega)
      have v3 := vb 3 (by omega)
      have v4 := vb 4 (by omega)
      have w0 : loD 0 = 0 ∧ hiD 0 = 5 ∧ loD 1 = 0 ∧ hiD 1 = 4 ∧ loD 2 = 1 ∧ hiD 2 = 9 ∧ loD 3 = 0 ∧ hiD 3 = 9 ∧ loD 4 = 0 ∧ hiD 4 = 2 := by decide
      have q33 : M1 33 3 = nI (ndA A + 1) := by rw [f3 33 (by omega)]; exact e0
      generalize hw : nmV B t (tkE B t i) = w at *
      refine ⟨cpy M1 34 (ndA A * 5) 5 (fun j => nI (w j)), IR_t ?_ ?_ (fun a h1 h2 => ?_), fun S d n Q => ?_⟩
      · rw [cpy_a (by decide)]; exact k1
      · have u : ∀ j, j ≠ 0 → (j < 6 + 5 * ndA A ∨ 10 + 5 * ndA A < j) → dshA A (nI (w 0)) (nI (w 1)) (nI (w 2)) (nI (w 3)) (nI (w 4)) j = A j := fun j h0 h => dshA_o h0 h
        have m : ∀ a, a ≠ 33 → a ≠ 34 → ¬ (69 ≤ a ∧ a ≤ 71) → cpy M1 34 (ndA A * 5) 5 (fun j => nI (w j)) a = M a := fun a q1 q2 q3 => by rw [cpy_a q2, f3 a q3, o0 a q1 q2]
        refine RC_mk ⟨?_, fun j hj => ?_⟩ (RCb_eq (m 35 (by decide) (by decide) (by omega)) (m 36 (by decide) (by decide) (by omega)) (fun i _ _ => u i (by omega) (by omega)) hC.pb) (RCc_eq (m 37 (by decide) (by decide) (by omega)) (m 38 (by decide) (by decide) (by omega)) (u 3 (by omega) (by omega)) hW.2.2.1.2 (fun i _ _ => u i (by omega) (by omega)) hC.pc) (RCm_eq (m 39 (by decide) (by decide) (by omega)) (m 40 (by decide) (by decide) (by omega)) (u 4 (by omega) (by omega)) hW.2.2.2.1.2 (fun i _ _ => u i (by omega) (by omega)) hC.pm) (RCr_eq (m 41 (by decide) (by decide) (by omega)) (m 42 (by decide) (by decide) (by omega)) (u 5 (by omega) (by omega)) hW.r (fun i _ _ => u i (by omega) (by omega)) hC.pr) (RCh_eq (m 32 (by decide) (by decide) (by omega)) (u 1 (by omega) (by omega)) (u 2 (by omega) (by omega)) hC.ph)
        · show cpy M1 34 (ndA A * 5) 5 (fun j => nI (w j)) 33 3 = _
          rw [cpy_a (by decide), q33]
          rfl
        · have en : ndA (dshA A (nI (w 0)) (nI (w 1)) (nI (w 2)) (nI (w 3)) (nI (w 4))) = ndA A + 1 := by
            unfold ndA
            rw [show dshA A (nI (w 0)) (nI (w 1)) (nI (w 2)) (nI (w 3)) (nI (w 4)) 0 = nI (ndA A + 1) from rfl]
            exact tn_nI (by omega)
          rw [en] at hj
          show cpy M1 34 (ndA A * 5) 5 (fun j => nI (w j)) 34 j = _
          by_cases hlt : j < ndA A * 5
          · rw [cpy_o (Or.inl hlt), f3 34 (by omega), e4 j hlt, u (6 + j) (by omega) (by omega)]
            exact hC.pd.2 j (by omega)
          · obtain ⟨l, rfl⟩ : ∃ l, j = ndA A * 5 + l := ⟨j - ndA A * 5, by omega⟩
            rw [cpy_i (show l < 5 by omega)]
            unfold dshA
            rw [if_neg (by omega)]
            rcases (show l = 0 ∨ l = 1 ∨ l = 2 ∨ l = 3 ∨ l = 4 by omega) with rfl | rfl | rfl | rfl | rfl
            · rw [if_neg (by omega), if_neg (by omega), if_neg (by omega), if_neg (by omega), if_pos (by omega)]
            · rw [if_neg (by omega), if_neg (by omega), if_neg (by omega), if_pos (by omega)]
            · rw [if_neg (by omega), if_neg (by omega), if_pos (by omega)]
            · rw [if_neg (by omega), if_pos (by omega)]
            · rw [if_pos (by omega)]
      · rw [cpy_a (by omega), f3 a h2, o0 a (by omega) (by omega)]
      · have lp := l46 (d := d + 3) (n := n) (S := S) (N := N) (Q := Q) (w := w) q33 (by omega) k2 k3 5 0 (by omega)
        rw [cpy_0] at lp
        rw [pre]
        simp only [↓s46_23, ↓s46_26, ↓s46_27, ↓s46_28, ↓s46_29, ct_s, ct_n, ↓bI_01, bI_eq0, bI_eq1, nI_10, nI_01, dec_f, dec_t, if_n, eq_self, true_or, or_true, if_true, if_false, reduceIte, Bool.true_eq_false]
        exact lp
theorem upB_wf (hW : WF A) {a b : Nat} {z : Int32} (ha : a < 5) (hb : b < 5) (h1 : -3 ≤ z.toInt) (h2 : z.toInt ≤ 3) : WF (upd A (46 + 5 * a + b) z) := by
  have u : ∀ j, j ≠ 46 + 5 * a + b → upd A (46 + 5 * a + b) z j = A j := fun j hj => pk_un hj
  have e0 : ndA (upd A (46 + 5 * a + b) z) = ndA A := by unfold ndA; rw [u 0 (by omega)]
  refine WF_mk (WFd_eq (u 0 (by omega)) (u 1 (by omega)) (fun i _ _ => u i (by omega)) hW.d) ?_ (WFc_eq (Nat.le_of_eq e0.symm) (u 2 (by omega)) (u 3 (by omega)) (fun i _ _ => u i (by omega)) hW.c) (WFm_eq (Nat.le_of_eq e0.symm) (u 4 (by omega)) (fun i _ _ => u i (by omega)) hW.m) (WFr_eq (Nat.le_of_eq e0.symm) (u 5 (by omega)) (fun i _ _ => u i (by omega)) hW.r)
  intro a2 b2 ha2 hb2
  unfold bkA
  by_cases e : 46 + 5 * a2 + b2 = 46 + 5 * a + b
  · rw [e, pk_us]; omega
  · rw [u _ e]; exact hW.b a2 b2 ha2 hb2
theorem c47 {g : Int32} (hT : TXc M B t) (h2 : M 69 2 = nI (tkE B t i)) (hi : i ≤ t) (hC : RC M 32 A) (hW : WF A) : ∃ M2, IR M M2 (itB B t i g A) ∧ ∀ (S : ax_S) (d n : Nat) (Q : Option Value → Nat → ax_H → Prop), ax_W (d + 5) 47 0 [.ref 69, .ref 32, .int g] [] n (hx S M N) Q = Q (some (.int (bI (itB B t i g A).1))) n (hx S M2 N) := by
  have hE := (tkE_bd (B := B) hi).2.1
  obtain ⟨M1, ⟨f1, f2, f3⟩, g1⟩ := c48 (N := N) al_5 al_6 (fun _ _ _ => rfl) (fun _ _ _ => rfl) (by omega) b9F hT h2 hE
  unfold itB
  cases e : nmK B t loF hiF 3 (tkE B t i) with
  | false =>
    rw [e] at g1
    rw [if_neg (by decide)]
    refine ⟨M1, IR_f f1 (fun a h1 h2 => f3 a h2), fun S d n Q => ?_⟩
    simp only [↓s47_0, ↓s47_1, ↓s47_4, ↓s47_7, jc_69, gf_69_0, gf_69_1, gf_69_2, ok_69_2, gf_69_3, ok_69_3, gf_69_4, ok_69_4, gf_69_5, ok_69_5, ↓g1, ct_s, ct_n, ↓bI_01, bI_eq0, bI_eq1, nI_10, nI_01, dec_f, dec_t, if_n, eq_self, true_or, or_true, if_true, if_false, reduceIte]
    simp only [↓s47_10, ↓s47_13, ↓s47_14, ct_s, ct_n, ↓bI_01, bI_eq0, bI_eq1, nI_10, nI_01, dec_f, dec_t, if_n, eq_self, true_or, or_true, if_true, if_false, reduceIte]
    rfl
  | true =>
    rw [e] at g1
    rw [if_pos rfl]
    obtain ⟨k1, k2, k3⟩ := f2 e
    have vb := nm_v e
    have v0 := vb 0 (by omega)
    have v1 := vb 1 (by omega)
    have w0 : hiF 0 = 4 ∧ hiF 1 = 4 := by decide
    have q35 : M1 35 3 = nI 5 := by rw [f3 35 (by omega)]; exact hC.2.1
    generalize hw : nmV B t (tkE B t i) = w at *
    have cap : tn (M1 35 3) ≤ 5 := cap_of q35 (by omega) (by omega)
    have pt := rput_in (r := 35) (wi := 5) (i := w 0) (c := w 1) (v := g * nI (w 2)) q35 (by omega) (by omega) (by omega) (by omega)
    refine ⟨ux M1 36 (w 0 * 5 + w 1) (g * nI (w 2)), IR_t ?_ ?_ (fun a h1 h2 => ?_), fun S d n Q => ?_⟩
    · rw [ux_a (by decide)]; exact k1
    · have u : ∀ j, j ≠ 46 + 5 * w 0 + w 1 → upd A (46 + 5 * w 0 + w 1) (g * nI (w 2)) j = A j := fun j hj => pk_un hj
      have m : ∀ a, a ≠ 36 → ¬ (69 ≤ a ∧ a ≤ 71) → ux M1 36 (w 0 * 5 + w 1) (g * nI (w 2)) a = M a := fun a q1 q3 => by rw [ux_f q1, f3 a q3]
      refine RC_mk (RCd_eq (m 33 (by decide) (by omega)) (m 34 (by decide) (by omega)) (u 0 (by omega)) hW.1.2 (fun i _ _ => u i (by omega)) hC.pd) ⟨by rw [m 35 (by decide) (by omega)]; exact hC.pb.1, fun j hj => ?_⟩ (RCc_eq (m 37 (by decide) (by omega)) (m 38 (by decide) (by omega)) (u 3 (by omega)) hW.2.2.1.2 (fun i _ _ => u i (by omega)) hC.pc) (RCm_eq (m 39 (by decide) (by omega)) (m 40 (by decide) (by omega)) (u 4 (by omega)) hW.2.2.2.1.2 (fun i _ _ => u i (by omega)) hC.pm) (RCr_eq (m 41 (by decide) (by omega)) (m 42 (by decide) (by omega)) (u 5 (by omega)) hW.r (fun i _ _ => u i (by omega)) hC.pr) (RCh_eq (m 32 (by decide) (by omega)) (u 1 (by omega)) (u 2 (by omega)) hC.ph)
      show ux M1 36 (w 0 * 5 + w 1) (g * nI (w 2)) 36 j = _
      by_cases z : j = w 0 * 5 + w 1
      · rw [z, ux_s, show 46 + (w 0 * 5 + w 1) = 46 + 5 * w 0 + w 1 by omega, pk_us]
      · rw [ux_j z, u _ (by omega), f3 36 (by omega)]; exact hC.pb.2 j hj
    · rw [ux_f (by omega)]; exact f3 a h2
    · simp only [↓s47_0, ↓s47_1, ↓s47_4, ↓s47_7, jc_69, gf_69_0, gf_69_1, gf_69_2, ok_69_2, gf_69_3, ok_69_3, gf_69_4, ok_69_4, gf_69_5, ok_69_5, ↓g1, ct_s, ct_n, ↓bI_01, bI_eq0, bI_eq1, nI_10, nI_01, dec_f, dec_t, if_n, eq_self, true_or, or_true, if_true, if_false, reduceIte]
      simp only [↓s47_10, ↓s47_13, ↓s47_14, ↓s47_15, ↓s47_16, ↓s47_19, ↓s47_20, ↓s47_23, ↓s47_24, ↓s47_25, jc_69, gf_69_0, gf_69_1, gf_69_2, ok_69_2, gf_69_3, ok_69_3, gf_69_4, ok_69_4, gf_69_5, ok_69_5, jc_70, gf_70_0, gf_70_1, gf_70_2, gf_70_3, ok_70_3, jc_32, gf_32_0, gf_32_1, gf_32_2, gf_32_3, gf_32_4, gf_32_5, ok_32_5, gf_32_6, ok_32_6, jc_35, gf_35_0, gf_35_1, gf_35_2, gf_35_3, ok_35_3, ↓c54 h70 (cap70 k2 (by omega)), rd70 k2 (by omega) (show 0 < 3 by omega) (k3 0 (by omega)), bI_eq0, ct_s, ct_n, ↓bI_01, bI_eq0, bI_eq1, nI_10, nI_01, dec_f, dec_t, if_n, eq_self, true_or, or_true, if_true, if_false, reduceIte, Bool.true_eq_false]
      simp only [↓s47_28, ↓s47_29, ↓s47_32, ↓s47_33, ↓s47_34, jc_69, gf_69_0, gf_69_1, gf_69_2, ok_69_2, gf_69_3, ok_69_3, gf_69_4, ok_69_4, gf_69_5, ok_69_5, jc_70, gf_70_0, gf_70_1, gf_70_2, gf_70_3, ok_70_3, ↓c54 h70 (cap70 k2 (by omega)), rd70 k2 (by omega) (show 1 < 3 by omega) (k3 1 (by omega)), ct_s, ct_n, ↓bI_01, bI_eq0, bI_eq1, nI_10, nI_01, dec_f, dec_t, if_n, eq_self, true_or, or_true, if_true, if_false, reduceIte]
      simp only [↓s47_37, ↓s47_38, ↓s47_39, ↓s47_42, ↓s47_43, ↓s47_44, ↓s47_47, ↓s47_48, jc_69, gf_69_0, gf_69_1, gf_69_2, ok_69_2, gf_69_3, ok_69_3, gf_69_4, ok_69_4, gf_69_5, ok_69_5, jc_70, gf_70_0, gf_70_1, gf_70_2, gf_70_3, ok_70_3, jc_35, gf_35_0, gf_35_1, gf_35_2, gf_35_3, ok_35_3, ↓c54 h70 (cap70 k2 (by omega)), rd70 k2 (by omega) (show 2 < 3 by omega) (k3 2 (by omega)), ↓c55 h35 cap, pt, ct_s, ct_n, ↓bI_01, bI_eq0, bI_eq1, nI_10, nI_01, dec_f, dec_t, if_n, eq_self, true_or, or_true, if_true, if_false, reduceIte]
      simp only [↓s47_51, ↓s47_52, ct_s, ct_n, ↓bI_01, bI_eq0, bI_eq1, nI_10, nI_01, dec_f, dec_t, if_n, eq_self, true_or, or_true, if_true, if_false, reduceIte]
      rfl
end Items
