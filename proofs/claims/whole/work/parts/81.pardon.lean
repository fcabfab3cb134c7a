/-! ===== pardon: pure ===== -/
abbrev bX : Type := Option (Nat × Nat × (Nat → Nat))
def btr (c m : Nat) : bX → Bool
  | none => true
  | some b => decide (c < b.1 ∨ (c = b.1 ∧ m < b.2.1))
def fu (f : Nat → Nat) (m k : Nat) : Nat → Nat := fun j => if j = m then k else f j
/-- dishes below n one by one -/
def lpR (A : ax_A0) (s sv : Nat) (g : Nat → bX → bX) : Nat → bX → bX
  | 0, b => b
  | k + 1, b => if mayA A k s sv = true then g k (lpR A s sv g k b) else lpR A s sv g k b
def jr (s : Nat) (v : ax_V) (c m : Nat) (f : Nat → Nat) (b : bX) : bX := if vdZ v.2.2 = s ∧ btr c m b = true then some (c, m, f) else b
/-- the reference's walk -/
def wR (A : ax_A0) (s : Nat) : Nat → ax_V → Nat → Nat → (Nat → Nat) → bX → bX
  | 0, _, _, _, _, b => b
  | r + 1, v, c, m, f, b => lpR A s v.1 (fun k b => wR A s r (evS A s k v) (c + buA A k) (m + 1) (fu f m k) (jr s (evS A s k v) (c + buA A k) (m + 1) (fu f m k) b)) (ndA A) b
/-- the other one's -/
def gC (A : ax_A0) (s : Nat) (w : ax_V → Nat → Nat → (Nat → Nat) → bX → bX) (v : ax_V) (c m : Nat) (f : Nat → Nat) (k : Nat) (b : bX) : bX := if btr (c + buA A k) (m + 1) b = true then (if vdZ (evS A s k v).2.2 = s then some (c + buA A k, m + 1, fu f m k) else w (evS A s k v) (c + buA A k) (m + 1) (fu f m k) b) else b
def wC (A : ax_A0) (s : Nat) : Nat → ax_V → Nat → Nat → (Nat → Nat) → bX → bX
  | 0, _, _, _, _, b => b
  | r + 1, v, c, m, f, b => lpR A s v.1 (gC A s (wC A s r) v c m f) (ndA A) b
section Pardon
variable {A : ax_A0} {s sv c m c' m' : Nat} {f : Nat → Nat} {b : bX} {v : ax_V} {g : Nat → bX → bX}
theorem fu_s {k : Nat} : fu f m k m = k := by unfold fu; rw [if_pos rfl]
theorem fu_n {k j : Nat} (h : j ≠ m) : fu f m k j = f j := by unfold fu; rw [if_neg h]
theorem lpR_t {k : Nat} (h : mayA A k s sv = true) : lpR A s sv g (k + 1) b = g k (lpR A s sv g k b) := by
  show (if _ then _ else _) = _
  rw [if_pos h]
theorem lpR_f {k : Nat} (h : mayA A k s sv = false) : lpR A s sv g (k + 1) b = lpR A s sv g k b := by
  show (if _ then _ else _) = _
  rw [if_neg (by rw [h]; decide)]
theorem lpR_id (h : ∀ k, g k b = b) : ∀ k, lpR A s sv g k b = b := by
  intro k
  induction k with
  | zero => rfl
  | succ k ih =>
    cases e : mayA A k s sv with
    | true => rw [lpR_t e, ih, h]
    | false => rw [lpR_f e, ih]
theorem btr_mono (hc : c ≤ c') (hm : m ≤ m') (h : btr c m b = false) : btr c' m' b = false := by
  cases b with
  | none => cases h
  | some b =>
    have h1 := of_decide_eq_false h
    exact decide_eq_false (by omega)
theorem jr_id (h : btr c m b = false) : jr s v c m f b = b := by
  unfold jr
  rw [if_neg (fun q => by rw [q.2] at h; cases h)]
theorem wR_id : ∀ (r : Nat) (v : ax_V) (c m : Nat) (f : Nat → Nat) (b : bX), btr c m b = false → wR A s r v c m f b = b := by
  intro r
  induction r with
  | zero => intro v c m f b _; rfl
  | succ r ih =>
    intro v c m f b h
    refine lpR_id (fun k => ?_) (ndA A)
    have h2 : btr (c + buA A k) (m + 1) b = false := btr_mono (by omega) (by omega) h
    show wR A s r _ _ _ _ (jr _ _ _ _ _ b) = b
    rw [jr_id h2]
    exact ih _ _ _ _ _ h2
theorem wRC : ∀ (r : Nat) (v : ax_V) (c m : Nat) (f : Nat → Nat) (b : bX), wR A s r v c m f b = wC A s r v c m f b := by
  intro r
  induction r with
  | zero => intro v c m f b; rfl
  | succ r ih =>
    intro v c m f b
    refine congrArg (fun g => lpR A s v.1 g (ndA A) b) (funext fun k => funext fun b => ?_)
    show wR A s r _ _ _ _ (jr _ _ _ _ _ b) = _
    unfold gC
    by_cases hb : btr (c + buA A k) (m + 1) b = true
    · rw [if_pos hb]
      by_cases hv : vdZ (evS A s k v).2.2 = s
      · rw [if_pos hv, show jr s (evS A s k v) (c + buA A k) (m + 1) (fu f m k) b = some (c + buA A k, m + 1, fu f m k) from if_pos ⟨hv, hb⟩]
        exact wR_id _ _ _ _ _ _ (decide_eq_false (by show ¬ (c + buA A k < c + buA A k ∨ (c + buA A k = c + buA A k ∧ m + 1 < m + 1)); omega))
      · rw [if_neg hv, show jr s (evS A s k v) (c + buA A k) (m + 1) (fu f m k) b = b from if_neg (fun q => hv q.1)]
        exact ih _ _ _ _ _
    · have hb2 : btr (c + buA A k) (m + 1) b = false := by cases e : btr (c + buA A k) (m + 1) b with
        | true => exact absurd e hb
        | false => rfl
      rw [if_neg hb, jr_id hb2]
      exact wR_id _ _ _ _ _ _ hb2
end Pardon
/-! ===== pardon: what is kept ===== -/
def bestC (M : ax_M) : bX → Prop
  | none => M 78 3 = -1
  | some b => M 78 3 = nI b.1 ∧ b.1 ≤ 100 ∧ b.2.1 ≤ 4 ∧ M 81 3 = nI b.2.1 ∧ ∀ j, j < b.2.1 → M 82 j = nI (b.2.2 j)
/-- the row that is tried, m dishes of it -/
def trI (M : ax_M) (m : Nat) (f : Nat → Nat) : Prop := (m = 0 ∨ ∃ q, M 79 3 = nI q ∧ m ≤ q ∧ q ≤ 4) ∧ ∀ j, j < m → M 80 j = nI (f j)
section Pardon2
variable {M : ax_M} {N : ax_L} {A : ax_A0} {d n : Nat} {S : ax_S} {Q : Option Value → Nat → ax_H → Prop} {s c m k : Nat} {f : Nat → Nat} {b : bX} {v : ax_V}
theorem h79 : (79, 4, 1) ∈ rwt := by decide
theorem h81 : (81, 4, 1) ∈ rwt := by decide
theorem c33 (hb : bestC M b) (hc : c ≤ 100) (hm : m ≤ 4) : ax_W (d + 1) 33 0 [.ref 78, .int (nI c), .int (nI m)] [] n (hx S M N) Q = Q (some (.int (bI (btr c m b)))) n (hx S M N) := by
  cases b with
  | none =>
    have e : M 78 3 = -1 := hb
    simp only [↓s33_0, ↓s33_1, ↓s33_4, ↓s33_5, jc_78, gf_78_0, gf_78_1, gf_78_2, gf_78_3, ok_78_3, e, ct_s, ct_n, ↓bI_01, bI_eq0, bI_eq1, nI_10, nI_01, dec_f, dec_t, if_n, eq_self, true_or, or_true, if_true, if_false, reduceIte]
    simp only [↓s33_35, ↓s33_36, ↓s33_39, ↓s33_40, ct_s, ct_n, ↓bI_01, bI_eq0, bI_eq1, nI_10, nI_01, dec_f, dec_t, if_n, eq_self, true_or, or_true, if_true, if_false, reduceIte]
    rfl
  | some b =>
    obtain ⟨e1, e2, e3, e4, -⟩ := hb
    simp only [↓s33_0, ↓s33_1, ↓s33_4, ↓s33_5, jc_78, gf_78_0, gf_78_1, gf_78_2, gf_78_3, ok_78_3, e1, ct_s, ct_n, ↓bI_01, bI_eq0, bI_eq1, nI_10, nI_01, dec_f, dec_t, if_n, eq_self, true_or, or_true, if_true, if_false, reduceIte]
    rw [if_neg (nI_m1 (by omega))]
    simp only [↓s33_8, ↓s33_9, ↓s33_10, ↓s33_13, jc_78, gf_78_0, gf_78_1, gf_78_2, gf_78_3, ok_78_3, e1, ct_s, ct_n, ↓bI_01, bI_eq0, bI_eq1, nI_10, nI_01, dec_f, dec_t, if_n, eq_self, true_or, or_true, if_true, if_false, reduceIte]
    by_cases h1 : c < b.1
    · rw [if_pos (nI_lt h1 (by omega)), show btr c m (some b) = true from decide_eq_true (Or.inl h1)]
      simp only [↓s33_35, ↓s33_36, ↓s33_39, ↓s33_40, ct_s, ct_n, ↓bI_01, bI_eq0, bI_eq1, nI_10, nI_01, dec_f, dec_t, if_n, eq_self, true_or, or_true, if_true, if_false, reduceIte]
      rfl
    · rw [if_neg (nI_nlt (a := c) (b := b.1) (by omega) (by omega))]
      simp only [↓s33_16, ↓s33_17, ↓s33_18, ↓s33_21, jc_78, gf_78_0, gf_78_1, gf_78_2, gf_78_3, ok_78_3, e1, ct_s, ct_n, ↓bI_01, bI_eq0, bI_eq1, nI_10, nI_01, dec_f, dec_t, if_n, eq_self, true_or, or_true, if_true, if_false, reduceIte]
      by_cases h2 : c = b.1
      · subst h2
        rw [if_pos rfl]
        simp only [↓s33_24, ↓s33_25, ↓s33_26, ↓s33_29, ↓s33_32, jc_78, gf_78_0, gf_78_1, gf_78_2, gf_78_3, ok_78_3, jc_81, gf_81_0, gf_81_1, gf_81_2, gf_81_3, ok_81_3, ↓c53 h81, e4, ct_s, ct_n, ↓bI_01, bI_eq0, bI_eq1, nI_10, nI_01, dec_f, dec_t, if_n, eq_self, true_or, or_true, if_true, if_false, reduceIte]
        by_cases h3 : m < b.2.1
        · rw [if_neg (nI_ge (a := m) (b := b.2.1) h3 (by omega)), show btr b.1 m (some b) = true from decide_eq_true (Or.inr ⟨rfl, h3⟩)]
          simp only [↓s33_35, ↓s33_36, ↓s33_39, ↓s33_40, ct_s, ct_n, ↓bI_01, bI_eq0, bI_eq1, nI_10, nI_01, dec_f, dec_t, if_n, eq_self, true_or, or_true, if_true, if_false, reduceIte]
          rfl
        · rw [if_pos (nI_le (a := b.2.1) (b := m) (by omega) (by omega)), show btr b.1 m (some b) = false from decide_eq_false (by omega)]
          simp only [↓s33_39, ↓s33_40, ct_s, ct_n, ↓bI_01, bI_eq0, bI_eq1, nI_10, nI_01, dec_f, dec_t, if_n, eq_self, true_or, or_true, if_true, if_false, reduceIte]
          rfl
      · rw [if_neg (fun q => h2 ((nI_eq (a := c) (b := b.1) (by omega) (by omega)).mp q)), show btr c m (some b) = false from decide_eq_false (by omega)]
        simp only [↓s33_39, ↓s33_40, ct_s, ct_n, ↓bI_01, bI_eq0, bI_eq1, nI_10, nI_01, dec_f, dec_t, if_n, eq_self, true_or, or_true, if_true, if_false, reduceIte]
        rfl
theorem cut79 (hm : m ≤ 4) (h : m = 0 ∨ ∃ q, M 79 3 = nI q ∧ m ≤ q ∧ q ≤ 4) : ax_W (d + 1) 57 0 [.ref 79, .int (nI m)] [] n (hx S M N) Q = Q none n (hx S (ux M 79 3 (nI m)) N) := by
  rcases h with rfl | ⟨q, q1, q2, q3⟩
  · exact c57z h79
  · exact c57 h79 q1 (by omega) q2
/-- one dish more on the row -/
theorem grow79 (hm : m < 4) (h : m = 0 ∨ ∃ q, M 79 3 = nI q ∧ m ≤ q ∧ q ≤ 4) : ∃ M2, (M2 79 3 = nI (m + 1) ∧ M2 80 m = nI k ∧ (∀ j, j ≠ m → M2 80 j = M 80 j) ∧ ∀ a, a ≠ 79 → a ≠ 80 → M2 a = M a) ∧ ∀ (S : ax_S) (d n : Nat) (Q : Option Value → Nat → ax_H → Prop) (y1 y2 y3 y4 y5 y8 y9 : Value), ax_W (d + 3) 32 70 [.ref 78, y1, y2, y3, y4, y5, .int (nI m), .int (nI k), y8, y9] [] n (hx S M N) Q = ax_W (d + 3) 32 96 [.ref 78, y1, y2, y3, y4, y5, .int (nI m), .int (nI k), y8, y9] [] n (hx S M2 N) Q := by
  have u1 : ux M 79 3 (nI m) 79 3 = nI m := ux_s
  have u2 : zr (ux (ux M 79 3 (nI m)) 79 3 (nI (m + 1))) (79 + 1) (m * 1) 1 79 3 = nI (m + 1) := by rw [zr_a (by decide), ux_s]
  have cap : tn (zr (ux (ux M 79 3 (nI m)) 79 3 (nI (m + 1))) (79 + 1) (m * 1) 1 79 3) ≤ 4 := by rw [u2, tn_nI (by omega)]; omega
  have pt := rput_in (r := 79) (wi := 1) (i := m) (c := 0) (v := nI k) u2 (by omega) (by omega) (by omega) (by omega)
  obtain ⟨M2, hM2⟩ : ∃ M2, M2 = ux (zr (ux (ux M 79 3 (nI m)) 79 3 (nI (m + 1))) (79 + 1) (m * 1) 1) (79 + 1) (m * 1 + 0) (nI k) := ⟨_, rfl⟩
  have hM3 : M2 = ux (zr (ux (ux M 79 3 (nI m)) 79 3 (nI (m + 1))) 80 (m * 1) 1) 80 (m * 1 + 0) (nI k) := hM2
  refine ⟨M2, ⟨?_, ?_, fun j hj => ?_, fun a h1 h2 => ?_⟩, fun S d n Q y1 y2 y3 y4 y5 y8 y9 => ?_⟩
  · rw [hM3, ux_a (by decide), zr_a (by decide), ux_s]
  · rw [hM3, show m * 1 + 0 = m by omega, ux_s]
  · rw [hM3, ux_j (by omega)]
    unfold zr
    rw [if_neg (by omega), ux_a (by decide), ux_a (by decide)]
  · rw [hM3, ux_f h2, zr_a h2, ux_f h1, ux_f h1]
  · simp only [↓s32_70, ↓s32_71, ↓s32_74, ↓s32_76, jc_78, gf_78_0, gf_78_1, gf_78_2, gf_78_3, ok_78_3, jc_79, gf_79_0, gf_79_1, gf_79_2, gf_79_3, ok_79_3, ↓cut79 (show m ≤ 4 by omega) h, ct_s, ct_n, ↓bI_01, bI_eq0, bI_eq1, nI_10, nI_01, dec_f, dec_t, if_n, eq_self, true_or, or_true, if_true, if_false, reduceIte]
    simp only [↓s32_79, ↓s32_80, ↓s32_83, ↓s32_84, ↓s32_87, jc_78, gf_78_0, gf_78_1, gf_78_2, gf_78_3, ok_78_3, jc_79, gf_79_0, gf_79_1, gf_79_2, gf_79_3, ok_79_3, ↓c56 h79 u1 hm, ct_s, ct_n, ↓bI_01, bI_eq0, bI_eq1, nI_10, nI_01, dec_f, dec_t, if_n, eq_self, true_or, or_true, if_true, if_false, reduceIte]
    simp only [↓s32_90, ↓s32_91, ↓s32_93, jc_78, gf_78_0, gf_78_1, gf_78_2, gf_78_3, ok_78_3, jc_79, gf_79_0, gf_79_1, gf_79_2, gf_79_3, ok_79_3, ↓c55 h79 cap, pt, ← hM2, ct_s, ct_n, ↓bI_01, bI_eq0, bI_eq1, nI_10, nI_01, dec_f, dec_t, if_n, eq_self, true_or, or_true, if_true, if_false, reduceIte]
end Pardon2
