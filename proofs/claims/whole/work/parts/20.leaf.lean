/-! ===== numbers; the class's leaves ===== -/
def bI (b : Bool) : Int32 := if b = true then nI 1 else nI 0
theorem nI_10 : (nI 1 = nI 0) = False := by decide
theorem nI_01 : (nI 0 = nI 1) = False := by decide
theorem bI_01 {b : Bool} : (bI b = nI 0 ∨ bI b = nI 1) = True := by cases b <;> decide
theorem bI_eq0 {b : Bool} : (bI b = nI 0) = (b = false) := by cases b <;> decide
theorem bI_eq1 {b : Bool} : (bI b = nI 1) = (b = true) := by cases b <;> decide
theorem bI_t {p : Prop} [Decidable p] (h : p) : bI (decide p) = nI 1 := by simp [bI, h]
theorem bI_f {p : Prop} [Decidable p] (h : ¬ p) : bI (decide p) = nI 0 := by simp [bI, h]
theorem dec_f {p : Prop} [Decidable p] : (decide p = false) = ¬ p := by simp
theorem dec_t {p : Prop} [Decidable p] : (decide p = true) = p := by simp
theorem if_n {p : Prop} [Decidable p] {α : Sort _} {a b : α} : (if ¬ p then a else b) = if p then b else a := by by_cases h : p <;> simp [h]
abbrev tn (x : Int32) : Nat := x.toNatClampNeg
theorem le_tn {x : Int32} (h : nI 0 ≤ x) : x = nI (tn x) ∧ tn x < 2 ^ 31 := by
  obtain ⟨j, h1, h2⟩ := nI_of (x := x) (Int32.not_lt.mpr h)
  subst h2
  show nI j = nI (nI j).toNatClampNeg ∧ (nI j).toNatClampNeg < 2 ^ 31
  rw [nI_clamp h1]
  exact ⟨rfl, h1⟩
theorem lt_tn {x : Int32} {k : Nat} (hk : k < 2 ^ 31) (h0 : nI 0 ≤ x) (h : x < nI k) : tn x < k := by
  obtain ⟨e, h1⟩ := le_tn h0
  rw [e] at h
  exact (nI_ltI h1 hk).mp h
section Leaf
variable {d n : Nat} {h : ax_H} {Q : Option Value → Nat → ax_H → Prop} {x l m k s e : Int32} {S : ax_S} {M : ax_M} {N : ax_L} {p q : Int64}
theorem c121 : ax_W d 121 0 [.int x, .int l, .int m] [] n h Q = Q (some (.int (bI (decide (l ≤ x ∧ x ≤ m))))) n h := by
  simp only [↓s121_0, ↓s121_1, ↓s121_2, ↓s121_5, ↓s121_6, ↓s121_7, ↓s121_10, ↓s121_11, ↓s121_14, ↓s121_15, ct_s, ct_n, ↓bI_01, bI_eq0, bI_eq1, nI_10, nI_01, dec_f, dec_t, if_n, eq_self, true_or, or_true, if_true, if_false, reduceIte]
  by_cases h1 : x < l
  · rw [if_pos h1, bI_f (fun q => Int32.not_le.mpr h1 q.1)]
  · rw [if_neg h1]
    by_cases h2 : m < x
    · rw [if_pos h2, bI_f (fun q => Int32.not_le.mpr h2 q.2)]
    · rw [if_neg h2, bI_t ⟨Int32.not_lt.mp h1, Int32.not_lt.mp h2⟩]
theorem c122 : ax_W (d + 1) 122 0 [.int x] [] n h Q = Q (some (.int (bI (decide (nI 0 ≤ x ∧ x ≤ nI 1))))) n h := by
  simp only [↓s122_0, ↓s122_1, ↓s122_2, ↓s122_3, ↓s122_6, ↓c121, ct_s, ct_n, ↓bI_01, bI_eq0, bI_eq1, nI_10, nI_01, dec_f, dec_t, if_n, eq_self, true_or, or_true, if_true, if_false, reduceIte]
theorem c123 : ax_W (d + 1) 123 0 [.int x] [] n h Q = Q (some (.int (bI (decide (nI 0 ≤ x ∧ x ≤ nI 4))))) n h := by
  simp only [↓s123_0, ↓s123_1, ↓s123_2, ↓s123_3, ↓s123_6, ↓c121, ct_s, ct_n, ↓bI_01, bI_eq0, bI_eq1, nI_10, nI_01, dec_f, dec_t, if_n, eq_self, true_or, or_true, if_true, if_false, reduceIte]
theorem c124 : ax_W (d + 1) 124 0 [.int x] [] n h Q = Q (some (.int (bI (decide (nI 0 ≤ x ∧ x ≤ nI 2))))) n h := by
  simp only [↓s124_0, ↓s124_1, ↓s124_2, ↓s124_3, ↓s124_6, ↓c121, ct_s, ct_n, ↓bI_01, bI_eq0, bI_eq1, nI_10, nI_01, dec_f, dec_t, if_n, eq_self, true_or, or_true, if_true, if_false, reduceIte]
def vdI (x : Int32) : Int32 := if x ≤ nI 0 then (if nI 0 ≤ x then nI 2 else nI 1) else nI 0
theorem c126 : ax_W d 126 0 [.int x] [] n h Q = Q (some (.int (vdI x))) n h := by
  unfold vdI
  simp only [↓s126_0, ↓s126_1, ↓s126_4, ↓s126_5, ↓s126_6, ↓s126_7, ↓s126_10, ↓s126_11, ↓s126_14, ↓s126_15, ct_s, ct_n, ↓bI_01, bI_eq0, bI_eq1, nI_10, nI_01, dec_f, dec_t, if_n, eq_self, true_or, or_true, if_true, if_false, reduceIte]
  split <;> (try split) <;> rfl
def tsI (s x : Int32) : Int32 := if s = nI 0 then x else -x
theorem c128 : ax_W d 128 0 [.int s, .int x] [] n h Q = Q (some (.int (tsI s x))) n h := by
  unfold tsI
  simp only [↓s128_0, ↓s128_1, ↓s128_4, ↓s128_5, ↓s128_8, ↓s128_9, ↓s128_10, ct_s, ct_n, ↓bI_01, bI_eq0, bI_eq1, nI_10, nI_01, dec_f, dec_t, if_n, eq_self, true_or, or_true, if_true, if_false, reduceIte]
  split <;> rfl
theorem c129 : ax_W d 129 0 [.int s, .int x] [] n h Q = Q (some (.int (bI (decide (¬ s >>> (x &&& 31) &&& nI 1 = nI 0))))) n h := by
  simp only [↓s129_0, ↓s129_1, ↓s129_2, ↓s129_3, ↓s129_4, ↓s129_5, ↓s129_8, ↓s129_9, ↓s129_12, ↓s129_13, ct_s, ct_n, ↓bI_01, bI_eq0, bI_eq1, nI_10, nI_01, dec_f, dec_t, if_n, eq_self, true_or, or_true, if_true, if_false, reduceIte]
  split
  · rename_i w; rw [bI_f (fun q => q w)]
  · rename_i w; rw [bI_t w]
theorem c130 : ax_W d 130 0 [.int s, .int x] [] n h Q = Q (some (.int (s ||| nI 1 <<< (x &&& 31)))) n h := by
  simp only [↓s130_0, ↓s130_1, ↓s130_2, ↓s130_3, ↓s130_4, ↓s130_5, ct_s, ct_n, ↓bI_01, bI_eq0, bI_eq1, nI_10, nI_01, dec_f, dec_t, if_n, eq_self, true_or, or_true, if_true, if_false, reduceIte]
theorem c131 : ax_W d 131 0 [.long p, ax_dm, .long q, ax_dm] [] n h Q = Q (some (.long (31 * p + q))) n h := by
  simp only [↓s131_0, ↓s131_3, ↓s131_4, ↓s131_5, ↓s131_6, ↓s131_7, ct_s, ct_n, ↓bI_01, bI_eq0, bI_eq1, nI_10, nI_01, dec_f, dec_t, if_n, eq_self, true_or, or_true, if_true, if_false, reduceIte]
def refM (M : ax_M) (r : Int32) : ax_M := if r = -2 then ux M 20 13 (M 20 13 + nI 1) else if r = -3 then ux M 20 14 (M 20 14 + nI 1) else ux M 20 15 (M 20 15 + nI 1)
theorem c116 : ax_W d 116 0 [.ref 20, .int x, .int k] [] n (hx S M N) Q = Q (some (.int k)) n (hx S (refM M x) N) := by
  unfold refM
  simp only [↓s116_0, ↓s116_1, ↓s116_3, ↓s116_6, ↓s116_7, ↓s116_8, ↓s116_11, ↓s116_12, ↓s116_13, ↓s116_16, ↓s116_19, ↓s116_20, ↓s116_22, ↓s116_25, ↓s116_26, ↓s116_27, ↓s116_30, ↓s116_31, ↓s116_32, ↓s116_35, ↓s116_38, ↓s116_39, ↓s116_40, ↓s116_43, ↓s116_44, ↓s116_45, ↓s116_48, ↓s116_49, ic_20, gf_20_0, gf_20_1, gf_20_2, gf_20_3, gf_20_4, gf_20_5, gf_20_6, gf_20_7, gf_20_8, gf_20_9, gf_20_10, gf_20_11, ok_20_11, gf_20_12, ok_20_12, gf_20_13, ok_20_13, gf_20_14, ok_20_14, gf_20_15, ok_20_15, ct_s, ct_n, ↓bI_01, bI_eq0, bI_eq1, nI_10, nI_01, dec_f, dec_t, if_n, eq_self, true_or, or_true, if_true, if_false, reduceIte]
  split
  · rfl
  · split <;> rfl
/-- base to the power of times -/
def pwL (b : Int64) : Nat → Int64 → Int64
  | 0, a => a
  | k + 1, a => pwL b k (a * b)
theorem l132 (b : Int64) (t : Nat) (ht : t < 2 ^ 31) : ∀ (c i : Nat) (a : Int64), i + c = t → ax_W d 132 5 [.long b, ax_dm, .int (nI t), .long a, ax_dm, .int (nI i)] [] n h Q = Q (some (.long (pwL b c a))) n h := by
  intro c
  induction c with
  | zero =>
    intro i a hi
    simp only [s132_5, s132_7, s132_8]
    rw [if_pos (nI_le (a := t) (b := i) (by omega) (by omega))]
    simp only [s132_21, s132_22]
    rfl
  | succ c ih =>
    intro i a hi
    simp only [s132_5, s132_7, s132_8]
    rw [if_neg (nI_ge (a := i) (b := t) (by omega) ht)]
    simp only [s132_11, s132_12, s132_13, s132_14, s132_15, s132_18]
    rw [nI_add, ih (i + 1) (a * b) (by omega)]
    rfl
theorem c132 (b : Int64) (t : Nat) (ht : t < 2 ^ 31) : ax_W d 132 0 [.long b, ax_dm, .int (nI t), ax_dm, ax_dm, ax_dm] [] n h Q = Q (some (.long (pwL b t 1))) n h := by
  simp only [s132_0, s132_1, s132_2, s132_3]
  exact l132 b t ht t 0 1 (by omega)
end Leaf
