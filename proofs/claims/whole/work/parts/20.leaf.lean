/-! ===== the class: leaves ===== -/
def bI (b : Bool) : Int32 := if b = true then 1 else 0
theorem bI_01 {b : Bool} : (bI b = 0 ∨ bI b = 1) = True := by cases b <;> simp [bI]
theorem bI_eq0 {b : Bool} : (bI b = 0) = (b = false) := by cases b <;> simp [bI]
theorem bI_eq1 {b : Bool} : (bI b = 1) = (b = true) := by cases b <;> simp [bI]
theorem bI_t {p : Prop} [Decidable p] (h : p) : bI (decide p) = 1 := by simp [bI, h]
theorem bI_f {p : Prop} [Decidable p] (h : ¬ p) : bI (decide p) = 0 := by simp [bI, h]
section Leaf
variable {d n : Nat} {h : ax_H} {Q : Option Value → Nat → ax_H → Prop} {x l m k s e : Int32}
theorem c121 : ax_W d 121 0 [.int x, .int l, .int m] [] n h Q = Q (some (.int (bI (decide (l ≤ x ∧ x ≤ m))))) n h := by
  simp only [↓s121_0, ↓s121_1, ↓s121_2, ↓s121_5, ↓s121_6, ↓s121_7, ↓s121_10, ↓s121_11, ↓s121_14, ↓s121_15, ct_s, ct_n, ↓bI_01, bI_eq0, bI_eq1, eq_self, true_or, or_true, if_true, if_false, reduceIte]
  by_cases h1 : x < l
  · rw [if_pos h1, bI_f (fun q => Int32.not_le.mpr h1 q.1)]
  · rw [if_neg h1]
    by_cases h2 : m < x
    · rw [if_pos h2, bI_f (fun q => Int32.not_le.mpr h2 q.2)]
    · rw [if_neg h2, bI_t ⟨Int32.not_lt.mp h1, Int32.not_lt.mp h2⟩]
theorem c122 : ax_W (d + 1) 122 0 [.int x] [] n h Q = Q (some (.int (bI (decide (0 ≤ x ∧ x ≤ 1))))) n h := by
  simp only [↓s122_0, ↓s122_1, ↓s122_2, ↓s122_3, ↓s122_6, ↓c121, ct_s, ct_n, ↓bI_01, bI_eq0, bI_eq1, eq_self, true_or, or_true, if_true, if_false, reduceIte]
theorem c123 : ax_W (d + 1) 123 0 [.int x] [] n h Q = Q (some (.int (bI (decide (0 ≤ x ∧ x ≤ 4))))) n h := by
  simp only [↓s123_0, ↓s123_1, ↓s123_2, ↓s123_3, ↓s123_6, ↓c121, ct_s, ct_n, ↓bI_01, bI_eq0, bI_eq1, eq_self, true_or, or_true, if_true, if_false, reduceIte]
theorem c124 : ax_W (d + 1) 124 0 [.int x] [] n h Q = Q (some (.int (bI (decide (0 ≤ x ∧ x ≤ 2))))) n h := by
  simp only [↓s124_0, ↓s124_1, ↓s124_2, ↓s124_3, ↓s124_6, ↓c121, ct_s, ct_n, ↓bI_01, bI_eq0, bI_eq1, eq_self, true_or, or_true, if_true, if_false, reduceIte]
def vdI (x : Int32) : Int32 := if x ≤ 0 then (if 0 ≤ x then 2 else 1) else 0
theorem c126 : ax_W d 126 0 [.int x] [] n h Q = Q (some (.int (vdI x))) n h := by
  unfold vdI
  simp only [↓s126_0, ↓s126_1, ↓s126_4, ↓s126_5, ↓s126_6, ↓s126_7, ↓s126_10, ↓s126_11, ↓s126_14, ↓s126_15, ct_s, ct_n, ↓bI_01, bI_eq0, bI_eq1, eq_self, true_or, or_true, if_true, if_false, reduceIte]
  split <;> (try split) <;> rfl
end Leaf
