/-! ===== numbers; the class's leaves ===== -/
def bI (b : Bool) : Int32 := if b = true then nI 1 else nI 0
theorem nI_10 : (nI 1 = nI 0) = False := by decide
theorem nI_01 : (nI 0 = nI 1) = False := by decide
theorem bI_01 {b : Bool} : (bI b = nI 0 ∨ bI b = nI 1) = True := by cases b <;> decide
theorem bI_eq0 {b : Bool} : (bI b = nI 0) = (b = false) := by cases b <;> decide
theorem bI_eq1 {b : Bool} : (bI b = nI 1) = (b = true) := by cases b <;> decide
theorem bI_t {p : Prop} [Decidable p] (h : p) : bI (decide p) = nI 1 := by simp [bI, h]
theorem bI_f {p : Prop} [Decidable p] (h : ¬ p) : bI (decide p) = nI 0 := by simp [bI, h]
theorem dec_f {p : Prop} [Decidable p] : (decide p = false) = ¬ p := by simp
theorem dec_t {p : Prop} [Decidable p] : (decide p = true) = p := by simp
theorem if_n {p : Prop} [Decidable p] {α : Sort _} {a b : α} : (if ¬ p then a else b) = if p then b else a := by by_cases h : p <;> simp [h]
abbrev tn (x : Int32) : Nat := x.toNatClampNeg
theorem le_tn {x : Int32} (h : nI 0 ≤ x) : x = nI (tn x) ∧ tn x < 2 ^ 31 := by
  obtain ⟨j, h1, h2⟩ := nI_of (x := x) (Int32.not_lt.mpr h)
  subst h2
  show nI j = nI (nI j).toNatClampNeg ∧ (nI j).toNatClampNeg < 2 ^ 31
  rw [nI_clamp h1]
  exact ⟨rfl, h1⟩
theorem lt_tn {x : Int32} {k : Nat} (hk : k < 2 ^ 31) (h0 : nI 0 ≤ x) (h : x < nI k) : tn x < k := by
  obtain ⟨e, h1⟩ := le_tn h0
  rw [e] at h
  exact (nI_ltI h1 hk).mp h
theorem jc_20 {S : ax_S} {M : ax_M} {N : ax_L} : isC (hx S M N) 20 9 = true := id ic_20
theorem jc_21 {S : ax_S} {M : ax_M} {N : ax_L} : isC (hx S M N) 21 0 = true := id ic_21
theorem jc_22 {S : ax_S} {M : ax_M} {N : ax_L} : isC (hx S M N) 22 6 = true := id ic_22
theorem jc_24 {S : ax_S} {M : ax_M} {N : ax_L} : isC (hx S M N) 24 6 = true := id ic_24
theorem jc_26 {S : ax_S} {M : ax_M} {N : ax_L} : isC (hx S M N) 26 6 = true := id ic_26
theorem jc_28 {S : ax_S} {M : ax_M} {N : ax_L} : isC (hx S M N) 28 6 = true := id ic_28
theorem jc_30 {S : ax_S} {M : ax_M} {N : ax_L} : isC (hx S M N) 30 6 = true := id ic_30
theorem jc_32 {S : ax_S} {M : ax_M} {N : ax_L} : isC (hx S M N) 32 0 = true := id ic_32
theorem jc_33 {S : ax_S} {M : ax_M} {N : ax_L} : isC (hx S M N) 33 6 = true := id ic_33
theorem jc_35 {S : ax_S} {M : ax_M} {N : ax_L} : isC (hx S M N) 35 6 = true := id ic_35
theorem jc_37 {S : ax_S} {M : ax_M} {N : ax_L} : isC (hx S M N) 37 6 = true := id ic_37
theorem jc_39 {S : ax_S} {M : ax_M} {N : ax_L} : isC (hx S M N) 39 6 = true := id ic_39
theorem jc_41 {S : ax_S} {M : ax_M} {N : ax_L} : isC (hx S M N) 41 6 = true := id ic_41
theorem jc_43 {S : ax_S} {M : ax_M} {N : ax_L} : isC (hx S M N) 43 2 = true := id ic_43
theorem jc_44 {S : ax_S} {M : ax_M} {N : ax_L} : isC (hx S M N) 44 0 = true := id ic_44
theorem jc_45 {S : ax_S} {M : ax_M} {N : ax_L} : isC (hx S M N) 45 6 = true := id ic_45
theorem jc_47 {S : ax_S} {M : ax_M} {N : ax_L} : isC (hx S M N) 47 6 = true := id ic_47
theorem jc_49 {S : ax_S} {M : ax_M} {N : ax_L} : isC (hx S M N) 49 6 = true := id ic_49
theorem jc_51 {S : ax_S} {M : ax_M} {N : ax_L} : isC (hx S M N) 51 6 = true := id ic_51
theorem jc_53 {S : ax_S} {M : ax_M} {N : ax_L} : isC (hx S M N) 53 6 = true := id ic_53
theorem jc_55 {S : ax_S} {M : ax_M} {N : ax_L} : isC (hx S M N) 55 2 = true := id ic_55
theorem jc_56 {S : ax_S} {M : ax_M} {N : ax_L} : isC (hx S M N) 56 0 = true := id ic_56
theorem jc_57 {S : ax_S} {M : ax_M} {N : ax_L} : isC (hx S M N) 57 6 = true := id ic_57
theorem jc_59 {S : ax_S} {M : ax_M} {N : ax_L} : isC (hx S M N) 59 6 = true := id ic_59
theorem jc_61 {S : ax_S} {M : ax_M} {N : ax_L} : isC (hx S M N) 61 6 = true := id ic_61
theorem jc_63 {S : ax_S} {M : ax_M} {N : ax_L} : isC (hx S M N) 63 6 = true := id ic_63
theorem jc_65 {S : ax_S} {M : ax_M} {N : ax_L} : isC (hx S M N) 65 6 = true := id ic_65
theorem jc_67 {S : ax_S} {M : ax_M} {N : ax_L} : isC (hx S M N) 67 6 = true := id ic_67
theorem jc_69 {S : ax_S} {M : ax_M} {N : ax_L} : isC (hx S M N) 69 5 = true := id ic_69
theorem jc_70 {S : ax_S} {M : ax_M} {N : ax_L} : isC (hx S M N) 70 6 = true := id ic_70
theorem jc_72 {S : ax_S} {M : ax_M} {N : ax_L} : isC (hx S M N) 72 1 = true := id ic_72
theorem jc_73 {S : ax_S} {M : ax_M} {N : ax_L} : isC (hx S M N) 73 8 = true := id ic_73
theorem jc_74 {S : ax_S} {M : ax_M} {N : ax_L} : isC (hx S M N) 74 6 = true := id ic_74
theorem jc_76 {S : ax_S} {M : ax_M} {N : ax_L} : isC (hx S M N) 76 1 = true := id ic_76
theorem jc_77 {S : ax_S} {M : ax_M} {N : ax_L} : isC (hx S M N) 77 4 = true := id ic_77
theorem jc_78 {S : ax_S} {M : ax_M} {N : ax_L} : isC (hx S M N) 78 3 = true := id ic_78
theorem jc_79 {S : ax_S} {M : ax_M} {N : ax_L} : isC (hx S M N) 79 6 = true := id ic_79
theorem jc_81 {S : ax_S} {M : ax_M} {N : ax_L} : isC (hx S M N) 81 6 = true := id ic_81
theorem jc_83 {S : ax_S} {M : ax_M} {N : ax_L} : isC (hx S M N) 83 7 = true := id ic_83
theorem jc_84 {S : ax_S} {M : ax_M} {N : ax_L} : isC (hx S M N) 84 10 = true := id ic_84
section Leaf
variable {d n : Nat} {h : ax_H} {Q : Option Value → Nat → ax_H → Prop} {x l m k s e : Int32} {S : ax_S} {M : ax_M} {N : ax_L} {p q : Int64}
theorem c121 : ax_W d 121 0 [.int x, .int l, .int m] [] n h Q = Q (some (.int (bI (decide (l ≤ x ∧ x ≤ m))))) n h := by
  simp only [↓s121_0, ↓s121_1, ↓s121_2, ↓s121_5, ↓s121_6, ↓s121_7, ↓s121_10, ↓s121_11, ↓s121_14, ↓s121_15, ct_s, ct_n, ↓bI_01, bI_eq0, bI_eq1, nI_10, nI_01, dec_f, dec_t, if_n, eq_self, true_or, or_true, if_true, if_false, reduceIte]
  by_cases h1 : x < l
  · rw [if_pos h1, bI_f (fun q => Int32.not_le.mpr h1 q.1)]
  · rw [if_neg h1]
    by_cases h2 : m < x
    · rw [if_pos h2, bI_f (fun q => Int32.not_le.mpr h2 q.2)]
    · rw [if_neg h2, bI_t ⟨Int32.not_lt.mp h1, Int32.not_lt.mp h2⟩]
theorem c122 : ax_W (d + 1) 122 0 [.int x] [] n h Q = Q (some (.int (bI (decide (nI 0 ≤ x ∧ x ≤ nI 1))))) n h := by
  simp only [↓s122_0, ↓s122_1, ↓s122_2, ↓s122_3, ↓s122_6, ↓c121, ct_s, ct_n, ↓bI_01, bI_eq0, bI_eq1, nI_10, nI_01, dec_f, dec_t, if_n, eq_self, true_or, or_true, if_true, if_false, reduceIte]
theorem c123 : ax_W (d + 1) 123 0 [.int x] [] n h Q = Q (some (.int (bI (decide (nI 0 ≤ x ∧ x ≤ nI 4))))) n h := by
  simp only [↓s123_0, ↓s123_1, ↓s123_2, ↓s123_3, ↓s123_6, ↓c121, ct_s, ct_n, ↓bI_01, bI_eq0, bI_eq1, nI_10, nI_01, dec_f, dec_t, if_n, eq_self, true_or, or_true, if_true, if_false, reduceIte]
theorem c124 : ax_W (d + 1) 124 0 [.int x] [] n h Q = Q (some (.int (bI (decide (nI 0 ≤ x ∧ x ≤ nI 2))))) n h := by
  simp only [↓s124_0, ↓s124_1, ↓s124_2, ↓s124_3, ↓s124_6, ↓c121, ct_s, ct_n, ↓bI_01, bI_eq0, bI_eq1, nI_10, nI_01, dec_f, dec_t, if_n, eq_self, true_or, or_true, if_true, if_false, reduceIte]
def vdI (x : Int32) : Int32 := if x ≤ nI 0 then (if nI 0 ≤ x then nI 2 else nI 1) else nI 0
theorem c126 : ax_W d 126 0 [.int x] [] n h Q = Q (some (.int (vdI x))) n h := by
  unfold vdI
  simp only [↓s126_0, ↓s126_1, ↓s126_4, ↓s126_5, ↓s126_6, ↓s126_7, ↓s126_10, ↓s126_11, ↓s126_14, ↓s126_15, ct_s, ct_n, ↓bI_01, bI_eq0, bI_eq1, nI_10, nI_01, dec_f, dec_t, if_n, eq_self, true_or, or_true, if_true, if_false, reduceIte]
  split <;> (try split) <;> rfl
def tsI (s x : Int32) : Int32 := if s = nI 0 then x else -x
theorem c128 : ax_W d 128 0 [.int s, .int x] [] n h Q = Q (some (.int (tsI s x))) n h := by
  unfold tsI
  simp only [↓s128_0, ↓s128_1, ↓s128_4, ↓s128_5, ↓s128_8, ↓s128_9, ↓s128_10, ct_s, ct_n, ↓bI_01, bI_eq0, bI_eq1, nI_10, nI_01, dec_f, dec_t, if_n, eq_self, true_or, or_true, if_true, if_false, reduceIte]
  split <;> rfl
theorem c129 : ax_W d 129 0 [.int s, .int x] [] n h Q = Q (some (.int (bI (decide (¬ s >>> (x &&& 31) &&& nI 1 = nI 0))))) n h := by
  simp only [↓s129_0, ↓s129_1, ↓s129_2, ↓s129_3, ↓s129_4, ↓s129_5, ↓s129_8, ↓s129_9, ↓s129_12, ↓s129_13, ct_s, ct_n, ↓bI_01, bI_eq0, bI_eq1, nI_10, nI_01, dec_f, dec_t, if_n, eq_self, true_or, or_true, if_true, if_false, reduceIte]
  split
  · rename_i w; rw [bI_f (fun q => q w)]
  · rename_i w; rw [bI_t w]
theorem c130 : ax_W d 130 0 [.int s, .int x] [] n h Q = Q (some (.int (s ||| nI 1 <<< (x &&& 31)))) n h := by
  simp only [↓s130_0, ↓s130_1, ↓s130_2, ↓s130_3, ↓s130_4, ↓s130_5, ct_s, ct_n, ↓bI_01, bI_eq0, bI_eq1, nI_10, nI_01, dec_f, dec_t, if_n, eq_self, true_or, or_true, if_true, if_false, reduceIte]
theorem c131 : ax_W d 131 0 [.long p, ax_dm, .long q, ax_dm] [] n h Q = Q (some (.long (31 * p + q))) n h := by
  simp only [↓s131_0, ↓s131_3, ↓s131_4, ↓s131_5, ↓s131_6, ↓s131_7, ct_s, ct_n, ↓bI_01, bI_eq0, bI_eq1, nI_10, nI_01, dec_f, dec_t, if_n, eq_self, true_or, or_true, if_true, if_false, reduceIte]
def refM (M : ax_M) (r : Int32) : ax_M := if r = -2 then ux M 20 13 (M 20 13 + nI 1) else if r = -3 then ux M 20 14 (M 20 14 + nI 1) else ux M 20 15 (M 20 15 + nI 1)
theorem c116 : ax_W d 116 0 [.ref 20, .int x, .int k] [] n (hx S M N) Q = Q (some (.int k)) n (hx S (refM M x) N) := by
  unfold refM
  simp only [↓s116_0, ↓s116_1, ↓s116_3, ↓s116_6, ↓s116_7, ↓s116_8, ↓s116_11, ↓s116_12, ↓s116_13, ↓s116_16, ↓s116_19, ↓s116_20, ↓s116_22, ↓s116_25, ↓s116_26, ↓s116_27, ↓s116_30, ↓s116_31, ↓s116_32, ↓s116_35, ↓s116_38, ↓s116_39, ↓s116_40, ↓s116_43, ↓s116_44, ↓s116_45, ↓s116_48, ↓s116_49, jc_20, gf_20_0, gf_20_1, gf_20_2, gf_20_3, gf_20_4, gf_20_5, gf_20_6, gf_20_7, gf_20_8, gf_20_9, gf_20_10, gf_20_11, ok_20_11, gf_20_12, ok_20_12, gf_20_13, ok_20_13, gf_20_14, ok_20_14, gf_20_15, ok_20_15, ct_s, ct_n, ↓bI_01, bI_eq0, bI_eq1, nI_10, nI_01, dec_f, dec_t, if_n, eq_self, true_or, or_true, if_true, if_false, reduceIte]
  split
  · rfl
  · split <;> rfl
/-- base to the power of times -/
def pwL (b : Int64) : Nat → Int64 → Int64
  | 0, a => a
  | k + 1, a => pwL b k (a * b)
theorem l132 (b : Int64) (t : Nat) (ht : t < 2 ^ 31) : ∀ (c i : Nat) (a : Int64), i + c = t → ax_W d 132 5 [.long b, ax_dm, .int (nI t), .long a, ax_dm, .int (nI i)] [] n h Q = Q (some (.long (pwL b c a))) n h := by
  intro c
  induction c with
  | zero =>
    intro i a hi
    simp only [s132_5, s132_7, s132_8]
    rw [if_pos (nI_le (a := t) (b := i) (by omega) (by omega))]
    simp only [s132_21, s132_22]
    rfl
  | succ c ih =>
    intro i a hi
    simp only [s132_5, s132_7, s132_8]
    rw [if_neg (nI_ge (a := i) (b := t) (by omega) ht)]
    simp only [s132_11, s132_12, s132_13, s132_14, s132_15, s132_18]
    rw [nI_add, ih (i + 1) (a * b) (by omega)]
    rfl
theorem c132 (b : Int64) (t : Nat) (ht : t < 2 ^ 31) : ax_W d 132 0 [.long b, ax_dm, .int (nI t), ax_dm, ax_dm, ax_dm] [] n h Q = Q (some (.long (pwL b t 1))) n h := by
  simp only [s132_0, s132_1, s132_2, s132_3]
  exact l132 b t ht t 0 1 (by omega)
end Leaf
