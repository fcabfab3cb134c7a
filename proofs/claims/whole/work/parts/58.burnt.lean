/-! ===== burnt: pure ===== -/
def sm (f : Nat → Nat) : Nat → Nat
  | 0 => 0
  | k + 1 => sm f k + f k
theorem sm_c {f g : Nat → Nat} : ∀ n, (∀ i, i < n → f i = g i) → sm f n = sm g n := by
  intro n
  induction n with
  | zero => intro _; rfl
  | succ n ih => intro h; show sm f n + f n = sm g n + g n; rw [ih (fun i hi => h i (by omega)), h n (by omega)]
theorem sm_f {f : Nat → Nat} : ∀ n, sm f (n + 1) = f 0 + sm (fun k => f (k + 1)) n := by
  intro n
  induction n with
  | zero => show 0 + f 0 = f 0 + 0; omega
  | succ n ih =>
    show sm f (n + 1) + f (n + 1) = f 0 + (sm (fun k => f (k + 1)) n + f (n + 1))
    rw [ih]; omega
theorem sm_r : ∀ n (f : Nat → Nat), sm (fun b => f (n - 1 - b)) n = sm f n := by
  intro n
  induction n with
  | zero => intro f; rfl
  | succ n ih =>
    intro f
    show sm (fun b => f (n + 1 - 1 - b)) n + f (n + 1 - 1 - n) = _
    rw [sm_f, ← ih (fun k => f (k + 1)), sm_c n (g := fun b => f (n - 1 - b + 1)) (fun i hi => by show f (n + 1 - 1 - i) = f (n - 1 - i + 1); congr 1; omega), show n + 1 - 1 - n = 0 by omega]
    omega
theorem sm_le {f : Nat → Nat} {B : Nat} : ∀ n, (∀ i, i < n → f i ≤ B) → sm f n ≤ n * B := by
  intro n
  induction n with
  | zero => intro _; exact Nat.zero_le _
  | succ n ih =>
    intro h
    have h1 := ih (fun i hi => h i (by omega))
    have h2 := h n (by omega)
    show sm f n + f n ≤ _
    rw [Nat.succ_mul]; omega
/-- bits below k -/
def bC (b : Nat) : Nat → Nat
  | 0 => 0
  | k + 1 => bC b k + (if hasB b k = true then 1 else 0)
theorem bC_le {b : Nat} : ∀ k, bC b k ≤ k := by
  intro k
  induction k with
  | zero => exact Nat.le_refl _
  | succ k ih => show bC b k + _ ≤ k + 1; split <;> omega
theorem bC_pop : ∀ m, m < 9 → ∀ b, b < 2 ^ m → bC b m = pop b := by decide +kernel
theorem cp_pop : ∀ m, m < 9 → ∀ b, b < 2 ^ m → pop (2 ^ m - 1 - b) + pop b = m := by decide +kernel
theorem cp_has : ∀ m, m < 9 → ∀ b, b < 2 ^ m → ∀ i, i < m → hasB (2 ^ m - 1 - b) i = !hasB b i := by decide +kernel
theorem p2_le : ∀ m, m < 9 → 2 ^ m ≤ 256 := by decide
/-- what the bits below k weigh -/
def wt (o b : Nat) : Nat → Nat
  | 0 => 1
  | k + 1 => wt o b k * (if hasB b k = true then o else 10 - o)
theorem wt_eq {o b : Nat} : ∀ k, wt o b k = (10 - o) ^ (k - bC b k) * o ^ bC b k := by
  intro k
  induction k with
  | zero => rfl
  | succ k ih =>
    have h := bC_le (b := b) k
    show wt o b k * (if hasB b k = true then o else 10 - o) = (10 - o) ^ (k + 1 - (bC b k + (if hasB b k = true then 1 else 0))) * o ^ (bC b k + (if hasB b k = true then 1 else 0))
    rw [ih]
    by_cases e : hasB b k = true
    · rw [if_pos e, if_pos e, show k + 1 - (bC b k + 1) = k - bC b k by omega, Nat.pow_succ, Nat.mul_assoc]
    · rw [if_neg e, if_neg e, show k + 1 - (bC b k + 0) = k - bC b k + 1 by omega, show bC b k + 0 = bC b k from rfl, Nat.pow_succ, Nat.mul_assoc, Nat.mul_assoc, Nat.mul_comm (o ^ bC b k)]
theorem pw_10 {o p : Nat} (ho : o ≤ 10) (hp : p ≤ 8) : o ^ p ≤ 100000000 :=
  Nat.le_trans (Nat.pow_le_pow_left ho p) (Nat.le_trans (Nat.pow_le_pow_right (by decide) hp) (by decide))
theorem pwL_n {b : Nat} : ∀ t a, pwL (nL b) t (nL a) = nL (a * b ^ t) := by
  intro t
  induction t with
  | zero => intro a; show nL a = _; rw [Nat.pow_zero, Nat.mul_one]
  | succ t ih =>
    intro a
    show pwL (nL b) t (nL a * nL b) = _
    rw [nL_mul, ih, Nat.pow_succ, Nat.mul_assoc, Nat.mul_comm b]
/-! Euclid -/
def eu : Nat → Nat → Nat → Nat
  | 0, a, _ => a
  | k + 1, a, b => if b = 0 then a else eu k b (a % b)
theorem gcd_st {a b : Nat} : Nat.gcd b (a % b) = Nat.gcd a b := by
  rw [Nat.gcd_comm a b, Nat.gcd_rec b a, Nat.gcd_comm]
theorem eu_g : ∀ j k a b, b < 2 ^ j → 2 * j + 1 ≤ k → eu k a b = Nat.gcd a b := by
  intro j
  induction j with
  | zero =>
    intro k a b hb hk
    have : b = 0 := by simpa using hb
    subst this
    rw [Nat.gcd_zero_right]
    cases k with
    | zero => rfl
    | succ k => rfl
  | succ j ih =>
    intro k a b hb hk
    obtain ⟨k, rfl⟩ : ∃ q, k = q + 2 := ⟨k - 2, by omega⟩
    show (if b = 0 then a else eu (k + 1) b (a % b)) = _
    by_cases h0 : b = 0
    · rw [if_pos h0, h0, Nat.gcd_zero_right]
    · rw [if_neg h0]
      show (if a % b = 0 then b else eu k (a % b) (b % (a % b))) = _
      by_cases h1 : a % b = 0
      · rw [if_pos h1, ← gcd_st, h1, Nat.gcd_zero_right]
      · rw [if_neg h1]
        have l1 : a % b < b := Nat.mod_lt _ (by omega)
        have l2 : b % (a % b) < a % b := Nat.mod_lt _ (by omega)
        have l3 : b % (a % b) + a % b ≤ b := by
          have q := Nat.div_add_mod b (a % b)
          have : 1 ≤ b / (a % b) := (Nat.one_le_div_iff (by omega)).mpr (by omega)
          have : a % b * 1 ≤ a % b * (b / (a % b)) := Nat.mul_le_mul_left _ this
          omega
        rw [Nat.pow_succ] at hb
        rw [ih k _ _ (by omega) (by omega), gcd_st, gcd_st]
theorem nL_eq0 {k : Nat} (h : k < 2 ^ 63) : nL k = 0 ↔ k = 0 := by
  constructor
  · intro e
    have := congrArg Int64.toInt e
    rw [nL_toInt h] at this
    have : (k : Int) = 0 := this
    omega
  · intro e; subst e; rfl
theorem lg_eq {p q : Int64} : (lg_cmp p q = nI 0) ↔ p = q := by
  constructor
  · intro h
    have h1 : ¬ p < q := fun z => by have := (lg_lt p q).mpr z; rw [h] at this; exact absurd this (by decide)
    have h2 : ¬ q < p := fun z => by have := (lg_gt p q).mpr z; rw [h] at this; exact absurd this (by decide)
    exact Int64.le_antisymm (Int64.not_lt.mp h2) (Int64.not_lt.mp h1)
  · intro h
    subst h
    have h1 : ¬ lg_cmp p p < nI 0 := fun z => Int64.lt_irrefl ((lg_lt p p).mp z)
    have h2 : ¬ nI 0 < lg_cmp p p := fun z => Int64.lt_irrefl ((lg_gt p p).mp z)
    exact Int32.le_antisymm (Int32.not_lt.mp h2) (Int32.not_lt.mp h1)
section Euc
variable {d n : Nat} {h : ax_H} {Q : Option Value → Nat → ax_H → Prop} {S : ax_S} {M : ax_M} {N : ax_L}
theorem l133 : ∀ (c i a b : Nat), i + c = 100 → a < 2 ^ 63 → b < 2 ^ 63 → ∀ y5 y6, ax_W d 133 3 [.long (nL a), ax_dm, .long (nL b), ax_dm, .int (nI i), y5, y6] [] n h Q = Q (some (.long (nL (eu c a b)))) n h := by
  intro c
  induction c with
  | zero =>
    intro i a b hi ha hb y5 y6
    simp only [↓s133_3, ↓s133_5, ↓s133_7, ct_s, ct_n, ↓bI_01, bI_eq0, bI_eq1, nI_10, nI_01, dec_f, dec_t, if_n, eq_self, true_or, or_true, if_true, if_false, reduceIte]
    rw [if_pos (nI_le (a := 100) (b := i) (by omega) (by omega))]
    simp only [↓s133_32, ↓s133_33, ct_s, ct_n, ↓bI_01, bI_eq0, bI_eq1, nI_10, nI_01, dec_f, dec_t, if_n, eq_self, true_or, or_true, if_true, if_false, reduceIte]
    rfl
  | succ c ih =>
    intro i a b hi ha hb y5 y6
    simp only [↓s133_3, ↓s133_5, ↓s133_7, ct_s, ct_n, ↓bI_01, bI_eq0, bI_eq1, nI_10, nI_01, dec_f, dec_t, if_n, eq_self, true_or, or_true, if_true, if_false, reduceIte]
    rw [if_neg (nI_ge (a := i) (b := 100) (by omega) (by omega))]
    simp only [↓s133_10, ↓s133_11, ↓s133_12, ↓s133_13, lg_eq, nL_eq0 hb, ct_s, ct_n, ↓bI_01, bI_eq0, bI_eq1, nI_10, nI_01, dec_f, dec_t, if_n, eq_self, true_or, or_true, if_true, if_false, reduceIte]
    show _ = Q (some (.long (nL (if b = 0 then a else eu c b (a % b))))) n h
    by_cases e : b = 0
    · rw [if_pos e, if_pos e]
      simp only [↓s133_32, ↓s133_33, ct_s, ct_n, ↓bI_01, bI_eq0, bI_eq1, nI_10, nI_01, dec_f, dec_t, if_n, eq_self, true_or, or_true, if_true, if_false, reduceIte]
    · have e2 : ¬ nL b = 0 := fun q => e ((nL_eq0 hb).mp q)
      have := Nat.mod_lt a (show b > 0 by omega)
      rw [if_neg e, if_neg e]
      simp only [↓s133_16, ↓s133_17, ↓s133_18, ↓s133_19, ↓s133_21, ↓s133_22, ↓s133_23, ↓s133_25, ↓s133_26, ↓s133_29, e2, not_false_eq_true, nL_mod ha hb, nI_add, ct_s, ct_n, ↓bI_01, bI_eq0, bI_eq1, nI_10, nI_01, dec_f, dec_t, if_n, eq_self, true_or, or_true, if_true, if_false, reduceIte]
      exact ih (i + 1) b (a % b) (by omega) hb (by omega) _ _
theorem c133 {a b : Nat} (ha : a < 2 ^ 63) (hb : b < 2 ^ 40) : ax_W d 133 0 [.long (nL a), ax_dm, .long (nL b), ax_dm, ax_dm, ax_dm, ax_dm] [] n h Q = Q (some (.long (nL (Nat.gcd a b)))) n h := by
  simp only [↓s133_0, ↓s133_1, ct_s, ct_n, ↓bI_01, bI_eq0, bI_eq1, nI_10, nI_01, dec_f, dec_t, if_n, eq_self, true_or, or_true, if_true, if_false, reduceIte]
  rw [l133 100 0 a b (by omega) ha (by omega) ax_dm ax_dm, eu_g 40 100 a b hb (by omega)]
theorem c120 {a b : Nat} (ha : a < 2 ^ 63) (hb : b < 2 ^ 40) (h0 : 0 < b) : ax_W (d + 1) 120 0 [.ref 20, .long (nL a), ax_dm, .long (nL b), ax_dm, ax_dm, ax_dm] [] n (hx S M N) Q = Q none n (hx S M (ul (ul N 20 11 (nL (a / Nat.gcd a b))) 20 12 (nL (b / Nat.gcd a b)))) := by
  have gp : 0 < Nat.gcd a b := Nat.gcd_pos_of_pos_right a h0
  have gl : Nat.gcd a b ≤ b := Nat.gcd_le_right a h0
  have e2 : ¬ nL (Nat.gcd a b) = 0 := fun q => by have := (nL_eq0 (by omega)).mp q; omega
  simp only [↓s120_0, ↓s120_1, ↓s120_2, ↓s120_5, ↓s120_7, ↓s120_9, ↓s120_10, ↓s120_11, ↓c133 ha hb, ct_s, ct_n, ↓bI_01, bI_eq0, bI_eq1, nI_10, nI_01, dec_f, dec_t, if_n, eq_self, true_or, or_true, if_true, if_false, reduceIte]
  rw [if_neg (by
    rw [Int32.not_le, lg_gt, Int64.lt_iff_toInt_lt, nL_toInt (by omega)]
    show (0 : Int) < _
    omega)]
  simp only [↓s120_14, ↓s120_15, ↓s120_16, ↓s120_18, ↓s120_19, ↓s120_22, ↓s120_23, ↓s120_24, ↓s120_26, ↓s120_27, ↓s120_30, jc_20, gf_20_0, gf_20_1, gf_20_2, gf_20_3, gf_20_4, gf_20_5, gf_20_6, gf_20_7, gf_20_8, gf_20_9, gf_20_10, gf_20_11, ok_20_11, gf_20_12, ok_20_12, gf_20_13, ok_20_13, gf_20_14, ok_20_14, gf_20_15, ok_20_15, e2, not_false_eq_true, nL_div ha (show Nat.gcd a b < 2 ^ 63 by omega), nL_div (show b < 2 ^ 63 by omega) (show Nat.gcd a b < 2 ^ 63 by omega), ct_s, ct_n, ↓bI_01, bI_eq0, bI_eq1, nI_10, nI_01, dec_f, dec_t, if_n, eq_self, true_or, or_true, if_true, if_false, reduceIte]
theorem l194 : ∀ (t a b : Nat), b < t → a < 2 ^ 63 → b < 2 ^ 63 → ∀ (u w : Int64) y9 y10, ∃ z7 z9 z10, ∀ (S : ax_S) (M : ax_M) (N : ax_L) (d n : Nat) (Q : Option Value → Nat → ax_H → Prop), ax_W d 194 6 [.ref 84, .long u, ax_dm, .long w, ax_dm, .long (nL a), ax_dm, .long (nL b), ax_dm, y9, y10] [] n (hx S M N) Q = ax_W d 194 31 [.ref 84, .long u, ax_dm, .long w, ax_dm, .long (nL (Nat.gcd a b)), ax_dm, z7, ax_dm, z9, z10] [] n (hx S M N) Q := by
  intro t
  induction t with
  | zero => intro a b hb; omega
  | succ t ih =>
    intro a b hbt ha hb u w y9 y10
    by_cases e : b = 0
    · refine ⟨.long (nL b), y9, y10, fun S M N d n Q => ?_⟩
      simp only [↓s194_6, ↓s194_8, ↓s194_9, ↓s194_10, lg_eq, nL_eq0 hb, ct_s, ct_n, ↓bI_01, bI_eq0, bI_eq1, nI_10, nI_01, dec_f, dec_t, if_n, eq_self, true_or, or_true, if_true, if_false, reduceIte]
      rw [if_pos e, e, Nat.gcd_zero_right]
    · have e2 : ¬ nL b = 0 := fun q => e ((nL_eq0 hb).mp q)
      have := Nat.mod_lt a (show b > 0 by omega)
      obtain ⟨z7, z9, z10, g⟩ := ih b (a % b) (by omega) hb (by omega) u w (.long (nL (a % b))) ax_dm
      refine ⟨z7, z9, z10, fun S M N d n Q => ?_⟩
      simp only [↓s194_6, ↓s194_8, ↓s194_9, ↓s194_10, lg_eq, nL_eq0 hb, ct_s, ct_n, ↓bI_01, bI_eq0, bI_eq1, nI_10, nI_01, dec_f, dec_t, if_n, eq_self, true_or, or_true, if_true, if_false, reduceIte]
      rw [if_neg e]
      simp only [↓s194_13, ↓s194_15, ↓s194_17, ↓s194_18, ↓s194_20, ↓s194_22, ↓s194_24, ↓s194_26, ↓s194_28, e2, not_false_eq_true, nL_mod ha hb, ct_s, ct_n, ↓bI_01, bI_eq0, bI_eq1, nI_10, nI_01, dec_f, dec_t, if_n, eq_self, true_or, or_true, if_true, if_false, reduceIte]
      rw [g, gcd_st]
theorem c194 {a b : Nat} (ha : a < 2 ^ 63) (hb : b < 2 ^ 40) (h0 : 0 < b) : ax_W d 194 0 [.ref 84, .long (nL a), ax_dm, .long (nL b), ax_dm, ax_dm, ax_dm, ax_dm, ax_dm, ax_dm, ax_dm] [] n (hx S M N) Q = Q none n (hx S M (ul (ul N 84 4 (nL (a / Nat.gcd a b))) 84 5 (nL (b / Nat.gcd a b)))) := by
  have gp : 0 < Nat.gcd a b := Nat.gcd_pos_of_pos_right a h0
  have gl : Nat.gcd a b ≤ b := Nat.gcd_le_right a h0
  have e2 : ¬ nL (Nat.gcd a b) = 0 := fun q => by have := (nL_eq0 (by omega)).mp q; omega
  obtain ⟨z7, z9, z10, g⟩ := l194 (b + 1) a b (by omega) ha (by omega) (nL a) (nL b) ax_dm ax_dm
  simp only [↓s194_0, ↓s194_1, ↓s194_3, ↓s194_4, ct_s, ct_n, ↓bI_01, bI_eq0, bI_eq1, nI_10, nI_01, dec_f, dec_t, if_n, eq_self, true_or, or_true, if_true, if_false, reduceIte]
  rw [g]
  simp only [↓s194_31, ↓s194_32, ↓s194_33, ↓s194_35, ↓s194_36, ↓s194_39, ↓s194_40, ↓s194_41, ↓s194_43, ↓s194_44, ↓s194_47, jc_84, gf_84_0, gf_84_1, gf_84_2, gf_84_3, gf_84_4, ok_84_4, gf_84_5, ok_84_5, gf_84_6, ok_84_6, gf_84_7, ok_84_7, gf_84_8, ok_84_8, gf_84_9, ok_84_9, gf_84_10, gf_84_11, gf_84_12, gf_84_13, gf_84_14, gf_84_15, gf_84_16, gf_84_17, ok_84_17, gf_84_18, gf_84_19, ok_84_19, gf_84_20, ok_84_20, gf_84_21, gf_84_22, gf_84_23, gf_84_24, ok_84_24, gf_84_25, ok_84_25, gf_84_26, ok_84_26, gf_84_27, ok_84_27, gf_84_28, ok_84_28, gf_84_29, gf_84_30, e2, not_false_eq_true, nL_div ha (show Nat.gcd a b < 2 ^ 63 by omega), nL_div (show b < 2 ^ 63 by omega) (show Nat.gcd a b < 2 ^ 63 by omega), ct_s, ct_n, ↓bI_01, bI_eq0, bI_eq1, nI_10, nI_01, dec_f, dec_t, if_n, eq_self, true_or, or_true, if_true, if_false, reduceIte]
end Euc
