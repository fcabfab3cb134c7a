/-! ===== longs that are numbers ===== -/
def nL (k : Nat) : Int64 := Int64.ofNat k
theorem nL_toInt {k : Nat} (h : k < 2 ^ 63) : (nL k).toInt = (k : Int) := Int64.toInt_ofNat_of_lt h
theorem nL_ext {p : Int64} {k : Nat} (h : k < 2 ^ 63) (e : p.toInt = (k : Int)) : p = nL k := Int64.toInt_inj.mp (e.trans (nL_toInt h).symm)
theorem nL_add {a b : Nat} : nL a + nL b = nL (a + b) := (Int64.ofNat_add a b).symm
theorem nL_mul {a b : Nat} : nL a * nL b = nL (a * b) := (Int64.ofNat_mul a b).symm
theorem nL_sub {a b : Nat} (h : b ≤ a) : nL a - nL b = nL (a - b) := by
  have : nL a = nL (a - b) + nL b := by rw [nL_add, Nat.sub_add_cancel h]
  rw [this, Int64.add_sub_cancel]
theorem nL_div {a b : Nat} (ha : a < 2 ^ 63) (hb : b < 2 ^ 63) : nL a / nL b = nL (a / b) := by
  have hab : a / b ≤ a := Nat.div_le_self a b
  refine nL_ext (by omega) ?_
  rw [Int64.toInt_div, nL_toInt ha, nL_toInt hb, ← Int.ofNat_tdiv]
  generalize a / b = q at *
  exact Int.bmod_eq_of_le (by omega) (by omega)
theorem nL_mod {a b : Nat} (ha : a < 2 ^ 63) (hb : b < 2 ^ 63) : nL a - nL a / nL b * nL b = nL (a % b) := by
  rw [nL_div ha hb, nL_mul, nL_sub (Nat.div_mul_le_self a b)]
  congr 1
  have := Nat.div_add_mod a b
  rw [Nat.mul_comm] at this
  omega
theorem nL_32 {k : Nat} : (nL k).toInt32 = nI k := by
  have h : ∀ (x : Int64) (y : Int32), x.toInt32.toInt = y.toInt → x.toInt32 = y := fun x y e => Int32.toInt_inj.mp e
  apply h
  show ((Int64.ofNat k).toInt32).toInt = (Int32.ofNat k).toInt
  simp
theorem nI_64 {k : Nat} (h : k < 2 ^ 31) : (nI k).toInt64 = nL k := nL_ext (by omega) (by rw [Int32.toInt_toInt64, nI_toInt h])
def nxN (X : Nat) : Nat := (X * 1103515245 + 12345) % 2147483648
theorem nxN_lt {X : Nat} : nxN X < 2 ^ 31 := Nat.mod_lt _ (by decide)
theorem nx_eq {X : Nat} (h : X < 2 ^ 31) : nL X * 1103515245 + 12345 - (nL X * 1103515245 + 12345) / 2147483648 * 2147483648 = nL (nxN X) := by
  have e1 : (1103515245 : Int64) = nL 1103515245 := rfl
  have e2 : (12345 : Int64) = nL 12345 := rfl
  have e3 : (2147483648 : Int64) = nL 2147483648 := rfl
  rw [e1, e2, e3, nL_mul, nL_add, nL_mod (by omega) (by omega)]
  rfl
theorem dk_eq {X : Nat} (h : X < 2 ^ 31) : (nL X / 65536 - nL X / 65536 / 9 * 9).toInt32 = nI (X / 65536 % 9) := by
  have e1 : (65536 : Int64) = nL 65536 := rfl
  have e2 : (9 : Int64) = nL 9 := rfl
  rw [e1, e2, nL_div (by omega) (by omega), nL_mod (by omega) (by omega), nL_32]
section Dinners
variable {M M0 : ax_M} {N : ax_L} {A : ax_A0} {x y : Int32}
/-- one dinner: the seed behind it, the evening behind it -/
def dn (A : ax_A0) : Nat → Nat → ax_V → Nat → Nat × ax_V
  | 0, X, v, _ => (X, v)
  | c + 1, X, v, s => if mayA A (nxN X / 65536 % 9) s v.1 = true then dn A c (nxN X) (evS A s (nxN X / 65536 % 9) v) (1 - s) else (nxN X, v)
theorem dn_t {c X s : Nat} {v : ax_V} (h : mayA A (nxN X / 65536 % 9) s v.1 = true) : dn A (c + 1) X v s = dn A c (nxN X) (evS A s (nxN X / 65536 % 9) v) (1 - s) := by
  show (if _ then _ else _) = _
  rw [if_pos h]
theorem dn_f {c X s : Nat} {v : ax_V} (h : mayA A (nxN X / 65536 % 9) s v.1 = false) : dn A (c + 1) X v s = (nxN X, v) := by
  show (if _ then _ else _) = _
  rw [if_neg (by rw [h]; decide)]
theorem dn_lt : ∀ c X v s, X < 2 ^ 31 → (dn A c X v s).1 < 2 ^ 31 := by
  intro c
  induction c with
  | zero => intro X v s h; exact h
  | succ c ih =>
    intro X v s h
    cases e : mayA A (nxN X / 65536 % 9) s v.1 with
    | true => rw [dn_t e]; exact ih _ _ _ nxN_lt
    | false => rw [dn_f e]; exact nxN_lt
theorem l21 (hC : RC M 21 A) (hW : WF A) : ∀ (c X : Nat) (v : ax_V) (s : Nat), c + pop v.1 = 9 → X < 2 ^ 31 → s ≤ 1 → v.1 < 256 → (∀ j, v.2.1 = some j → j < ndA A) → ∀ y5, ∀ (S : ax_S) (d n : Nat) (Q : Option Value → Nat → ax_H → Prop), ax_W (d + 4) 21 15 [.ref 72, .long (nL X), ax_dm, .int (nI s), .int (nI (pop v.1)), y5] [] n (hx S (evM M 72 v) N) Q = Q (some (.long (nL (dn A c X v s).1))) n (hx S (evM M 72 (dn A c X v s).2) N) := by
  have n8 := hW.1.2
  intro c
  induction c with
  | zero =>
    intro X v s hp
    have := bt_pop8 v.1
    omega
  | succ c ih =>
    intro X v s hp hX hs hv hl y5 S d n Q
    have hC1 := RC_ev (e := 72) (v := v) (by decide) hC
    have k9 : nxN X / 65536 % 9 < 9 := Nat.mod_lt _ (by decide)
    simp only [↓s21_15, ↓s21_17, ↓s21_19, ct_s, ct_n, ↓bI_01, bI_eq0, bI_eq1, nI_10, nI_01, dec_f, dec_t, if_n, eq_self, true_or, or_true, if_true, if_false, reduceIte]
    rw [if_neg (nI_ge (a := pop v.1) (b := 9) (by omega) (by omega))]
    simp only [↓s21_22, ↓s21_23, ↓s21_26, ↓s21_27, ↓s21_30, ↓s21_31, ↓s21_34, ↓s21_35, ↓s21_36, show ¬ (2147483648 : Int64) = 0 by decide, nx_eq hX, not_false_eq_true, ct_s, ct_n, ↓bI_01, bI_eq0, bI_eq1, nI_10, nI_01, dec_f, dec_t, if_n, eq_self, true_or, or_true, if_true, if_false, reduceIte]
    simp only [↓s21_36, ↓s21_37, ↓s21_40, ↓s21_41, ↓s21_44, ↓s21_45, ↓s21_46, ↓s21_48, ↓s21_49, ↓s21_52, ↓s21_54, ↓s21_55, ↓s21_56, ↓s21_59, jc_72, gf_72_0, gf_72_1, ok_72_1, gf_72_2, ok_72_2, gf_72_3, ok_72_3, jc_21, gf_21_0, gf_21_1, gf_21_2, gf_21_3, gf_21_4, gf_21_5, ok_21_5, gf_21_6, ok_21_6, show ¬ (65536 : Int64) = 0 by decide, show ¬ (9 : Int64) = 0 by decide, dk_eq nxN_lt, not_false_eq_true, evM_1, ↓c9 hC1 hW (show nxN X / 65536 % 9 < 1000 by omega) hs hv, ct_s, ct_n, ↓bI_01, bI_eq0, bI_eq1, nI_10, nI_01, dec_f, dec_t, if_n, eq_self, true_or, or_true, if_true, if_false, reduceIte]
    cases e : mayA A (nxN X / 65536 % 9) s v.1 with
    | false =>
      rw [dn_f e]
      simp only [↓s21_62, ↓s21_65, ↓s21_66, ct_s, ct_n, ↓bI_01, bI_eq0, bI_eq1, nI_10, nI_01, dec_f, dec_t, if_n, eq_self, true_or, or_true, if_true, if_false, reduceIte]
    | true =>
      have lt := mayA_lt e
      have hp2 := bt_pop _ hv _ (by omega) lt.2
      have ok := evS_ok (s := s) hW lt.1 hv
      have ih := ih (nxN X) (evS A s (nxN X / 65536 % 9) v) (1 - s) (by show c + pop (addB v.1 _) = 9; omega) nxN_lt (by omega) ok.1 ok.2 (.int (nI (nxN X / 65536 % 9))) S d n Q
      rw [show pop (evS A s (nxN X / 65536 % 9) v).1 = pop v.1 + 1 from hp2] at ih
      rw [dn_t e]
      simp only [↓s21_62, ↓s21_65, ↓s21_66, ↓s21_67, ↓s21_68, ↓s21_69, ↓s21_71, ↓s21_74, ↓s21_75, ↓s21_76, ↓s21_77, ↓s21_78, ↓s21_79, ↓s21_82, jc_72, gf_72_0, gf_72_1, ok_72_1, gf_72_2, ok_72_2, gf_72_3, ok_72_3, jc_21, gf_21_0, gf_21_1, gf_21_2, gf_21_3, gf_21_4, gf_21_5, ok_21_5, gf_21_6, ok_21_6, ↓c17 (e := 72) (Or.inl rfl) hC hW lt.1 hs hv hl, pk_sub hs, nI_add, ct_s, ct_n, ↓bI_01, bI_eq0, bI_eq1, nI_10, nI_01, dec_f, dec_t, if_n, eq_self, true_or, or_true, if_true, if_false, reduceIte, Bool.true_eq_false]
      exact ih
theorem c21 (hC : RC M 21 A) (hW : WF A) {X : Nat} (hX : X < 2 ^ 31) {d n : Nat} {S : ax_S} {Q : Option Value → Nat → ax_H → Prop} : ax_W (d + 4) 21 0 [.ref 72, .long (nL X), ax_dm, ax_dm, ax_dm, ax_dm] [] n (hx S M N) Q = Q (some (.long (nL (dn A (9 - pop (nowA A).1) X (nowA A) 0).1))) n (hx S (evM M 72 (dn A (9 - pop (nowA A).1) X (nowA A) 0).2) N) := by
  obtain ⟨v1, v2, v3⟩ := nowA_ok hW
  have p8 := bt_pop8 (nowA A).1
  simp only [↓s21_0, ↓s21_1, ↓s21_4, ↓s21_5, ↓s21_6, ↓s21_7, ↓s21_10, ↓s21_13, jc_72, gf_72_0, gf_72_1, ok_72_1, gf_72_2, ok_72_2, gf_72_3, ok_72_3, jc_21, gf_21_0, gf_21_1, gf_21_2, gf_21_3, gf_21_4, gf_21_5, ok_21_5, gf_21_6, ok_21_6, ↓c15 (e := 72) (Or.inl rfl) hC hW, evM_1, ↓c218 v1, ct_s, ct_n, ↓bI_01, bI_eq0, bI_eq1, nI_10, nI_01, dec_f, dec_t, if_n, eq_self, true_or, or_true, if_true, if_false, reduceIte]
  exact l21 hC hW _ X (nowA A) 0 (by omega) hX (by omega) v1 v3 ax_dm S d n Q
theorem l196i (hA : M 85 = A) (hW : WF A) {y1 y2 y5 y6 : Int32} : ∀ (c X : Nat) (v : ax_V) (s : Nat), c + pop v.1 = 9 → X < 2 ^ 31 → s ≤ 1 → v.1 < 256 → (∀ j, v.2.1 = some j → j < ndA A) → ∀ y9 y10, ∃ z7 z8 z9 z10, ∀ (S : ax_S) (d n : Nat) (Q : Option Value → Nat → ax_H → Prop), ax_W (d + 5) 196 56 [.ref 84, .int y1, .int y2, .long (nL X), ax_dm, .int y5, .int y6, .int (nI s), .int (nI 1), y9, y10] [] n (hx S (rvM M v) N) Q = ax_W (d + 5) 196 148 [.ref 84, .int y1, .int y2, .long (nL (dn A c X v s).1), ax_dm, .int y5, .int y6, z7, z8, z9, z10] [] n (hx S (rvM M (dn A c X v s).2) N) Q := by
  have n8 := hW.1.2
  intro c
  induction c with
  | zero =>
    intro X v s hp
    have := bt_pop8 v.1
    omega
  | succ c ih =>
    intro X v s hp hX hs hv hl y9 y10
    have hA1 : rvM M v 85 = A := by rw [rvM_85]; exact hA
    have a0 : rvM M v 85 0 = nI (ndA A) := by rw [hA1]; exact hW.1.1
    have k9 : nxN X / 65536 % 9 < 9 := Nat.mod_lt _ (by decide)
    have pre : ∀ (S : ax_S) (d n : Nat) (Q : Option Value → Nat → ax_H → Prop), ax_W (d + 5) 196 56 [.ref 84, .int y1, .int y2, .long (nL X), ax_dm, .int y5, .int y6, .int (nI s), .int (nI 1), y9, y10] [] n (hx S (rvM M v) N) Q = ax_W (d + 5) 196 123 [.ref 84, .int y1, .int y2, .long (nL (nxN X)), ax_dm, .int y5, .int y6, .int (nI s), .int (bI (mayA A (nxN X / 65536 % 9) s v.1)), .int (nI (nxN X / 65536 % 9)), y10] [] n (hx S (rvM M v) N) Q := by
      intro S d n Q
      simp only [↓s196_56, ↓s196_58, ↓s196_61, ↓s196_62, ↓s196_65, ↓s196_67, jc_84, gf_84_0, gf_84_1, gf_84_2, gf_84_3, gf_84_4, ok_84_4, gf_84_5, ok_84_5, gf_84_6, ok_84_6, gf_84_7, ok_84_7, gf_84_8, ok_84_8, gf_84_9, ok_84_9, gf_84_10, gf_84_11, gf_84_12, gf_84_13, gf_84_14, gf_84_15, gf_84_16, gf_84_17, ok_84_17, gf_84_18, gf_84_19, ok_84_19, gf_84_20, ok_84_20, gf_84_21, gf_84_22, gf_84_23, gf_84_24, ok_84_24, gf_84_25, ok_84_25, gf_84_26, ok_84_26, gf_84_27, ok_84_27, gf_84_28, ok_84_28, gf_84_29, gf_84_30, rvM_8, ct_s, ct_n, ↓bI_01, bI_eq0, bI_eq1, nI_10, nI_01, dec_f, dec_t, if_n, eq_self, true_or, or_true, if_true, if_false, reduceIte]
      rw [if_neg (nI_ge (a := pop v.1) (b := 9) (by omega) (by omega))]
      simp only [↓s196_70, ↓s196_71, ↓s196_74, ↓s196_75, ↓s196_78, ↓s196_79, ↓s196_82, ↓s196_83, show ¬ (2147483648 : Int64) = 0 by decide, nx_eq hX, not_false_eq_true, ct_s, ct_n, ↓bI_01, bI_eq0, bI_eq1, nI_10, nI_01, dec_f, dec_t, if_n, eq_self, true_or, or_true, if_true, if_false, reduceIte]
      simp only [↓s196_84, ↓s196_85, ↓s196_88, ↓s196_89, ↓s196_92, ↓s196_93, ↓s196_94, ↓s196_96, ↓s196_98, ↓s196_99, ↓s196_102, jc_84, gf_84_0, gf_84_1, gf_84_2, gf_84_3, gf_84_4, ok_84_4, gf_84_5, ok_84_5, gf_84_6, ok_84_6, gf_84_7, ok_84_7, gf_84_8, ok_84_8, gf_84_9, ok_84_9, gf_84_10, gf_84_11, gf_84_12, gf_84_13, gf_84_14, gf_84_15, gf_84_16, gf_84_17, ok_84_17, gf_84_18, gf_84_19, ok_84_19, gf_84_20, ok_84_20, gf_84_21, gf_84_22, gf_84_23, gf_84_24, ok_84_24, gf_84_25, ok_84_25, gf_84_26, ok_84_26, gf_84_27, ok_84_27, gf_84_28, ok_84_28, gf_84_29, gf_84_30, show ¬ (65536 : Int64) = 0 by decide, show ¬ (9 : Int64) = 0 by decide, dk_eq nxN_lt, not_false_eq_true, ↓c140, a0, ct_s, ct_n, ↓bI_01, bI_eq0, bI_eq1, nI_10, nI_01, dec_f, dec_t, if_n, eq_self, true_or, or_true, if_true, if_false, reduceIte]
      by_cases hk : nxN X / 65536 % 9 < ndA A
      · rw [if_neg (nI_ge (a := nxN X / 65536 % 9) (b := ndA A) (by omega) (by omega))]
        simp only [↓s196_105, ↓s196_106, ↓s196_108, ↓s196_110, jc_84, gf_84_0, gf_84_1, gf_84_2, gf_84_3, gf_84_4, ok_84_4, gf_84_5, ok_84_5, gf_84_6, ok_84_6, gf_84_7, ok_84_7, gf_84_8, ok_84_8, gf_84_9, ok_84_9, gf_84_10, gf_84_11, gf_84_12, gf_84_13, gf_84_14, gf_84_15, gf_84_16, gf_84_17, ok_84_17, gf_84_18, gf_84_19, ok_84_19, gf_84_20, ok_84_20, gf_84_21, gf_84_22, gf_84_23, gf_84_24, ok_84_24, gf_84_25, ok_84_25, gf_84_26, ok_84_26, gf_84_27, ok_84_27, gf_84_28, ok_84_28, gf_84_29, gf_84_30, ↓c159 hA hW hk hs hv, ct_s, ct_n, ↓bI_01, bI_eq0, bI_eq1, nI_10, nI_01, dec_f, dec_t, if_n, eq_self, true_or, or_true, if_true, if_false, reduceIte]
        cases mayA A (nxN X / 65536 % 9) s v.1 with
        | true => simp only [↓s196_113, ↓s196_116, ↓s196_117, ↓s196_120, ↓s196_121, ct_s, ct_n, ↓bI_01, bI_eq0, bI_eq1, nI_10, nI_01, dec_f, dec_t, if_n, eq_self, true_or, or_true, if_true, if_false, reduceIte, Bool.true_eq_false]; rfl
        | false => simp only [↓s196_113, ↓s196_116, ↓s196_117, ↓s196_120, ↓s196_121, ct_s, ct_n, ↓bI_01, bI_eq0, bI_eq1, nI_10, nI_01, dec_f, dec_t, if_n, eq_self, true_or, or_true, if_true, if_false, reduceIte]; rfl
      · rw [if_pos (nI_le (a := ndA A) (b := nxN X / 65536 % 9) (by omega) (by omega))]
        have e : mayA A (nxN X / 65536 % 9) s v.1 = false := by unfold mayA; rw [decide_eq_false hk, Bool.false_and, Bool.false_and]
        rw [e]
        simp only [↓s196_120, ↓s196_121, ct_s, ct_n, ↓bI_01, bI_eq0, bI_eq1, nI_10, nI_01, dec_f, dec_t, if_n, eq_self, true_or, or_true, if_true, if_false, reduceIte]
        rfl
    cases e : mayA A (nxN X / 65536 % 9) s v.1 with
    | false =>
      refine ⟨.int (nI s), .int (bI false), .int (nI (nxN X / 65536 % 9)), y10, fun S d n Q => ?_⟩
      rw [pre, dn_f e, e]
      simp only [↓s196_123, ↓s196_125, ↓s196_145, ct_s, ct_n, ↓bI_01, bI_eq0, bI_eq1, nI_10, nI_01, dec_f, dec_t, if_n, eq_self, true_or, or_true, if_true, if_false, reduceIte]
      simp only [↓s196_56, ↓s196_58, ct_s, ct_n, ↓bI_01, bI_eq0, bI_eq1, nI_10, nI_01, dec_f, dec_t, if_n, eq_self, true_or, or_true, if_true, if_false, reduceIte]
    | true =>
      have lt := mayA_lt e
      have hp2 := bt_pop _ hv _ (by omega) lt.2
      have ok := evS_ok (s := s) hW lt.1 hv
      have k1 : ∀ (S : ax_S) (n d : Nat) (Q : Option Value → Nat → ax_H → Prop), ax_W (d + 4) 156 0 [.ref 84, .int (nI (nxN X / 65536 % 9)), .int (nI s), .int (nI 1), ax_dm] [] n (hx S (rvM M v) N) Q = Q (some (.int (nI (dsN A (nxN X / 65536 % 9) (pop v.1) v.2.1)))) n (hx S (rvM M (evS A s (nxN X / 65536 % 9) v)) N) := fun S n d Q => by
        have := c156 (d := d) (n := n) (Q := Q) (S := S) (N := N) (c := 1) hA hW lt.1 hs (by omega) hv lt.2 hl
        rw [evB_1] at this
        exact this
      obtain ⟨z7, z8, z9, z10, ih⟩ := ih (nxN X) (evS A s (nxN X / 65536 % 9) v) (1 - s) (by show c + pop (addB v.1 _) = 9; omega) nxN_lt (by omega) ok.1 ok.2 (.int (nI (nxN X / 65536 % 9))) (.int (nI (dsN A (nxN X / 65536 % 9) (pop v.1) v.2.1)))
      refine ⟨z7, z8, z9, z10, fun S d n Q => ?_⟩
      rw [pre, dn_t e, e]
      simp only [↓s196_123, ↓s196_125, ↓s196_128, ↓s196_129, ↓s196_131, ↓s196_133, ↓s196_134, ↓s196_137, ↓s196_139, ↓s196_140, ↓s196_142, ↓s196_143, ↓s196_145, jc_84, gf_84_0, gf_84_1, gf_84_2, gf_84_3, gf_84_4, ok_84_4, gf_84_5, ok_84_5, gf_84_6, ok_84_6, gf_84_7, ok_84_7, gf_84_8, ok_84_8, gf_84_9, ok_84_9, gf_84_10, gf_84_11, gf_84_12, gf_84_13, gf_84_14, gf_84_15, gf_84_16, gf_84_17, ok_84_17, gf_84_18, gf_84_19, ok_84_19, gf_84_20, ok_84_20, gf_84_21, gf_84_22, gf_84_23, gf_84_24, ok_84_24, gf_84_25, ok_84_25, gf_84_26, ok_84_26, gf_84_27, ok_84_27, gf_84_28, ok_84_28, gf_84_29, gf_84_30, ↓k1, pk_sub hs, ct_s, ct_n, ↓bI_01, bI_eq0, bI_eq1, nI_10, nI_01, dec_f, dec_t, if_n, eq_self, true_or, or_true, if_true, if_false, reduceIte, Bool.true_eq_false]
      exact ih S d n Q
def dnS (A : ax_A0) (X : Nat) : Nat × ax_V := dn A (9 - pop (nowA A).1) X (nowA A) 0
def dno (A : ax_A0) : Nat → Nat → Nat → Nat
  | 0, _, k => k
  | c + 1, X, k => dno A c (dnS A X).1 (if vdI (iI (dnS A X).2.2.2) = nI 0 then k + 1 else k)
theorem l109 (hC0 : RC M0 21 A) (hW : WF A) {y1 : Int32} {t : Nat} (ht : t < 1000) : ∀ (c i X k : Nat) (M : ax_M), i + c = t → X < 2 ^ 31 → sc M0 M → ∃ M2, sc M0 M2 ∧ ∀ (S : ax_S) (d n : Nat) (Q : Option Value → Nat → ax_H → Prop), ax_W (d + 5) 109 39 [.ref 20, .int y1, .int (nI t), .int (nI k), .long (nL X), ax_dm, .int (nI i)] [] n (hx S M N) Q = Q (some (.int (nI (dno A c X k)))) n (hx S M2 N) := by
  intro c
  induction c with
  | zero =>
    intro i X k M hi hX hM
    refine ⟨M, hM, fun S d n Q => ?_⟩
    simp only [↓s109_39, ↓s109_41, ↓s109_42, ct_s, ct_n, ↓bI_01, bI_eq0, bI_eq1, nI_10, nI_01, dec_f, dec_t, if_n, eq_self, true_or, or_true, if_true, if_false, reduceIte]
    rw [if_pos (nI_le (a := t) (b := i) (by omega) (by omega))]
    simp only [↓s109_75, ↓s109_76, ct_s, ct_n, ↓bI_01, bI_eq0, bI_eq1, nI_10, nI_01, dec_f, dec_t, if_n, eq_self, true_or, or_true, if_true, if_false, reduceIte]
    rfl
  | succ c ih =>
    intro i X k M hi hX hM
    have hC := RC_sc hM hC0
    obtain ⟨M2, h2, h3⟩ := ih (i + 1) (dnS A X).1 (if vdI (iI (dnS A X).2.2.2) = nI 0 then k + 1 else k) (evM M 72 (dnS A X).2) (by omega) (dn_lt _ _ _ _ hX) (sc_ev hM (Or.inl rfl))
    refine ⟨M2, h2, fun S d n Q => ?_⟩
    have h3 := h3 S d n Q
    simp only [↓s109_39, ↓s109_41, ↓s109_42, ct_s, ct_n, ↓bI_01, bI_eq0, bI_eq1, nI_10, nI_01, dec_f, dec_t, if_n, eq_self, true_or, or_true, if_true, if_false, reduceIte]
    rw [if_neg (nI_ge (a := i) (b := t) (by omega) (by omega))]
    simp only [↓s109_45, ↓s109_46, ↓s109_49, ↓s109_51, ↓s109_54, ↓s109_56, ↓s109_57, ↓s109_60, jc_20, gf_20_0, gf_20_1, gf_20_2, gf_20_3, gf_20_4, gf_20_5, gf_20_6, gf_20_7, gf_20_8, gf_20_9, gf_20_10, gf_20_11, ok_20_11, gf_20_12, ok_20_12, gf_20_13, ok_20_13, gf_20_14, ok_20_14, gf_20_15, ok_20_15, jc_72, gf_72_0, gf_72_1, ok_72_1, gf_72_2, ok_72_2, gf_72_3, ok_72_3, ↓c21 hC hW hX, show dn A (9 - pop (nowA A).1) X (nowA A) 0 = dnS A X from rfl, ↓c18 (e := 72) (Or.inl rfl), ct_s, ct_n, ↓bI_01, bI_eq0, bI_eq1, nI_10, nI_01, dec_f, dec_t, if_n, eq_self, true_or, or_true, if_true, if_false, reduceIte]
    simp only [↓s109_63, ct_s, ct_n, ↓bI_01, bI_eq0, bI_eq1, nI_10, nI_01, dec_f, dec_t, if_n, eq_self, true_or, or_true, if_true, if_false, reduceIte]
    show _ = Q (some (.int (nI (dno A c (dnS A X).1 (if vdI (iI (dnS A X).2.2.2) = nI 0 then k + 1 else k))))) n (hx S M2 N)
    by_cases e : vdI (iI (dnS A X).2.2.2) = nI 0
    · rw [if_pos e] at h3
      rw [if_pos e, if_pos e]
      simp only [↓s109_66, ↓s109_69, ↓s109_72, nI_add, ct_s, ct_n, ↓bI_01, bI_eq0, bI_eq1, nI_10, nI_01, dec_f, dec_t, if_n, eq_self, true_or, or_true, if_true, if_false, reduceIte]
      exact h3
    · rw [if_neg e] at h3
      rw [if_neg e, if_neg e]
      simp only [↓s109_69, ↓s109_72, nI_add, ct_s, ct_n, ↓bI_01, bI_eq0, bI_eq1, nI_10, nI_01, dec_f, dec_t, if_n, eq_self, true_or, or_true, if_true, if_false, reduceIte]
      exact h3
theorem l196 (hA0 : M0 85 = A) (hW : WF A) {y1 : Int32} {t : Nat} (ht : t < 1000) : ∀ (c i X k : Nat) (M : ax_M), i + c = t → X < 2 ^ 31 → sc M0 M → ∀ y7 y8 y9 y10, ∃ M2, sc M0 M2 ∧ ∀ (S : ax_S) (d n : Nat) (Q : Option Value → Nat → ax_H → Prop), ax_W (d + 5) 196 40 [.ref 84, .int y1, .int (nI t), .long (nL X), ax_dm, .int (nI k), .int (nI i), y7, y8, y9, y10] [] n (hx S M N) Q = Q (some (.int (nI (dno A c X k)))) n (hx S M2 N) := by
  obtain ⟨v1, v2, v3⟩ := nowA_ok hW
  have p8 := bt_pop8 (nowA A).1
  intro c
  induction c with
  | zero =>
    intro i X k M hi hX hM y7 y8 y9 y10
    refine ⟨M, hM, fun S d n Q => ?_⟩
    simp only [↓s196_40, ↓s196_42, ↓s196_43, ct_s, ct_n, ↓bI_01, bI_eq0, bI_eq1, nI_10, nI_01, dec_f, dec_t, if_n, eq_self, true_or, or_true, if_true, if_false, reduceIte]
    rw [if_pos (nI_le (a := t) (b := i) (by omega) (by omega))]
    simp only [↓s196_174, ↓s196_176, ct_s, ct_n, ↓bI_01, bI_eq0, bI_eq1, nI_10, nI_01, dec_f, dec_t, if_n, eq_self, true_or, or_true, if_true, if_false, reduceIte]
    rfl
  | succ c ih =>
    intro i X k M hi hX hM y7 y8 y9 y10
    have hA := (hM.1 85 (by omega)).trans hA0
    obtain ⟨z7, z8, z9, z10, g⟩ := l196i (N := N) (y1 := y1) (y2 := nI t) (y5 := nI k) (y6 := nI i) hA hW (9 - pop (nowA A).1) X (nowA A) 0 (by omega) hX (by omega) v1 v3 y9 y10
    obtain ⟨M2, h2, h3⟩ := ih (i + 1) (dnS A X).1 (if vdI (iI (dnS A X).2.2.2) = nI 0 then k + 1 else k) (rvM M (dnS A X).2) (by omega) (dn_lt _ _ _ _ hX) (sc_rv hM) z7 z8 z9 z10
    refine ⟨M2, h2, fun S d n Q => ?_⟩
    have h3 := h3 S d n Q
    simp only [↓s196_40, ↓s196_42, ↓s196_43, ct_s, ct_n, ↓bI_01, bI_eq0, bI_eq1, nI_10, nI_01, dec_f, dec_t, if_n, eq_self, true_or, or_true, if_true, if_false, reduceIte]
    rw [if_neg (nI_ge (a := i) (b := t) (by omega) (by omega))]
    simp only [↓s196_46, ↓s196_47, ↓s196_50, ↓s196_51, ↓s196_53, ↓s196_54, jc_84, gf_84_0, gf_84_1, gf_84_2, gf_84_3, gf_84_4, ok_84_4, gf_84_5, ok_84_5, gf_84_6, ok_84_6, gf_84_7, ok_84_7, gf_84_8, ok_84_8, gf_84_9, ok_84_9, gf_84_10, gf_84_11, gf_84_12, gf_84_13, gf_84_14, gf_84_15, gf_84_16, gf_84_17, ok_84_17, gf_84_18, gf_84_19, ok_84_19, gf_84_20, ok_84_20, gf_84_21, gf_84_22, gf_84_23, gf_84_24, ok_84_24, gf_84_25, ok_84_25, gf_84_26, ok_84_26, gf_84_27, ok_84_27, gf_84_28, ok_84_28, gf_84_29, gf_84_30, ↓c151 hA hW, ct_s, ct_n, ↓bI_01, bI_eq0, bI_eq1, nI_10, nI_01, dec_f, dec_t, if_n, eq_self, true_or, or_true, if_true, if_false, reduceIte]
    refine (g S d n Q).trans ?_
    simp only [↓s196_148, ↓s196_150, ↓s196_151, ↓s196_154, jc_84, gf_84_0, gf_84_1, gf_84_2, gf_84_3, gf_84_4, ok_84_4, gf_84_5, ok_84_5, gf_84_6, ok_84_6, gf_84_7, ok_84_7, gf_84_8, ok_84_8, gf_84_9, ok_84_9, gf_84_10, gf_84_11, gf_84_12, gf_84_13, gf_84_14, gf_84_15, gf_84_16, gf_84_17, ok_84_17, gf_84_18, gf_84_19, ok_84_19, gf_84_20, ok_84_20, gf_84_21, gf_84_22, gf_84_23, gf_84_24, ok_84_24, gf_84_25, ok_84_25, gf_84_26, ok_84_26, gf_84_27, ok_84_27, gf_84_28, ok_84_28, gf_84_29, gf_84_30, rvM_6, show dn A (9 - pop (nowA A).1) X (nowA A) 0 = dnS A X from rfl, ↓c160, ct_s, ct_n, ↓bI_01, bI_eq0, bI_eq1, nI_10, nI_01, dec_f, dec_t, if_n, eq_self, true_or, or_true, if_true, if_false, reduceIte]
    simp only [↓s196_157, ct_s, ct_n, ↓bI_01, bI_eq0, bI_eq1, nI_10, nI_01, dec_f, dec_t, if_n, eq_self, true_or, or_true, if_true, if_false, reduceIte]
    show _ = Q (some (.int (nI (dno A c (dnS A X).1 (if vdI (iI (dnS A X).2.2.2) = nI 0 then k + 1 else k))))) n (hx S M2 N)
    by_cases e : vdI (iI (dnS A X).2.2.2) = nI 0
    · rw [if_pos e] at h3
      rw [if_pos e, if_pos e]
      simp only [↓s196_160, ↓s196_161, ↓s196_164, ↓s196_165, ↓s196_166, ↓s196_168, ↓s196_171, nI_add, ct_s, ct_n, ↓bI_01, bI_eq0, bI_eq1, nI_10, nI_01, dec_f, dec_t, if_n, eq_self, true_or, or_true, if_true, if_false, reduceIte]
      exact h3
    · rw [if_neg e] at h3
      rw [if_neg e, if_neg e]
      simp only [↓s196_164, ↓s196_165, ↓s196_166, ↓s196_168, ↓s196_171, nI_add, Nat.add_zero, ct_s, ct_n, ↓bI_01, bI_eq0, bI_eq1, nI_10, nI_01, dec_f, dec_t, if_n, eq_self, true_or, or_true, if_true, if_false, reduceIte]
      exact h3
theorem p28_bad (hI : Inv M N) (hb : ¬ ((nI 0 ≤ x ∧ x ≤ nI 999999) ∧ (nI 0 ≤ y ∧ y ≤ nI 60))) : RPi 109 196 [.ref 20, .int x, .int y, ax_dm, ax_dm, ax_dm, ax_dm] [.ref 84, .int x, .int y, ax_dm, ax_dm, ax_dm, ax_dm, ax_dm, ax_dm, ax_dm, ax_dm] M N := by
  refine ⟨-2, ux M 20 13 (M 20 13 + nI 1), N, rjM M 0, N, fun S d n Q => ?_, fun S d n Q => ?_, Inv_rj (by decide) hI⟩
  · simp only [↓s109_0, ↓s109_1, ↓s109_2, ↓s109_5, ↓s109_8, ↓s109_11, ↓s109_12, ↓s109_13, ↓s109_15, ↓s109_18, ↓s109_21, ↓s109_22, ↓s109_24, ↓s109_26, ↓s109_29, ↓c121, jc_20, ↓c116, refM_b, ct_s, ct_n, ↓bI_01, bI_eq0, bI_eq1, nI_10, nI_01, dec_f, dec_t, if_n, eq_self, true_or, or_true, if_true, if_false, reduceIte]
    by_cases h0 : nI 0 ≤ x ∧ x ≤ nI 999999
    · rw [if_pos h0, if_neg (fun q => hb ⟨h0, q⟩)]
    · rw [if_neg h0]
  · have fin : rjM M 0 = ux (ux M 20 13 (M 20 13 + nI 1)) 88 0 (M 88 0 + nI 1) := rfl
    rw [fin]
    simp only [↓s196_0, ↓s196_1, ↓s196_2, ↓s196_3, ↓s196_6, ↓s196_9, ↓s196_12, ↓s196_13, ↓s196_14, ↓s196_15, ↓s196_18, ↓s196_21, ↓s196_24, ↓s196_25, ↓s196_27, ↓s196_30, ↓c135 (l := nI 0) (q := 0) (m := nI 999999) (r := 999999) rfl rfl, ↓c135 (l := nI 0) (q := 0) (m := nI 60) (r := 60) rfl rfl, jc_84, ↓c136, ux88, ct_s, ct_n, ↓bI_01, bI_eq0, bI_eq1, nI_10, nI_01, dec_f, dec_t, if_n, eq_self, true_or, or_true, if_true, if_false, reduceIte]
    by_cases h0 : nI 0 ≤ x ∧ x ≤ nI 999999
    · rw [if_pos h0, if_neg (fun q => hb ⟨h0, q⟩)]
    · rw [if_neg h0]
theorem p28 (hI : Inv M N) : RPi 109 196 [.ref 20, .int x, .int y, ax_dm, ax_dm, ax_dm, ax_dm] [.ref 84, .int x, .int y, ax_dm, ax_dm, ax_dm, ax_dm, ax_dm, ax_dm, ax_dm, ax_dm] M N := by
  have hC := hI.1
  have hW := hI.2.1
  by_cases h0 : nI 0 ≤ x ∧ x ≤ nI 999999
  · by_cases h1 : nI 0 ≤ y ∧ y ≤ nI 60
    · obtain ⟨X, X1, rfl⟩ := rng (by decide) h0
      obtain ⟨t, t1, rfl⟩ := rng (by decide) h1
      obtain ⟨M1, s1, g1⟩ := l109 (N := N) (y1 := nI X) (t := t) hC hW (by omega) t 0 X 0 M (by omega) (by omega) sc_rf
      obtain ⟨M2, s2, g2⟩ := l196 (N := N) (y1 := nI X) (t := t) (s1.1 85 (by omega)) hW (by omega) t 0 X 0 M1 (by omega) (by omega) sc_rf ax_dm ax_dm ax_dm ax_dm
      refine ⟨nI (dno (M 85) t X 0), M1, N, M2, N, fun S d n Q => ?_, fun S d n Q => ?_, Inv_sc (sc_tr s1 s2) hI⟩
      · simp only [↓s109_0, ↓s109_1, ↓s109_2, ↓s109_5, ↓s109_8, ↓s109_11, ↓s109_12, ↓s109_13, ↓s109_15, ↓s109_18, ↓c121, ct_s, ct_n, ↓bI_01, bI_eq0, bI_eq1, nI_10, nI_01, dec_f, dec_t, if_n, eq_self, true_or, or_true, if_true, if_false, reduceIte]
        rw [if_pos h0, if_pos h1]
        simp only [↓s109_30, ↓s109_31, ↓s109_32, ↓s109_33, ↓s109_34, ↓s109_36, ↓s109_37, nI_64 (show X < 2 ^ 31 by omega), ct_s, ct_n, ↓bI_01, bI_eq0, bI_eq1, nI_10, nI_01, dec_f, dec_t, if_n, eq_self, true_or, or_true, if_true, if_false, reduceIte]
        exact g1 S (d + 895) n Q
      · simp only [↓s196_0, ↓s196_1, ↓s196_2, ↓s196_3, ↓s196_6, ↓s196_9, ↓s196_12, ↓s196_13, ↓s196_14, ↓s196_15, ↓s196_18, ↓s196_21, ↓c135 (l := nI 0) (q := 0) (m := nI 999999) (r := 999999) rfl rfl, ↓c135 (l := nI 0) (q := 0) (m := nI 60) (r := 60) rfl rfl, ct_s, ct_n, ↓bI_01, bI_eq0, bI_eq1, nI_10, nI_01, dec_f, dec_t, if_n, eq_self, true_or, or_true, if_true, if_false, reduceIte]
        rw [if_pos h0, if_pos h1]
        simp only [↓s196_31, ↓s196_32, ↓s196_33, ↓s196_34, ↓s196_35, ↓s196_37, ↓s196_38, nI_64 (show X < 2 ^ 31 by omega), ct_s, ct_n, ↓bI_01, bI_eq0, bI_eq1, nI_10, nI_01, dec_f, dec_t, if_n, eq_self, true_or, or_true, if_true, if_false, reduceIte]
        exact g2 S (d + 895) n Q
    · exact p28_bad hI (fun q => h1 q.2)
  · exact p28_bad hI (fun q => h0 q.1)
end Dinners
