/-! ===== the menu gone through: pure ===== -/
section Pure
variable {A : ax_A0} {f : Nat → Nat} {w : ax_V} {s : Nat}
/-- mask, last, side behind i dishes of the list -/
def gq (A : ax_A0) (f : Nat → Nat) (w : ax_V) (s : Nat) : Nat → Nat × Option Nat × Nat
  | 0 => (w.1, w.2.1, s)
  | i + 1 => if hasB (gq A f w s i).1 (f i) = true then gq A f w s i else (addB (gq A f w s i).1 (f i), some (f i), 1 - (gq A f w s i).2.2)
/-- what dish i of the list did -/
def gN (A : ax_A0) (f : Nat → Nat) (w : ax_V) (s i : Nat) : Nat := if hasB (gq A f w s i).1 (f i) = true then 0 else dsN A (f i) (pop (gq A f w s i).1) (gq A f w s i).2.1
def gP (A : ax_A0) (f : Nat → Nat) (w : ax_V) (s i : Nat) : Int := sg (gq A f w s i).2.2 (gN A f w s i)
def ck (mk i : Nat) : Nat := if hasB mk i = true then 0 else 1
def gL (A : ax_A0) (f : Nat → Nat) (w : ax_V) (s mk : Nat) : Nat → Int
  | 0 => 0
  | i + 1 => gL A f w s mk i + (ck mk i : Int) * gP A f w s i
def gV (A : ax_A0) (f : Nat → Nat) (w : ax_V) (s mk i : Nat) : ax_V := ((gq A f w s i).1, (gq A f w s i).2.1, w.2.2 + gL A f w s mk i)
theorem sg_0 {s : Nat} : sg s 0 = 0 := by unfold sg; split <;> rfl
theorem gV_0 {mk : Nat} : gV A f w s mk 0 = w := by
  show (w.1, w.2.1, w.2.2 + 0) = w
  rw [Int.add_zero]
theorem gq_t {i : Nat} (h : hasB (gq A f w s i).1 (f i) = true) : gq A f w s (i + 1) = gq A f w s i := by
  show (if _ then _ else _) = _
  rw [if_pos h]
theorem gq_f {i : Nat} (h : hasB (gq A f w s i).1 (f i) = false) : gq A f w s (i + 1) = (addB (gq A f w s i).1 (f i), some (f i), 1 - (gq A f w s i).2.2) := by
  show (if _ then _ else _) = _
  rw [if_neg (by rw [h]; decide)]
theorem gN_t {i : Nat} (h : hasB (gq A f w s i).1 (f i) = true) : gN A f w s i = 0 := by unfold gN; rw [if_pos h]
theorem gN_f {i : Nat} (h : hasB (gq A f w s i).1 (f i) = false) : gN A f w s i = dsN A (f i) (pop (gq A f w s i).1) (gq A f w s i).2.1 := by unfold gN; rw [if_neg (by rw [h]; decide)]
theorem gP_t {i : Nat} (h : hasB (gq A f w s i).1 (f i) = true) : gP A f w s i = 0 := by unfold gP; rw [gN_t h, sg_0]
theorem gV_t {mk i : Nat} (h : hasB (gq A f w s i).1 (f i) = true) : gV A f w s mk (i + 1) = gV A f w s mk i := by
  unfold gV
  rw [gq_t h]
  show (_, _, w.2.2 + (gL A f w s mk i + (ck mk i : Int) * gP A f w s i)) = _
  rw [gP_t h, Int.mul_zero, Int.add_zero]
theorem gV_f {mk i : Nat} (h : hasB (gq A f w s i).1 (f i) = false) : gV A f w s mk (i + 1) = evB A (ck mk i) (gq A f w s i).2.2 (f i) (gV A f w s mk i) := by
  unfold gV evB
  rw [gq_f h]
  show (_, _, w.2.2 + (gL A f w s mk i + (ck mk i : Int) * gP A f w s i)) = (_, _, w.2.2 + gL A f w s mk i + _)
  rw [← Int.add_assoc]
  unfold gP
  rw [gN_f h]
theorem gq_s (hs : s ≤ 1) : ∀ i, (gq A f w s i).2.2 ≤ 1 := by
  intro i
  induction i with
  | zero => exact hs
  | succ i ih =>
    cases h : hasB (gq A f w s i).1 (f i) with
    | true => rw [gq_t h]; exact ih
    | false => rw [gq_f h]; exact Nat.sub_le 1 _
theorem gq_ok (n8 : ndA A ≤ 8) {m : Nat} (hf : ∀ i, i < m → f i < ndA A) (hw : w.1 < 256) (hl : ∀ j, w.2.1 = some j → j < ndA A) : ∀ i, i ≤ m → (gq A f w s i).1 < 256 ∧ ∀ j, (gq A f w s i).2.1 = some j → j < ndA A := by
  intro i
  induction i with
  | zero => intro _; exact ⟨hw, hl⟩
  | succ i ih =>
    intro hi
    have := hf i (by omega)
    cases h : hasB (gq A f w s i).1 (f i) with
    | true => rw [gq_t h]; exact ih (by omega)
    | false =>
      rw [gq_f h]
      exact ⟨bt_lt _ (ih (by omega)).1 _ (by omega), fun j hj => by cases hj; exact this⟩
theorem gN_le (hW : WF A) {m : Nat} (hf : ∀ i, i < m → f i < ndA A) (hw : w.1 < 256) (hl : ∀ j, w.2.1 = some j → j < ndA A) {i : Nat} (hi : i < m) : gN A f w s i ≤ 24 := by
  cases h : hasB (gq A f w s i).1 (f i) with
  | true => rw [gN_t h]; omega
  | false =>
    rw [gN_f h]
    exact dsN_le hW (hf i hi) (bt_pop8 _) (gq_ok hW.1.2 hf hw hl i (by omega)).2
theorem ck_le {mk i : Nat} : ck mk i ≤ 1 := by unfold ck; split <;> omega
theorem ck_0 {i : Nat} : ck 0 i = 1 := by
  unfold ck hasB
  simp
theorem gp_pop (n8 : ndA A ≤ 8) : ∀ s, s < 256 → ∀ d, d < 8 → hasB s d = false → pop s < 9 := fun s hs d hd h => by have := bt_pop2 s hs d hd h; omega
end Pure
theorem ux_rv {M : ax_M} {v : ax_V} {a j : Nat} {x : Int32} (ha : a ≠ 84) : ux (rvM M v) a j x = rvM (ux M a j x) v := by
  funext b i
  unfold rvM ux
  by_cases hb : b = a
  · subst hb
    simp [ha]
  · simp [hb]
theorem ux_ev {M : ax_M} {v : ax_V} {e a j : Nat} {x : Int32} (ha : a ≠ e) : ux (evM M e v) a j x = evM (ux M a j x) e v := by
  funext b i
  unfold evM ux
  by_cases hb : b = a
  · subst hb
    simp [ha]
  · simp [hb]
theorem ux_ux {M : ax_M} {a j : Nat} {x y : Int32} : ux (ux M a j x) a j y = ux M a j y := by
  funext b i
  unfold ux
  by_cases hb : b = a ∧ i = j
  · simp [hb]
  · simp [hb]
theorem ux_co {M : ax_M} {a b i j : Nat} {x y : Int32} (h : a ≠ b) : ux (ux M a i x) b j y = ux (ux M b j y) a i x := by
  funext c l
  unfold ux
  by_cases hb : c = a
  · subst hb
    simp [h]
  · simp [hb]
section GoMenu
variable {d n : Nat} {Q : Option Value → Nat → ax_H → Prop} {S : ax_S} {M : ax_M} {N : ax_L} {A : ax_A0} {f : Nat → Nat} {w : ax_V} {s mk p m : Nat}
theorem nI_ck {mk i : Nat} (hm : mk < 256) (hi : i < 8) : nI 1 - (nI mk >>> (nI i &&& 31) &&& nI 1) = nI (ck mk i) := by
  rw [bt_has mk hm i hi]
  unfold ck bI
  split <;> decide
theorem l169 {y : Value} (hA : M 85 = A) (hW : WF A) (hp : ∀ i, i < m → p + i < 181 ∧ A (p + i) = nI (f i)) (hf : ∀ i, i < m → f i < ndA A) (hm : m ≤ 8) (hs : s ≤ 1) (hk : mk < 256) (hw : w.1 < 256) (hl : ∀ j, w.2.1 = some j → j < ndA A) {y3 y7 : Value} : ∀ (c i : Nat), i + c = m → ∀ y7, ax_W (d + 5) 169 6 [.ref 84, .int (nI p), .int (nI m), y3, .int (nI mk), .int (nI (gq A f w s i).2.2), .int (nI i), y7] [] n (hx S (rvM (cpy M 89 0 i (fun i => nI (gN A f w s i))) (gV A f w s mk i)) N) Q = Q none n (hx S (rvM (cpy M 89 0 m (fun i => nI (gN A f w s i))) (gV A f w s mk m)) N) := by
  intro c
  induction c with
  | zero =>
    intro i hi y7
    have e : i = m := by omega
    subst e
    simp only [↓s169_6, ↓s169_8, ↓s169_9, ct_s, ct_n, ↓bI_01, bI_eq0, bI_eq1, nI_10, nI_01, dec_f, dec_t, if_n, eq_self, true_or, or_true, if_true, if_false, reduceIte]
    rw [if_pos (nI_le (a := i) (b := i) (by omega) (by omega))]
    simp only [↓s169_85, ct_s, ct_n, ↓bI_01, bI_eq0, bI_eq1, nI_10, nI_01, dec_f, dec_t, if_n, eq_self, true_or, or_true, if_true, if_false, reduceIte]
  | succ c ih =>
    intro i hi y7
    obtain ⟨hp1, hp2⟩ := hp i (by omega)
    have hfi := hf i (by omega)
    have n8 := hW.1.2
    have ok := gq_ok (s := s) n8 hf hw hl i (by omega)
    have hsi := gq_s (A := A) (f := f) (w := w) hs i
    have q1 : rvM (cpy M 89 0 i (fun i => nI (gN A f w s i))) (gV A f w s mk i) 85 (p + i) = nI (f i) := by rw [rvM_85, cpy_a (by decide), hA]; exact hp2
    have hA2 : ∀ x, ux (cpy M 89 0 i (fun i => nI (gN A f w s i))) 89 i x 85 = A := fun x => by rw [ux_f (by decide), cpy_a (by decide)]; exact hA
    have ih := ih (i + 1) (by omega)
    simp only [↓s169_6, ↓s169_8, ↓s169_9, ct_s, ct_n, ↓bI_01, bI_eq0, bI_eq1, nI_10, nI_01, dec_f, dec_t, if_n, eq_self, true_or, or_true, if_true, if_false, reduceIte]
    rw [if_neg (nI_ge (a := i) (b := m) (by omega) (by omega))]
    simp only [↓s169_12, ↓s169_13, ↓s169_16, ↓s169_17, ↓s169_19, ↓s169_20, ↓s169_21, ↓s169_23, ↓s169_24, ↓s169_27, ↓s169_29, ↓s169_30, ↓s169_31, ↓s169_32, ↓s169_34, jc_84, gf_84_0, gf_84_1, gf_84_2, gf_84_3, gf_84_4, ok_84_4, gf_84_5, ok_84_5, gf_84_6, ok_84_6, gf_84_7, ok_84_7, gf_84_8, ok_84_8, gf_84_9, ok_84_9, gf_84_10, gf_84_11, gf_84_12, gf_84_13, gf_84_14, gf_84_15, gf_84_16, gf_84_17, ok_84_17, gf_84_18, gf_84_19, ok_84_19, gf_84_20, ok_84_20, gf_84_21, gf_84_22, gf_84_23, gf_84_24, ok_84_24, gf_84_25, ok_84_25, gf_84_26, ok_84_26, gf_84_27, ok_84_27, gf_84_28, ok_84_28, gf_84_29, gf_84_30, nI_add, al_85 hp1, q1, sa_89 (show i < 8 by omega), ux_rv (show 89 ≠ 84 by decide), ↓c157 (v := gV A f w s mk i) (show f i < 8 by omega) ok.1, ct_s, ct_n, ↓bI_01, bI_eq0, bI_eq1, nI_10, nI_01, dec_f, dec_t, if_n, eq_self, true_or, or_true, if_true, if_false, reduceIte]
    cases h : hasB (gV A f w s mk i).1 (f i) with
    | true =>
      have e1 := gV_t (mk := mk) h
      have e2 := gN_t h
      have e3 := gq_t h
      have e4 : ux (cpy M 89 0 i (fun i => nI (gN A f w s i))) 89 i (nI 0) = cpy M 89 0 (i + 1) (fun i => nI (gN A f w s i)) := by
        have := cpy_s (M := M) (a := 89) (lo := 0) (k := i) (f := fun i => nI (gN A f w s i))
        rw [Nat.zero_add] at this
        rw [← this, e2]
      rw [e1, e3] at ih
      simp only [↓s169_37, ↓s169_79, ↓s169_82, e4, nI_add, ct_s, ct_n, ↓bI_01, bI_eq0, bI_eq1, nI_10, nI_01, dec_f, dec_t, if_n, eq_self, true_or, or_true, if_true, if_false, reduceIte, Bool.true_eq_false]
      exact ih _
    | false =>
      have e1 := gV_f (mk := mk) h
      have e2 := gN_f h
      have e3 := gq_f h
      have e4 : ux (cpy M 89 0 i (fun i => nI (gN A f w s i))) 89 i (nI (dsN A (f i) (pop (gV A f w s mk i).1) (gV A f w s mk i).2.1)) = cpy M 89 0 (i + 1) (fun i => nI (gN A f w s i)) := by
        have := cpy_s (M := M) (a := 89) (lo := 0) (k := i) (f := fun i => nI (gN A f w s i))
        rw [Nat.zero_add] at this
        rw [← this, e2]
        rfl
      have p7 := bt_pop2 _ ok.1 _ (show f i < 8 by omega) h
      rw [e1, e3] at ih
      simp only [↓s169_37, ↓s169_40, ↓s169_41, ↓s169_44, ↓s169_46, jc_84, gf_84_0, gf_84_1, gf_84_2, gf_84_3, gf_84_4, ok_84_4, gf_84_5, ok_84_5, gf_84_6, ok_84_6, gf_84_7, ok_84_7, gf_84_8, ok_84_8, gf_84_9, ok_84_9, gf_84_10, gf_84_11, gf_84_12, gf_84_13, gf_84_14, gf_84_15, gf_84_16, gf_84_17, ok_84_17, gf_84_18, gf_84_19, ok_84_19, gf_84_20, ok_84_20, gf_84_21, gf_84_22, gf_84_23, gf_84_24, ok_84_24, gf_84_25, ok_84_25, gf_84_26, ok_84_26, gf_84_27, ok_84_27, gf_84_28, ok_84_28, gf_84_29, gf_84_30, rvM_8, ct_s, ct_n, ↓bI_01, bI_eq0, bI_eq1, nI_10, nI_01, dec_f, dec_t, if_n, eq_self, true_or, or_true, if_true, if_false, reduceIte]
      rw [if_neg (nI_ge (a := pop (gV A f w s mk i).1) (b := 9) (show pop (gq A f w s i).1 < 9 by omega) (by omega))]
      simp only [↓s169_49, ↓s169_50, ↓s169_53, ↓s169_55, ↓s169_56, ↓s169_58, ↓s169_60, ↓s169_61, ↓s169_63, ↓s169_65, ↓s169_66, ↓s169_67, ↓s169_68, ↓s169_69, ↓s169_72, ↓s169_73, ↓s169_74, ↓s169_76, ↓s169_77, ↓s169_79, ↓s169_82, jc_84, gf_84_0, gf_84_1, gf_84_2, gf_84_3, gf_84_4, ok_84_4, gf_84_5, ok_84_5, gf_84_6, ok_84_6, gf_84_7, ok_84_7, gf_84_8, ok_84_8, gf_84_9, ok_84_9, gf_84_10, gf_84_11, gf_84_12, gf_84_13, gf_84_14, gf_84_15, gf_84_16, gf_84_17, ok_84_17, gf_84_18, gf_84_19, ok_84_19, gf_84_20, ok_84_20, gf_84_21, gf_84_22, gf_84_23, gf_84_24, ok_84_24, gf_84_25, ok_84_25, gf_84_26, ok_84_26, gf_84_27, ok_84_27, gf_84_28, ok_84_28, gf_84_29, gf_84_30, nI_ck hk (show i < 8 by omega), ↓c156 (hA2 _) hW hfi hsi ck_le (show (gV A f w s mk i).1 < 256 from ok.1) h ok.2, sa_89 (show i < 8 by omega), ux_rv (show 89 ≠ 84 by decide), ux_ux, e4, nI_add, pk_sub hsi, ct_s, ct_n, ↓bI_01, bI_eq0, bI_eq1, nI_10, nI_01, dec_f, dec_t, if_n, eq_self, true_or, or_true, if_true, if_false, reduceIte]
      exact ih _
end GoMenu
