/-! ===== digest ===== -/
def sA (A : ax_A0) : Nat → Nat → Int64 → Int64
  | 0, _, h => h
  | k + 1, a, h => sA A k (a + 1) (31 * h + (A a).toInt64)
def sB (A : ax_A0) (cs st : Nat) : Nat → Nat → Int64 → Int64
  | 0, _, h => h
  | k + 1, a, h => sB A cs st k (a + st) (sA A cs a h)
def sR (A : ax_A0) : Nat → Nat → Int64 → Int64
  | 0, _, h => h
  | k + 1, i, h => sR A k (i + 1) (sA A (3 + rdM A i) (115 + 11 * i) h)
def sC (M : ax_M) : Nat → Int64
  | 0 => 1019
  | k + 1 => 31 * sC M k + (cntV M k).toInt64
section Digest
variable {M M0 : ax_M} {N : ax_L} {A : ax_A0}
theorem sA_add : ∀ j k a h, sA A (j + k) a h = sA A k (a + j) (sA A j a h) := by
  intro j
  induction j with
  | zero => intro k a h; rw [Nat.zero_add]; rfl
  | succ j ih =>
    intro k a h
    rw [show j + 1 + k = (j + k) + 1 by omega]
    show sA A (j + k) (a + 1) _ = sA A k (a + (j + 1)) (sA A j (a + 1) _)
    rw [ih, show a + 1 + j = a + (j + 1) by omega]
theorem sB_A {cs : Nat} : ∀ k a h, sB A cs cs k a h = sA A (k * cs) a h := by
  intro k
  induction k with
  | zero => intro a h; rw [Nat.zero_mul]; rfl
  | succ k ih =>
    intro a h
    rw [show (k + 1) * cs = cs + k * cs by rw [Nat.succ_mul]; omega, sA_add]
    exact ih (a + cs) (sA A cs a h)
theorem mixR_s {r wi b : Nat} {i : Int32} : ∀ k c h, (∀ q, c ≤ q → q < c + k → rcell M r wi i (nI q) = A (b + q)) → mixR M r wi i k c h = sA A k (b + c) h := by
  intro k
  induction k with
  | zero => intro c h _; rfl
  | succ k ih =>
    intro c h hq
    show mixR M r wi i k (c + 1) _ = sA A k (b + c + 1) _
    rw [ih (c + 1) _ (fun q h1 h2 => hq q (by omega) (by omega)), hq c (by omega) (by omega), Nat.add_assoc]
theorem mixA_s {r wi b cs st : Nat} : ∀ k i h, (∀ j q, i ≤ j → j < i + k → q < cs → rcell M r wi (nI j) (nI q) = A (b + st * j + q)) → mixA M r wi cs k i h = sB A cs st k (b + st * i) h := by
  intro k
  induction k with
  | zero => intro i h _; rfl
  | succ k ih =>
    intro i h hq
    show mixA M r wi cs k (i + 1) (mixR M r wi (nI i) cs 0 h) = sB A cs st k (b + st * i + st) (sA A cs (b + st * i) h)
    rw [ih (i + 1) _ (fun j q h1 h2 h3 => hq j q (by omega) (by omega) h3), mixR_s (b := b + st * i) cs 0 h (fun q _ h2 => hq i q (by omega) (by omega) (by omega)), Nat.mul_succ, Nat.add_zero, Nat.add_assoc]
variable {d n : Nat} {S : ax_S} {Q : Option Value → Nat → ax_H → Prop}
theorem l216 (hA : M 85 = A) {a m : Nat} (ha : a + m ≤ 181) {y1 : Int64} : ∀ (c i : Nat) (h : Int64), i + c = m → ax_W d 216 6 [.ref 84, .long y1, ax_dm, .int (nI a), .int (nI m), .long h, ax_dm, .int (nI i)] [] n (hx S M N) Q = Q (some (.long (sA A c (a + i) h))) n (hx S M N) := by
  intro c
  induction c with
  | zero =>
    intro i h hi
    simp only [↓s216_6, ↓s216_8, ↓s216_10, ct_s, ct_n, ↓bI_01, bI_eq0, bI_eq1, nI_10, nI_01, dec_f, dec_t, if_n, eq_self, true_or, or_true, if_true, if_false, reduceIte]
    rw [if_pos (nI_le (a := m) (b := i) (by omega) (by omega))]
    simp only [↓s216_38, ↓s216_40, ct_s, ct_n, ↓bI_01, bI_eq0, bI_eq1, nI_10, nI_01, dec_f, dec_t, if_n, eq_self, true_or, or_true, if_true, if_false, reduceIte]
    rfl
  | succ c ih =>
    intro i h hi
    have q : M 85 (a + i) = A (a + i) := by rw [hA]
    simp only [↓s216_6, ↓s216_8, ↓s216_10, ct_s, ct_n, ↓bI_01, bI_eq0, bI_eq1, nI_10, nI_01, dec_f, dec_t, if_n, eq_self, true_or, or_true, if_true, if_false, reduceIte]
    rw [if_neg (nI_ge (a := i) (b := m) (by omega) (by omega))]
    simp only [↓s216_13, ↓s216_16, ↓s216_18, ↓s216_19, ↓s216_20, ↓s216_23, ↓s216_24, ↓s216_26, ↓s216_27, ↓s216_28, ↓s216_29, ↓s216_30, ↓s216_32, ↓s216_35, jc_84, gf_84_0, gf_84_1, gf_84_2, gf_84_3, gf_84_4, ok_84_4, gf_84_5, ok_84_5, gf_84_6, ok_84_6, gf_84_7, ok_84_7, gf_84_8, ok_84_8, gf_84_9, ok_84_9, gf_84_10, gf_84_11, gf_84_12, gf_84_13, gf_84_14, gf_84_15, gf_84_16, gf_84_17, ok_84_17, gf_84_18, gf_84_19, ok_84_19, gf_84_20, ok_84_20, gf_84_21, gf_84_22, gf_84_23, gf_84_24, ok_84_24, gf_84_25, ok_84_25, gf_84_26, ok_84_26, gf_84_27, ok_84_27, gf_84_28, ok_84_28, gf_84_29, gf_84_30, nI_add, al_85 (show a + i < 181 by omega), q, ct_s, ct_n, ↓bI_01, bI_eq0, bI_eq1, nI_10, nI_01, dec_f, dec_t, if_n, eq_self, true_or, or_true, if_true, if_false, reduceIte]
    exact ih (i + 1) _ (by omega)
theorem c216 (hA : M 85 = A) {a m : Nat} (ha : a + m ≤ 181) {h : Int64} : ax_W d 216 0 [.ref 84, .long h, ax_dm, .int (nI a), .int (nI m), ax_dm, ax_dm, ax_dm] [] n (hx S M N) Q = Q (some (.long (sA A m a h))) n (hx S M N) := by
  simp only [↓s216_0, ↓s216_1, ↓s216_3, ↓s216_4, ct_s, ct_n, ↓bI_01, bI_eq0, bI_eq1, nI_10, nI_01, dec_f, dec_t, if_n, eq_self, true_or, or_true, if_true, if_false, reduceIte]
  exact l216 hA ha m 0 h (by omega)
theorem l115a (hI : Inv M N) : ∀ (c i : Nat), i + c = 6 → ax_W (d + 2) 115 6 [.ref 20, .long (sC M i), ax_dm, .int (nI i)] [] n (hx S M N) Q = ax_W (d + 2) 115 28 [.ref 20, .long (sC M 6), ax_dm, .int (nI 6)] [] n (hx S M N) Q := by
  intro c
  induction c with
  | zero =>
    intro i hi
    have e : i = 6 := by omega
    subst e
    simp only [↓s115_6, ↓s115_7, ↓s115_8, show nI 5 < nI 6 by decide, ct_s, ct_n, ↓bI_01, bI_eq0, bI_eq1, nI_10, nI_01, dec_f, dec_t, if_n, eq_self, true_or, or_true, if_true, if_false, reduceIte]
  | succ c ih =>
    intro i hi
    simp only [↓s115_6, ↓s115_7, ↓s115_8, ct_s, ct_n, ↓bI_01, bI_eq0, bI_eq1, nI_10, nI_01, dec_f, dec_t, if_n, eq_self, true_or, or_true, if_true, if_false, reduceIte]
    rw [if_neg (nI_nlt (a := 5) (b := i) (by omega) (by omega))]
    simp only [↓s115_11, ↓s115_12, ↓s115_13, ↓s115_14, ↓s115_17, ↓s115_18, ↓s115_21, ↓s115_22, ↓s115_25, jc_20, gf_20_0, gf_20_1, gf_20_2, gf_20_3, gf_20_4, gf_20_5, gf_20_6, gf_20_7, gf_20_8, gf_20_9, gf_20_10, gf_20_11, ok_20_11, gf_20_12, ok_20_12, gf_20_13, ok_20_13, gf_20_14, ok_20_14, gf_20_15, ok_20_15, ↓c117 hI (show i ≤ 5 by omega), ↓c131, nI_add, ct_s, ct_n, ↓bI_01, bI_eq0, bI_eq1, nI_10, nI_01, dec_f, dec_t, if_n, eq_self, true_or, or_true, if_true, if_false, reduceIte]
    exact ih (i + 1) (by omega)
theorem l115r (hC : RC M 21 A) (hW : WF A) : ∀ (c i : Nat) (h : Int64), i + c = nrA A → ax_W (d + 2) 115 95 [.ref 20, .long h, ax_dm, .int (nI i)] [] n (hx S M N) Q = ax_W (d + 2) 115 142 [.ref 20, .long (sR A c i h), ax_dm, .int (nI (nrA A))] [] n (hx S M N) Q := by
  have r6 := hW.2.2.2.2.1.2
  intro c
  induction c with
  | zero =>
    intro i h hi
    have e : i = nrA A := by omega
    simp only [↓s115_95, ↓s115_96, ↓s115_97, ↓s115_100, ↓s115_103, ↓s115_106, jc_20, gf_20_0, gf_20_1, gf_20_2, gf_20_3, gf_20_4, gf_20_5, gf_20_6, gf_20_7, gf_20_8, gf_20_9, gf_20_10, gf_20_11, ok_20_11, gf_20_12, ok_20_12, gf_20_13, ok_20_13, gf_20_14, ok_20_14, gf_20_15, ok_20_15, jc_21, gf_21_0, gf_21_1, gf_21_2, gf_21_3, gf_21_4, gf_21_5, ok_21_5, gf_21_6, ok_21_6, jc_30, gf_30_0, gf_30_1, gf_30_2, gf_30_3, ok_30_3, ↓c53 h30, (rc_nr hC hW).1, ct_s, ct_n, ↓bI_01, bI_eq0, bI_eq1, nI_10, nI_01, dec_f, dec_t, if_n, eq_self, true_or, or_true, if_true, if_false, reduceIte]
    rw [e, if_pos (nI_le (a := nrA A) (b := nrA A) (by omega) (by omega))]
    rfl
  | succ c ih =>
    intro i h hi
    have hr : i < nrA A := by omega
    have m8 := (rd_m hW hr).2
    have q2 : rcell M 30 11 (nI i) (nI 2) = nI (rdM A i) := by
      rw [rd_cell hC hW hr (by omega), show 115 + 11 * i + 2 = 117 + 11 * i by omega]; exact (rd_m hW hr).1
    simp only [↓s115_95, ↓s115_96, ↓s115_97, ↓s115_100, ↓s115_103, ↓s115_106, jc_20, gf_20_0, gf_20_1, gf_20_2, gf_20_3, gf_20_4, gf_20_5, gf_20_6, gf_20_7, gf_20_8, gf_20_9, gf_20_10, gf_20_11, ok_20_11, gf_20_12, ok_20_12, gf_20_13, ok_20_13, gf_20_14, ok_20_14, gf_20_15, ok_20_15, jc_21, gf_21_0, gf_21_1, gf_21_2, gf_21_3, gf_21_4, gf_21_5, ok_21_5, gf_21_6, ok_21_6, jc_30, gf_30_0, gf_30_1, gf_30_2, gf_30_3, ok_30_3, ↓c53 h30, (rc_nr hC hW).1, ct_s, ct_n, ↓bI_01, bI_eq0, bI_eq1, nI_10, nI_01, dec_f, dec_t, if_n, eq_self, true_or, or_true, if_true, if_false, reduceIte]
    rw [if_neg (nI_ge (a := i) (b := nrA A) (by omega) (by omega))]
    simp only [↓s115_109, ↓s115_110, ↓s115_113, ↓s115_116, ↓s115_117, ↓s115_118, ↓s115_119, ↓s115_120, ↓s115_123, ↓s115_126, ↓s115_127, ↓s115_128, ↓s115_131, ↓s115_132, ↓s115_135, ↓s115_136, ↓s115_139, jc_20, gf_20_0, gf_20_1, gf_20_2, gf_20_3, gf_20_4, gf_20_5, gf_20_6, gf_20_7, gf_20_8, gf_20_9, gf_20_10, gf_20_11, ok_20_11, gf_20_12, ok_20_12, gf_20_13, ok_20_13, gf_20_14, ok_20_14, gf_20_15, ok_20_15, jc_21, gf_21_0, gf_21_1, gf_21_2, gf_21_3, gf_21_4, gf_21_5, ok_21_5, gf_21_6, ok_21_6, jc_30, gf_30_0, gf_30_1, gf_30_2, gf_30_3, ok_30_3, ↓c54 h30 (cap30 hC hW), q2, nI_add, ↓c60 h30 (cap30 hC hW) (show 3 + rdM A i < 2 ^ 31 by omega), mixR_s (A := A) (M := M) (b := 115 + 11 * i) (i := nI i) (r := 30) (wi := 11) (3 + rdM A i) 0 h (fun q _ h2 => rd_cell hC hW hr (by omega)), Nat.add_zero, ct_s, ct_n, ↓bI_01, bI_eq0, bI_eq1, nI_10, nI_01, dec_f, dec_t, if_n, eq_self, true_or, or_true, if_true, if_false, reduceIte]
    exact ih (i + 1) _ (by omega)
theorem cnt_sc (h : sc M0 M) {k : Nat} : cntV M k = cntV M0 k := by
  unfold cntV
  rw [h.1 85 (by omega), h.2]
theorem l217a (hW : WF (M0 85)) : ∀ (c i : Nat), i + c = 6 → ∀ M, sc M0 M → ∃ M2, sc M0 M2 ∧ ∀ (S : ax_S) (d n : Nat) (Q : Option Value → Nat → ax_H → Prop), ax_W (d + 3) 217 6 [.ref 84, .long (sC M0 i), ax_dm, .int (nI i)] [] n (hx S M N) Q = ax_W (d + 3) 217 31 [.ref 84, .long (sC M0 6), ax_dm, .int (nI 6)] [] n (hx S M2 N) Q := by
  intro c
  induction c with
  | zero =>
    intro i hi M hM
    have e : i = 6 := by omega
    subst e
    refine ⟨M, hM, fun S d n Q => ?_⟩
    simp only [↓s217_6, ↓s217_7, ↓s217_9, show nI 6 ≤ nI 6 by decide, ct_s, ct_n, ↓bI_01, bI_eq0, bI_eq1, nI_10, nI_01, dec_f, dec_t, if_n, eq_self, true_or, or_true, if_true, if_false, reduceIte]
  | succ c ih =>
    intro i hi M hM
    have hW1 : WF (M 85) := by rw [hM.1 85 (by omega)]; exact hW
    have hM1 : sc M0 (cntM M i) := by
      unfold cntM
      split
      · exact sc_rv hM
      · exact hM
    obtain ⟨M2, h2, h3⟩ := ih (i + 1) (by omega) _ hM1
    refine ⟨M2, h2, fun S d n Q => ?_⟩
    simp only [↓s217_6, ↓s217_7, ↓s217_9, ct_s, ct_n, ↓bI_01, bI_eq0, bI_eq1, nI_10, nI_01, dec_f, dec_t, if_n, eq_self, true_or, or_true, if_true, if_false, reduceIte]
    rw [if_neg (nI_ge (a := i) (b := 6) (by omega) (by omega))]
    simp only [↓s217_12, ↓s217_15, ↓s217_16, ↓s217_17, ↓s217_18, ↓s217_19, ↓s217_22, ↓s217_23, ↓s217_24, ↓s217_25, ↓s217_28, jc_84, gf_84_0, gf_84_1, gf_84_2, gf_84_3, gf_84_4, ok_84_4, gf_84_5, ok_84_5, gf_84_6, ok_84_6, gf_84_7, ok_84_7, gf_84_8, ok_84_8, gf_84_9, ok_84_9, gf_84_10, gf_84_11, gf_84_12, gf_84_13, gf_84_14, gf_84_15, gf_84_16, gf_84_17, ok_84_17, gf_84_18, gf_84_19, ok_84_19, gf_84_20, ok_84_20, gf_84_21, gf_84_22, gf_84_23, gf_84_24, ok_84_24, gf_84_25, ok_84_25, gf_84_26, ok_84_26, gf_84_27, ok_84_27, gf_84_28, ok_84_28, gf_84_29, gf_84_30, ↓c214c hW1 (show i ≤ 5 by omega), cnt_sc hM, nI_add, ct_s, ct_n, ↓bI_01, bI_eq0, bI_eq1, nI_10, nI_01, dec_f, dec_t, if_n, eq_self, true_or, or_true, if_true, if_false, reduceIte]
    exact h3 S d n Q
theorem l217c (hA : M 85 = A) (hW : WF A) : ∀ (c i : Nat) (h : Int64), i + c = ncA A → ax_W (d + 3) 217 71 [.ref 84, .long h, ax_dm, .int (nI i)] [] n (hx S M N) Q = ax_W (d + 3) 217 100 [.ref 84, .long (sB A 3 4 c (71 + 4 * i) h), ax_dm, .int (nI (ncA A))] [] n (hx S M N) Q := by
  have n8 := hW.2.2.1.2
  have a3 : M 85 3 = nI (ncA A) := by rw [hA]; exact hW.2.2.1.1
  intro c
  induction c with
  | zero =>
    intro i h hi
    have e : i = ncA A := by omega
    simp only [↓s217_71, ↓s217_72, ↓s217_73, ↓s217_76, ↓s217_77, ↓s217_78, jc_84, gf_84_0, gf_84_1, gf_84_2, gf_84_3, gf_84_4, ok_84_4, gf_84_5, ok_84_5, gf_84_6, ok_84_6, gf_84_7, ok_84_7, gf_84_8, ok_84_8, gf_84_9, ok_84_9, gf_84_10, gf_84_11, gf_84_12, gf_84_13, gf_84_14, gf_84_15, gf_84_16, gf_84_17, ok_84_17, gf_84_18, gf_84_19, ok_84_19, gf_84_20, ok_84_20, gf_84_21, gf_84_22, gf_84_23, gf_84_24, ok_84_24, gf_84_25, ok_84_25, gf_84_26, ok_84_26, gf_84_27, ok_84_27, gf_84_28, ok_84_28, gf_84_29, gf_84_30, al_85 (show 3 < 181 by decide), a3, ct_s, ct_n, ↓bI_01, bI_eq0, bI_eq1, nI_10, nI_01, dec_f, dec_t, if_n, eq_self, true_or, or_true, if_true, if_false, reduceIte]
    rw [e, if_pos (nI_le (a := ncA A) (b := ncA A) (by omega) (by omega))]
    rfl
  | succ c ih =>
    intro i h hi
    simp only [↓s217_71, ↓s217_72, ↓s217_73, ↓s217_76, ↓s217_77, ↓s217_78, jc_84, gf_84_0, gf_84_1, gf_84_2, gf_84_3, gf_84_4, ok_84_4, gf_84_5, ok_84_5, gf_84_6, ok_84_6, gf_84_7, ok_84_7, gf_84_8, ok_84_8, gf_84_9, ok_84_9, gf_84_10, gf_84_11, gf_84_12, gf_84_13, gf_84_14, gf_84_15, gf_84_16, gf_84_17, ok_84_17, gf_84_18, gf_84_19, ok_84_19, gf_84_20, ok_84_20, gf_84_21, gf_84_22, gf_84_23, gf_84_24, ok_84_24, gf_84_25, ok_84_25, gf_84_26, ok_84_26, gf_84_27, ok_84_27, gf_84_28, ok_84_28, gf_84_29, gf_84_30, al_85 (show 3 < 181 by decide), a3, ct_s, ct_n, ↓bI_01, bI_eq0, bI_eq1, nI_10, nI_01, dec_f, dec_t, if_n, eq_self, true_or, or_true, if_true, if_false, reduceIte]
    rw [if_neg (nI_ge (a := i) (b := ncA A) (by omega) (by omega))]
    simp only [↓s217_81, ↓s217_82, ↓s217_83, ↓s217_85, ↓s217_86, ↓s217_87, ↓s217_88, ↓s217_89, ↓s217_90, ↓s217_93, ↓s217_94, ↓s217_97, jc_84, gf_84_0, gf_84_1, gf_84_2, gf_84_3, gf_84_4, ok_84_4, gf_84_5, ok_84_5, gf_84_6, ok_84_6, gf_84_7, ok_84_7, gf_84_8, ok_84_8, gf_84_9, ok_84_9, gf_84_10, gf_84_11, gf_84_12, gf_84_13, gf_84_14, gf_84_15, gf_84_16, gf_84_17, ok_84_17, gf_84_18, gf_84_19, ok_84_19, gf_84_20, ok_84_20, gf_84_21, gf_84_22, gf_84_23, gf_84_24, ok_84_24, gf_84_25, ok_84_25, gf_84_26, ok_84_26, gf_84_27, ok_84_27, gf_84_28, ok_84_28, gf_84_29, gf_84_30, pk_mul, nI_add, ↓c216 hA (show 71 + 4 * i + 3 ≤ 181 by omega), ct_s, ct_n, ↓bI_01, bI_eq0, bI_eq1, nI_10, nI_01, dec_f, dec_t, if_n, eq_self, true_or, or_true, if_true, if_false, reduceIte]
    exact ih (i + 1) _ (by omega)
theorem l217r (hA : M 85 = A) (hW : WF A) : ∀ (c i : Nat) (h : Int64), i + c = nrA A → ax_W (d + 3) 217 116 [.ref 84, .long h, ax_dm, .int (nI i)] [] n (hx S M N) Q = ax_W (d + 3) 217 161 [.ref 84, .long (sR A c i h), ax_dm, .int (nI (nrA A))] [] n (hx S M N) Q := by
  have r6 := hW.2.2.2.2.1.2
  have a5 : M 85 5 = nI (nrA A) := by rw [hA]; exact hW.2.2.2.2.1.1
  intro c
  induction c with
  | zero =>
    intro i h hi
    have e : i = nrA A := by omega
    simp only [↓s217_116, ↓s217_117, ↓s217_118, ↓s217_121, ↓s217_122, ↓s217_123, jc_84, gf_84_0, gf_84_1, gf_84_2, gf_84_3, gf_84_4, ok_84_4, gf_84_5, ok_84_5, gf_84_6, ok_84_6, gf_84_7, ok_84_7, gf_84_8, ok_84_8, gf_84_9, ok_84_9, gf_84_10, gf_84_11, gf_84_12, gf_84_13, gf_84_14, gf_84_15, gf_84_16, gf_84_17, ok_84_17, gf_84_18, gf_84_19, ok_84_19, gf_84_20, ok_84_20, gf_84_21, gf_84_22, gf_84_23, gf_84_24, ok_84_24, gf_84_25, ok_84_25, gf_84_26, ok_84_26, gf_84_27, ok_84_27, gf_84_28, ok_84_28, gf_84_29, gf_84_30, al_85 (show 5 < 181 by decide), a5, ct_s, ct_n, ↓bI_01, bI_eq0, bI_eq1, nI_10, nI_01, dec_f, dec_t, if_n, eq_self, true_or, or_true, if_true, if_false, reduceIte]
    rw [e, if_pos (nI_le (a := nrA A) (b := nrA A) (by omega) (by omega))]
    rfl
  | succ c ih =>
    intro i h hi
    have hr : i < nrA A := by omega
    have m8 := (rd_m hW hr).2
    have q2 : M 85 (115 + 11 * i + 2) = nI (rdM A i) := by rw [hA, show 115 + 11 * i + 2 = 117 + 11 * i by omega]; exact (rd_m hW hr).1
    simp only [↓s217_116, ↓s217_117, ↓s217_118, ↓s217_121, ↓s217_122, ↓s217_123, jc_84, gf_84_0, gf_84_1, gf_84_2, gf_84_3, gf_84_4, ok_84_4, gf_84_5, ok_84_5, gf_84_6, ok_84_6, gf_84_7, ok_84_7, gf_84_8, ok_84_8, gf_84_9, ok_84_9, gf_84_10, gf_84_11, gf_84_12, gf_84_13, gf_84_14, gf_84_15, gf_84_16, gf_84_17, ok_84_17, gf_84_18, gf_84_19, ok_84_19, gf_84_20, ok_84_20, gf_84_21, gf_84_22, gf_84_23, gf_84_24, ok_84_24, gf_84_25, ok_84_25, gf_84_26, ok_84_26, gf_84_27, ok_84_27, gf_84_28, ok_84_28, gf_84_29, gf_84_30, al_85 (show 5 < 181 by decide), a5, ct_s, ct_n, ↓bI_01, bI_eq0, bI_eq1, nI_10, nI_01, dec_f, dec_t, if_n, eq_self, true_or, or_true, if_true, if_false, reduceIte]
    rw [if_neg (nI_ge (a := i) (b := nrA A) (by omega) (by omega))]
    simp only [↓s217_126, ↓s217_127, ↓s217_128, ↓s217_130, ↓s217_132, ↓s217_133, ↓s217_134, ↓s217_135, ↓s217_136, ↓s217_137, ↓s217_140, ↓s217_142, ↓s217_144, ↓s217_145, ↓s217_146, ↓s217_147, ↓s217_148, ↓s217_149, ↓s217_150, ↓s217_151, ↓s217_154, ↓s217_155, ↓s217_158, jc_84, gf_84_0, gf_84_1, gf_84_2, gf_84_3, gf_84_4, ok_84_4, gf_84_5, ok_84_5, gf_84_6, ok_84_6, gf_84_7, ok_84_7, gf_84_8, ok_84_8, gf_84_9, ok_84_9, gf_84_10, gf_84_11, gf_84_12, gf_84_13, gf_84_14, gf_84_15, gf_84_16, gf_84_17, ok_84_17, gf_84_18, gf_84_19, ok_84_19, gf_84_20, ok_84_20, gf_84_21, gf_84_22, gf_84_23, gf_84_24, ok_84_24, gf_84_25, ok_84_25, gf_84_26, ok_84_26, gf_84_27, ok_84_27, gf_84_28, ok_84_28, gf_84_29, gf_84_30, pk_mul, nI_add, al_85 (show 115 + 11 * i + 2 < 181 by omega), q2, ↓c216 hA (show 115 + 11 * i + (3 + rdM A i) ≤ 181 by omega), ct_s, ct_n, ↓bI_01, bI_eq0, bI_eq1, nI_10, nI_01, dec_f, dec_t, if_n, eq_self, true_or, or_true, if_true, if_false, reduceIte]
    exact ih (i + 1) _ (by omega)
set_option maxHeartbeats 1000000 in
theorem p34 (hI : Inv M N) : RPl 115 217 [.ref 20, ax_dm, ax_dm, ax_dm] [.ref 84, ax_dm, ax_dm, ax_dm] M N := by
  have hC := hI.1
  have hW := hI.2.1
  obtain ⟨fr1, fr2⟩ := hI.2.2.2.2.2
  obtain ⟨M2, s2, g2⟩ := l217a (N := N) hW 6 0 (by omega) M sc_rf
  have hA2 : M2 85 = M 85 := s2.1 85 (by omega)
  have n8 := hW.1.2
  have c8 := hW.2.2.1.2
  have m8 := hW.2.2.2.1.2
  have le : M 21 6 = M 85 2 := hC.ph.2
  generalize hA : M 85 = A at *
  have x1 : ∀ h, mixA M 24 5 5 5 0 h = sA A 25 46 h := fun h => by
    rw [mixA_s (A := A) (b := 46) (st := 5) 5 0 h (fun j q _ h2 h3 => by
      rw [rcell_in hC.2.1 (by omega) (show j < 5 by omega) (by omega) h3, show j * 5 + q = 5 * j + q by omega]
      have := hC.pb.2 (5 * j + q) (by omega)
      rw [show 46 + 5 * j + q = 46 + (5 * j + q) by omega]
      exact this), sB_A]
  have x2 : ∀ h, mixA M 22 5 5 (ndA A) 0 h = sA A (5 * ndA A) 6 h := fun h => by
    rw [mixA_s (A := A) (b := 6) (st := 5) (ndA A) 0 h (fun j q _ h2 h3 => rd_dish hC hW (by omega) h3), sB_A, Nat.mul_comm]
  have x3 : ∀ h, mixA M 26 4 3 (ncA A) 0 h = sB A 3 4 (ncA A) (71 + 4 * 0) h := fun h => mixA_s (A := A) (b := 71) (st := 4) (ncA A) 0 h (fun j q _ h2 h3 => rd_course hC hW (by omega) (by omega))
  have x4 : ∀ h, mixA M 28 1 1 (nmA A) 0 h = sA A (nmA A) 107 h := fun h => by
    rw [mixA_s (A := A) (b := 107) (st := 1) (nmA A) 0 h (fun j q _ h2 h3 => by
      rw [show q = 0 by omega, rd_menu hC hW (by omega), show 107 + 1 * j + 0 = 107 + j by omega]
      exact (hW.m.2.1 j (by omega)).1.symm), sB_A, Nat.mul_one]
  have a2 : M2 85 2 = A 2 := by rw [hA2]
  have a0 : M2 85 0 = nI (ndA A) := by rw [hA2]; exact hW.1.1
  have a4 : M2 85 4 = nI (nmA A) := by rw [hA2]; exact hW.2.2.2.1.1
  refine ⟨31 * (31 * sR A (nrA A) 0 (sA A (nmA A) 107 (sB A 3 4 (ncA A) (71 + 4 * 0) (sA A (5 * ndA A) 6 (sA A 25 46 (31 * sC M 6 + (A 2).toInt64))))) + N 84 4) + N 84 5, M, N, M2, N, fun S d n Q => ?_, fun S d n Q => ?_, Inv_sc s2 hI⟩
  · simp only [↓s115_0, ↓s115_3, ↓s115_4, ↓s115_5, ct_s, ct_n, ↓bI_01, bI_eq0, bI_eq1, nI_10, nI_01, dec_f, dec_t, if_n, eq_self, true_or, or_true, if_true, if_false, reduceIte]
    refine (l115a (d := d + 898) hI 6 0 (by omega)).trans ?_
    simp only [↓s115_28, ↓s115_29, ↓s115_30, ↓s115_33, ↓s115_36, ↓s115_37, ↓s115_40, ↓s115_41, ↓s115_42, ↓s115_45, ↓s115_48, ↓s115_49, ↓s115_50, ↓s115_53, ↓s115_54, ↓s115_55, ↓s115_58, ↓s115_61, ↓s115_62, ↓s115_63, ↓s115_66, ↓s115_67, ↓s115_68, ↓s115_71, ↓s115_74, ↓s115_75, ↓s115_76, ↓s115_79, ↓s115_80, ↓s115_81, ↓s115_84, ↓s115_87, ↓s115_88, ↓s115_89, ↓s115_92, ↓s115_93, ↓s115_94, jc_20, gf_20_0, gf_20_1, gf_20_2, gf_20_3, gf_20_4, gf_20_5, gf_20_6, gf_20_7, gf_20_8, gf_20_9, gf_20_10, gf_20_11, ok_20_11, gf_20_12, ok_20_12, gf_20_13, ok_20_13, gf_20_14, ok_20_14, gf_20_15, ok_20_15, jc_21, gf_21_0, gf_21_1, gf_21_2, gf_21_3, gf_21_4, gf_21_5, ok_21_5, gf_21_6, ok_21_6, jc_22, gf_22_0, gf_22_1, gf_22_2, gf_22_3, ok_22_3, jc_24, gf_24_0, gf_24_1, gf_24_2, gf_24_3, ok_24_3, jc_26, gf_26_0, gf_26_1, gf_26_2, gf_26_3, ok_26_3, jc_28, gf_28_0, gf_28_1, gf_28_2, gf_28_3, ok_28_3, le, ↓c131, ↓c59 h24 hC.2.1 (show 5 ≤ 5 by omega) (show 5 < 2 ^ 31 by decide), ↓c59 h22 (rc_nd hC hW).1 n8 (show 5 < 2 ^ 31 by decide), ↓c59 h26 (rc_nc hC hW).1 (show ncA A ≤ 9 by omega) (show 3 < 2 ^ 31 by decide), ↓c59 h28 (rc_nm hC hW).1 m8 (show 1 < 2 ^ 31 by decide), x1, x2, x3, x4, ct_s, ct_n, ↓bI_01, bI_eq0, bI_eq1, nI_10, nI_01, dec_f, dec_t, if_n, eq_self, true_or, or_true, if_true, if_false, reduceIte]
    refine (l115r (d := d + 898) hC hW (nrA A) 0 _ (by omega)).trans ?_
    simp only [↓s115_142, ↓s115_143, ↓s115_144, ↓s115_147, ↓s115_150, ↓s115_151, ↓s115_154, ↓s115_157, jc_20, gf_20_0, gf_20_1, gf_20_2, gf_20_3, gf_20_4, gf_20_5, gf_20_6, gf_20_7, gf_20_8, gf_20_9, gf_20_10, gf_20_11, ok_20_11, gf_20_12, ok_20_12, gf_20_13, ok_20_13, gf_20_14, ok_20_14, gf_20_15, ok_20_15, ↓c131, fr1, fr2, ct_s, ct_n, ↓bI_01, bI_eq0, bI_eq1, nI_10, nI_01, dec_f, dec_t, if_n, eq_self, true_or, or_true, if_true, if_false, reduceIte]
  · simp only [↓s217_0, ↓s217_3, ↓s217_4, ↓s217_5, ct_s, ct_n, ↓bI_01, bI_eq0, bI_eq1, nI_10, nI_01, dec_f, dec_t, if_n, eq_self, true_or, or_true, if_true, if_false, reduceIte]
    refine (g2 S (d + 897) n Q).trans ?_
    simp only [↓s217_31, ↓s217_34, ↓s217_35, ↓s217_36, ↓s217_37, ↓s217_40, ↓s217_41, ↓s217_42, ↓s217_43, ↓s217_44, ↓s217_45, ↓s217_46, ↓s217_47, ↓s217_49, ↓s217_51, ↓s217_54, ↓s217_55, ↓s217_56, ↓s217_57, ↓s217_59, ↓s217_60, ↓s217_61, ↓s217_64, ↓s217_65, ↓s217_68, ↓s217_69, ↓s217_70, jc_84, gf_84_0, gf_84_1, gf_84_2, gf_84_3, gf_84_4, ok_84_4, gf_84_5, ok_84_5, gf_84_6, ok_84_6, gf_84_7, ok_84_7, gf_84_8, ok_84_8, gf_84_9, ok_84_9, gf_84_10, gf_84_11, gf_84_12, gf_84_13, gf_84_14, gf_84_15, gf_84_16, gf_84_17, ok_84_17, gf_84_18, gf_84_19, ok_84_19, gf_84_20, ok_84_20, gf_84_21, gf_84_22, gf_84_23, gf_84_24, ok_84_24, gf_84_25, ok_84_25, gf_84_26, ok_84_26, gf_84_27, ok_84_27, gf_84_28, ok_84_28, gf_84_29, gf_84_30, al_85 (show 2 < 181 by decide), a2, ↓c140, a0, pk_mul, ↓c216 hA2 (show 46 + 25 ≤ 181 by decide), ↓c216 hA2 (show 6 + 5 * ndA A ≤ 181 by omega), ct_s, ct_n, ↓bI_01, bI_eq0, bI_eq1, nI_10, nI_01, dec_f, dec_t, if_n, eq_self, true_or, or_true, if_true, if_false, reduceIte]
    refine (l217c (d := d + 897) hA2 hW (ncA A) 0 _ (by omega)).trans ?_
    simp only [↓s217_100, ↓s217_101, ↓s217_102, ↓s217_104, ↓s217_105, ↓s217_108, ↓s217_109, ↓s217_110, ↓s217_113, ↓s217_114, ↓s217_115, jc_84, gf_84_0, gf_84_1, gf_84_2, gf_84_3, gf_84_4, ok_84_4, gf_84_5, ok_84_5, gf_84_6, ok_84_6, gf_84_7, ok_84_7, gf_84_8, ok_84_8, gf_84_9, ok_84_9, gf_84_10, gf_84_11, gf_84_12, gf_84_13, gf_84_14, gf_84_15, gf_84_16, gf_84_17, ok_84_17, gf_84_18, gf_84_19, ok_84_19, gf_84_20, ok_84_20, gf_84_21, gf_84_22, gf_84_23, gf_84_24, ok_84_24, gf_84_25, ok_84_25, gf_84_26, ok_84_26, gf_84_27, ok_84_27, gf_84_28, ok_84_28, gf_84_29, gf_84_30, al_85 (show 4 < 181 by decide), a4, ↓c216 hA2 (show 107 + nmA A ≤ 181 by omega), ct_s, ct_n, ↓bI_01, bI_eq0, bI_eq1, nI_10, nI_01, dec_f, dec_t, if_n, eq_self, true_or, or_true, if_true, if_false, reduceIte]
    refine (l217r (d := d + 897) hA2 hW (nrA A) 0 _ (by omega)).trans ?_
    simp only [↓s217_161, ↓s217_164, ↓s217_167, ↓s217_168, ↓s217_169, ↓s217_170, ↓s217_173, ↓s217_174, ↓s217_175, ↓s217_176, ↓s217_179, ↓s217_180, jc_84, gf_84_0, gf_84_1, gf_84_2, gf_84_3, gf_84_4, ok_84_4, gf_84_5, ok_84_5, gf_84_6, ok_84_6, gf_84_7, ok_84_7, gf_84_8, ok_84_8, gf_84_9, ok_84_9, gf_84_10, gf_84_11, gf_84_12, gf_84_13, gf_84_14, gf_84_15, gf_84_16, gf_84_17, ok_84_17, gf_84_18, gf_84_19, ok_84_19, gf_84_20, ok_84_20, gf_84_21, gf_84_22, gf_84_23, gf_84_24, ok_84_24, gf_84_25, ok_84_25, gf_84_26, ok_84_26, gf_84_27, ok_84_27, gf_84_28, ok_84_28, gf_84_29, gf_84_30, ct_s, ct_n, ↓bI_01, bI_eq0, bI_eq1, nI_10, nI_01, dec_f, dec_t, if_n, eq_self, true_or, or_true, if_true, if_false, reduceIte]
end Digest
