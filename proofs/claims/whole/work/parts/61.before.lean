/-! ===== before ===== -/
def lsF (t : Int) (v : Nat) (lo : Int) : Int := if v = 1 then lo else max lo (if v = 0 then 1 - t else -t)
def msF (t : Int) (v : Nat) (hi : Int) : Int := if v = 0 then hi else min hi (if v = 1 then -1 - t else -t)
def spn (A : ax_A0) : Nat → Int × Int
  | 0 => (-30, 30)
  | k + 1 => (lsF (rT A k) (rdV A k) (spn A k).1, msF (rT A k) (rdV A k) (spn A k).2)
def fb (A : ax_A0) (z : Int) : Nat → Bool
  | 0 => true
  | k + 1 => fb A z k && decide (vdZ (z + rT A k) = rdV A k)
theorem ls_ms {t z lo hi : Int} {v : Nat} (hv : v ≤ 2) : (lsF t v lo ≤ z ∧ z ≤ msF t v hi) ↔ (lo ≤ z ∧ z ≤ hi ∧ vdZ (z + t) = v) := by
  unfold lsF msF vdZ
  rcases (show v = 0 ∨ v = 1 ∨ v = 2 by omega) with rfl | rfl | rfl
  · rw [if_neg (by decide), if_pos rfl, if_pos rfl]
    by_cases h : 0 < z + t
    · rw [if_pos h]; omega
    · rw [if_neg h]
      split <;> omega
  · rw [if_pos rfl, if_neg (by decide), if_pos rfl]
    by_cases h : 0 < z + t
    · rw [if_pos h]; omega
    · rw [if_neg h]
      split <;> omega
  · rw [if_neg (by decide), if_neg (by decide), if_neg (by decide), if_neg (by decide)]
    by_cases h : 0 < z + t
    · rw [if_pos h]; omega
    · rw [if_neg h]
      split <;> omega
theorem ls_bd {t lo : Int} {v : Nat} (ht : -200 ≤ t ∧ t ≤ 200) (h : -30 ≤ lo ∧ lo ≤ 300) : -30 ≤ lsF t v lo ∧ lsF t v lo ≤ 300 := by
  unfold lsF
  split
  · exact h
  · split <;> omega
theorem ms_bd {t hi : Int} {v : Nat} (ht : -200 ≤ t ∧ t ≤ 200) (h : -300 ≤ hi ∧ hi ≤ 30) : -300 ≤ msF t v hi ∧ msF t v hi ≤ 30 := by
  unfold msF
  split
  · exact h
  · split <;> omega
section Before
variable {M M0 : ax_M} {N : ax_L} {A : ax_A0} {x y : Int32} {r : Nat}
theorem gL_bd (hW : WF A) {f : Nat → Nat} {w : ax_V} {s m : Nat} (hf : ∀ i, i < m → f i < ndA A) (hw : w.1 < 256) (hl : ∀ j, w.2.1 = some j → j < ndA A) : ∀ k, k ≤ m → -(24 * (k : Int)) ≤ gL A f w s 0 k ∧ gL A f w s 0 k ≤ 24 * (k : Int) := by
  intro k
  induction k with
  | zero => intro _; exact ⟨show -(24 * ((0 : Nat) : Int)) ≤ 0 by decide, show (0 : Int) ≤ 24 * ((0 : Nat) : Int) by decide⟩
  | succ k ih =>
    intro hk
    have h1 := ih (by omega)
    have h2 := gN_le (s := s) hW hf hw hl (show k < m by omega)
    show -(24 * ((k + 1 : Nat) : Int)) ≤ gL A f w s 0 k + (ck 0 k : Int) * gP A f w s k ∧ gL A f w s 0 k + (ck 0 k : Int) * gP A f w s k ≤ 24 * ((k + 1 : Nat) : Int)
    rw [ck_0, show ((1 : Nat) : Int) = 1 from rfl, Int.one_mul]
    unfold gP sg
    split <;> omega
theorem rT_bd (hW : WF A) (hr : r < nrA A) : -200 ≤ rT A r ∧ rT A r ≤ 200 := by
  have m8 := (rd_m hW hr).2
  have := gL_bd (s := rdS A r) (w := v00) hW (fun i hi => (rd_f hW hr (i := i) hi).2) (by decide) (fun j hj => by cases hj) (rdM A r) (Nat.le_refl _)
  unfold rT
  omega
theorem sp_bd (hW : WF A) : ∀ k, k ≤ nrA A → (-30 ≤ (spn A k).1 ∧ (spn A k).1 ≤ 300) ∧ (-300 ≤ (spn A k).2 ∧ (spn A k).2 ≤ 30) := by
  intro k
  induction k with
  | zero => intro _; exact ⟨⟨show (-30 : Int) ≤ -30 by decide, show (-30 : Int) ≤ 300 by decide⟩, show (-300 : Int) ≤ 30 by decide, show (30 : Int) ≤ 30 by decide⟩
  | succ k ih =>
    intro hk
    have h := ih (by omega)
    have t := rT_bd hW (show k < nrA A by omega)
    exact ⟨ls_bd t h.1, ms_bd t h.2⟩
theorem fb_sp (hW : WF A) {z : Int} : ∀ k, k ≤ nrA A → -30 ≤ z → z ≤ 30 → (fb A z k = true ↔ (spn A k).1 ≤ z ∧ z ≤ (spn A k).2) := by
  intro k
  induction k with
  | zero => intro _ h1 h2; exact ⟨fun _ => ⟨h1, h2⟩, fun _ => rfl⟩
  | succ k ih =>
    intro hk h1 h2
    have h := ih (by omega) h1 h2
    have e := ls_ms (t := rT A k) (z := z) (lo := (spn A k).1) (hi := (spn A k).2) (rd_v hW (show k < nrA A by omega)).2
    show (fb A z k && decide (vdZ (z + rT A k) = rdV A k)) = true ↔ (lsF (rT A k) (rdV A k) (spn A k).1 ≤ z ∧ z ≤ msF (rT A k) (rdV A k) (spn A k).2)
    rw [e, Bool.and_eq_true, decide_eq_true_eq, h, and_assoc]
theorem mxI_i {a b : Int} (ha : -1000 ≤ a ∧ a ≤ 1000) (hb : -1000 ≤ b ∧ b ≤ 1000) : mxI (iI a) (iI b) = iI (max a b) := by
  unfold mxI
  by_cases h : a < b
  · rw [if_pos ((iI_lt (by omega) (by omega) (by omega) (by omega)).mpr h), show max a b = b by omega]
  · rw [if_neg (fun q => h ((iI_lt (by omega) (by omega) (by omega) (by omega)).mp q)), show max a b = a by omega]
theorem mnI_i {a b : Int} (ha : -1000 ≤ a ∧ a ≤ 1000) (hb : -1000 ≤ b ∧ b ≤ 1000) : mnI (iI a) (iI b) = iI (min a b) := by
  unfold mnI
  by_cases h : b < a
  · rw [if_pos ((iI_lt (by omega) (by omega) (by omega) (by omega)).mpr h), show min a b = b by omega]
  · rw [if_neg (fun q => h ((iI_lt (by omega) (by omega) (by omega) (by omega)).mp q)), show min a b = a by omega]
theorem i_1 : nI 1 = iI 1 := by decide
theorem i_0 : nI 0 = iI 0 := by decide
variable {d n : Nat} {S : ax_S} {Q : Option Value → Nat → ax_H → Prop} {t lo hi : Int} {v : Nat}
theorem c67 (h0 : M 83 0 = iI lo) (ht : -200 ≤ t ∧ t ≤ 200) (hl : -30 ≤ lo ∧ lo ≤ 300) (hv : v ≤ 2) : ax_W (d + 1) 67 0 [.ref 83, .int (iI t), .int (nI v)] [] n (hx S M N) Q = Q (some (.int (iI (lsF t v lo)))) n (hx S M N) := by
  unfold lsF
  rcases (show v = 0 ∨ v = 1 ∨ v = 2 by omega) with rfl | rfl | rfl
  · rw [if_neg (by decide), if_pos rfl, ← mxI_i (by omega) (by omega)]
    simp only [↓s67_0, ↓s67_1, ↓s67_2, ct_s, ct_n, ↓bI_01, bI_eq0, bI_eq1, nI_10, nI_01, dec_f, dec_t, if_n, eq_self, true_or, or_true, if_true, if_false, reduceIte]
    simp only [↓s67_10, ↓s67_11, ↓s67_14, ↓s67_15, ↓s67_18, ↓s67_19, ↓s67_20, ↓s67_21, ↓s67_24, ↓s67_25, ↓s67_26, ↓s67_29, jc_83, gf_83_0, ok_83_0, gf_83_1, ok_83_1, h0, i_1, iI_sub, ct_s, ct_n, ↓bI_01, bI_eq0, bI_eq1, nI_10, nI_01, dec_f, dec_t, if_n, eq_self, true_or, or_true, if_true, if_false, reduceIte]
  · rw [if_pos rfl]
    simp only [↓s67_0, ↓s67_1, ↓s67_2, ↓s67_5, ↓s67_6, ↓s67_9, jc_83, gf_83_0, ok_83_0, gf_83_1, ok_83_1, h0, ct_s, ct_n, ↓bI_01, bI_eq0, bI_eq1, nI_10, nI_01, dec_f, dec_t, if_n, eq_self, true_or, or_true, if_true, if_false, reduceIte]
  · rw [if_neg (by decide), if_neg (by decide), ← mxI_i (by omega) (by omega)]
    simp only [↓s67_0, ↓s67_1, ↓s67_2, ct_s, ct_n, ↓bI_01, bI_eq0, bI_eq1, nI_10, nI_01, dec_f, dec_t, if_n, eq_self, true_or, or_true, if_true, if_false, reduceIte]
    rw [if_neg (by decide)]
    simp only [↓s67_10, ↓s67_11, ↓s67_14, ↓s67_15, jc_83, gf_83_0, ok_83_0, gf_83_1, ok_83_1, h0, ct_s, ct_n, ↓bI_01, bI_eq0, bI_eq1, nI_10, nI_01, dec_f, dec_t, if_n, eq_self, true_or, or_true, if_true, if_false, reduceIte]
    rw [if_neg (by decide)]
    simp only [↓s67_24, ↓s67_25, ↓s67_26, ↓s67_29, iI_neg, ct_s, ct_n, ↓bI_01, bI_eq0, bI_eq1, nI_10, nI_01, dec_f, dec_t, if_n, eq_self, true_or, or_true, if_true, if_false, reduceIte]
theorem c68 (h0 : M 83 1 = iI hi) (ht : -200 ≤ t ∧ t ≤ 200) (hl : -300 ≤ hi ∧ hi ≤ 30) (hv : v ≤ 2) : ax_W (d + 1) 68 0 [.ref 83, .int (iI t), .int (nI v)] [] n (hx S M N) Q = Q (some (.int (iI (msF t v hi)))) n (hx S M N) := by
  unfold msF
  rcases (show v = 0 ∨ v = 1 ∨ v = 2 by omega) with rfl | rfl | rfl
  · rw [if_pos rfl]
    simp only [↓s68_0, ↓s68_1, ↓s68_4, ↓s68_5, ↓s68_8, jc_83, gf_83_0, ok_83_0, gf_83_1, ok_83_1, h0, ct_s, ct_n, ↓bI_01, bI_eq0, bI_eq1, nI_10, nI_01, dec_f, dec_t, if_n, eq_self, true_or, or_true, if_true, if_false, reduceIte]
  · rw [if_neg (by decide), if_pos rfl, ← mnI_i (by omega) (by omega)]
    simp only [↓s68_0, ↓s68_1, ct_s, ct_n, ↓bI_01, bI_eq0, bI_eq1, nI_10, nI_01, dec_f, dec_t, if_n, eq_self, true_or, or_true, if_true, if_false, reduceIte]
    simp only [↓s68_9, ↓s68_10, ↓s68_13, ↓s68_14, ↓s68_15, ↓s68_18, ↓s68_19, ↓s68_20, ↓s68_21, ↓s68_24, ↓s68_25, ↓s68_26, ↓s68_29, jc_83, gf_83_0, ok_83_0, gf_83_1, ok_83_1, h0, iI_m1, iI_sub, ct_s, ct_n, ↓bI_01, bI_eq0, bI_eq1, nI_10, nI_01, dec_f, dec_t, if_n, eq_self, true_or, or_true, if_true, if_false, reduceIte]
  · rw [if_neg (by decide), if_neg (by decide), ← mnI_i (by omega) (by omega)]
    simp only [↓s68_0, ↓s68_1, ct_s, ct_n, ↓bI_01, bI_eq0, bI_eq1, nI_10, nI_01, dec_f, dec_t, if_n, eq_self, true_or, or_true, if_true, if_false, reduceIte]
    rw [if_neg (by decide)]
    simp only [↓s68_9, ↓s68_10, ↓s68_13, ↓s68_14, ↓s68_15, jc_83, gf_83_0, ok_83_0, gf_83_1, ok_83_1, h0, ct_s, ct_n, ↓bI_01, bI_eq0, bI_eq1, nI_10, nI_01, dec_f, dec_t, if_n, eq_self, true_or, or_true, if_true, if_false, reduceIte]
    rw [if_neg (by decide)]
    simp only [↓s68_24, ↓s68_25, ↓s68_26, ↓s68_29, iI_neg, ct_s, ct_n, ↓bI_01, bI_eq0, bI_eq1, nI_10, nI_01, dec_f, dec_t, if_n, eq_self, true_or, or_true, if_true, if_false, reduceIte]
theorem c65 (h0 : M 83 0 = iI lo) (h1 : M 83 1 = iI hi) (ht : -200 ≤ t ∧ t ≤ 200) (hl : -30 ≤ lo ∧ lo ≤ 300) (hh : -300 ≤ hi ∧ hi ≤ 30) (hv : v ≤ 2) : ax_W (d + 2) 65 0 [.ref 83, .int (iI t), .int (nI v)] [] n (hx S M N) Q = Q none n (hx S (ux (ux M 83 0 (iI (lsF t v lo))) 83 1 (iI (msF t v hi))) N) := by
  have h1' : ux M 83 0 (iI (lsF t v lo)) 83 1 = iI hi := by rw [ux_j (by decide)]; exact h1
  simp only [↓s65_0, ↓s65_1, ↓s65_2, ↓s65_3, ↓s65_4, ↓s65_7, ↓s65_10, ↓s65_11, ↓s65_12, ↓s65_13, ↓s65_14, ↓s65_17, ↓s65_20, jc_83, gf_83_0, ok_83_0, gf_83_1, ok_83_1, ↓c67 h0 ht hl hv, ↓c68 h1' ht hh hv, ct_s, ct_n, ↓bI_01, bI_eq0, bI_eq1, nI_10, nI_01, dec_f, dec_t, if_n, eq_self, true_or, or_true, if_true, if_false, reduceIte]
theorem c64 (h0 : M 83 0 = iI lo) (h1 : M 83 1 = iI hi) (hl : -30 ≤ lo ∧ lo ≤ 300) (hh : -300 ≤ hi ∧ hi ≤ 30) : ax_W (d + 1) 64 0 [.ref 83] [] n (hx S M N) Q = Q (some (.int (iI (max 0 (hi - lo + 1))))) n (hx S M N) := by
  rw [← mxI_i (by omega) (by omega)]
  simp only [↓s64_0, ↓s64_1, ↓s64_2, ↓s64_5, ↓s64_6, ↓s64_9, ↓s64_10, ↓s64_11, ↓s64_12, ↓s64_15, jc_83, gf_83_0, ok_83_0, gf_83_1, ok_83_1, h0, h1, i_0, i_1, iI_sub, iI_add, ct_s, ct_n, ↓bI_01, bI_eq0, bI_eq1, nI_10, nI_01, dec_f, dec_t, if_n, eq_self, true_or, or_true, if_true, if_false, reduceIte]
theorem c66 (h0 : M 83 0 = iI lo) (h1 : M 83 1 = iI hi) (ht : -200 ≤ t ∧ t ≤ 200) (hl : -30 ≤ lo ∧ lo ≤ 300) (hh : -300 ≤ hi ∧ hi ≤ 30) (hv : v ≤ 2) : ax_W (d + 2) 66 0 [.ref 83, .int (iI t), .int (nI v)] [] n (hx S M N) Q = Q (some (.int (iI (max 0 (msF t v hi - lsF t v lo + 1))))) n (hx S M N) := by
  have b1 := ls_bd (v := v) ht hl
  have b2 := ms_bd (v := v) ht hh
  rw [← mxI_i (by omega) (by omega)]
  simp only [↓s66_0, ↓s66_1, ↓s66_2, ↓s66_3, ↓s66_4, ↓s66_7, ↓s66_8, ↓s66_9, ↓s66_10, ↓s66_13, ↓s66_14, ↓s66_15, ↓s66_16, ↓s66_19, jc_83, gf_83_0, ok_83_0, gf_83_1, ok_83_1, ↓c67 h0 ht hl hv, ↓c68 h1 ht hh hv, i_0, i_1, iI_sub, iI_add, ct_s, ct_n, ↓bI_01, bI_eq0, bI_eq1, nI_10, nI_01, dec_f, dec_t, if_n, eq_self, true_or, or_true, if_true, if_false, reduceIte]
theorem l119 (hC0 : RC M0 21 A) (hW : WF A) : ∀ (c i : Nat), i + c = nrA A → ∀ M, sc M0 M → M 83 0 = iI (spn A i).1 → M 83 1 = iI (spn A i).2 → ∃ M2, sc M0 M2 ∧ (M2 83 0 = iI (spn A (nrA A)).1 ∧ M2 83 1 = iI (spn A (nrA A)).2) ∧ ∀ (S : ax_S) (d n : Nat) (Q : Option Value → Nat → ax_H → Prop), ax_W (d + 6) 119 9 [.ref 20, .int (nI i)] [] n (hx S M N) Q = Q none n (hx S M2 N) := by
  have r6 := hW.2.2.2.2.1.2
  intro c
  induction c with
  | zero =>
    intro i hi M hM h0 h1
    have hC := RC_sc hM hC0
    have e : i = nrA A := by omega
    subst e
    refine ⟨M, hM, ⟨h0, h1⟩, fun S d n Q => ?_⟩
    simp only [↓s119_9, ↓s119_10, ↓s119_11, ↓s119_14, ↓s119_17, ↓s119_20, jc_20, gf_20_0, gf_20_1, gf_20_2, gf_20_3, gf_20_4, gf_20_5, gf_20_6, gf_20_7, gf_20_8, gf_20_9, gf_20_10, gf_20_11, ok_20_11, gf_20_12, ok_20_12, gf_20_13, ok_20_13, gf_20_14, ok_20_14, gf_20_15, ok_20_15, jc_21, gf_21_0, gf_21_1, gf_21_2, gf_21_3, gf_21_4, gf_21_5, ok_21_5, gf_21_6, ok_21_6, jc_30, gf_30_0, gf_30_1, gf_30_2, gf_30_3, ok_30_3, ↓c53 h30, (rc_nr hC hW).1, ct_s, ct_n, ↓bI_01, bI_eq0, bI_eq1, nI_10, nI_01, dec_f, dec_t, if_n, eq_self, true_or, or_true, if_true, if_false, reduceIte]
    rw [if_pos (nI_le (a := nrA A) (b := nrA A) (by omega) (by omega))]
    simp only [↓s119_63, ct_s, ct_n, ↓bI_01, bI_eq0, bI_eq1, nI_10, nI_01, dec_f, dec_t, if_n, eq_self, true_or, or_true, if_true, if_false, reduceIte]
  | succ c ih =>
    intro i hi M hM h0 h1
    have hC := RC_sc hM hC0
    have hr : i < nrA A := by omega
    have b := sp_bd hW i (by omega)
    have hM1 : sc M0 (tgM (ux M 74 3 (nI 0)) A (rdF A i) v00 (rdS A i) (rdM A i) (rdM A i)) := sc_tg (sc_ux hM (by omega))
    have hC1 := RC_sc hM1 hC0
    have g0 : tgM (ux M 74 3 (nI 0)) A (rdF A i) v00 (rdS A i) (rdM A i) (rdM A i) 83 0 = iI (spn A i).1 := by rw [tg_o (by decide) (by decide) (by decide) (by decide), ux_a (by decide)]; exact h0
    have g1 : tgM (ux M 74 3 (nI 0)) A (rdF A i) v00 (rdS A i) (rdM A i) (rdM A i) 83 1 = iI (spn A i).2 := by rw [tg_o (by decide) (by decide) (by decide) (by decide), ux_a (by decide)]; exact h1
    have g3 : tgM (ux M 74 3 (nI 0)) A (rdF A i) v00 (rdS A i) (rdM A i) (rdM A i) 73 3 = iI (rT A i) := tg_73
    have k := fun (S : ax_S) (n d : Nat) (Q : Option Value → Nat → ax_H → Prop) => c75 (d := d) (n := n) (Q := Q) (S := S) (N := N) hC hW hr
    generalize tgM (ux M 74 3 (nI 0)) A (rdF A i) v00 (rdS A i) (rdM A i) (rdM A i) = M1 at *
    obtain ⟨M2, h2, h4, h3⟩ := ih (i + 1) (by omega) _ (sc_ux (v := iI (spn A (i + 1)).2) (a := 83) (j := 1) (sc_ux (v := iI (spn A (i + 1)).1) (a := 83) (j := 0) hM1 (by omega)) (by omega)) (by rw [ux_j (by decide), ux_s]) (by rw [ux_s])
    refine ⟨M2, h2, h4, fun S d n Q => ?_⟩
    simp only [↓s119_9, ↓s119_10, ↓s119_11, ↓s119_14, ↓s119_17, ↓s119_20, jc_20, gf_20_0, gf_20_1, gf_20_2, gf_20_3, gf_20_4, gf_20_5, gf_20_6, gf_20_7, gf_20_8, gf_20_9, gf_20_10, gf_20_11, ok_20_11, gf_20_12, ok_20_12, gf_20_13, ok_20_13, gf_20_14, ok_20_14, gf_20_15, ok_20_15, jc_21, gf_21_0, gf_21_1, gf_21_2, gf_21_3, gf_21_4, gf_21_5, ok_21_5, gf_21_6, ok_21_6, jc_30, gf_30_0, gf_30_1, gf_30_2, gf_30_3, ok_30_3, ↓c53 h30, (rc_nr hC hW).1, ct_s, ct_n, ↓bI_01, bI_eq0, bI_eq1, nI_10, nI_01, dec_f, dec_t, if_n, eq_self, true_or, or_true, if_true, if_false, reduceIte]
    rw [if_neg (nI_ge (a := i) (b := nrA A) (by omega) (by omega))]
    simp only [↓s119_23, ↓s119_24, ↓s119_27, ↓s119_28, ↓s119_31, ↓s119_32, ↓s119_35, ↓s119_36, ↓s119_39, ↓s119_42, ↓s119_43, ↓s119_46, ↓s119_49, ↓s119_50, ↓s119_51, ↓s119_54, ↓s119_57, ↓s119_60, ↓s72_0, ↓s72_1, ↓s72_4, jc_20, gf_20_0, gf_20_1, gf_20_2, gf_20_3, gf_20_4, gf_20_5, gf_20_6, gf_20_7, gf_20_8, gf_20_9, gf_20_10, gf_20_11, ok_20_11, gf_20_12, ok_20_12, gf_20_13, ok_20_13, gf_20_14, ok_20_14, gf_20_15, ok_20_15, jc_73, gf_73_0, gf_73_1, gf_73_2, gf_73_3, ok_73_3, jc_83, gf_83_0, ok_83_0, gf_83_1, ok_83_1, jc_21, gf_21_0, gf_21_1, gf_21_2, gf_21_3, gf_21_4, gf_21_5, ok_21_5, gf_21_6, ok_21_6, jc_30, gf_30_0, gf_30_1, gf_30_2, gf_30_3, ok_30_3, ↓k, g3, ↓c54 h30 (cap30 hC1 hW), rd_cell hC1 hW hr (show 1 < 3 + rdM A i by omega), show 115 + 11 * i + 1 = 116 + 11 * i by omega, (rd_v hW hr).1, ↓c65 g0 g1 (rT_bd hW hr) b.1 b.2 (rd_v hW hr).2, nI_add, ct_s, ct_n, ↓bI_01, bI_eq0, bI_eq1, nI_10, nI_01, dec_f, dec_t, if_n, eq_self, true_or, or_true, if_true, if_false, reduceIte]
    exact h3 S d n Q
theorem c119 (hC : RC M 21 A) (hW : WF A) : ∃ M2, sc M M2 ∧ (M2 83 0 = iI (spn A (nrA A)).1 ∧ M2 83 1 = iI (spn A (nrA A)).2) ∧ ∀ (S : ax_S) (d n : Nat) (Q : Option Value → Nat → ax_H → Prop), ax_W (d + 6) 119 0 [.ref 20, ax_dm] [] n (hx S M N) Q = Q none n (hx S M2 N) := by
  obtain ⟨M2, h2, h4, h3⟩ := l119 (N := N) hC hW (nrA A) 0 (by omega) (ux (ux M 83 0 (-30)) 83 1 (nI 30)) (sc_ux (sc_ux sc_rf (by omega)) (by omega)) (by rw [ux_j (by decide), ux_s]; exact (show (-30 : Int32) = iI (-30) by decide)) (by rw [ux_s]; exact (show nI 30 = iI 30 by decide))
  refine ⟨M2, h2, h4, fun S d n Q => ?_⟩
  simp only [↓s119_0, ↓s119_1, ↓s119_4, ↓s119_7, ↓s119_8, ↓s62_0, ↓s62_1, ↓s62_3, ↓s62_6, ↓s62_7, ↓s62_9, ↓s62_12, jc_20, gf_20_0, gf_20_1, gf_20_2, gf_20_3, gf_20_4, gf_20_5, gf_20_6, gf_20_7, gf_20_8, gf_20_9, gf_20_10, gf_20_11, ok_20_11, gf_20_12, ok_20_12, gf_20_13, ok_20_13, gf_20_14, ok_20_14, gf_20_15, ok_20_15, jc_83, gf_83_0, ok_83_0, gf_83_1, ok_83_1, ct_s, ct_n, ↓bI_01, bI_eq0, bI_eq1, nI_10, nI_01, dec_f, dec_t, if_n, eq_self, true_or, or_true, if_true, if_false, reduceIte]
  exact h3 S d n Q
end Before
