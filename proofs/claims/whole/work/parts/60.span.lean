/-! ===== readings gone through ===== -/
section Span
variable {M M0 : ax_M} {N : ax_L} {A : ax_A0} {x y : Int32} {r : Nat}
def rdS (A : ax_A0) (r : Nat) : Nat := tn (A (115 + 11 * r))
def rdV (A : ax_A0) (r : Nat) : Nat := tn (A (116 + 11 * r))
def rdM (A : ax_A0) (r : Nat) : Nat := tn (A (117 + 11 * r))
def rdF (A : ax_A0) (r i : Nat) : Nat := tn (A (118 + 11 * r + i))
def v00 : ax_V := (0, none, 0)
/-- how far the menu of reading r turns the judge -/
def rT (A : ax_A0) (r : Nat) : Int := gL A (rdF A r) v00 (rdS A r) 0 (rdM A r)
theorem rd_s (hW : WF A) (hr : r < nrA A) : A (115 + 11 * r) = nI (rdS A r) ∧ rdS A r ≤ 1 := by
  unfold rdS
  rcases (hW.r.2 r hr).1 with e | e
  · rw [e, tn_nI (by omega)]; exact ⟨rfl, by omega⟩
  · rw [e, tn_nI (by omega)]; exact ⟨rfl, by omega⟩
theorem rd_v (hW : WF A) (hr : r < nrA A) : A (116 + 11 * r) = nI (rdV A r) ∧ rdV A r ≤ 2 := (hW.r.2 r hr).2.1
theorem rd_m (hW : WF A) (hr : r < nrA A) : A (117 + 11 * r) = nI (rdM A r) ∧ rdM A r ≤ 8 := (hW.r.2 r hr).2.2.1
theorem rd_f (hW : WF A) (hr : r < nrA A) {i : Nat} (hi : i < rdM A r) : A (118 + 11 * r + i) = nI (rdF A r i) ∧ rdF A r i < ndA A := (hW.r.2 r hr).2.2.2 i hi
theorem rd_cell (hC : RC M 21 A) (hW : WF A) (hr : r < nrA A) {w : Nat} (hw : w < 3 + rdM A r) : rcell M 30 11 (nI r) (nI w) = A (115 + 11 * r + w) := by
  have r6 := (rc_nr hC hW).2
  have m8 := (rd_m hW hr).2
  rw [rcell_in (rc_nr hC hW).1 (by omega) hr (by omega) (by omega), show r * 11 + w = 11 * r + w by omega]
  exact hC.pr.2 r w hr hw
theorem l75 (hC : RC M 21 A) (hW : WF A) (hr : r < nrA A) {g : Nat → Int32} {d n : Nat} {S : ax_S} {Q : Option Value → Nat → ax_H → Prop} : ∀ (c i : Nat), i + c = rdM A r → ax_W (d + 2) 75 10 [.ref 73, .int (nI r), .int (nI i)] [] n (hx S (tsM M i (rdF A r) g 0) N) Q = ax_W (d + 2) 75 61 [.ref 73, .int (nI r), .int (nI (rdM A r))] [] n (hx S (tsM M (rdM A r) (rdF A r) g 0) N) Q := by
  have r6 := hW.2.2.2.2.1.2
  have m8 := (rd_m hW hr).2
  intro c
  induction c with
  | zero =>
    intro i hi
    have hC2 := RC_ts (m := i) (f := rdF A r) (g := g) (k := 0) hC
    have e : i = rdM A r := by omega
    simp only [↓s75_10, ↓s75_11, ↓s75_12, ↓s75_15, ↓s75_18, ↓s75_19, ↓s75_20, ↓s75_23, jc_73, gf_73_0, gf_73_1, gf_73_2, gf_73_3, ok_73_3, jc_21, gf_21_0, gf_21_1, gf_21_2, gf_21_3, gf_21_4, gf_21_5, ok_21_5, gf_21_6, ok_21_6, jc_30, gf_30_0, gf_30_1, gf_30_2, gf_30_3, ok_30_3, ↓c54 h30 (cap30 hC2 hW), rd_cell hC2 hW hr (show 2 < 3 + rdM A r by omega), show 115 + 11 * r + 2 = 117 + 11 * r by omega, (rd_m hW hr).1, ct_s, ct_n, ↓bI_01, bI_eq0, bI_eq1, nI_10, nI_01, dec_f, dec_t, if_n, eq_self, true_or, or_true, if_true, if_false, reduceIte]
    rw [e, if_pos (nI_le (a := rdM A r) (b := rdM A r) (by omega) (by omega))]
  | succ c ih =>
    intro i hi
    have hC2 := RC_ts (m := i) (f := rdF A r) (g := g) (k := 0) hC
    have ih := ih (i + 1) (by omega)
    have q3 : zr (ux (tsM M i (rdF A r) g 0) 74 3 (nI (i + 1))) (74 + 1) (i * 2) 2 74 3 = nI (i + 1) := by rw [zr_a (by decide), ux_s]
    have hC3 : RC (zr (ux (tsM M i (rdF A r) g 0) 74 3 (nI (i + 1))) (74 + 1) (i * 2) 2) 21 A := RC_keep (fun b _ _ => by rw [zr_a (by omega), ux_f (by omega)]) hC2
    have q4 : A (115 + 11 * r + (3 + i)) = nI (rdF A r i) := by rw [show 115 + 11 * r + (3 + i) = 118 + 11 * r + i by omega]; exact (rd_f hW hr (by omega)).1
    simp only [↓s75_10, ↓s75_11, ↓s75_12, ↓s75_15, ↓s75_18, ↓s75_19, ↓s75_20, ↓s75_23, jc_73, gf_73_0, gf_73_1, gf_73_2, gf_73_3, ok_73_3, jc_21, gf_21_0, gf_21_1, gf_21_2, gf_21_3, gf_21_4, gf_21_5, ok_21_5, gf_21_6, ok_21_6, jc_30, gf_30_0, gf_30_1, gf_30_2, gf_30_3, ok_30_3, ↓c54 h30 (cap30 hC2 hW), rd_cell hC2 hW hr (show 2 < 3 + rdM A r by omega), show 115 + 11 * r + 2 = 117 + 11 * r by omega, (rd_m hW hr).1, ct_s, ct_n, ↓bI_01, bI_eq0, bI_eq1, nI_10, nI_01, dec_f, dec_t, if_n, eq_self, true_or, or_true, if_true, if_false, reduceIte]
    rw [if_neg (nI_ge (a := i) (b := rdM A r) (by omega) (by omega))]
    simp only [↓s75_26, ↓s75_27, ↓s75_30, ↓s75_31, ↓s75_34, ↓s75_37, ↓s75_38, ↓s75_39, ↓s75_42, ↓s75_45, ↓s75_46, ↓s75_47, ↓s75_48, ↓s75_49, ↓s75_52, ↓s75_55, ↓s75_58, jc_73, gf_73_0, gf_73_1, gf_73_2, gf_73_3, ok_73_3, jc_74, gf_74_0, gf_74_1, gf_74_2, gf_74_3, ok_74_3, jc_21, gf_21_0, gf_21_1, gf_21_2, gf_21_3, gf_21_4, gf_21_5, ok_21_5, gf_21_6, ok_21_6, jc_30, gf_30_0, gf_30_1, gf_30_2, gf_30_3, ok_30_3, ↓c56 h74 (ts_3 (M := M) (m := i) (f := rdF A r) (g := g) (k := 0)) (show i < 8 by omega), nI_add, ↓c54 h30 (cap30 hC3 hW), rd_cell hC3 hW hr (show 3 + i < 3 + rdM A r by omega), q4, ↓c55 h74 (cap_of q3 (show i + 1 ≤ 8 by omega) (by omega)), rput_in q3 (show i + 1 < 2 ^ 31 by omega) (Nat.lt_succ_self i) (by decide) (show 0 < 2 by decide), ct_s, ct_n, ↓bI_01, bI_eq0, bI_eq1, nI_10, nI_01, dec_f, dec_t, if_n, eq_self, true_or, or_true, if_true, if_false, reduceIte]
    rw [← ts_g] at ih
    exact ih
theorem c75 (hC : RC M 21 A) (hW : WF A) (hr : r < nrA A) {d n : Nat} {S : ax_S} {Q : Option Value → Nat → ax_H → Prop} : ax_W (d + 5) 75 0 [.ref 73, .int (nI r), ax_dm] [] n (hx S M N) Q = Q none n (hx S (tgM (ux M 74 3 (nI 0)) A (rdF A r) v00 (rdS A r) (rdM A r) (rdM A r)) N) := by
  have m8 := (rd_m hW hr).2
  have hC1 : RC (ux M 74 3 (nI 0)) 21 A := RC_ux (by decide) hC
  have hC2 : RC (evM (tsM (ux M 74 3 (nI 0)) (rdM A r) (rdF A r) (fun i => iI (gP A (rdF A r) v00 (rdS A r) i)) 0) 76 v00) 21 A := RC_ev (by decide) (RC_ts hC1)
  simp only [↓s75_0, ↓s75_1, ↓s75_4, ↓s75_5, ↓s75_8, ↓s75_9, jc_73, gf_73_0, gf_73_1, gf_73_2, gf_73_3, ok_73_3, jc_74, gf_74_0, gf_74_1, gf_74_2, gf_74_3, ok_74_3, ↓c57z h74, ct_s, ct_n, ↓bI_01, bI_eq0, bI_eq1, nI_10, nI_01, dec_f, dec_t, if_n, eq_self, true_or, or_true, if_true, if_false, reduceIte]
  have h := l75 (d := d + 3) (n := n) (Q := Q) (S := S) (N := N) (g := fun i => iI (gP A (rdF A r) v00 (rdS A r) i)) hC1 hW hr (rdM A r) 0 (by omega)
  rw [ts_z (by rw [ux_s])] at h
  refine h.trans ?_
  simp only [↓s75_61, ↓s75_62, ↓s75_65, jc_73, gf_73_0, gf_73_1, gf_73_2, gf_73_3, ok_73_3, jc_76, gf_76_0, gf_76_1, ok_76_1, gf_76_2, ok_76_2, gf_76_3, ok_76_3, ↓c16 (e := 76) (Or.inr rfl), ct_s, ct_n, ↓bI_01, bI_eq0, bI_eq1, nI_10, nI_01, dec_f, dec_t, if_n, eq_self, true_or, or_true, if_true, if_false, reduceIte]
  rw [show ((0, none, 0) : ax_V) = v00 from rfl]
  simp only [↓s75_68, ↓s75_69, ↓s75_70, ↓s75_73, ↓s75_76, ↓s75_77, ↓s75_78, ↓s75_81, ↓s75_84, jc_73, gf_73_0, gf_73_1, gf_73_2, gf_73_3, ok_73_3, jc_21, gf_21_0, gf_21_1, gf_21_2, gf_21_3, gf_21_4, gf_21_5, ok_21_5, gf_21_6, ok_21_6, jc_30, gf_30_0, gf_30_1, gf_30_2, gf_30_3, ok_30_3, ↓c54 h30 (cap30 hC2 hW), rd_cell hC2 hW hr (show 0 < 3 + rdM A r by omega), Nat.add_zero, (rd_s hW hr).1, ↓c79 hC1 hW (fun i hi => (rd_f hW hr hi).2) m8 (rd_s hW hr).2 (show v00.1 < 256 by decide) (fun j hj => by cases hj), ct_s, ct_n, ↓bI_01, bI_eq0, bI_eq1, nI_10, nI_01, dec_f, dec_t, if_n, eq_self, true_or, or_true, if_true, if_false, reduceIte]
theorem c188 (hA : M 85 = A) (hW : WF A) {p m s : Nat} {f : Nat → Nat} (hp : ∀ i, i < m → p + i < 181 ∧ A (p + i) = nI (f i)) (hf : ∀ i, i < m → f i < ndA A) (hm : m ≤ 8) (hs : s ≤ 1) {d n : Nat} {S : ax_S} {Q : Option Value → Nat → ax_H → Prop} : ax_W (d + 6) 188 0 [.ref 84, .int (nI p), .int (nI m), .int (nI s)] [] n (hx S M N) Q = Q (some (.int (iI (gL A f v00 s 0 m)))) n (hx S (gmM M A f v00 s 0 m) N) := by
  have e : iI (v00.2.2 + gL A f v00 s 0 m) = iI (gL A f v00 s 0 m) := by
    show iI (0 + _) = _
    rw [Int.zero_add]
  simp only [↓s188_0, ↓s188_1, ↓s188_4, ↓s188_5, ↓s188_6, ↓s188_7, ↓s188_8, ↓s188_9, ↓s188_12, ↓s188_13, ↓s188_16, jc_84, gf_84_0, gf_84_1, gf_84_2, gf_84_3, gf_84_4, ok_84_4, gf_84_5, ok_84_5, gf_84_6, ok_84_6, gf_84_7, ok_84_7, gf_84_8, ok_84_8, gf_84_9, ok_84_9, gf_84_10, gf_84_11, gf_84_12, gf_84_13, gf_84_14, gf_84_15, gf_84_16, gf_84_17, ok_84_17, gf_84_18, gf_84_19, ok_84_19, gf_84_20, ok_84_20, gf_84_21, gf_84_22, gf_84_23, gf_84_24, ok_84_24, gf_84_25, ok_84_25, gf_84_26, ok_84_26, gf_84_27, ok_84_27, gf_84_28, ok_84_28, gf_84_29, gf_84_30, ↓c150, show ((0, none, 0) : ax_V) = v00 from rfl, ↓c169 (w := v00) (mk := 0) hA hW hp hf hm hs (by decide) (show v00.1 < 256 by decide) (fun j hj => by cases hj), gm_6, e, ct_s, ct_n, ↓bI_01, bI_eq0, bI_eq1, nI_10, nI_01, dec_f, dec_t, if_n, eq_self, true_or, or_true, if_true, if_false, reduceIte]
theorem l189 (hA0 : M0 85 = A) (hW : WF A) : ∀ (c i : Nat), i + c = nrA A → ∀ M, sc M0 M → (∀ j, j < i → M 97 j = iI (rT A j)) → ∀ y2, ∃ M2, sc M0 M2 ∧ (∀ j, j < nrA A → M2 97 j = iI (rT A j)) ∧ ∀ (S : ax_S) (d n : Nat) (Q : Option Value → Nat → ax_H → Prop), ax_W (d + 7) 189 2 [.ref 84, .int (nI i), y2] [] n (hx S M N) Q = Q none n (hx S M2 N) := by
  have r6 := hW.2.2.2.2.1.2
  intro c
  induction c with
  | zero =>
    intro i hi M hM h97 y2
    have hA := (hM.1 85 (by omega)).trans hA0
    have a5 : M 85 5 = nI (nrA A) := by rw [hA]; exact hW.2.2.2.2.1.1
    have e : i = nrA A := by omega
    refine ⟨M, hM, fun j hj => h97 j (by omega), fun S d n Q => ?_⟩
    simp only [↓s189_2, ↓s189_3, ↓s189_4, ↓s189_7, ↓s189_8, ↓s189_9, jc_84, gf_84_0, gf_84_1, gf_84_2, gf_84_3, gf_84_4, ok_84_4, gf_84_5, ok_84_5, gf_84_6, ok_84_6, gf_84_7, ok_84_7, gf_84_8, ok_84_8, gf_84_9, ok_84_9, gf_84_10, gf_84_11, gf_84_12, gf_84_13, gf_84_14, gf_84_15, gf_84_16, gf_84_17, ok_84_17, gf_84_18, gf_84_19, ok_84_19, gf_84_20, ok_84_20, gf_84_21, gf_84_22, gf_84_23, gf_84_24, ok_84_24, gf_84_25, ok_84_25, gf_84_26, ok_84_26, gf_84_27, ok_84_27, gf_84_28, ok_84_28, gf_84_29, gf_84_30, al_85 (show 5 < 181 by decide), a5, ct_s, ct_n, ↓bI_01, bI_eq0, bI_eq1, nI_10, nI_01, dec_f, dec_t, if_n, eq_self, true_or, or_true, if_true, if_false, reduceIte]
    rw [e, if_pos (nI_le (a := nrA A) (b := nrA A) (by omega) (by omega))]
    simp only [↓s189_53, ct_s, ct_n, ↓bI_01, bI_eq0, bI_eq1, nI_10, nI_01, dec_f, dec_t, if_n, eq_self, true_or, or_true, if_true, if_false, reduceIte]
  | succ c ih =>
    intro i hi M hM h97 y2
    have hA := (hM.1 85 (by omega)).trans hA0
    have a5 : M 85 5 = nI (nrA A) := by rw [hA]; exact hW.2.2.2.2.1.1
    have hr : i < nrA A := by omega
    have m8 := (rd_m hW hr).2
    have q2 : M 85 (115 + 11 * i + 2) = nI (rdM A i) := by rw [hA, show 115 + 11 * i + 2 = 117 + 11 * i by omega]; exact (rd_m hW hr).1
    have q0 : M 85 (115 + 11 * i) = nI (rdS A i) := by rw [hA]; exact (rd_s hW hr).1
    have hM1 : sc M0 (ux (gmM M A (rdF A i) v00 (rdS A i) 0 (rdM A i)) 97 i (iI (rT A i))) := sc_ux (sc_gm hM) (by omega)
    obtain ⟨M2, h2, h4, h3⟩ := ih (i + 1) (by omega) _ hM1 (fun j hj => by
      by_cases e : j = i
      · rw [e, ux_s]
      · rw [ux_j e, gm_o (by decide) (by decide)]; exact h97 j (by omega)) (.int (nI (115 + 11 * i)))
    refine ⟨M2, h2, h4, fun S d n Q => ?_⟩
    have k := fun (d : Nat) (Q : Option Value → Nat → ax_H → Prop) => c188 (d := d) (n := n) (Q := Q) (S := S) (N := N) (p := 115 + 11 * i + 3) (f := rdF A i) (m := rdM A i) hA hW (fun j hj => ⟨by omega, by rw [show 115 + 11 * i + 3 + j = 118 + 11 * i + j by omega]; exact (rd_f hW hr hj).1⟩) (fun j hj => (rd_f hW hr hj).2) m8 (rd_s hW hr).2
    simp only [↓s189_2, ↓s189_3, ↓s189_4, ↓s189_7, ↓s189_8, ↓s189_9, jc_84, gf_84_0, gf_84_1, gf_84_2, gf_84_3, gf_84_4, ok_84_4, gf_84_5, ok_84_5, gf_84_6, ok_84_6, gf_84_7, ok_84_7, gf_84_8, ok_84_8, gf_84_9, ok_84_9, gf_84_10, gf_84_11, gf_84_12, gf_84_13, gf_84_14, gf_84_15, gf_84_16, gf_84_17, ok_84_17, gf_84_18, gf_84_19, ok_84_19, gf_84_20, ok_84_20, gf_84_21, gf_84_22, gf_84_23, gf_84_24, ok_84_24, gf_84_25, ok_84_25, gf_84_26, ok_84_26, gf_84_27, ok_84_27, gf_84_28, ok_84_28, gf_84_29, gf_84_30, al_85 (show 5 < 181 by decide), a5, ct_s, ct_n, ↓bI_01, bI_eq0, bI_eq1, nI_10, nI_01, dec_f, dec_t, if_n, eq_self, true_or, or_true, if_true, if_false, reduceIte]
    rw [if_neg (nI_ge (a := i) (b := nrA A) (by omega) (by omega))]
    simp only [↓s189_12, ↓s189_14, ↓s189_16, ↓s189_17, ↓s189_18, ↓s189_19, ↓s189_20, ↓s189_21, ↓s189_24, ↓s189_25, ↓s189_26, ↓s189_27, ↓s189_28, ↓s189_29, ↓s189_30, ↓s189_33, ↓s189_34, ↓s189_35, ↓s189_36, ↓s189_37, ↓s189_38, ↓s189_41, ↓s189_42, ↓s189_43, ↓s189_46, ↓s189_47, ↓s189_50, jc_84, gf_84_0, gf_84_1, gf_84_2, gf_84_3, gf_84_4, ok_84_4, gf_84_5, ok_84_5, gf_84_6, ok_84_6, gf_84_7, ok_84_7, gf_84_8, ok_84_8, gf_84_9, ok_84_9, gf_84_10, gf_84_11, gf_84_12, gf_84_13, gf_84_14, gf_84_15, gf_84_16, gf_84_17, ok_84_17, gf_84_18, gf_84_19, ok_84_19, gf_84_20, ok_84_20, gf_84_21, gf_84_22, gf_84_23, gf_84_24, ok_84_24, gf_84_25, ok_84_25, gf_84_26, ok_84_26, gf_84_27, ok_84_27, gf_84_28, ok_84_28, gf_84_29, gf_84_30, pk_mul, nI_add, al_85 (show 115 + 11 * i + 2 < 181 by omega), al_85 (show 115 + 11 * i < 181 by omega), q2, q0, ↓k, sa_97 (show i < 6 by omega), ct_s, ct_n, ↓bI_01, bI_eq0, bI_eq1, nI_10, nI_01, dec_f, dec_t, if_n, eq_self, true_or, or_true, if_true, if_false, reduceIte]
    exact h3 S d n Q
theorem c189 (hA : M 85 = A) (hW : WF A) : ∃ M2, sc M M2 ∧ (∀ j, j < nrA A → M2 97 j = iI (rT A j)) ∧ ∀ (S : ax_S) (d n : Nat) (Q : Option Value → Nat → ax_H → Prop), ax_W (d + 7) 189 0 [.ref 84, ax_dm, ax_dm] [] n (hx S M N) Q = Q none n (hx S M2 N) := by
  obtain ⟨M2, h2, h4, h3⟩ := l189 (N := N) hA hW (nrA A) 0 (by omega) M sc_rf (fun j hj => by omega) ax_dm
  refine ⟨M2, h2, h4, fun S d n Q => ?_⟩
  simp only [↓s189_0, ↓s189_1, ct_s, ct_n, ↓bI_01, bI_eq0, bI_eq1, nI_10, nI_01, dec_f, dec_t, if_n, eq_self, true_or, or_true, if_true, if_false, reduceIte]
  exact h3 S d n Q
end Span
