/-! ===== play, first: the calls ===== -/
section Play10
variable {M : ax_M} {N : ax_L} {A : ax_A0} {T s0 t i : Nat} {v : ax_V} {x y : Int32}
theorem lop0 (hW : WF A) (hT : t + 1 = T) (h5 : T ≤ 5) (h01 : s0 ≤ 1) (hok : vok A 0 v) {o : Int32} : ∀ (c i : Nat), i + c = 9 → ∀ (M : ax_M) (y4 y5 : Value), M 85 = A → frm M 0 v → cur M v → M 94 0 = nI i → M 95 0 = bs s0 v.2.2 (mI A t s0 v i) → M 84 17 = fI A t s0 v o i → ∃ M2, (∀ a, ¬ (90 ≤ a ∧ a ≤ 95) → a ≠ 84 → M2 a = M a) ∧ (∀ j, ¬ (6 ≤ j ∧ j ≤ 9) → j ≠ 17 → M2 84 j = M 84 j) ∧ M2 84 17 = fI A t s0 v o 9 ∧ ∀ (S : ax_S) (d n : Nat) (Q : Option Value → Nat → ax_H → Prop), ax_W (d + 6) 176 11 [.ref 84, .int (nI T), .int (nI s0), .int (nI 0), y4, y5] [] n (hx S M N) Q = Q (some (.int (iI (vV A (t + 1) s0 v)))) n (hx S M2 N) := by
  have b := mI_bd (s := s0) hW (show t ≤ 4 by omega) hok.1 hok.2.1
  have e9 := mI_9 (s := s0) hW (show t ≤ 4 by omega) hok.1 hok.2.1
  have gb := gG_bd hW (t + 1) s0 v.1 v.2.1 hok.1 hok.2.1
  have es : s0 = sd s0 0 := by unfold sd; omega
  intro c
  induction c with
  | zero =>
    intro i hi M y4 y5 hA hf hcu h94 h95 h17
    have e : i = 9 := by omega
    subst e
    rw [e9] at h95
    have e95 : M 95 0 = iI (vV A (t + 1) s0 v) := by rw [h95]; unfold bs vV; rw [if_neg (by omega)]
    refine ⟨M, fun _ _ _ => rfl, fun _ _ _ => rfl, h17, fun S d n Q => ?_⟩
    simp only [↓s176_11, ↓s176_12, show ¬ nI 0 < nI 0 by decide, ct_s, ct_n, ↓bI_01, bI_eq0, bI_eq1, nI_10, nI_01, dec_f, dec_t, if_n, eq_self, true_or, or_true, if_true, if_false, reduceIte]
    simp only [↓s176_15, ↓s176_16, ↓s176_19, ↓s176_20, ↓s176_21, ↓s176_23, jc_84, gf_84_0, gf_84_1, gf_84_2, gf_84_3, gf_84_4, ok_84_4, gf_84_5, ok_84_5, gf_84_6, ok_84_6, gf_84_7, ok_84_7, gf_84_8, ok_84_8, gf_84_9, ok_84_9, gf_84_10, gf_84_11, gf_84_12, gf_84_13, gf_84_14, gf_84_15, gf_84_16, gf_84_17, ok_84_17, gf_84_18, gf_84_19, ok_84_19, gf_84_20, ok_84_20, gf_84_21, gf_84_22, gf_84_23, gf_84_24, ok_84_24, gf_84_25, ok_84_25, gf_84_26, ok_84_26, gf_84_27, ok_84_27, gf_84_28, ok_84_28, gf_84_29, gf_84_30, al_94 (show 0 < 6 by decide), h94, show nI 8 < nI 9 by decide, ct_s, ct_n, ↓bI_01, bI_eq0, bI_eq1, nI_10, nI_01, dec_f, dec_t, if_n, eq_self, true_or, or_true, if_true, if_false, reduceIte]
    simp only [↓s176_184, ↓s176_185, ↓s176_188, ↓s176_189, ↓s176_190, jc_84, gf_84_0, gf_84_1, gf_84_2, gf_84_3, gf_84_4, ok_84_4, gf_84_5, ok_84_5, gf_84_6, ok_84_6, gf_84_7, ok_84_7, gf_84_8, ok_84_8, gf_84_9, ok_84_9, gf_84_10, gf_84_11, gf_84_12, gf_84_13, gf_84_14, gf_84_15, gf_84_16, gf_84_17, ok_84_17, gf_84_18, gf_84_19, ok_84_19, gf_84_20, ok_84_20, gf_84_21, gf_84_22, gf_84_23, gf_84_24, ok_84_24, gf_84_25, ok_84_25, gf_84_26, ok_84_26, gf_84_27, ok_84_27, gf_84_28, ok_84_28, gf_84_29, gf_84_30, al_95 (show 0 < 6 by decide), e95, ct_s, ct_n, ↓bI_01, bI_eq0, bI_eq1, nI_10, nI_01, dec_f, dec_t, if_n, eq_self, true_or, or_true, if_true, if_false, reduceIte]
  | succ c ih =>
    intro i hi M y4 y5 hA hf hcu h94 h95 h17
    obtain ⟨M3, z4, z5, ⟨f1, f2, f3, f4, f5, f6, f7⟩, f8, f9, g⟩ := tryI (p := 0) hW (SUB_all hW h5 h01 t) (by omega) h5 h01 es hA hf hcu h94 h95 (by omega) hok (b i) y4 y5
    have f7' := f7 rfl
    rw [h17] at f7'
    obtain ⟨M2, k1, k2, k3, k4⟩ := ih (i + 1) (by omega) M3 z4 z5 f5 f1 f2 f3 f4 f7'
    refine ⟨M2, fun a h1 h2 => (k1 a h1 h2).trans (f8 a h1 h2), fun j h1 h2 => (k2 j h1 h2).trans (f9 j h1 h2), k3, fun S d n Q => ?_⟩
    have g' := g S d n Q
    simp only [↓s176_11, ↓s176_12, show ¬ nI 0 < nI 0 by decide, ct_s, ct_n, ↓bI_01, bI_eq0, bI_eq1, nI_10, nI_01, dec_f, dec_t, if_n, eq_self, true_or, or_true, if_true, if_false, reduceIte]
    simp only [↓s176_15, ↓s176_16, ↓s176_19, ↓s176_20, ↓s176_21, ↓s176_23, jc_84, gf_84_0, gf_84_1, gf_84_2, gf_84_3, gf_84_4, ok_84_4, gf_84_5, ok_84_5, gf_84_6, ok_84_6, gf_84_7, ok_84_7, gf_84_8, ok_84_8, gf_84_9, ok_84_9, gf_84_10, gf_84_11, gf_84_12, gf_84_13, gf_84_14, gf_84_15, gf_84_16, gf_84_17, ok_84_17, gf_84_18, gf_84_19, ok_84_19, gf_84_20, ok_84_20, gf_84_21, gf_84_22, gf_84_23, gf_84_24, ok_84_24, gf_84_25, ok_84_25, gf_84_26, ok_84_26, gf_84_27, ok_84_27, gf_84_28, ok_84_28, gf_84_29, gf_84_30, al_94 (show 0 < 6 by decide), h94, ct_s, ct_n, ↓bI_01, bI_eq0, bI_eq1, nI_10, nI_01, dec_f, dec_t, if_n, eq_self, true_or, or_true, if_true, if_false, reduceIte]
    rw [if_neg (nI_nlt (a := 8) (b := i) (by omega) (by omega))]
    exact g'.trans (k4 S d n Q)
theorem fI_9 (hW : WF A) {s : Nat} {o : Int32} (ht : t ≤ 4) (hv : v.1 < 256) (hl : ∀ j, v.2.1 = some j → j < ndA A) : fI A t s v o 9 = nI (pE A t s v.1 v.2.1).2 := by
  have n8 := hW.1.2
  have h := fI_pO (o := o) (s := s) hW ht hv hl 8 (by omega)
  have hm := mI_pO (t := t) (v := v) hW (s := s) 8 (by omega)
  have gb := gG_bd hW t (1 - s) v.1 v.2.1 hv hl
  rw [show min 8 (ndA A) = ndA A by omega] at h hm
  have ec : cdd A t s v 8 = some (- gG A t (1 - s) v.1 v.2.1) := by unfold cdd; rw [if_pos rfl]
  show nf (mI A t s v 8) (fI A t s v o 8) 8 (cdd A t s v 8) = _
  rw [ec]
  unfold pE
  by_cases z : mI A t s v 8 < - gG A t (1 - s) v.1 v.2.1
  · rw [show nf (mI A t s v 8) (fI A t s v o 8) 8 (some (- gG A t (1 - s) v.1 v.2.1)) = nI 8 from if_pos z]
    rw [hm] at z
    rw [if_pos z]
  · rw [show nf (mI A t s v 8) (fI A t s v o 8) 8 (some (- gG A t (1 - s) v.1 v.2.1)) = fI A t s v o 8 from if_neg z]
    have h2 := h.resolve_left (by omega)
    rw [hm] at z
    rw [if_neg z]
    exact h2
theorem c176 (hA : M 85 = A) (hW : WF A) (ht : t ≤ 4) (h01 : s0 ≤ 1) : ∃ M2, sc M M2 ∧ M2 84 17 = nI (pE A t s0 (nowA A).1 (nowA A).2.1).2 ∧ ∀ (S : ax_S) (d n : Nat) (Q : Option Value → Nat → ax_H → Prop), ax_W (d + 6) 176 0 [.ref 84, .int (nI (t + 1)), .int (nI s0), ax_dm, ax_dm, ax_dm] [] n (hx S M N) Q = Q (some (.int (iI (vV A (t + 1) s0 (nowA A))))) n (hx S M2 N) := by
  obtain ⟨v1, v2, v3⟩ := nowA_ok hW
  have c8 := hW.2.2.1.2
  have lb := hW.2.2.2.2.2.1
  have hok : vok A 0 (nowA A) := ⟨v1, v3, by show -(300 + 24 * ((0 : Nat) : Int)) ≤ leA A; omega, by show leA A ≤ 300 + 24 * ((0 : Nat) : Int); omega⟩
  have hA1 : ltM (rvM M (nowA A)) 0 85 = A := by rw [lt_o (by omega), rvM_85]; exact hA
  obtain ⟨M2, k1, k2, k3, k4⟩ := lop0 (N := N) (T := t + 1) (s0 := s0) (o := M 84 17) hW rfl (by omega) h01 hok 9 0 (by omega) (ltM (rvM M (nowA A)) 0) ax_dm ax_dm hA1 (lt_frm rv_cur) (lt_cur rv_cur) lt_94 lt_95 (by rw [lt_o (by omega), rvM_j (by decide) (by decide) (by decide) (by decide)]; rfl)
  refine ⟨M2, ⟨fun a ha => ?_, ?_⟩, ?_, fun S d n Q => ?_⟩
  · rw [k1 a (by omega) (by omega), lt_o (by omega), rvM_o (by omega)]
  · rw [k2 24 (by omega) (by omega), lt_o (by omega), rvM_j (by decide) (by decide) (by decide) (by decide)]
  · rw [k3]; exact fI_9 hW ht v1 v3
  · simp only [↓s176_0, ↓s176_1, ↓s176_2, ↓s176_3, ↓s176_6, ↓s176_7, ↓s176_8, jc_84, gf_84_0, gf_84_1, gf_84_2, gf_84_3, gf_84_4, ok_84_4, gf_84_5, ok_84_5, gf_84_6, ok_84_6, gf_84_7, ok_84_7, gf_84_8, ok_84_8, gf_84_9, ok_84_9, gf_84_10, gf_84_11, gf_84_12, gf_84_13, gf_84_14, gf_84_15, gf_84_16, gf_84_17, ok_84_17, gf_84_18, gf_84_19, ok_84_19, gf_84_20, ok_84_20, gf_84_21, gf_84_22, gf_84_23, gf_84_24, ok_84_24, gf_84_25, ok_84_25, gf_84_26, ok_84_26, gf_84_27, ok_84_27, gf_84_28, ok_84_28, gf_84_29, gf_84_30, ↓c151 hA hW, ↓c173 (show 0 < 6 by decide), ct_s, ct_n, ↓bI_01, bI_eq0, bI_eq1, nI_10, nI_01, dec_f, dec_t, if_n, eq_self, true_or, or_true, if_true, if_false, reduceIte]
    exact k4 S d n Q
end Play10
