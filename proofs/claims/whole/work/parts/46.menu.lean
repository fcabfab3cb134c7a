/-! ===== type, clear, menu ===== -/
theorem h67 : (67, 150, 1) ∈ rwt := by decide
section Menu
variable {M : ax_M} {N : ax_L} {x y z : Int32} {A : ax_A0}
theorem Inv_tx {M2 : ax_M} (h : ∀ a, (20 ≤ a ∧ a ≤ 31) ∨ (43 ≤ a ∧ a ≤ 66) ∨ (85 ≤ a ∧ a ≤ 88) → M2 a = M a) (ht : TX M2) (hI : Inv M N) : Inv M2 N := by
  obtain ⟨i1, i2, i3, i4, i5, i6⟩ := hI
  refine ⟨?_, by rw [h 85 (by omega)]; exact i2, IM_keep (fun a h1 h2 => h a (by omega)) (h 86 (by omega)) (h 87 (by omega)) i3, ht, ?_, i6⟩
  · rw [h 85 (by omega)]
    exact RC_keepc (fun a h1 h2 => h a (by omega)) i1
  · unfold ST3
    rw [h 20 (by omega), h 88 (by omega)]
    exact i5
theorem p5 (hI : Inv M N) : RPi 86 198 [.ref 20, ax_dm] [.ref 84, ax_dm] M N := by
  obtain ⟨t, t1, t2, t3, t4⟩ := hI.2.2.2.1
  refine ⟨nI t, ux M 67 3 (nI 0), N, ux (ux M 67 3 (nI 0)) 84 24 (nI 0), N, fun S d n Q => ?_, fun S d n Q => ?_, ?_⟩
  · simp only [↓s86_0, ↓s86_1, ↓s86_4, ↓s86_7, ↓s86_8, ↓s86_9, ↓s86_12, ↓s86_13, ↓s86_16, ↓s86_17, jc_20, gf_20_0, gf_20_1, gf_20_2, gf_20_3, gf_20_4, gf_20_5, gf_20_6, gf_20_7, gf_20_8, gf_20_9, gf_20_10, gf_20_11, ok_20_11, gf_20_12, ok_20_12, gf_20_13, ok_20_13, gf_20_14, ok_20_14, gf_20_15, ok_20_15, jc_67, gf_67_0, gf_67_1, gf_67_2, gf_67_3, ok_67_3, ↓c53 h67, t2, ↓c57z h67, ct_s, ct_n, ↓bI_01, bI_eq0, bI_eq1, nI_10, nI_01, dec_f, dec_t, if_n, eq_self, true_or, or_true, if_true, if_false, reduceIte]
  · simp only [↓s198_0, ↓s198_1, ↓s198_4, ↓s198_5, ↓s198_6, ↓s198_7, ↓s198_10, ↓s198_11, jc_84, gf_84_0, gf_84_1, gf_84_2, gf_84_3, gf_84_4, ok_84_4, gf_84_5, ok_84_5, gf_84_6, ok_84_6, gf_84_7, ok_84_7, gf_84_8, ok_84_8, gf_84_9, ok_84_9, gf_84_10, gf_84_11, gf_84_12, gf_84_13, gf_84_14, gf_84_15, gf_84_16, gf_84_17, ok_84_17, gf_84_18, gf_84_19, ok_84_19, gf_84_20, ok_84_20, gf_84_21, gf_84_22, gf_84_23, gf_84_24, ok_84_24, gf_84_25, ok_84_25, gf_84_26, ok_84_26, gf_84_27, ok_84_27, gf_84_28, ok_84_28, gf_84_29, gf_84_30, ux_a (show 84 ≠ 67 by decide), t3, ct_s, ct_n, ↓bI_01, bI_eq0, bI_eq1, nI_10, nI_01, dec_f, dec_t, if_n, eq_self, true_or, or_true, if_true, if_false, reduceIte]
  · refine Inv_tx (fun a h => by rw [ux_f (by omega), ux_f (by omega)]) ⟨0, by omega, by rw [ux_a (by decide), ux_s], by rw [ux_s], fun i hi => by omega⟩ hI
theorem p4 (hI : Inv M N) : RPi 85 197 [.ref 20, .int x, ax_dm] [.ref 84, .int x] M N := by
  obtain ⟨t, t1, t2, t3, t4⟩ := hI.2.2.2.1
  by_cases hb : nI 0 ≤ x ∧ x ≤ nI 127
  · obtain ⟨c, c1, rfl⟩ := rng (by decide) hb
    by_cases hf : t = 150
    · subst hf
      refine ⟨-4, ux M 20 15 (M 20 15 + nI 1), N, rjM M 2, N, fun S d n Q => ?_, fun S d n Q => ?_, Inv_rj (by decide) hI⟩
      · simp only [↓s85_0, ↓s85_1, ↓s85_2, ↓s85_4, ↓s85_7, jc_20, gf_20_0, gf_20_1, gf_20_2, gf_20_3, gf_20_4, gf_20_5, gf_20_6, gf_20_7, gf_20_8, gf_20_9, gf_20_10, gf_20_11, ok_20_11, gf_20_12, ok_20_12, gf_20_13, ok_20_13, gf_20_14, ok_20_14, gf_20_15, ok_20_15, jc_67, gf_67_0, gf_67_1, gf_67_2, gf_67_3, ok_67_3, ↓c121, ct_s, ct_n, ↓bI_01, bI_eq0, bI_eq1, nI_10, nI_01, dec_f, dec_t, if_n, eq_self, true_or, or_true, if_true, if_false, reduceIte]
        rw [if_pos hb]
        simp only [↓s85_19, ↓s85_20, ↓s85_23, ↓s85_26, ↓s85_27, ↓s85_28, ↓s85_29, ↓s85_32, ↓s85_33, ↓s85_35, ↓s85_37, ↓s85_40, jc_20, gf_20_0, gf_20_1, gf_20_2, gf_20_3, gf_20_4, gf_20_5, gf_20_6, gf_20_7, gf_20_8, gf_20_9, gf_20_10, gf_20_11, ok_20_11, gf_20_12, ok_20_12, gf_20_13, ok_20_13, gf_20_14, ok_20_14, gf_20_15, ok_20_15, jc_67, gf_67_0, gf_67_1, gf_67_2, gf_67_3, ok_67_3, ↓c56f h67 t2, ↓c116, refM_f, ct_s, ct_n, ↓bI_01, bI_eq0, bI_eq1, nI_10, nI_01, dec_f, dec_t, if_n, eq_self, true_or, or_true, if_true, if_false, reduceIte]
      · have t3' : ux M 20 15 (M 20 15 + nI 1) 84 24 = nI 150 := by rw [ux_a (by decide)]; exact t3
        simp only [↓s197_0, ↓s197_1, ↓s197_2, ↓s197_3, ↓s197_6, ↓s197_9, jc_84, gf_84_0, gf_84_1, gf_84_2, gf_84_3, gf_84_4, ok_84_4, gf_84_5, ok_84_5, gf_84_6, ok_84_6, gf_84_7, ok_84_7, gf_84_8, ok_84_8, gf_84_9, ok_84_9, gf_84_10, gf_84_11, gf_84_12, gf_84_13, gf_84_14, gf_84_15, gf_84_16, gf_84_17, ok_84_17, gf_84_18, gf_84_19, ok_84_19, gf_84_20, ok_84_20, gf_84_21, gf_84_22, gf_84_23, gf_84_24, ok_84_24, gf_84_25, ok_84_25, gf_84_26, ok_84_26, gf_84_27, ok_84_27, gf_84_28, ok_84_28, gf_84_29, gf_84_30, ↓c135 (l := nI 0) (q := 0) (m := nI 127) (r := 127) rfl rfl, ct_s, ct_n, ↓bI_01, bI_eq0, bI_eq1, nI_10, nI_01, dec_f, dec_t, if_n, eq_self, true_or, or_true, if_true, if_false, reduceIte]
        rw [if_pos hb]
        simp only [↓s197_19, ↓s197_20, ↓s197_23, ↓s197_26, ↓s197_29, ↓s197_30, ↓s197_33, jc_84, gf_84_0, gf_84_1, gf_84_2, gf_84_3, gf_84_4, ok_84_4, gf_84_5, ok_84_5, gf_84_6, ok_84_6, gf_84_7, ok_84_7, gf_84_8, ok_84_8, gf_84_9, ok_84_9, gf_84_10, gf_84_11, gf_84_12, gf_84_13, gf_84_14, gf_84_15, gf_84_16, gf_84_17, ok_84_17, gf_84_18, gf_84_19, ok_84_19, gf_84_20, ok_84_20, gf_84_21, gf_84_22, gf_84_23, gf_84_24, ok_84_24, gf_84_25, ok_84_25, gf_84_26, ok_84_26, gf_84_27, ok_84_27, gf_84_28, ok_84_28, gf_84_29, gf_84_30, t3', ↓c138, ux88, ct_s, ct_n, ↓bI_01, bI_eq0, bI_eq1, nI_10, nI_01, dec_f, dec_t, if_n, eq_self, true_or, or_true, if_true, if_false, reduceIte]
        rfl
    · have ht : t < 150 := by omega
      have e1 : zr (ux M 67 3 (nI (t + 1))) (67 + 1) (t * 1) 1 67 3 = nI (t + 1) := by rw [zr_a (by decide), ux_s]
      generalize hm1 : zr (ux M 67 3 (nI (t + 1))) (67 + 1) (t * 1) 1 = m1 at e1
      have o1 : ∀ a, a ≠ 67 → a ≠ 68 → m1 a = M a := fun a h1 h2 => by rw [← hm1, zr_a h2, ux_f h1]
      refine ⟨nI (t + 1), ux m1 (67 + 1) (t * 1 + 0) (nI c), N, ux (ux (ux m1 (67 + 1) (t * 1 + 0) (nI c)) 99 t (nI c)) 84 24 (nI (t + 1)), N, fun S d n Q => ?_, fun S d n Q => ?_, ?_⟩
      · simp only [↓s85_0, ↓s85_1, ↓s85_2, ↓s85_4, ↓s85_7, jc_20, gf_20_0, gf_20_1, gf_20_2, gf_20_3, gf_20_4, gf_20_5, gf_20_6, gf_20_7, gf_20_8, gf_20_9, gf_20_10, gf_20_11, ok_20_11, gf_20_12, ok_20_12, gf_20_13, ok_20_13, gf_20_14, ok_20_14, gf_20_15, ok_20_15, jc_67, gf_67_0, gf_67_1, gf_67_2, gf_67_3, ok_67_3, ↓c121, ct_s, ct_n, ↓bI_01, bI_eq0, bI_eq1, nI_10, nI_01, dec_f, dec_t, if_n, eq_self, true_or, or_true, if_true, if_false, reduceIte]
        rw [if_pos hb]
        simp only [↓s85_19, ↓s85_20, ↓s85_23, ↓s85_26, ↓s85_27, ↓s85_28, ↓s85_29, jc_20, gf_20_0, gf_20_1, gf_20_2, gf_20_3, gf_20_4, gf_20_5, gf_20_6, gf_20_7, gf_20_8, gf_20_9, gf_20_10, gf_20_11, ok_20_11, gf_20_12, ok_20_12, gf_20_13, ok_20_13, gf_20_14, ok_20_14, gf_20_15, ok_20_15, jc_67, gf_67_0, gf_67_1, gf_67_2, gf_67_3, ok_67_3, ↓c56 h67 t2 ht, hm1, ct_s, ct_n, ↓bI_01, bI_eq0, bI_eq1, nI_10, nI_01, dec_f, dec_t, if_n, eq_self, true_or, or_true, if_true, if_false, reduceIte]
        rw [if_neg (nI_m1 (j := t) (by omega))]
        simp only [↓s85_41, ↓s85_42, ↓s85_45, ↓s85_46, ↓s85_47, ↓s85_48, ↓s85_51, ↓s85_52, ↓s85_55, ↓s85_58, jc_20, gf_20_0, gf_20_1, gf_20_2, gf_20_3, gf_20_4, gf_20_5, gf_20_6, gf_20_7, gf_20_8, gf_20_9, gf_20_10, gf_20_11, ok_20_11, gf_20_12, ok_20_12, gf_20_13, ok_20_13, gf_20_14, ok_20_14, gf_20_15, ok_20_15, jc_67, gf_67_0, gf_67_1, gf_67_2, gf_67_3, ok_67_3, ↓c55 h67 (show tn (m1 67 3) ≤ 150 by rw [e1, tn_nI (by omega)]; omega), rput_in e1 (show t + 1 < 2 ^ 31 by omega) (show t < t + 1 by omega) (by decide) (show 0 < 1 by decide), ↓c53 h67, ux_a (show 67 ≠ 67 + 1 by decide), e1, ct_s, ct_n, ↓bI_01, bI_eq0, bI_eq1, nI_10, nI_01, dec_f, dec_t, if_n, eq_self, true_or, or_true, if_true, if_false, reduceIte]
      · have t3' : ux m1 (67 + 1) (t * 1 + 0) (nI c) 84 24 = nI t := by rw [ux_a (by decide), o1 84 (by decide) (by decide)]; exact t3
        simp only [↓s197_0, ↓s197_1, ↓s197_2, ↓s197_3, ↓s197_6, ↓s197_9, jc_84, gf_84_0, gf_84_1, gf_84_2, gf_84_3, gf_84_4, ok_84_4, gf_84_5, ok_84_5, gf_84_6, ok_84_6, gf_84_7, ok_84_7, gf_84_8, ok_84_8, gf_84_9, ok_84_9, gf_84_10, gf_84_11, gf_84_12, gf_84_13, gf_84_14, gf_84_15, gf_84_16, gf_84_17, ok_84_17, gf_84_18, gf_84_19, ok_84_19, gf_84_20, ok_84_20, gf_84_21, gf_84_22, gf_84_23, gf_84_24, ok_84_24, gf_84_25, ok_84_25, gf_84_26, ok_84_26, gf_84_27, ok_84_27, gf_84_28, ok_84_28, gf_84_29, gf_84_30, ↓c135 (l := nI 0) (q := 0) (m := nI 127) (r := 127) rfl rfl, ct_s, ct_n, ↓bI_01, bI_eq0, bI_eq1, nI_10, nI_01, dec_f, dec_t, if_n, eq_self, true_or, or_true, if_true, if_false, reduceIte]
        rw [if_pos hb]
        simp only [↓s197_19, ↓s197_20, ↓s197_23, ↓s197_26, jc_84, gf_84_0, gf_84_1, gf_84_2, gf_84_3, gf_84_4, ok_84_4, gf_84_5, ok_84_5, gf_84_6, ok_84_6, gf_84_7, ok_84_7, gf_84_8, ok_84_8, gf_84_9, ok_84_9, gf_84_10, gf_84_11, gf_84_12, gf_84_13, gf_84_14, gf_84_15, gf_84_16, gf_84_17, ok_84_17, gf_84_18, gf_84_19, ok_84_19, gf_84_20, ok_84_20, gf_84_21, gf_84_22, gf_84_23, gf_84_24, ok_84_24, gf_84_25, ok_84_25, gf_84_26, ok_84_26, gf_84_27, ok_84_27, gf_84_28, ok_84_28, gf_84_29, gf_84_30, t3', ct_s, ct_n, ↓bI_01, bI_eq0, bI_eq1, nI_10, nI_01, dec_f, dec_t, if_n, eq_self, true_or, or_true, if_true, if_false, reduceIte]
        rw [if_neg (fun q => hf ((nI_eq (a := t) (b := 150) (by omega) (by omega)).mp q))]
        simp only [↓s197_34, ↓s197_35, ↓s197_38, ↓s197_39, ↓s197_42, ↓s197_43, ↓s197_44, ↓s197_45, ↓s197_46, ↓s197_49, ↓s197_50, ↓s197_51, ↓s197_54, ↓s197_55, ↓s197_58, jc_84, gf_84_0, gf_84_1, gf_84_2, gf_84_3, gf_84_4, ok_84_4, gf_84_5, ok_84_5, gf_84_6, ok_84_6, gf_84_7, ok_84_7, gf_84_8, ok_84_8, gf_84_9, ok_84_9, gf_84_10, gf_84_11, gf_84_12, gf_84_13, gf_84_14, gf_84_15, gf_84_16, gf_84_17, ok_84_17, gf_84_18, gf_84_19, ok_84_19, gf_84_20, ok_84_20, gf_84_21, gf_84_22, gf_84_23, gf_84_24, ok_84_24, gf_84_25, ok_84_25, gf_84_26, ok_84_26, gf_84_27, ok_84_27, gf_84_28, ok_84_28, gf_84_29, gf_84_30, t3', sa_99 ht, ux_a (show 84 ≠ 99 by decide), nI_add, ux_s, ct_s, ct_n, ↓bI_01, bI_eq0, bI_eq1, nI_10, nI_01, dec_f, dec_t, if_n, eq_self, true_or, or_true, if_true, if_false, reduceIte]
      · refine Inv_tx (fun a h => by rw [ux_f (by omega), ux_f (by omega), ux_f (by omega), o1 a (by omega) (by omega)]) ⟨t + 1, by omega, ?_, by rw [ux_s], fun i hi => ?_⟩ hI
        · rw [ux_a (by decide), ux_a (by decide), ux_a (by decide), e1]
        · have q68 : ux (ux (ux m1 (67 + 1) (t * 1 + 0) (nI c)) 99 t (nI c)) 84 24 (nI (t + 1)) 68 i = if i = t * 1 + 0 then nI c else m1 68 i := by rw [ux_a (by decide), ux_a (by decide)]; exact uxS
          have q99 : ux (ux (ux m1 (67 + 1) (t * 1 + 0) (nI c)) 99 t (nI c)) 84 24 (nI (t + 1)) 99 i = if i = t then nI c else M 99 i := by rw [ux_a (by decide), uxS, ux_a (by decide), o1 99 (by decide) (by decide)]
          rw [q68, q99]
          by_cases e : i = t
          · rw [if_pos (by omega), if_pos e]
            exact ⟨rfl, c, by omega, rfl⟩
          · rw [if_neg (by omega), if_neg e]
            have h1 := t4 i (by omega)
            refine ⟨?_, h1.2⟩
            rw [← hm1]
            unfold zr
            rw [if_neg (by omega), ux_a (by decide)]
            exact h1.1
  · refine ⟨-2, ux M 20 13 (M 20 13 + nI 1), N, rjM M 0, N, fun S d n Q => ?_, fun S d n Q => ?_, Inv_rj (by decide) hI⟩
    · simp only [↓s85_0, ↓s85_1, ↓s85_2, ↓s85_4, ↓s85_7, ↓s85_10, ↓s85_11, ↓s85_13, ↓s85_15, ↓s85_18, jc_20, gf_20_0, gf_20_1, gf_20_2, gf_20_3, gf_20_4, gf_20_5, gf_20_6, gf_20_7, gf_20_8, gf_20_9, gf_20_10, gf_20_11, ok_20_11, gf_20_12, ok_20_12, gf_20_13, ok_20_13, gf_20_14, ok_20_14, gf_20_15, ok_20_15, jc_67, gf_67_0, gf_67_1, gf_67_2, gf_67_3, ok_67_3, ↓c121, ↓c116, refM_b, ct_s, ct_n, ↓bI_01, bI_eq0, bI_eq1, nI_10, nI_01, dec_f, dec_t, if_n, eq_self, true_or, or_true, if_true, if_false, reduceIte]
      rw [if_neg hb]
    · simp only [↓s197_0, ↓s197_1, ↓s197_2, ↓s197_3, ↓s197_6, ↓s197_9, ↓s197_12, ↓s197_13, ↓s197_15, ↓s197_18, jc_84, gf_84_0, gf_84_1, gf_84_2, gf_84_3, gf_84_4, ok_84_4, gf_84_5, ok_84_5, gf_84_6, ok_84_6, gf_84_7, ok_84_7, gf_84_8, ok_84_8, gf_84_9, ok_84_9, gf_84_10, gf_84_11, gf_84_12, gf_84_13, gf_84_14, gf_84_15, gf_84_16, gf_84_17, ok_84_17, gf_84_18, gf_84_19, ok_84_19, gf_84_20, ok_84_20, gf_84_21, gf_84_22, gf_84_23, gf_84_24, ok_84_24, gf_84_25, ok_84_25, gf_84_26, ok_84_26, gf_84_27, ok_84_27, gf_84_28, ok_84_28, gf_84_29, gf_84_30, ↓c135 (l := nI 0) (q := 0) (m := nI 127) (r := 127) rfl rfl, ↓c136, ux88, ct_s, ct_n, ↓bI_01, bI_eq0, bI_eq1, nI_10, nI_01, dec_f, dec_t, if_n, eq_self, true_or, or_true, if_true, if_false, reduceIte]
      rw [if_neg hb]
      rfl
theorem mn_mono (hW : WF A) {k : Nat} (hk : k < 8) : ∀ (c i : Nat), i + c ≤ nmA A → hasB (mnA A i) k = true → hasB (mnA A (i + c)) k = true := by
  have n8 := hW.1.2
  intro c
  induction c with
  | zero => intro i _ h; exact h
  | succ c ih =>
    intro i hi h
    have h1 := ih i (by omega) h
    have hm := (hW.m.2.1 (i + c) (by omega)).2
    show hasB (addB (mnA A (i + c)) (mdA A (i + c))) k = true
    rw [bt_has2 _ (mnA_lt hW _ (by omega)) _ (by omega) _ hk, h1, Bool.or_true]
theorem l4 {d n : Nat} {Q : Option Value → Nat → ax_H → Prop} {S : ax_S} (hC : RC M 21 A) (hW : WF A) {k : Nat} (hk : k < 8) : ∀ (c i : Nat), i + c = nmA A → hasB (mnA A i) k = false → ax_W (d + 1) 4 2 [.ref 21, .int (nI k), .int (nI i)] [] n (hx S M N) Q = Q (some (.int (bI (hasB (mnA A (nmA A)) k)))) n (hx S M N) := by
  have h8 := (rc_nm hC hW).2
  have n8 := hW.1.2
  intro c
  induction c with
  | zero =>
    intro i hi hf
    simp only [↓s4_2, ↓s4_3, ↓s4_4, ↓s4_7, ↓s4_10, jc_21, gf_21_0, gf_21_1, gf_21_2, gf_21_3, gf_21_4, gf_21_5, ok_21_5, gf_21_6, ok_21_6, jc_28, gf_28_0, gf_28_1, gf_28_2, gf_28_3, ok_28_3, ↓c53 h28, (rc_nm hC hW).1, ct_s, ct_n, ↓bI_01, bI_eq0, bI_eq1, nI_10, nI_01, dec_f, dec_t, if_n, eq_self, true_or, or_true, if_true, if_false, reduceIte]
    rw [if_pos (nI_le (a := nmA A) (b := i) (by omega) (by omega))]
    simp only [↓s4_34, ↓s4_35, ct_s, ct_n, ↓bI_01, bI_eq0, bI_eq1, nI_10, nI_01, dec_f, dec_t, if_n, eq_self, true_or, or_true, if_true, if_false, reduceIte]
    rw [show nmA A = i by omega, hf]
    rfl
  | succ c ih =>
    intro i hi hf
    have hmd := (hW.m.2.1 i (by omega)).2
    simp only [↓s4_2, ↓s4_3, ↓s4_4, ↓s4_7, ↓s4_10, jc_21, gf_21_0, gf_21_1, gf_21_2, gf_21_3, gf_21_4, gf_21_5, ok_21_5, gf_21_6, ok_21_6, jc_28, gf_28_0, gf_28_1, gf_28_2, gf_28_3, ok_28_3, ↓c53 h28, (rc_nm hC hW).1, ct_s, ct_n, ↓bI_01, bI_eq0, bI_eq1, nI_10, nI_01, dec_f, dec_t, if_n, eq_self, true_or, or_true, if_true, if_false, reduceIte]
    rw [if_neg (nI_ge (a := i) (b := nmA A) (by omega) (by omega))]
    simp only [↓s4_13, ↓s4_14, ↓s4_17, ↓s4_18, ↓s4_19, ↓s4_22, ↓s4_23, jc_21, gf_21_0, gf_21_1, gf_21_2, gf_21_3, gf_21_4, gf_21_5, ok_21_5, gf_21_6, ok_21_6, jc_28, gf_28_0, gf_28_1, gf_28_2, gf_28_3, ok_28_3, ↓c54 h28 (cap28 hC hW), rd_menu hC hW (show i < nmA A by omega), ct_s, ct_n, ↓bI_01, bI_eq0, bI_eq1, nI_10, nI_01, dec_f, dec_t, if_n, eq_self, true_or, or_true, if_true, if_false, reduceIte]
    have hb := bt_has2 _ (mnA_lt hW i (by omega)) _ (show mdA A i < 8 by omega) _ hk
    by_cases e : mdA A i = k
    · rw [if_pos (by rw [e])]
      simp only [↓s4_26, ↓s4_27, ct_s, ct_n, ↓bI_01, bI_eq0, bI_eq1, nI_10, nI_01, dec_f, dec_t, if_n, eq_self, true_or, or_true, if_true, if_false, reduceIte]
      have h1 : hasB (mnA A (i + 1)) k = true := by
        show hasB (addB (mnA A i) (mdA A i)) k = true
        rw [hb, e]
        simp
      have h2 := mn_mono hW hk c (i + 1) (by omega) h1
      rw [show nmA A = i + 1 + c by omega, h2]
      rfl
    · rw [if_neg (fun q => e ((nI_eq (by omega) (by omega)).mp q))]
      simp only [↓s4_28, ↓s4_31, nI_add]
      refine ih (i + 1) (by omega) ?_
      show hasB (addB (mnA A i) (mdA A i)) k = false
      rw [hb, hf, Bool.or_false]
      simp [Ne.symm e]
theorem c4 {d n : Nat} {Q : Option Value → Nat → ax_H → Prop} {S : ax_S} (hC : RC M 21 A) (hW : WF A) {k : Nat} (hk : k < 8) : ax_W (d + 1) 4 0 [.ref 21, .int (nI k), ax_dm] [] n (hx S M N) Q = Q (some (.int (bI (hasB (mnA A (nmA A)) k)))) n (hx S M N) := by
  simp only [↓s4_0, ↓s4_1]
  exact l4 hC hW hk (nmA A) 0 (by omega) (by unfold mnA hasB; simp)
theorem l167 {d n : Nat} {Q : Option Value → Nat → ax_H → Prop} {S : ax_S} (hA : M 85 = A) (hW : WF A) {k : Nat} (hk : k < 8) : ∀ (c i : Nat), i + c = nmA A → hasB (mnA A i) k = false → ax_W (d + 1) 167 17 [.ref 84, .int (nI k), .int (nI i)] [] n (hx S M N) Q = if hasB (mnA A (nmA A)) k = true then Q (some (.int (-3))) n (hx S (ux M 88 1 (M 88 1 + nI 1)) N) else ax_W (d + 1) 167 51 [.ref 84, .int (nI k), .int (nI (nmA A))] [] n (hx S M N) Q := by
  have h8 := hW.2.2.2.1.2
  have n8 := hW.1.2
  have a4 := hW.2.2.2.1.1
  intro c
  induction c with
  | zero =>
    intro i hi hf
    simp only [↓s167_17, ↓s167_18, ↓s167_19, ↓s167_22, ↓s167_23, ↓s167_24, jc_84, gf_84_0, gf_84_1, gf_84_2, gf_84_3, gf_84_4, ok_84_4, gf_84_5, ok_84_5, gf_84_6, ok_84_6, gf_84_7, ok_84_7, gf_84_8, ok_84_8, gf_84_9, ok_84_9, gf_84_10, gf_84_11, gf_84_12, gf_84_13, gf_84_14, gf_84_15, gf_84_16, gf_84_17, ok_84_17, gf_84_18, gf_84_19, ok_84_19, gf_84_20, ok_84_20, gf_84_21, gf_84_22, gf_84_23, gf_84_24, ok_84_24, gf_84_25, ok_84_25, gf_84_26, ok_84_26, gf_84_27, ok_84_27, gf_84_28, ok_84_28, gf_84_29, gf_84_30, al_85 (show 4 < 181 by decide), hA, a4, ct_s, ct_n, ↓bI_01, bI_eq0, bI_eq1, nI_10, nI_01, dec_f, dec_t, if_n, eq_self, true_or, or_true, if_true, if_false, reduceIte]
    rw [if_pos (nI_le (a := nmA A) (b := i) (by omega) (by omega))]
    have e : nmA A = i := by omega
    rw [e, hf, if_neg (by decide)]
  | succ c ih =>
    intro i hi hf
    have hmd := hW.m.2.1 i (by omega)
    simp only [↓s167_17, ↓s167_18, ↓s167_19, ↓s167_22, ↓s167_23, ↓s167_24, jc_84, gf_84_0, gf_84_1, gf_84_2, gf_84_3, gf_84_4, ok_84_4, gf_84_5, ok_84_5, gf_84_6, ok_84_6, gf_84_7, ok_84_7, gf_84_8, ok_84_8, gf_84_9, ok_84_9, gf_84_10, gf_84_11, gf_84_12, gf_84_13, gf_84_14, gf_84_15, gf_84_16, gf_84_17, ok_84_17, gf_84_18, gf_84_19, ok_84_19, gf_84_20, ok_84_20, gf_84_21, gf_84_22, gf_84_23, gf_84_24, ok_84_24, gf_84_25, ok_84_25, gf_84_26, ok_84_26, gf_84_27, ok_84_27, gf_84_28, ok_84_28, gf_84_29, gf_84_30, al_85 (show 4 < 181 by decide), hA, a4, ct_s, ct_n, ↓bI_01, bI_eq0, bI_eq1, nI_10, nI_01, dec_f, dec_t, if_n, eq_self, true_or, or_true, if_true, if_false, reduceIte]
    rw [if_neg (nI_ge (a := i) (b := nmA A) (by omega) (by omega))]
    simp only [↓s167_27, ↓s167_28, ↓s167_31, ↓s167_33, ↓s167_34, ↓s167_35, ↓s167_36, ↓s167_37, jc_84, gf_84_0, gf_84_1, gf_84_2, gf_84_3, gf_84_4, ok_84_4, gf_84_5, ok_84_5, gf_84_6, ok_84_6, gf_84_7, ok_84_7, gf_84_8, ok_84_8, gf_84_9, ok_84_9, gf_84_10, gf_84_11, gf_84_12, gf_84_13, gf_84_14, gf_84_15, gf_84_16, gf_84_17, ok_84_17, gf_84_18, gf_84_19, ok_84_19, gf_84_20, ok_84_20, gf_84_21, gf_84_22, gf_84_23, gf_84_24, ok_84_24, gf_84_25, ok_84_25, gf_84_26, ok_84_26, gf_84_27, ok_84_27, gf_84_28, ok_84_28, gf_84_29, gf_84_30, nI_add, al_85 (show 107 + i < 181 by omega), hA, hmd.1, ct_s, ct_n, ↓bI_01, bI_eq0, bI_eq1, nI_10, nI_01, dec_f, dec_t, if_n, eq_self, true_or, or_true, if_true, if_false, reduceIte]
    have hb := bt_has2 _ (mnA_lt hW i (by omega)) _ (show mdA A i < 8 by omega) _ hk
    by_cases e : mdA A i = k
    · rw [if_pos (by rw [e])]
      simp only [↓s167_40, ↓s167_41, ↓s167_44, jc_84, gf_84_0, gf_84_1, gf_84_2, gf_84_3, gf_84_4, ok_84_4, gf_84_5, ok_84_5, gf_84_6, ok_84_6, gf_84_7, ok_84_7, gf_84_8, ok_84_8, gf_84_9, ok_84_9, gf_84_10, gf_84_11, gf_84_12, gf_84_13, gf_84_14, gf_84_15, gf_84_16, gf_84_17, ok_84_17, gf_84_18, gf_84_19, ok_84_19, gf_84_20, ok_84_20, gf_84_21, gf_84_22, gf_84_23, gf_84_24, ok_84_24, gf_84_25, ok_84_25, gf_84_26, ok_84_26, gf_84_27, ok_84_27, gf_84_28, ok_84_28, gf_84_29, gf_84_30, ↓c137, ct_s, ct_n, ↓bI_01, bI_eq0, bI_eq1, nI_10, nI_01, dec_f, dec_t, if_n, eq_self, true_or, or_true, if_true, if_false, reduceIte]
      have h1 : hasB (mnA A (i + 1)) k = true := by
        show hasB (addB (mnA A i) (mdA A i)) k = true
        rw [hb, e]
        simp
      have h2 := mn_mono hW hk c (i + 1) (by omega) h1
      rw [show i + 1 + c = nmA A by omega] at h2
      rw [if_pos h2]
    · rw [if_neg (fun q => e ((nI_eq (by omega) (by omega)).mp q))]
      simp only [↓s167_45, ↓s167_48, nI_add]
      refine ih (i + 1) (by omega) ?_
      show hasB (addB (mnA A i) (mdA A i)) k = false
      rw [hb, hf, Bool.or_false]
      simp [Ne.symm e]
def mnuA (A : ax_A0) (k : Nat) : ax_A0 := fun j => if j = 4 then nI (nmA A + 1) else if j = 107 + nmA A then nI k else A j
theorem mnuA_o {k j : Nat} (h2 : j ≠ 4) (h3 : j ≠ 107 + nmA A) : mnuA A k j = A j := by unfold mnuA; rw [if_neg h2, if_neg h3]
theorem mnuA_wf (hW : WF A) {k : Nat} (hk : k < ndA A) (hb : hasB (mnA A (nmA A)) k = false) : nmA A ≤ 7 ∧ WF (mnuA A k) := by
  have n8 := hW.1.2
  have h8 := hW.2.2.2.1.2
  have hp := hW.m.2.2 _ (Nat.le_refl (nmA A))
  have hv := mnA_lt hW _ (Nat.le_refl (nmA A))
  have h7 : nmA A ≤ 7 := by rw [← hp]; exact bt_pop2 _ hv _ (by omega) hb
  have e0 : ndA (mnuA A k) = ndA A := by unfold ndA; rw [mnuA_o (by decide) (by omega)]
  have e3 : mnuA A k 4 = nI (nmA A + 1) := by unfold mnuA; rw [if_pos rfl]
  have en : nmA (mnuA A k) = nmA A + 1 := by unfold nmA; rw [show mnuA A k 4 = nI (nmA A + 1) from e3]; exact tn_nI (by omega)
  obtain ⟨w0, w1, w2⟩ := hW.m
  have x1 : mnuA A k (107 + nmA A) = nI k := by unfold mnuA; rw [if_neg (by omega), if_pos rfl]
  refine ⟨h7, WF_mk (WFd_eq (mnuA_o (by decide) (by omega)) (mnuA_o (by decide) (by omega)) (fun i _ _ => mnuA_o (by omega) (by omega)) hW.d) (WFb_eq (fun i _ _ => mnuA_o (by omega) (by omega)) hW.b) (WFc_eq (Nat.le_of_eq e0.symm) (mnuA_o (by decide) (by omega)) (mnuA_o (by decide) (by omega)) (fun i _ _ => mnuA_o (by omega) (by omega)) hW.c) ⟨?_, fun i hi => ?_, fun i hi => ?_⟩ (WFr_eq (Nat.le_of_eq e0.symm) (mnuA_o (by decide) (by omega)) (fun i _ _ => mnuA_o (by omega) (by omega)) hW.r)⟩
  · rw [en]; exact ⟨e3, by omega⟩
  · rw [en] at hi
    rw [e0]
    by_cases e : i < nmA A
    · unfold mdA
      rw [mnuA_o (by omega) (by omega)]
      exact w1 i e
    · have e : i = nmA A := by omega
      subst e
      unfold mdA
      rw [x1, tn_nI (by omega)]
      exact ⟨rfl, hk⟩
  · rw [en] at hi
    by_cases e : i ≤ nmA A
    · rw [mnA_eq i (fun q hq => mnuA_o (by omega) (by omega))]
      exact w2 i e
    · have e : i = nmA A + 1 := by omega
      subst e
      show pop (addB (mnA (mnuA A k) (nmA A)) (tn (mnuA A k (107 + nmA A)))) = _
      rw [mnA_eq (nmA A) (fun q hq => mnuA_o (by omega) (by omega)), x1, tn_nI (by omega), bt_pop _ hv _ (by omega) hb, hp]
set_option maxHeartbeats 1000000 in
theorem p13 (hI : Inv M N) : RPi 94 167 [.ref 20, .int x] [.ref 84, .int x, ax_dm] M N := by
  have hC := hI.1
  have hW := hI.2.1
  have n8 := hW.1.2
  have a0 : M 85 0 = nI (ndA (M 85)) := hW.1.1
  by_cases hb : nI 0 ≤ x ∧ x ≤ nI (ndA (M 85)) - nI 1
  · obtain ⟨k, k2, rfl⟩ := rngP (by omega) hb
    cases hm : hasB (mnA (M 85) (nmA (M 85))) k with
    | true =>
      refine ⟨-3, ux M 20 14 (M 20 14 + nI 1), N, rjM M 1, N, fun S d n Q => ?_, fun S d n Q => ?_, Inv_rj (by decide) hI⟩
      · simp only [↓s94_0, ↓s94_1, ↓s94_4, ↓s94_5, ↓s94_8, jc_20, gf_20_0, gf_20_1, gf_20_2, gf_20_3, gf_20_4, gf_20_5, gf_20_6, gf_20_7, gf_20_8, gf_20_9, gf_20_10, gf_20_11, ok_20_11, gf_20_12, ok_20_12, gf_20_13, ok_20_13, gf_20_14, ok_20_14, gf_20_15, ok_20_15, jc_21, gf_21_0, gf_21_1, gf_21_2, gf_21_3, gf_21_4, gf_21_5, ok_21_5, gf_21_6, ok_21_6, ↓c3 hC hW, ct_s, ct_n, ↓bI_01, bI_eq0, bI_eq1, nI_10, nI_01, dec_f, dec_t, if_n, eq_self, true_or, or_true, if_true, if_false, reduceIte]
        rw [if_pos hb]
        simp only [↓s94_20, ↓s94_21, ↓s94_24, ↓s94_25, ↓s94_28, ↓s94_31, ↓s94_32, ↓s94_34, ↓s94_36, ↓s94_39, jc_20, gf_20_0, gf_20_1, gf_20_2, gf_20_3, gf_20_4, gf_20_5, gf_20_6, gf_20_7, gf_20_8, gf_20_9, gf_20_10, gf_20_11, ok_20_11, gf_20_12, ok_20_12, gf_20_13, ok_20_13, gf_20_14, ok_20_14, gf_20_15, ok_20_15, jc_21, gf_21_0, gf_21_1, gf_21_2, gf_21_3, gf_21_4, gf_21_5, ok_21_5, gf_21_6, ok_21_6, ↓c4 hC hW (show k < 8 by omega), hm, ↓c116, refM_n, ct_s, ct_n, ↓bI_01, bI_eq0, bI_eq1, nI_10, nI_01, dec_f, dec_t, if_n, eq_self, true_or, or_true, if_true, if_false, reduceIte, Bool.true_eq_false]
      · have hA : ux M 20 14 (M 20 14 + nI 1) 85 = M 85 := ux_f (by decide)
        have a0' : ux M 20 14 (M 20 14 + nI 1) 85 0 = nI (ndA (M 85)) := by rw [hA]; exact a0
        simp only [↓s167_0, ↓s167_1, ↓s167_2, ↓s167_5, jc_84, gf_84_0, gf_84_1, gf_84_2, gf_84_3, gf_84_4, ok_84_4, gf_84_5, ok_84_5, gf_84_6, ok_84_6, gf_84_7, ok_84_7, gf_84_8, ok_84_8, gf_84_9, ok_84_9, gf_84_10, gf_84_11, gf_84_12, gf_84_13, gf_84_14, gf_84_15, gf_84_16, gf_84_17, ok_84_17, gf_84_18, gf_84_19, ok_84_19, gf_84_20, ok_84_20, gf_84_21, gf_84_22, gf_84_23, gf_84_24, ok_84_24, gf_84_25, ok_84_25, gf_84_26, ok_84_26, gf_84_27, ok_84_27, gf_84_28, ok_84_28, gf_84_29, gf_84_30, ↓c141, a0', ct_s, ct_n, ↓bI_01, bI_eq0, bI_eq1, nI_10, nI_01, dec_f, dec_t, if_n, eq_self, true_or, or_true, if_true, if_false, reduceIte]
        rw [if_pos hb]
        simp only [↓s167_15, ↓s167_16]
        rw [l167 hA hW (by omega) (nmA (M 85)) 0 (by omega) (by unfold mnA hasB; simp), if_pos hm, ux88]
        rfl
    | false =>
      obtain ⟨h7, hW2⟩ := mnuA_wf hW k2 hm
      have m3 := (rc_nm hC hW).1
      have a4 : M 85 4 = nI (nmA (M 85)) := hW.2.2.2.1.1
      have e1 : zr (ux M 28 3 (nI (nmA (M 85) + 1))) (28 + 1) (nmA (M 85) * 1) 1 28 3 = nI (nmA (M 85) + 1) := by rw [zr_a (by decide), ux_s]
      generalize hm1 : zr (ux M 28 3 (nI (nmA (M 85) + 1))) (28 + 1) (nmA (M 85) * 1) 1 = m1 at e1
      have o1 : ∀ a, a ≠ 28 → a ≠ 29 → m1 a = M a := fun a h1 h2 => by rw [← hm1, zr_a h2, ux_f h1]
      generalize hm2 : ux m1 (28 + 1) (nmA (M 85) * 1 + 0) (nI k) = m2
      have o2 : ∀ a, a ≠ 28 → a ≠ 29 → m2 a = M a := fun a h1 h2 => by rw [← hm2, ux_f h2, o1 a h1 h2]
      have e2 : m2 28 3 = nI (nmA (M 85) + 1) := by rw [← hm2, ux_a (by decide), e1]
      have hA : m2 85 = M 85 := o2 85 (by decide) (by decide)
      refine ⟨nI (nmA (M 85) + 1), m2, N, ux (ux m2 85 (107 + nmA (M 85)) (nI k)) 85 4 (nI (nmA (M 85) + 1)), N, fun S d n Q => ?_, fun S d n Q => ?_, ?_⟩
      · simp only [↓s94_0, ↓s94_1, ↓s94_4, ↓s94_5, ↓s94_8, jc_20, gf_20_0, gf_20_1, gf_20_2, gf_20_3, gf_20_4, gf_20_5, gf_20_6, gf_20_7, gf_20_8, gf_20_9, gf_20_10, gf_20_11, ok_20_11, gf_20_12, ok_20_12, gf_20_13, ok_20_13, gf_20_14, ok_20_14, gf_20_15, ok_20_15, jc_21, gf_21_0, gf_21_1, gf_21_2, gf_21_3, gf_21_4, gf_21_5, ok_21_5, gf_21_6, ok_21_6, ↓c3 hC hW, ct_s, ct_n, ↓bI_01, bI_eq0, bI_eq1, nI_10, nI_01, dec_f, dec_t, if_n, eq_self, true_or, or_true, if_true, if_false, reduceIte]
        rw [if_pos hb]
        simp only [↓s94_20, ↓s94_21, ↓s94_24, ↓s94_25, ↓s94_28, ↓s94_31, ↓s94_32, ↓s94_34, ↓s94_36, ↓s94_39, ↓s94_40, ↓s94_41, ↓s94_44, ↓s94_47, ↓s94_48, ↓s94_51, ↓s94_54, ↓s94_57, ↓s94_58, ↓s94_59, ↓s94_62, ↓s94_63, ↓s94_66, ↓s94_69, ↓s94_72, jc_20, gf_20_0, gf_20_1, gf_20_2, gf_20_3, gf_20_4, gf_20_5, gf_20_6, gf_20_7, gf_20_8, gf_20_9, gf_20_10, gf_20_11, ok_20_11, gf_20_12, ok_20_12, gf_20_13, ok_20_13, gf_20_14, ok_20_14, gf_20_15, ok_20_15, jc_21, gf_21_0, gf_21_1, gf_21_2, gf_21_3, gf_21_4, gf_21_5, ok_21_5, gf_21_6, ok_21_6, jc_28, gf_28_0, gf_28_1, gf_28_2, gf_28_3, ok_28_3, ↓c4 hC hW (show k < 8 by omega), hm, ↓c56 h28 m3 (show nmA (M 85) < 8 by omega), hm1, ↓c55 h28 (show tn (m1 28 3) ≤ 8 by rw [e1, tn_nI (by omega)]; omega), rput_in e1 (show nmA (M 85) + 1 < 2 ^ 31 by omega) (show nmA (M 85) < nmA (M 85) + 1 by omega) (by decide) (show 0 < 1 by decide), hm2, ↓c53 h28, e2, ct_s, ct_n, ↓bI_01, bI_eq0, bI_eq1, nI_10, nI_01, dec_f, dec_t, if_n, eq_self, true_or, or_true, if_true, if_false, reduceIte]
      · have a0' : m2 85 0 = nI (ndA (M 85)) := by rw [hA]; exact a0
        have a4' : m2 85 4 = nI (nmA (M 85)) := by rw [hA]; exact a4
        simp only [↓s167_0, ↓s167_1, ↓s167_2, ↓s167_5, jc_84, gf_84_0, gf_84_1, gf_84_2, gf_84_3, gf_84_4, ok_84_4, gf_84_5, ok_84_5, gf_84_6, ok_84_6, gf_84_7, ok_84_7, gf_84_8, ok_84_8, gf_84_9, ok_84_9, gf_84_10, gf_84_11, gf_84_12, gf_84_13, gf_84_14, gf_84_15, gf_84_16, gf_84_17, ok_84_17, gf_84_18, gf_84_19, ok_84_19, gf_84_20, ok_84_20, gf_84_21, gf_84_22, gf_84_23, gf_84_24, ok_84_24, gf_84_25, ok_84_25, gf_84_26, ok_84_26, gf_84_27, ok_84_27, gf_84_28, ok_84_28, gf_84_29, gf_84_30, ↓c141, a0', ct_s, ct_n, ↓bI_01, bI_eq0, bI_eq1, nI_10, nI_01, dec_f, dec_t, if_n, eq_self, true_or, or_true, if_true, if_false, reduceIte]
        rw [if_pos hb]
        simp only [↓s167_15, ↓s167_16]
        rw [l167 hA hW (by omega) (nmA (M 85)) 0 (by omega) (by unfold mnA hasB; simp), hm, if_neg (by decide)]
        simp only [↓s167_51, ↓s167_52, ↓s167_55, ↓s167_57, ↓s167_58, ↓s167_61, ↓s167_62, ↓s167_63, ↓s167_64, ↓s167_65, ↓s167_66, ↓s167_67, ↓s167_70, ↓s167_71, ↓s167_72, ↓s167_73, ↓s167_74, ↓s167_75, ↓s167_76, ↓s167_77, ↓s167_80, ↓s167_81, ↓s167_82, jc_84, gf_84_0, gf_84_1, gf_84_2, gf_84_3, gf_84_4, ok_84_4, gf_84_5, ok_84_5, gf_84_6, ok_84_6, gf_84_7, ok_84_7, gf_84_8, ok_84_8, gf_84_9, ok_84_9, gf_84_10, gf_84_11, gf_84_12, gf_84_13, gf_84_14, gf_84_15, gf_84_16, gf_84_17, ok_84_17, gf_84_18, gf_84_19, ok_84_19, gf_84_20, ok_84_20, gf_84_21, gf_84_22, gf_84_23, gf_84_24, ok_84_24, gf_84_25, ok_84_25, gf_84_26, ok_84_26, gf_84_27, ok_84_27, gf_84_28, ok_84_28, gf_84_29, gf_84_30, al_85 (show 4 < 181 by decide), sa_85 (show 4 < 181 by decide), a4', nI_add, sa_85 (show 107 + nmA (M 85) < 181 by omega), ux_j (show 4 ≠ 107 + nmA (M 85) by omega), ux_s, ct_s, ct_n, ↓bI_01, bI_eq0, bI_eq1, nI_10, nI_01, dec_f, dec_t, if_n, eq_self, true_or, or_true, if_true, if_false, reduceIte]
      · have hB : ux (ux m2 85 (107 + nmA (M 85)) (nI k)) 85 4 (nI (nmA (M 85) + 1)) 85 = mnuA (M 85) k := by
          funext j
          rw [ux85, ux85, hA]
          rfl
        have m : ∀ c, c ≠ 28 → c ≠ 29 → c ≠ 85 → ux (ux m2 85 (107 + nmA (M 85)) (nI k)) 85 4 (nI (nmA (M 85) + 1)) c = M c := fun c h1 h2 h3 => by rw [ux_f h3, ux_f h3, o2 c h1 h2]
        refine Inv_court ?_ hB hW2 (fun a h => m a (by omega) (by omega) (by omega)) (by rw [m 84 (by decide) (by decide) (by decide)]) hI
        refine RC_mk (RCd_eq (m 22 (by decide) (by decide) (by decide)) (m 23 (by decide) (by decide) (by decide)) (mnuA_o (by decide) (by omega)) hW.1.2 (fun i _ _ => mnuA_o (by omega) (by omega)) hC.pd) (RCb_eq (m 24 (by decide) (by decide) (by decide)) (m 25 (by decide) (by decide) (by decide)) (fun i _ _ => mnuA_o (by omega) (by omega)) hC.pb) (RCc_eq (m 26 (by decide) (by decide) (by decide)) (m 27 (by decide) (by decide) (by decide)) (mnuA_o (by decide) (by omega)) hW.2.2.1.2 (fun i _ _ => mnuA_o (by omega) (by omega)) hC.pc) ⟨?_, fun i hi => ?_⟩ (RCr_eq (m 30 (by decide) (by decide) (by decide)) (m 31 (by decide) (by decide) (by decide)) (mnuA_o (by decide) (by omega)) hW.r (fun i _ _ => mnuA_o (by omega) (by omega)) hC.pr) (RCh_eq (m 21 (by decide) (by decide) (by decide)) (mnuA_o (by decide) (by omega)) (mnuA_o (by decide) (by omega)) hC.ph)
        · show ux _ 85 4 _ 28 3 = _
          rw [ux_a (by decide), ux_a (by decide), e2]
          rfl
        · have en : nmA (mnuA (M 85) k) = nmA (M 85) + 1 := by
            unfold nmA
            rw [show mnuA (M 85) k 4 = nI (nmA (M 85) + 1) from rfl]
            exact tn_nI (by omega)
          rw [en] at hi
          show ux _ 85 4 _ 29 i = _
          rw [ux_a (by decide), ux_a (by decide), ← hm2]
          show ux m1 29 (nmA (M 85) * 1 + 0) (nI k) 29 i = _
          rw [uxS]
          by_cases e : i = nmA (M 85)
          · rw [if_pos (by omega)]
            unfold mnuA
            rw [if_neg (by omega), if_pos (by omega)]
          · rw [if_neg (by omega), mnuA_o (by omega) (by omega), ← hm1]
            show zr _ 29 _ 1 29 i = _
            unfold zr
            rw [if_neg (by omega), ux_a (by decide)]
            exact hC.pm.2 i (by omega)
  · refine ⟨-2, ux M 20 13 (M 20 13 + nI 1), N, rjM M 0, N, fun S d n Q => ?_, fun S d n Q => ?_, Inv_rj (by decide) hI⟩
    · simp only [↓s94_0, ↓s94_1, ↓s94_4, ↓s94_5, ↓s94_8, ↓s94_11, ↓s94_12, ↓s94_14, ↓s94_16, ↓s94_19, jc_20, gf_20_0, gf_20_1, gf_20_2, gf_20_3, gf_20_4, gf_20_5, gf_20_6, gf_20_7, gf_20_8, gf_20_9, gf_20_10, gf_20_11, ok_20_11, gf_20_12, ok_20_12, gf_20_13, ok_20_13, gf_20_14, ok_20_14, gf_20_15, ok_20_15, jc_21, gf_21_0, gf_21_1, gf_21_2, gf_21_3, gf_21_4, gf_21_5, ok_21_5, gf_21_6, ok_21_6, ↓c3 hC hW, ↓c116, refM_b, ct_s, ct_n, ↓bI_01, bI_eq0, bI_eq1, nI_10, nI_01, dec_f, dec_t, if_n, eq_self, true_or, or_true, if_true, if_false, reduceIte]
      rw [if_neg hb]
    · have a0' : ux M 20 13 (M 20 13 + nI 1) 85 0 = nI (ndA (M 85)) := by rw [ux_a (by decide)]; exact a0
      simp only [↓s167_0, ↓s167_1, ↓s167_2, ↓s167_5, ↓s167_8, ↓s167_9, ↓s167_11, ↓s167_14, jc_84, gf_84_0, gf_84_1, gf_84_2, gf_84_3, gf_84_4, ok_84_4, gf_84_5, ok_84_5, gf_84_6, ok_84_6, gf_84_7, ok_84_7, gf_84_8, ok_84_8, gf_84_9, ok_84_9, gf_84_10, gf_84_11, gf_84_12, gf_84_13, gf_84_14, gf_84_15, gf_84_16, gf_84_17, ok_84_17, gf_84_18, gf_84_19, ok_84_19, gf_84_20, ok_84_20, gf_84_21, gf_84_22, gf_84_23, gf_84_24, ok_84_24, gf_84_25, ok_84_25, gf_84_26, ok_84_26, gf_84_27, ok_84_27, gf_84_28, ok_84_28, gf_84_29, gf_84_30, ↓c141, a0', ↓c136, ux88, ct_s, ct_n, ↓bI_01, bI_eq0, bI_eq1, nI_10, nI_01, dec_f, dec_t, if_n, eq_self, true_or, or_true, if_true, if_false, reduceIte]
      rw [if_neg hb]
      rfl
end Menu
