/-! ===== tells ===== -/
section Tells
variable {M M0 : ax_M} {N : ax_L} {A : ax_A0} {x y : Int32} {r : Nat} {d n : Nat} {S : ax_S} {Q : Option Value → Nat → ax_H → Prop}
theorem cV_lo (hW : WF A) {T : Int} (hT : -200 ≤ T ∧ T ≤ 200) {v : Nat} : cV A T v (-30) = 0 := cN_lo (ls_bd hT (sp_bd hW (nrA A) (Nat.le_refl _)).1).1
theorem cV_hi (hW : WF A) {T : Int} (hT : -200 ≤ T ∧ T ≤ 200) {v : Nat} : cV A T v 31 = max 0 (msF T v (spn A (nrA A)).2 - lsF T v (spn A (nrA A)).1 + 1) := cN_hi (ms_bd hT (sp_bd hW (nrA A) (Nat.le_refl _)).2).2
theorem cV_bd (hW : WF A) {T : Int} (hT : -200 ≤ T ∧ T ≤ 200) {v : Nat} : 0 ≤ cV A T v 31 ∧ cV A T v 31 ≤ 61 := cN_bd (ls_bd hT (sp_bd hW (nrA A) (Nat.le_refl _)).1).1 (by omega)
theorem b106 (hW : WF A) {T B : Int} {v : Nat} (hv : v ≤ 2) (hT : -200 ≤ T ∧ T ≤ 200) (hB : -1000 ≤ B ∧ B ≤ 1000) (f0 : M 83 0 = iI (spn A (nrA A)).1) (f1 : M 83 1 = iI (spn A (nrA A)).2) (f3 : M 73 3 = iI T) : ax_W (d + 3) 106 32 [.ref 20, .int x, .int (iI B), .int (nI v)] [] n (hx S M N) Q = ax_W (d + 3) 106 32 [.ref 20, .int x, .int (iI (max B (cV A T v 31))), .int (nI (v + 1))] [] n (hx S M N) Q := by
  have b := sp_bd hW (nrA A) (Nat.le_refl _)
  have cb := cV_bd hW hT (v := v)
  have ch := cV_hi hW hT (v := v)
  rw [← mxI_i hB (by omega), ch]
  have e : ax_W (d + 3) 106 32 [.ref 20, .int x, .int (iI B), .int (nI v)] [] n (hx S M N) Q = ax_W (d + 3) 106 37 [.ref 20, .int x, .int (iI B), .int (nI v)] [] n (hx S M N) Q := by
    simp only [↓s106_32, ↓s106_33, ↓s106_34, ct_s, ct_n, ↓bI_01, bI_eq0, bI_eq1, nI_10, nI_01, dec_f, dec_t, if_n, eq_self, true_or, or_true, if_true, if_false, reduceIte]
    rw [if_neg (nI_nlt (a := 2) (b := v) (by omega) (by omega))]
  rw [e]
  simp only [↓s106_37, ↓s106_38, ↓s106_39, ↓s106_42, ↓s106_43, ↓s106_46, ↓s106_49, ↓s106_50, ↓s106_53, ↓s106_56, ↓s106_57, ↓s106_60, ↓s72_0, ↓s72_1, ↓s72_4, jc_20, gf_20_0, gf_20_1, gf_20_2, gf_20_3, gf_20_4, gf_20_5, gf_20_6, gf_20_7, gf_20_8, gf_20_9, gf_20_10, gf_20_11, ok_20_11, gf_20_12, ok_20_12, gf_20_13, ok_20_13, gf_20_14, ok_20_14, gf_20_15, ok_20_15, jc_83, gf_83_0, ok_83_0, gf_83_1, ok_83_1, jc_73, gf_73_0, gf_73_1, gf_73_2, gf_73_3, ok_73_3, f3, ↓c66 f0 f1 hT b.1 b.2 hv, nI_add, ct_s, ct_n, ↓bI_01, bI_eq0, bI_eq1, nI_10, nI_01, dec_f, dec_t, if_n, eq_self, true_or, or_true, if_true, if_false, reduceIte]
theorem p25 (hI : Inv M N) : RPi 106 192 [.ref 20, .int x, ax_dm, ax_dm] [.ref 84, .int x, ax_dm, ax_dm, ax_dm] M N := by
  have hC := hI.1
  have hW := hI.2.1
  by_cases h0 : nI 0 ≤ x ∧ x ≤ nI 1
  · obtain ⟨s, s1, rfl⟩ := rng (by decide) h0
    generalize hA : M 85 = A at *
    have m8 := hW.2.2.2.1.2
    have hT : -200 ≤ gL A (mdA A) v00 s 0 (nmA A) ∧ gL A (mdA A) v00 s 0 (nmA A) ≤ 200 := by
      have := gL_bd (s := s) (w := v00) hW (fun i hi => (hW.m.2.1 i hi).2) (by decide) (fun j hj => by cases hj) (nmA A) (Nat.le_refl _)
      omega
    obtain ⟨M1, t1, ⟨f0, f1⟩, g1⟩ := c119 (N := N) hC hW
    have hC1 := RC_sc t1 hC
    have t2 : sc M (tgM (ux M1 74 3 (nI 0)) A (mdA A) v00 s (nmA A) (nmA A)) := sc_tg (sc_ux t1 (by omega))
    have f0' : tgM (ux M1 74 3 (nI 0)) A (mdA A) v00 s (nmA A) (nmA A) 83 0 = iI (spn A (nrA A)).1 := by rw [tg_o (by decide) (by decide) (by decide) (by decide), ux_a (by decide)]; exact f0
    have f1' : tgM (ux M1 74 3 (nI 0)) A (mdA A) v00 s (nmA A) (nmA A) 83 1 = iI (spn A (nrA A)).2 := by rw [tg_o (by decide) (by decide) (by decide) (by decide), ux_a (by decide)]; exact f1
    have f3 : tgM (ux M1 74 3 (nI 0)) A (mdA A) v00 s (nmA A) (nmA A) 73 3 = iI (gL A (mdA A) v00 s 0 (nmA A)) := tg_73
    have k74 : ∀ (S : ax_S) (d n : Nat) (Q : Option Value → Nat → ax_H → Prop), ax_W (d + 5) 74 0 [.ref 73, .int (nI s)] [] n (hx S M1 N) Q = Q none n (hx S (tgM (ux M1 74 3 (nI 0)) A (mdA A) v00 s (nmA A) (nmA A)) N) := fun S d n Q => c74 hC1 hW s1
    generalize tgM (ux M1 74 3 (nI 0)) A (mdA A) v00 s (nmA A) (nmA A) = m1 at *
    have hA1 : m1 85 = A := (t2.1 85 (by omega)).trans hA
    have t3 : sc M (gmM m1 A (mdA A) v00 s 0 (nmA A)) := sc_gm t2
    have hA2 : gmM m1 A (mdA A) v00 s 0 (nmA A) 85 = A := (t3.1 85 (by omega)).trans hA
    obtain ⟨M2, t4, h97, g2⟩ := c189 (N := N) hA2 hW
    have hA3 : M2 85 = A := (t4.1 85 (by omega)).trans hA2
    obtain ⟨z4, g3⟩ := l192 (N := N) (y1 := nI s) hA3 hW h97 hT 61 (-30) (by decide) (by decide) ax_dm
    generalize hTT : gL A (mdA A) v00 s 0 (nmA A) = T at *
    have b0 := cV_bd hW hT (v := 0)
    have b1 := cV_bd hW hT (v := 1)
    have b2 := cV_bd hW hT (v := 2)
    have scT : sc M2 (tbM M2 A T 31) := sc_ux (sc_ux (sc_ux sc_rf (by omega)) (by omega)) (by omega)
    refine ⟨iI (max (max (max 0 (cV A T 0 31)) (cV A T 1 31)) (cV A T 2 31)), m1, N, tbM M2 A T 31, N, fun S d n Q => ?_, fun S d n Q => ?_, Inv_sc (sc_tr (sc_tr t3 t4) scT) hI⟩
    · simp only [↓s106_0, ↓s106_1, ↓s106_4, ↓c122, ct_s, ct_n, ↓bI_01, bI_eq0, bI_eq1, nI_10, nI_01, dec_f, dec_t, if_n, eq_self, true_or, or_true, if_true, if_false, reduceIte]
      rw [if_pos h0]
      simp only [↓s106_16, ↓s106_17, ↓s106_20, ↓s106_21, ↓s106_24, ↓s106_25, ↓s106_28, ↓s106_29, ↓s106_30, ↓s106_31, jc_20, gf_20_0, gf_20_1, gf_20_2, gf_20_3, gf_20_4, gf_20_5, gf_20_6, gf_20_7, gf_20_8, gf_20_9, gf_20_10, gf_20_11, ok_20_11, gf_20_12, ok_20_12, gf_20_13, ok_20_13, gf_20_14, ok_20_14, gf_20_15, ok_20_15, jc_73, gf_73_0, gf_73_1, gf_73_2, gf_73_3, ok_73_3, ↓g1, ↓k74, ct_s, ct_n, ↓bI_01, bI_eq0, bI_eq1, nI_10, nI_01, dec_f, dec_t, if_n, eq_self, true_or, or_true, if_true, if_false, reduceIte]
      have r0 := b106 (d := d + 897) (n := n) (Q := Q) (S := S) (N := N) (x := nI s) (v := 0) (B := 0) hW (by omega) hT (by omega) f0' f1' f3
      have r1 := b106 (d := d + 897) (n := n) (Q := Q) (S := S) (N := N) (x := nI s) (v := 1) (B := max 0 (cV A T 0 31)) hW (by omega) hT (by omega) f0' f1' f3
      have r2 := b106 (d := d + 897) (n := n) (Q := Q) (S := S) (N := N) (x := nI s) (v := 2) (B := max (max 0 (cV A T 0 31)) (cV A T 1 31)) hW (by omega) hT (by omega) f0' f1' f3
      refine r0.trans (r1.trans (r2.trans ?_))
      simp only [↓s106_32, ↓s106_33, ↓s106_34, show nI 2 < nI (2 + 1) by decide, ct_s, ct_n, ↓bI_01, bI_eq0, bI_eq1, nI_10, nI_01, dec_f, dec_t, if_n, eq_self, true_or, or_true, if_true, if_false, reduceIte]
      simp only [↓s106_63, ↓s106_64, ct_s, ct_n, ↓bI_01, bI_eq0, bI_eq1, nI_10, nI_01, dec_f, dec_t, if_n, eq_self, true_or, or_true, if_true, if_false, reduceIte]
    · have k188 : ∀ (S : ax_S) (d n : Nat) (Q : Option Value → Nat → ax_H → Prop), ax_W (d + 6) 188 0 [.ref 84, .int (nI 107), .int (nI (nmA A)), .int (nI s)] [] n (hx S m1 N) Q = Q (some (.int (iI T))) n (hx S (gmM m1 A (mdA A) v00 s 0 (nmA A)) N) := fun S d n Q => by
        rw [← hTT]
        exact c188 hA1 hW (fun i hi => ⟨by omega, (hW.m.2.1 i hi).1⟩) (fun i hi => (hW.m.2.1 i hi).2) m8 s1
      have a4 : m1 85 4 = nI (nmA A) := by rw [hA1]; exact hW.2.2.2.1.1
      simp only [↓s192_0, ↓s192_1, ↓s192_4, ↓c142, ct_s, ct_n, ↓bI_01, bI_eq0, bI_eq1, nI_10, nI_01, dec_f, dec_t, if_n, eq_self, true_or, or_true, if_true, if_false, reduceIte]
      rw [if_pos h0]
      simp only [↓s192_14, ↓s192_15, ↓s192_17, ↓s192_18, ↓s192_21, ↓s192_22, ↓s192_23, ↓s192_24, ↓s192_27, ↓s192_28, ↓s192_29, ↓s192_32, ↓s192_33, jc_84, gf_84_0, gf_84_1, gf_84_2, gf_84_3, gf_84_4, ok_84_4, gf_84_5, ok_84_5, gf_84_6, ok_84_6, gf_84_7, ok_84_7, gf_84_8, ok_84_8, gf_84_9, ok_84_9, gf_84_10, gf_84_11, gf_84_12, gf_84_13, gf_84_14, gf_84_15, gf_84_16, gf_84_17, ok_84_17, gf_84_18, gf_84_19, ok_84_19, gf_84_20, ok_84_20, gf_84_21, gf_84_22, gf_84_23, gf_84_24, ok_84_24, gf_84_25, ok_84_25, gf_84_26, ok_84_26, gf_84_27, ok_84_27, gf_84_28, ok_84_28, gf_84_29, gf_84_30, al_85 (show 4 < 181 by decide), a4, ↓k188, ↓g2, ct_s, ct_n, ↓bI_01, bI_eq0, bI_eq1, nI_10, nI_01, dec_f, dec_t, if_n, eq_self, true_or, or_true, if_true, if_false, reduceIte]
      have st : ∀ (i : Nat) (M : ax_M), i < 3 → ax_W (d + 900) 192 34 [.ref 84, .int (nI s), .int (iI T), .int (nI i), ax_dm] [] n (hx S M N) Q = ax_W (d + 900) 192 34 [.ref 84, .int (nI s), .int (iI T), .int (nI (i + 1)), ax_dm] [] n (hx S (ux M 98 i (nI 0)) N) Q := by
        intro i M hi
        have e : ax_W (d + 900) 192 34 [.ref 84, .int (nI s), .int (iI T), .int (nI i), ax_dm] [] n (hx S M N) Q = ax_W (d + 900) 192 39 [.ref 84, .int (nI s), .int (iI T), .int (nI i), ax_dm] [] n (hx S M N) Q := by
          simp only [↓s192_34, ↓s192_35, ↓s192_36, ct_s, ct_n, ↓bI_01, bI_eq0, bI_eq1, nI_10, nI_01, dec_f, dec_t, if_n, eq_self, true_or, or_true, if_true, if_false, reduceIte]
          rw [if_neg (nI_ge (a := i) (b := 3) (by omega) (by omega))]
        rw [e]
        simp only [↓s192_39, ↓s192_40, ↓s192_43, ↓s192_44, ↓s192_45, ↓s192_46, ↓s192_49, jc_84, gf_84_0, gf_84_1, gf_84_2, gf_84_3, gf_84_4, ok_84_4, gf_84_5, ok_84_5, gf_84_6, ok_84_6, gf_84_7, ok_84_7, gf_84_8, ok_84_8, gf_84_9, ok_84_9, gf_84_10, gf_84_11, gf_84_12, gf_84_13, gf_84_14, gf_84_15, gf_84_16, gf_84_17, ok_84_17, gf_84_18, gf_84_19, ok_84_19, gf_84_20, ok_84_20, gf_84_21, gf_84_22, gf_84_23, gf_84_24, ok_84_24, gf_84_25, ok_84_25, gf_84_26, ok_84_26, gf_84_27, ok_84_27, gf_84_28, ok_84_28, gf_84_29, gf_84_30, sa_98 hi, nI_add, ct_s, ct_n, ↓bI_01, bI_eq0, bI_eq1, nI_10, nI_01, dec_f, dec_t, if_n, eq_self, true_or, or_true, if_true, if_false, reduceIte]
      refine (st 0 M2 (by omega)).trans ((st 1 _ (by omega)).trans ((st 2 _ (by omega)).trans ?_))
      simp only [↓s192_34, ↓s192_35, ↓s192_36, show nI 3 ≤ nI (2 + 1) by decide, ct_s, ct_n, ↓bI_01, bI_eq0, bI_eq1, nI_10, nI_01, dec_f, dec_t, if_n, eq_self, true_or, or_true, if_true, if_false, reduceIte]
      simp only [↓s192_52, ↓s192_54, ct_s, ct_n, ↓bI_01, bI_eq0, bI_eq1, nI_10, nI_01, dec_f, dec_t, if_n, eq_self, true_or, or_true, if_true, if_false, reduceIte]
      have g := g3 S (d + 898) n Q
      have e : tbM M2 A T (-30) = ux (ux (ux M2 98 0 (nI 0)) 98 (0 + 1) (nI 0)) 98 (1 + 1) (nI 0) := by
        unfold tbM mbM
        rw [cV_lo hW hT, cV_lo hW hT, cV_lo hW hT, ← i_0]
      rw [e] at g
      refine g.trans ?_
      simp only [↓s192_94, ↓s192_95, ↓s192_98, ↓s192_99, ↓s192_100, ↓s192_101, ↓s192_104, ↓s192_105, ↓s192_106, jc_84, gf_84_0, gf_84_1, gf_84_2, gf_84_3, gf_84_4, ok_84_4, gf_84_5, ok_84_5, gf_84_6, ok_84_6, gf_84_7, ok_84_7, gf_84_8, ok_84_8, gf_84_9, ok_84_9, gf_84_10, gf_84_11, gf_84_12, gf_84_13, gf_84_14, gf_84_15, gf_84_16, gf_84_17, ok_84_17, gf_84_18, gf_84_19, ok_84_19, gf_84_20, ok_84_20, gf_84_21, gf_84_22, gf_84_23, gf_84_24, ok_84_24, gf_84_25, ok_84_25, gf_84_26, ok_84_26, gf_84_27, ok_84_27, gf_84_28, ok_84_28, gf_84_29, gf_84_30, al_98 (show 0 < 3 by decide), al_98 (show 1 < 3 by decide), show tbM M2 A T 31 98 0 = iI (cV A T 0 31) from mb_0, show tbM M2 A T 31 98 1 = iI (cV A T 1 31) from mb_1, iI_le (show -2147483648 ≤ cV A T 0 31 by omega) (show cV A T 0 31 < 2147483648 by omega) (show -2147483648 ≤ cV A T 1 31 by omega) (show cV A T 1 31 < 2147483648 by omega), ct_s, ct_n, ↓bI_01, bI_eq0, bI_eq1, nI_10, nI_01, dec_f, dec_t, if_n, eq_self, true_or, or_true, if_true, if_false, reduceIte]
      have fin : ∀ m : Int, 0 ≤ m ∧ m ≤ 61 → ax_W (d + 900) 192 124 [.ref 84, .int (nI s), .int (iI T), .int (iI 31), z4] [.int (iI m)] n (hx S (tbM M2 A T 31) N) Q = Q (some (.int (iI (max m (cV A T 2 31))))) n (hx S (tbM M2 A T 31) N) := by
        intro m hm
        simp only [↓s192_124, ↓s192_125, ↓s192_126, ↓s192_127, ↓s192_130, ↓s192_131, ↓s192_132, jc_84, gf_84_0, gf_84_1, gf_84_2, gf_84_3, gf_84_4, ok_84_4, gf_84_5, ok_84_5, gf_84_6, ok_84_6, gf_84_7, ok_84_7, gf_84_8, ok_84_8, gf_84_9, ok_84_9, gf_84_10, gf_84_11, gf_84_12, gf_84_13, gf_84_14, gf_84_15, gf_84_16, gf_84_17, ok_84_17, gf_84_18, gf_84_19, ok_84_19, gf_84_20, ok_84_20, gf_84_21, gf_84_22, gf_84_23, gf_84_24, ok_84_24, gf_84_25, ok_84_25, gf_84_26, ok_84_26, gf_84_27, ok_84_27, gf_84_28, ok_84_28, gf_84_29, gf_84_30, al_98 (show 2 < 3 by decide), show tbM M2 A T 31 98 2 = iI (cV A T 2 31) from mb_2, iI_le (show -2147483648 ≤ m by omega) (show m < 2147483648 by omega) (show -2147483648 ≤ cV A T 2 31 by omega) (show cV A T 2 31 < 2147483648 by omega), ct_s, ct_n, ↓bI_01, bI_eq0, bI_eq1, nI_10, nI_01, dec_f, dec_t, if_n, eq_self, true_or, or_true, if_true, if_false, reduceIte]
        by_cases e : m ≤ cV A T 2 31
        · rw [if_pos e]
          simp only [↓s192_139, ↓s192_140, ↓s192_143, ↓s192_144, ↓s192_145, jc_84, gf_84_0, gf_84_1, gf_84_2, gf_84_3, gf_84_4, ok_84_4, gf_84_5, ok_84_5, gf_84_6, ok_84_6, gf_84_7, ok_84_7, gf_84_8, ok_84_8, gf_84_9, ok_84_9, gf_84_10, gf_84_11, gf_84_12, gf_84_13, gf_84_14, gf_84_15, gf_84_16, gf_84_17, ok_84_17, gf_84_18, gf_84_19, ok_84_19, gf_84_20, ok_84_20, gf_84_21, gf_84_22, gf_84_23, gf_84_24, ok_84_24, gf_84_25, ok_84_25, gf_84_26, ok_84_26, gf_84_27, ok_84_27, gf_84_28, ok_84_28, gf_84_29, gf_84_30, al_98 (show 2 < 3 by decide), show tbM M2 A T 31 98 2 = iI (cV A T 2 31) from mb_2, ct_s, ct_n, ↓bI_01, bI_eq0, bI_eq1, nI_10, nI_01, dec_f, dec_t, if_n, eq_self, true_or, or_true, if_true, if_false, reduceIte]
          rw [show max m (cV A T 2 31) = cV A T 2 31 by omega]
        · rw [if_neg e]
          simp only [↓s192_135, ↓s192_136, ↓s192_139, ↓s192_140, ↓s192_143, ↓s192_144, ↓s192_145, ct_s, ct_n, ↓bI_01, bI_eq0, bI_eq1, nI_10, nI_01, dec_f, dec_t, if_n, eq_self, true_or, or_true, if_true, if_false, reduceIte]
          rw [show max m (cV A T 2 31) = m by omega]
      by_cases e : cV A T 0 31 ≤ cV A T 1 31
      · rw [if_pos e]
        simp only [↓s192_118, ↓s192_119, ↓s192_122, ↓s192_123, jc_84, gf_84_0, gf_84_1, gf_84_2, gf_84_3, gf_84_4, ok_84_4, gf_84_5, ok_84_5, gf_84_6, ok_84_6, gf_84_7, ok_84_7, gf_84_8, ok_84_8, gf_84_9, ok_84_9, gf_84_10, gf_84_11, gf_84_12, gf_84_13, gf_84_14, gf_84_15, gf_84_16, gf_84_17, ok_84_17, gf_84_18, gf_84_19, ok_84_19, gf_84_20, ok_84_20, gf_84_21, gf_84_22, gf_84_23, gf_84_24, ok_84_24, gf_84_25, ok_84_25, gf_84_26, ok_84_26, gf_84_27, ok_84_27, gf_84_28, ok_84_28, gf_84_29, gf_84_30, al_98 (show 1 < 3 by decide), show tbM M2 A T 31 98 1 = iI (cV A T 1 31) from mb_1, ct_s, ct_n, ↓bI_01, bI_eq0, bI_eq1, nI_10, nI_01, dec_f, dec_t, if_n, eq_self, true_or, or_true, if_true, if_false, reduceIte]
        rw [show max (max 0 (cV A T 0 31)) (cV A T 1 31) = cV A T 1 31 by omega]
        exact fin _ b1
      · rw [if_neg e]
        simp only [↓s192_109, ↓s192_110, ↓s192_113, ↓s192_114, ↓s192_115, jc_84, gf_84_0, gf_84_1, gf_84_2, gf_84_3, gf_84_4, ok_84_4, gf_84_5, ok_84_5, gf_84_6, ok_84_6, gf_84_7, ok_84_7, gf_84_8, ok_84_8, gf_84_9, ok_84_9, gf_84_10, gf_84_11, gf_84_12, gf_84_13, gf_84_14, gf_84_15, gf_84_16, gf_84_17, ok_84_17, gf_84_18, gf_84_19, ok_84_19, gf_84_20, ok_84_20, gf_84_21, gf_84_22, gf_84_23, gf_84_24, ok_84_24, gf_84_25, ok_84_25, gf_84_26, ok_84_26, gf_84_27, ok_84_27, gf_84_28, ok_84_28, gf_84_29, gf_84_30, al_98 (show 0 < 3 by decide), show tbM M2 A T 31 98 0 = iI (cV A T 0 31) from mb_0, ct_s, ct_n, ↓bI_01, bI_eq0, bI_eq1, nI_10, nI_01, dec_f, dec_t, if_n, eq_self, true_or, or_true, if_true, if_false, reduceIte]
        rw [show max (max 0 (cV A T 0 31)) (cV A T 1 31) = cV A T 0 31 by omega]
        exact fin _ b0
  · refine ⟨-2, ux M 20 13 (M 20 13 + nI 1), N, rjM M 0, N, fun S d n Q => ?_, fun S d n Q => ?_, Inv_rj (by decide) hI⟩
    · simp only [↓s106_0, ↓s106_1, ↓s106_4, ↓s106_7, ↓s106_8, ↓s106_10, ↓s106_12, ↓s106_15, ↓c122, jc_20, ↓c116, refM_b, ct_s, ct_n, ↓bI_01, bI_eq0, bI_eq1, nI_10, nI_01, dec_f, dec_t, if_n, eq_self, true_or, or_true, if_true, if_false, reduceIte]
      rw [if_neg h0]
    · simp only [↓s192_0, ↓s192_1, ↓s192_4, ↓s192_7, ↓s192_8, ↓s192_10, ↓s192_13, ↓c142, jc_84, ↓c136, ux88, ct_s, ct_n, ↓bI_01, bI_eq0, bI_eq1, nI_10, nI_01, dec_f, dec_t, if_n, eq_self, true_or, or_true, if_true, if_false, reduceIte]
      rw [if_neg h0]
      rfl
end Tells
