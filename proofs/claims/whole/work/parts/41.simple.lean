/-! ===== simple calls ===== -/
section Simple
variable {M : ax_M} {N : ax_L} {x : Int32}
theorem p11 (hI : Inv M N) : RPi 92 165 [.ref 20] [.ref 84] M N := by
  refine ⟨M 85 2, M, N, M, N, fun S d n Q => ?_, fun S d n Q => ?_, hI⟩
  · simp only [↓s92_0, ↓s92_1, ↓s92_4, ↓s92_7, jc_20, gf_20_0, gf_20_1, gf_20_2, gf_20_3, gf_20_4, gf_20_5, gf_20_6, gf_20_7, gf_20_8, gf_20_9, gf_20_10, gf_20_11, ok_20_11, gf_20_12, ok_20_12, gf_20_13, ok_20_13, gf_20_14, ok_20_14, gf_20_15, ok_20_15, jc_21, gf_21_0, gf_21_1, gf_21_2, gf_21_3, gf_21_4, gf_21_5, ok_21_5, gf_21_6, ok_21_6, hI.1.2.2.2.2.2.2.1, ct_s, ct_n, ↓bI_01, bI_eq0, bI_eq1, nI_10, nI_01, dec_f, dec_t, if_n, eq_self, true_or, or_true, if_true, if_false, reduceIte]
  · simp only [↓s165_0, ↓s165_1, ↓s165_4, ↓s165_5, ↓s165_6, jc_84, gf_84_0, gf_84_1, gf_84_2, gf_84_3, gf_84_4, ok_84_4, gf_84_5, ok_84_5, gf_84_6, ok_84_6, gf_84_7, ok_84_7, gf_84_8, ok_84_8, gf_84_9, ok_84_9, gf_84_10, gf_84_11, gf_84_12, gf_84_13, gf_84_14, gf_84_15, gf_84_16, gf_84_17, ok_84_17, gf_84_18, gf_84_19, ok_84_19, gf_84_20, ok_84_20, gf_84_21, gf_84_22, gf_84_23, gf_84_24, ok_84_24, gf_84_25, ok_84_25, gf_84_26, ok_84_26, gf_84_27, ok_84_27, gf_84_28, ok_84_28, gf_84_29, gf_84_30, al_85 (show 2 < 181 by decide), ct_s, ct_n, ↓bI_01, bI_eq0, bI_eq1, nI_10, nI_01, dec_f, dec_t, if_n, eq_self, true_or, or_true, if_true, if_false, reduceIte]
theorem p12 (hI : Inv M N) : RPi 93 166 [.ref 20] [.ref 84] M N := by
  refine ⟨vdI (M 85 2), M, N, M, N, fun S d n Q => ?_, fun S d n Q => ?_, hI⟩
  · simp only [↓s93_0, ↓s93_1, ↓s93_4, ↓s93_7, ↓s93_10, jc_20, gf_20_0, gf_20_1, gf_20_2, gf_20_3, gf_20_4, gf_20_5, gf_20_6, gf_20_7, gf_20_8, gf_20_9, gf_20_10, gf_20_11, ok_20_11, gf_20_12, ok_20_12, gf_20_13, ok_20_13, gf_20_14, ok_20_14, gf_20_15, ok_20_15, jc_21, gf_21_0, gf_21_1, gf_21_2, gf_21_3, gf_21_4, gf_21_5, ok_21_5, gf_21_6, ok_21_6, hI.1.2.2.2.2.2.2.1, ↓c126, ct_s, ct_n, ↓bI_01, bI_eq0, bI_eq1, nI_10, nI_01, dec_f, dec_t, if_n, eq_self, true_or, or_true, if_true, if_false, reduceIte]
  · simp only [↓s166_0, ↓s166_1, ↓s166_4, ↓s166_5, ↓s166_6, ↓s166_9, jc_84, gf_84_0, gf_84_1, gf_84_2, gf_84_3, gf_84_4, ok_84_4, gf_84_5, ok_84_5, gf_84_6, ok_84_6, gf_84_7, ok_84_7, gf_84_8, ok_84_8, gf_84_9, ok_84_9, gf_84_10, gf_84_11, gf_84_12, gf_84_13, gf_84_14, gf_84_15, gf_84_16, gf_84_17, ok_84_17, gf_84_18, gf_84_19, ok_84_19, gf_84_20, ok_84_20, gf_84_21, gf_84_22, gf_84_23, gf_84_24, ok_84_24, gf_84_25, ok_84_25, gf_84_26, ok_84_26, gf_84_27, ok_84_27, gf_84_28, ok_84_28, gf_84_29, gf_84_30, al_85 (show 2 < 181 by decide), ↓c160, ct_s, ct_n, ↓bI_01, bI_eq0, bI_eq1, nI_10, nI_01, dec_f, dec_t, if_n, eq_self, true_or, or_true, if_true, if_false, reduceIte]
theorem Inv_le (hI : Inv M N) {z : Int32} (h1 : (-30 : Int32) ≤ z) (h2 : z ≤ nI 30) : Inv (ux (ux M 21 6 z) 85 2 z) N := by
  have hA : ux (ux M 21 6 z) 85 2 z 85 = upd (M 85) 2 z := by rw [ux_upd, ua_s, ux_f (by decide)]
  have hC := hI.1
  have hW := hI.2.1
  have b1 : -30 ≤ z.toInt := by have := Int32.le_iff_toInt_le.mp h1; simpa using this
  have b2 : z.toInt ≤ 30 := by have := Int32.le_iff_toInt_le.mp h2; rw [nI_toInt (by decide)] at this; exact this
  refine Inv_court (A := upd (M 85) 2 z) ?_ hA ?_ (fun a h => by rw [ux_f (by omega), ux_f (by omega)]) (by rw [ux_a (by decide), ux_a (by decide)]) hI
  · refine RC_keepc (M := ux M 21 6 z) (fun a h1 h2 => ux_f (by omega)) ?_
    obtain ⟨r1, r2, r3, r4, r5, r6, r7, r8, r9, r10, r11, r12⟩ := hC
    have u : ∀ j, j ≠ 2 → upd (M 85) 2 z j = M 85 j := fun j hj => pk_un hj
    refine ⟨by rw [ux_a (by decide), u 0 (by decide)]; exact r1, by rw [ux_a (by decide)]; exact r2, by rw [ux_a (by decide), u 3 (by decide)]; exact r3, by rw [ux_a (by decide), u 4 (by decide)]; exact r4, by rw [ux_a (by decide), u 5 (by decide)]; exact r5, by rw [ux_j (by decide), u 1 (by decide)]; exact r6, by rw [ux_s, pk_us], fun i hi => ?_, fun i hi => ?_, fun i hi => ?_, fun i hi => ?_, fun r w hr hw => ?_⟩
    · rw [ux_a (by decide), u _ (by omega)]; exact r8 i hi
    · rw [ux_a (by decide), u _ (by omega)]; exact r9 i hi
    · rw [ux_a (by decide), u _ (by omega)]; exact r10 i hi
    · rw [ux_a (by decide), u _ (by omega)]; exact r11 i hi
    · rw [u _ (by omega)] at hw
      rw [ux_a (by decide), u _ (by omega)]; exact r12 r w hr hw
  · refine WF_up hW (pk_un (by decide)) (pk_un (by decide)) (pk_un (by decide)) (pk_un (by decide)) (pk_un (by decide)) ?_ (fun i _ _ => pk_un (by omega)) (fun a b ha hb => ?_) (fun i _ _ => pk_un (by omega))
    · unfold leA; rw [pk_us]; omega
    · unfold bkA; rw [pk_un (by omega)]; exact hW.2.2.2.2.2.2.2.1 a b ha hb
theorem p3 (hI : Inv M N) : RPi 84 149 [.ref 20, .int x, ax_dm] [.ref 84, .int x, ax_dm] M N := by
  by_cases hb : (-30 : Int32) ≤ x ∧ x ≤ nI 30
  · refine ⟨M 85 2, ux M 21 6 x, N, ux (ux M 21 6 x) 85 2 x, N, fun S d n Q => ?_, fun S d n Q => ?_, Inv_le hI hb.1 hb.2⟩
    · simp only [↓s84_0, ↓s84_1, ↓s84_3, ↓s84_5, ↓s84_8, ↓s84_11, ↓s84_12, ↓s84_14, ↓s84_17, ↓s84_20, ↓s84_21, ↓s84_22, ↓s84_25, ↓s84_28, ↓s84_29, ↓s84_30, ↓s84_33, ↓s84_34, ↓s84_37, ↓s84_38, jc_20, gf_20_0, gf_20_1, gf_20_2, gf_20_3, gf_20_4, gf_20_5, gf_20_6, gf_20_7, gf_20_8, gf_20_9, gf_20_10, gf_20_11, ok_20_11, gf_20_12, ok_20_12, gf_20_13, ok_20_13, gf_20_14, ok_20_14, gf_20_15, ok_20_15, jc_21, gf_21_0, gf_21_1, gf_21_2, gf_21_3, gf_21_4, gf_21_5, ok_21_5, gf_21_6, ok_21_6, hI.1.2.2.2.2.2.2.1, ↓c121, ct_s, ct_n, ↓bI_01, bI_eq0, bI_eq1, nI_10, nI_01, dec_f, dec_t, if_n, eq_self, true_or, or_true, if_true, if_false, reduceIte]
      rw [if_pos hb]
    · simp only [↓s149_0, ↓s149_1, ↓s149_2, ↓s149_5, ↓s149_8, ↓s149_11, ↓s149_14, ↓s149_15, ↓s149_18, ↓s149_21, ↓s149_22, ↓s149_23, ↓s149_26, ↓s149_27, ↓s149_28, ↓s149_29, ↓s149_30, ↓s149_33, ↓s149_34, ↓s149_35, ↓s149_36, ↓s149_37, jc_84, gf_84_0, gf_84_1, gf_84_2, gf_84_3, gf_84_4, ok_84_4, gf_84_5, ok_84_5, gf_84_6, ok_84_6, gf_84_7, ok_84_7, gf_84_8, ok_84_8, gf_84_9, ok_84_9, gf_84_10, gf_84_11, gf_84_12, gf_84_13, gf_84_14, gf_84_15, gf_84_16, gf_84_17, ok_84_17, gf_84_18, gf_84_19, ok_84_19, gf_84_20, ok_84_20, gf_84_21, gf_84_22, gf_84_23, gf_84_24, ok_84_24, gf_84_25, ok_84_25, gf_84_26, ok_84_26, gf_84_27, ok_84_27, gf_84_28, ok_84_28, gf_84_29, gf_84_30, ↓c135 (l := -30) (q := -30) (m := nI 30) (r := 30) rfl rfl, al_85 (show 2 < 181 by decide), sa_85 (show 2 < 181 by decide), ux_a (show 85 ≠ 21 by decide), ct_s, ct_n, ↓bI_01, bI_eq0, bI_eq1, nI_10, nI_01, dec_f, dec_t, if_n, eq_self, true_or, or_true, if_true, if_false, reduceIte]
      rw [if_pos hb]
  · refine ⟨-1000, ux M 20 13 (M 20 13 + nI 1), N, rjM M 0, N, fun S d n Q => ?_, fun S d n Q => ?_, Inv_rj (by decide) hI⟩
    · simp only [↓s84_0, ↓s84_1, ↓s84_3, ↓s84_5, ↓s84_8, ↓s84_11, ↓s84_12, ↓s84_14, ↓s84_17, ↓s84_20, ↓s84_21, ↓s84_22, ↓s84_25, ↓s84_28, ↓s84_29, ↓s84_30, ↓s84_33, ↓s84_34, ↓s84_37, ↓s84_38, jc_20, gf_20_0, gf_20_1, gf_20_2, gf_20_3, gf_20_4, gf_20_5, gf_20_6, gf_20_7, gf_20_8, gf_20_9, gf_20_10, gf_20_11, ok_20_11, gf_20_12, ok_20_12, gf_20_13, ok_20_13, gf_20_14, ok_20_14, gf_20_15, ok_20_15, jc_21, gf_21_0, gf_21_1, gf_21_2, gf_21_3, gf_21_4, gf_21_5, ok_21_5, gf_21_6, ok_21_6, ↓c121, ↓c116, refM_b, ct_s, ct_n, ↓bI_01, bI_eq0, bI_eq1, nI_10, nI_01, dec_f, dec_t, if_n, eq_self, true_or, or_true, if_true, if_false, reduceIte]
      rw [if_neg hb]
    · simp only [↓s149_0, ↓s149_1, ↓s149_2, ↓s149_5, ↓s149_8, ↓s149_11, ↓s149_14, ↓s149_15, ↓s149_18, ↓s149_21, ↓s149_22, ↓s149_23, ↓s149_26, ↓s149_27, ↓s149_28, ↓s149_29, ↓s149_30, ↓s149_33, ↓s149_34, ↓s149_35, ↓s149_36, ↓s149_37, jc_84, gf_84_0, gf_84_1, gf_84_2, gf_84_3, gf_84_4, ok_84_4, gf_84_5, ok_84_5, gf_84_6, ok_84_6, gf_84_7, ok_84_7, gf_84_8, ok_84_8, gf_84_9, ok_84_9, gf_84_10, gf_84_11, gf_84_12, gf_84_13, gf_84_14, gf_84_15, gf_84_16, gf_84_17, ok_84_17, gf_84_18, gf_84_19, ok_84_19, gf_84_20, ok_84_20, gf_84_21, gf_84_22, gf_84_23, gf_84_24, ok_84_24, gf_84_25, ok_84_25, gf_84_26, ok_84_26, gf_84_27, ok_84_27, gf_84_28, ok_84_28, gf_84_29, gf_84_30, ↓c135 (l := -30) (q := -30) (m := nI 30) (r := 30) rfl rfl, ↓c136, ux88, ct_s, ct_n, ↓bI_01, bI_eq0, bI_eq1, nI_10, nI_01, dec_f, dec_t, if_n, eq_self, true_or, or_true, if_true, if_false, reduceIte]
      rw [if_neg hb]
      rfl
end Simple
