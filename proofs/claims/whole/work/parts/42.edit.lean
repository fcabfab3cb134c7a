/-! ===== calls that change a number or two of the court ===== -/
section Edit
variable {M : ax_M} {N : ax_L} {x y z : Int32}
theorem c57z {d n : Nat} {Q : Option Value → Nat → ax_H → Prop} {S : ax_S} {r mo wi : Nat} (hr : (r, mo, wi) ∈ rwt) : ax_W (d + 1) 57 0 [.ref r, .int (nI 0)] [] n (hx S M N) Q = Q none n (hx S (ux M r 3 (nI 0)) N) := by
  obtain ⟨g0, g1, g2, g3, g4, g5, g6, g7, g8, g9, g10⟩ := rwt_gf (S := S) (M := M) (N := N) hr
  simp only [s57_0, s57_1, s57_2, s57_3, s57_6, s57_7, s57_10, s57_13 g5, s57_16, g3]
  have e1 : mxI (nI 0) (mnI (M r 3) (nI 0)) = nI 0 := by
    unfold mxI mnI
    by_cases h1 : nI 0 < M r 3
    · rw [if_pos h1, if_neg (Int32.lt_irrefl)]
    · rw [if_neg h1, if_neg h1]
  rw [e1]
/-- book -/
theorem Inv_bk (hI : Inv M N) {a b : Nat} (ha : a < 5) (hb : b < 5) (h1 : (-3 : Int32) ≤ z) (h2 : z ≤ nI 3) : Inv (ux (ux M 25 (a * 5 + b) z) 85 (46 + 5 * a + b) z) N := by
  have hA : ux (ux M 25 (a * 5 + b) z) 85 (46 + 5 * a + b) z 85 = upd (M 85) (46 + 5 * a + b) z := by rw [ux_upd, ua_s, ux_f (by decide)]
  have hC := hI.1
  have hW := hI.2.1
  have b1 : -3 ≤ z.toInt := by have := Int32.le_iff_toInt_le.mp h1; simpa using this
  have b2 : z.toInt ≤ 3 := by have := Int32.le_iff_toInt_le.mp h2; rw [nI_toInt (by decide)] at this; exact this
  have u : ∀ j, j ≠ 46 + 5 * a + b → upd (M 85) (46 + 5 * a + b) z j = M 85 j := fun j hj => pk_un hj
  have m : ∀ c, c ≠ 25 → c ≠ 85 → ux (ux M 25 (a * 5 + b) z) 85 (46 + 5 * a + b) z c = M c := fun c e1 e2 => by rw [ux_f e2, ux_f e1]
  have e0 : ndA (upd (M 85) (46 + 5 * a + b) z) = ndA (M 85) := by unfold ndA; rw [u 0 (by omega)]
  refine Inv_court (A := upd (M 85) (46 + 5 * a + b) z) ?_ hA ?_ (fun a h => m a (by omega) (by omega)) (by rw [m 84 (by decide) (by decide)]) hI
  · refine RC_mk (RCd_eq (m 22 (by decide) (by decide)) (m 23 (by decide) (by decide)) (u 0 (by omega)) hW.1.2 (fun i _ _ => u i (by omega)) hC.pd) ⟨by rw [m 24 (by decide) (by decide)]; exact hC.pb.1, fun i hi => ?_⟩ (RCc_eq (m 26 (by decide) (by decide)) (m 27 (by decide) (by decide)) (u 3 (by omega)) hW.2.2.1.2 (fun i _ _ => u i (by omega)) hC.pc) (RCm_eq (m 28 (by decide) (by decide)) (m 29 (by decide) (by decide)) (u 4 (by omega)) hW.2.2.2.1.2 (fun i _ _ => u i (by omega)) hC.pm) (RCr_eq (m 30 (by decide) (by decide)) (m 31 (by decide) (by decide)) (u 5 (by omega)) hW.r (fun i _ _ => u i (by omega)) hC.pr) (RCh_eq (m 21 (by decide) (by decide)) (u 1 (by omega)) (u 2 (by omega)) hC.ph)
    show ux (ux M 25 (a * 5 + b) z) 85 (46 + 5 * a + b) z 25 i = _
    rw [ux_a (by decide)]
    by_cases e : i = a * 5 + b
    · rw [e, ux_s, show 46 + (a * 5 + b) = 46 + 5 * a + b by omega, pk_us]
    · rw [ux_j e, u _ (by omega)]; exact hC.pb.2 i hi
  · refine WF_mk (WFd_eq (u 0 (by omega)) (u 1 (by omega)) (fun i _ _ => u i (by omega)) hW.d) ?_ (WFc_eq (Nat.le_of_eq e0.symm) (u 2 (by omega)) (u 3 (by omega)) (fun i _ _ => u i (by omega)) hW.c) (WFm_eq (Nat.le_of_eq e0.symm) (u 4 (by omega)) (fun i _ _ => u i (by omega)) hW.m) (WFr_eq (Nat.le_of_eq e0.symm) (u 5 (by omega)) (fun i _ _ => u i (by omega)) hW.r)
    intro a2 b2 ha2 hb2
    unfold bkA
    by_cases e : 46 + 5 * a2 + b2 = 46 + 5 * a + b
    · rw [e, pk_us]; omega
    · rw [u _ e]; exact hW.b a2 b2 ha2 hb2
theorem p2 (hI : Inv M N) : RPi 83 148 [.ref 20, .int x, .int y, .int z, ax_dm] [.ref 84, .int x, .int y, .int z, ax_dm] M N := by
  have bad : ¬ ((nI 0 ≤ x ∧ x ≤ nI 4) ∧ (nI 0 ≤ y ∧ y ≤ nI 4) ∧ ((-3 : Int32) ≤ z ∧ z ≤ nI 3)) → RPi 83 148 [.ref 20, .int x, .int y, .int z, ax_dm] [.ref 84, .int x, .int y, .int z, ax_dm] M N := by
    intro hb
    refine ⟨-10, ux M 20 13 (M 20 13 + nI 1), N, rjM M 0, N, fun S d n Q => ?_, fun S d n Q => ?_, Inv_rj (by decide) hI⟩
    · simp only [↓s83_0, ↓s83_1, ↓s83_4, ↓s83_7, ↓s83_8, ↓s83_11, ↓s83_14, ↓s83_15, ↓s83_17, ↓s83_18, ↓s83_21, ↓s83_24, ↓s83_25, ↓s83_27, ↓s83_29, ↓s83_32, ↓s83_33, ↓s83_34, ↓s83_37, ↓s83_40, ↓s83_41, ↓s83_42, ↓s83_45, ↓s83_47, ↓s83_48, ↓s83_51, ↓s83_54, ↓s83_55, ↓s83_56, ↓s83_57, ↓s83_60, ↓s83_62, jc_20, gf_20_0, gf_20_1, gf_20_2, gf_20_3, gf_20_4, gf_20_5, gf_20_6, gf_20_7, gf_20_8, gf_20_9, gf_20_10, gf_20_11, ok_20_11, gf_20_12, ok_20_12, gf_20_13, ok_20_13, gf_20_14, ok_20_14, gf_20_15, ok_20_15, jc_21, gf_21_0, gf_21_1, gf_21_2, gf_21_3, gf_21_4, gf_21_5, ok_21_5, gf_21_6, ok_21_6, ↓c121, ↓c123, ↓c116, refM_b, ct_s, ct_n, ↓bI_01, bI_eq0, bI_eq1, nI_10, nI_01, dec_f, dec_t, if_n, eq_self, true_or, or_true, if_true, if_false, reduceIte]
      by_cases h1 : nI 0 ≤ x ∧ x ≤ nI 4
      · rw [if_pos h1]
        by_cases h2 : nI 0 ≤ y ∧ y ≤ nI 4
        · rw [if_pos h2, if_neg (fun q => hb ⟨h1, h2, q⟩)]
        · rw [if_neg h2]
      · rw [if_neg h1]
    · simp only [↓s148_0, ↓s148_1, ↓s148_4, ↓s148_7, ↓s148_8, ↓s148_11, ↓s148_14, ↓s148_15, ↓s148_16, ↓s148_19, ↓s148_22, ↓s148_25, ↓s148_28, ↓s148_29, ↓s148_31, ↓s148_34, ↓s148_35, ↓s148_36, ↓s148_39, ↓s148_41, ↓s148_42, ↓s148_43, ↓s148_44, ↓s148_45, ↓s148_46, ↓s148_47, ↓s148_48, ↓s148_50, ↓s148_51, ↓s148_54, ↓s148_56, ↓s148_57, ↓s148_58, ↓s148_59, ↓s148_60, ↓s148_61, ↓s148_62, ↓s148_63, ↓s148_64, ↓s148_66, jc_84, gf_84_0, gf_84_1, gf_84_2, gf_84_3, gf_84_4, ok_84_4, gf_84_5, ok_84_5, gf_84_6, ok_84_6, gf_84_7, ok_84_7, gf_84_8, ok_84_8, gf_84_9, ok_84_9, gf_84_10, gf_84_11, gf_84_12, gf_84_13, gf_84_14, gf_84_15, gf_84_16, gf_84_17, ok_84_17, gf_84_18, gf_84_19, ok_84_19, gf_84_20, ok_84_20, gf_84_21, gf_84_22, gf_84_23, gf_84_24, ok_84_24, gf_84_25, ok_84_25, gf_84_26, ok_84_26, gf_84_27, ok_84_27, gf_84_28, ok_84_28, gf_84_29, gf_84_30, ↓c143, ↓c135 (l := -3) (q := -3) (m := nI 3) (r := 3) rfl rfl, ↓c136, ux88, ct_s, ct_n, ↓bI_01, bI_eq0, bI_eq1, nI_10, nI_01, dec_f, dec_t, if_n, eq_self, true_or, or_true, if_true, if_false, reduceIte]
      by_cases h1 : nI 0 ≤ x ∧ x ≤ nI 4
      · rw [if_pos h1]
        by_cases h2 : nI 0 ≤ y ∧ y ≤ nI 4
        · rw [if_pos h2, if_neg (fun q => hb ⟨h1, h2, q⟩)]
          rfl
        · rw [if_neg h2]
          rfl
      · rw [if_neg h1]
        rfl
  by_cases h1 : nI 0 ≤ x ∧ x ≤ nI 4
  · by_cases h2 : nI 0 ≤ y ∧ y ≤ nI 4
    · by_cases h3 : (-3 : Int32) ≤ z ∧ z ≤ nI 3
      · obtain ⟨ex, -⟩ := le_tn h1.1
        obtain ⟨ey, -⟩ := le_tn h2.1
        have lx : tn x < 5 := lt_tn (k := 5) (by decide) h1.1 (Int32.lt_of_le_of_lt h1.2 (by decide))
        have ly : tn y < 5 := lt_tn (k := 5) (by decide) h2.1 (Int32.lt_of_le_of_lt h2.2 (by decide))
        generalize tn x = a at ex lx
        generalize tn y = b at ey ly
        subst ex; subst ey
        refine ⟨iI (bkA (M 85) a b), ux M 25 (a * 5 + b) z, N, ux (ux M 25 (a * 5 + b) z) 85 (46 + 5 * a + b) z, N, fun S d n Q => ?_, fun S d n Q => ?_, Inv_bk hI lx ly h3.1 h3.2⟩
        · simp only [↓s83_0, ↓s83_1, ↓s83_4, ↓s83_7, ↓s83_8, ↓s83_11, ↓s83_14, ↓s83_15, ↓s83_17, ↓s83_18, ↓s83_21, ↓s83_24, ↓s83_25, ↓s83_27, ↓s83_29, ↓s83_32, ↓s83_33, ↓s83_34, ↓s83_37, ↓s83_40, ↓s83_41, ↓s83_42, ↓s83_45, ↓s83_47, ↓s83_48, ↓s83_51, ↓s83_54, ↓s83_55, ↓s83_56, ↓s83_57, ↓s83_60, ↓s83_62, jc_20, gf_20_0, gf_20_1, gf_20_2, gf_20_3, gf_20_4, gf_20_5, gf_20_6, gf_20_7, gf_20_8, gf_20_9, gf_20_10, gf_20_11, ok_20_11, gf_20_12, ok_20_12, gf_20_13, ok_20_13, gf_20_14, ok_20_14, gf_20_15, ok_20_15, jc_21, gf_21_0, gf_21_1, gf_21_2, gf_21_3, gf_21_4, gf_21_5, ok_21_5, gf_21_6, ok_21_6, jc_24, gf_24_0, gf_24_1, gf_24_2, gf_24_3, ok_24_3, ↓c121, ↓c123, ↓c54 h24 (cap24 hI.1), ↓c55 h24 (cap24 hI.1), rd_book hI.1 lx ly, rput_in hI.1.2.1 (by decide) lx (by decide) ly, ct_s, ct_n, ↓bI_01, bI_eq0, bI_eq1, nI_10, nI_01, dec_f, dec_t, if_n, eq_self, true_or, or_true, if_true, if_false, reduceIte]
          rw [if_pos h1, if_pos h2, if_pos h3]
        · simp only [↓s148_0, ↓s148_1, ↓s148_4, ↓s148_7, ↓s148_8, ↓s148_11, ↓s148_14, ↓s148_15, ↓s148_16, ↓s148_19, ↓s148_22, ↓s148_25, ↓s148_28, ↓s148_29, ↓s148_31, ↓s148_34, ↓s148_35, ↓s148_36, ↓s148_39, ↓s148_41, ↓s148_42, ↓s148_43, ↓s148_44, ↓s148_45, ↓s148_46, ↓s148_47, ↓s148_48, ↓s148_50, ↓s148_51, ↓s148_54, ↓s148_56, ↓s148_57, ↓s148_58, ↓s148_59, ↓s148_60, ↓s148_61, ↓s148_62, ↓s148_63, ↓s148_64, ↓s148_66, jc_84, gf_84_0, gf_84_1, gf_84_2, gf_84_3, gf_84_4, ok_84_4, gf_84_5, ok_84_5, gf_84_6, ok_84_6, gf_84_7, ok_84_7, gf_84_8, ok_84_8, gf_84_9, ok_84_9, gf_84_10, gf_84_11, gf_84_12, gf_84_13, gf_84_14, gf_84_15, gf_84_16, gf_84_17, ok_84_17, gf_84_18, gf_84_19, ok_84_19, gf_84_20, ok_84_20, gf_84_21, gf_84_22, gf_84_23, gf_84_24, ok_84_24, gf_84_25, ok_84_25, gf_84_26, ok_84_26, gf_84_27, ok_84_27, gf_84_28, ok_84_28, gf_84_29, gf_84_30, ↓c143, ↓c135 (l := -3) (q := -3) (m := nI 3) (r := 3) rfl rfl, nI_add, pk_mul, al_85 (show 46 + 5 * a + b < 181 by omega), sa_85 (show 46 + 5 * a + b < 181 by omega), ux_a (show 85 ≠ 25 by decide), ct_s, ct_n, ↓bI_01, bI_eq0, bI_eq1, nI_10, nI_01, dec_f, dec_t, if_n, eq_self, true_or, or_true, if_true, if_false, reduceIte]
          rw [if_pos h1, if_pos h2, if_pos h3, show M 85 (46 + 5 * a + b) = iI (bkA (M 85) a b) from (iI_to _).symm]
      · exact bad (fun q => h3 q.2.2)
    · exact bad (fun q => h2 q.2.1)
  · exact bad (fun q => h1 q.1)
/-- a count is 0 -/
theorem Inv_wipe (hI : Inv M N) : Inv (ux (ux M 28 3 (nI 0)) 85 4 (nI 0)) N := by
  have hA : ux (ux M 28 3 (nI 0)) 85 4 (nI 0) 85 = upd (M 85) 4 (nI 0) := by rw [ux_upd, ua_s, ux_f (by decide)]
  have hC := hI.1
  have hW := hI.2.1
  have u : ∀ j, j ≠ 4 → upd (M 85) 4 (nI 0) j = M 85 j := fun j hj => pk_un hj
  have m : ∀ c, c ≠ 28 → c ≠ 85 → ux (ux M 28 3 (nI 0)) 85 4 (nI 0) c = M c := fun c e1 e2 => by rw [ux_f e2, ux_f e1]
  have e0 : ndA (upd (M 85) 4 (nI 0)) = ndA (M 85) := by unfold ndA; rw [u 0 (by omega)]
  refine Inv_court (A := upd (M 85) 4 (nI 0)) ?_ hA ?_ (fun a h => m a (by omega) (by omega)) (by rw [m 84 (by decide) (by decide)]) hI
  · refine RC_mk (RCd_eq (m 22 (by decide) (by decide)) (m 23 (by decide) (by decide)) (u 0 (by omega)) hW.1.2 (fun i _ _ => u i (by omega)) hC.pd) (RCb_eq (m 24 (by decide) (by decide)) (m 25 (by decide) (by decide)) (fun i _ _ => u i (by omega)) hC.pb) (RCc_eq (m 26 (by decide) (by decide)) (m 27 (by decide) (by decide)) (u 3 (by omega)) hW.2.2.1.2 (fun i _ _ => u i (by omega)) hC.pc) ⟨?_, fun i hi => ?_⟩ (RCr_eq (m 30 (by decide) (by decide)) (m 31 (by decide) (by decide)) (u 5 (by omega)) hW.r (fun i _ _ => u i (by omega)) hC.pr) (RCh_eq (m 21 (by decide) (by decide)) (u 1 (by omega)) (u 2 (by omega)) hC.ph)
    · show ux (ux M 28 3 (nI 0)) 85 4 (nI 0) 28 3 = _
      rw [ux_a (by decide), ux_s, pk_us]
    · unfold nmA at hi
      rw [pk_us] at hi
      have hi : i < 0 := hi
      omega
  · exact WF_mk (WFd_eq (u 0 (by omega)) (u 1 (by omega)) (fun i _ _ => u i (by omega)) hW.d) (WFb_eq (fun i _ _ => u i (by omega)) hW.b) (WFc_eq (Nat.le_of_eq e0.symm) (u 2 (by omega)) (u 3 (by omega)) (fun i _ _ => u i (by omega)) hW.c) (WFm_0 pk_us) (WFr_eq (Nat.le_of_eq e0.symm) (u 5 (by omega)) (fun i _ _ => u i (by omega)) hW.r)
theorem p14 (hI : Inv M N) : RPi 95 168 [.ref 20, ax_dm] [.ref 84, ax_dm] M N := by
  refine ⟨M 85 4, ux M 28 3 (nI 0), N, ux (ux M 28 3 (nI 0)) 85 4 (nI 0), N, fun S d n Q => ?_, fun S d n Q => ?_, Inv_wipe hI⟩
  · simp only [↓s95_0, ↓s95_1, ↓s95_4, ↓s95_7, ↓s95_10, ↓s95_11, ↓s95_12, ↓s95_15, ↓s95_18, ↓s95_19, ↓s95_22, ↓s95_23, jc_20, gf_20_0, gf_20_1, gf_20_2, gf_20_3, gf_20_4, gf_20_5, gf_20_6, gf_20_7, gf_20_8, gf_20_9, gf_20_10, gf_20_11, ok_20_11, gf_20_12, ok_20_12, gf_20_13, ok_20_13, gf_20_14, ok_20_14, gf_20_15, ok_20_15, jc_21, gf_21_0, gf_21_1, gf_21_2, gf_21_3, gf_21_4, gf_21_5, ok_21_5, gf_21_6, ok_21_6, jc_28, gf_28_0, gf_28_1, gf_28_2, gf_28_3, ok_28_3, ↓c53 h28, ↓c57z h28, show M 28 3 = M 85 4 from hI.1.2.2.2.1, ct_s, ct_n, ↓bI_01, bI_eq0, bI_eq1, nI_10, nI_01, dec_f, dec_t, if_n, eq_self, true_or, or_true, if_true, if_false, reduceIte]
  · simp only [↓s168_0, ↓s168_1, ↓s168_4, ↓s168_5, ↓s168_6, ↓s168_7, ↓s168_8, ↓s168_11, ↓s168_12, ↓s168_13, ↓s168_14, ↓s168_15, jc_84, gf_84_0, gf_84_1, gf_84_2, gf_84_3, gf_84_4, ok_84_4, gf_84_5, ok_84_5, gf_84_6, ok_84_6, gf_84_7, ok_84_7, gf_84_8, ok_84_8, gf_84_9, ok_84_9, gf_84_10, gf_84_11, gf_84_12, gf_84_13, gf_84_14, gf_84_15, gf_84_16, gf_84_17, ok_84_17, gf_84_18, gf_84_19, ok_84_19, gf_84_20, ok_84_20, gf_84_21, gf_84_22, gf_84_23, gf_84_24, ok_84_24, gf_84_25, ok_84_25, gf_84_26, ok_84_26, gf_84_27, ok_84_27, gf_84_28, ok_84_28, gf_84_29, gf_84_30, al_85 (show 4 < 181 by decide), sa_85 (show 4 < 181 by decide), ux_a (show 85 ≠ 28 by decide), ct_s, ct_n, ↓bI_01, bI_eq0, bI_eq1, nI_10, nI_01, dec_f, dec_t, if_n, eq_self, true_or, or_true, if_true, if_false, reduceIte]
theorem Inv_forget (hI : Inv M N) : Inv (ux (ux M 30 3 (nI 0)) 85 5 (nI 0)) N := by
  have hA : ux (ux M 30 3 (nI 0)) 85 5 (nI 0) 85 = upd (M 85) 5 (nI 0) := by rw [ux_upd, ua_s, ux_f (by decide)]
  have hC := hI.1
  have hW := hI.2.1
  have u : ∀ j, j ≠ 5 → upd (M 85) 5 (nI 0) j = M 85 j := fun j hj => pk_un hj
  have m : ∀ c, c ≠ 30 → c ≠ 85 → ux (ux M 30 3 (nI 0)) 85 5 (nI 0) c = M c := fun c e1 e2 => by rw [ux_f e2, ux_f e1]
  have e0 : ndA (upd (M 85) 5 (nI 0)) = ndA (M 85) := by unfold ndA; rw [u 0 (by omega)]
  refine Inv_court (A := upd (M 85) 5 (nI 0)) ?_ hA ?_ (fun a h => m a (by omega) (by omega)) (by rw [m 84 (by decide) (by decide)]) hI
  · refine RC_mk (RCd_eq (m 22 (by decide) (by decide)) (m 23 (by decide) (by decide)) (u 0 (by omega)) hW.1.2 (fun i _ _ => u i (by omega)) hC.pd) (RCb_eq (m 24 (by decide) (by decide)) (m 25 (by decide) (by decide)) (fun i _ _ => u i (by omega)) hC.pb) (RCc_eq (m 26 (by decide) (by decide)) (m 27 (by decide) (by decide)) (u 3 (by omega)) hW.2.2.1.2 (fun i _ _ => u i (by omega)) hC.pc) (RCm_eq (m 28 (by decide) (by decide)) (m 29 (by decide) (by decide)) (u 4 (by omega)) hW.2.2.2.1.2 (fun i _ _ => u i (by omega)) hC.pm) ⟨?_, fun r w hr _ => ?_⟩ (RCh_eq (m 21 (by decide) (by decide)) (u 1 (by omega)) (u 2 (by omega)) hC.ph)
    · show ux (ux M 30 3 (nI 0)) 85 5 (nI 0) 30 3 = _
      rw [ux_a (by decide), ux_s, pk_us]
    · unfold nrA at hr
      rw [pk_us] at hr
      have hr : r < 0 := hr
      omega
  · exact WF_mk (WFd_eq (u 0 (by omega)) (u 1 (by omega)) (fun i _ _ => u i (by omega)) hW.d) (WFb_eq (fun i _ _ => u i (by omega)) hW.b) (WFc_eq (Nat.le_of_eq e0.symm) (u 2 (by omega)) (u 3 (by omega)) (fun i _ _ => u i (by omega)) hW.c) (WFm_eq (Nat.le_of_eq e0.symm) (u 4 (by omega)) (fun i _ _ => u i (by omega)) hW.m) (WFr_0 pk_us)
theorem p23 (hI : Inv M N) : RPi 104 187 [.ref 20, ax_dm] [.ref 84, ax_dm] M N := by
  refine ⟨M 85 5, ux M 30 3 (nI 0), N, ux (ux M 30 3 (nI 0)) 85 5 (nI 0), N, fun S d n Q => ?_, fun S d n Q => ?_, Inv_forget hI⟩
  · simp only [↓s104_0, ↓s104_1, ↓s104_4, ↓s104_7, ↓s104_10, ↓s104_11, ↓s104_12, ↓s104_15, ↓s104_18, ↓s104_19, ↓s104_22, ↓s104_23, jc_20, gf_20_0, gf_20_1, gf_20_2, gf_20_3, gf_20_4, gf_20_5, gf_20_6, gf_20_7, gf_20_8, gf_20_9, gf_20_10, gf_20_11, ok_20_11, gf_20_12, ok_20_12, gf_20_13, ok_20_13, gf_20_14, ok_20_14, gf_20_15, ok_20_15, jc_21, gf_21_0, gf_21_1, gf_21_2, gf_21_3, gf_21_4, gf_21_5, ok_21_5, gf_21_6, ok_21_6, jc_30, gf_30_0, gf_30_1, gf_30_2, gf_30_3, ok_30_3, ↓c53 h30, ↓c57z h30, show M 30 3 = M 85 5 from hI.1.2.2.2.2.1, ct_s, ct_n, ↓bI_01, bI_eq0, bI_eq1, nI_10, nI_01, dec_f, dec_t, if_n, eq_self, true_or, or_true, if_true, if_false, reduceIte]
  · simp only [↓s187_0, ↓s187_1, ↓s187_4, ↓s187_5, ↓s187_6, ↓s187_7, ↓s187_8, ↓s187_11, ↓s187_12, ↓s187_13, ↓s187_14, ↓s187_15, jc_84, gf_84_0, gf_84_1, gf_84_2, gf_84_3, gf_84_4, ok_84_4, gf_84_5, ok_84_5, gf_84_6, ok_84_6, gf_84_7, ok_84_7, gf_84_8, ok_84_8, gf_84_9, ok_84_9, gf_84_10, gf_84_11, gf_84_12, gf_84_13, gf_84_14, gf_84_15, gf_84_16, gf_84_17, ok_84_17, gf_84_18, gf_84_19, ok_84_19, gf_84_20, ok_84_20, gf_84_21, gf_84_22, gf_84_23, gf_84_24, ok_84_24, gf_84_25, ok_84_25, gf_84_26, ok_84_26, gf_84_27, ok_84_27, gf_84_28, ok_84_28, gf_84_29, gf_84_30, al_85 (show 5 < 181 by decide), sa_85 (show 5 < 181 by decide), ux_a (show 85 ≠ 30 by decide), ct_s, ct_n, ↓bI_01, bI_eq0, bI_eq1, nI_10, nI_01, dec_f, dec_t, if_n, eq_self, true_or, or_true, if_true, if_false, reduceIte]
end Edit
