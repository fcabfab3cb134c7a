/-! ===== dish ===== -/
section Dish
variable {M : ax_M} {N : ax_L} {x0 x1 x2 x3 x4 : Int32} {A : ax_A0}
theorem al_o1 {S : ax_S} {k : Nat} (h : k < 5) : al (hx S M N) 1 (nI k) = some (ax_ofL [0, 0, 1, 0, 0] k) := by
  unfold al
  rw [show hx S M N 1 = .inl (0, 5, ax_ofL [0, 0, 1, 0, 0]) from rfl]
  dsimp only
  rw [nI_clamp (by omega), if_pos ⟨rfl, fun q => q.elim (fun z => nI_pos (n := k) (by omega) z) (fun z => by omega)⟩]
theorem al_o2 {S : ax_S} {k : Nat} (h : k < 5) : al (hx S M N) 2 (nI k) = some (ax_ofL [5, 4, 9, 9, 2] k) := by
  unfold al
  rw [show hx S M N 2 = .inl (0, 5, ax_ofL [5, 4, 9, 9, 2]) from rfl]
  dsimp only
  rw [nI_clamp (by omega), if_pos ⟨rfl, fun q => q.elim (fun z => nI_pos (n := k) (by omega) z) (fun z => by omega)⟩]
theorem c125 {d n : Nat} {Q : Option Value → Nat → ax_H → Prop} {S : ax_S} {x : Int32} {k lo hi : Nat} (hk : k < 5) (hlo : ax_ofL [0, 0, 1, 0, 0] k = nI lo) (hhi : ax_ofL [5, 4, 9, 9, 2] k = nI hi) : ax_W (d + 1) 125 0 [.int (nI k), .int x] [] n (hx S M N) Q = Q (some (.int (bI (decide (nI lo ≤ x ∧ x ≤ nI hi))))) n (hx S M N) := by
  simp only [↓s125_0, ↓s125_1, ↓s125_2, ↓s125_3, ↓s125_6, ↓c121, ct_s, ct_n, ↓bI_01, bI_eq0, bI_eq1, nI_10, nI_01, dec_f, dec_t, if_n, eq_self, true_or, or_true, if_true, if_false, reduceIte]
  rw [if_pos (rng_of (by decide) (by omega))]
  simp only [↓s125_9, ↓s125_10, ↓s125_13, ↓s125_14, ↓s125_15, ↓s125_18, ↓s125_19, ↓s125_20, ↓s125_23, al_o1 hk, al_o2 hk, hlo, hhi, ↓c121, ct_s, ct_n, ↓bI_01, bI_eq0, bI_eq1, nI_10, nI_01, dec_f, dec_t, if_n, eq_self, true_or, or_true, if_true, if_false, reduceIte]
  by_cases h : nI lo ≤ x ∧ x ≤ nI hi
  · rw [if_pos h, bI_t h]
    simp only [↓s125_26, ↓s125_27, ↓s125_30, ↓s125_31, ct_s, ct_n, ↓bI_01, bI_eq0, bI_eq1, nI_10, nI_01, dec_f, dec_t, if_n, eq_self, true_or, or_true, if_true, if_false, reduceIte]
  · rw [if_neg h, bI_f h]
    simp only [↓s125_30, ↓s125_31, ct_s, ct_n, ↓bI_01, bI_eq0, bI_eq1, nI_10, nI_01, dec_f, dec_t, if_n, eq_self, true_or, or_true, if_true, if_false, reduceIte]
def dshA (A : ax_A0) (x0 x1 x2 x3 x4 : Int32) : ax_A0 := fun j => if j = 0 then nI (ndA A + 1) else if j = 6 + 5 * ndA A + 4 then x4 else if j = 6 + 5 * ndA A + 3 then x3 else if j = 6 + 5 * ndA A + 2 then x2 else if j = 6 + 5 * ndA A + 1 then x1 else if j = 6 + 5 * ndA A + 0 then x0 else A j
theorem dshA_o {j : Nat} (h0 : j ≠ 0) (h : j < 6 + 5 * ndA A ∨ 10 + 5 * ndA A < j) : dshA A x0 x1 x2 x3 x4 j = A j := by
  unfold dshA
  rw [if_neg h0, if_neg (by omega), if_neg (by omega), if_neg (by omega), if_neg (by omega), if_neg (by omega)]
theorem dshA_wf (hW : WF A) {k t f b c : Nat} (hn : ndA A < 8) (hk : k ≤ 5) (ht : t ≤ 4) (hf1 : 1 ≤ f) (hf : f ≤ 9) (hb : b ≤ 9) (hc : c ≤ 2) : WF (dshA A (nI k) (nI t) (nI f) (nI b) (nI c)) := by
  have en : ndA (dshA A (nI k) (nI t) (nI f) (nI b) (nI c)) = ndA A + 1 := by
    unfold ndA
    rw [show dshA A (nI k) (nI t) (nI f) (nI b) (nI c) 0 = nI (ndA A + 1) from rfl]
    exact tn_nI (by omega)
  have u : ∀ j, j ≠ 0 → (j < 6 + 5 * ndA A ∨ 10 + 5 * ndA A < j) → dshA A (nI k) (nI t) (nI f) (nI b) (nI c) j = A j := fun j h0 h => dshA_o h0 h
  obtain ⟨w0, w1, w2⟩ := hW.d
  refine WF_mk ⟨⟨by rw [en]; rfl, by omega⟩, ?_, fun d hd => ?_⟩ (WFb_eq (fun i _ _ => u i (by omega) (by omega)) hW.b) (WFc_eq (by omega) (u 2 (by omega) (by omega)) (u 3 (by omega) (by omega)) (fun i _ _ => u i (by omega) (by omega)) hW.c) (WFm_eq (by omega) (u 4 (by omega) (by omega)) (fun i _ _ => u i (by omega) (by omega)) hW.m) (WFr_eq (by omega) (u 5 (by omega) (by omega)) (fun i _ _ => u i (by omega) (by omega)) hW.r)
  · unfold huA
    rw [u 1 (by omega) (by omega)]
    exact w1
  · rw [en] at hd
    by_cases e : d < ndA A
    · unfold kdA taA foA buA coA
      rw [u _ (by omega) (by omega), u _ (by omega) (by omega), u _ (by omega) (by omega), u _ (by omega) (by omega), u _ (by omega) (by omega)]
      exact w2 d e
    · have e : d = ndA A := by omega
      subst e
      have y0 : dshA A (nI k) (nI t) (nI f) (nI b) (nI c) (6 + 5 * ndA A) = nI k := by unfold dshA; rw [if_neg (by omega), if_neg (by omega), if_neg (by omega), if_neg (by omega), if_neg (by omega), if_pos (by omega)]
      have y1 : dshA A (nI k) (nI t) (nI f) (nI b) (nI c) (7 + 5 * ndA A) = nI t := by unfold dshA; rw [if_neg (by omega), if_neg (by omega), if_neg (by omega), if_neg (by omega), if_pos (by omega)]
      have y2 : dshA A (nI k) (nI t) (nI f) (nI b) (nI c) (8 + 5 * ndA A) = nI f := by unfold dshA; rw [if_neg (by omega), if_neg (by omega), if_neg (by omega), if_pos (by omega)]
      have y3 : dshA A (nI k) (nI t) (nI f) (nI b) (nI c) (9 + 5 * ndA A) = nI b := by unfold dshA; rw [if_neg (by omega), if_neg (by omega), if_pos (by omega)]
      have y4 : dshA A (nI k) (nI t) (nI f) (nI b) (nI c) (10 + 5 * ndA A) = nI c := by unfold dshA; rw [if_neg (by omega), if_pos (by omega)]
      unfold kdA taA foA buA coA
      rw [y0, y1, y2, y3, y4, tn_nI (by omega), tn_nI (by omega), tn_nI (by omega), tn_nI (by omega), tn_nI (by omega)]
      exact ⟨⟨rfl, hk⟩, ⟨rfl, ht⟩, ⟨rfl, hf1, hf⟩, ⟨rfl, hb⟩, ⟨rfl, hc⟩⟩
theorem c146 {d n : Nat} {Q : Option Value → Nat → ax_H → Prop} {S : ax_S} {a m : Nat} (ha : okA a 181 = true) (hm : M a 0 = nI m) (h8 : m < 8) : ax_W d 146 0 [.ref a, .int x0, .int x1, .int x2, .int x3, .int x4, ax_dm] [] n (hx S M N) Q = Q none n (hx S (ux (ux (ux (ux (ux (ux M a (6 + 5 * m + 0) x0) a (6 + 5 * m + 1) x1) a (6 + 5 * m + 2) x2) a (6 + 5 * m + 3) x3) a (6 + 5 * m + 4) x4) a 0 (nI (m + 1))) N) := by
  simp only [↓s146_0, ↓s146_2, ↓s146_3, ↓s146_4, ↓s146_5, ↓s146_6, ↓s146_7, ↓s146_8, ↓s146_10, ↓s146_11, ↓s146_13, ↓s146_14, ↓s146_15, ↓s146_16, ↓s146_17, ↓s146_18, ↓s146_20, ↓s146_21, ↓s146_22, ↓s146_23, ↓s146_24, ↓s146_25, ↓s146_27, ↓s146_28, ↓s146_29, ↓s146_30, ↓s146_31, ↓s146_32, ↓s146_34, ↓s146_35, ↓s146_36, ↓s146_38, ↓s146_39, ↓s146_40, ↓s146_42, ↓s146_43, ↓s146_44, ↓s146_46, ↓s146_47, ↓s146_48, ↓s146_49, ↓s146_50, ↓s146_51, ↓s146_52, ↓s146_53, ↓s146_54, hx_alG ha (show 0 < 181 by decide), hm, pk_mul, nI_add, hx_saG ha (show 6 + 5 * m + 0 < 181 by omega), hx_saG ha (show 6 + 5 * m + 1 < 181 by omega), hx_saG ha (show 6 + 5 * m + 2 < 181 by omega), hx_saG ha (show 6 + 5 * m + 3 < 181 by omega), hx_saG ha (show 6 + 5 * m + 4 < 181 by omega), hx_saG ha (show 0 < 181 by decide), ux_j (show 0 ≠ 6 + 5 * m + 0 by omega), ux_j (show 0 ≠ 6 + 5 * m + 1 by omega), ux_j (show 0 ≠ 6 + 5 * m + 2 by omega), ux_j (show 0 ≠ 6 + 5 * m + 3 by omega), ux_j (show 0 ≠ 6 + 5 * m + 4 by omega)]
theorem p1_bad (hI : Inv M N) (hb : ¬ ((nI 0 ≤ x0 ∧ x0 ≤ nI 5) ∧ (nI 0 ≤ x1 ∧ x1 ≤ nI 4) ∧ (nI 1 ≤ x2 ∧ x2 ≤ nI 9) ∧ (nI 0 ≤ x3 ∧ x3 ≤ nI 9) ∧ (nI 0 ≤ x4 ∧ x4 ≤ nI 2))) : RPi 82 147 [.ref 20, .int x0, .int x1, .int x2, .int x3, .int x4, ax_dm] [.ref 84, .int x0, .int x1, .int x2, .int x3, .int x4] M N := by
  refine ⟨-2, ux M 20 13 (M 20 13 + nI 1), N, rjM M 0, N, fun S d n Q => ?_, fun S d n Q => ?_, Inv_rj (by decide) hI⟩
  · simp only [↓s82_0, ↓s82_1, ↓s82_2, ↓s82_5, ↓s82_8, ↓s82_9, ↓s82_10, ↓s82_13, ↓s82_16, ↓s82_17, ↓s82_18, ↓s82_21, ↓s82_24, ↓s82_25, ↓s82_27, ↓s82_30, ↓s82_33, ↓s82_34, ↓s82_36, ↓s82_39, ↓s82_42, ↓s82_43, ↓s82_45, ↓s82_47, ↓s82_50, ↓c125 (k := 0) (lo := 0) (hi := 5) (by decide) rfl rfl, ↓c125 (k := 1) (lo := 0) (hi := 4) (by decide) rfl rfl, ↓c125 (k := 2) (lo := 1) (hi := 9) (by decide) rfl rfl, ↓c125 (k := 3) (lo := 0) (hi := 9) (by decide) rfl rfl, ↓c125 (k := 4) (lo := 0) (hi := 2) (by decide) rfl rfl, jc_20, ↓c116, refM_b, ct_s, ct_n, ↓bI_01, bI_eq0, bI_eq1, nI_10, nI_01, dec_f, dec_t, if_n, eq_self, true_or, or_true, if_true, if_false, reduceIte]
    by_cases h0 : nI 0 ≤ x0 ∧ x0 ≤ nI 5
    · rw [if_pos h0]
      by_cases h1 : nI 0 ≤ x1 ∧ x1 ≤ nI 4
      · rw [if_pos h1]
        by_cases h2 : nI 1 ≤ x2 ∧ x2 ≤ nI 9
        · rw [if_pos h2]
          by_cases h3 : nI 0 ≤ x3 ∧ x3 ≤ nI 9
          · rw [if_pos h3, if_neg (fun q => hb ⟨h0, h1, h2, h3, q⟩)]
          · rw [if_neg h3]
        · rw [if_neg h2]
      · rw [if_neg h1]
    · rw [if_neg h0]
  · simp only [↓s147_0, ↓s147_1, ↓s147_2, ↓s147_3, ↓s147_6, ↓s147_9, ↓s147_12, ↓s147_13, ↓s147_16, ↓s147_19, ↓s147_20, ↓s147_21, ↓s147_22, ↓s147_25, ↓s147_28, ↓s147_31, ↓s147_33, ↓s147_34, ↓s147_35, ↓s147_38, ↓s147_41, ↓s147_44, ↓s147_46, ↓s147_47, ↓s147_48, ↓s147_51, ↓s147_54, ↓s147_57, ↓s147_58, ↓s147_60, ↓s147_63, ↓c135 (l := nI 0) (q := 0) (m := nI 5) (r := 5) rfl rfl, ↓c143, ↓c135 (l := nI 1) (q := 1) (m := nI 9) (r := 9) rfl rfl, ↓c135 (l := nI 0) (q := 0) (m := nI 9) (r := 9) rfl rfl, ↓c135 (l := nI 0) (q := 0) (m := nI 2) (r := 2) rfl rfl, jc_84, ↓c136, ux88, ct_s, ct_n, ↓bI_01, bI_eq0, bI_eq1, nI_10, nI_01, dec_f, dec_t, if_n, eq_self, true_or, or_true, if_true, if_false, reduceIte]
    have fin : rjM M 0 = ux (ux M 20 13 (M 20 13 + nI 1)) 88 0 (M 88 0 + nI 1) := rfl
    rw [fin]
    by_cases h0 : nI 0 ≤ x0 ∧ x0 ≤ nI 5
    · rw [if_pos h0]
      by_cases h1 : nI 0 ≤ x1 ∧ x1 ≤ nI 4
      · rw [if_pos h1]
        by_cases h2 : nI 1 ≤ x2 ∧ x2 ≤ nI 9
        · rw [if_pos h2]
          by_cases h3 : nI 0 ≤ x3 ∧ x3 ≤ nI 9
          · rw [if_pos h3, if_neg (fun q => hb ⟨h0, h1, h2, h3, q⟩)]
          · rw [if_neg h3]
        · rw [if_neg h2]
      · rw [if_neg h1]
    · rw [if_neg h0]
set_option maxHeartbeats 2000000 in
theorem p1 (hI : Inv M N) : RPi 82 147 [.ref 20, .int x0, .int x1, .int x2, .int x3, .int x4, ax_dm] [.ref 84, .int x0, .int x1, .int x2, .int x3, .int x4] M N := by
  have hC := hI.1
  have hW := hI.2.1
  have n8 := hW.1.2
  have a0 : M 85 0 = nI (ndA (M 85)) := hW.1.1
  have m3 := (rc_nd hC hW).1
  by_cases h0 : nI 0 ≤ x0 ∧ x0 ≤ nI 5
  · by_cases h1 : nI 0 ≤ x1 ∧ x1 ≤ nI 4
    · by_cases h2 : nI 1 ≤ x2 ∧ x2 ≤ nI 9
      · by_cases h3 : nI 0 ≤ x3 ∧ x3 ≤ nI 9
        · by_cases h4 : nI 0 ≤ x4 ∧ x4 ≤ nI 2
          · obtain ⟨k, k5, rfl⟩ := rng (by decide) h0
            obtain ⟨t, t4, rfl⟩ := rng (by decide) h1
            obtain ⟨f, f9, rfl⟩ := rng (by decide) (show nI 0 ≤ x2 ∧ x2 ≤ nI 9 from ⟨Int32.le_trans (by decide) h2.1, h2.2⟩)
            have f1 : 1 ≤ f := (nI_leI (a := 1) (b := f) (by omega) (by omega)).mp h2.1
            obtain ⟨b, b9, rfl⟩ := rng (by decide) h3
            obtain ⟨c, c2, rfl⟩ := rng (by decide) h4
            by_cases hf : ndA (M 85) = 8
            · rw [hf] at m3 a0
              refine ⟨-4, ux M 20 15 (M 20 15 + nI 1), N, rjM M 2, N, fun S d n Q => ?_, fun S d n Q => ?_, Inv_rj (by decide) hI⟩
              · simp only [↓s82_0, ↓s82_1, ↓s82_2, ↓s82_5, ↓s82_8, ↓s82_9, ↓s82_10, ↓s82_13, ↓s82_16, ↓s82_17, ↓s82_18, ↓s82_21, ↓s82_24, ↓s82_25, ↓s82_27, ↓s82_30, ↓s82_33, ↓s82_34, ↓s82_36, ↓s82_39, ↓c125 (k := 0) (lo := 0) (hi := 5) (by decide) rfl rfl, ↓c125 (k := 1) (lo := 0) (hi := 4) (by decide) rfl rfl, ↓c125 (k := 2) (lo := 1) (hi := 9) (by decide) rfl rfl, ↓c125 (k := 3) (lo := 0) (hi := 9) (by decide) rfl rfl, ↓c125 (k := 4) (lo := 0) (hi := 2) (by decide) rfl rfl, ct_s, ct_n, ↓bI_01, bI_eq0, bI_eq1, nI_10, nI_01, dec_f, dec_t, if_n, eq_self, true_or, or_true, if_true, if_false, reduceIte]
                rw [if_pos h0, if_pos h1, if_pos h2, if_pos h3, if_pos h4]
                simp only [↓s82_51, ↓s82_52, ↓s82_55, ↓s82_58, ↓s82_61, ↓s82_63, ↓s82_65, ↓s82_66, ↓s82_69, ↓s82_70, ↓s82_72, ↓s82_74, ↓s82_77, jc_20, gf_20_0, gf_20_1, gf_20_2, gf_20_3, gf_20_4, gf_20_5, gf_20_6, gf_20_7, gf_20_8, gf_20_9, gf_20_10, gf_20_11, ok_20_11, gf_20_12, ok_20_12, gf_20_13, ok_20_13, gf_20_14, ok_20_14, gf_20_15, ok_20_15, jc_21, gf_21_0, gf_21_1, gf_21_2, gf_21_3, gf_21_4, gf_21_5, ok_21_5, gf_21_6, ok_21_6, jc_22, gf_22_0, gf_22_1, gf_22_2, gf_22_3, ok_22_3, ↓c56f h22 m3, ↓c116, refM_f, ct_s, ct_n, ↓bI_01, bI_eq0, bI_eq1, nI_10, nI_01, dec_f, dec_t, if_n, eq_self, true_or, or_true, if_true, if_false, reduceIte]
              · have a0' : ux M 20 15 (M 20 15 + nI 1) 85 0 = nI 8 := by rw [ux_a (by decide)]; exact a0
                simp only [↓s147_0, ↓s147_1, ↓s147_2, ↓s147_3, ↓s147_6, ↓s147_9, ↓s147_12, ↓s147_13, ↓s147_16, ↓s147_19, ↓s147_20, ↓s147_21, ↓s147_22, ↓s147_25, ↓s147_28, ↓s147_31, ↓s147_33, ↓s147_34, ↓s147_35, ↓s147_38, ↓s147_41, ↓s147_44, ↓s147_46, ↓s147_47, ↓s147_48, ↓s147_51, ↓s147_54, ↓c135 (l := nI 0) (q := 0) (m := nI 5) (r := 5) rfl rfl, ↓c143, ↓c135 (l := nI 1) (q := 1) (m := nI 9) (r := 9) rfl rfl, ↓c135 (l := nI 0) (q := 0) (m := nI 9) (r := 9) rfl rfl, ↓c135 (l := nI 0) (q := 0) (m := nI 2) (r := 2) rfl rfl, ct_s, ct_n, ↓bI_01, bI_eq0, bI_eq1, nI_10, nI_01, dec_f, dec_t, if_n, eq_self, true_or, or_true, if_true, if_false, reduceIte]
                rw [if_pos h0, if_pos h1, if_pos h2, if_pos h3, if_pos h4]
                simp only [↓s147_64, ↓s147_65, ↓s147_68, ↓s147_70, ↓s147_73, ↓s147_74, ↓s147_77, jc_84, gf_84_0, gf_84_1, gf_84_2, gf_84_3, gf_84_4, ok_84_4, gf_84_5, ok_84_5, gf_84_6, ok_84_6, gf_84_7, ok_84_7, gf_84_8, ok_84_8, gf_84_9, ok_84_9, gf_84_10, gf_84_11, gf_84_12, gf_84_13, gf_84_14, gf_84_15, gf_84_16, gf_84_17, ok_84_17, gf_84_18, gf_84_19, ok_84_19, gf_84_20, ok_84_20, gf_84_21, gf_84_22, gf_84_23, gf_84_24, ok_84_24, gf_84_25, ok_84_25, gf_84_26, ok_84_26, gf_84_27, ok_84_27, gf_84_28, ok_84_28, gf_84_29, gf_84_30, ↓c140, a0', ↓c138, ux88, ct_s, ct_n, ↓bI_01, bI_eq0, bI_eq1, nI_10, nI_01, dec_f, dec_t, if_n, eq_self, true_or, or_true, if_true, if_false, reduceIte]
                rfl
            · have hn : ndA (M 85) < 8 := by omega
              have e0 : zr (ux M 22 3 (nI (ndA (M 85) + 1))) (22 + 1) (ndA (M 85) * 5) 5 22 3 = nI (ndA (M 85) + 1) := by rw [zr_a (by decide), ux_s]
              generalize hm0 : zr (ux M 22 3 (nI (ndA (M 85) + 1))) (22 + 1) (ndA (M 85) * 5) 5 = m0 at e0
              have cap : ∀ q : ax_M, q 22 3 = nI (ndA (M 85) + 1) → tn (q 22 3) ≤ 8 := fun q hq => by rw [hq, tn_nI (by omega)]; omega
              generalize hm1 : ux m0 (22 + 1) (ndA (M 85) * 5 + 0) (nI k) = m1
              have e1 : m1 22 3 = nI (ndA (M 85) + 1) := by rw [← hm1, ux_a (by decide), e0]
              generalize hm2 : ux m1 (22 + 1) (ndA (M 85) * 5 + 1) (nI t) = m2
              have e2 : m2 22 3 = nI (ndA (M 85) + 1) := by rw [← hm2, ux_a (by decide), e1]
              generalize hm3 : ux m2 (22 + 1) (ndA (M 85) * 5 + 2) (nI f) = m3'
              have e3 : m3' 22 3 = nI (ndA (M 85) + 1) := by rw [← hm3, ux_a (by decide), e2]
              generalize hm4 : ux m3' (22 + 1) (ndA (M 85) * 5 + 3) (nI b) = m4
              have e4 : m4 22 3 = nI (ndA (M 85) + 1) := by rw [← hm4, ux_a (by decide), e3]
              generalize hm5 : ux m4 (22 + 1) (ndA (M 85) * 5 + 4) (nI c) = m5
              have e5 : m5 22 3 = nI (ndA (M 85) + 1) := by rw [← hm5, ux_a (by decide), e4]
              have o5 : ∀ a, a ≠ 22 → a ≠ 23 → m5 a = M a := fun a q1 q2 => by rw [← hm5, ux_f q2, ← hm4, ux_f q2, ← hm3, ux_f q2, ← hm2, ux_f q2, ← hm1, ux_f q2, ← hm0, zr_a q2, ux_f q1]
              have v5 : ∀ j, m5 23 j = if j = ndA (M 85) * 5 + 4 then nI c else if j = ndA (M 85) * 5 + 3 then nI b else if j = ndA (M 85) * 5 + 2 then nI f else if j = ndA (M 85) * 5 + 1 then nI t else if j = ndA (M 85) * 5 + 0 then nI k else m0 23 j := fun j => by
                rw [← hm5, ← hm4, ← hm3, ← hm2, ← hm1]
                show ux (ux (ux (ux (ux m0 23 _ _) 23 _ _) 23 _ _) 23 _ _) 23 _ _ 23 j = _
                rw [uxS, uxS, uxS, uxS, uxS]
              have hA : m5 85 = M 85 := o5 85 (by decide) (by decide)
              generalize hm6 : ux (ux (ux (ux (ux (ux m5 85 (6 + 5 * ndA (M 85) + 0) (nI k)) 85 (6 + 5 * ndA (M 85) + 1) (nI t)) 85 (6 + 5 * ndA (M 85) + 2) (nI f)) 85 (6 + 5 * ndA (M 85) + 3) (nI b)) 85 (6 + 5 * ndA (M 85) + 4) (nI c)) 85 0 (nI (ndA (M 85) + 1)) = m6
              have hB : m6 85 = dshA (M 85) (nI k) (nI t) (nI f) (nI b) (nI c) := by
                funext j
                rw [← hm6, ux85, ux85, ux85, ux85, ux85, ux85, hA]
                rfl
              have o6 : ∀ a, a ≠ 85 → m6 a = m5 a := fun a q => by rw [← hm6, ux_f q, ux_f q, ux_f q, ux_f q, ux_f q, ux_f q]
              refine ⟨nI (ndA (M 85)), m5, N, m6, N, fun S d n Q => ?_, fun S d n Q => ?_, ?_⟩
              · simp only [↓s82_0, ↓s82_1, ↓s82_2, ↓s82_5, ↓s82_8, ↓s82_9, ↓s82_10, ↓s82_13, ↓s82_16, ↓s82_17, ↓s82_18, ↓s82_21, ↓s82_24, ↓s82_25, ↓s82_27, ↓s82_30, ↓s82_33, ↓s82_34, ↓s82_36, ↓s82_39, ↓c125 (k := 0) (lo := 0) (hi := 5) (by decide) rfl rfl, ↓c125 (k := 1) (lo := 0) (hi := 4) (by decide) rfl rfl, ↓c125 (k := 2) (lo := 1) (hi := 9) (by decide) rfl rfl, ↓c125 (k := 3) (lo := 0) (hi := 9) (by decide) rfl rfl, ↓c125 (k := 4) (lo := 0) (hi := 2) (by decide) rfl rfl, ct_s, ct_n, ↓bI_01, bI_eq0, bI_eq1, nI_10, nI_01, dec_f, dec_t, if_n, eq_self, true_or, or_true, if_true, if_false, reduceIte]
                rw [if_pos h0, if_pos h1, if_pos h2, if_pos h3, if_pos h4]
                simp only [↓s82_51, ↓s82_52, ↓s82_55, ↓s82_58, ↓s82_61, ↓s82_63, ↓s82_65, ↓s82_66, jc_20, gf_20_0, gf_20_1, gf_20_2, gf_20_3, gf_20_4, gf_20_5, gf_20_6, gf_20_7, gf_20_8, gf_20_9, gf_20_10, gf_20_11, ok_20_11, gf_20_12, ok_20_12, gf_20_13, ok_20_13, gf_20_14, ok_20_14, gf_20_15, ok_20_15, jc_21, gf_21_0, gf_21_1, gf_21_2, gf_21_3, gf_21_4, gf_21_5, ok_21_5, gf_21_6, ok_21_6, jc_22, gf_22_0, gf_22_1, gf_22_2, gf_22_3, ok_22_3, ↓c56 h22 m3 hn, hm0, ct_s, ct_n, ↓bI_01, bI_eq0, bI_eq1, nI_10, nI_01, dec_f, dec_t, if_n, eq_self, true_or, or_true, if_true, if_false, reduceIte]
                rw [if_neg (nI_m1 (j := ndA (M 85)) (by omega))]
                simp only [↓s82_78, ↓s82_79, ↓s82_82, ↓s82_85, ↓s82_87, ↓s82_88, ↓s82_89, jc_20, gf_20_0, gf_20_1, gf_20_2, gf_20_3, gf_20_4, gf_20_5, gf_20_6, gf_20_7, gf_20_8, gf_20_9, gf_20_10, gf_20_11, ok_20_11, gf_20_12, ok_20_12, gf_20_13, ok_20_13, gf_20_14, ok_20_14, gf_20_15, ok_20_15, jc_21, gf_21_0, gf_21_1, gf_21_2, gf_21_3, gf_21_4, gf_21_5, ok_21_5, gf_21_6, ok_21_6, jc_22, gf_22_0, gf_22_1, gf_22_2, gf_22_3, ok_22_3, ↓c55 h22 (cap m0 e0), rput_in e0 (show ndA (M 85) + 1 < 2 ^ 31 by omega) (Nat.lt_succ_self _) (by decide) (show 0 < 5 by decide), hm1, ct_s, ct_n, ↓bI_01, bI_eq0, bI_eq1, nI_10, nI_01, dec_f, dec_t, if_n, eq_self, true_or, or_true, if_true, if_false, reduceIte]
                simp only [↓s82_92, ↓s82_93, ↓s82_96, ↓s82_99, ↓s82_101, ↓s82_102, ↓s82_103, jc_20, gf_20_0, gf_20_1, gf_20_2, gf_20_3, gf_20_4, gf_20_5, gf_20_6, gf_20_7, gf_20_8, gf_20_9, gf_20_10, gf_20_11, ok_20_11, gf_20_12, ok_20_12, gf_20_13, ok_20_13, gf_20_14, ok_20_14, gf_20_15, ok_20_15, jc_21, gf_21_0, gf_21_1, gf_21_2, gf_21_3, gf_21_4, gf_21_5, ok_21_5, gf_21_6, ok_21_6, jc_22, gf_22_0, gf_22_1, gf_22_2, gf_22_3, ok_22_3, ↓c55 h22 (cap m1 e1), rput_in e1 (show ndA (M 85) + 1 < 2 ^ 31 by omega) (Nat.lt_succ_self _) (by decide) (show 1 < 5 by decide), hm2, ct_s, ct_n, ↓bI_01, bI_eq0, bI_eq1, nI_10, nI_01, dec_f, dec_t, if_n, eq_self, true_or, or_true, if_true, if_false, reduceIte]
                simp only [↓s82_106, ↓s82_107, ↓s82_110, ↓s82_113, ↓s82_115, ↓s82_116, ↓s82_117, jc_20, gf_20_0, gf_20_1, gf_20_2, gf_20_3, gf_20_4, gf_20_5, gf_20_6, gf_20_7, gf_20_8, gf_20_9, gf_20_10, gf_20_11, ok_20_11, gf_20_12, ok_20_12, gf_20_13, ok_20_13, gf_20_14, ok_20_14, gf_20_15, ok_20_15, jc_21, gf_21_0, gf_21_1, gf_21_2, gf_21_3, gf_21_4, gf_21_5, ok_21_5, gf_21_6, ok_21_6, jc_22, gf_22_0, gf_22_1, gf_22_2, gf_22_3, ok_22_3, ↓c55 h22 (cap m2 e2), rput_in e2 (show ndA (M 85) + 1 < 2 ^ 31 by omega) (Nat.lt_succ_self _) (by decide) (show 2 < 5 by decide), hm3, ct_s, ct_n, ↓bI_01, bI_eq0, bI_eq1, nI_10, nI_01, dec_f, dec_t, if_n, eq_self, true_or, or_true, if_true, if_false, reduceIte]
                simp only [↓s82_120, ↓s82_121, ↓s82_124, ↓s82_127, ↓s82_129, ↓s82_130, ↓s82_132, jc_20, gf_20_0, gf_20_1, gf_20_2, gf_20_3, gf_20_4, gf_20_5, gf_20_6, gf_20_7, gf_20_8, gf_20_9, gf_20_10, gf_20_11, ok_20_11, gf_20_12, ok_20_12, gf_20_13, ok_20_13, gf_20_14, ok_20_14, gf_20_15, ok_20_15, jc_21, gf_21_0, gf_21_1, gf_21_2, gf_21_3, gf_21_4, gf_21_5, ok_21_5, gf_21_6, ok_21_6, jc_22, gf_22_0, gf_22_1, gf_22_2, gf_22_3, ok_22_3, ↓c55 h22 (cap m3' e3), rput_in e3 (show ndA (M 85) + 1 < 2 ^ 31 by omega) (Nat.lt_succ_self _) (by decide) (show 3 < 5 by decide), hm4, ct_s, ct_n, ↓bI_01, bI_eq0, bI_eq1, nI_10, nI_01, dec_f, dec_t, if_n, eq_self, true_or, or_true, if_true, if_false, reduceIte]
                simp only [↓s82_135, ↓s82_136, ↓s82_139, ↓s82_142, ↓s82_144, ↓s82_145, ↓s82_147, ↓s82_150, ↓s82_152, jc_20, gf_20_0, gf_20_1, gf_20_2, gf_20_3, gf_20_4, gf_20_5, gf_20_6, gf_20_7, gf_20_8, gf_20_9, gf_20_10, gf_20_11, ok_20_11, gf_20_12, ok_20_12, gf_20_13, ok_20_13, gf_20_14, ok_20_14, gf_20_15, ok_20_15, jc_21, gf_21_0, gf_21_1, gf_21_2, gf_21_3, gf_21_4, gf_21_5, ok_21_5, gf_21_6, ok_21_6, jc_22, gf_22_0, gf_22_1, gf_22_2, gf_22_3, ok_22_3, ↓c55 h22 (cap m4 e4), rput_in e4 (show ndA (M 85) + 1 < 2 ^ 31 by omega) (Nat.lt_succ_self _) (by decide) (show 4 < 5 by decide), hm5, ct_s, ct_n, ↓bI_01, bI_eq0, bI_eq1, nI_10, nI_01, dec_f, dec_t, if_n, eq_self, true_or, or_true, if_true, if_false, reduceIte]
              · have a0' : m5 85 0 = nI (ndA (M 85)) := by rw [hA]; exact a0
                simp only [↓s147_0, ↓s147_1, ↓s147_2, ↓s147_3, ↓s147_6, ↓s147_9, ↓s147_12, ↓s147_13, ↓s147_16, ↓s147_19, ↓s147_20, ↓s147_21, ↓s147_22, ↓s147_25, ↓s147_28, ↓s147_31, ↓s147_33, ↓s147_34, ↓s147_35, ↓s147_38, ↓s147_41, ↓s147_44, ↓s147_46, ↓s147_47, ↓s147_48, ↓s147_51, ↓s147_54, ↓c135 (l := nI 0) (q := 0) (m := nI 5) (r := 5) rfl rfl, ↓c143, ↓c135 (l := nI 1) (q := 1) (m := nI 9) (r := 9) rfl rfl, ↓c135 (l := nI 0) (q := 0) (m := nI 9) (r := 9) rfl rfl, ↓c135 (l := nI 0) (q := 0) (m := nI 2) (r := 2) rfl rfl, ct_s, ct_n, ↓bI_01, bI_eq0, bI_eq1, nI_10, nI_01, dec_f, dec_t, if_n, eq_self, true_or, or_true, if_true, if_false, reduceIte]
                rw [if_pos h0, if_pos h1, if_pos h2, if_pos h3, if_pos h4]
                simp only [↓s147_64, ↓s147_65, ↓s147_68, ↓s147_70, jc_84, gf_84_0, gf_84_1, gf_84_2, gf_84_3, gf_84_4, ok_84_4, gf_84_5, ok_84_5, gf_84_6, ok_84_6, gf_84_7, ok_84_7, gf_84_8, ok_84_8, gf_84_9, ok_84_9, gf_84_10, gf_84_11, gf_84_12, gf_84_13, gf_84_14, gf_84_15, gf_84_16, gf_84_17, ok_84_17, gf_84_18, gf_84_19, ok_84_19, gf_84_20, ok_84_20, gf_84_21, gf_84_22, gf_84_23, gf_84_24, ok_84_24, gf_84_25, ok_84_25, gf_84_26, ok_84_26, gf_84_27, ok_84_27, gf_84_28, ok_84_28, gf_84_29, gf_84_30, ↓c140, a0', ct_s, ct_n, ↓bI_01, bI_eq0, bI_eq1, nI_10, nI_01, dec_f, dec_t, if_n, eq_self, true_or, or_true, if_true, if_false, reduceIte]
                rw [if_neg (fun q => hf ((nI_eq (a := ndA (M 85)) (b := 8) (by omega) (by omega)).mp q))]
                have z6 : m6 85 0 = nI (ndA (M 85) + 1) := by rw [hB]; rfl
                simp only [↓s147_78, ↓s147_79, ↓s147_82, ↓s147_83, ↓s147_84, ↓s147_85, ↓s147_87, ↓s147_89, ↓s147_92, ↓s147_93, ↓s147_96, ↓s147_97, ↓s147_98, jc_84, gf_84_0, gf_84_1, gf_84_2, gf_84_3, gf_84_4, ok_84_4, gf_84_5, ok_84_5, gf_84_6, ok_84_6, gf_84_7, ok_84_7, gf_84_8, ok_84_8, gf_84_9, ok_84_9, gf_84_10, gf_84_11, gf_84_12, gf_84_13, gf_84_14, gf_84_15, gf_84_16, gf_84_17, ok_84_17, gf_84_18, gf_84_19, ok_84_19, gf_84_20, ok_84_20, gf_84_21, gf_84_22, gf_84_23, gf_84_24, ok_84_24, gf_84_25, ok_84_25, gf_84_26, ok_84_26, gf_84_27, ok_84_27, gf_84_28, ok_84_28, gf_84_29, gf_84_30, ↓c146 oka_85 a0' hn, hm6, ↓c140, z6, pk_sub (show 1 ≤ ndA (M 85) + 1 by omega), Nat.add_sub_cancel, ct_s, ct_n, ↓bI_01, bI_eq0, bI_eq1, nI_10, nI_01, dec_f, dec_t, if_n, eq_self, true_or, or_true, if_true, if_false, reduceIte]
              · have u : ∀ j, j ≠ 0 → (j < 6 + 5 * ndA (M 85) ∨ 10 + 5 * ndA (M 85) < j) → dshA (M 85) (nI k) (nI t) (nI f) (nI b) (nI c) j = M 85 j := fun j h0 h => dshA_o h0 h
                have m : ∀ a, a ≠ 22 → a ≠ 23 → a ≠ 85 → m6 a = M a := fun a q1 q2 q3 => by rw [o6 a q3, o5 a q1 q2]
                refine Inv_court (M := M) ?_ hB (dshA_wf hW hn k5 t4 f1 f9 b9 c2) (fun a h => m a (by omega) (by omega) (by omega)) (by rw [m 84 (by decide) (by decide) (by decide)]) hI
                refine RC_mk ⟨?_, fun i hi => ?_⟩ (RCb_eq (m 24 (by decide) (by decide) (by decide)) (m 25 (by decide) (by decide) (by decide)) (fun i _ _ => u i (by omega) (by omega)) hC.pb) (RCc_eq (m 26 (by decide) (by decide) (by decide)) (m 27 (by decide) (by decide) (by decide)) (u 3 (by omega) (by omega)) hW.2.2.1.2 (fun i _ _ => u i (by omega) (by omega)) hC.pc) (RCm_eq (m 28 (by decide) (by decide) (by decide)) (m 29 (by decide) (by decide) (by decide)) (u 4 (by omega) (by omega)) hW.2.2.2.1.2 (fun i _ _ => u i (by omega) (by omega)) hC.pm) (RCr_eq (m 30 (by decide) (by decide) (by decide)) (m 31 (by decide) (by decide) (by decide)) (u 5 (by omega) (by omega)) hW.r (fun i _ _ => u i (by omega) (by omega)) hC.pr) (RCh_eq (m 21 (by decide) (by decide) (by decide)) (u 1 (by omega) (by omega)) (u 2 (by omega) (by omega)) hC.ph)
                · show m6 22 3 = _
                  rw [o6 22 (by decide), e5]
                  rfl
                · have en : ndA (dshA (M 85) (nI k) (nI t) (nI f) (nI b) (nI c)) = ndA (M 85) + 1 := by
                    unfold ndA
                    rw [show dshA (M 85) (nI k) (nI t) (nI f) (nI b) (nI c) 0 = nI (ndA (M 85) + 1) from rfl]
                    exact tn_nI (by omega)
                  rw [en] at hi
                  show m6 23 i = _
                  rw [o6 23 (by decide), v5]
                  unfold dshA
                  rw [if_neg (show ¬ 6 + i = 0 by omega)]
                  have r4 : (6 + i = 6 + 5 * ndA (M 85) + 4) = (i = ndA (M 85) * 5 + 4) := propext (by omega)
                  have r3 : (6 + i = 6 + 5 * ndA (M 85) + 3) = (i = ndA (M 85) * 5 + 3) := propext (by omega)
                  have r2 : (6 + i = 6 + 5 * ndA (M 85) + 2) = (i = ndA (M 85) * 5 + 2) := propext (by omega)
                  have r1 : (6 + i = 6 + 5 * ndA (M 85) + 1) = (i = ndA (M 85) * 5 + 1) := propext (by omega)
                  have r0 : (6 + i = 6 + 5 * ndA (M 85) + 0) = (i = ndA (M 85) * 5 + 0) := propext (by omega)
                  simp only [r0, r1, r2, r3, r4]
                  by_cases q4 : i = ndA (M 85) * 5 + 4
                  · rw [if_pos q4, if_pos q4]
                  · rw [if_neg q4, if_neg q4]
                    by_cases q3 : i = ndA (M 85) * 5 + 3
                    · rw [if_pos q3, if_pos q3]
                    · rw [if_neg q3, if_neg q3]
                      by_cases q2 : i = ndA (M 85) * 5 + 2
                      · rw [if_pos q2, if_pos q2]
                      · rw [if_neg q2, if_neg q2]
                        by_cases q1 : i = ndA (M 85) * 5 + 1
                        · rw [if_pos q1, if_pos q1]
                        · rw [if_neg q1, if_neg q1]
                          by_cases q0 : i = ndA (M 85) * 5 + 0
                          · rw [if_pos q0, if_pos q0]
                          · rw [if_neg q0, if_neg q0, ← hm0]
                            show zr _ 23 _ 5 23 i = _
                            unfold zr
                            rw [if_neg (by omega), ux_a (by decide)]
                            exact hC.pd.2 i (by omega)
          · exact p1_bad hI (fun q => h4 q.2.2.2.2)
        · exact p1_bad hI (fun q => h3 q.2.2.2.1)
      · exact p1_bad hI (fun q => h2 q.2.2.1)
    · exact p1_bad hI (fun q => h1 q.2.1)
  · exact p1_bad hI (fun q => h0 q.1)
end Dish
