/-! ===== serve, undo ===== -/
theorem ux85 {M : ax_M} {i j : Nat} {v : Int32} : ux M 85 i v 85 j = if j = i then v else M 85 j := by
  by_cases h : j = i
  · rw [h, ux_s, if_pos rfl]
  · rw [ux_j h, if_neg h]
theorem uxS {M : ax_M} {a i j : Nat} {v : Int32} : ux M a i v a j = if j = i then v else M a j := by
  by_cases h : j = i
  · rw [h, ux_s, if_pos rfl]
  · rw [ux_j h, if_neg h]
section Serve
variable {M : ax_M} {N : ax_L} {x y z : Int32} {A : ax_A0}
def undA (A : ax_A0) (k : Nat) : ax_A0 := fun j => if j = 2 then A (74 + 4 * k) else if j = 3 then nI k else A j
theorem undA_o {k j : Nat} (h2 : j ≠ 2) (h3 : j ≠ 3) : undA A k j = A j := by unfold undA; rw [if_neg h2, if_neg h3]
theorem undA_wf (hW : WF A) {k : Nat} (hk : ncA A = k + 1) : WF (undA A k) := by
  have h8 := hW.2.2.1.2
  have e0 : ndA (undA A k) = ndA A := by unfold ndA; rw [undA_o (by decide) (by decide)]
  have e3 : undA A k 3 = nI k := by unfold undA; rw [if_neg (by decide), if_pos rfl]
  have en : ncA (undA A k) = k := by unfold ncA; rw [e3, tn_nI (by omega)]
  have u : ∀ j, 4 ≤ j → undA A k j = A j := fun j hj => undA_o (by omega) (by omega)
  obtain ⟨w0, w1, w2, w3⟩ := hW.c
  refine WF_mk (WFd_eq (undA_o (by decide) (by decide)) (undA_o (by decide) (by decide)) (fun i _ _ => u i (by omega)) hW.d) (WFb_eq (fun i _ _ => u i (by omega)) hW.b) ⟨?_, ?_, fun i hi => ?_, fun i hi => ?_⟩ (WFm_eq (Nat.le_of_eq e0.symm) (u 4 (by omega)) (fun i _ _ => u i (by omega)) hW.m) (WFr_eq (Nat.le_of_eq e0.symm) (u 5 (by omega)) (fun i _ _ => u i (by omega)) hW.r)
  · rw [en]; exact ⟨e3, by omega⟩
  · rw [en]
    unfold leA undA
    rw [if_pos rfl]
    exact (w2 k (by omega)).2.2
  · rw [en] at hi
    rw [e0]
    unfold cdA
    rw [u _ (by omega), u _ (by omega), u _ (by omega)]
    exact w2 i (by omega)
  · rw [en] at hi
    rw [svA_eq i (fun q _ => u _ (by omega))]
    exact w3 i (by omega)
theorem p8 (hI : Inv M N) : RPi 89 162 [.ref 20] [.ref 84] M N := by
  have hC := hI.1
  have hW := hI.2.1
  have h8 := hW.2.2.1.2
  have a3 : M 85 3 = nI (ncA (M 85)) := hW.2.2.1.1
  cases hn : ncA (M 85) with
  | zero =>
    rw [hn] at a3
    have m3 : M 26 3 = nI 0 := hC.2.2.1.trans a3
    refine ⟨-3, ux M 20 14 (M 20 14 + nI 1), N, rjM M 1, N, fun S d n Q => ?_, fun S d n Q => ?_, Inv_rj (by decide) hI⟩
    · simp only [↓s89_0, ↓s89_1, ↓s89_4, ↓s89_7, ↓s89_10, ↓s89_13, ↓s89_14, ↓s89_16, ↓s89_18, ↓s89_21, ↓s89_22, ↓s89_23, ↓s89_26, ↓s89_29, ↓s89_30, ↓s89_33, ↓s89_36, ↓s89_39, jc_20, gf_20_0, gf_20_1, gf_20_2, gf_20_3, gf_20_4, gf_20_5, gf_20_6, gf_20_7, gf_20_8, gf_20_9, gf_20_10, gf_20_11, ok_20_11, gf_20_12, ok_20_12, gf_20_13, ok_20_13, gf_20_14, ok_20_14, gf_20_15, ok_20_15, jc_21, gf_21_0, gf_21_1, gf_21_2, gf_21_3, gf_21_4, gf_21_5, ok_21_5, gf_21_6, ok_21_6, jc_26, gf_26_0, gf_26_1, gf_26_2, gf_26_3, ok_26_3, ↓c53 h26, m3, ↓c116, refM_n, ct_s, ct_n, ↓bI_01, bI_eq0, bI_eq1, nI_10, nI_01, dec_f, dec_t, if_n, eq_self, true_or, or_true, if_true, if_false, reduceIte]
    · have a3' : ux M 20 14 (M 20 14 + nI 1) 85 3 = nI 0 := by rw [ux_a (by decide)]; exact a3
      simp only [↓s162_0, ↓s162_1, ↓s162_4, ↓s162_5, ↓s162_6, ↓s162_9, ↓s162_10, ↓s162_13, jc_84, gf_84_0, gf_84_1, gf_84_2, gf_84_3, gf_84_4, ok_84_4, gf_84_5, ok_84_5, gf_84_6, ok_84_6, gf_84_7, ok_84_7, gf_84_8, ok_84_8, gf_84_9, ok_84_9, gf_84_10, gf_84_11, gf_84_12, gf_84_13, gf_84_14, gf_84_15, gf_84_16, gf_84_17, ok_84_17, gf_84_18, gf_84_19, ok_84_19, gf_84_20, ok_84_20, gf_84_21, gf_84_22, gf_84_23, gf_84_24, ok_84_24, gf_84_25, ok_84_25, gf_84_26, ok_84_26, gf_84_27, ok_84_27, gf_84_28, ok_84_28, gf_84_29, gf_84_30, al_85 (show 3 < 181 by decide), a3', ↓c137, ux88, ct_s, ct_n, ↓bI_01, bI_eq0, bI_eq1, nI_10, nI_01, dec_f, dec_t, if_n, eq_self, true_or, or_true, if_true, if_false, reduceIte]
      rfl
  | succ k =>
    rw [hn] at a3
    have m3 : M 26 3 = nI (k + 1) := hC.2.2.1.trans a3
    have hne : ¬ nI (k + 1) = nI 0 := nI_ne0 (by omega) (by omega)
    have hB : ux (ux (ux (ux M 21 6 (M 85 (74 + 4 * k))) 26 3 (nI k)) 85 3 (nI k)) 85 2 (M 85 (74 + 4 * k)) 85 = undA (M 85) k := by
      funext j
      rw [ux85, ux85, ux_f (a := 26) (by decide), ux_f (a := 21) (by decide)]
      rfl
    refine ⟨nI k, ux (ux M 21 6 (M 85 (74 + 4 * k))) 26 3 (nI k), N, ux (ux (ux (ux M 21 6 (M 85 (74 + 4 * k))) 26 3 (nI k)) 85 3 (nI k)) 85 2 (M 85 (74 + 4 * k)), N, fun S d n Q => ?_, fun S d n Q => ?_, ?_⟩
    · simp only [↓s89_0, ↓s89_1, ↓s89_4, ↓s89_7, ↓s89_10, jc_20, gf_20_0, gf_20_1, gf_20_2, gf_20_3, gf_20_4, gf_20_5, gf_20_6, gf_20_7, gf_20_8, gf_20_9, gf_20_10, gf_20_11, ok_20_11, gf_20_12, ok_20_12, gf_20_13, ok_20_13, gf_20_14, ok_20_14, gf_20_15, ok_20_15, jc_21, gf_21_0, gf_21_1, gf_21_2, gf_21_3, gf_21_4, gf_21_5, ok_21_5, gf_21_6, ok_21_6, jc_26, gf_26_0, gf_26_1, gf_26_2, gf_26_3, ok_26_3, ↓c53 h26, m3, ct_s, ct_n, ↓bI_01, bI_eq0, bI_eq1, nI_10, nI_01, dec_f, dec_t, if_n, eq_self, true_or, or_true, if_true, if_false, reduceIte]
      rw [if_neg hne]
      simp only [↓s89_22, ↓s89_23, ↓s89_26, jc_20, gf_20_0, gf_20_1, gf_20_2, gf_20_3, gf_20_4, gf_20_5, gf_20_6, gf_20_7, gf_20_8, gf_20_9, gf_20_10, gf_20_11, ok_20_11, gf_20_12, ok_20_12, gf_20_13, ok_20_13, gf_20_14, ok_20_14, gf_20_15, ok_20_15, jc_21, gf_21_0, gf_21_1, gf_21_2, gf_21_3, gf_21_4, gf_21_5, ok_21_5, gf_21_6, ok_21_6, jc_26, gf_26_0, gf_26_1, gf_26_2, gf_26_3, ok_26_3, ↓s12_0, ↓s12_1, ↓s12_4, ↓s12_7, ↓s12_8, ↓s12_9, ↓s12_10, ↓s12_11, ↓c53 h26, m3, pk_sub (show 1 ≤ k + 1 by omega), Nat.add_sub_cancel, ct_s, ct_n, ↓bI_01, bI_eq0, bI_eq1, nI_10, nI_01, dec_f, dec_t, if_n, eq_self, true_or, or_true, if_true, if_false, reduceIte]
      rw [if_neg (nI_nlt (a := k) (b := 0) (by omega) (by omega))]
      have hr := rd_course hC hW (i := k) (w := 3) (by omega) (by omega)
      rw [show 71 + 4 * k + 3 = 74 + 4 * k by omega] at hr
      have m3' : ux M 21 6 (M 85 (74 + 4 * k)) 26 3 = nI (k + 1) := by rw [ux_a (by decide)]; exact m3
      simp only [↓s12_14, ↓s12_15, ↓s12_16, ↓s12_19, ↓s12_20, ↓s12_21, ↓s12_24, ↓s12_27, ↓s12_28, ↓s12_31, ↓s12_32, ↓s12_35, ↓s89_29, ↓s89_30, ↓s89_33, ↓s89_36, ↓s89_39, jc_20, gf_20_0, gf_20_1, gf_20_2, gf_20_3, gf_20_4, gf_20_5, gf_20_6, gf_20_7, gf_20_8, gf_20_9, gf_20_10, gf_20_11, ok_20_11, gf_20_12, ok_20_12, gf_20_13, ok_20_13, gf_20_14, ok_20_14, gf_20_15, ok_20_15, jc_21, gf_21_0, gf_21_1, gf_21_2, gf_21_3, gf_21_4, gf_21_5, ok_21_5, gf_21_6, ok_21_6, jc_26, gf_26_0, gf_26_1, gf_26_2, gf_26_3, ok_26_3, ↓c54 h26 (cap26 hC hW), hr, ↓c57 h26 m3' (show k + 1 < 2 ^ 31 by omega) (show k ≤ k + 1 by omega), ↓c53 h26, ux_s, ct_s, ct_n, ↓bI_01, bI_eq0, bI_eq1, nI_10, nI_01, dec_f, dec_t, if_n, eq_self, true_or, or_true, if_true, if_false, reduceIte]
    · have e1 : ∀ j, ux (ux M 21 6 (M 85 (74 + 4 * k))) 26 3 (nI k) 85 j = M 85 j := fun j => by rw [ux_a (by decide), ux_a (by decide)]
      simp only [↓s162_0, ↓s162_1, ↓s162_4, ↓s162_5, ↓s162_6, jc_84, gf_84_0, gf_84_1, gf_84_2, gf_84_3, gf_84_4, ok_84_4, gf_84_5, ok_84_5, gf_84_6, ok_84_6, gf_84_7, ok_84_7, gf_84_8, ok_84_8, gf_84_9, ok_84_9, gf_84_10, gf_84_11, gf_84_12, gf_84_13, gf_84_14, gf_84_15, gf_84_16, gf_84_17, ok_84_17, gf_84_18, gf_84_19, ok_84_19, gf_84_20, ok_84_20, gf_84_21, gf_84_22, gf_84_23, gf_84_24, ok_84_24, gf_84_25, ok_84_25, gf_84_26, ok_84_26, gf_84_27, ok_84_27, gf_84_28, ok_84_28, gf_84_29, gf_84_30, al_85 (show 3 < 181 by decide), e1, a3, ct_s, ct_n, ↓bI_01, bI_eq0, bI_eq1, nI_10, nI_01, dec_f, dec_t, if_n, eq_self, true_or, or_true, if_true, if_false, reduceIte]
      rw [if_neg hne]
      simp only [↓s162_14, ↓s162_15, ↓s162_18, ↓s162_19, ↓s162_20, ↓s162_21, ↓s162_22, ↓s162_23, ↓s162_24, ↓s162_25, ↓s162_28, ↓s162_29, ↓s162_30, ↓s162_33, ↓s162_35, ↓s162_36, ↓s162_37, ↓s162_40, ↓s162_41, ↓s162_42, ↓s162_43, ↓s162_44, ↓s162_45, ↓s162_46, ↓s162_47, ↓s162_48, ↓s162_49, ↓s162_52, ↓s162_53, ↓s162_54, jc_84, gf_84_0, gf_84_1, gf_84_2, gf_84_3, gf_84_4, ok_84_4, gf_84_5, ok_84_5, gf_84_6, ok_84_6, gf_84_7, ok_84_7, gf_84_8, ok_84_8, gf_84_9, ok_84_9, gf_84_10, gf_84_11, gf_84_12, gf_84_13, gf_84_14, gf_84_15, gf_84_16, gf_84_17, ok_84_17, gf_84_18, gf_84_19, ok_84_19, gf_84_20, ok_84_20, gf_84_21, gf_84_22, gf_84_23, gf_84_24, ok_84_24, gf_84_25, ok_84_25, gf_84_26, ok_84_26, gf_84_27, ok_84_27, gf_84_28, ok_84_28, gf_84_29, gf_84_30, al_85 (show 3 < 181 by decide), sa_85 (show 3 < 181 by decide), sa_85 (show 2 < 181 by decide), e1, a3, pk_sub (show 1 ≤ k + 1 by omega), Nat.add_sub_cancel, ux_s, nI_add, pk_mul, al_85 (show 71 + 4 * k + 3 < 181 by omega), ux_j (show (3 : Nat) ≠ 2 by decide), ux_j (show 71 + 4 * k + 3 ≠ 3 by omega), ct_s, ct_n, ↓bI_01, bI_eq0, bI_eq1, nI_10, nI_01, dec_f, dec_t, if_n, eq_self, true_or, or_true, if_true, if_false, reduceIte]
      rw [show 71 + 4 * k + 3 = 74 + 4 * k by omega]
    · have u : ∀ j, 4 ≤ j → undA (M 85) k j = M 85 j := fun j hj => undA_o (by omega) (by omega)
      have m : ∀ c, c ≠ 21 → c ≠ 26 → c ≠ 85 → ux (ux (ux (ux M 21 6 (M 85 (74 + 4 * k))) 26 3 (nI k)) 85 3 (nI k)) 85 2 (M 85 (74 + 4 * k)) c = M c := fun c e1 e2 e3 => by rw [ux_f e3, ux_f e3, ux_f e2, ux_f e1]
      refine Inv_court ?_ hB (undA_wf hW hn) (fun a h => m a (by omega) (by omega) (by omega)) (by rw [m 84 (by decide) (by decide) (by decide)]) hI
      refine RC_mk (RCd_eq (m 22 (by decide) (by decide) (by decide)) (m 23 (by decide) (by decide) (by decide)) (undA_o (by decide) (by decide)) hW.1.2 (fun i _ _ => u i (by omega)) hC.pd) (RCb_eq (m 24 (by decide) (by decide) (by decide)) (m 25 (by decide) (by decide) (by decide)) (fun i _ _ => u i (by omega)) hC.pb) ⟨?_, fun i hi => ?_⟩ (RCm_eq (m 28 (by decide) (by decide) (by decide)) (m 29 (by decide) (by decide) (by decide)) (u 4 (by omega)) hW.2.2.2.1.2 (fun i _ _ => u i (by omega)) hC.pm) (RCr_eq (m 30 (by decide) (by decide) (by decide)) (m 31 (by decide) (by decide) (by decide)) (u 5 (by omega)) hW.r (fun i _ _ => u i (by omega)) hC.pr) ⟨?_, ?_⟩
      · show ux _ 85 2 _ 26 3 = _
        rw [ux_a (by decide), ux_a (by decide), ux_s]
        rfl
      · have en : ncA (undA (M 85) k) = k := by unfold ncA undA; rw [if_neg (by decide), if_pos rfl, tn_nI (by omega)]
        rw [en] at hi
        rw [m 27 (by decide) (by decide) (by decide), u _ (by omega)]
        exact hC.pc.2 i (by omega)
      · rw [ux_a (by decide), ux_a (by decide), ux_a (by decide), ux_j (by decide), undA_o (by decide) (by decide)]; exact hC.ph.1
      · rw [ux_a (by decide), ux_a (by decide), ux_a (by decide), ux_s]; rfl
/-- the court behind a dish served -/
def srvA (A : ax_A0) (k s ds : Nat) : ax_A0 := fun j => if j = 2 then iI (leA A + sg s ds) else if j = 3 then nI (ncA A + 1) else if j = 71 + 4 * ncA A then nI k else if j = 72 + 4 * ncA A then nI s else if j = 73 + 4 * ncA A then nI ds else if j = 74 + 4 * ncA A then A 2 else A j
theorem srvA_o {k s ds j : Nat} (h2 : j ≠ 2) (h3 : j ≠ 3) (h : j < 71 + 4 * ncA A ∨ 74 + 4 * ncA A < j) : srvA A k s ds j = A j := by
  unfold srvA
  rw [if_neg h2, if_neg h3, if_neg (by omega), if_neg (by omega), if_neg (by omega), if_neg (by omega)]
theorem srvA_wf (hW : WF A) {k s ds : Nat} (hk : k < ndA A) (hs : s ≤ 1) (hd : ds ≤ 24) (hb : hasB (svA A (ncA A)) k = false) : WF (srvA A k s ds) := by
  have n8 := hW.1.2
  have h8 := hW.2.2.1.2
  have hp := hW.2.2.2.2.2.2.2.2.2.1 _ (Nat.le_refl (ncA A))
  have hv := svA_lt hW _ (Nat.le_refl (ncA A))
  have h7 : ncA A ≤ 7 := by rw [← hp]; exact bt_pop2 _ hv _ (by omega) hb
  have e0 : ndA (srvA A k s ds) = ndA A := by unfold ndA; rw [srvA_o (by decide) (by decide) (by omega)]
  have e3 : srvA A k s ds 3 = nI (ncA A + 1) := by unfold srvA; rw [if_neg (by decide), if_pos rfl]
  have en : ncA (srvA A k s ds) = ncA A + 1 := by unfold ncA; rw [show srvA A k s ds 3 = nI (ncA A + 1) from e3]; exact tn_nI (by omega)
  have l1 := hW.2.2.2.2.2.1
  have hsg : -24 ≤ sg s ds ∧ sg s ds ≤ 24 := by unfold sg; split <;> omega
  obtain ⟨w0, w1, w2, w3⟩ := hW.c
  refine WF_mk (WFd_eq (srvA_o (by decide) (by decide) (by omega)) (srvA_o (by decide) (by decide) (by omega)) (fun i _ _ => srvA_o (by omega) (by omega) (by omega)) hW.d) (WFb_eq (fun i _ _ => srvA_o (by omega) (by omega) (by omega)) hW.b) ⟨?_, ?_, fun i hi => ?_, fun i hi => ?_⟩ (WFm_eq (Nat.le_of_eq e0.symm) (srvA_o (by decide) (by decide) (by omega)) (fun i _ _ => srvA_o (by omega) (by omega) (by omega)) hW.m) (WFr_eq (Nat.le_of_eq e0.symm) (srvA_o (by decide) (by decide) (by omega)) (fun i _ _ => srvA_o (by omega) (by omega) (by omega)) hW.r)
  · rw [en]; exact ⟨e3, by omega⟩
  · rw [en]
    have : leA (srvA A k s ds) = leA A + sg s ds := by
      unfold leA srvA
      rw [if_pos rfl, iI_int (by unfold leA at l1; omega) (by unfold leA at l1; omega)]
      rfl
    rw [this]
    omega
  · rw [en] at hi
    rw [e0]
    by_cases e : i < ncA A
    · unfold cdA
      rw [srvA_o (by omega) (by omega) (by omega), srvA_o (by omega) (by omega) (by omega), srvA_o (by omega) (by omega) (by omega)]
      exact w2 i e
    · have e : i = ncA A := by omega
      subst e
      have x1 : srvA A k s ds (71 + 4 * ncA A) = nI k := by unfold srvA; rw [if_neg (by omega), if_neg (by omega), if_pos rfl]
      have x2 : srvA A k s ds (72 + 4 * ncA A) = nI s := by unfold srvA; rw [if_neg (by omega), if_neg (by omega), if_neg (by omega), if_pos rfl]
      have x4 : srvA A k s ds (74 + 4 * ncA A) = A 2 := by unfold srvA; rw [if_neg (by omega), if_neg (by omega), if_neg (by omega), if_neg (by omega), if_neg (by omega), if_pos rfl]
      unfold cdA
      rw [x1, x2, x4, tn_nI (by omega)]
      refine ⟨⟨rfl, hk⟩, ?_, l1⟩
      rcases (show s = 0 ∨ s = 1 by omega) with rfl | rfl
      · exact Or.inl rfl
      · exact Or.inr rfl
  · rw [en] at hi
    by_cases e : i ≤ ncA A
    · rw [svA_eq i (fun q hq => srvA_o (by omega) (by omega) (by omega))]
      exact w3 i e
    · have e : i = ncA A + 1 := by omega
      subst e
      show pop (addB (svA (srvA A k s ds) (ncA A)) (tn (srvA A k s ds (71 + 4 * ncA A)))) = _
      rw [svA_eq (ncA A) (fun q hq => srvA_o (by omega) (by omega) (by omega))]
      have x1 : srvA A k s ds (71 + 4 * ncA A) = nI k := by unfold srvA; rw [if_neg (by omega), if_neg (by omega), if_pos rfl]
      rw [x1, tn_nI (by omega), bt_pop _ hv _ (by omega) hb, hp]
end Serve
