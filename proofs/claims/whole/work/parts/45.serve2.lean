/-! ===== serve; menu ===== -/
section Serve2
variable {M : ax_M} {N : ax_L} {x y z : Int32} {A : ax_A0}
def csM (M : ax_M) (m k s ds : Nat) (le : Int32) : ax_M := fun b j => if b = 21 ∧ j = 6 then le else if b = 26 ∧ j = 3 then nI (m + 1) else if b = 27 ∧ j = m * 4 + 0 then nI k else if b = 27 ∧ j = m * 4 + 1 then nI s else if b = 27 ∧ j = m * 4 + 2 then nI ds else if b = 27 ∧ j = m * 4 + 3 then M 21 6 else M b j
theorem csM_o {m k s ds c : Nat} {le : Int32} (h1 : c ≠ 21) (h2 : c ≠ 26) (h3 : c ≠ 27) : csM M m k s ds le c = M c := by
  funext j
  unfold csM
  rw [if_neg (fun q => h1 q.1), if_neg (fun q => h2 q.1), if_neg (fun q => h3 q.1), if_neg (fun q => h3 q.1), if_neg (fun q => h3 q.1), if_neg (fun q => h3 q.1)]
theorem csM_eq {m k s ds : Nat} {le : Int32} : ux (ux (ux (ux (ux (zr (ux M 26 3 (nI (m + 1))) 27 (m * 4) 4) 27 (m * 4 + 0) (nI k)) 27 (m * 4 + 1) (nI s)) 27 (m * 4 + 2) (nI ds)) 27 (m * 4 + 3) (M 21 6)) 21 6 le = csM M m k s ds le := by
  funext b j
  unfold csM
  by_cases b21 : b = 21
  · subst b21
    rw [uxS]
    by_cases j6 : j = 6
    · simp [j6]
    · rw [if_neg j6, ux_a (by decide), ux_a (by decide), ux_a (by decide), ux_a (by decide), zr_a (by decide), ux_a (by decide)]
      simp [j6]
  · rw [ux_a b21]
    by_cases b26 : b = 26
    · subst b26
      rw [ux_a (by decide), ux_a (by decide), ux_a (by decide), ux_a (by decide), zr_a (by decide), uxS]
      simp
    · by_cases b27 : b = 27
      · subst b27
        rw [uxS, uxS, uxS, uxS]
        unfold zr
        rw [ux_a (by decide)]
        by_cases j0 : j = m * 4 + 0
        · rw [if_neg (by omega), if_neg (by omega), if_neg (by omega), if_pos j0, if_neg (by omega), if_neg (by omega), if_pos ⟨rfl, j0⟩]
        · by_cases j1 : j = m * 4 + 1
          · rw [if_neg (by omega), if_neg (by omega), if_pos j1, if_neg (by omega), if_neg (by omega), if_neg (by omega), if_pos ⟨rfl, j1⟩]
          · by_cases j2 : j = m * 4 + 2
            · rw [if_neg (by omega), if_pos j2, if_neg (by omega), if_neg (by omega), if_neg (by omega), if_neg (by omega), if_pos ⟨rfl, j2⟩]
            · by_cases j3 : j = m * 4 + 3
              · rw [if_pos j3, if_neg (by omega), if_neg (by omega), if_neg (by omega), if_neg (by omega), if_neg (by omega), if_pos ⟨rfl, j3⟩]
              · rw [if_neg j3, if_neg j2, if_neg j1, if_neg j0, if_neg (by omega), if_neg (by omega), if_neg (by omega), if_neg (by omega), if_neg (by omega), if_neg (by omega), if_neg (by omega)]
      · rw [ux_a b27, ux_a b27, ux_a b27, ux_a b27, zr_a b27, ux_a b26]
        rw [if_neg (fun q => b21 q.1), if_neg (fun q => b26 q.1), if_neg (fun q => b27 q.1), if_neg (fun q => b27 q.1), if_neg (fun q => b27 q.1), if_neg (fun q => b27 q.1)]
set_option maxHeartbeats 2000000 in
theorem c11 {d n : Nat} {Q : Option Value → Nat → ax_H → Prop} {S : ax_S} (hC : RC M 21 A) (hW : WF A) {k s : Nat} (hk : k < ndA A) (hs : s ≤ 1) : ax_W (d + 4) 11 0 [.ref 21, .int (nI k), .int (nI s), ax_dm, ax_dm] [] n (hx S M N) Q = Q (some (.int (nI (dsN A k (pop (nowA A).1) (nowA A).2.1)))) n (hx S (csM M (ncA A) k s (dsN A k (pop (nowA A).1) (nowA A).2.1) (iI (leA A + sg s (dsN A k (pop (nowA A).1) (nowA A).2.1)))) N) := by
  obtain ⟨v1, v2, v3⟩ := nowA_ok hW
  have h8 := (rc_nc hC hW).2
  have m3 := (rc_nc hC hW).1
  generalize hds : dsN A k (pop (nowA A).1) (nowA A).2.1 = ds
  simp only [↓s11_0, ↓s11_1, ↓s11_2, ↓s11_3, ↓s11_6, ↓s11_7, ↓s11_10, jc_21, gf_21_0, gf_21_1, gf_21_2, gf_21_3, gf_21_4, gf_21_5, ok_21_5, gf_21_6, ok_21_6, jc_26, gf_26_0, gf_26_1, gf_26_2, gf_26_3, ok_26_3, ↓c5 hC hW, ↓c6 hC hW, ↓c10 hC hW hk v1 v3, ct_s, ct_n, ↓bI_01, bI_eq0, bI_eq1, nI_10, nI_01, dec_f, dec_t, if_n, eq_self, true_or, or_true, if_true, if_false, reduceIte]
  rw [hds]
  simp only [↓s11_13, ↓s11_14, ↓s11_15, ↓s11_18, jc_21, gf_21_0, gf_21_1, gf_21_2, gf_21_3, gf_21_4, gf_21_5, ok_21_5, gf_21_6, ok_21_6, jc_26, gf_26_0, gf_26_1, gf_26_2, gf_26_3, ok_26_3, ↓c56 h26 m3 (show ncA A < 9 by omega), ct_s, ct_n, ↓bI_01, bI_eq0, bI_eq1, nI_10, nI_01, dec_f, dec_t, if_n, eq_self, true_or, or_true, if_true, if_false, reduceIte]
  generalize e1 : zr (ux M 26 3 (nI (ncA A + 1))) (26 + 1) (ncA A * 4) 4 = m1
  have f1 : m1 26 3 = nI (ncA A + 1) := by rw [← e1, zr_a (by decide), ux_s]
  have g1 : m1 21 6 = M 21 6 := by rw [← e1, zr_a (by decide), ux_a (by decide)]
  have cap : ∀ q : ax_M, q 26 3 = nI (ncA A + 1) → tn (q 26 3) ≤ 9 := fun q hq => by rw [hq, tn_nI (by omega)]; omega
  simp only [↓s11_21, ↓s11_23, ↓s11_24, ↓s11_27, ↓s11_29, ↓s11_30, ↓s11_31, jc_21, gf_21_0, gf_21_1, gf_21_2, gf_21_3, gf_21_4, gf_21_5, ok_21_5, gf_21_6, ok_21_6, jc_26, gf_26_0, gf_26_1, gf_26_2, gf_26_3, ok_26_3, ↓c55 h26 (cap m1 f1), rput_in f1 (show ncA A + 1 < 2 ^ 31 by omega) (show ncA A < ncA A + 1 by omega) (by decide) (show 0 < 4 by decide), ct_s, ct_n, ↓bI_01, bI_eq0, bI_eq1, nI_10, nI_01, dec_f, dec_t, if_n, eq_self, true_or, or_true, if_true, if_false, reduceIte]
  generalize e2 : ux m1 (26 + 1) (ncA A * 4 + 0) (nI k) = m2
  have f2 : m2 26 3 = nI (ncA A + 1) := by rw [← e2, ux_a (by decide), f1]
  have g2 : m2 21 6 = M 21 6 := by rw [← e2, ux_a (by decide), g1]
  simp only [↓s11_34, ↓s11_35, ↓s11_38, ↓s11_40, ↓s11_41, ↓s11_42, jc_21, gf_21_0, gf_21_1, gf_21_2, gf_21_3, gf_21_4, gf_21_5, ok_21_5, gf_21_6, ok_21_6, jc_26, gf_26_0, gf_26_1, gf_26_2, gf_26_3, ok_26_3, ↓c55 h26 (cap m2 f2), rput_in f2 (show ncA A + 1 < 2 ^ 31 by omega) (show ncA A < ncA A + 1 by omega) (by decide) (show 1 < 4 by decide), ct_s, ct_n, ↓bI_01, bI_eq0, bI_eq1, nI_10, nI_01, dec_f, dec_t, if_n, eq_self, true_or, or_true, if_true, if_false, reduceIte]
  generalize e3 : ux m2 (26 + 1) (ncA A * 4 + 1) (nI s) = m3'
  have f3 : m3' 26 3 = nI (ncA A + 1) := by rw [← e3, ux_a (by decide), f2]
  have g3 : m3' 21 6 = M 21 6 := by rw [← e3, ux_a (by decide), g2]
  simp only [↓s11_45, ↓s11_46, ↓s11_49, ↓s11_51, ↓s11_52, ↓s11_53, jc_21, gf_21_0, gf_21_1, gf_21_2, gf_21_3, gf_21_4, gf_21_5, ok_21_5, gf_21_6, ok_21_6, jc_26, gf_26_0, gf_26_1, gf_26_2, gf_26_3, ok_26_3, ↓c55 h26 (cap m3' f3), rput_in f3 (show ncA A + 1 < 2 ^ 31 by omega) (show ncA A < ncA A + 1 by omega) (by decide) (show 2 < 4 by decide), ct_s, ct_n, ↓bI_01, bI_eq0, bI_eq1, nI_10, nI_01, dec_f, dec_t, if_n, eq_self, true_or, or_true, if_true, if_false, reduceIte]
  generalize e4 : ux m3' (26 + 1) (ncA A * 4 + 2) (nI ds) = m4
  have f4 : m4 26 3 = nI (ncA A + 1) := by rw [← e4, ux_a (by decide), f3]
  have g4 : m4 21 6 = M 21 6 := by rw [← e4, ux_a (by decide), g3]
  simp only [↓s11_56, ↓s11_57, ↓s11_60, ↓s11_62, ↓s11_63, ↓s11_64, ↓s11_67, jc_21, gf_21_0, gf_21_1, gf_21_2, gf_21_3, gf_21_4, gf_21_5, ok_21_5, gf_21_6, ok_21_6, jc_26, gf_26_0, gf_26_1, gf_26_2, gf_26_3, ok_26_3, g4, ↓c55 h26 (cap m4 f4), rput_in f4 (show ncA A + 1 < 2 ^ 31 by omega) (show ncA A < ncA A + 1 by omega) (by decide) (show 3 < 4 by decide), ct_s, ct_n, ↓bI_01, bI_eq0, bI_eq1, nI_10, nI_01, dec_f, dec_t, if_n, eq_self, true_or, or_true, if_true, if_false, reduceIte]
  generalize e5 : ux m4 (26 + 1) (ncA A * 4 + 3) (M 21 6) = m5
  have g5 : m5 21 6 = M 21 6 := by rw [← e5, ux_a (by decide), g4]
  simp only [↓s11_70, ↓s11_71, ↓s11_72, ↓s11_75, ↓s11_76, ↓s11_77, ↓s11_80, ↓s11_81, ↓s11_84, ↓s11_85, jc_21, gf_21_0, gf_21_1, gf_21_2, gf_21_3, gf_21_4, gf_21_5, ok_21_5, gf_21_6, ok_21_6, g5, rc_le hC, ↓c128, ct_s, ct_n, ↓bI_01, bI_eq0, bI_eq1, nI_10, nI_01, dec_f, dec_t, if_n, eq_self, true_or, or_true, if_true, if_false, reduceIte]
  rw [iI_nat ds, tsI_i s hs, iI_add, ← iI_nat ds]
  rw [← csM_eq, ← e5, ← e4, ← e3, ← e2, ← e1]
  rfl
theorem dsN_eq {A B : ax_A0} (h : ∀ i, i < 71 → B i = A i) (hW : WF A) {d n : Nat} {l : Option Nat} (hd : d < ndA A) (hl : ∀ j, l = some j → j < ndA A) : dsN B d n l = dsN A d n l := by
  have n8 := hW.1.2
  have t := (hW.2.2.2.2.2.2.1 d hd).2.1.2
  have q : ∀ d, d < 8 → kdA B d = kdA A d ∧ foA B d = foA A d ∧ taA B d = taA A d ∧ coA B d = coA A d := fun d hd => by
    unfold kdA foA taA coA
    rw [h _ (by omega), h _ (by omega), h _ (by omega), h _ (by omega)]
    exact ⟨rfl, rfl, rfl, rfl⟩
  have e1 : huA B = huA A := by unfold huA; rw [h _ (by omega)]
  obtain ⟨q1, q2, q3, q4⟩ := q d (by omega)
  unfold dsN
  cases l with
  | none => dsimp only; rw [q1, q2, e1]
  | some j =>
    have hj := hl j rfl
    have t2 := (hW.2.2.2.2.2.2.1 j hj).2.1.2
    obtain ⟨j1, j2, j3, j4⟩ := q j (by omega)
    dsimp only
    have eb : bkA B (taA A j) (taA A d) = bkA A (taA A j) (taA A d) := by unfold bkA; rw [h _ (by omega)]
    rw [q1, q2, q3, q4, e1, j3, j4, eb]
theorem WFc_eq2 {A B : ax_A0} (h0 : ndA A ≤ ndA B) (h2 : B 2 = A 2) (h3 : B 3 = A 3) (hd : ∀ i, 71 ≤ i → i < 71 + 4 * ncA A → B i = A i) (h : WFc A) : WFc B := by
  have e3 : ncA B = ncA A := by unfold ncA; rw [h3]
  obtain ⟨w0, w1, w2, w3⟩ := h
  have := w0.2
  refine ⟨by rw [h3, e3]; exact w0, by unfold leA; rw [h2, e3]; exact w1, fun i hi => ?_, fun k hk => ?_⟩
  · rw [e3] at hi
    unfold cdA
    rw [hd _ (by omega) (by omega), hd _ (by omega) (by omega), hd _ (by omega) (by omega)]
    obtain ⟨⟨x1, x2⟩, x3⟩ := w2 i hi
    exact ⟨⟨x1, Nat.lt_of_lt_of_le x2 h0⟩, x3⟩
  · rw [e3] at hk
    rw [svA_eq k (fun i hi => hd _ (by omega) (by omega))]
    exact w3 k hk
set_option maxHeartbeats 2000000 in
theorem p7 (hI : Inv M N) : RPi 88 161 [.ref 20, .int x, .int y] [.ref 84, .int x, .int y, ax_dm, ax_dm] M N := by
  have hC := hI.1
  have hW := hI.2.1
  have n8 := hW.1.2
  have h8 := hW.2.2.1.2
  have a0 : M 85 0 = nI (ndA (M 85)) := hW.1.1
  have a3 : M 85 3 = nI (ncA (M 85)) := hW.2.2.1.1
  obtain ⟨v1, v2, v3⟩ := nowA_ok hW
  by_cases hb : (nI 0 ≤ x ∧ x ≤ nI (ndA (M 85)) - nI 1) ∧ (nI 0 ≤ y ∧ y ≤ nI 1)
  · obtain ⟨k, k2, rfl⟩ := rngP (by omega) hb.1
    obtain ⟨s, s1, rfl⟩ := rng (by decide) hb.2
    cases hm : mayA (M 85) k s (nowA (M 85)).1 with
    | false =>
      have E : ∀ v, rvM (ux M 20 14 (M 20 14 + nI 1)) v 88 1 = M 88 1 := fun v => by rw [rvM_o (by decide), ux_a (by decide)]
      refine ⟨-3, ux M 20 14 (M 20 14 + nI 1), N, ux (rvM (ux M 20 14 (M 20 14 + nI 1)) (nowA (M 85))) 88 1 (M 88 1 + nI 1), N, fun S d n Q => ?_, fun S d n Q => ?_, ?_⟩
      · simp only [↓s88_0, ↓s88_1, ↓s88_4, ↓s88_5, ↓s88_8, ↓s88_11, ↓s88_12, ↓s88_15, jc_20, gf_20_0, gf_20_1, gf_20_2, gf_20_3, gf_20_4, gf_20_5, gf_20_6, gf_20_7, gf_20_8, gf_20_9, gf_20_10, gf_20_11, ok_20_11, gf_20_12, ok_20_12, gf_20_13, ok_20_13, gf_20_14, ok_20_14, gf_20_15, ok_20_15, jc_21, gf_21_0, gf_21_1, gf_21_2, gf_21_3, gf_21_4, gf_21_5, ok_21_5, gf_21_6, ok_21_6, ↓c3 hC hW, ↓c122, ct_s, ct_n, ↓bI_01, bI_eq0, bI_eq1, nI_10, nI_01, dec_f, dec_t, if_n, eq_self, true_or, or_true, if_true, if_false, reduceIte]
        rw [if_pos hb.1, if_pos hb.2]
        simp only [↓s88_27, ↓s88_28, ↓s88_31, ↓s88_32, ↓s88_33, ↓s88_34, ↓s88_37, ↓s88_40, ↓s88_43, ↓s88_46, ↓s88_47, ↓s88_49, ↓s88_51, ↓s88_54, jc_20, gf_20_0, gf_20_1, gf_20_2, gf_20_3, gf_20_4, gf_20_5, gf_20_6, gf_20_7, gf_20_8, gf_20_9, gf_20_10, gf_20_11, ok_20_11, gf_20_12, ok_20_12, gf_20_13, ok_20_13, gf_20_14, ok_20_14, gf_20_15, ok_20_15, jc_21, gf_21_0, gf_21_1, gf_21_2, gf_21_3, gf_21_4, gf_21_5, ok_21_5, gf_21_6, ok_21_6, ↓c5 hC hW, ↓c9 hC hW (show k < 1000 by omega) s1 v1, hm, ↓c116, refM_n, ct_s, ct_n, ↓bI_01, bI_eq0, bI_eq1, nI_10, nI_01, dec_f, dec_t, if_n, eq_self, true_or, or_true, if_true, if_false, reduceIte]
      · have hA : ux M 20 14 (M 20 14 + nI 1) 85 = M 85 := ux_f (by decide)
        have a0' : ux M 20 14 (M 20 14 + nI 1) 85 0 = nI (ndA (M 85)) := by rw [hA]; exact a0
        simp only [↓s161_0, ↓s161_1, ↓s161_2, ↓s161_5, ↓s161_8, ↓s161_9, ↓s161_12, jc_84, gf_84_0, gf_84_1, gf_84_2, gf_84_3, gf_84_4, ok_84_4, gf_84_5, ok_84_5, gf_84_6, ok_84_6, gf_84_7, ok_84_7, gf_84_8, ok_84_8, gf_84_9, ok_84_9, gf_84_10, gf_84_11, gf_84_12, gf_84_13, gf_84_14, gf_84_15, gf_84_16, gf_84_17, ok_84_17, gf_84_18, gf_84_19, ok_84_19, gf_84_20, ok_84_20, gf_84_21, gf_84_22, gf_84_23, gf_84_24, ok_84_24, gf_84_25, ok_84_25, gf_84_26, ok_84_26, gf_84_27, ok_84_27, gf_84_28, ok_84_28, gf_84_29, gf_84_30, ↓c141, a0', ↓c142, ct_s, ct_n, ↓bI_01, bI_eq0, bI_eq1, nI_10, nI_01, dec_f, dec_t, if_n, eq_self, true_or, or_true, if_true, if_false, reduceIte]
        rw [if_pos hb.1, if_pos hb.2]
        simp only [↓s161_22, ↓s161_23, ↓s161_26, ↓s161_27, ↓s161_28, ↓s161_29, ↓s161_32, ↓s161_35, ↓s161_36, ↓s161_39, jc_84, gf_84_0, gf_84_1, gf_84_2, gf_84_3, gf_84_4, ok_84_4, gf_84_5, ok_84_5, gf_84_6, ok_84_6, gf_84_7, ok_84_7, gf_84_8, ok_84_8, gf_84_9, ok_84_9, gf_84_10, gf_84_11, gf_84_12, gf_84_13, gf_84_14, gf_84_15, gf_84_16, gf_84_17, ok_84_17, gf_84_18, gf_84_19, ok_84_19, gf_84_20, ok_84_20, gf_84_21, gf_84_22, gf_84_23, gf_84_24, ok_84_24, gf_84_25, ok_84_25, gf_84_26, ok_84_26, gf_84_27, ok_84_27, gf_84_28, ok_84_28, gf_84_29, gf_84_30, ↓c151 hA hW, ↓c159 hA hW k2 s1 v1, hm, ↓c137, E, ct_s, ct_n, ↓bI_01, bI_eq0, bI_eq1, nI_10, nI_01, dec_f, dec_t, if_n, eq_self, true_or, or_true, if_true, if_false, reduceIte]
      · refine Inv_sc (M := rjM M 1) ⟨fun a ha => ?_, ?_⟩ (Inv_rj (by decide) hI)
        · unfold rjM
          by_cases e : a = 88
          · subst e
            funext j
            rw [uxS, uxS, rvM_o (by decide)]
          · rw [ux_f e, ux_f e, rvM_o (by omega)]
        · unfold rjM
          rw [ux_a (by decide), ux_a (by decide), rvM_j (by decide) (by decide) (by decide) (by decide)]
    | true =>
      have hb2 : hasB (nowA (M 85)).1 k = false := by
        unfold mayA at hm
        cases hq : hasB (nowA (M 85)).1 k with
        | false => rfl
        | true => rw [hq] at hm; simp at hm
      have hd := dsN_le hW (n := pop (nowA (M 85)).1) k2 (bt_pop8 _) v3
      generalize hds : dsN (M 85) k (pop (nowA (M 85)).1) (nowA (M 85)).2.1 = ds at hd
      have hle : M 85 2 = iI (leA (M 85)) := (iI_to _).symm
      generalize hm1 : csM M (ncA (M 85)) k s ds (iI (leA (M 85) + sg s ds)) = M1
      have hA1 : M1 85 = M 85 := by rw [← hm1, csM_o (by decide) (by decide) (by decide)]
      generalize hm2 : ux (rvM M1 (nowA (M 85))) 85 (74 + 4 * ncA (M 85)) (M 85 2) = M2
      have h7 : ncA (M 85) ≤ 7 := by rw [← v2]; exact bt_pop2 _ v1 _ (by omega) hb2
      refine ⟨nI ds, M1, N, ux (ux (ux (ux (ux (rvM M2 (evS (M 85) s k (nowA (M 85)))) 85 (71 + 4 * ncA (M 85)) (nI k)) 85 (71 + 4 * ncA (M 85) + 1) (nI s)) 85 (71 + 4 * ncA (M 85) + 2) (nI ds)) 85 3 (nI (ncA (M 85) + 1))) 85 2 (iI (leA (M 85) + sg s ds)), N, fun S d n Q => ?_, fun S d n Q => ?_, ?_⟩
      · simp only [↓s88_0, ↓s88_1, ↓s88_4, ↓s88_5, ↓s88_8, ↓s88_11, ↓s88_12, ↓s88_15, jc_20, gf_20_0, gf_20_1, gf_20_2, gf_20_3, gf_20_4, gf_20_5, gf_20_6, gf_20_7, gf_20_8, gf_20_9, gf_20_10, gf_20_11, ok_20_11, gf_20_12, ok_20_12, gf_20_13, ok_20_13, gf_20_14, ok_20_14, gf_20_15, ok_20_15, jc_21, gf_21_0, gf_21_1, gf_21_2, gf_21_3, gf_21_4, gf_21_5, ok_21_5, gf_21_6, ok_21_6, ↓c3 hC hW, ↓c122, ct_s, ct_n, ↓bI_01, bI_eq0, bI_eq1, nI_10, nI_01, dec_f, dec_t, if_n, eq_self, true_or, or_true, if_true, if_false, reduceIte]
        rw [if_pos hb.1, if_pos hb.2]
        simp only [↓s88_27, ↓s88_28, ↓s88_31, ↓s88_32, ↓s88_33, ↓s88_34, ↓s88_37, ↓s88_40, ↓s88_43, ↓s88_46, ↓s88_47, ↓s88_49, ↓s88_51, ↓s88_54, ↓s88_55, ↓s88_56, ↓s88_59, ↓s88_60, ↓s88_61, ↓s88_64, jc_20, gf_20_0, gf_20_1, gf_20_2, gf_20_3, gf_20_4, gf_20_5, gf_20_6, gf_20_7, gf_20_8, gf_20_9, gf_20_10, gf_20_11, ok_20_11, gf_20_12, ok_20_12, gf_20_13, ok_20_13, gf_20_14, ok_20_14, gf_20_15, ok_20_15, jc_21, gf_21_0, gf_21_1, gf_21_2, gf_21_3, gf_21_4, gf_21_5, ok_21_5, gf_21_6, ok_21_6, ↓c5 hC hW, ↓c9 hC hW (show k < 1000 by omega) s1 v1, hm, ↓c11 hC hW k2 s1, hds, hm1, ct_s, ct_n, ↓bI_01, bI_eq0, bI_eq1, nI_10, nI_01, dec_f, dec_t, if_n, eq_self, true_or, or_true, if_true, if_false, reduceIte, Bool.true_eq_false]
      · have a0' : M1 85 0 = nI (ndA (M 85)) := by rw [hA1]; exact a0
        simp only [↓s161_0, ↓s161_1, ↓s161_2, ↓s161_5, ↓s161_8, ↓s161_9, ↓s161_12, jc_84, gf_84_0, gf_84_1, gf_84_2, gf_84_3, gf_84_4, ok_84_4, gf_84_5, ok_84_5, gf_84_6, ok_84_6, gf_84_7, ok_84_7, gf_84_8, ok_84_8, gf_84_9, ok_84_9, gf_84_10, gf_84_11, gf_84_12, gf_84_13, gf_84_14, gf_84_15, gf_84_16, gf_84_17, ok_84_17, gf_84_18, gf_84_19, ok_84_19, gf_84_20, ok_84_20, gf_84_21, gf_84_22, gf_84_23, gf_84_24, ok_84_24, gf_84_25, ok_84_25, gf_84_26, ok_84_26, gf_84_27, ok_84_27, gf_84_28, ok_84_28, gf_84_29, gf_84_30, ↓c141, a0', ↓c142, ct_s, ct_n, ↓bI_01, bI_eq0, bI_eq1, nI_10, nI_01, dec_f, dec_t, if_n, eq_self, true_or, or_true, if_true, if_false, reduceIte]
        rw [if_pos hb.1, if_pos hb.2]
        have hM2r : M2 = rvM M2 (nowA (M 85)) := by
          rw [← hm2]
          refine rvM_ext (fun b j => Or.inr rfl) ?_ ?_ ?_ ?_ <;> rw [ux_a (by decide)]
          · exact rvM_6
          · exact rvM_7
          · exact rvM_8
          · exact rvM_9
        have g85 : ∀ j, M2 85 j = if j = 74 + 4 * ncA (M 85) then M 85 2 else M 85 j := fun j => by rw [← hm2, ux85, rvM_85, hA1]
        have a3' : M1 85 3 = nI (ncA (M 85)) := by rw [hA1]; exact a3
        have a2' : M1 85 2 = M 85 2 := by rw [hA1]
        simp only [↓s161_22, ↓s161_23, ↓s161_26, ↓s161_27, ↓s161_28, ↓s161_29, ↓s161_32, ↓s161_35, ↓s161_36, ↓s161_39, ↓s161_40, ↓s161_42, ↓s161_43, ↓s161_44, ↓s161_47, ↓s161_48, ↓s161_49, ↓s161_50, ↓s161_51, ↓s161_52, ↓s161_53, ↓s161_56, ↓s161_57, ↓s161_58, ↓s161_59, ↓s161_60, ↓s161_63, ↓s161_64, ↓s161_65, jc_84, gf_84_0, gf_84_1, gf_84_2, gf_84_3, gf_84_4, ok_84_4, gf_84_5, ok_84_5, gf_84_6, ok_84_6, gf_84_7, ok_84_7, gf_84_8, ok_84_8, gf_84_9, ok_84_9, gf_84_10, gf_84_11, gf_84_12, gf_84_13, gf_84_14, gf_84_15, gf_84_16, gf_84_17, ok_84_17, gf_84_18, gf_84_19, ok_84_19, gf_84_20, ok_84_20, gf_84_21, gf_84_22, gf_84_23, gf_84_24, ok_84_24, gf_84_25, ok_84_25, gf_84_26, ok_84_26, gf_84_27, ok_84_27, gf_84_28, ok_84_28, gf_84_29, gf_84_30, ↓c151 hA1 hW, ↓c159 hA1 hW k2 s1 v1, hm, ct_s, ct_n, ↓bI_01, bI_eq0, bI_eq1, nI_10, nI_01, dec_f, dec_t, if_n, eq_self, true_or, or_true, if_true, if_false, reduceIte, Bool.true_eq_false, al_85 (show 3 < 181 by decide), al_85 (show 2 < 181 by decide), rvM_85, a3', a2', nI_add, pk_mul, sa_85 (show 71 + 4 * ncA (M 85) + 3 < 181 by omega)]
        rw [show 71 + 4 * ncA (M 85) + 3 = 74 + 4 * ncA (M 85) by omega, hm2]
        have hW2 : WF (M2 85) := by
          have u : ∀ j, j ≠ 74 + 4 * ncA (M 85) → M2 85 j = M 85 j := fun j hj => by rw [g85, if_neg hj]
          have e0 : ndA (M2 85) = ndA (M 85) := by unfold ndA; rw [u 0 (by omega)]
          exact WF_mk (WFd_eq (u 0 (by omega)) (u 1 (by omega)) (fun i _ _ => u i (by omega)) hW.d) (WFb_eq (fun i _ _ => u i (by omega)) hW.b) (WFc_eq2 (Nat.le_of_eq e0.symm) (u 2 (by omega)) (u 3 (by omega)) (fun i _ _ => u i (by omega)) hW.c) (WFm_eq (Nat.le_of_eq e0.symm) (u 4 (by omega)) (fun i _ _ => u i (by omega)) hW.m) (WFr_eq (Nat.le_of_eq e0.symm) (u 5 (by omega)) (fun i _ _ => u i (by omega)) hW.r)
        have e0 : ndA (M2 85) = ndA (M 85) := by unfold ndA; rw [g85, if_neg (by omega)]
        have eds : dsN (M2 85) k (pop (nowA (M 85)).1) (nowA (M 85)).2.1 = ds := by
          rw [← hds]
          exact dsN_eq (fun i hi => by rw [g85, if_neg (by omega)]) hW k2 v3
        have eev : evB (M2 85) 1 s k (nowA (M 85)) = evS (M 85) s k (nowA (M 85)) := by
          rw [evB_1]
          unfold evS
          rw [eds, hds]
        have cc : ∀ (Q : Option Value → Nat → ax_H → Prop) (d : Nat), ax_W (d + 4) 156 0 [.ref 84, .int (nI k), .int (nI s), .int (nI 1), ax_dm] [] n (hx S M2 N) Q = Q (some (.int (nI ds))) n (hx S (rvM M2 (evS (M 85) s k (nowA (M 85)))) N) := by
          intro Q d
          have h1 := c156 (M := M2) (v := nowA (M 85)) (d := d) (n := n) (Q := Q) (S := S) (N := N) rfl hW2 (k := k) (s := s) (c := 1) (by rw [e0]; exact k2) s1 (by decide) v1 hb2 (fun j hj => by rw [e0]; exact v3 j hj)
          rw [eev, eds] at h1
          rw [← hM2r] at h1
          exact h1
        have r3 : M2 85 3 = nI (ncA (M 85)) := by rw [g85, if_neg (by omega)]; exact a3
        simp only [↓s161_66, ↓s161_67, ↓s161_68, ↓s161_69, ↓s161_70, ↓s161_73, ↓s161_75, ↓s161_76, ↓s161_79, ↓s161_80, ↓s161_81, ↓s161_82, ↓s161_83, ↓s161_86, ↓s161_87, ↓s161_88, ↓s161_89, ↓s161_90, ↓s161_91, ↓s161_92, ↓s161_95, ↓s161_96, ↓s161_97, ↓s161_98, ↓s161_100, ↓s161_101, ↓s161_102, ↓s161_105, ↓s161_106, ↓s161_107, ↓s161_108, ↓s161_109, ↓s161_110, ↓s161_111, ↓s161_112, ↓s161_115, ↓s161_116, ↓s161_117, ↓s161_120, ↓s161_121, ↓s161_123, jc_84, gf_84_0, gf_84_1, gf_84_2, gf_84_3, gf_84_4, ok_84_4, gf_84_5, ok_84_5, gf_84_6, ok_84_6, gf_84_7, ok_84_7, gf_84_8, ok_84_8, gf_84_9, ok_84_9, gf_84_10, gf_84_11, gf_84_12, gf_84_13, gf_84_14, gf_84_15, gf_84_16, gf_84_17, ok_84_17, gf_84_18, gf_84_19, ok_84_19, gf_84_20, ok_84_20, gf_84_21, gf_84_22, gf_84_23, gf_84_24, ok_84_24, gf_84_25, ok_84_25, gf_84_26, ok_84_26, gf_84_27, ok_84_27, gf_84_28, ok_84_28, gf_84_29, gf_84_30, ↓cc, ct_s, ct_n, ↓bI_01, bI_eq0, bI_eq1, nI_10, nI_01, dec_f, dec_t, if_n, eq_self, true_or, or_true, if_true, if_false, reduceIte, sa_85 (show 71 + 4 * ncA (M 85) < 181 by omega), sa_85 (show 71 + 4 * ncA (M 85) + 1 < 181 by omega), sa_85 (show 71 + 4 * ncA (M 85) + 2 < 181 by omega), nI_add, al_85 (show 3 < 181 by decide), sa_85 (show 3 < 181 by decide), sa_85 (show 2 < 181 by decide), ux_j (show 3 ≠ 71 + 4 * ncA (M 85) by omega), ux_j (show 3 ≠ 71 + 4 * ncA (M 85) + 1 by omega), ux_j (show 3 ≠ 71 + 4 * ncA (M 85) + 2 by omega), rvM_85, r3, ux_a (show 84 ≠ 85 by decide), rvM_6]
        unfold evS
        rw [hds]
        rfl
      · have g85 : ∀ j, M2 85 j = if j = 74 + 4 * ncA (M 85) then M 85 2 else M 85 j := fun j => by rw [← hm2, ux85, rvM_85, hA1]
        have o2 : ∀ c, c ≠ 84 → c ≠ 85 → M2 c = M1 c := fun c h1 h2 => by rw [← hm2, ux_f h2, rvM_o h1]
        have o24 : M2 84 24 = M 84 24 := by rw [← hm2, ux_a (by decide), rvM_j (by decide) (by decide) (by decide) (by decide), ← hm1, csM_o (by decide) (by decide) (by decide)]
        have o1 : ∀ c, c ≠ 21 → c ≠ 26 → c ≠ 27 → M1 c = M c := fun c h1 h2 h3 => by rw [← hm1, csM_o h1 h2 h3]
        generalize hm3 : ux (ux (ux (ux (ux (rvM M2 (evS (M 85) s k (nowA (M 85)))) 85 (71 + 4 * ncA (M 85)) (nI k)) 85 (71 + 4 * ncA (M 85) + 1) (nI s)) 85 (71 + 4 * ncA (M 85) + 2) (nI ds)) 85 3 (nI (ncA (M 85) + 1))) 85 2 (iI (leA (M 85) + sg s ds)) = M3
        have o3 : ∀ c, c ≠ 84 → c ≠ 85 → M3 c = M2 c := fun c h1 h2 => by rw [← hm3, ux_f h2, ux_f h2, ux_f h2, ux_f h2, ux_f h2, rvM_o h1]
        have hB : M3 85 = srvA (M 85) k s ds := by
          funext j
          rw [← hm3, ux85, ux85, ux85, ux85, ux85, rvM_85, g85]
          unfold srvA
          by_cases j2 : j = 2
          · rw [if_pos j2, if_pos j2]
          · rw [if_neg j2, if_neg j2]
            by_cases j3 : j = 3
            · rw [if_pos j3, if_pos j3]
            · rw [if_neg j3, if_neg j3]
              by_cases q1 : j = 71 + 4 * ncA (M 85)
              · rw [if_neg (by omega), if_neg (by omega), if_pos q1, if_pos q1]
              · by_cases q2 : j = 72 + 4 * ncA (M 85)
                · rw [if_neg (by omega), if_pos (by omega), if_neg q1, if_pos q2]
                · by_cases q3 : j = 73 + 4 * ncA (M 85)
                  · rw [if_pos (by omega), if_neg q1, if_neg q2, if_pos q3]
                  · rw [if_neg (by omega), if_neg (by omega), if_neg q1, if_neg q1, if_neg q2, if_neg q3]
        have hbs : hasB (svA (M 85) (ncA (M 85))) k = false := hb2
        refine Inv_court (M := M) ?_ hB (srvA_wf hW k2 s1 hd hbs) (fun a h => ?_) ?_ hI
        · have m : ∀ c, 21 < c → c ≤ 31 → c ≠ 26 → c ≠ 27 → M3 c = M c := fun c h1 h2 h3 h4 => by rw [o3 c (by omega) (by omega), o2 c (by omega) (by omega), o1 c (by omega) h3 h4]
          refine RC_mk (RCd_eq (m 22 (by decide) (by decide) (by decide) (by decide)) (m 23 (by decide) (by decide) (by decide) (by decide)) (srvA_o (by decide) (by decide) (by omega)) hW.1.2 (fun i _ _ => srvA_o (by omega) (by omega) (by omega)) hC.pd) (RCb_eq (m 24 (by decide) (by decide) (by decide) (by decide)) (m 25 (by decide) (by decide) (by decide) (by decide)) (fun i _ _ => srvA_o (by omega) (by omega) (by omega)) hC.pb) ⟨?_, fun i hi => ?_⟩ (RCm_eq (m 28 (by decide) (by decide) (by decide) (by decide)) (m 29 (by decide) (by decide) (by decide) (by decide)) (srvA_o (by decide) (by decide) (by omega)) hW.2.2.2.1.2 (fun i _ _ => srvA_o (by omega) (by omega) (by omega)) hC.pm) (RCr_eq (m 30 (by decide) (by decide) (by decide) (by decide)) (m 31 (by decide) (by decide) (by decide) (by decide)) (srvA_o (by decide) (by decide) (by omega)) hW.r (fun i _ _ => srvA_o (by omega) (by omega) (by omega)) hC.pr) ⟨?_, ?_⟩
          · show M3 26 3 = _
            rw [o3 26 (by decide) (by decide), o2 26 (by decide) (by decide), ← hm1]
            rfl
          · have en : ncA (srvA (M 85) k s ds) = ncA (M 85) + 1 := by
              unfold ncA
              rw [show srvA (M 85) k s ds 3 = nI (ncA (M 85) + 1) from rfl]
              exact tn_nI (by omega)
            rw [en] at hi
            show M3 27 i = _
            rw [o3 27 (by decide) (by decide), o2 27 (by decide) (by decide), ← hm1]
            unfold csM
            rw [if_neg (by omega), if_neg (by omega)]
            by_cases q1 : i = ncA (M 85) * 4 + 0
            · rw [if_pos ⟨rfl, q1⟩]
              unfold srvA
              rw [if_neg (by omega), if_neg (by omega), if_pos (by omega)]
            · rw [if_neg (by omega)]
              by_cases q2 : i = ncA (M 85) * 4 + 1
              · rw [if_pos ⟨rfl, q2⟩]
                unfold srvA
                rw [if_neg (by omega), if_neg (by omega), if_neg (by omega), if_pos (by omega)]
              · rw [if_neg (by omega)]
                by_cases q3 : i = ncA (M 85) * 4 + 2
                · rw [if_pos ⟨rfl, q3⟩]
                  unfold srvA
                  rw [if_neg (by omega), if_neg (by omega), if_neg (by omega), if_neg (by omega), if_pos (by omega)]
                · rw [if_neg (by omega)]
                  by_cases q4 : i = ncA (M 85) * 4 + 3
                  · rw [if_pos ⟨rfl, q4⟩]
                    unfold srvA
                    rw [if_neg (by omega), if_neg (by omega), if_neg (by omega), if_neg (by omega), if_neg (by omega), if_pos (by omega)]
                    exact hC.ph.2
                  · rw [if_neg (by omega), srvA_o (by omega) (by omega) (by omega)]
                    exact hC.pc.2 i (by omega)
          · rw [o3 21 (by decide) (by decide), o2 21 (by decide) (by decide), ← hm1, srvA_o (by decide) (by decide) (by omega)]
            show csM M (ncA (M 85)) k s ds _ 21 5 = _
            unfold csM
            rw [if_neg (by omega), if_neg (by omega), if_neg (by omega), if_neg (by omega), if_neg (by omega), if_neg (by omega)]
            exact hC.ph.1
          · rw [o3 21 (by decide) (by decide), o2 21 (by decide) (by decide), ← hm1]
            rfl
        · rw [o3 a (by omega) (by omega), o2 a (by omega) (by omega), o1 a (by omega) (by omega) (by omega)]
        · rw [← hm3, ux_a (by decide), ux_a (by decide), ux_a (by decide), ux_a (by decide), ux_a (by decide), rvM_j (by decide) (by decide) (by decide) (by decide), o24]
  · refine ⟨-2, ux M 20 13 (M 20 13 + nI 1), N, rjM M 0, N, fun S d n Q => ?_, fun S d n Q => ?_, Inv_rj (by decide) hI⟩
    · simp only [↓s88_0, ↓s88_1, ↓s88_4, ↓s88_5, ↓s88_8, ↓s88_11, ↓s88_12, ↓s88_15, ↓s88_18, ↓s88_19, ↓s88_21, ↓s88_23, ↓s88_26, jc_20, gf_20_0, gf_20_1, gf_20_2, gf_20_3, gf_20_4, gf_20_5, gf_20_6, gf_20_7, gf_20_8, gf_20_9, gf_20_10, gf_20_11, ok_20_11, gf_20_12, ok_20_12, gf_20_13, ok_20_13, gf_20_14, ok_20_14, gf_20_15, ok_20_15, jc_21, gf_21_0, gf_21_1, gf_21_2, gf_21_3, gf_21_4, gf_21_5, ok_21_5, gf_21_6, ok_21_6, ↓c3 hC hW, ↓c122, ↓c116, refM_b, ct_s, ct_n, ↓bI_01, bI_eq0, bI_eq1, nI_10, nI_01, dec_f, dec_t, if_n, eq_self, true_or, or_true, if_true, if_false, reduceIte]
      by_cases h1 : nI 0 ≤ x ∧ x ≤ nI (ndA (M 85)) - nI 1
      · rw [if_pos h1, if_neg (fun q => hb ⟨h1, q⟩)]
      · rw [if_neg h1]
    · have a0' : ux M 20 13 (M 20 13 + nI 1) 85 0 = nI (ndA (M 85)) := by rw [ux_a (by decide)]; exact a0
      simp only [↓s161_0, ↓s161_1, ↓s161_2, ↓s161_5, ↓s161_8, ↓s161_9, ↓s161_12, ↓s161_15, ↓s161_16, ↓s161_18, ↓s161_21, jc_84, gf_84_0, gf_84_1, gf_84_2, gf_84_3, gf_84_4, ok_84_4, gf_84_5, ok_84_5, gf_84_6, ok_84_6, gf_84_7, ok_84_7, gf_84_8, ok_84_8, gf_84_9, ok_84_9, gf_84_10, gf_84_11, gf_84_12, gf_84_13, gf_84_14, gf_84_15, gf_84_16, gf_84_17, ok_84_17, gf_84_18, gf_84_19, ok_84_19, gf_84_20, ok_84_20, gf_84_21, gf_84_22, gf_84_23, gf_84_24, ok_84_24, gf_84_25, ok_84_25, gf_84_26, ok_84_26, gf_84_27, ok_84_27, gf_84_28, ok_84_28, gf_84_29, gf_84_30, ↓c141, a0', ↓c142, ↓c136, ux88, ct_s, ct_n, ↓bI_01, bI_eq0, bI_eq1, nI_10, nI_01, dec_f, dec_t, if_n, eq_self, true_or, or_true, if_true, if_false, reduceIte]
      by_cases h1 : nI 0 ≤ x ∧ x ≤ nI (ndA (M 85)) - nI 1
      · rw [if_pos h1, if_neg (fun q => hb ⟨h1, q⟩)]
        rfl
      · rw [if_neg h1]
        rfl
end Serve2
