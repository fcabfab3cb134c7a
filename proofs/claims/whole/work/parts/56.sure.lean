/-! ===== sure ===== -/
section Sure
variable {M M0 : ax_M} {N : ax_L} {A : ax_A0} {x : Int32} {f : Nat → Nat} {w : ax_V} {s m : Nat}
theorem ck_one : ∀ i, i < 8 → ∀ j, j < 8 → ck (2 ^ i) j = if j = i then 0 else 1 := by decide +kernel
theorem sh_one : ∀ i, i < 9 → nI 1 <<< (nI i &&& 31) = nI (2 ^ i) := by decide +kernel
theorem pw_lt : ∀ i, i < 8 → 2 ^ i < 256 := by decide
theorem gL_one {i : Nat} (hi : i < 8) : ∀ k, k ≤ 8 → gL A f w s (2 ^ i) k = gL A f w s 0 k - (if i < k then gP A f w s i else 0) := by
  intro k
  induction k with
  | zero => intro _; rw [if_neg (by omega)]; rfl
  | succ k ih =>
    intro hk
    show gL A f w s (2 ^ i) k + (ck (2 ^ i) k : Int) * gP A f w s k = gL A f w s 0 k + (ck 0 k : Int) * gP A f w s k - _
    rw [ih (by omega), ck_one i hi k (by omega), ck_0]
    by_cases e : k = i
    · subst e
      rw [if_pos rfl, if_neg (by omega), if_pos (by omega)]
      simp
    · rw [if_neg e]
      by_cases e2 : i < k
      · rw [if_pos e2, if_pos (by omega)]
        simp only [Int.natCast_one, Int.one_mul]
        omega
      · rw [if_neg e2, if_neg (by omega)]
        simp
/-- without dish i of the menu it comes out alike -/
def srT (A : ax_A0) (s i : Nat) : Bool := decide (vdI (iI (leA A + gL A (mdA A) (nowA A) s 0 (nmA A) - gP A (mdA A) (nowA A) s i)) = vdI (iI (leA A + gL A (mdA A) (nowA A) s 0 (nmA A))))
def srA (A : ax_A0) (s : Nat) : Nat → Nat → Bool
  | 0, _ => true
  | c + 1, i => srT A s i && srA A s c (i + 1)
theorem l107 (hC : RC M 21 A) (hW : WF A) (hs : s ≤ 1) {d n : Nat} {S : ax_S} {Q : Option Value → Nat → ax_H → Prop} : ∀ (c i : Nat), i + c = nmA A → ax_W (d + 3) 107 42 [.ref 20, .int (nI s), .int (iI (leA A + gL A (mdA A) (nowA A) s 0 (nmA A))), .int (nI i)] [] n (hx S (tgM M A (mdA A) (nowA A) s (nmA A) (nmA A)) N) Q = Q (some (.int (bI (srA A s c i)))) n (hx S (tgM M A (mdA A) (nowA A) s (nmA A) (nmA A)) N) := by
  have m8 := hW.2.2.2.1.2
  intro c
  induction c with
  | zero =>
    intro i hi
    simp only [↓s107_42, ↓s107_43, ↓s107_44, ↓s107_47, ↓s107_50, ↓s70_0, ↓s70_1, ↓s70_4, ↓s70_7, jc_20, gf_20_0, gf_20_1, gf_20_2, gf_20_3, gf_20_4, gf_20_5, gf_20_6, gf_20_7, gf_20_8, gf_20_9, gf_20_10, gf_20_11, ok_20_11, gf_20_12, ok_20_12, gf_20_13, ok_20_13, gf_20_14, ok_20_14, gf_20_15, ok_20_15, jc_73, gf_73_0, gf_73_1, gf_73_2, gf_73_3, ok_73_3, jc_74, gf_74_0, gf_74_1, gf_74_2, gf_74_3, ok_74_3, ↓c53 h74, tg_74, ct_s, ct_n, ↓bI_01, bI_eq0, bI_eq1, nI_10, nI_01, dec_f, dec_t, if_n, eq_self, true_or, or_true, if_true, if_false, reduceIte]
    rw [if_pos (nI_le (a := nmA A) (b := i) (by omega) (by omega))]
    simp only [↓s107_81, ↓s107_82, ct_s, ct_n, ↓bI_01, bI_eq0, bI_eq1, nI_10, nI_01, dec_f, dec_t, if_n, eq_self, true_or, or_true, if_true, if_false, reduceIte]
    rfl
  | succ c ih =>
    intro i hi
    simp only [↓s107_42, ↓s107_43, ↓s107_44, ↓s107_47, ↓s107_50, ↓s70_0, ↓s70_1, ↓s70_4, ↓s70_7, jc_20, gf_20_0, gf_20_1, gf_20_2, gf_20_3, gf_20_4, gf_20_5, gf_20_6, gf_20_7, gf_20_8, gf_20_9, gf_20_10, gf_20_11, ok_20_11, gf_20_12, ok_20_12, gf_20_13, ok_20_13, gf_20_14, ok_20_14, gf_20_15, ok_20_15, jc_73, gf_73_0, gf_73_1, gf_73_2, gf_73_3, ok_73_3, jc_74, gf_74_0, gf_74_1, gf_74_2, gf_74_3, ok_74_3, ↓c53 h74, tg_74, ct_s, ct_n, ↓bI_01, bI_eq0, bI_eq1, nI_10, nI_01, dec_f, dec_t, if_n, eq_self, true_or, or_true, if_true, if_false, reduceIte]
    rw [if_neg (nI_ge (a := i) (b := nmA A) (by omega) (by omega))]
    simp only [↓s107_53, ↓s107_54, ↓s107_55, ↓s107_58, ↓s107_59, ↓s107_62, ↓s107_63, ↓s107_66, ↓s107_67, ↓s107_70, ↓s71_0, ↓s71_1, ↓s71_4, ↓s71_5, ↓s71_6, ↓s71_9, jc_20, gf_20_0, gf_20_1, gf_20_2, gf_20_3, gf_20_4, gf_20_5, gf_20_6, gf_20_7, gf_20_8, gf_20_9, gf_20_10, gf_20_11, ok_20_11, gf_20_12, ok_20_12, gf_20_13, ok_20_13, gf_20_14, ok_20_14, gf_20_15, ok_20_15, jc_73, gf_73_0, gf_73_1, gf_73_2, gf_73_3, ok_73_3, jc_74, gf_74_0, gf_74_1, gf_74_2, gf_74_3, ok_74_3, ↓c54 h74 (cap_of (tg_74 (M := M) (A := A) (f := mdA A) (w := nowA A) (s := s) (m := nmA A) (i := nmA A)) m8 (by omega)), tg_cell1 (show i < nmA A by omega) (show i < nmA A by omega) m8, iI_sub, ↓c126, ct_s, ct_n, ↓bI_01, bI_eq0, bI_eq1, nI_10, nI_01, dec_f, dec_t, if_n, eq_self, true_or, or_true, if_true, if_false, reduceIte]
    show _ = Q (some (.int (bI (srT A s i && srA A s c (i + 1))))) n _
    by_cases e : vdI (iI (leA A + gL A (mdA A) (nowA A) s 0 (nmA A) - gP A (mdA A) (nowA A) s i)) = vdI (iI (leA A + gL A (mdA A) (nowA A) s 0 (nmA A)))
    · rw [if_pos e, show srT A s i = true from decide_eq_true e, Bool.true_and]
      simp only [↓s107_75, ↓s107_78, nI_add, ct_s, ct_n, ↓bI_01, bI_eq0, bI_eq1, nI_10, nI_01, dec_f, dec_t, if_n, eq_self, true_or, or_true, if_true, if_false, reduceIte]
      exact ih (i + 1) (by omega)
    · rw [if_neg e, show srT A s i = false from decide_eq_false e, Bool.false_and]
      simp only [↓s107_73, ↓s107_74, ct_s, ct_n, ↓bI_01, bI_eq0, bI_eq1, nI_10, nI_01, dec_f, dec_t, if_n, eq_self, true_or, or_true, if_true, if_false, reduceIte]
      rfl
theorem l193 (hA0 : M0 85 = A) (hW : WF A) (hs : s ≤ 1) : ∀ (c i : Nat), i + c = nmA A → ∀ (M : ax_M) (b : Bool), sc M0 M → ∃ M2, sc M0 M2 ∧ ∀ (S : ax_S) (d n : Nat) (Q : Option Value → Nat → ax_H → Prop), ax_W (d + 7) 193 33 [.ref 84, .int (nI s), .int (vdI (iI (leA A + gL A (mdA A) (nowA A) s 0 (nmA A)))), .int (bI b), .int (nI i)] [] n (hx S M N) Q = Q (some (.int (bI (b && srA A s c i)))) n (hx S M2 N) := by
  have m8 := hW.2.2.2.1.2
  intro c
  induction c with
  | zero =>
    intro i hi M b hM
    have hA := (hM.1 85 (by omega)).trans hA0
    have a4 : M 85 4 = nI (nmA A) := by rw [hA]; exact hW.2.2.2.1.1
    refine ⟨M, hM, fun S d n Q => ?_⟩
    simp only [↓s193_33, ↓s193_35, ↓s193_36, ↓s193_39, ↓s193_40, ↓s193_41, jc_84, gf_84_0, gf_84_1, gf_84_2, gf_84_3, gf_84_4, ok_84_4, gf_84_5, ok_84_5, gf_84_6, ok_84_6, gf_84_7, ok_84_7, gf_84_8, ok_84_8, gf_84_9, ok_84_9, gf_84_10, gf_84_11, gf_84_12, gf_84_13, gf_84_14, gf_84_15, gf_84_16, gf_84_17, ok_84_17, gf_84_18, gf_84_19, ok_84_19, gf_84_20, ok_84_20, gf_84_21, gf_84_22, gf_84_23, gf_84_24, ok_84_24, gf_84_25, ok_84_25, gf_84_26, ok_84_26, gf_84_27, ok_84_27, gf_84_28, ok_84_28, gf_84_29, gf_84_30, al_85 (show 4 < 181 by decide), a4, ct_s, ct_n, ↓bI_01, bI_eq0, bI_eq1, nI_10, nI_01, dec_f, dec_t, if_n, eq_self, true_or, or_true, if_true, if_false, reduceIte]
    rw [if_pos (nI_le (a := nmA A) (b := i) (by omega) (by omega))]
    show _ = Q (some (.int (bI (b && true)))) n _
    rw [Bool.and_true]
    cases b with
    | true => simp only [↓s193_80, ↓s193_81, ↓s193_84, ↓s193_85, ↓s193_88, ↓s193_89, ct_s, ct_n, ↓bI_01, bI_eq0, bI_eq1, nI_10, nI_01, dec_f, dec_t, if_n, eq_self, true_or, or_true, if_true, if_false, reduceIte, Bool.true_eq_false]; rfl
    | false => simp only [↓s193_80, ↓s193_81, ↓s193_84, ↓s193_85, ↓s193_88, ↓s193_89, ct_s, ct_n, ↓bI_01, bI_eq0, bI_eq1, nI_10, nI_01, dec_f, dec_t, if_n, eq_self, true_or, or_true, if_true, if_false, reduceIte]; rfl
  | succ c ih =>
    intro i hi M b hM
    have hA := (hM.1 85 (by omega)).trans hA0
    have a4 : M 85 4 = nI (nmA A) := by rw [hA]; exact hW.2.2.2.1.1
    have hM1 : sc M0 (gmM M A (mdA A) (nowA A) s (2 ^ i) (nmA A)) := sc_gm hM
    obtain ⟨M2, h2, h3⟩ := ih (i + 1) (by omega) _ (b && srT A s i) hM1
    refine ⟨M2, h2, fun S d n Q => ?_⟩
    have hl : (nowA A).2.2 + gL A (mdA A) (nowA A) s (2 ^ i) (nmA A) = leA A + gL A (mdA A) (nowA A) s 0 (nmA A) - gP A (mdA A) (nowA A) s i := by
      rw [gL_one (by omega) _ (by omega), if_pos (show i < nmA A by omega)]
      show leA A + _ = _
      omega
    have h3' := h3 S d n Q
    rw [Bool.and_assoc] at h3'
    simp only [↓s193_33, ↓s193_35, ↓s193_36, ↓s193_39, ↓s193_40, ↓s193_41, jc_84, gf_84_0, gf_84_1, gf_84_2, gf_84_3, gf_84_4, ok_84_4, gf_84_5, ok_84_5, gf_84_6, ok_84_6, gf_84_7, ok_84_7, gf_84_8, ok_84_8, gf_84_9, ok_84_9, gf_84_10, gf_84_11, gf_84_12, gf_84_13, gf_84_14, gf_84_15, gf_84_16, gf_84_17, ok_84_17, gf_84_18, gf_84_19, ok_84_19, gf_84_20, ok_84_20, gf_84_21, gf_84_22, gf_84_23, gf_84_24, ok_84_24, gf_84_25, ok_84_25, gf_84_26, ok_84_26, gf_84_27, ok_84_27, gf_84_28, ok_84_28, gf_84_29, gf_84_30, al_85 (show 4 < 181 by decide), a4, ct_s, ct_n, ↓bI_01, bI_eq0, bI_eq1, nI_10, nI_01, dec_f, dec_t, if_n, eq_self, true_or, or_true, if_true, if_false, reduceIte]
    rw [if_neg (nI_ge (a := i) (b := nmA A) (by omega) (by omega))]
    simp only [↓s193_44, ↓s193_45, ↓s193_46, ↓s193_47, ↓s193_49, ↓s193_50, ↓s193_53, jc_84, gf_84_0, gf_84_1, gf_84_2, gf_84_3, gf_84_4, ok_84_4, gf_84_5, ok_84_5, gf_84_6, ok_84_6, gf_84_7, ok_84_7, gf_84_8, ok_84_8, gf_84_9, ok_84_9, gf_84_10, gf_84_11, gf_84_12, gf_84_13, gf_84_14, gf_84_15, gf_84_16, gf_84_17, ok_84_17, gf_84_18, gf_84_19, ok_84_19, gf_84_20, ok_84_20, gf_84_21, gf_84_22, gf_84_23, gf_84_24, ok_84_24, gf_84_25, ok_84_25, gf_84_26, ok_84_26, gf_84_27, ok_84_27, gf_84_28, ok_84_28, gf_84_29, gf_84_30, sh_one i (by omega), ↓c170 hA hW hs (pw_lt i (by omega)), ct_s, ct_n, ↓bI_01, bI_eq0, bI_eq1, nI_10, nI_01, dec_f, dec_t, if_n, eq_self, true_or, or_true, if_true, if_false, reduceIte]
    cases b with
    | false =>
      rw [Bool.false_and] at h3'
      simp only [↓s193_54, ↓s193_72, ↓s193_73, ↓s193_74, ↓s193_77, nI_add, ct_s, ct_n, ↓bI_01, bI_eq0, bI_eq1, nI_10, nI_01, dec_f, dec_t, if_n, eq_self, true_or, or_true, if_true, if_false, reduceIte]
      exact h3'
    | true =>
      simp only [↓s193_54, ↓s193_57, ↓s193_58, ↓s193_61, ↓s193_64, ↓s193_65, jc_84, gf_84_0, gf_84_1, gf_84_2, gf_84_3, gf_84_4, ok_84_4, gf_84_5, ok_84_5, gf_84_6, ok_84_6, gf_84_7, ok_84_7, gf_84_8, ok_84_8, gf_84_9, ok_84_9, gf_84_10, gf_84_11, gf_84_12, gf_84_13, gf_84_14, gf_84_15, gf_84_16, gf_84_17, ok_84_17, gf_84_18, gf_84_19, ok_84_19, gf_84_20, ok_84_20, gf_84_21, gf_84_22, gf_84_23, gf_84_24, ok_84_24, gf_84_25, ok_84_25, gf_84_26, ok_84_26, gf_84_27, ok_84_27, gf_84_28, ok_84_28, gf_84_29, gf_84_30, gm_6, hl, ↓c160, ct_s, ct_n, ↓bI_01, bI_eq0, bI_eq1, nI_10, nI_01, dec_f, dec_t, if_n, eq_self, true_or, or_true, if_true, if_false, reduceIte, Bool.true_eq_false]
      by_cases e : vdI (iI (leA A + gL A (mdA A) (nowA A) s 0 (nmA A) - gP A (mdA A) (nowA A) s i)) = vdI (iI (leA A + gL A (mdA A) (nowA A) s 0 (nmA A)))
      · rw [if_pos e]
        rw [Bool.true_and, show srT A s i = true from decide_eq_true e] at h3'
        simp only [↓s193_68, ↓s193_69, ↓s193_72, ↓s193_73, ↓s193_74, ↓s193_77, nI_add, ct_s, ct_n, ↓bI_01, bI_eq0, bI_eq1, nI_10, nI_01, dec_f, dec_t, if_n, eq_self, true_or, or_true, if_true, if_false, reduceIte]
        exact h3'.trans (by show _ = Q (some (.int (bI (true && (srT A s i && srA A s c (i + 1)))))) n _; rw [show srT A s i = true from decide_eq_true e])
      · rw [if_neg e]
        rw [Bool.true_and, show srT A s i = false from decide_eq_false e] at h3'
        simp only [↓s193_72, ↓s193_73, ↓s193_74, ↓s193_77, nI_add, ct_s, ct_n, ↓bI_01, bI_eq0, bI_eq1, nI_10, nI_01, dec_f, dec_t, if_n, eq_self, true_or, or_true, if_true, if_false, reduceIte]
        exact h3'.trans (by show _ = Q (some (.int (bI (true && (srT A s i && srA A s c (i + 1)))))) n _; rw [show srT A s i = false from decide_eq_false e])
theorem p26 (hI : Inv M N) : RPi 107 193 [.ref 20, .int x, ax_dm, ax_dm] [.ref 84, .int x, ax_dm, ax_dm, ax_dm] M N := by
  have hC := hI.1
  have hW := hI.2.1
  by_cases h0 : nI 0 ≤ x ∧ x ≤ nI 1
  · obtain ⟨s, s1, rfl⟩ := rng (by decide) h0
    generalize hA : M 85 = A at *
    have hC1 : RC (ux M 74 3 (nI 0)) 21 A := RC_ux (by decide) hC
    have sc1 : sc M (tgM (ux M 74 3 (nI 0)) A (mdA A) (nowA A) s (nmA A) (nmA A)) := sc_tg (sc_ux sc_rf (by omega))
    have hC2 : RC (tgM (ux M 74 3 (nI 0)) A (mdA A) (nowA A) s (nmA A) (nmA A)) 21 A := RC_tg hC1
    have hA2 : (tgM (ux M 74 3 (nI 0)) A (mdA A) (nowA A) s (nmA A) (nmA A)) 85 = A := (sc1.1 85 (by omega)).trans hA
    have sc2 : sc M (gmM (tgM (ux M 74 3 (nI 0)) A (mdA A) (nowA A) s (nmA A) (nmA A)) A (mdA A) (nowA A) s 0 (nmA A)) := sc_gm sc1
    obtain ⟨M2, h2, g2⟩ := l193 (N := N) hA hW s1 (nmA A) 0 (by omega) _ true sc2
    refine ⟨bI (srA A s (nmA A) 0), tgM (ux M 74 3 (nI 0)) A (mdA A) (nowA A) s (nmA A) (nmA A), N, M2, N, fun S d n Q => ?_, fun S d n Q => ?_, Inv_sc h2 hI⟩
    · simp only [↓s107_0, ↓s107_1, ↓s107_4, ↓c122, ct_s, ct_n, ↓bI_01, bI_eq0, bI_eq1, nI_10, nI_01, dec_f, dec_t, if_n, eq_self, true_or, or_true, if_true, if_false, reduceIte]
      rw [if_pos h0]
      simp only [↓s107_16, ↓s107_17, ↓s107_20, ↓s107_21, ↓s107_24, ↓s107_25, ↓s107_28, ↓s107_31, ↓s107_32, ↓s107_35, ↓s107_38, ↓s107_39, ↓s107_40, ↓s107_41, jc_20, gf_20_0, gf_20_1, gf_20_2, gf_20_3, gf_20_4, gf_20_5, gf_20_6, gf_20_7, gf_20_8, gf_20_9, gf_20_10, gf_20_11, ok_20_11, gf_20_12, ok_20_12, gf_20_13, ok_20_13, gf_20_14, ok_20_14, gf_20_15, ok_20_15, jc_73, gf_73_0, gf_73_1, gf_73_2, gf_73_3, ok_73_3, jc_21, gf_21_0, gf_21_1, gf_21_2, gf_21_3, gf_21_4, gf_21_5, ok_21_5, gf_21_6, ok_21_6, ↓s72_0, ↓s72_1, ↓s72_4, ↓c73 hC hW s1, rc_le hC2, tg_73, iI_add, ct_s, ct_n, ↓bI_01, bI_eq0, bI_eq1, nI_10, nI_01, dec_f, dec_t, if_n, eq_self, true_or, or_true, if_true, if_false, reduceIte]
      exact l107 (d := d + 897) hC1 hW s1 (nmA A) 0 (by omega)
    · simp only [↓s193_0, ↓s193_1, ↓s193_4, ↓c142, ct_s, ct_n, ↓bI_01, bI_eq0, bI_eq1, nI_10, nI_01, dec_f, dec_t, if_n, eq_self, true_or, or_true, if_true, if_false, reduceIte]
      rw [if_pos h0]
      simp only [↓s193_14, ↓s193_15, ↓s193_16, ↓s193_17, ↓s193_20, ↓s193_21, ↓s193_24, ↓s193_27, ↓s193_28, ↓s193_29, ↓s193_30, ↓s193_31, jc_84, gf_84_0, gf_84_1, gf_84_2, gf_84_3, gf_84_4, ok_84_4, gf_84_5, ok_84_5, gf_84_6, ok_84_6, gf_84_7, ok_84_7, gf_84_8, ok_84_8, gf_84_9, ok_84_9, gf_84_10, gf_84_11, gf_84_12, gf_84_13, gf_84_14, gf_84_15, gf_84_16, gf_84_17, ok_84_17, gf_84_18, gf_84_19, ok_84_19, gf_84_20, ok_84_20, gf_84_21, gf_84_22, gf_84_23, gf_84_24, ok_84_24, gf_84_25, ok_84_25, gf_84_26, ok_84_26, gf_84_27, ok_84_27, gf_84_28, ok_84_28, gf_84_29, gf_84_30, ↓c170 (mk := 0) hA2 hW s1 (by decide), gm_6, ↓c160, ct_s, ct_n, ↓bI_01, bI_eq0, bI_eq1, nI_10, nI_01, dec_f, dec_t, if_n, eq_self, true_or, or_true, if_true, if_false, reduceIte]
      have g := g2 S (d + 893) n Q
      rw [Bool.true_and] at g
      exact g
  · refine ⟨-2, ux M 20 13 (M 20 13 + nI 1), N, rjM M 0, N, fun S d n Q => ?_, fun S d n Q => ?_, Inv_rj (by decide) hI⟩
    · simp only [↓s107_0, ↓s107_1, ↓s107_4, ↓s107_7, ↓s107_8, ↓s107_10, ↓s107_12, ↓s107_15, ↓c122, jc_20, ↓c116, refM_b, ct_s, ct_n, ↓bI_01, bI_eq0, bI_eq1, nI_10, nI_01, dec_f, dec_t, if_n, eq_self, true_or, or_true, if_true, if_false, reduceIte]
      rw [if_neg h0]
    · simp only [↓s193_0, ↓s193_1, ↓s193_4, ↓s193_7, ↓s193_8, ↓s193_10, ↓s193_13, ↓c142, jc_84, ↓c136, ux88, ct_s, ct_n, ↓bI_01, bI_eq0, bI_eq1, nI_10, nI_01, dec_f, dec_t, if_n, eq_self, true_or, or_true, if_true, if_false, reduceIte]
      rw [if_neg h0]
      rfl
end Sure
