/-! ===== the reference: what a dish does ===== -/
def smA (A : ax_A0) (k : Nat) : Option Nat → Bool
  | none => false
  | some j => decide (taA A k = taA A j)
def otA (A : ax_A0) (k : Nat) : Option Nat → Bool
  | none => false
  | some j => decide (¬ coA A k = coA A j)
/-- side s serves dish k, its pull counts c times -/
def evB (A : ax_A0) (c s k : Nat) (v : ax_V) : ax_V := (addB v.1 k, some k, v.2.2 + (c : Int) * sg s (dsN A k (pop v.1) v.2.1))
theorem evB_1 {A : ax_A0} {s k : Nat} {v : ax_V} : evB A 1 s k v = evS A s k v := by
  unfold evB evS
  rw [show ((1 : Nat) : Int) = 1 from rfl, Int.one_mul]
section Ref2
variable {d n : Nat} {h : ax_H} {Q : Option Value → Nat → ax_H → Prop} {S : ax_S} {M : ax_M} {N : ax_L} {A : ax_A0} {v : ax_V}
theorem rg_kind (hA : M 85 = A) (hW : WF A) {k : Nat} (hk : k < ndA A) : M 85 (6 + 5 * k + 0) = nI (kdA A k) := by rw [hA]; exact (hW.2.2.2.2.2.2.1 k hk).1.1
theorem rg_taste (hA : M 85 = A) (hW : WF A) {k : Nat} (hk : k < ndA A) : M 85 (6 + 5 * k + 1) = nI (taA A k) := by rw [hA, show 6 + 5 * k + 1 = 7 + 5 * k by omega]; exact (hW.2.2.2.2.2.2.1 k hk).2.1.1
theorem rg_force (hA : M 85 = A) (hW : WF A) {k : Nat} (hk : k < ndA A) : M 85 (6 + 5 * k + 2) = nI (foA A k) := by rw [hA, show 6 + 5 * k + 2 = 8 + 5 * k by omega]; exact (hW.2.2.2.2.2.2.1 k hk).2.2.1.1
theorem rg_butter (hA : M 85 = A) (hW : WF A) {k : Nat} (hk : k < ndA A) : M 85 (6 + 5 * k + 3) = nI (buA A k) := by rw [hA, show 6 + 5 * k + 3 = 9 + 5 * k by omega]; exact (hW.2.2.2.2.2.2.1 k hk).2.2.2.1.1
theorem rg_cook (hA : M 85 = A) (hW : WF A) {k : Nat} (hk : k < ndA A) : M 85 (6 + 5 * k + 4) = nI (coA A k) := by rw [hA, show 6 + 5 * k + 4 = 10 + 5 * k by omega]; exact (hW.2.2.2.2.2.2.1 k hk).2.2.2.2.1
theorem c152 (hA : M 85 = A) (hW : WF A) : ax_W d 152 0 [.ref 84] [] n (hx S (rvM M v) N) Q = Q (some (.int (nI (huA A - pop v.1)))) n (hx S (rvM M v) N) := by
  have p8 := bt_pop8 v.1
  have h9 := hW.2.1.2
  simp only [↓s152_0, ↓s152_1, ↓s152_4, ↓s152_5, ↓s152_6, ↓s152_7, ↓s152_10, jc_84, gf_84_0, gf_84_1, gf_84_2, gf_84_3, gf_84_4, ok_84_4, gf_84_5, ok_84_5, gf_84_6, ok_84_6, gf_84_7, ok_84_7, gf_84_8, ok_84_8, gf_84_9, ok_84_9, gf_84_10, gf_84_11, gf_84_12, gf_84_13, gf_84_14, gf_84_15, gf_84_16, gf_84_17, ok_84_17, gf_84_18, gf_84_19, ok_84_19, gf_84_20, ok_84_20, gf_84_21, gf_84_22, gf_84_23, gf_84_24, ok_84_24, gf_84_25, ok_84_25, gf_84_26, ok_84_26, gf_84_27, ok_84_27, gf_84_28, ok_84_28, gf_84_29, gf_84_30, al_85 (show 1 < 181 by decide), rvM_85, hA, hW.2.1.1, rvM_8, ct_s, ct_n, ↓bI_01, bI_eq0, bI_eq1, nI_10, nI_01, dec_f, dec_t, if_n, eq_self, true_or, or_true, if_true, if_false, reduceIte]
  by_cases h1 : huA A ≤ pop v.1
  · rw [if_pos (nI_le h1 (by omega)), show huA A - pop v.1 = 0 by omega]
    simp only [↓s152_27, ↓s152_28]
  · rw [if_neg (nI_ge (a := pop v.1) (b := huA A) (by omega) (by omega))]
    simp only [↓s152_13, ↓s152_14, ↓s152_17, ↓s152_18, ↓s152_19, ↓s152_20, ↓s152_23, ↓s152_24, ↓s152_27, ↓s152_28, jc_84, gf_84_0, gf_84_1, gf_84_2, gf_84_3, gf_84_4, ok_84_4, gf_84_5, ok_84_5, gf_84_6, ok_84_6, gf_84_7, ok_84_7, gf_84_8, ok_84_8, gf_84_9, ok_84_9, gf_84_10, gf_84_11, gf_84_12, gf_84_13, gf_84_14, gf_84_15, gf_84_16, gf_84_17, ok_84_17, gf_84_18, gf_84_19, ok_84_19, gf_84_20, ok_84_20, gf_84_21, gf_84_22, gf_84_23, gf_84_24, ok_84_24, gf_84_25, ok_84_25, gf_84_26, ok_84_26, gf_84_27, ok_84_27, gf_84_28, ok_84_28, gf_84_29, gf_84_30, al_85 (show 1 < 181 by decide), rvM_85, hA, hW.2.1.1, rvM_8, pk_sub (show pop v.1 ≤ huA A by omega), ct_s, ct_n, ↓bI_01, bI_eq0, bI_eq1, nI_10, nI_01, dec_f, dec_t, if_n, eq_self, true_or, or_true, if_true, if_false, reduceIte]
theorem c153 (hA : M 85 = A) (hW : WF A) {k : Nat} (hk : k < ndA A) (hl : ∀ j, v.2.1 = some j → j < ndA A) : ax_W (d + 1) 153 0 [.ref 84, .int (nI k)] [] n (hx S (rvM M v) N) Q = Q (some (.int (nI (if smA A k v.2.1 then 2 * foA A k else foA A k)))) n (hx S (rvM M v) N) := by
  have n8 := hW.1.2
  have hA2 : rvM M v 85 = A := rvM_85.trans hA
  have t4 := (hW.2.2.2.2.2.2.1 k hk).2.1.2
  simp only [↓s153_0, ↓s153_1, ↓s153_4, ↓s153_5, jc_84, gf_84_0, gf_84_1, gf_84_2, gf_84_3, gf_84_4, ok_84_4, gf_84_5, ok_84_5, gf_84_6, ok_84_6, gf_84_7, ok_84_7, gf_84_8, ok_84_8, gf_84_9, ok_84_9, gf_84_10, gf_84_11, gf_84_12, gf_84_13, gf_84_14, gf_84_15, gf_84_16, gf_84_17, ok_84_17, gf_84_18, gf_84_19, ok_84_19, gf_84_20, ok_84_20, gf_84_21, gf_84_22, gf_84_23, gf_84_24, ok_84_24, gf_84_25, ok_84_25, gf_84_26, ok_84_26, gf_84_27, ok_84_27, gf_84_28, ok_84_28, gf_84_29, gf_84_30, rvM_9, ct_s, ct_n, ↓bI_01, bI_eq0, bI_eq1, nI_10, nI_01, dec_f, dec_t, if_n, eq_self, true_or, or_true, if_true, if_false, reduceIte]
  cases hv : v.2.1 with
  | none =>
    rw [if_pos (show lsI none = -1 from rfl)]
    simp only [↓s153_37, ↓s153_38, ↓s153_39, ↓s153_40, ↓s153_43, jc_84, ↓c144 (show 6 + 5 * k + 2 < 181 by omega), rg_force hA2 hW hk, ct_s, ct_n, ↓bI_01, bI_eq0, bI_eq1, nI_10, nI_01, dec_f, dec_t, if_n, eq_self, true_or, or_true, if_true, if_false, reduceIte]
    rfl
  | some j =>
    have hj := hl j hv
    have jt4 := (hW.2.2.2.2.2.2.1 j hj).2.1.2
    rw [if_neg (show ¬ lsI (some j) = -1 from nI_m1 (by omega))]
    simp only [↓s153_8, ↓s153_9, ↓s153_10, ↓s153_13, ↓s153_14, ↓s153_17, ↓s153_18, ↓s153_19, ↓s153_20, ↓s153_23, jc_84, gf_84_0, gf_84_1, gf_84_2, gf_84_3, gf_84_4, ok_84_4, gf_84_5, ok_84_5, gf_84_6, ok_84_6, gf_84_7, ok_84_7, gf_84_8, ok_84_8, gf_84_9, ok_84_9, gf_84_10, gf_84_11, gf_84_12, gf_84_13, gf_84_14, gf_84_15, gf_84_16, gf_84_17, ok_84_17, gf_84_18, gf_84_19, ok_84_19, gf_84_20, ok_84_20, gf_84_21, gf_84_22, gf_84_23, gf_84_24, ok_84_24, gf_84_25, ok_84_25, gf_84_26, ok_84_26, gf_84_27, ok_84_27, gf_84_28, ok_84_28, gf_84_29, gf_84_30, rvM_9, hv, show lsI (some j) = nI j from rfl, ↓c144 (show 6 + 5 * k + 1 < 181 by omega), ↓c144 (show 6 + 5 * j + 1 < 181 by omega), rg_taste hA2 hW hk, rg_taste hA2 hW hj, ct_s, ct_n, ↓bI_01, bI_eq0, bI_eq1, nI_10, nI_01, dec_f, dec_t, if_n, eq_self, true_or, or_true, if_true, if_false, reduceIte]
    unfold smA
    by_cases e : taA A j = taA A k
    · rw [if_pos (by rw [e]), if_pos (by simp [e])]
      simp only [↓s153_26, ↓s153_27, ↓s153_28, ↓s153_29, ↓s153_30, ↓s153_33, ↓s153_34, ↓s153_37, ↓s153_38, ↓s153_39, ↓s153_40, ↓s153_43, jc_84, ↓c144 (show 6 + 5 * k + 2 < 181 by omega), rg_force hA2 hW hk, pk_mul, ct_s, ct_n, ↓bI_01, bI_eq0, bI_eq1, nI_10, nI_01, dec_f, dec_t, if_n, eq_self, true_or, or_true, if_true, if_false, reduceIte]
    · rw [if_neg (fun q => e ((nI_eq (by omega) (by omega)).mp q)), if_neg (by simp [Ne.symm e])]
      simp only [↓s153_37, ↓s153_38, ↓s153_39, ↓s153_40, ↓s153_43, jc_84, ↓c144 (show 6 + 5 * k + 2 < 181 by omega), rg_force hA2 hW hk, ct_s, ct_n, ↓bI_01, bI_eq0, bI_eq1, nI_10, nI_01, dec_f, dec_t, if_n, eq_self, true_or, or_true, if_true, if_false, reduceIte]
set_option maxHeartbeats 2000000 in
theorem c154 (hA : M 85 = A) (hW : WF A) {k : Nat} (hk : k < ndA A) (hl : ∀ j, v.2.1 = some j → j < ndA A) : ax_W (d + 2) 154 0 [.ref 84, .int (nI k)] [] n (hx S (rvM M v) N) Q = Q (some (.int (nI (pwN (kdA A k) (foA A k) (pop v.1) (huA A - pop v.1) (smA A k v.2.1) (otA A k v.2.1))))) n (hx S (rvM M v) N) := by
  have n8 := hW.1.2
  have p8 := bt_pop8 v.1
  have hA2 : rvM M v 85 = A := rvM_85.trans hA
  obtain ⟨⟨-, k5⟩, -, ⟨-, -, f9⟩, -, ⟨-, co2⟩⟩ := hW.2.2.2.2.2.2.1 k hk
  simp only [↓s154_0, ↓s154_1, ↓s154_2, ↓s154_3, jc_84, ↓c144 (show 6 + 5 * k + 0 < 181 by omega), rg_kind hA2 hW hk, ct_s, ct_n, ↓bI_01, bI_eq0, bI_eq1, nI_10, nI_01, dec_f, dec_t, if_n, eq_self, true_or, or_true, if_true, if_false, reduceIte]
  unfold pwN
  rcases (show kdA A k = 0 ∨ kdA A k = 1 ∨ kdA A k = 2 ∨ kdA A k = 3 ∨ kdA A k = 4 ∨ kdA A k = 5 by omega) with e | e | e | e | e | e
  · rw [e, s154_6_d (Or.inl (by decide))]
    simp only [↓s154_132, ↓s154_133, ↓s154_134, ↓s154_135, ↓s154_138, jc_84, ↓c144 (show 6 + 5 * k + 2 < 181 by omega), rg_force hA2 hW hk, ct_s, ct_n, ↓bI_01, bI_eq0, bI_eq1, nI_10, nI_01, dec_f, dec_t, if_n, eq_self, true_or, or_true, if_true, if_false, reduceIte]
    rfl
  · rw [e]
    simp only [↓s154_6_0, ↓s154_6_1, ↓s154_6_2, ↓s154_6_3, ↓s154_6_4, ↓s154_40, ↓s154_41, ↓s154_42, ↓s154_45, jc_84, ↓c153 hA hW hk hl, ct_s, ct_n, ↓bI_01, bI_eq0, bI_eq1, nI_10, nI_01, dec_f, dec_t, if_n, eq_self, true_or, or_true, if_true, if_false, reduceIte]
  · rw [e]
    simp only [↓s154_6_0, ↓s154_6_1, ↓s154_6_2, ↓s154_6_3, ↓s154_6_4, ↓s154_40, ↓s154_41, ↓s154_42, ↓s154_45, ↓s154_46, ↓s154_47, ↓s154_48, ↓s154_49, ↓s154_52, ↓s154_53, ↓s154_56, ↓s154_57, jc_84, gf_84_0, gf_84_1, gf_84_2, gf_84_3, gf_84_4, ok_84_4, gf_84_5, ok_84_5, gf_84_6, ok_84_6, gf_84_7, ok_84_7, gf_84_8, ok_84_8, gf_84_9, ok_84_9, gf_84_10, gf_84_11, gf_84_12, gf_84_13, gf_84_14, gf_84_15, gf_84_16, gf_84_17, ok_84_17, gf_84_18, gf_84_19, ok_84_19, gf_84_20, ok_84_20, gf_84_21, gf_84_22, gf_84_23, gf_84_24, ok_84_24, gf_84_25, ok_84_25, gf_84_26, ok_84_26, gf_84_27, ok_84_27, gf_84_28, ok_84_28, gf_84_29, gf_84_30, ↓c144 (show 6 + 5 * k + 2 < 181 by omega), rg_force hA2 hW hk, rvM_8, nI_add, ct_s, ct_n, ↓bI_01, bI_eq0, bI_eq1, nI_10, nI_01, dec_f, dec_t, if_n, eq_self, true_or, or_true, if_true, if_false, reduceIte]
    rfl
  · rw [e]
    simp only [↓s154_6_0, ↓s154_6_1, ↓s154_6_2, ↓s154_6_3, ↓s154_6_4, ↓s154_40, ↓s154_41, ↓s154_42, ↓s154_45, ↓s154_46, ↓s154_47, ↓s154_48, ↓s154_49, ↓s154_52, ↓s154_53, ↓s154_56, ↓s154_57, ↓s154_58, ↓s154_59, ↓s154_60, ↓s154_61, ↓s154_64, ↓s154_65, ↓s154_68, ↓s154_69, jc_84, gf_84_0, gf_84_1, gf_84_2, gf_84_3, gf_84_4, ok_84_4, gf_84_5, ok_84_5, gf_84_6, ok_84_6, gf_84_7, ok_84_7, gf_84_8, ok_84_8, gf_84_9, ok_84_9, gf_84_10, gf_84_11, gf_84_12, gf_84_13, gf_84_14, gf_84_15, gf_84_16, gf_84_17, ok_84_17, gf_84_18, gf_84_19, ok_84_19, gf_84_20, ok_84_20, gf_84_21, gf_84_22, gf_84_23, gf_84_24, ok_84_24, gf_84_25, ok_84_25, gf_84_26, ok_84_26, gf_84_27, ok_84_27, gf_84_28, ok_84_28, gf_84_29, gf_84_30, ↓c144 (show 6 + 5 * k + 2 < 181 by omega), rg_force hA2 hW hk, ↓c152 hA hW, nI_add, ct_s, ct_n, ↓bI_01, bI_eq0, bI_eq1, nI_10, nI_01, dec_f, dec_t, if_n, eq_self, true_or, or_true, if_true, if_false, reduceIte]
    rfl
  · rw [e]
    simp only [↓s154_6_0, ↓s154_6_1, ↓s154_6_2, ↓s154_6_3, ↓s154_6_4, ↓s154_40, ↓s154_41, ↓s154_42, ↓s154_45, ↓s154_46, ↓s154_47, ↓s154_48, ↓s154_49, ↓s154_52, ↓s154_53, ↓s154_56, ↓s154_57, ↓s154_58, ↓s154_59, ↓s154_60, ↓s154_61, ↓s154_64, ↓s154_65, ↓s154_68, ↓s154_69, ↓s154_70, ↓s154_71, ↓s154_72, ↓s154_75, ↓s154_76, ↓s154_79, ↓s154_80, jc_84, gf_84_0, gf_84_1, gf_84_2, gf_84_3, gf_84_4, ok_84_4, gf_84_5, ok_84_5, gf_84_6, ok_84_6, gf_84_7, ok_84_7, gf_84_8, ok_84_8, gf_84_9, ok_84_9, gf_84_10, gf_84_11, gf_84_12, gf_84_13, gf_84_14, gf_84_15, gf_84_16, gf_84_17, ok_84_17, gf_84_18, gf_84_19, ok_84_19, gf_84_20, ok_84_20, gf_84_21, gf_84_22, gf_84_23, gf_84_24, ok_84_24, gf_84_25, ok_84_25, gf_84_26, ok_84_26, gf_84_27, ok_84_27, gf_84_28, ok_84_28, gf_84_29, gf_84_30, ↓c153 hA hW hk hl, rvM_9, ct_s, ct_n, ↓bI_01, bI_eq0, bI_eq1, nI_10, nI_01, dec_f, dec_t, if_n, eq_self, true_or, or_true, if_true, if_false, reduceIte]
    cases hv : v.2.1 with
    | none =>
      rw [if_pos (show lsI none = -1 from rfl)]
      simp only [↓s154_105, ↓s154_106, ↓s154_107, nI_add, ct_s, ct_n, ↓bI_01, bI_eq0, bI_eq1, nI_10, nI_01, dec_f, dec_t, if_n, eq_self, true_or, or_true, if_true, if_false, reduceIte]
      rfl
    | some j =>
      have hj := hl j hv
      have jco2 := (hW.2.2.2.2.2.2.1 j hj).2.2.2.2.2
      rw [if_neg (show ¬ lsI (some j) = -1 from nI_m1 (by omega))]
      simp only [↓s154_83, ↓s154_84, ↓s154_85, ↓s154_88, ↓s154_89, ↓s154_92, ↓s154_93, ↓s154_94, ↓s154_95, ↓s154_98, jc_84, gf_84_0, gf_84_1, gf_84_2, gf_84_3, gf_84_4, ok_84_4, gf_84_5, ok_84_5, gf_84_6, ok_84_6, gf_84_7, ok_84_7, gf_84_8, ok_84_8, gf_84_9, ok_84_9, gf_84_10, gf_84_11, gf_84_12, gf_84_13, gf_84_14, gf_84_15, gf_84_16, gf_84_17, ok_84_17, gf_84_18, gf_84_19, ok_84_19, gf_84_20, ok_84_20, gf_84_21, gf_84_22, gf_84_23, gf_84_24, ok_84_24, gf_84_25, ok_84_25, gf_84_26, ok_84_26, gf_84_27, ok_84_27, gf_84_28, ok_84_28, gf_84_29, gf_84_30, rvM_9, hv, show lsI (some j) = nI j from rfl, ↓c144 (show 6 + 5 * k + 4 < 181 by omega), ↓c144 (show 6 + 5 * j + 4 < 181 by omega), rg_cook hA2 hW hk, rg_cook hA2 hW hj, ct_s, ct_n, ↓bI_01, bI_eq0, bI_eq1, nI_10, nI_01, dec_f, dec_t, if_n, eq_self, true_or, or_true, if_true, if_false, reduceIte]
      by_cases e2 : coA A j = coA A k
      · rw [if_pos (by rw [e2])]
        simp only [↓s154_105, ↓s154_106, ↓s154_107, nI_add, ct_s, ct_n, ↓bI_01, bI_eq0, bI_eq1, nI_10, nI_01, dec_f, dec_t, if_n, eq_self, true_or, or_true, if_true, if_false, reduceIte]
        have : otA A k (some j) = false := by simp [otA, e2]
        rw [this]
        rfl
      · rw [if_neg (fun q => e2 ((nI_eq (by omega) (by omega)).mp q))]
        simp only [↓s154_101, ↓s154_102, ↓s154_105, ↓s154_106, ↓s154_107, nI_add, ct_s, ct_n, ↓bI_01, bI_eq0, bI_eq1, nI_10, nI_01, dec_f, dec_t, if_n, eq_self, true_or, or_true, if_true, if_false, reduceIte]
        have : otA A k (some j) = true := by simp [otA, Ne.symm e2]
        rw [this]
        rfl
  · rw [e]
    simp only [↓s154_6_0, ↓s154_6_1, ↓s154_6_2, ↓s154_6_3, ↓s154_6_4, ↓s154_40, ↓s154_41, ↓s154_42, ↓s154_45, ↓s154_46, ↓s154_47, ↓s154_48, ↓s154_49, ↓s154_52, ↓s154_53, ↓s154_56, ↓s154_57, ↓s154_58, ↓s154_59, ↓s154_60, ↓s154_61, ↓s154_64, ↓s154_65, ↓s154_68, ↓s154_69, ↓s154_70, ↓s154_71, ↓s154_72, ↓s154_75, ↓s154_76, ↓s154_79, ↓s154_80, ↓s154_83, ↓s154_84, ↓s154_85, ↓s154_88, ↓s154_89, ↓s154_92, ↓s154_93, ↓s154_94, ↓s154_95, ↓s154_98, ↓s154_101, ↓s154_102, ↓s154_105, ↓s154_106, ↓s154_107, ↓s154_108, ↓s154_109, ↓s154_112, ↓s154_113, jc_84, gf_84_0, gf_84_1, gf_84_2, gf_84_3, gf_84_4, ok_84_4, gf_84_5, ok_84_5, gf_84_6, ok_84_6, gf_84_7, ok_84_7, gf_84_8, ok_84_8, gf_84_9, ok_84_9, gf_84_10, gf_84_11, gf_84_12, gf_84_13, gf_84_14, gf_84_15, gf_84_16, gf_84_17, ok_84_17, gf_84_18, gf_84_19, ok_84_19, gf_84_20, ok_84_20, gf_84_21, gf_84_22, gf_84_23, gf_84_24, ok_84_24, gf_84_25, ok_84_25, gf_84_26, ok_84_26, gf_84_27, ok_84_27, gf_84_28, ok_84_28, gf_84_29, gf_84_30, rvM_8, ct_s, ct_n, ↓bI_01, bI_eq0, bI_eq1, nI_10, nI_01, dec_f, dec_t, if_n, eq_self, true_or, or_true, if_true, if_false, reduceIte]
    by_cases h3 : pop v.1 ≤ 3
    · rw [if_pos (nI_le h3 (by omega))]
      simp only [↓s154_130, ↓s154_131, ct_s, ct_n, ↓bI_01, bI_eq0, bI_eq1, nI_10, nI_01, dec_f, dec_t, if_n, eq_self, true_or, or_true, if_true, if_false, reduceIte]
      simp [show ¬ 4 ≤ pop v.1 by omega]
    · rw [if_neg (nI_ge (a := 3) (b := pop v.1) (by omega) (by omega))]
      simp only [↓s154_116, ↓s154_117, ↓s154_118, ↓s154_119, ↓s154_122, ↓s154_123, ↓s154_126, ↓s154_127, ↓s154_130, ↓s154_131, jc_84, gf_84_0, gf_84_1, gf_84_2, gf_84_3, gf_84_4, ok_84_4, gf_84_5, ok_84_5, gf_84_6, ok_84_6, gf_84_7, ok_84_7, gf_84_8, ok_84_8, gf_84_9, ok_84_9, gf_84_10, gf_84_11, gf_84_12, gf_84_13, gf_84_14, gf_84_15, gf_84_16, gf_84_17, ok_84_17, gf_84_18, gf_84_19, ok_84_19, gf_84_20, ok_84_20, gf_84_21, gf_84_22, gf_84_23, gf_84_24, ok_84_24, gf_84_25, ok_84_25, gf_84_26, ok_84_26, gf_84_27, ok_84_27, gf_84_28, ok_84_28, gf_84_29, gf_84_30, ↓c144 (show 6 + 5 * k + 2 < 181 by omega), rg_force hA2 hW hk, rvM_8, nI_add, ct_s, ct_n, ↓bI_01, bI_eq0, bI_eq1, nI_10, nI_01, dec_f, dec_t, if_n, eq_self, true_or, or_true, if_true, if_false, reduceIte]
      simp [show 4 ≤ pop v.1 by omega]
theorem toNat_if (p : Nat) (b : Int) (hp : p < 1000) (hb1 : -3 ≤ b) (hb2 : b ≤ 3) : (if nI p + iI b ≤ nI 0 then nI 0 else nI p + iI b) = nI ((p : Int) + b).toNat := by
  rw [← toNat_mx p b hp hb1 hb2]
  unfold mxI
  by_cases c : nI 0 < nI p + iI b
  · rw [if_pos c, if_neg (Int32.not_le.mpr c)]
  · rw [if_neg c, if_pos (Int32.not_lt.mp c)]
theorem c155 (hA : M 85 = A) (hW : WF A) {k : Nat} (hk : k < ndA A) (hl : ∀ j, v.2.1 = some j → j < ndA A) : ax_W (d + 3) 155 0 [.ref 84, .int (nI k), ax_dm] [] n (hx S (rvM M v) N) Q = Q (some (.int (nI (dsN A k (pop v.1) v.2.1)))) n (hx S (rvM M v) N) := by
  have n8 := hW.1.2
  have p8 := bt_pop8 v.1
  have h9 := hW.2.1.2
  have hA2 : rvM M v 85 = A := rvM_85.trans hA
  obtain ⟨-, ⟨-, t4⟩, ⟨-, -, f9⟩, -⟩ := hW.2.2.2.2.2.2.1 k hk
  have pl := pwN_le (k := kdA A k) (a := smA A k v.2.1) (b := otA A k v.2.1) f9 p8 (show huA A - pop v.1 ≤ 9 by omega)
  simp only [↓s155_0, ↓s155_1, ↓s155_2, ↓s155_5, ↓s155_6, ↓s155_9, ↓s155_10, jc_84, gf_84_0, gf_84_1, gf_84_2, gf_84_3, gf_84_4, ok_84_4, gf_84_5, ok_84_5, gf_84_6, ok_84_6, gf_84_7, ok_84_7, gf_84_8, ok_84_8, gf_84_9, ok_84_9, gf_84_10, gf_84_11, gf_84_12, gf_84_13, gf_84_14, gf_84_15, gf_84_16, gf_84_17, ok_84_17, gf_84_18, gf_84_19, ok_84_19, gf_84_20, ok_84_20, gf_84_21, gf_84_22, gf_84_23, gf_84_24, ok_84_24, gf_84_25, ok_84_25, gf_84_26, ok_84_26, gf_84_27, ok_84_27, gf_84_28, ok_84_28, gf_84_29, gf_84_30, ↓c154 hA hW hk hl, rvM_9, ct_s, ct_n, ↓bI_01, bI_eq0, bI_eq1, nI_10, nI_01, dec_f, dec_t, if_n, eq_self, true_or, or_true, if_true, if_false, reduceIte]
  have fin : ∀ b : Int, -3 ≤ b → b ≤ 3 → ax_W (d + 3) 155 43 [.ref 84, .int (nI k), ax_dm] [.int (iI b), .int (nI (pwN (kdA A k) (foA A k) (pop v.1) (huA A - pop v.1) (smA A k v.2.1) (otA A k v.2.1)))] n (hx S (rvM M v) N) Q = Q (some (.int (nI ((pwN (kdA A k) (foA A k) (pop v.1) (huA A - pop v.1) (smA A k v.2.1) (otA A k v.2.1) : Int) + b).toNat))) n (hx S (rvM M v) N) := by
    intro b b1 b2
    rw [← toNat_if _ b (by omega) b1 b2]
    simp only [↓s155_43, ↓s155_44, ↓s155_45, ↓s155_46]
    split
    · simp only [↓s155_49, ↓s155_50, ↓s155_53, ↓s155_54]
    · simp only [↓s155_49, ↓s155_50, ↓s155_53, ↓s155_54]
  cases hv : v.2.1 with
  | none =>
    rw [hv] at fin
    rw [if_pos (show lsI none = -1 from rfl)]
    simp only [↓s155_13, ↓s155_14]
    refine (fin 0 (by omega) (by omega)).trans ?_
    rw [Int.add_zero]
    rfl
  | some j =>
    have hj := hl j hv
    obtain ⟨-, ⟨-, jt4⟩, -⟩ := hW.2.2.2.2.2.2.1 j hj
    have hb := hW.2.2.2.2.2.2.2.1 (taA A j) (taA A k) (by omega) (by omega)
    rw [hv] at fin
    rw [if_neg (show ¬ lsI (some j) = -1 from nI_m1 (by omega))]
    simp only [↓s155_17, ↓s155_18, ↓s155_21, ↓s155_23, ↓s155_24, ↓s155_25, ↓s155_26, ↓s155_29, ↓s155_30, ↓s155_33, ↓s155_34, ↓s155_35, ↓s155_36, ↓s155_37, ↓s155_38, ↓s155_41, ↓s155_42, jc_84, gf_84_0, gf_84_1, gf_84_2, gf_84_3, gf_84_4, ok_84_4, gf_84_5, ok_84_5, gf_84_6, ok_84_6, gf_84_7, ok_84_7, gf_84_8, ok_84_8, gf_84_9, ok_84_9, gf_84_10, gf_84_11, gf_84_12, gf_84_13, gf_84_14, gf_84_15, gf_84_16, gf_84_17, ok_84_17, gf_84_18, gf_84_19, ok_84_19, gf_84_20, ok_84_20, gf_84_21, gf_84_22, gf_84_23, gf_84_24, ok_84_24, gf_84_25, ok_84_25, gf_84_26, ok_84_26, gf_84_27, ok_84_27, gf_84_28, ok_84_28, gf_84_29, gf_84_30, rvM_9, hv, show lsI (some j) = nI j from rfl, ↓c144 (show 6 + 5 * k + 1 < 181 by omega), ↓c144 (show 6 + 5 * j + 1 < 181 by omega), rg_taste hA2 hW hk, rg_taste hA2 hW hj, nI_add, pk_mul, al_85 (show 46 + 5 * taA A j + taA A k < 181 by omega), rvM_85, hA, ct_s, ct_n, ↓bI_01, bI_eq0, bI_eq1, nI_10, nI_01, dec_f, dec_t, if_n, eq_self, true_or, or_true, if_true, if_false, reduceIte]
    have eb : A (46 + 5 * taA A j + taA A k) = iI (bkA A (taA A j) (taA A k)) := (iI_to _).symm
    rw [eb]
    exact fin _ hb.1 hb.2
theorem c157 {k : Nat} (hk : k < 8) (hs : v.1 < 256) : ax_W d 157 0 [.ref 84, .int (nI k)] [] n (hx S (rvM M v) N) Q = Q (some (.int (bI (hasB v.1 k)))) n (hx S (rvM M v) N) := by
  simp only [↓s157_0, ↓s157_1, ↓s157_4, ↓s157_5, ↓s157_6, ↓s157_7, ↓s157_8, ↓s157_9, jc_84, gf_84_0, gf_84_1, gf_84_2, gf_84_3, gf_84_4, ok_84_4, gf_84_5, ok_84_5, gf_84_6, ok_84_6, gf_84_7, ok_84_7, gf_84_8, ok_84_8, gf_84_9, ok_84_9, gf_84_10, gf_84_11, gf_84_12, gf_84_13, gf_84_14, gf_84_15, gf_84_16, gf_84_17, ok_84_17, gf_84_18, gf_84_19, ok_84_19, gf_84_20, ok_84_20, gf_84_21, gf_84_22, gf_84_23, gf_84_24, ok_84_24, gf_84_25, ok_84_25, gf_84_26, ok_84_26, gf_84_27, ok_84_27, gf_84_28, ok_84_28, gf_84_29, gf_84_30, rvM_7, bt_has _ hs _ hk, ct_s, ct_n, ↓bI_01, bI_eq0, bI_eq1, nI_10, nI_01, dec_f, dec_t, if_n, eq_self, true_or, or_true, if_true, if_false, reduceIte]
  cases hasB v.1 k with
  | true => simp only [↓s157_12, ↓s157_13, ↓s157_16, ↓s157_17, ct_s, ct_n, ↓bI_01, bI_eq0, bI_eq1, nI_10, nI_01, dec_f, dec_t, if_n, eq_self, true_or, or_true, if_true, if_false, reduceIte]; rfl
  | false => simp only [↓s157_12, ↓s157_13, ↓s157_16, ↓s157_17, ct_s, ct_n, ↓bI_01, bI_eq0, bI_eq1, nI_10, nI_01, dec_f, dec_t, if_n, eq_self, true_or, or_true, if_true, if_false, reduceIte, Bool.false_eq_true]; rfl
theorem c158 (hA : M 85 = A) (hW : WF A) {k s : Nat} (hk : k < ndA A) (hs : s ≤ 1) : ax_W (d + 1) 158 0 [.ref 84, .int (nI k), .int (nI s)] [] n (hx S M N) Q = Q (some (.int (bI (decide (coA A k = 2) || decide (coA A k = s))))) n (hx S M N) := by
  have n8 := hW.1.2
  have co2 := (hW.2.2.2.2.2.2.1 k hk).2.2.2.2.2
  simp only [↓s158_0, ↓s158_1, ↓s158_2, ↓s158_3, ↓s158_6, ↓s158_7, jc_84, ↓c144 (show 6 + 5 * k + 4 < 181 by omega), rg_cook hA hW hk, ct_s, ct_n, ↓bI_01, bI_eq0, bI_eq1, nI_10, nI_01, dec_f, dec_t, if_n, eq_self, true_or, or_true, if_true, if_false, reduceIte]
  by_cases e1 : coA A k = 2
  · rw [if_pos (by rw [e1]), decide_eq_true e1]
    simp only [↓s158_20, ↓s158_21, ↓s158_24, ↓s158_25, ct_s, ct_n, ↓bI_01, bI_eq0, bI_eq1, nI_10, nI_01, dec_f, dec_t, if_n, eq_self, true_or, or_true, if_true, if_false, reduceIte]
    rfl
  · rw [if_neg (fun q => e1 ((nI_eq (by omega) (by omega)).mp q)), decide_eq_false e1]
    simp only [↓s158_10, ↓s158_11, ↓s158_12, ↓s158_13, ↓s158_16, ↓s158_17, jc_84, ↓c144 (show 6 + 5 * k + 4 < 181 by omega), rg_cook hA hW hk, ct_s, ct_n, ↓bI_01, bI_eq0, bI_eq1, nI_10, nI_01, dec_f, dec_t, if_n, eq_self, true_or, or_true, if_true, if_false, reduceIte]
    by_cases e2 : coA A k = s
    · rw [if_pos (by rw [e2]), decide_eq_true e2]
      simp only [↓s158_20, ↓s158_21, ↓s158_24, ↓s158_25, ct_s, ct_n, ↓bI_01, bI_eq0, bI_eq1, nI_10, nI_01, dec_f, dec_t, if_n, eq_self, true_or, or_true, if_true, if_false, reduceIte]
      rfl
    · rw [if_neg (fun q => e2 ((nI_eq (by omega) (by omega)).mp q)), decide_eq_false e2]
      simp only [↓s158_24, ↓s158_25, ct_s, ct_n, ↓bI_01, bI_eq0, bI_eq1, nI_10, nI_01, dec_f, dec_t, if_n, eq_self, true_or, or_true, if_true, if_false, reduceIte]
      rfl
theorem c159 (hA : M 85 = A) (hW : WF A) {k s : Nat} (hk : k < ndA A) (hs : s ≤ 1) (hv : v.1 < 256) : ax_W (d + 2) 159 0 [.ref 84, .int (nI k), .int (nI s)] [] n (hx S (rvM M v) N) Q = Q (some (.int (bI (mayA A k s v.1)))) n (hx S (rvM M v) N) := by
  have n8 := hW.1.2
  have p8 := bt_pop8 v.1
  have hA2 : rvM M v 85 = A := rvM_85.trans hA
  simp only [↓s159_0, ↓s159_1, ↓s159_4, ↓s159_6, jc_84, gf_84_0, gf_84_1, gf_84_2, gf_84_3, gf_84_4, ok_84_4, gf_84_5, ok_84_5, gf_84_6, ok_84_6, gf_84_7, ok_84_7, gf_84_8, ok_84_8, gf_84_9, ok_84_9, gf_84_10, gf_84_11, gf_84_12, gf_84_13, gf_84_14, gf_84_15, gf_84_16, gf_84_17, ok_84_17, gf_84_18, gf_84_19, ok_84_19, gf_84_20, ok_84_20, gf_84_21, gf_84_22, gf_84_23, gf_84_24, ok_84_24, gf_84_25, ok_84_25, gf_84_26, ok_84_26, gf_84_27, ok_84_27, gf_84_28, ok_84_28, gf_84_29, gf_84_30, rvM_8, ct_s, ct_n, ↓bI_01, bI_eq0, bI_eq1, nI_10, nI_01, dec_f, dec_t, if_n, eq_self, true_or, or_true, if_true, if_false, reduceIte]
  rw [if_neg (nI_ge (a := pop v.1) (b := 9) (by omega) (by omega))]
  simp only [↓s159_9, ↓s159_10, ↓s159_11, ↓s159_14, jc_84, ↓c157 (show k < 8 by omega) hv, ct_s, ct_n, ↓bI_01, bI_eq0, bI_eq1, nI_10, nI_01, dec_f, dec_t, if_n, eq_self, true_or, or_true, if_true, if_false, reduceIte]
  unfold mayA
  rw [decide_eq_true hk]
  cases hb : hasB v.1 k with
  | true => simp only [↓s159_30, ↓s159_31, ct_s, ct_n, ↓bI_01, bI_eq0, bI_eq1, nI_10, nI_01, dec_f, dec_t, if_n, eq_self, true_or, or_true, if_true, if_false, reduceIte, Bool.true_eq_false]; rfl
  | false =>
    simp only [↓s159_17, ↓s159_18, ↓s159_19, ↓s159_20, ↓s159_23, jc_84, ↓c158 hA2 hW hk hs, ct_s, ct_n, ↓bI_01, bI_eq0, bI_eq1, nI_10, nI_01, dec_f, dec_t, if_n, eq_self, true_or, or_true, if_true, if_false, reduceIte]
    cases (decide (coA A k = 2) || decide (coA A k = s)) with
    | true => simp only [↓s159_26, ↓s159_27, ↓s159_30, ↓s159_31, ct_s, ct_n, ↓bI_01, bI_eq0, bI_eq1, nI_10, nI_01, dec_f, dec_t, if_n, eq_self, true_or, or_true, if_true, if_false, reduceIte, Bool.true_eq_false]; rfl
    | false => simp only [↓s159_26, ↓s159_27, ↓s159_30, ↓s159_31, ct_s, ct_n, ↓bI_01, bI_eq0, bI_eq1, nI_10, nI_01, dec_f, dec_t, if_n, eq_self, true_or, or_true, if_true, if_false, reduceIte]; rfl
theorem c156 (hA : M 85 = A) (hW : WF A) {k s c : Nat} (hk : k < ndA A) (hs : s ≤ 1) (hc : c ≤ 1) (hv : v.1 < 256) (hb : hasB v.1 k = false) (hl : ∀ j, v.2.1 = some j → j < ndA A) : ax_W (d + 4) 156 0 [.ref 84, .int (nI k), .int (nI s), .int (nI c), ax_dm] [] n (hx S (rvM M v) N) Q = Q (some (.int (nI (dsN A k (pop v.1) v.2.1)))) n (hx S (rvM M (evB A c s k v)) N) := by
  have n8 := hW.1.2
  simp only [↓s156_0, ↓s156_1, ↓s156_2, ↓s156_5, ↓s156_7, ↓s156_8, ↓s156_9, ↓s156_12, ↓s156_13, ↓s156_14, jc_84, gf_84_0, gf_84_1, gf_84_2, gf_84_3, gf_84_4, ok_84_4, gf_84_5, ok_84_5, gf_84_6, ok_84_6, gf_84_7, ok_84_7, gf_84_8, ok_84_8, gf_84_9, ok_84_9, gf_84_10, gf_84_11, gf_84_12, gf_84_13, gf_84_14, gf_84_15, gf_84_16, gf_84_17, ok_84_17, gf_84_18, gf_84_19, ok_84_19, gf_84_20, ok_84_20, gf_84_21, gf_84_22, gf_84_23, gf_84_24, ok_84_24, gf_84_25, ok_84_25, gf_84_26, ok_84_26, gf_84_27, ok_84_27, gf_84_28, ok_84_28, gf_84_29, gf_84_30, ↓c155 hA hW hk hl, rvM_6, ct_s, ct_n, ↓bI_01, bI_eq0, bI_eq1, nI_10, nI_01, dec_f, dec_t, if_n, eq_self, true_or, or_true, if_true, if_false, reduceIte]
  have fin : ∀ x : Int32, x = iI (sg s (dsN A k (pop v.1) v.2.1)) → ax_W (d + 4) 156 25 [.ref 84, .int (nI k), .int (nI s), .int (nI c), .int (nI (dsN A k (pop v.1) v.2.1))] [.int x, .int (nI c), .int (iI v.2.2), .ref 84] n (hx S (rvM M v) N) Q = Q (some (.int (nI (dsN A k (pop v.1) v.2.1)))) n (hx S (rvM M (evB A c s k v)) N) := by
    intro x ex
    subst ex
    simp only [↓s156_25, ↓s156_26, ↓s156_27, ↓s156_30, ↓s156_31, ↓s156_32, ↓s156_35, ↓s156_36, ↓s156_37, ↓s156_38, ↓s156_39, ↓s156_42, ↓s156_43, ↓s156_44, ↓s156_47, ↓s156_48, ↓s156_49, ↓s156_52, ↓s156_53, ↓s156_54, ↓s156_57, ↓s156_59, jc_84, gf_84_0, gf_84_1, gf_84_2, gf_84_3, gf_84_4, ok_84_4, gf_84_5, ok_84_5, gf_84_6, ok_84_6, gf_84_7, ok_84_7, gf_84_8, ok_84_8, gf_84_9, ok_84_9, gf_84_10, gf_84_11, gf_84_12, gf_84_13, gf_84_14, gf_84_15, gf_84_16, gf_84_17, ok_84_17, gf_84_18, gf_84_19, ok_84_19, gf_84_20, ok_84_20, gf_84_21, gf_84_22, gf_84_23, gf_84_24, ok_84_24, gf_84_25, ok_84_25, gf_84_26, ok_84_26, gf_84_27, ok_84_27, gf_84_28, ok_84_28, gf_84_29, gf_84_30, ux_j (show (7 : Nat) ≠ 6 by decide), ux_j (show (8 : Nat) ≠ 6 by decide), ux_j (show (8 : Nat) ≠ 7 by decide), rvM_7, rvM_8, bt_add _ hv _ (show k < 8 by omega), nI_add, ct_s, ct_n, ↓bI_01, bI_eq0, bI_eq1, nI_10, nI_01, dec_f, dec_t, if_n, eq_self, true_or, or_true, if_true, if_false, reduceIte]
    refine congrArg (fun m => Q (some (.int (nI (dsN A k (pop v.1) v.2.1)))) n (hx S m N)) ((rvM_ext (M2 := rvM M v) (v := evB A c s k v) (fun b j => ?_) ?_ ?_ ?_ ?_).trans rvM_rvM)
    · by_cases hb : b = 84
      · subst hb
        by_cases hj : j = 6 ∨ j = 7 ∨ j = 8 ∨ j = 9
        · exact Or.inl ⟨rfl, hj⟩
        · exact Or.inr (by rw [ux_j (by omega), ux_j (by omega), ux_j (by omega), ux_j (by omega)])
      · exact Or.inr (by rw [ux_a hb, ux_a hb, ux_a hb, ux_a hb])
    · rw [ux_j (by decide), ux_j (by decide), ux_j (by decide), ux_s, iI_nat c, iI_mul, iI_add]; rfl
    · rw [ux_j (by decide), ux_j (by decide), ux_s]; rfl
    · rw [ux_j (by decide), ux_s, ← bt_pop _ hv _ (by omega) hb]; rfl
    · rw [ux_s]; rfl
  by_cases e : s = 0
  · subst e
    rw [if_pos rfl]
    simp only [↓s156_17, ↓s156_19]
    exact fin _ (by rw [iI_nat]; rfl)
  · rw [if_neg (fun q => e ((nI_eq (a := s) (b := 0) (by omega) (by omega)).mp q))]
    simp only [↓s156_22, ↓s156_24]
    exact fin _ (by rw [iI_nat, iI_neg]; unfold sg; rw [if_neg e])
end Ref2
