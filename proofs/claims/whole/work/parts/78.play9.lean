/-! ===== play, first ===== -/
section Play9
variable {M : ax_M} {N : ax_L} {A : ax_A0} {T s0 t p i : Nat} {v : ax_V} {x y : Int32}
theorem SUB_all (hW : WF A) (h5 : T ≤ 5) (h01 : s0 ≤ 1) : ∀ t, SUB N A T s0 t := by
  intro t
  induction t with
  | zero =>
    intro p v M y4 y5 hp hT hA hf hcu h94 h95 hok
    refine ⟨M, chg_rf, fun S d n Q => ?_⟩
    have e : p = T := by omega
    subst e
    have em : nI p + (-1) = nI (p - 1) := by rw [← pk_sub (show 1 ≤ p by omega)]; exact (Int32.sub_eq_add_neg (nI p) (nI 1)).symm
    have ev : vV A 0 (sd s0 p) v = v.2.2 := by
      unfold vV sgn
      rw [show gG A 0 (sd s0 p) v.1 v.2.1 = 0 from rfl]
      split <;> simp
    rw [ev]
    simp only [↓s176_11, ↓s176_12, ct_s, ct_n, ↓bI_01, bI_eq0, bI_eq1, nI_10, nI_01, dec_f, dec_t, if_n, eq_self, true_or, or_true, if_true, if_false, reduceIte]
    rw [if_pos (nI_lt (a := 0) (b := p) (by omega) (by omega))]
    simp only [↓s176_26, ↓s176_27, ↓s176_28, ↓s176_29, ↓s176_30, ↓s176_31, ↓s176_33, ↓s176_34, ↓s176_35, nI_add, show ¬ nI 2 = nI 0 by decide, not_false_eq_true, md2 (s0 + p) (by omega), ct_s, ct_n, ↓bI_01, bI_eq0, bI_eq1, nI_10, nI_01, dec_f, dec_t, if_n, eq_self, true_or, or_true, if_true, if_false, reduceIte]
    simp only [↓s176_49, ↓s176_50, ↓s176_51, ct_s, ct_n, ↓bI_01, bI_eq0, bI_eq1, nI_10, nI_01, dec_f, dec_t, if_n, eq_self, true_or, or_true, if_true, if_false, reduceIte]
    simp only [↓s176_54, ↓s176_55, ↓s176_58, ↓s176_61, ↓s176_62, ↓s176_65, ↓s176_66, ↓s176_67, ↓s176_69, jc_84, gf_84_0, gf_84_1, gf_84_2, gf_84_3, gf_84_4, ok_84_4, gf_84_5, ok_84_5, gf_84_6, ok_84_6, gf_84_7, ok_84_7, gf_84_8, ok_84_8, gf_84_9, ok_84_9, gf_84_10, gf_84_11, gf_84_12, gf_84_13, gf_84_14, gf_84_15, gf_84_16, gf_84_17, ok_84_17, gf_84_18, gf_84_19, ok_84_19, gf_84_20, ok_84_20, gf_84_21, gf_84_22, gf_84_23, gf_84_24, ok_84_24, gf_84_25, ok_84_25, gf_84_26, ok_84_26, gf_84_27, ok_84_27, gf_84_28, ok_84_28, gf_84_29, gf_84_30, hcu.1, em, ct_s, ct_n, ↓bI_01, bI_eq0, bI_eq1, nI_10, nI_01, dec_f, dec_t, if_n, eq_self, true_or, or_true, if_true, if_false, reduceIte]
    rfl
  | succ t ih =>
    intro p v M y4 y5 hp hT hA hf hcu h94 h95 hok
    exact lop hW ih (by omega) h5 h01 hp hok 9 0 (by omega) M y4 y5 hA hf hcu h94 h95
def fI (A : ax_A0) (t s : Nat) (v : ax_V) (o : Int32) : Nat → Int32
  | 0 => o
  | i + 1 => nf (mI A t s v i) (fI A t s v o i) i (cdd A t s v i)
theorem fI_pO (hW : WF A) {s : Nat} {o : Int32} (ht : t ≤ 4) (hv : v.1 < 256) (hl : ∀ j, v.2.1 = some j → j < ndA A) : ∀ i, i ≤ 8 → mI A t s v i = -1000 ∨ fI A t s v o i = nI (pO A s v.1 (fun k => (dsN A k (pop v.1) v.2.1 : Int) - gG A t (1 - s) (addB v.1 k) (some k)) (min i (ndA A))).2 := by
  have n8 := hW.1.2
  intro i
  induction i with
  | zero => intro _; exact Or.inl rfl
  | succ i ih =>
    intro hi
    have h := ih (by omega)
    have hm := mI_pO (t := t) (v := v) hW (s := s) i (by omega)
    have hb := mI_bd (s := s) hW ht hv hl i
    rw [show mI A t s v (i + 1) = nm (mI A t s v i) (cdd A t s v i) from rfl, show fI A t s v o (i + 1) = nf (mI A t s v i) (fI A t s v o i) i (cdd A t s v i) from rfl]
    by_cases hn : i < ndA A
    · rw [show min i (ndA A) = i by omega] at h hm
      rw [show min (i + 1) (ndA A) = i + 1 by omega]
      cases e : mayA A i s v.1 with
      | true =>
        have ec : cdd A t s v i = some ((dsN A i (pop v.1) v.2.1 : Int) - gG A t (1 - s) (addB v.1 i) (some i)) := by unfold cdd; rw [if_neg (by omega), if_pos e]
        have cb := cd_bd (s := s) hW ht hv hl i hn e
        rw [ec]
        by_cases z : mI A t s v i < (dsN A i (pop v.1) v.2.1 : Int) - gG A t (1 - s) (addB v.1 i) (some i)
        · refine Or.inr ?_
          rw [show nf (mI A t s v i) (fI A t s v o i) i (some ((dsN A i (pop v.1) v.2.1 : Int) - gG A t (1 - s) (addB v.1 i) (some i))) = nI i from if_pos z]
          rw [hm] at z
          rw [show pO A s v.1 (fun k => (dsN A k (pop v.1) v.2.1 : Int) - gG A t (1 - s) (addB v.1 k) (some k)) (i + 1) = ((dsN A i (pop v.1) v.2.1 : Int) - gG A t (1 - s) (addB v.1 i) (some i), i) from if_pos ⟨e, z⟩]
        · rw [show nf (mI A t s v i) (fI A t s v o i) i (some ((dsN A i (pop v.1) v.2.1 : Int) - gG A t (1 - s) (addB v.1 i) (some i))) = fI A t s v o i from if_neg z, show nm (mI A t s v i) (some ((dsN A i (pop v.1) v.2.1 : Int) - gG A t (1 - s) (addB v.1 i) (some i))) = mI A t s v i from if_neg z]
          rw [hm] at z
          rw [show pO A s v.1 (fun k => (dsN A k (pop v.1) v.2.1 : Int) - gG A t (1 - s) (addB v.1 k) (some k)) (i + 1) = pO A s v.1 (fun k => (dsN A k (pop v.1) v.2.1 : Int) - gG A t (1 - s) (addB v.1 k) (some k)) i from if_neg (fun q => z q.2)]
          exact h
      | false =>
        have ec : cdd A t s v i = none := by unfold cdd; rw [if_neg (by omega), if_neg (by rw [e]; decide)]
        rw [ec, show pO A s v.1 (fun k => (dsN A k (pop v.1) v.2.1 : Int) - gG A t (1 - s) (addB v.1 k) (some k)) (i + 1) = pO A s v.1 (fun k => (dsN A k (pop v.1) v.2.1 : Int) - gG A t (1 - s) (addB v.1 k) (some k)) i from if_neg (fun q => by rw [q.1] at e; cases e)]
        exact h
    · have e : mayA A i s v.1 = false := by unfold mayA; rw [decide_eq_false hn, Bool.false_and, Bool.false_and]
      have ec : cdd A t s v i = none := by unfold cdd; rw [if_neg (by omega), if_neg (by rw [e]; decide)]
      rw [ec, show min (i + 1) (ndA A) = ndA A by omega]
      rw [show min i (ndA A) = ndA A by omega] at h
      exact h
end Play9
