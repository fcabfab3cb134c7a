/-! ===== play: all tries, all depths ===== -/
section Play8
variable {M : ax_M} {N : ax_L} {A : ax_A0} {T s0 t p i : Nat} {v : ax_V}
def mI (A : ax_A0) (t s : Nat) (v : ax_V) : Nat → Int
  | 0 => -1000
  | i + 1 => nm (mI A t s v i) (cdd A t s v i)
theorem cdd_bd (hW : WF A) {s : Nat} (ht : t ≤ 4) (hv : v.1 < 256) (hl : ∀ j, v.2.1 = some j → j < ndA A) : ∀ i c, cdd A t s v i = some c → -200 ≤ c ∧ c ≤ 200 := by
  intro i c h
  have gb := gG_bd hW t (1 - s) v.1 v.2.1 hv hl
  unfold cdd at h
  by_cases e8 : i = 8
  · rw [if_pos e8] at h
    cases h
    omega
  · rw [if_neg e8] at h
    cases hm : mayA A i s v.1 with
    | true =>
      rw [hm, if_pos rfl] at h
      cases h
      exact cd_bd hW ht hv hl i (mayA_lt hm).1 hm
    | false =>
      rw [hm, if_neg (by decide)] at h
      cases h
theorem mI_bd (hW : WF A) {s : Nat} (ht : t ≤ 4) (hv : v.1 < 256) (hl : ∀ j, v.2.1 = some j → j < ndA A) : ∀ i, mI A t s v i = -1000 ∨ (-200 ≤ mI A t s v i ∧ mI A t s v i ≤ 200) := by
  intro i
  induction i with
  | zero => exact Or.inl rfl
  | succ i ih =>
    show nm (mI A t s v i) (cdd A t s v i) = -1000 ∨ (-200 ≤ nm (mI A t s v i) (cdd A t s v i) ∧ nm (mI A t s v i) (cdd A t s v i) ≤ 200)
    cases h : cdd A t s v i with
    | none => exact ih
    | some c =>
      have b := cdd_bd hW ht hv hl i c h
      show (if _ then c else _) = -1000 ∨ (-200 ≤ (if _ then c else _) ∧ (if _ then c else _) ≤ 200)
      by_cases z : mI A t s v i < c
      · rw [if_pos z]; exact Or.inr b
      · rw [if_neg z]; exact ih
theorem mI_pO (hW : WF A) {s : Nat} : ∀ i, i ≤ 8 → mI A t s v i = (pO A s v.1 (fun k => (dsN A k (pop v.1) v.2.1 : Int) - gG A t (1 - s) (addB v.1 k) (some k)) (min i (ndA A))).1 := by
  have n8 := hW.1.2
  intro i
  induction i with
  | zero => intro _; rw [Nat.zero_min]; rfl
  | succ i ih =>
    intro hi
    have h := ih (by omega)
    show nm (mI A t s v i) (cdd A t s v i) = _
    rw [h]
    unfold cdd
    rw [if_neg (by omega)]
    by_cases hn : i < ndA A
    · rw [show min i (ndA A) = i by omega, show min (i + 1) (ndA A) = i + 1 by omega]
      cases e : mayA A i s v.1 with
      | true =>
        rw [if_pos rfl]
        show (if _ then _ else _) = _
        by_cases z : (pO A s v.1 (fun k => (dsN A k (pop v.1) v.2.1 : Int) - gG A t (1 - s) (addB v.1 k) (some k)) i).1 < (dsN A i (pop v.1) v.2.1 : Int) - gG A t (1 - s) (addB v.1 i) (some i)
        · rw [if_pos z, show pO A s v.1 (fun k => (dsN A k (pop v.1) v.2.1 : Int) - gG A t (1 - s) (addB v.1 k) (some k)) (i + 1) = ((dsN A i (pop v.1) v.2.1 : Int) - gG A t (1 - s) (addB v.1 i) (some i), i) from if_pos ⟨e, z⟩]
        · rw [if_neg z, show pO A s v.1 (fun k => (dsN A k (pop v.1) v.2.1 : Int) - gG A t (1 - s) (addB v.1 k) (some k)) (i + 1) = pO A s v.1 (fun k => (dsN A k (pop v.1) v.2.1 : Int) - gG A t (1 - s) (addB v.1 k) (some k)) i from if_neg (fun q => z q.2)]
      | false =>
        rw [if_neg (by decide), show pO A s v.1 (fun k => (dsN A k (pop v.1) v.2.1 : Int) - gG A t (1 - s) (addB v.1 k) (some k)) (i + 1) = pO A s v.1 (fun k => (dsN A k (pop v.1) v.2.1 : Int) - gG A t (1 - s) (addB v.1 k) (some k)) i from if_neg (fun q => by rw [q.1] at e; cases e)]
        rfl
    · have e : mayA A i s v.1 = false := by unfold mayA; rw [decide_eq_false hn, Bool.false_and, Bool.false_and]
      rw [e, if_neg (by decide), show min i (ndA A) = ndA A by omega, show min (i + 1) (ndA A) = ndA A by omega]
      rfl
theorem mI_9 (hW : WF A) {s : Nat} (ht : t ≤ 4) (hv : v.1 < 256) (hl : ∀ j, v.2.1 = some j → j < ndA A) : mI A t s v 9 = gG A (t + 1) s v.1 v.2.1 := by
  have n8 := hW.1.2
  rw [← pE_g hW ht hv hl]
  show nm (mI A t s v 8) (cdd A t s v 8) = _
  rw [mI_pO hW 8 (by omega), show min 8 (ndA A) = ndA A by omega]
  unfold cdd pE
  rw [if_pos rfl]
  show (if _ then _ else _) = _
  split
  · rfl
  · rfl
theorem lop (hW : WF A) (hSUB : SUB N A T s0 t) (hT : p + t + 1 = T) (h5 : T ≤ 5) (h01 : s0 ≤ 1) (hp : 1 ≤ p) (hok : vok A p v) : ∀ (c i : Nat), i + c = 9 → ∀ (M : ax_M) (y4 y5 : Value), M 85 = A → frm M p v → cur M v → M 94 p = nI i → M 95 p = bs (sd s0 p) v.2.2 (mI A t (sd s0 p) v i) → ∃ M2, chg p M M2 ∧ ∀ (S : ax_S) (d n : Nat) (Q : Option Value → Nat → ax_H → Prop), ax_W (d + 6) 176 11 [.ref 84, .int (nI T), .int (nI s0), .int (nI p), y4, y5] [] n (hx S M N) Q = ax_W (d + 6) 176 72 [.ref 84, .int (nI T), .int (nI s0), .int (nI (p - 1)), .int (nI (sd s0 p)), .int (iI (vV A (t + 1) (sd s0 p) v))] [] n (hx S M2 N) Q := by
  have b := mI_bd (s := sd s0 p) hW (show t ≤ 4 by omega) hok.1 hok.2.1
  have e9 := mI_9 (s := sd s0 p) hW (show t ≤ 4 by omega) hok.1 hok.2.1
  have gb := gG_bd hW (t + 1) (sd s0 p) v.1 v.2.1 hok.1 hok.2.1
  have h0 : ∀ (M : ax_M) (y4 y5 : Value) (S : ax_S) (d n : Nat) (Q : Option Value → Nat → ax_H → Prop), ax_W (d + 6) 176 11 [.ref 84, .int (nI T), .int (nI s0), .int (nI p), y4, y5] [] n (hx S M N) Q = ax_W (d + 6) 176 26 [.ref 84, .int (nI T), .int (nI s0), .int (nI p), y4, y5] [] n (hx S M N) Q := by
    intro M y4 y5 S d n Q
    simp only [↓s176_11, ↓s176_12, ct_s, ct_n, ↓bI_01, bI_eq0, bI_eq1, nI_10, nI_01, dec_f, dec_t, if_n, eq_self, true_or, or_true, if_true, if_false, reduceIte]
    rw [if_pos (nI_lt (a := 0) (b := p) (by omega) (by omega))]
  intro c
  induction c with
  | zero =>
    intro i hi M y4 y5 hA hf hcu h94 h95
    have e : i = 9 := by omega
    subst e
    rw [e9] at h95
    have e95 : M 95 p = iI (vV A (t + 1) (sd s0 p) v) := by rw [h95]; unfold bs vV; rw [if_neg (by omega)]
    refine ⟨M, chg_rf, fun S d n Q => ?_⟩
    rw [h0]
    simp only [↓s176_26, ↓s176_27, ↓s176_28, ↓s176_29, ↓s176_30, ↓s176_31, ↓s176_33, ↓s176_34, ↓s176_35, nI_add, show ¬ nI 2 = nI 0 by decide, not_false_eq_true, md2 (s0 + p) (by omega), ct_s, ct_n, ↓bI_01, bI_eq0, bI_eq1, nI_10, nI_01, dec_f, dec_t, if_n, eq_self, true_or, or_true, if_true, if_false, reduceIte]
    rw [if_neg (fun q => by have := (nI_eq (a := p) (b := T) (by omega) (by omega)).mp q; omega)]
    simp only [↓s176_38, ↓s176_39, ↓s176_42, ↓s176_43, ↓s176_44, ↓s176_46, jc_84, gf_84_0, gf_84_1, gf_84_2, gf_84_3, gf_84_4, ok_84_4, gf_84_5, ok_84_5, gf_84_6, ok_84_6, gf_84_7, ok_84_7, gf_84_8, ok_84_8, gf_84_9, ok_84_9, gf_84_10, gf_84_11, gf_84_12, gf_84_13, gf_84_14, gf_84_15, gf_84_16, gf_84_17, ok_84_17, gf_84_18, gf_84_19, ok_84_19, gf_84_20, ok_84_20, gf_84_21, gf_84_22, gf_84_23, gf_84_24, ok_84_24, gf_84_25, ok_84_25, gf_84_26, ok_84_26, gf_84_27, ok_84_27, gf_84_28, ok_84_28, gf_84_29, gf_84_30, al_94 (show p < 6 by omega), h94, ct_s, ct_n, ↓bI_01, bI_eq0, bI_eq1, nI_10, nI_01, dec_f, dec_t, if_n, eq_self, true_or, or_true, if_true, if_false, reduceIte]
    rw [if_neg (nI_ge (a := 8) (b := 9) (by omega) (by omega))]
    simp only [↓s176_49, ↓s176_50, ↓s176_51, ct_s, ct_n, ↓bI_01, bI_eq0, bI_eq1, nI_10, nI_01, dec_f, dec_t, if_n, eq_self, true_or, or_true, if_true, if_false, reduceIte]
    rw [if_neg (fun q => by have := (nI_eq (a := p) (b := T) (by omega) (by omega)).mp q; omega)]
    have em : nI p + (-1) = nI (p - 1) := by rw [← pk_sub (show 1 ≤ p by omega)]; exact (Int32.sub_eq_add_neg (nI p) (nI 1)).symm
    simp only [↓s176_61, ↓s176_62, ↓s176_65, ↓s176_66, ↓s176_67, ↓s176_69, jc_84, gf_84_0, gf_84_1, gf_84_2, gf_84_3, gf_84_4, ok_84_4, gf_84_5, ok_84_5, gf_84_6, ok_84_6, gf_84_7, ok_84_7, gf_84_8, ok_84_8, gf_84_9, ok_84_9, gf_84_10, gf_84_11, gf_84_12, gf_84_13, gf_84_14, gf_84_15, gf_84_16, gf_84_17, ok_84_17, gf_84_18, gf_84_19, ok_84_19, gf_84_20, ok_84_20, gf_84_21, gf_84_22, gf_84_23, gf_84_24, ok_84_24, gf_84_25, ok_84_25, gf_84_26, ok_84_26, gf_84_27, ok_84_27, gf_84_28, ok_84_28, gf_84_29, gf_84_30, al_95 (show p < 6 by omega), e95, em, ct_s, ct_n, ↓bI_01, bI_eq0, bI_eq1, nI_10, nI_01, dec_f, dec_t, if_n, eq_self, true_or, or_true, if_true, if_false, reduceIte]
    rfl
  | succ c ih =>
    intro i hi M y4 y5 hA hf hcu h94 h95
    obtain ⟨M3, z4, z5, ⟨f1, f2, f3, f4, f5, f6, f7⟩, f8, f9, g⟩ := tryI hW hSUB hT h5 h01 rfl hA hf hcu h94 h95 (by omega) hok (b i) y4 y5
    obtain ⟨M2, k1, k2⟩ := ih (i + 1) (by omega) M3 z4 z5 f5 f1 f2 f3 f4
    refine ⟨M2, chg_tr (f6 (by omega)) k1, fun S d n Q => ?_⟩
    rw [h0, g]
    exact k2 S d n Q
end Play8
