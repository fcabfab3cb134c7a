/-! ===== play: one try ===== -/
section Play7
variable {M : ax_M} {N : ax_L} {A : ax_A0} {T s0 t p i : Nat} {v : ax_V}
def cdd (A : ax_A0) (t s : Nat) (v : ax_V) (i : Nat) : Option Int := if i = 8 then some (- gG A t (1 - s) v.1 v.2.1) else if mayA A i s v.1 = true then some ((dsN A i (pop v.1) v.2.1 : Int) - gG A t (1 - s) (addB v.1 i) (some i)) else none
def nm (m : Int) : Option Int → Int
  | none => m
  | some c => if m < c then c else m
def nf (m : Int) (o : Int32) (i : Nat) : Option Int → Int32
  | none => o
  | some c => if m < c then nI i else o
theorem go1 {s : Nat} {m c : Int} {v' : ax_V} (hSUB : SUB N A T s0 t) (hT : p + t + 1 = T) (h5 : T ≤ 5) (es : s = sd s0 p) (hA : M 85 = A) (hf : frm M p v) (h94 : M 94 p = nI i) (h95 : M 95 p = bs s v.2.2 m) (hi : i ≤ 8) (hok : vok A p v) (hok' : vok A (p + 1) v') (hm : m = -1000 ∨ (-200 ≤ m ∧ m ≤ 200)) (hc : -200 ≤ c ∧ c ≤ 200) (hv : vV A t (1 - s) v' = v.2.2 + sgn s c) (y4 y5 : Value) : ∃ (M3 : ax_M) (z4 z5 : Value), (frm M3 p v ∧ cur M3 v ∧ M3 94 p = nI (i + 1) ∧ M3 95 p = bs s v.2.2 (if m < c then c else m) ∧ M3 85 = A ∧ (p ≠ 0 → chg p M M3) ∧ (p = 0 → M3 84 17 = (if m < c then nI i else M 84 17))) ∧ (∀ a, ¬ (90 ≤ a ∧ a ≤ 95) → a ≠ 84 → M3 a = M a) ∧ (∀ j, ¬ (6 ≤ j ∧ j ≤ 9) → j ≠ 17 → M3 84 j = M 84 j) ∧ ∀ (S : ax_S) (d n : Nat) (Q : Option Value → Nat → ax_H → Prop), ax_W (d + 6) 176 11 [.ref 84, .int (nI T), .int (nI s0), .int (nI (p + 1)), y4, y5] [] n (hx S (ltM (rvM M v') (p + 1)) N) Q = ax_W (d + 6) 176 11 [.ref 84, .int (nI T), .int (nI s0), .int (nI p), z4, z5] [] n (hx S M3 N) Q := by
  have hA1 : ltM (rvM M v') (p + 1) 85 = A := by rw [lt_o (by omega), rvM_85]; exact hA
  obtain ⟨M2, hch, g⟩ := hSUB (p + 1) v' (ltM (rvM M v') (p + 1)) y4 y5 (by omega) (by omega) hA1 (lt_frm rv_cur) (lt_cur rv_cur) lt_94 lt_95 hok'
  have hch2 : chg (p + 1) M M2 := chg_tr (chg_tr chg_rv chg_lt) hch
  obtain ⟨M3, f1, f2, f3, g3⟩ := aft (N := N) (t := t) hT h5 es hA hf h94 h95 hi hok hm hc hch2
  refine ⟨M3, .int (nI (sd s0 (p + 1))), .int (iI (v.2.2 + sgn s c)), f1, f2, f3, fun S d n Q => (g S d n Q).trans ?_⟩
  have e : vV A t (sd s0 (p + 1)) v' = v.2.2 + sgn s c := by rw [sd_s, ← es]; exact hv
  rw [e, Nat.add_sub_cancel]
  exact g3 S d n Q
set_option maxHeartbeats 1000000 in
theorem tryI {s : Nat} {m : Int} (hW : WF A) (hSUB : SUB N A T s0 t) (hT : p + t + 1 = T) (h5 : T ≤ 5) (h01 : s0 ≤ 1) (es : s = sd s0 p) (hA : M 85 = A) (hf : frm M p v) (hcu : cur M v) (h94 : M 94 p = nI i) (h95 : M 95 p = bs s v.2.2 m) (hi : i ≤ 8) (hok : vok A p v) (hm : m = -1000 ∨ (-200 ≤ m ∧ m ≤ 200)) (y4 y5 : Value) : ∃ (M3 : ax_M) (z4 z5 : Value), (frm M3 p v ∧ cur M3 v ∧ M3 94 p = nI (i + 1) ∧ M3 95 p = bs s v.2.2 (nm m (cdd A t s v i)) ∧ M3 85 = A ∧ (p ≠ 0 → chg p M M3) ∧ (p = 0 → M3 84 17 = nf m (M 84 17) i (cdd A t s v i))) ∧ (∀ a, ¬ (90 ≤ a ∧ a ≤ 95) → a ≠ 84 → M3 a = M a) ∧ (∀ j, ¬ (6 ≤ j ∧ j ≤ 9) → j ≠ 17 → M3 84 j = M 84 j) ∧ ∀ (S : ax_S) (d n : Nat) (Q : Option Value → Nat → ax_H → Prop), ax_W (d + 6) 176 26 [.ref 84, .int (nI T), .int (nI s0), .int (nI p), y4, y5] [] n (hx S M N) Q = ax_W (d + 6) 176 11 [.ref 84, .int (nI T), .int (nI s0), .int (nI p), z4, z5] [] n (hx S M3 N) Q := by
  have n8 := hW.1.2
  have hs : s ≤ 1 := by rw [es]; exact sd_le
  obtain ⟨o1, o2, o3, o4⟩ := hok
  have erv := cur_rv hcu
  have a0 : M 85 0 = nI (ndA A) := by rw [hA]; exact hW.1.1
  have pre : ∀ (S : ax_S) (d n : Nat) (Q : Option Value → Nat → ax_H → Prop), ax_W (d + 6) 176 26 [.ref 84, .int (nI T), .int (nI s0), .int (nI p), y4, y5] [] n (hx S M N) Q = ax_W (d + 6) 176 91 [.ref 84, .int (nI T), .int (nI s0), .int (nI p), .int (nI s), y5] [] n (hx S M N) Q := by
    intro S d n Q
    simp only [↓s176_26, ↓s176_27, ↓s176_28, ↓s176_29, ↓s176_30, ↓s176_31, ↓s176_33, ↓s176_34, ↓s176_35, nI_add, show ¬ nI 2 = nI 0 by decide, not_false_eq_true, md2 (s0 + p) (by omega), ct_s, ct_n, ↓bI_01, bI_eq0, bI_eq1, nI_10, nI_01, dec_f, dec_t, if_n, eq_self, true_or, or_true, if_true, if_false, reduceIte]
    rw [if_neg (fun q => by have := (nI_eq (a := p) (b := T) (by omega) (by omega)).mp q; omega)]
    simp only [↓s176_38, ↓s176_39, ↓s176_42, ↓s176_43, ↓s176_44, ↓s176_46, jc_84, gf_84_0, gf_84_1, gf_84_2, gf_84_3, gf_84_4, ok_84_4, gf_84_5, ok_84_5, gf_84_6, ok_84_6, gf_84_7, ok_84_7, gf_84_8, ok_84_8, gf_84_9, ok_84_9, gf_84_10, gf_84_11, gf_84_12, gf_84_13, gf_84_14, gf_84_15, gf_84_16, gf_84_17, ok_84_17, gf_84_18, gf_84_19, ok_84_19, gf_84_20, ok_84_20, gf_84_21, gf_84_22, gf_84_23, gf_84_24, ok_84_24, gf_84_25, ok_84_25, gf_84_26, ok_84_26, gf_84_27, ok_84_27, gf_84_28, ok_84_28, gf_84_29, gf_84_30, al_94 (show p < 6 by omega), h94, ct_s, ct_n, ↓bI_01, bI_eq0, bI_eq1, nI_10, nI_01, dec_f, dec_t, if_n, eq_self, true_or, or_true, if_true, if_false, reduceIte]
    rw [if_pos (nI_le (a := i) (b := 8) (by omega) (by omega)), es]
    rfl
  have gb := gG_bd hW t (1 - s) v.1 v.2.1 o1 o2
  by_cases e8 : i = 8
  · have ec : cdd A t s v i = some (- gG A t (1 - s) v.1 v.2.1) := by unfold cdd; rw [if_pos e8]
    rw [ec]
    obtain ⟨M3, z4, z5, f1, f2, f3, g⟩ := go1 (v' := v) (c := - gG A t (1 - s) v.1 v.2.1) hSUB hT h5 es hA hf h94 h95 hi ⟨o1, o2, o3, o4⟩ ⟨o1, o2, by omega, by omega⟩ hm (by omega) (vV_n hs) (.int (nI s)) (.int (nI 0))
    refine ⟨M3, z4, z5, f1, f2, f3, fun S d n Q => ?_⟩
    rw [← erv] at g
    rw [pre]
    simp only [↓s176_91, ↓s176_92, ↓s176_95, ↓s176_96, ↓s176_97, ↓s176_99, ↓s176_130, ↓s176_131, ↓s176_134, ↓s176_135, ↓s176_136, ↓s176_138, ↓s176_141, ↓s176_142, ↓s176_145, ↓s176_146, ↓s176_147, ↓s176_150, ↓s176_151, ↓s176_152, ↓s176_154, ↓s176_155, ↓s176_158, ↓s176_160, ↓s176_163, ↓s176_164, ↓s176_165, ↓s176_168, jc_84, gf_84_0, gf_84_1, gf_84_2, gf_84_3, gf_84_4, ok_84_4, gf_84_5, ok_84_5, gf_84_6, ok_84_6, gf_84_7, ok_84_7, gf_84_8, ok_84_8, gf_84_9, ok_84_9, gf_84_10, gf_84_11, gf_84_12, gf_84_13, gf_84_14, gf_84_15, gf_84_16, gf_84_17, ok_84_17, gf_84_18, gf_84_19, ok_84_19, gf_84_20, ok_84_20, gf_84_21, gf_84_22, gf_84_23, gf_84_24, ok_84_24, gf_84_25, ok_84_25, gf_84_26, ok_84_26, gf_84_27, ok_84_27, gf_84_28, ok_84_28, gf_84_29, gf_84_30, al_94 (show p < 6 by omega), h94, e8, nI_add, ↓c173 (show p + 1 < 6 by omega), ct_s, ct_n, ↓bI_01, bI_eq0, bI_eq1, nI_10, nI_01, dec_f, dec_t, if_n, eq_self, true_or, or_true, if_true, if_false, reduceIte]
    simp only [↓s176_181, ct_s, ct_n, ↓bI_01, bI_eq0, bI_eq1, nI_10, nI_01, dec_f, dec_t, if_n, eq_self, true_or, or_true, if_true, if_false, reduceIte]
    exact g S d n Q
  · cases hm2 : mayA A i s v.1 with
    | true =>
      have lt := mayA_lt hm2
      have ec : cdd A t s v i = some ((dsN A i (pop v.1) v.2.1 : Int) - gG A t (1 - s) (addB v.1 i) (some i)) := by unfold cdd; rw [if_neg e8, if_pos hm2]
      have ds := dsN_le hW lt.1 (bt_pop8 v.1) o2
      have cb := cd_bd (s := s) hW (show t ≤ 4 by omega) o1 o2 i lt.1 hm2
      have okk := evS_ok (s := s) hW lt.1 o1
      rw [ec]
      obtain ⟨M3, z4, z5, f1, f2, f3, g⟩ := go1 (v' := evS A s i v) (c := (dsN A i (pop v.1) v.2.1 : Int) - gG A t (1 - s) (addB v.1 i) (some i)) hSUB hT h5 es hA hf h94 h95 hi ⟨o1, o2, o3, o4⟩ ⟨okk.1, okk.2, by unfold evS sg; dsimp only; split <;> omega, by unfold evS sg; dsimp only; split <;> omega⟩ hm cb (vV_d hs) (.int (nI s)) (.int (nI (dsN A i (pop v.1) v.2.1)))
      refine ⟨M3, z4, z5, f1, f2, f3, fun S d n Q => ?_⟩
      have k159 := fun (d : Nat) (Q : Option Value → Nat → ax_H → Prop) => c159 (d := d) (n := n) (S := S) (N := N) (Q := Q) hA hW lt.1 hs o1
      have k156 := fun (d : Nat) (Q : Option Value → Nat → ax_H → Prop) => c156 (d := d) (n := n) (S := S) (N := N) (Q := Q) (c := 1) hA hW lt.1 hs (by omega) o1 lt.2 o2
      rw [← erv] at k159
      rw [← erv, evB_1] at k156
      have q94 : rvM M (evS A s i v) 94 p = nI i := by rw [rvM_o (by decide)]; exact h94
      rw [pre]
      simp only [↓s176_91, ↓s176_92, ↓s176_95, ↓s176_96, ↓s176_97, ↓s176_99, jc_84, gf_84_0, gf_84_1, gf_84_2, gf_84_3, gf_84_4, ok_84_4, gf_84_5, ok_84_5, gf_84_6, ok_84_6, gf_84_7, ok_84_7, gf_84_8, ok_84_8, gf_84_9, ok_84_9, gf_84_10, gf_84_11, gf_84_12, gf_84_13, gf_84_14, gf_84_15, gf_84_16, gf_84_17, ok_84_17, gf_84_18, gf_84_19, ok_84_19, gf_84_20, ok_84_20, gf_84_21, gf_84_22, gf_84_23, gf_84_24, ok_84_24, gf_84_25, ok_84_25, gf_84_26, ok_84_26, gf_84_27, ok_84_27, gf_84_28, ok_84_28, gf_84_29, gf_84_30, al_94 (show p < 6 by omega), h94, ct_s, ct_n, ↓bI_01, bI_eq0, bI_eq1, nI_10, nI_01, dec_f, dec_t, if_n, eq_self, true_or, or_true, if_true, if_false, reduceIte]
      rw [if_neg (fun q => e8 ((nI_eq (a := i) (b := 8) (by omega) (by omega)).mp q))]
      simp only [↓s176_102, ↓s176_103, ↓s176_106, ↓s176_107, ↓s176_108, ↓s176_109, ↓s176_112, jc_84, gf_84_0, gf_84_1, gf_84_2, gf_84_3, gf_84_4, ok_84_4, gf_84_5, ok_84_5, gf_84_6, ok_84_6, gf_84_7, ok_84_7, gf_84_8, ok_84_8, gf_84_9, ok_84_9, gf_84_10, gf_84_11, gf_84_12, gf_84_13, gf_84_14, gf_84_15, gf_84_16, gf_84_17, ok_84_17, gf_84_18, gf_84_19, ok_84_19, gf_84_20, ok_84_20, gf_84_21, gf_84_22, gf_84_23, gf_84_24, ok_84_24, gf_84_25, ok_84_25, gf_84_26, ok_84_26, gf_84_27, ok_84_27, gf_84_28, ok_84_28, gf_84_29, gf_84_30, al_94 (show p < 6 by omega), h94, ↓c140, a0, ct_s, ct_n, ↓bI_01, bI_eq0, bI_eq1, nI_10, nI_01, dec_f, dec_t, if_n, eq_self, true_or, or_true, if_true, if_false, reduceIte]
      rw [if_neg (nI_ge (a := i) (b := ndA A) (by omega) (by omega))]
      simp only [↓s176_115, ↓s176_116, ↓s176_117, ↓s176_120, ↓s176_121, ↓s176_122, ↓s176_124, ↓s176_127, ↓s176_130, ↓s176_131, ↓s176_134, ↓s176_135, ↓s176_136, ↓s176_138, jc_84, gf_84_0, gf_84_1, gf_84_2, gf_84_3, gf_84_4, ok_84_4, gf_84_5, ok_84_5, gf_84_6, ok_84_6, gf_84_7, ok_84_7, gf_84_8, ok_84_8, gf_84_9, ok_84_9, gf_84_10, gf_84_11, gf_84_12, gf_84_13, gf_84_14, gf_84_15, gf_84_16, gf_84_17, ok_84_17, gf_84_18, gf_84_19, ok_84_19, gf_84_20, ok_84_20, gf_84_21, gf_84_22, gf_84_23, gf_84_24, ok_84_24, gf_84_25, ok_84_25, gf_84_26, ok_84_26, gf_84_27, ok_84_27, gf_84_28, ok_84_28, gf_84_29, gf_84_30, al_94 (show p < 6 by omega), h94, ↓k159, hm2, ct_s, ct_n, ↓bI_01, bI_eq0, bI_eq1, nI_10, nI_01, dec_f, dec_t, if_n, eq_self, true_or, or_true, if_true, if_false, reduceIte, Bool.true_eq_false]
      rw [if_neg (fun q => e8 ((nI_eq (a := i) (b := 8) (by omega) (by omega)).mp q))]
      simp only [↓s176_145, ↓s176_146, ↓s176_147, ↓s176_150, ↓s176_151, ↓s176_152, ↓s176_154, ↓s176_155, ↓s176_158, ↓s176_160, ↓s176_163, ↓s176_164, ↓s176_165, ↓s176_168, jc_84, gf_84_0, gf_84_1, gf_84_2, gf_84_3, gf_84_4, ok_84_4, gf_84_5, ok_84_5, gf_84_6, ok_84_6, gf_84_7, ok_84_7, gf_84_8, ok_84_8, gf_84_9, ok_84_9, gf_84_10, gf_84_11, gf_84_12, gf_84_13, gf_84_14, gf_84_15, gf_84_16, gf_84_17, ok_84_17, gf_84_18, gf_84_19, ok_84_19, gf_84_20, ok_84_20, gf_84_21, gf_84_22, gf_84_23, gf_84_24, ok_84_24, gf_84_25, ok_84_25, gf_84_26, ok_84_26, gf_84_27, ok_84_27, gf_84_28, ok_84_28, gf_84_29, gf_84_30, al_94 (show p < 6 by omega), h94, ↓k156, nI_add, ↓c173 (show p + 1 < 6 by omega), ct_s, ct_n, ↓bI_01, bI_eq0, bI_eq1, nI_10, nI_01, dec_f, dec_t, if_n, eq_self, true_or, or_true, if_true, if_false, reduceIte]
      simp only [↓s176_181, ct_s, ct_n, ↓bI_01, bI_eq0, bI_eq1, nI_10, nI_01, dec_f, dec_t, if_n, eq_self, true_or, or_true, if_true, if_false, reduceIte]
      exact g S d n Q
    | false =>
      have ec : cdd A t s v i = none := by unfold cdd; rw [if_neg e8, if_neg (by rw [hm2]; decide)]
      rw [ec]
      refine ⟨ux M 94 p (nI (i + 1)), .int (nI s), y5, ⟨?_, ?_, ux_s, ?_, ?_, fun _ => chg_ux (Or.inr ⟨by omega, by omega, Nat.le_refl _⟩), fun _ => ?_⟩, fun a h1 h2 => ux_f (by omega), fun j _ _ => ux_a (by decide), fun S d n Q => ?_⟩
      · unfold frm at *
        rw [ux_a (by decide), ux_a (by decide), ux_a (by decide), ux_a (by decide)]; exact hf
      · unfold cur at *
        rw [ux_a (by decide), ux_a (by decide), ux_a (by decide), ux_a (by decide)]; exact hcu
      · rw [ux_a (by decide)]; exact h95
      · rw [ux_f (by decide)]; exact hA
      · rw [ux_a (by decide)]; rfl
      · rw [pre]
        simp only [↓s176_91, ↓s176_92, ↓s176_95, ↓s176_96, ↓s176_97, ↓s176_99, jc_84, gf_84_0, gf_84_1, gf_84_2, gf_84_3, gf_84_4, ok_84_4, gf_84_5, ok_84_5, gf_84_6, ok_84_6, gf_84_7, ok_84_7, gf_84_8, ok_84_8, gf_84_9, ok_84_9, gf_84_10, gf_84_11, gf_84_12, gf_84_13, gf_84_14, gf_84_15, gf_84_16, gf_84_17, ok_84_17, gf_84_18, gf_84_19, ok_84_19, gf_84_20, ok_84_20, gf_84_21, gf_84_22, gf_84_23, gf_84_24, ok_84_24, gf_84_25, ok_84_25, gf_84_26, ok_84_26, gf_84_27, ok_84_27, gf_84_28, ok_84_28, gf_84_29, gf_84_30, al_94 (show p < 6 by omega), h94, ct_s, ct_n, ↓bI_01, bI_eq0, bI_eq1, nI_10, nI_01, dec_f, dec_t, if_n, eq_self, true_or, or_true, if_true, if_false, reduceIte]
        rw [if_neg (fun q => e8 ((nI_eq (a := i) (b := 8) (by omega) (by omega)).mp q))]
        simp only [↓s176_102, ↓s176_103, ↓s176_106, ↓s176_107, ↓s176_108, ↓s176_109, ↓s176_112, jc_84, gf_84_0, gf_84_1, gf_84_2, gf_84_3, gf_84_4, ok_84_4, gf_84_5, ok_84_5, gf_84_6, ok_84_6, gf_84_7, ok_84_7, gf_84_8, ok_84_8, gf_84_9, ok_84_9, gf_84_10, gf_84_11, gf_84_12, gf_84_13, gf_84_14, gf_84_15, gf_84_16, gf_84_17, ok_84_17, gf_84_18, gf_84_19, ok_84_19, gf_84_20, ok_84_20, gf_84_21, gf_84_22, gf_84_23, gf_84_24, ok_84_24, gf_84_25, ok_84_25, gf_84_26, ok_84_26, gf_84_27, ok_84_27, gf_84_28, ok_84_28, gf_84_29, gf_84_30, al_94 (show p < 6 by omega), h94, ↓c140, a0, ct_s, ct_n, ↓bI_01, bI_eq0, bI_eq1, nI_10, nI_01, dec_f, dec_t, if_n, eq_self, true_or, or_true, if_true, if_false, reduceIte]
        by_cases hn : i < ndA A
        · have k159 := fun (d : Nat) (Q : Option Value → Nat → ax_H → Prop) => c159 (d := d) (n := n) (S := S) (N := N) (Q := Q) hA hW hn hs o1
          rw [← erv] at k159
          rw [if_neg (nI_ge (a := i) (b := ndA A) (by omega) (by omega))]
          simp only [↓s176_115, ↓s176_116, ↓s176_117, ↓s176_120, ↓s176_121, ↓s176_122, ↓s176_124, ↓s176_127, ↓s176_171, ↓s176_172, ↓s176_175, ↓s176_176, ↓s176_177, ↓s176_178, ↓s176_179, ↓s176_180, ↓s176_181, jc_84, gf_84_0, gf_84_1, gf_84_2, gf_84_3, gf_84_4, ok_84_4, gf_84_5, ok_84_5, gf_84_6, ok_84_6, gf_84_7, ok_84_7, gf_84_8, ok_84_8, gf_84_9, ok_84_9, gf_84_10, gf_84_11, gf_84_12, gf_84_13, gf_84_14, gf_84_15, gf_84_16, gf_84_17, ok_84_17, gf_84_18, gf_84_19, ok_84_19, gf_84_20, ok_84_20, gf_84_21, gf_84_22, gf_84_23, gf_84_24, ok_84_24, gf_84_25, ok_84_25, gf_84_26, ok_84_26, gf_84_27, ok_84_27, gf_84_28, ok_84_28, gf_84_29, gf_84_30, al_94 (show p < 6 by omega), sa_94 (show p < 6 by omega), h94, ↓k159, hm2, nI_add, ct_s, ct_n, ↓bI_01, bI_eq0, bI_eq1, nI_10, nI_01, dec_f, dec_t, if_n, eq_self, true_or, or_true, if_true, if_false, reduceIte]
        · rw [if_pos (nI_le (a := ndA A) (b := i) (by omega) (by omega))]
          simp only [↓s176_171, ↓s176_172, ↓s176_175, ↓s176_176, ↓s176_177, ↓s176_178, ↓s176_179, ↓s176_180, ↓s176_181, jc_84, gf_84_0, gf_84_1, gf_84_2, gf_84_3, gf_84_4, ok_84_4, gf_84_5, ok_84_5, gf_84_6, ok_84_6, gf_84_7, ok_84_7, gf_84_8, ok_84_8, gf_84_9, ok_84_9, gf_84_10, gf_84_11, gf_84_12, gf_84_13, gf_84_14, gf_84_15, gf_84_16, gf_84_17, ok_84_17, gf_84_18, gf_84_19, ok_84_19, gf_84_20, ok_84_20, gf_84_21, gf_84_22, gf_84_23, gf_84_24, ok_84_24, gf_84_25, ok_84_25, gf_84_26, ok_84_26, gf_84_27, ok_84_27, gf_84_28, ok_84_28, gf_84_29, gf_84_30, al_94 (show p < 6 by omega), sa_94 (show p < 6 by omega), h94, nI_add, ct_s, ct_n, ↓bI_01, bI_eq0, bI_eq1, nI_10, nI_01, dec_f, dec_t, if_n, eq_self, true_or, or_true, if_true, if_false, reduceIte]
end Play7
