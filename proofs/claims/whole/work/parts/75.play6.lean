/-! ===== play: a try at depth p ===== -/
section Play6
variable {M : ax_M} {N : ax_L} {A : ax_A0} {T s0 t p i : Nat} {v : ax_V}
def sd (s0 p : Nat) : Nat := (s0 + p) % 2
theorem sd_le : sd s0 p ≤ 1 := by unfold sd; omega
theorem sd_s : sd s0 (p + 1) = 1 - sd s0 p := by unfold sd; omega
theorem md2 : ∀ a, a < 8 → nI a - nI a / nI 2 * nI 2 = nI (a % 2) := by decide +kernel
def vok (A : ax_A0) (p : Nat) (v : ax_V) : Prop := v.1 < 256 ∧ (∀ j, v.2.1 = some j → j < ndA A) ∧ -(300 + 24 * (p : Int)) ≤ v.2.2 ∧ v.2.2 ≤ 300 + 24 * (p : Int)
def SUB (N : ax_L) (A : ax_A0) (T s0 t : Nat) : Prop := ∀ (p : Nat) (v : ax_V) (M : ax_M) (y4 y5 : Value), 1 ≤ p → p + t = T → M 85 = A → frm M p v → cur M v → M 94 p = nI 0 → M 95 p = nI 1000000 → vok A p v → ∃ M2, chg p M M2 ∧ ∀ (S : ax_S) (d n : Nat) (Q : Option Value → Nat → ax_H → Prop), ax_W (d + 6) 176 11 [.ref 84, .int (nI T), .int (nI s0), .int (nI p), y4, y5] [] n (hx S M N) Q = ax_W (d + 6) 176 72 [.ref 84, .int (nI T), .int (nI s0), .int (nI (p - 1)), .int (nI (sd s0 p)), .int (iI (vV A t (sd s0 p) v))] [] n (hx S M2 N) Q
/-- the best so far, as the reference keeps it -/
def bs (s : Nat) (lean m : Int) : Int32 := if m = -1000 then nI 1000000 else iI (lean + sgn s m)
theorem bet_bs {s : Nat} (hs : s ≤ 1) {lean m c : Int} (hl : -1000 ≤ lean ∧ lean ≤ 1000) (hm : m = -1000 ∨ (-200 ≤ m ∧ m ≤ 200)) (hc : -200 ≤ c ∧ c ≤ 200) : bet s (bs s lean m) (iI (lean + sgn s c)) = decide (m < c) := by
  unfold bet bs
  rcases hm with rfl | hm
  · rw [if_pos rfl, decide_eq_true rfl, Bool.true_or, decide_eq_true (by omega)]
  · rw [if_neg (by omega)]
    have e : nI 1000000 = iI 1000000 := by decide
    unfold sgn
    rcases (show s = 0 ∨ s = 1 by omega) with rfl | rfl
    · simp only [if_true]
      rw [decide_eq_false (by rw [e, iI_eq (by omega) (by omega) (by omega) (by omega)]; omega), Bool.false_or]
      exact decide_eq_decide.mpr (by rw [iI_lt (by omega) (by omega) (by omega) (by omega)]; omega)
    · simp only [show ¬ (1 : Nat) = 0 by decide, if_false]
      rw [decide_eq_false (by rw [e, iI_eq (by omega) (by omega) (by omega) (by omega)]; omega), Bool.false_or]
      exact decide_eq_decide.mpr (by rw [iI_lt (by omega) (by omega) (by omega) (by omega)]; omega)
/-- behind the turn at p + 1, its value c for the mover -/
theorem aft {s : Nat} {m c : Int} {M2 : ax_M} (hT : p + t + 1 = T) (h5 : T ≤ 5) (es : s = sd s0 p) (hA : M 85 = A) (hf : frm M p v) (h94 : M 94 p = nI i) (h95 : M 95 p = bs s v.2.2 m) (hi : i ≤ 8) (hok : vok A p v) (hm : m = -1000 ∨ (-200 ≤ m ∧ m ≤ 200)) (hc : -200 ≤ c ∧ c ≤ 200) (hch : chg (p + 1) M M2) : ∃ M3, (frm M3 p v ∧ cur M3 v ∧ M3 94 p = nI (i + 1) ∧ M3 95 p = bs s v.2.2 (if m < c then c else m) ∧ M3 85 = A ∧ (p ≠ 0 → chg p M M3) ∧ (p = 0 → M3 84 17 = (if m < c then nI i else M 84 17))) ∧ (∀ a, ¬ (90 ≤ a ∧ a ≤ 95) → a ≠ 84 → M3 a = M a) ∧ (∀ j, ¬ (6 ≤ j ∧ j ≤ 9) → j ≠ 17 → M3 84 j = M 84 j) ∧ ∀ (S : ax_S) (d n : Nat) (Q : Option Value → Nat → ax_H → Prop), ax_W (d + 6) 176 72 [.ref 84, .int (nI T), .int (nI s0), .int (nI p), .int (nI (sd s0 (p + 1))), .int (iI (v.2.2 + sgn s c))] [] n (hx S M2 N) Q = ax_W (d + 6) 176 11 [.ref 84, .int (nI T), .int (nI s0), .int (nI p), .int (nI (sd s0 (p + 1))), .int (iI (v.2.2 + sgn s c))] [] n (hx S M3 N) Q := by
  have hs : s ≤ 1 := by rw [es]; exact sd_le
  have hf2 : frm M2 p v := chg_frm (by omega) hch hf
  have e95 : btM M2 p 95 p = bs s v.2.2 m := by rw [bt_o (by decide), hch 95 p (by omega) (by omega)]; exact h95
  have e94 : btM M2 p 94 p = nI i := by rw [bt_o (by decide), hch 94 p (by omega) (by omega)]; exact h94
  obtain ⟨o1, o2, o3, o4⟩ := hok
  have eb := bet_bs hs (lean := v.2.2) (m := m) (c := c) (by omega) hm hc
  have lo : ∀ a, ¬ (90 ≤ a ∧ a ≤ 95) → a ≠ 84 → M2 a = M a := fun a h1 h2 => funext (fun j => hch a j (by omega) (by omega))
  refine ⟨jgM (btM M2 p) p (decide (m < c)) (iI (v.2.2 + sgn s c)), ⟨?_, ?_, ?_, ?_, ?_, fun h => ?_, fun h => ?_⟩, fun a h1 h2 => ?_, fun j h1 h2 => ?_, fun S d n Q => ?_⟩
  · unfold frm at *
    rw [jg_o (by decide) (by decide) (by decide), jg_o (by decide) (by decide) (by decide), jg_o (by decide) (by decide) (by decide), jg_o (by decide) (by decide) (by decide), bt_o (by decide), bt_o (by decide), bt_o (by decide), bt_o (by decide)]
    exact hf2
  · have h := bt_cur hf2
    unfold cur at *
    rw [jg_84 (Or.inl (by decide)), jg_84 (Or.inl (by decide)), jg_84 (Or.inl (by decide)), jg_84 (Or.inl (by decide))]
    exact h
  · rw [jg_94, e94, nI_add]
  · rw [jg_95, e95]
    by_cases z : m < c
    · rw [decide_eq_true z, if_pos rfl, if_pos z]
      unfold bs
      rw [if_neg (by omega)]
    · rw [decide_eq_false z, if_neg (by decide), if_neg z]
  · rw [jg_o (by decide) (by decide) (by decide), bt_o (by decide), lo 85 (by omega) (by decide)]; exact hA
  · exact chg_tr (chg_le (by omega) hch) (chg_tr chg_bt (chg_jg h))
  · subst h
    rw [jg_17, e94]
    have e17 : btM M2 0 84 17 = M 84 17 := (chg_bt (q := 0) 84 17 (by omega) (by omega)).trans (hch 84 17 (by omega) (by omega))
    rw [e17]
    by_cases z : m < c
    · rw [decide_eq_true z, if_pos rfl, if_pos z]
    · rw [decide_eq_false z, if_neg (by decide), if_neg z]
  · rw [jg_o h2 (by omega) (by omega), bt_o h2, lo a h1 h2]
  · rw [jg_84 (Or.inl h2)]
    exact (chg_bt (q := 0) 84 j (by omega) (by omega)).trans (hch 84 j (by omega) (by omega))
  · have k := fun (d : Nat) (Q : Option Value → Nat → ax_H → Prop) => c175 (d := d) (n := n) (S := S) (N := N) (Q := Q) (M := btM M2 p) (p := p) (x := iI (v.2.2 + sgn s c)) (by omega) hs
    rw [e95, eb] at k
    have e1 : 1 - sd s0 (p + 1) = s := by rw [sd_s, ← es]; omega
    simp only [↓s176_72, ↓s176_73, ↓s176_74, ↓s176_77, ↓s176_78, ↓s176_79, ↓s176_80, ↓s176_82, ↓s176_83, ↓s176_85, ↓s176_88, jc_84, gf_84_0, gf_84_1, gf_84_2, gf_84_3, gf_84_4, ok_84_4, gf_84_5, ok_84_5, gf_84_6, ok_84_6, gf_84_7, ok_84_7, gf_84_8, ok_84_8, gf_84_9, ok_84_9, gf_84_10, gf_84_11, gf_84_12, gf_84_13, gf_84_14, gf_84_15, gf_84_16, gf_84_17, ok_84_17, gf_84_18, gf_84_19, ok_84_19, gf_84_20, ok_84_20, gf_84_21, gf_84_22, gf_84_23, gf_84_24, ok_84_24, gf_84_25, ok_84_25, gf_84_26, ok_84_26, gf_84_27, ok_84_27, gf_84_28, ok_84_28, gf_84_29, gf_84_30, ↓c174 (show p < 6 by omega), pk_sub (show sd s0 (p + 1) ≤ 1 from sd_le), e1, ↓k, ct_s, ct_n, ↓bI_01, bI_eq0, bI_eq1, nI_10, nI_01, dec_f, dec_t, if_n, eq_self, true_or, or_true, if_true, if_false, reduceIte]
    simp only [↓s176_181, ct_s, ct_n, ↓bI_01, bI_eq0, bI_eq1, nI_10, nI_01, dec_f, dec_t, if_n, eq_self, true_or, or_true, if_true, if_false, reduceIte]
end Play6
