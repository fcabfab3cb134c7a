/-! ===== play: the reference's walk ===== -/
def cur (M : ax_M) (v : ax_V) : Prop := M 84 6 = iI v.2.2 ∧ M 84 7 = nI v.1 ∧ M 84 8 = nI (pop v.1) ∧ M 84 9 = lsI v.2.1
def frm (M : ax_M) (p : Nat) (v : ax_V) : Prop := M 90 p = iI v.2.2 ∧ M 91 p = nI v.1 ∧ M 92 p = nI (pop v.1) ∧ M 93 p = lsI v.2.1
/-- M2 is M but for the current evening, the frames from p on -/
def chg (p : Nat) (M M2 : ax_M) : Prop := ∀ a j, ¬ (a = 84 ∧ 6 ≤ j ∧ j ≤ 9) → ¬ (90 ≤ a ∧ a ≤ 95 ∧ p ≤ j) → M2 a j = M a j
section Play5
variable {M M2 M3 : ax_M} {p : Nat} {v w : ax_V}
theorem cur_rv (h : cur M v) : M = rvM M v := rvM_ext (fun b j => Or.inr rfl) h.1 h.2.1 h.2.2.1 h.2.2.2
theorem rv_cur : cur (rvM M v) v := ⟨rvM_6, rvM_7, rvM_8, rvM_9⟩
theorem chg_rf : chg p M M := fun _ _ _ _ => rfl
theorem chg_tr (h1 : chg p M M2) (h2 : chg p M2 M3) : chg p M M3 := fun a j q1 q2 => (h2 a j q1 q2).trans (h1 a j q1 q2)
theorem chg_le {q : Nat} (h : p ≤ q) (h1 : chg q M M2) : chg p M M2 := fun a j q1 q2 => h1 a j q1 (fun z => q2 ⟨z.1, z.2.1, by omega⟩)
theorem chg_rv : chg p M (rvM M v) := fun a j q1 q2 => by
  by_cases h : a = 84
  · subst h
    exact rvM_j (by omega) (by omega) (by omega) (by omega)
  · rw [rvM_o h]
theorem chg_ux {a j : Nat} {x : Int32} (h : (a = 84 ∧ 6 ≤ j ∧ j ≤ 9) ∨ (90 ≤ a ∧ a ≤ 95 ∧ p ≤ j)) : chg p M (ux M a j x) := fun b k q1 q2 => by
  unfold ux
  rw [if_neg (fun z => by
    obtain ⟨z1, z2⟩ := z
    subst z1; subst z2
    exact h.elim q1 q2)]
theorem chg_lt : chg p M (ltM M p) := chg_tr (chg_tr (chg_tr (chg_tr (chg_tr (chg_ux (Or.inr ⟨by omega, by omega, Nat.le_refl _⟩)) (chg_ux (Or.inr ⟨by omega, by omega, Nat.le_refl _⟩))) (chg_ux (Or.inr ⟨by omega, by omega, Nat.le_refl _⟩))) (chg_ux (Or.inr ⟨by omega, by omega, Nat.le_refl _⟩))) (chg_ux (Or.inr ⟨by omega, by omega, Nat.le_refl _⟩))) (chg_ux (Or.inr ⟨by omega, by omega, Nat.le_refl _⟩))
theorem lt_frm (h : cur M v) : frm (ltM M p) p v := by
  unfold frm ltM
  refine ⟨?_, ?_, ?_, ?_⟩
  · rw [ux_a (by decide), ux_a (by decide), ux_a (by decide), ux_a (by decide), ux_a (by decide), ux_s]; exact h.1
  · rw [ux_a (by decide), ux_a (by decide), ux_a (by decide), ux_a (by decide), ux_s]; exact h.2.1
  · rw [ux_a (by decide), ux_a (by decide), ux_a (by decide), ux_s]; exact h.2.2.1
  · rw [ux_a (by decide), ux_a (by decide), ux_s]; exact h.2.2.2
theorem lt_94 : ltM M p 94 p = nI 0 := by unfold ltM; rw [ux_a (by decide), ux_s]
theorem lt_95 : ltM M p 95 p = nI 1000000 := by unfold ltM; rw [ux_s]
theorem lt_o {a : Nat} (h : ¬ (90 ≤ a ∧ a ≤ 95)) : ltM M p a = M a := by
  unfold ltM
  rw [ux_f (by omega), ux_f (by omega), ux_f (by omega), ux_f (by omega), ux_f (by omega), ux_f (by omega)]
theorem lt_cur (h : cur M v) : cur (ltM M p) v := by
  unfold cur at *
  rw [lt_o (by omega)]
  exact h
theorem bt_cur (h : frm M p v) : cur (btM M p) v := by
  unfold cur btM
  refine ⟨?_, ?_, ?_, ?_⟩
  · rw [ux_j (by decide), ux_j (by decide), ux_j (by decide), ux_s]; exact h.1
  · rw [ux_j (by decide), ux_j (by decide), ux_s]; exact h.2.1
  · rw [ux_j (by decide), ux_s]; exact h.2.2.1
  · rw [ux_s]; exact h.2.2.2
theorem chg_bt {q : Nat} : chg q M (btM M p) := chg_tr (chg_tr (chg_tr (chg_ux (Or.inl ⟨rfl, by omega, by omega⟩)) (chg_ux (Or.inl ⟨rfl, by omega, by omega⟩))) (chg_ux (Or.inl ⟨rfl, by omega, by omega⟩))) (chg_ux (Or.inl ⟨rfl, by omega, by omega⟩))
theorem bt_o {a : Nat} (h : a ≠ 84) : btM M p a = M a := by unfold btM; rw [ux_f h, ux_f h, ux_f h, ux_f h]
theorem chg_frm {q : Nat} (h : p < q) (hc : chg q M M2) (hf : frm M p v) : frm M2 p v := by
  unfold frm at *
  rw [hc 90 p (by omega) (by omega), hc 91 p (by omega) (by omega), hc 92 p (by omega) (by omega), hc 93 p (by omega) (by omega)]
  exact hf
/-- behind judge -/
theorem jg_o {b : Bool} {x : Int32} {a : Nat} (h1 : a ≠ 84) (h2 : a ≠ 94) (h3 : a ≠ 95) : jgM M p b x a = M a := by
  unfold jgM
  rw [ux_f h2]
  split
  · split
    · rw [ux_f h1, ux_f h3]
    · rw [ux_f h3]
  · rfl
theorem jg_94 {b : Bool} {x : Int32} : jgM M p b x 94 p = M 94 p + nI 1 := by unfold jgM; rw [ux_s]
theorem jg_95 {b : Bool} {x : Int32} : jgM M p b x 95 p = if b = true then x else M 95 p := by
  unfold jgM
  rw [ux_a (by decide)]
  cases b with
  | true =>
    rw [if_pos rfl, if_pos rfl]
    split
    · rw [ux_a (by decide), ux_s]
    · rw [ux_s]
  | false => rfl
theorem jg_84 {b : Bool} {x : Int32} {j : Nat} (h : j ≠ 17 ∨ p ≠ 0) : jgM M p b x 84 j = M 84 j := by
  unfold jgM
  rw [ux_a (by decide)]
  split
  · by_cases e : p = 0
    · rw [if_pos e, ux_j (by omega), ux_a (by decide)]
    · rw [if_neg e, ux_a (by decide)]
  · rfl
theorem jg_17 {b : Bool} {x : Int32} : jgM M 0 b x 84 17 = if b = true then M 94 0 else M 84 17 := by
  unfold jgM
  rw [ux_a (by decide)]
  cases b with
  | true => rw [if_pos rfl, if_pos rfl, if_pos rfl, ux_s]
  | false => rfl
theorem chg_jg {b : Bool} {x : Int32} (h : p ≠ 0) : chg p M (jgM M p b x) := by
  unfold jgM
  refine chg_tr (M2 := if b = true then (if p = 0 then ux (ux M 95 p x) 84 17 (M 94 p) else ux M 95 p x) else M) ?_ (chg_ux (Or.inr ⟨by omega, by omega, Nat.le_refl _⟩))
  split
  · exact chg_ux (Or.inr ⟨by omega, by omega, Nat.le_refl _⟩)
  · exact chg_rf
end Play5
