/-! ===== the small machine, step by step ===== -/
theorem ax_run_st {g d y pc : Nat} {lc st st1 : List Value} {n : Nat} {h : ax_H} {i : Instr} (ha : ax_at y pc = some i) (h1 : ax_st i st = some st1) : ax_run (g + 1) d y pc lc st n h = ax_run g d y (pc + ax_len i) lc st1 n h := by
  rw [ax_run, ha]; simp only [h1]
theorem ax_run_lc {g d y pc : Nat} {lc st : List Value} {q : List Value × List Value} {n : Nat} {h : ax_H} {i : Instr} (ha : ax_at y pc = some i) (h0 : ax_st i st = none) (h1 : ax_lc i lc st = some q) : ax_run (g + 1) d y pc lc st n h = ax_run g d y (pc + ax_len i) q.1 q.2 n h := by
  rw [ax_run, ha]; simp only [h0, h1]
theorem ax_run_br {g d y pc : Nat} {lc st : List Value} {q : Nat × List Value} {n : Nat} {h : ax_H} {i : Instr} (ha : ax_at y pc = some i) (h0 : ax_st i st = none) (h2 : ax_lc i lc st = none) (h1 : ax_br i pc st = some q) : ax_run (g + 1) d y pc lc st n h = ax_run g d y q.1 lc q.2 n h := by
  rw [ax_run, ha]; simp only [h0, h2, h1]
theorem ax_run_hp {g d y pc : Nat} {lc st : List Value} {q : List Value × Nat × ax_H} {n : Nat} {h : ax_H} {i : Instr} (ha : ax_at y pc = some i) (h0 : ax_st i st = none) (h2 : ax_lc i lc st = none) (h3 : ax_br i pc st = none) (h1 : ax_hp (ax_cl y) (ax_ini y) i st n h = some q) : ax_run (g + 1) d y pc lc st n h = ax_run g d y (pc + ax_len i) lc q.1 q.2.1 q.2.2 := by
  rw [ax_run, ha]; simp only [h0, h2, h3, h1]
theorem ax_run_cv {g d y pc : Nat} {lc st : List Value} {q : Nat × List Value × List Value} {n : Nat} {h : ax_H} {i : Instr} (ha : ax_at y pc = some i) (h0 : ax_st i st = none) (h2 : ax_lc i lc st = none) (h3 : ax_br i pc st = none) (h4 : ax_hp (ax_cl y) (ax_ini y) i st n h = none) (h1 : ax_cv (ax_cl y) i st h = some q) :
    ax_run (g + 1) (d + 1) y pc lc st n h = (match ax_run g d q.1 0 (ax_ent q.1 q.2.1) [] n h with
      | none => none
      | some o => ax_run g (d + 1) y (pc + 3) lc (o.1.toList ++ q.2.2) o.2.1 o.2.2) := by
  rw [ax_run, ha]; simp only [h0, h2, h3, h4, h1]; cases ax_run g d q.1 0 (ax_ent q.1 q.2.1) [] n h <;> rfl
theorem ax_run_nv {g d y pc : Nat} {lc st : List Value} {q : List Value × ax_H} {n : Nat} {h : ax_H} {i : Instr} (ha : ax_at y pc = some i) (h0 : ax_st i st = none) (h2 : ax_lc i lc st = none) (h3 : ax_br i pc st = none) (h4 : ax_hp (ax_cl y) (ax_ini y) i st n h = none) (h5 : ax_cv (ax_cl y) i st h = none) (h1 : ax_nv (ax_cl y) i st h = some q) :
    ax_run (g + 1) (d + 1) y pc lc st n h = ax_run g (d + 1) y (pc + 3) lc q.1 n q.2 := by
  rw [ax_run, ha]; simp only [h0, h2, h3, h4, h5, h1]; rfl
theorem ax_run_rv {g d y pc : Nat} {lc st : List Value} {v : Option Value} {n : Nat} {h : ax_H} {i : Instr} (ha : ax_at y pc = some i) (h0 : ax_st i st = none) (h2 : ax_lc i lc st = none) (h3 : ax_br i pc st = none) (h4 : ax_hp (ax_cl y) (ax_ini y) i st n h = none) (h5 : ax_cv (ax_cl y) i st h = none) (h6 : ax_nv (ax_cl y) i st h = none) (h1 : ax_rv y i st = some v) :
    ax_run (g + 1) d y pc lc st n h = some (v, n, h) := by
  rw [ax_run, ha]; simp only [h0, h2, h3, h4, h5, h6, h1]; rfl
/-- what a step may be -/
theorem ax_run_inv {g d y pc : Nat} {lc st : List Value} {n : Nat} {h : ax_H} {o : ax_R} (hr : ax_run (g + 1) d y pc lc st n h = some o) : ∃ i, ax_at y pc = some i ∧
    ((∃ st1, ax_st i st = some st1 ∧ ax_run g d y (pc + ax_len i) lc st1 n h = some o) ∨
     (ax_st i st = none ∧ ∃ q, ax_lc i lc st = some q ∧ ax_run g d y (pc + ax_len i) q.1 q.2 n h = some o) ∨
     (ax_st i st = none ∧ ax_lc i lc st = none ∧ ∃ q, ax_br i pc st = some q ∧ ax_run g d y q.1 lc q.2 n h = some o) ∨
     (ax_st i st = none ∧ ax_lc i lc st = none ∧ ax_br i pc st = none ∧ ∃ q, ax_hp (ax_cl y) (ax_ini y) i st n h = some q ∧ ax_run g d y (pc + ax_len i) lc q.1 q.2.1 q.2.2 = some o) ∨
     (ax_st i st = none ∧ ax_lc i lc st = none ∧ ax_br i pc st = none ∧ ax_hp (ax_cl y) (ax_ini y) i st n h = none ∧ ∃ q d1 o1, d = d1 + 1 ∧ ax_cv (ax_cl y) i st h = some q ∧ ax_run g d1 q.1 0 (ax_ent q.1 q.2.1) [] n h = some o1 ∧ ax_run g d y (pc + 3) lc (o1.1.toList ++ q.2.2) o1.2.1 o1.2.2 = some o) ∨
     (ax_st i st = none ∧ ax_lc i lc st = none ∧ ax_br i pc st = none ∧ ax_hp (ax_cl y) (ax_ini y) i st n h = none ∧ ax_cv (ax_cl y) i st h = none ∧ ∃ q d1, d = d1 + 1 ∧ ax_nv (ax_cl y) i st h = some q ∧ ax_run g d y (pc + 3) lc q.1 n q.2 = some o) ∨
     (ax_st i st = none ∧ ax_lc i lc st = none ∧ ax_br i pc st = none ∧ ax_hp (ax_cl y) (ax_ini y) i st n h = none ∧ ax_cv (ax_cl y) i st h = none ∧ ax_nv (ax_cl y) i st h = none ∧ ∃ v, ax_rv y i st = some v ∧ o = (v, n, h))) := by
  cases ha : ax_at y pc with
  | none => rw [ax_run, ha] at hr; simp at hr
  | some i =>
    refine ⟨i, rfl, ?_⟩
    cases h0 : ax_st i st with
    | some st1 => rw [ax_run_st ha h0] at hr; exact Or.inl ⟨st1, rfl, hr⟩
    | none =>
    refine Or.inr ?_
    cases h1 : ax_lc i lc st with
    | some q => rw [ax_run_lc ha h0 h1] at hr; exact Or.inl ⟨rfl, q, rfl, hr⟩
    | none =>
    refine Or.inr ?_
    cases h2 : ax_br i pc st with
    | some q => rw [ax_run_br ha h0 h1 h2] at hr; exact Or.inl ⟨rfl, rfl, q, rfl, hr⟩
    | none =>
    refine Or.inr ?_
    cases h3 : ax_hp (ax_cl y) (ax_ini y) i st n h with
    | some q => rw [ax_run_hp ha h0 h1 h2 h3] at hr; exact Or.inl ⟨rfl, rfl, rfl, q, rfl, hr⟩
    | none =>
    refine Or.inr ?_
    cases h4 : ax_cv (ax_cl y) i st h with
    | some q =>
      refine Or.inl ⟨rfl, rfl, rfl, rfl, q, ?_⟩
      cases d with
      | zero => rw [ax_run, ha] at hr; simp only [h0, h1, h2, h3, h4] at hr; simp at hr
      | succ d1 =>
        rw [ax_run_cv ha h0 h1 h2 h3 h4] at hr
        cases h5 : ax_run g d1 q.1 0 (ax_ent q.1 q.2.1) [] n h with
        | none => rw [h5] at hr; simp at hr
        | some o1 => rw [h5] at hr; exact ⟨d1, o1, rfl, rfl, h5, hr⟩
    | none =>
    refine Or.inr ?_
    cases h5 : ax_nv (ax_cl y) i st h with
    | some q =>
      refine Or.inl ⟨rfl, rfl, rfl, rfl, rfl, q, ?_⟩
      cases d with
      | zero => rw [ax_run, ha] at hr; simp only [h0, h1, h2, h3, h4, h5] at hr; simp at hr
      | succ d1 => rw [ax_run_nv ha h0 h1 h2 h3 h4 h5] at hr; exact ⟨d1, rfl, rfl, hr⟩
    | none =>
    refine Or.inr ⟨rfl, rfl, rfl, rfl, rfl, rfl, ?_⟩
    cases h6 : ax_rv y i st with
    | none => rw [ax_run, ha] at hr; simp only [h0, h1, h2, h3, h4, h5, h6] at hr; simp at hr
    | some v => rw [ax_run_rv ha h0 h1 h2 h3 h4 h5 h6] at hr; exact ⟨v, rfl, (Option.some.inj hr).symm⟩
theorem ax_mono : ∀ (g : Nat) (d y pc : Nat) (lc st : List Value) (n : Nat) (h : ax_H) (o : ax_R), ax_run g d y pc lc st n h = some o → ax_run (g + 1) d y pc lc st n h = some o := by
  intro g
  induction g with
  | zero => intro d y pc lc st n h o hr; rw [ax_run] at hr; cases hr
  | succ g ih =>
    intro d y pc lc st n h o hr
    obtain ⟨i, ha, hc⟩ := ax_run_inv hr
    rcases hc with ⟨st1, h1, hr⟩ | ⟨h0, q, h1, hr⟩ | ⟨h0, h1, q, h2, hr⟩ | ⟨h0, h1, h2, q, h3, hr⟩ | ⟨h0, h1, h2, h3, q, d1, o1, rfl, h4, hr1, hr⟩ | ⟨h0, h1, h2, h3, h4, q, d1, rfl, h5, hr⟩ | ⟨h0, h1, h2, h3, h4, h5, v, h6, rfl⟩
    · rw [ax_run_st ha h1]; exact ih _ _ _ _ _ _ _ _ hr
    · rw [ax_run_lc ha h0 h1]; exact ih _ _ _ _ _ _ _ _ hr
    · rw [ax_run_br ha h0 h1 h2]; exact ih _ _ _ _ _ _ _ _ hr
    · rw [ax_run_hp ha h0 h1 h2 h3]; exact ih _ _ _ _ _ _ _ _ hr
    · rw [ax_run_cv ha h0 h1 h2 h3 h4, ih _ _ _ _ _ _ _ _ hr1]; exact ih _ _ _ _ _ _ _ _ hr
    · rw [ax_run_nv ha h0 h1 h2 h3 h4 h5]; exact ih _ _ _ _ _ _ _ _ hr
    · exact ax_run_rv ha h0 h1 h2 h3 h4 h5 h6
theorem ax_monoN {g k : Nat} (hk : g ≤ k) {d y pc : Nat} {lc st : List Value} {n : Nat} {h : ax_H} {o : ax_R} (hr : ax_run g d y pc lc st n h = some o) : ax_run k d y pc lc st n h = some o := by
  induction hk with
  | refl => exact hr
  | step _ ih => exact ax_mono _ _ _ _ _ _ _ _ _ ih
theorem ax_hp_n {c : Nat} {ini : Bool} {i : Instr} {st : List Value} {n : Nat} {h : ax_H} {q : List Value × Nat × ax_H} (hh : ax_hp c ini i st n h = some q) : q.2.1 = n ∨ q.2.1 = n + 1 := by
  unfold ax_hp at hh
  split at hh <;> (try split at hh) <;> (try split at hh) <;> (try split at hh) <;> (try simp only [Option.map_eq_some_iff] at hh) <;> first
    | (obtain ⟨x, -, rfl⟩ := hh; first | exact Or.inl rfl | exact Or.inr rfl)
    | (cases hh <;> first | exact Or.inl rfl | exact Or.inr rfl)
theorem ax_grow : ∀ (g : Nat) (d y pc : Nat) (lc st : List Value) (n : Nat) (h : ax_H) (o : ax_R), ax_run g d y pc lc st n h = some o → n ≤ o.2.1 := by
  intro g
  induction g with
  | zero => intro d y pc lc st n h o hr; rw [ax_run] at hr; cases hr
  | succ g ih =>
    intro d y pc lc st n h o hr
    obtain ⟨i, ha, hc⟩ := ax_run_inv hr
    rcases hc with ⟨st1, h1, hr⟩ | ⟨h0, q, h1, hr⟩ | ⟨h0, h1, q, h2, hr⟩ | ⟨h0, h1, h2, q, h3, hr⟩ | ⟨h0, h1, h2, h3, q, d1, o1, rfl, h4, hr1, hr⟩ | ⟨h0, h1, h2, h3, h4, q, d1, rfl, h5, hr⟩ | ⟨h0, h1, h2, h3, h4, h5, v, h6, rfl⟩
    · exact ih _ _ _ _ _ _ _ _ hr
    · exact ih _ _ _ _ _ _ _ _ hr
    · exact ih _ _ _ _ _ _ _ _ hr
    · have := ih _ _ _ _ _ _ _ _ hr
      rcases ax_hp_n h3 with e | e <;> omega
    · exact Nat.le_trans (ih _ _ _ _ _ _ _ _ hr1) (ih _ _ _ _ _ _ _ _ hr)
    · exact ih _ _ _ _ _ _ _ _ hr
    · exact Nat.le_refl _
/-! ===== the steps as equations of ax_W ===== -/
theorem ax_W_of {d y pc d2 y2 pc2 : Nat} {lc st lc2 st2 : List Value} {n n2 : Nat} {h h2 : ax_H} {Q : Option Value → Nat → ax_H → Prop} (hs : ∀ g, ax_run (g + 1) d y pc lc st n h = ax_run g d2 y2 pc2 lc2 st2 n2 h2) : ax_W d y pc lc st n h Q = ax_W d2 y2 pc2 lc2 st2 n2 h2 Q := by
  apply propext
  constructor
  · rintro ⟨g, o, hr, hq⟩
    cases g with
    | zero => rw [ax_run] at hr; cases hr
    | succ g => exact ⟨g, o, by rw [← hs]; exact hr, hq⟩
  · rintro ⟨g, o, hr, hq⟩
    exact ⟨g + 1, o, by rw [hs]; exact hr, hq⟩
theorem ax_W_if {c : Prop} [Decidable c] {d y a b : Nat} {lc st : List Value} {n : Nat} {h : ax_H} {Q : Option Value → Nat → ax_H → Prop} : ax_W d y (if c then a else b) lc st n h Q = ((c → ax_W d y a lc st n h Q) ∧ (¬ c → ax_W d y b lc st n h Q)) := by
  by_cases hc : c
  · simp [hc]
  · simp [hc]
section AxEq
variable {d y pc : Nat} {lc st r : List Value} {n : Nat} {h : ax_H} {Q : Option Value → Nat → ax_H → Prop} {i : Instr}
theorem e_st (st1 : List Value) (pc1 : Nat) (ha : ax_at y pc = some i) (h1 : ax_st i st = some st1) (hp : pc + ax_len i = pc1) : ax_W d y pc lc st n h Q = ax_W d y pc1 lc st1 n h Q := by
  subst hp; exact ax_W_of (fun g => ax_run_st ha h1)
theorem e_lc (lc1 st1 : List Value) (pc1 : Nat) (ha : ax_at y pc = some i) (h0 : ax_st i st = none) (h1 : ax_lc i lc st = some (lc1, st1)) (hp : pc + ax_len i = pc1) : ax_W d y pc lc st n h Q = ax_W d y pc1 lc1 st1 n h Q := by
  subst hp; exact ax_W_of (fun g => ax_run_lc ha h0 h1)
theorem e_br (st1 : List Value) (pc1 : Nat) (ha : ax_at y pc = some i) (h0 : ax_st i st = none) (h2 : ax_lc i lc st = none) (h1 : ax_br i pc st = some (pc1, st1)) : ax_W d y pc lc st n h Q = ax_W d y pc1 lc st1 n h Q := ax_W_of (fun g => ax_run_br ha h0 h2 h1)
theorem e_if {c : Prop} [Decidable c] (st1 : List Value) (a b : Nat) (ha : ax_at y pc = some i) (h0 : ax_st i st = none) (h2 : ax_lc i lc st = none) (h1 : ax_br i pc st = some (if c then a else b, st1)) : ax_W d y pc lc st n h Q = ((c → ax_W d y a lc st1 n h Q) ∧ (¬ c → ax_W d y b lc st1 n h Q)) := by
  rw [e_br st1 _ ha h0 h2 h1, ax_W_if]
theorem e_hp (st1 : List Value) (n1 : Nat) (h1 : ax_H) (pc1 : Nat) (ha : ax_at y pc = some i) (h0 : ax_st i st = none) (h2 : ax_lc i lc st = none) (h3 : ax_br i pc st = none) (h4 : ax_hp (ax_cl y) (ax_ini y) i st n h = some (st1, n1, h1)) (hp : pc + ax_len i = pc1) : ax_W d y pc lc st n h Q = ax_W d y pc1 lc st1 n1 h1 Q := by
  subst hp; exact ax_W_of (fun g => ax_run_hp ha h0 h2 h3 h4)
theorem e_cv (z : Nat) (as lc1 : List Value) (pc1 : Nat) (ha : ax_at y pc = some i) (h0 : ax_st i st = none) (h2 : ax_lc i lc st = none) (h3 : ax_br i pc st = none) (h4 : ax_hp (ax_cl y) (ax_ini y) i st n h = none) (h5 : ax_cv (ax_cl y) i st h = some (z, as, r)) (he : ax_ent z as = lc1) (hp : pc + 3 = pc1) :
    ax_W (d + 1) y pc lc st n h Q = ax_W d z 0 lc1 [] n h (fun v n1 h1 => ax_W (d + 1) y pc1 lc (v.toList ++ r) n1 h1 Q) := by
  subst hp; subst he
  apply propext
  constructor
  · rintro ⟨g, o, hr, hq⟩
    cases g with
    | zero => rw [ax_run] at hr; cases hr
    | succ g =>
      rw [ax_run_cv ha h0 h2 h3 h4 h5] at hr
      cases h6 : ax_run g d z 0 (ax_ent z as) [] n h with
      | none => rw [h6] at hr; cases hr
      | some o1 => rw [h6] at hr; exact ⟨g, o1, h6, g, o, hr, hq⟩
  · rintro ⟨g, o1, h6, g2, o, hr, hq⟩
    refine ⟨(g + g2) + 1, o, ?_, hq⟩
    rw [ax_run_cv ha h0 h2 h3 h4 h5]
    dsimp only
    rw [ax_monoN (Nat.le_add_right g g2) h6]
    exact ax_monoN (Nat.le_add_left g2 g) hr
theorem e_nv (st1 : List Value) (h1 : ax_H) (pc1 : Nat) (ha : ax_at y pc = some i) (h0 : ax_st i st = none) (h2 : ax_lc i lc st = none) (h3 : ax_br i pc st = none) (h4 : ax_hp (ax_cl y) (ax_ini y) i st n h = none) (h5 : ax_cv (ax_cl y) i st h = none) (h6 : ax_nv (ax_cl y) i st h = some (st1, h1)) (hp : pc + 3 = pc1) : ax_W (d + 1) y pc lc st n h Q = ax_W (d + 1) y pc1 lc st1 n h1 Q := by
  subst hp; exact ax_W_of (fun g => ax_run_nv ha h0 h2 h3 h4 h5 h6)
theorem e_rv (v : Option Value) (ha : ax_at y pc = some i) (h0 : ax_st i st = none) (h2 : ax_lc i lc st = none) (h3 : ax_br i pc st = none) (h4 : ax_hp (ax_cl y) (ax_ini y) i st n h = none) (h5 : ax_cv (ax_cl y) i st h = none) (h6 : ax_nv (ax_cl y) i st h = none) (h7 : ax_rv y i st = some v) : ax_W d y pc lc st n h Q = Q v n h := by
  apply propext
  constructor
  · rintro ⟨g, o, hr, hq⟩
    cases g with
    | zero => rw [ax_run] at hr; cases hr
    | succ g => rw [ax_run_rv ha h0 h2 h3 h4 h5 h6 h7] at hr; cases hr; exact hq
  · intro hq
    exact ⟨1, (v, n, h), ax_run_rv ha h0 h2 h3 h4 h5 h6 h7, hq⟩
end AxEq
theorem ax_W_mono {d y pc : Nat} {lc st : List Value} {n : Nat} {h : ax_H} {Q Q2 : Option Value → Nat → ax_H → Prop} (k : ax_W d y pc lc st n h Q) (hq : ∀ v n1 h1, Q v n1 h1 → Q2 v n1 h1) : ax_W d y pc lc st n h Q2 := by
  obtain ⟨g, o, a, b⟩ := k
  exact ⟨g, o, a, hq _ _ _ b⟩
