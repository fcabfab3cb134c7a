/-! ===== play: pure ===== -/
/-- the better of a and what dish k of the row brings, for dishes below n -/
def gmx (A : ax_A0) (s sv : Nat) (c : Nat → Int) : Nat → Int → Int
  | 0, a => a
  | k + 1, a => if mayA A k s sv = true then max (gmx A s sv c k a) (c k) else gmx A s sv c k a
/-- what the mover can gain -/
def gG (A : ax_A0) : Nat → Nat → Nat → Option Nat → Int
  | 0, _, _, _ => 0
  | t + 1, s, sv, l => gmx A s sv (fun k => (dsN A k (pop sv) l : Int) - gG A t (1 - s) (addB sv k) (some k)) (ndA A) (- gG A t (1 - s) sv l)
section Play
variable {A : ax_A0} {s sv : Nat} {c : Nat → Int}
theorem gmx_t {k : Nat} {a : Int} (h : mayA A k s sv = true) : gmx A s sv c (k + 1) a = max (gmx A s sv c k a) (c k) := by
  show (if _ then _ else _) = _
  rw [if_pos h]
theorem gmx_f {k : Nat} {a : Int} (h : mayA A k s sv = false) : gmx A s sv c (k + 1) a = gmx A s sv c k a := by
  show (if _ then _ else _) = _
  rw [if_neg (by rw [h]; decide)]
theorem gmx_max {b : Int} : ∀ k a, gmx A s sv c k (max a b) = max (gmx A s sv c k a) b := by
  intro k
  induction k with
  | zero => intro a; rfl
  | succ k ih =>
    intro a
    have h := ih a
    cases e : mayA A k s sv with
    | true => rw [gmx_t e, gmx_t e, h]; omega
    | false => rw [gmx_f e, gmx_f e, h]
theorem gmx_ge : ∀ k a, a ≤ gmx A s sv c k a := by
  intro k
  induction k with
  | zero => intro a; exact Int.le_refl _
  | succ k ih =>
    intro a
    have h := ih a
    cases e : mayA A k s sv with
    | true => rw [gmx_t e]; omega
    | false => rw [gmx_f e]; exact h
theorem gmx_le {B : Int} : ∀ k a, a ≤ B → (∀ i, i < k → mayA A i s sv = true → c i ≤ B) → gmx A s sv c k a ≤ B := by
  intro k
  induction k with
  | zero => intro a h _; exact h
  | succ k ih =>
    intro a h hc
    have h1 := ih a h (fun i hi => hc i (by omega))
    cases e : mayA A k s sv with
    | true => rw [gmx_t e]; have := hc k (by omega) e; omega
    | false => rw [gmx_f e]; exact h1
theorem gmx_mono : ∀ m k a, gmx A s sv c k a ≤ gmx A s sv c (k + m) a := by
  intro m
  induction m with
  | zero => intro k a; exact Int.le_refl _
  | succ m ih =>
    intro k a
    have := ih k a
    rw [show k + (m + 1) = (k + m) + 1 from rfl]
    cases e : mayA A (k + m) s sv with
    | true => rw [gmx_t e]; omega
    | false => rw [gmx_f e]; exact this
theorem gG_bd (hW : WF A) : ∀ (t s sv : Nat) (l : Option Nat), sv < 256 → (∀ j, l = some j → j < ndA A) → -(24 * (t : Int)) ≤ gG A t s sv l ∧ gG A t s sv l ≤ 24 * (t : Int) := by
  have n8 := hW.1.2
  intro t
  induction t with
  | zero => intro s sv l _ _; exact ⟨show -(24 * ((0 : Nat) : Int)) ≤ 0 by decide, show (0 : Int) ≤ 24 * ((0 : Nat) : Int) by decide⟩
  | succ t ih =>
    intro s sv l hv hl
    have hn := ih (1 - s) sv l hv hl
    refine ⟨?_, ?_⟩
    · refine Int.le_trans ?_ (gmx_ge (ndA A) _)
      omega
    · refine gmx_le (ndA A) _ (by omega) (fun i hi hm => ?_)
      have lt := mayA_lt hm
      have h1 := ih (1 - s) (addB sv i) (some i) (bt_lt _ hv _ (by omega)) (fun j hj => by cases hj; exact lt.1)
      have h2 := dsN_le hW lt.1 (bt_pop8 sv) hl
      omega
end Play
