/-! ===== the pure picture: a court as the reference's row of numbers has it ===== -/
def pop (s : Nat) : Nat := s % 2 + s / 2 % 2 + s / 4 % 2 + s / 8 % 2 + s / 16 % 2 + s / 32 % 2 + s / 64 % 2 + s / 128 % 2
def hasB (s d : Nat) : Bool := decide (s / 2 ^ d % 2 = 1)
def addB (s d : Nat) : Nat := if s / 2 ^ d % 2 = 1 then s else s + 2 ^ d
theorem bt_has : ∀ s, s < 256 → ∀ d, d < 8 → nI s >>> (nI d &&& 31) &&& nI 1 = bI (hasB s d) := by decide +kernel
theorem bt_add : ∀ s, s < 256 → ∀ d, d < 8 → nI s ||| nI 1 <<< (nI d &&& 31) = nI (addB s d) := by decide +kernel
theorem bt_lt : ∀ s, s < 256 → ∀ d, d < 8 → addB s d < 256 := by decide +kernel
theorem bt_pop : ∀ s, s < 256 → ∀ d, d < 8 → hasB s d = false → pop (addB s d) = pop s + 1 := by decide +kernel
theorem bt_pop2 : ∀ s, s < 256 → ∀ d, d < 8 → hasB s d = false → pop s ≤ 7 := by decide +kernel
theorem bt_pop8 (s : Nat) : pop s ≤ 8 := by unfold pop; omega
theorem bt_has2 : ∀ s, s < 256 → ∀ d, d < 8 → ∀ e, e < 8 → hasB (addB s d) e = (decide (e = d) || hasB s e) := by decide +kernel
def bcI (x0 : Int32) : Int32 :=
  let x1 := x0 - ((x0.toUInt32 >>> ((nI 1).toUInt32 &&& Int32.toUInt32 31)).toInt32 &&& nI 1431655765)
  let x2 := (x1 &&& nI 858993459) + ((x1.toUInt32 >>> ((nI 2).toUInt32 &&& Int32.toUInt32 31)).toInt32 &&& nI 858993459)
  let x3 := (x2 + (x2.toUInt32 >>> ((nI 4).toUInt32 &&& Int32.toUInt32 31)).toInt32) &&& nI 252645135
  let x4 := x3 + (x3.toUInt32 >>> ((nI 8).toUInt32 &&& Int32.toUInt32 31)).toInt32
  let x5 := x4 + (x4.toUInt32 >>> ((nI 16).toUInt32 &&& Int32.toUInt32 31)).toInt32
  x5 &&& nI 63
theorem bc_pop : ∀ s, s < 256 → bcI (nI s) = nI (pop s) := by decide +kernel
theorem c218 {d n : Nat} {h : ax_H} {Q : Option Value → Nat → ax_H → Prop} {s : Nat} (hs : s < 256) : ax_W d 218 0 [.int (nI s)] [] n h Q = Q (some (.int (nI (pop s)))) n h := by
  simp only [↓s218_0, ↓s218_1, ↓s218_2, ↓s218_3, ↓s218_4, ↓s218_7, ↓s218_8, ↓s218_9, ↓s218_10, ↓s218_11, ↓s218_14, ↓s218_15, ↓s218_16, ↓s218_17, ↓s218_18, ↓s218_21, ↓s218_22, ↓s218_23, ↓s218_24, ↓s218_25, ↓s218_26, ↓s218_27, ↓s218_28, ↓s218_29, ↓s218_32, ↓s218_33, ↓s218_34, ↓s218_35, ↓s218_36, ↓s218_38, ↓s218_39, ↓s218_40, ↓s218_41, ↓s218_42, ↓s218_43, ↓s218_45, ↓s218_46, ↓s218_47, ↓s218_48, ↓s218_49, ↓s218_51, ↓s218_52]
  exact congrArg (fun v => Q (some (.int v)) n h) (bc_pop s hs)
/-! numbers below nothing too -/
def iI (z : Int) : Int32 := Int32.ofInt z
theorem iI_to (x : Int32) : iI x.toInt = x := Int32.ofInt_toInt x
theorem iI_add (a b : Int) : iI a + iI b = iI (a + b) := (Int32.ofInt_add a b).symm
theorem iI_neg (a : Int) : - iI a = iI (-a) := (Int32.ofInt_neg a).symm
theorem iI_sub (a b : Int) : iI a - iI b = iI (a - b) := (Int32.ofInt_sub a b).symm
theorem iI_mul (a b : Int) : iI a * iI b = iI (a * b) := (Int32.ofInt_mul a b).symm
theorem iI_nat (k : Nat) : nI k = iI (k : Int) := (Int32.ofInt_eq_ofNat (n := k)).symm
theorem iI_int {a : Int} (h1 : -2147483648 ≤ a) (h2 : a < 2147483648) : (iI a).toInt = a := Int32.toInt_ofInt_of_le (by simpa using h1) (by simpa using h2)
theorem iI_lt {a b : Int} (ha1 : -2147483648 ≤ a) (ha2 : a < 2147483648) (hb1 : -2147483648 ≤ b) (hb2 : b < 2147483648) : iI a < iI b ↔ a < b := by rw [Int32.lt_iff_toInt_lt, iI_int ha1 ha2, iI_int hb1 hb2]
theorem iI_le {a b : Int} (ha1 : -2147483648 ≤ a) (ha2 : a < 2147483648) (hb1 : -2147483648 ≤ b) (hb2 : b < 2147483648) : iI a ≤ iI b ↔ a ≤ b := by rw [Int32.le_iff_toInt_le, iI_int ha1 ha2, iI_int hb1 hb2]
theorem iI_eq {a b : Int} (ha1 : -2147483648 ≤ a) (ha2 : a < 2147483648) (hb1 : -2147483648 ≤ b) (hb2 : b < 2147483648) : iI a = iI b ↔ a = b := by
  constructor
  · intro h
    have := congrArg Int32.toInt h
    rwa [iI_int ha1 ha2, iI_int hb1 hb2] at this
  · intro h; rw [h]
theorem iI_m1 : (-1 : Int32) = iI (-1) := by decide
theorem tsI_i (s : Nat) (hs : s ≤ 1) (z : Int) : tsI (nI s) (iI z) = iI (if s = 0 then z else -z) := by
  unfold tsI
  rcases (show s = 0 ∨ s = 1 by omega) with rfl | rfl
  · rw [if_pos rfl, if_pos rfl]
  · rw [if_neg (by decide), if_neg (by decide), iI_neg]
def vdZ (z : Int) : Nat := if 0 < z then 0 else if z < 0 then 1 else 2
theorem vdI_i {z : Int} (h1 : -2147483648 ≤ z) (h2 : z < 2147483648) : vdI (iI z) = nI (vdZ z) := by
  unfold vdI vdZ
  have e0 : nI 0 = iI 0 := by decide
  have l1 := iI_le (a := z) (b := 0) h1 h2 (by omega) (by omega)
  have l2 := iI_le (a := 0) (b := z) (by omega) (by omega) h1 h2
  rw [← e0] at l1 l2
  by_cases c1 : iI z ≤ nI 0
  · rw [if_pos c1]
    by_cases c2 : nI 0 ≤ iI z
    · rw [if_pos c2, if_neg (by have := l1.mp c1; omega), if_neg (by have := l2.mp c2; omega)]
    · rw [if_neg c2, if_neg (by have := l1.mp c1; omega), if_pos (by have := l1.mp c1; have : ¬ 0 ≤ z := fun q => c2 (l2.mpr q); omega)]
  · rw [if_neg c1, if_pos (by have : ¬ z ≤ 0 := fun q => c1 (l1.mpr q); omega)]
/-! the court -/
abbrev ax_A0 : Type := Nat → Int32
def ndA (A : ax_A0) : Nat := tn (A 0)
def huA (A : ax_A0) : Nat := tn (A 1)
def leA (A : ax_A0) : Int := (A 2).toInt
def ncA (A : ax_A0) : Nat := tn (A 3)
def nmA (A : ax_A0) : Nat := tn (A 4)
def nrA (A : ax_A0) : Nat := tn (A 5)
def kdA (A : ax_A0) (d : Nat) : Nat := tn (A (6 + 5 * d))
def taA (A : ax_A0) (d : Nat) : Nat := tn (A (7 + 5 * d))
def foA (A : ax_A0) (d : Nat) : Nat := tn (A (8 + 5 * d))
def buA (A : ax_A0) (d : Nat) : Nat := tn (A (9 + 5 * d))
def coA (A : ax_A0) (d : Nat) : Nat := tn (A (10 + 5 * d))
def bkA (A : ax_A0) (a b : Nat) : Int := (A (46 + 5 * a + b)).toInt
def cdA (A : ax_A0) (i : Nat) : Nat := tn (A (71 + 4 * i))
def mdA (A : ax_A0) (i : Nat) : Nat := tn (A (107 + i))
def svA (A : ax_A0) : Nat → Nat
  | 0 => 0
  | k + 1 => addB (svA A k) (cdA A k)
def lsA (A : ax_A0) : Nat → Option Nat
  | 0 => none
  | k + 1 => some (cdA A k)
def mnA (A : ax_A0) : Nat → Nat
  | 0 => 0
  | k + 1 => addB (mnA A k) (mdA A k)
def lsI : Option Nat → Int32
  | none => -1
  | some k => nI k
def pwN (k f n hg : Nat) (same other : Bool) : Nat :=
  if k = 1 then (if same then 2 * f else f) else if k = 2 then f + n else if k = 3 then f + hg else if k = 4 then (if same then 2 * f else f) + (if other then 3 else 0) else if k = 5 then (if 4 ≤ n then f + n else 0) else f
/-- what a dish does, n ahead of it, the last one l -/
def dsN (A : ax_A0) (d n : Nat) (l : Option Nat) : Nat := match l with
  | none => pwN (kdA A d) (foA A d) n (huA A - n) false false
  | some j => ((pwN (kdA A d) (foA A d) n (huA A - n) (decide (taA A d = taA A j)) (decide (¬ coA A d = coA A j)) : Int) + bkA A (taA A j) (taA A d)).toNat
def sg (s : Nat) (x : Nat) : Int := if s = 0 then (x : Int) else -(x : Int)
abbrev ax_V : Type := Nat × Option Nat × Int
/-- side s serves dish d -/
def evS (A : ax_A0) (s d : Nat) (v : ax_V) : ax_V := (addB v.1 d, some d, v.2.2 + sg s (dsN A d (pop v.1) v.2.1))
def mayA (A : ax_A0) (d s sv : Nat) : Bool := decide (d < ndA A) && !hasB sv d && (decide (coA A d = 2) || decide (coA A d = s))
def nowA (A : ax_A0) : ax_V := (svA A (ncA A), lsA A (ncA A), leA A)
/-- the numbers are as told -/
def WF (A : ax_A0) : Prop :=
  (A 0 = nI (ndA A) ∧ ndA A ≤ 8) ∧ (A 1 = nI (huA A) ∧ huA A ≤ 9) ∧ (A 3 = nI (ncA A) ∧ ncA A ≤ 8) ∧ (A 4 = nI (nmA A) ∧ nmA A ≤ 8) ∧ (A 5 = nI (nrA A) ∧ nrA A ≤ 6) ∧
  (-(30 + 24 * (ncA A : Int)) ≤ leA A ∧ leA A ≤ 30 + 24 * (ncA A : Int)) ∧
  (∀ d, d < ndA A → (A (6 + 5 * d) = nI (kdA A d) ∧ kdA A d ≤ 5) ∧ (A (7 + 5 * d) = nI (taA A d) ∧ taA A d ≤ 4) ∧ (A (8 + 5 * d) = nI (foA A d) ∧ 1 ≤ foA A d ∧ foA A d ≤ 9) ∧ (A (9 + 5 * d) = nI (buA A d) ∧ buA A d ≤ 9) ∧ (A (10 + 5 * d) = nI (coA A d) ∧ coA A d ≤ 2)) ∧
  (∀ a b, a < 5 → b < 5 → -3 ≤ bkA A a b ∧ bkA A a b ≤ 3) ∧
  (∀ i, i < ncA A → (A (71 + 4 * i) = nI (cdA A i) ∧ cdA A i < ndA A) ∧ (A (72 + 4 * i) = nI 0 ∨ A (72 + 4 * i) = nI 1) ∧ (-(30 + 24 * (i : Int)) ≤ (A (74 + 4 * i)).toInt ∧ (A (74 + 4 * i)).toInt ≤ 30 + 24 * (i : Int))) ∧
  (∀ k, k ≤ ncA A → pop (svA A k) = k) ∧
  (∀ i, i < nmA A → A (107 + i) = nI (mdA A i) ∧ mdA A i < ndA A) ∧ (∀ k, k ≤ nmA A → pop (mnA A k) = k) ∧
  (∀ r, r < nrA A → (A (115 + 11 * r) = nI 0 ∨ A (115 + 11 * r) = nI 1) ∧ (A (116 + 11 * r) = nI (tn (A (116 + 11 * r))) ∧ tn (A (116 + 11 * r)) ≤ 2) ∧ (A (117 + 11 * r) = nI (tn (A (117 + 11 * r))) ∧ tn (A (117 + 11 * r)) ≤ 8) ∧ ∀ k, k < tn (A (117 + 11 * r)) → A (118 + 11 * r + k) = nI (tn (A (118 + 11 * r + k))) ∧ tn (A (118 + 11 * r + k)) < ndA A)
/-- the class's court at c is the court A -/
def RC (M : ax_M) (c : Nat) (A : ax_A0) : Prop :=
  M (c + 1) 3 = A 0 ∧ M (c + 3) 3 = nI 5 ∧ M (c + 5) 3 = A 3 ∧ M (c + 7) 3 = A 4 ∧ M (c + 9) 3 = A 5 ∧ M c 5 = A 1 ∧ M c 6 = A 2 ∧
  (∀ i, i < 5 * ndA A → M (c + 2) i = A (6 + i)) ∧ (∀ i, i < 25 → M (c + 4) i = A (46 + i)) ∧ (∀ i, i < 4 * ncA A → M (c + 6) i = A (71 + i)) ∧ (∀ i, i < nmA A → M (c + 8) i = A (107 + i)) ∧
  (∀ r w, r < nrA A → w < 3 + tn (A (117 + 11 * r)) → M (c + 10) (11 * r + w) = A (115 + 11 * r + w))
theorem svA_lt {A : ax_A0} (hW : WF A) : ∀ k, k ≤ ncA A → svA A k < 256 := by
  obtain ⟨⟨-, w0⟩, -, -, -, -, -, -, -, w8, -⟩ := hW
  intro k
  induction k with
  | zero => intro _; exact (by decide : 0 < 256)
  | succ k ih =>
    intro hk
    have := w8 k (by omega)
    exact bt_lt _ (ih (by omega)) _ (by omega)
theorem mnA_lt {A : ax_A0} (hW : WF A) : ∀ k, k ≤ nmA A → mnA A k < 256 := by
  obtain ⟨⟨-, w0⟩, -, -, -, -, -, -, -, -, -, w8, -⟩ := hW
  intro k
  induction k with
  | zero => intro _; exact (by decide : 0 < 256)
  | succ k ih =>
    intro hk
    have := w8 k (by omega)
    exact bt_lt _ (ih (by omega)) _ (by omega)
theorem pwN_le {k f n hg : Nat} {a b : Bool} (hf : f ≤ 9) (hn : n ≤ 8) (hh : hg ≤ 9) : pwN k f n hg a b ≤ 21 := by
  unfold pwN
  split
  · split <;> omega
  · split
    · omega
    · split
      · omega
      · split
        · split <;> split <;> omega
        · split
          · split <;> omega
          · omega
theorem dsN_le {A : ax_A0} (hW : WF A) {d n : Nat} {l : Option Nat} (hd : d < ndA A) (hn : n ≤ 8) (hl : ∀ j, l = some j → j < ndA A) : dsN A d n l ≤ 24 := by
  obtain ⟨-, ⟨-, w1⟩, -, -, -, -, w6, w7, -⟩ := hW
  obtain ⟨-, ⟨-, t1⟩, ⟨-, -, f1⟩, -⟩ := w6 d hd
  unfold dsN
  cases l with
  | none => exact Nat.le_trans (pwN_le f1 hn (by omega)) (by decide)
  | some j =>
    obtain ⟨-, ⟨-, t2⟩, -⟩ := w6 j (hl j rfl)
    have h1 := pwN_le (k := kdA A d) (a := decide (taA A d = taA A j)) (b := decide (¬ coA A d = coA A j)) f1 hn (show huA A - n ≤ 9 by omega)
    have h2 := w7 (taA A j) (taA A d) (by omega) (by omega)
    dsimp only
    omega
