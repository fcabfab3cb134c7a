/-! ===== the small machine's steps as equations, heap and calls ===== -/
def gf (h : ax_H) (a ci j : Nat) : Option Value := match h a with
  | .inr (c, fs) => if c = ci then fs[j]? else none
  | .inl _ => none
def al (h : ax_H) (a : Nat) (x : Int32) : Option Int32 := match h a with
  | .inl (t, len, f) => if t = 0 ∧ ¬ (x < 0 ∨ len ≤ x.toNatClampNeg) then some (f x.toNatClampNeg) else none
  | .inr _ => none
def bl (h : ax_H) (a : Nat) (x : Int32) : Option Int32 := match h a with
  | .inl (t, len, f) => if (t = 1 ∨ t = 2) ∧ ¬ (x < 0 ∨ len ≤ x.toNatClampNeg) then some (f x.toNatClampNeg) else none
  | .inr _ => none
def an (h : ax_H) (a : Nat) : Option Int32 := match h a with
  | .inl (_, len, _) => some (nI len)
  | .inr _ => none
def sa (h : ax_H) (a : Nat) (x v : Int32) : Option ax_H := match h a with
  | .inl (t, len, f) => if t = 0 ∧ 20 ≤ a ∧ ¬ (x < 0 ∨ len ≤ x.toNatClampNeg) then some (ax_up h a (.inl (0, len, upd f x.toNatClampNeg v))) else none
  | .inr _ => none
def sb (h : ax_H) (a : Nat) (x v : Int32) : Option ax_H := match h a with
  | .inl (t, len, f) => if t = 1 ∧ 20 ≤ a ∧ (v = 0 ∨ v = 1) ∧ ¬ (x < 0 ∨ len ≤ x.toNatClampNeg) then some (ax_up h a (.inl (1, len, upd f x.toNatClampNeg v))) else none
  | .inr _ => none
def isC (h : ax_H) (a ci : Nat) : Bool := match h a with
  | .inr (c, _) => decide (c = ci)
  | .inl _ => false
def acp (h : ax_H) (a0 : Nat) (sp : Int32) (a : Nat) (dp m : Int32) : Option ax_H := match h a0, h a with
  | .inl (t0, n0, f), .inl (t1, n1, g) => if t0 = 0 ∧ t1 = 0 ∧ 20 ≤ a0 ∧ 20 ≤ a ∧ ¬ sp < 0 ∧ ¬ dp < 0 ∧ ¬ m < 0 ∧ sp.toNatClampNeg + m.toNatClampNeg ≤ n0 ∧ dp.toNatClampNeg + m.toNatClampNeg ≤ n1 then some (ax_up h a (.inl (0, n1, va_cpy f g sp.toNatClampNeg dp.toNatClampNeg m.toNatClampNeg))) else none
  | _, _ => none
def mxI (x y : Int32) : Int32 := if x < y then y else x
def mnI (x y : Int32) : Int32 := if y < x then y else x
def abI (x : Int32) : Int32 := if 0 ≤ x then x else 0 - x
def ax_ct (d y pc : Nat) (lc r : List Value) (Q : Option Value → Nat → ax_H → Prop) : Option Value → Nat → ax_H → Prop := fun v n h => ax_W d y pc lc (v.toList ++ r) n h Q
theorem ct_s {d y pc : Nat} {lc r : List Value} {Q : Option Value → Nat → ax_H → Prop} {v : Value} {n : Nat} {h : ax_H} : ax_ct d y pc lc r Q (some v) n h = ax_W d y pc lc (v :: r) n h Q := rfl
theorem ct_n {d y pc : Nat} {lc r : List Value} {Q : Option Value → Nat → ax_H → Prop} {n : Nat} {h : ax_H} : ax_ct d y pc lc r Q none n h = ax_W d y pc lc r n h Q := rfl
section AxEqs
variable {d y pc : Nat} {lc st r : List Value} {n : Nat} {h : ax_H} {Q : Option Value → Nat → ax_H → Prop} {i : Instr}
theorem e_none (ha : ax_at y pc = some i) (h0 : ax_st i st = none) (h2 : ax_lc i lc st = none) (h3 : ax_br i pc st = none) (h4 : ax_hp (ax_cl y) (ax_ini y) i st n h = none) (h5 : ax_cv (ax_cl y) i st h = none) (h6 : ax_nv (ax_cl y) i st h = none) (h7 : ax_rv y i st = none) : ax_W d y pc lc st n h Q = False := by
  apply propext
  refine ⟨?_, False.elim⟩
  rintro ⟨g, o, hr, -⟩
  cases g with
  | zero => rw [ax_run] at hr; cases hr
  | succ g =>
    obtain ⟨i2, ha2, hc⟩ := ax_run_inv hr
    rw [ha] at ha2
    cases ha2
    rcases hc with ⟨_, w, _⟩ | ⟨_, _, w, _⟩ | ⟨_, _, _, w, _⟩ | ⟨_, _, _, _, w, _⟩ | ⟨_, _, _, _, _, _, _, _, w, _⟩ | ⟨_, _, _, _, _, _, _, _, w, _⟩ | ⟨_, _, _, _, _, _, _, w, _⟩
    · rw [h0] at w; cases w
    · rw [h2] at w; cases w
    · rw [h3] at w; cases w
    · rw [h4] at w; cases w
    · rw [h5] at w; cases w
    · rw [h6] at w; cases w
    · rw [h7] at w; cases w
theorem e_getf {k a : Nat} (ci j pc1 : Nat) (ha : ax_at y pc = some (.getfield k)) (hf : ax_fld (ax_cl y) k = some (ci, j)) (hp : pc + 3 = pc1) : ax_W d y pc lc (.ref a :: st) n h Q = (match gf h a ci j with
    | some v => ax_W d y pc1 lc (v :: st) n h Q
    | none => False) := by
  subst hp
  have e : ax_getf (ax_cl y) k a st h = (gf h a ci j).map (fun v => v :: st) := by
    unfold ax_getf gf
    rw [hf]
    cases h a with
    | inl x => rfl
    | inr x =>
      obtain ⟨c, fs⟩ := x
      dsimp only
      split
      · cases fs[j]? <;> rfl
      · rfl
  cases hg : gf h a ci j with
  | some v =>
    rw [hg] at e
    exact e_hp (v :: st) n h _ ha rfl rfl rfl (by show (ax_getf _ _ _ _ _).map _ = _; rw [e]; rfl) rfl
  | none =>
    rw [hg] at e
    exact e_none ha rfl rfl rfl (by show (ax_getf _ _ _ _ _).map _ = _; rw [e]; rfl) rfl rfl rfl
theorem e_putI {k a : Nat} {v : Int32} (ci j pc1 : Nat) (ha : ax_at y pc = some (.putfield k)) (hf : ax_fld (ax_cl y) k = some (ci, j)) (hci : ci < 11) (hty : ax_fty ci j = .int) (hfi : ax_fin ci j = false) (hp : pc + 3 = pc1) {h1 : ax_H} (hh : ∀ fs, h a = .inr (ci, fs) → j < fs.length ∧ 20 ≤ a ∧ ax_up h a (.inr (ci, fs.set j (.int v))) = h1) (hc : isC h a ci = true) : ax_W d y pc lc (.int v :: .ref a :: st) n h Q = ax_W d y pc1 lc st n h1 Q := by
  subst hp
  unfold isC at hc
  cases he : h a with
  | inl x => rw [he] at hc; cases hc
  | inr x =>
    obtain ⟨c, fs⟩ := x
    rw [he] at hc
    have hc : c = ci := of_decide_eq_true hc
    subst hc
    obtain ⟨w1, w2, w3⟩ := hh fs he
    refine e_hp st n h1 _ ha rfl rfl rfl ?_ rfl
    show (ax_putf (ax_cl y) (ax_ini y) k a (.int v) h).map _ = _
    unfold ax_putf
    rw [hf, he]
    dsimp only
    rw [if_pos ⟨rfl, hci, w1, w2, by rw [hty]; rfl, by rw [hty]; rfl, Or.inl hfi⟩]
    rw [w3]
    rfl
theorem e_putL {k a : Nat} {v : Int64} (ci j pc1 : Nat) (ha : ax_at y pc = some (.putfield k)) (hf : ax_fld (ax_cl y) k = some (ci, j)) (hci : ci < 11) (hty : ax_fty ci j = .long) (hfi : ax_fin ci j = false) (hp : pc + 3 = pc1) {h1 : ax_H} (hh : ∀ fs, h a = .inr (ci, fs) → j < fs.length ∧ 20 ≤ a ∧ ax_up h a (.inr (ci, fs.set j (.long v))) = h1) (hc : isC h a ci = true) : ax_W d y pc lc (.long v :: .ref a :: st) n h Q = ax_W d y pc1 lc st n h1 Q := by
  subst hp
  unfold isC at hc
  cases he : h a with
  | inl x => rw [he] at hc; cases hc
  | inr x =>
    obtain ⟨c, fs⟩ := x
    rw [he] at hc
    have hc : c = ci := of_decide_eq_true hc
    subst hc
    obtain ⟨w1, w2, w3⟩ := hh fs he
    refine e_hp st n h1 _ ha rfl rfl rfl ?_ rfl
    show (ax_putf (ax_cl y) (ax_ini y) k a (.long v) h).map _ = _
    unfold ax_putf
    rw [hf, he]
    dsimp only
    rw [if_pos ⟨rfl, hci, w1, w2, by rw [hty]; rfl, by rw [hty]; rfl, Or.inl hfi⟩]
    rw [w3]
    rfl
theorem e_putZ {k a : Nat} {v : Int32} (ci j pc1 : Nat) (ha : ax_at y pc = some (.putfield k)) (hf : ax_fld (ax_cl y) k = some (ci, j)) (hci : ci < 11) (hty : ax_fty ci j = .boolean) (hfi : ax_fin ci j = false) (hp : pc + 3 = pc1) {h1 : ax_H} (hv : v = 0 ∨ v = 1) (hh : ∀ fs, h a = .inr (ci, fs) → j < fs.length ∧ 20 ≤ a ∧ ax_up h a (.inr (ci, fs.set j (.int v))) = h1) (hc : isC h a ci = true) : ax_W d y pc lc (.int v :: .ref a :: st) n h Q = ax_W d y pc1 lc st n h1 Q := by
  subst hp
  unfold isC at hc
  cases he : h a with
  | inl x => rw [he] at hc; cases hc
  | inr x =>
    obtain ⟨c, fs⟩ := x
    rw [he] at hc
    have hc : c = ci := of_decide_eq_true hc
    subst hc
    obtain ⟨w1, w2, w3⟩ := hh fs he
    refine e_hp st n h1 _ ha rfl rfl rfl ?_ rfl
    show (ax_putf (ax_cl y) (ax_ini y) k a (.int v) h).map _ = _
    unfold ax_putf
    rw [hf, he]
    dsimp only
    rw [if_pos ⟨rfl, hci, w1, w2, by rw [hty]; rcases hv with rfl | rfl <;> rfl, by rw [hty]; rcases hv with rfl | rfl <;> rfl, Or.inl hfi⟩]
    rw [w3]
    rfl
theorem e_iald {a : Nat} {x : Int32} (pc1 : Nat) (ha : ax_at y pc = some .iaload) (hp : pc + 1 = pc1) : ax_W d y pc lc (.int x :: .ref a :: st) n h Q = (match al h a x with
    | some v => ax_W d y pc1 lc (.int v :: st) n h Q
    | none => False) := by
  subst hp
  have e : ax_hp (ax_cl y) (ax_ini y) .iaload (.int x :: .ref a :: st) n h = (al h a x).map (fun v => (.int v :: st, n, h)) := by
    show (match h a with
      | .inl (t, len, f) => if t = 0 ∧ ¬ (x < 0 ∨ len ≤ x.toNatClampNeg) then some (Value.int (f x.toNatClampNeg) :: st, n, h) else none
      | .inr _ => none) = _
    unfold al
    cases h a with
    | inr x => rfl
    | inl x =>
      obtain ⟨t, len, f⟩ := x
      dsimp only
      split <;> rfl
  cases hg : al h a x with
  | some v => rw [hg] at e; exact e_hp (.int v :: st) n h _ ha rfl rfl rfl e rfl
  | none => rw [hg] at e; exact e_none ha rfl rfl rfl e rfl rfl rfl
theorem e_bald {a : Nat} {x : Int32} (pc1 : Nat) (ha : ax_at y pc = some .baload) (hp : pc + 1 = pc1) : ax_W d y pc lc (.int x :: .ref a :: st) n h Q = (match bl h a x with
    | some v => ax_W d y pc1 lc (.int v :: st) n h Q
    | none => False) := by
  subst hp
  have e : ax_hp (ax_cl y) (ax_ini y) .baload (.int x :: .ref a :: st) n h = (bl h a x).map (fun v => (.int v :: st, n, h)) := by
    show (match h a with
      | .inl (t, len, f) => if (t = 1 ∨ t = 2) ∧ ¬ (x < 0 ∨ len ≤ x.toNatClampNeg) then some (Value.int (f x.toNatClampNeg) :: st, n, h) else none
      | .inr _ => none) = _
    unfold bl
    cases h a with
    | inr x => rfl
    | inl x =>
      obtain ⟨t, len, f⟩ := x
      dsimp only
      split <;> rfl
  cases hg : bl h a x with
  | some v => rw [hg] at e; exact e_hp (.int v :: st) n h _ ha rfl rfl rfl e rfl
  | none => rw [hg] at e; exact e_none ha rfl rfl rfl e rfl rfl rfl
theorem e_alen {a : Nat} (pc1 : Nat) (ha : ax_at y pc = some .arraylength) (hp : pc + 1 = pc1) : ax_W d y pc lc (.ref a :: st) n h Q = (match an h a with
    | some v => ax_W d y pc1 lc (.int v :: st) n h Q
    | none => False) := by
  subst hp
  have e : ax_hp (ax_cl y) (ax_ini y) .arraylength (.ref a :: st) n h = (an h a).map (fun v => (.int v :: st, n, h)) := by
    show (match h a with
      | .inl (_, len, _) => some (Value.int (nI len) :: st, n, h)
      | .inr _ => none) = _
    unfold an
    cases h a with
    | inr x => rfl
    | inl x => rfl
  cases hg : an h a with
  | some v => rw [hg] at e; exact e_hp (.int v :: st) n h _ ha rfl rfl rfl e rfl
  | none => rw [hg] at e; exact e_none ha rfl rfl rfl e rfl rfl rfl
theorem e_iast {a : Nat} {x v : Int32} (pc1 : Nat) (ha : ax_at y pc = some .iastore) (hp : pc + 1 = pc1) : ax_W d y pc lc (.int v :: .int x :: .ref a :: st) n h Q = (match sa h a x v with
    | some h1 => ax_W d y pc1 lc st n h1 Q
    | none => False) := by
  subst hp
  have e : ax_hp (ax_cl y) (ax_ini y) .iastore (.int v :: .int x :: .ref a :: st) n h = (sa h a x v).map (fun h1 => (st, n, h1)) := by
    show (match h a with
      | .inl (t, len, f) => if t = 0 ∧ 20 ≤ a ∧ ¬ (x < 0 ∨ len ≤ x.toNatClampNeg) then some (st, n, ax_up h a (.inl (0, len, upd f x.toNatClampNeg v))) else none
      | .inr _ => none) = _
    unfold sa
    cases h a with
    | inr x => rfl
    | inl x =>
      obtain ⟨t, len, f⟩ := x
      dsimp only
      split <;> rfl
  cases hg : sa h a x v with
  | some h1 => rw [hg] at e; exact e_hp st n h1 _ ha rfl rfl rfl e rfl
  | none => rw [hg] at e; exact e_none ha rfl rfl rfl e rfl rfl rfl
theorem e_bast {a : Nat} {x v : Int32} (pc1 : Nat) (ha : ax_at y pc = some .bastore) (hp : pc + 1 = pc1) : ax_W d y pc lc (.int v :: .int x :: .ref a :: st) n h Q = (match sb h a x v with
    | some h1 => ax_W d y pc1 lc st n h1 Q
    | none => False) := by
  subst hp
  have e : ax_hp (ax_cl y) (ax_ini y) .bastore (.int v :: .int x :: .ref a :: st) n h = (sb h a x v).map (fun h1 => (st, n, h1)) := by
    show (match h a with
      | .inl (t, len, f) => if t = 1 ∧ 20 ≤ a ∧ (v = 0 ∨ v = 1) ∧ ¬ (x < 0 ∨ len ≤ x.toNatClampNeg) then some (st, n, ax_up h a (.inl (1, len, upd f x.toNatClampNeg v))) else none
      | .inr _ => none) = _
    unfold sb
    cases h a with
    | inr x => rfl
    | inl x =>
      obtain ⟨t, len, f⟩ := x
      dsimp only
      split <;> rfl
  cases hg : sb h a x v with
  | some h1 => rw [hg] at e; exact e_hp st n h1 _ ha rfl rfl rfl e rfl
  | none => rw [hg] at e; exact e_none ha rfl rfl rfl e rfl rfl rfl
theorem e_gets {k : Nat} (v : Value) (pc1 : Nat) (ha : ax_at y pc = some (.getstatic k)) (hf : ax_sta (ax_cl y) k = some v) (hp : pc + 3 = pc1) : ax_W d y pc lc st n h Q = ax_W d y pc1 lc (v :: st) n h Q := by
  subst hp
  exact e_hp (v :: st) n h _ ha rfl rfl rfl (by show (ax_sta _ _).map _ = _; rw [hf]; rfl) rfl
theorem e_ldcI {k : Nat} (v : Int32) (pc1 : Nat) (ha : ax_at y pc = some (.ldc k)) (hf : ax_csi (ax_cl y) k = some v) (hp : pc + 2 = pc1) : ax_W d y pc lc st n h Q = ax_W d y pc1 lc (.int v :: st) n h Q := by
  subst hp
  refine e_hp (.int v :: st) n h _ ha rfl rfl rfl ?_ rfl
  show (match ax_csi (ax_cl y) k with
    | some v => some (Value.int v :: st, n, h)
    | none => (ax_str (ax_cl y) k).map (fun a => (Value.ref a :: st, n, h))) = _
  rw [hf]
theorem e_ldcS {k : Nat} (a pc1 : Nat) (ha : ax_at y pc = some (.ldc k)) (hf : ax_csi (ax_cl y) k = none) (hs : ax_str (ax_cl y) k = some a) (hp : pc + 2 = pc1) : ax_W d y pc lc st n h Q = ax_W d y pc1 lc (.ref a :: st) n h Q := by
  subst hp
  refine e_hp (.ref a :: st) n h _ ha rfl rfl rfl ?_ rfl
  show (match ax_csi (ax_cl y) k with
    | some v => some (Value.int v :: st, n, h)
    | none => (ax_str (ax_cl y) k).map (fun a => (Value.ref a :: st, n, h))) = _
  rw [hf, hs]
  rfl
theorem e_ldcW {k : Nat} (v : Int32) (pc1 : Nat) (ha : ax_at y pc = some (.ldc_w k)) (hf : ax_csi (ax_cl y) k = some v) (hp : pc + 3 = pc1) : ax_W d y pc lc st n h Q = ax_W d y pc1 lc (.int v :: st) n h Q := by
  subst hp
  exact e_hp (.int v :: st) n h _ ha rfl rfl rfl (by show (ax_csi _ _).map _ = _; rw [hf]; rfl) rfl
theorem e_ldc2 {k : Nat} (v : Int64) (pc1 : Nat) (ha : ax_at y pc = some (.ldc2_w k)) (hf : ax_csl (ax_cl y) k = some v) (hp : pc + 3 = pc1) : ax_W d y pc lc st n h Q = ax_W d y pc1 lc (.long v :: st) n h Q := by
  subst hp
  exact e_hp (.long v :: st) n h _ ha rfl rfl rfl (by show (ax_csl _ _).map _ = _; rw [hf]; rfl) rfl
theorem e_icmp {off : Int} {x w : Int32} (cnd : Jvm.ClassFile.Cond) (a b : Nat) (ha : ax_at y pc = some (.if_icmp cnd off)) (h0 : 0 ≤ (pc : Int) + off) (hp : ((pc : Int) + off).toNat = a) (hb : pc + 3 = b) : ax_W d y pc lc (.int w :: .int x :: st) n h Q = if ax_cmp cnd x w = true then ax_W d y a lc st n h Q else ax_W d y b lc st n h Q := by
  subst hp; subst hb
  have hb : ax_br (.if_icmp cnd off) pc (.int w :: .int x :: st) = some (if ax_cmp cnd x w then ((pc : Int) + off).toNat else pc + 3, st) := if_pos h0
  rw [e_br st _ ha rfl rfl hb]
  split <;> rfl
theorem e_cond {off : Int} {x : Int32} (cnd : Jvm.ClassFile.Cond) (a b : Nat) (ha : ax_at y pc = some (.ifCond cnd off)) (h0 : 0 ≤ (pc : Int) + off) (hp : ((pc : Int) + off).toNat = a) (hb : pc + 3 = b) : ax_W d y pc lc (.int x :: st) n h Q = if ax_cmp cnd x 0 = true then ax_W d y a lc st n h Q else ax_W d y b lc st n h Q := by
  subst hp; subst hb
  have hb : ax_br (.ifCond cnd off) pc (.int x :: st) = some (if ax_cmp cnd x 0 then ((pc : Int) + off).toNat else pc + 3, st) := if_pos h0
  rw [e_br st _ ha rfl rfl hb]
  split <;> rfl
theorem if_cm {c : Prop} [Decidable c] {α : Sort _} {b : Bool} (h : b = decide c) (x y : α) : (if b = true then x else y) = if c then x else y := by
  subst h
  by_cases hc : c <;> simp [hc]
theorem if_cn {c : Prop} [Decidable c] {α : Sort _} {b : Bool} (h : b = decide (¬ c)) (x y : α) : (if b = true then x else y) = if c then y else x := by
  subst h
  by_cases hc : c <;> simp [hc]
theorem e_go {off : Int} (a : Nat) (ha : ax_at y pc = some (.goto off)) (h0 : 0 ≤ (pc : Int) + off) (hp : ((pc : Int) + off).toNat = a) : ax_W d y pc lc st n h Q = ax_W d y a lc st n h Q := by
  subst hp
  exact e_br st _ ha rfl rfl (if_pos h0)
theorem e_tsw {df lo hi : Int} {offs : Array Int} {x : Int32} (a : Nat) (ha : ax_at y pc = some (.tableswitch df lo hi offs)) (hx : ¬ (x.toInt < lo ∨ hi < x.toInt)) (off : Int) (ho : offs[(x.toInt - lo).toNat]? = some off) (h0 : 0 ≤ (pc : Int) + off) (hp : ((pc : Int) + off).toNat = a) : ax_W d y pc lc (.int x :: st) n h Q = ax_W d y a lc st n h Q := by
  subst hp
  refine e_br st _ ha rfl rfl ?_
  show (if x.toInt < lo ∨ hi < x.toInt then _ else (match offs[(x.toInt - lo).toNat]? with
    | some off => if 0 ≤ (pc : Int) + off then some (((pc : Int) + off).toNat, st) else none
    | none => none)) = _
  rw [if_neg hx, ho]
  exact if_pos h0
theorem e_tsd {df lo hi : Int} {offs : Array Int} {x : Int32} (a : Nat) (ha : ax_at y pc = some (.tableswitch df lo hi offs)) (hx : x.toInt < lo ∨ hi < x.toInt) (h0 : 0 ≤ (pc : Int) + df) (hp : ((pc : Int) + df).toNat = a) : ax_W d y pc lc (.int x :: st) n h Q = ax_W d y a lc st n h Q := by
  subst hp
  refine e_br st _ ha rfl rfl ?_
  show (if x.toInt < lo ∨ hi < x.toInt then (if 0 ≤ (pc : Int) + df then some (((pc : Int) + df).toNat, st) else none) else _) = _
  rw [if_pos hx]
  exact if_pos h0
theorem e_iret {v : Int32} (ha : ax_at y pc = some .ireturn) (hr : ax_rt y = some .int) : ax_W d y pc lc [.int v] n h Q = Q (some (.int v)) n h := by
  refine e_rv _ ha rfl rfl rfl rfl rfl rfl ?_
  show (match ax_rt y with
    | some ty => if narrow ty (Value.int v) = Value.int v then some (some (Value.int v)) else none
    | none => none) = _
  rw [hr]
  exact if_pos rfl
theorem e_tret {v : Int32} {ty : FieldType} (ha : ax_at y pc = some .ireturn) (hr : ax_rt y = some ty) (hn : narrow ty (.int v) = .int v) : ax_W d y pc lc [.int v] n h Q = Q (some (.int v)) n h := by
  refine e_rv _ ha rfl rfl rfl rfl rfl rfl ?_
  show (match ax_rt y with
    | some ty => if narrow ty (Value.int v) = Value.int v then some (some (Value.int v)) else none
    | none => none) = _
  rw [hr]
  exact if_pos hn
theorem e_zret {v : Int32} (ha : ax_at y pc = some .ireturn) (hr : ax_rt y = some .boolean) (hv : v = 0 ∨ v = 1) : ax_W d y pc lc [.int v] n h Q = Q (some (.int v)) n h := e_tret ha hr (by rcases hv with rfl | rfl <;> rfl)
theorem e_lret {v : Int64} (ha : ax_at y pc = some .lreturn) (hr : ax_rt y = some .long) : ax_W d y pc lc [.long v] n h Q = Q (some (.long v)) n h := e_rv _ ha rfl rfl rfl rfl rfl rfl (if_pos hr)
theorem e_vret (ha : ax_at y pc = some .return_) (hr : ax_rt y = none) : ax_W d y pc lc [] n h Q = Q none n h := e_rv _ ha rfl rfl rfl rfl rfl rfl (if_pos hr)
theorem e_aret {a : Nat} {nm : String} (ha : ax_at y pc = some .areturn) (hr : ax_rt y = some (.object nm)) : ax_W d y pc lc [.ref a] n h Q = Q (some (.ref a)) n h := by
  refine e_rv _ ha rfl rfl rfl rfl rfl rfl ?_
  show (match ax_rt y with
    | some (.object _) => some (some (Value.ref a))
    | _ => none) = _
  rw [hr]
theorem e_virt {k b : Nat} {as lc1 : List Value} (z pc1 : Nat) (ha : ax_at y pc = some (.invokevirtual k)) (hm : ax_mth (ax_cl y) k = some z) (hz : z < 226 ∧ ax_sc z = false ∧ ¬ (ax_nm z).name = "<init>") (hp : ax_pop (ax_np z) [] st = some (as, .ref b :: r)) (hr : r.length ≤ 4 ∧ (ax_spread (.ref b :: as)).length ≤ ax_ml z) (he : ax_ent z (.ref b :: as) = lc1) (h1 : pc + 3 = pc1) (hc : isC h b (ax_cl z) = true) : ax_W (d + 1) y pc lc st n h Q = ax_W d z 0 lc1 [] n h (ax_ct (d + 1) y pc1 lc r Q) := by
  unfold isC at hc
  cases hb : h b with
  | inl x => rw [hb] at hc; cases hc
  | inr x =>
    obtain ⟨c, fs⟩ := x
    rw [hb] at hc
    have hc : c = ax_cl z := of_decide_eq_true hc
    subst hc
    refine e_cv z (.ref b :: as) lc1 pc1 ha rfl rfl rfl rfl ?_ he h1
    show (match ax_mth (ax_cl y) k with
      | some z => if z < 226 ∧ ax_sc z = false ∧ ¬ (ax_nm z).name = "<init>" then (match ax_pop (ax_np z) [] st with
        | some (as, .ref b :: r) => (match h b with
          | .inr (ci, _) => if ci = ax_cl z ∧ r.length ≤ 4 ∧ (ax_spread (.ref b :: as)).length ≤ ax_ml z then some (z, Value.ref b :: as, r) else none
          | .inl _ => none)
        | _ => none) else none
      | none => none) = _
    rw [hm]
    dsimp only
    rw [if_pos hz, hp]
    dsimp only
    rw [hb]
    exact if_pos ⟨rfl, hr⟩
theorem e_stat {k : Nat} {as lc1 : List Value} (z pc1 : Nat) (ha : ax_at y pc = some (.invokestatic k)) (hm : ax_mth (ax_cl y) k = some z) (hz : z < 226 ∧ ax_sc z = true) (hp : ax_pop (ax_np z) [] st = some (as, r)) (hr : r.length ≤ 4 ∧ (ax_spread as).length ≤ ax_ml z) (he : ax_ent z as = lc1) (h1 : pc + 3 = pc1) : ax_W (d + 1) y pc lc st n h Q = ax_W d z 0 lc1 [] n h (ax_ct (d + 1) y pc1 lc r Q) := by
  have h4 : ax_hp (ax_cl y) (ax_ini y) (.invokestatic k) st n h = none := rfl
  refine e_cv z as lc1 pc1 ha rfl rfl rfl h4 ?_ he h1
  show (match ax_mth (ax_cl y) k with
    | some z => if z < 226 ∧ ax_sc z = true then (match ax_pop (ax_np z) [] st with
      | some (as, r) => if r.length ≤ 4 ∧ (ax_spread as).length ≤ ax_ml z then some (z, as, r) else none
      | none => none) else none
    | none => none) = _
  rw [hm]
  dsimp only
  rw [if_pos hz, hp]
  exact if_pos hr
theorem e_spec {k b : Nat} {as lc1 : List Value} (z pc1 : Nat) (ha : ax_at y pc = some (.invokespecial k)) (hm : ax_mth (ax_cl y) k = some z) (hz : z < 226 ∧ ax_sc z = false ∧ (ax_nm z).name = "<init>") (hp : ax_pop (ax_np z) [] st = some (as, .ref b :: r)) (hr : r.length ≤ 4 ∧ (ax_spread (.ref b :: as)).length ≤ ax_ml z) (he : ax_ent z (.ref b :: as) = lc1) (h1 : pc + 3 = pc1) : ax_W (d + 1) y pc lc st n h Q = ax_W d z 0 lc1 [] n h (ax_ct (d + 1) y pc1 lc r Q) := by
  have h4 : ax_hp (ax_cl y) (ax_ini y) (.invokespecial k) st n h = none := rfl
  refine e_cv z (.ref b :: as) lc1 pc1 ha rfl rfl rfl h4 ?_ he h1
  show (match ax_mth (ax_cl y) k with
    | some z => if z < 226 ∧ ax_sc z = false ∧ (ax_nm z).name = "<init>" then (match ax_pop (ax_np z) [] st with
      | some (as, .ref b :: r) => if r.length ≤ 4 ∧ (ax_spread (.ref b :: as)).length ≤ ax_ml z then some (z, Value.ref b :: as, r) else none
      | _ => none) else none
    | none => none) = _
  rw [hm]
  dsimp only
  rw [if_pos hz, hp]
  exact if_pos hr
theorem ax_cv_far {c k z : Nat} {st : List Value} {h : ax_H} (hm : ax_mth c k = some z) (hz : ¬ z < 226) : ax_cv c (.invokestatic k) st h = none ∧ ax_cv c (.invokespecial k) st h = none := by
  constructor
  · show (match ax_mth c k with
      | some z => if z < 226 ∧ ax_sc z = true then _ else none
      | none => none) = _
    rw [hm]
    exact if_neg (fun q => hz q.1)
  · show (match ax_mth c k with
      | some z => if z < 226 ∧ ax_sc z = false ∧ (ax_nm z).name = "<init>" then _ else none
      | none => none) = _
    rw [hm]
    exact if_neg (fun q => hz q.1)
theorem e_obj {k b pc1 : Nat} (ha : ax_at y pc = some (.invokespecial k)) (hm : ax_mth (ax_cl y) k = some 900) (hr : r.length ≤ 4) (h1 : pc + 3 = pc1) : ax_W (d + 1) y pc lc (.ref b :: r) n h Q = ax_W (d + 1) y pc1 lc r n h Q := by
  refine e_nv r h pc1 ha rfl rfl rfl rfl (ax_cv_far hm (by omega)).2 ?_ h1
  show (if ax_mth (ax_cl y) k = some 900 then (if r.length ≤ 4 then some (r, h) else none) else none) = _
  rw [if_pos hm, if_pos hr]
theorem e_max {k pc1 : Nat} {x w : Int32} (ha : ax_at y pc = some (.invokestatic k)) (hm : ax_mth (ax_cl y) k = some 902) (hr : r.length ≤ 4) (h1 : pc + 3 = pc1) : ax_W (d + 1) y pc lc (.int w :: .int x :: r) n h Q = ax_W (d + 1) y pc1 lc (.int (mxI x w) :: r) n h Q := by
  refine e_nv _ h pc1 ha rfl rfl rfl rfl (ax_cv_far hm (by omega)).1 ?_ h1
  unfold ax_nv
  dsimp only
  rw [hm]
  rw [if_neg (by decide), if_pos rfl, if_pos hr]
  rfl
theorem e_min {k pc1 : Nat} {x w : Int32} (ha : ax_at y pc = some (.invokestatic k)) (hm : ax_mth (ax_cl y) k = some 903) (hr : r.length ≤ 4) (h1 : pc + 3 = pc1) : ax_W (d + 1) y pc lc (.int w :: .int x :: r) n h Q = ax_W (d + 1) y pc1 lc (.int (mnI x w) :: r) n h Q := by
  refine e_nv _ h pc1 ha rfl rfl rfl rfl (ax_cv_far hm (by omega)).1 ?_ h1
  unfold ax_nv
  dsimp only
  rw [hm]
  rw [if_neg (by decide), if_neg (by decide), if_pos rfl, if_pos hr]
  rfl
theorem e_abs {k pc1 : Nat} {x : Int32} (ha : ax_at y pc = some (.invokestatic k)) (hm : ax_mth (ax_cl y) k = some 904) (hr : r.length ≤ 4) (h1 : pc + 3 = pc1) : ax_W (d + 1) y pc lc (.int x :: r) n h Q = ax_W (d + 1) y pc1 lc (.int (abI x) :: r) n h Q := by
  refine e_nv _ h pc1 ha rfl rfl rfl rfl (ax_cv_far hm (by omega)).1 ?_ h1
  unfold ax_nv
  dsimp only
  rw [hm]
  rw [if_neg (by decide), if_neg (by decide), if_neg (by decide), if_pos rfl, if_pos hr]
  rfl
theorem e_acp {k pc1 a0 a : Nat} {sp dp m : Int32} {h1 : ax_H} (ha : ax_at y pc = some (.invokestatic k)) (hm : ax_mth (ax_cl y) k = some 901) (hr : r.length ≤ 4) (hp : pc + 3 = pc1) (hh : acp h a0 sp a dp m = some h1) : ax_W (d + 1) y pc lc (.int m :: .int dp :: .ref a :: .int sp :: .ref a0 :: r) n h Q = ax_W (d + 1) y pc1 lc r n h1 Q := by
  refine e_nv _ h1 pc1 ha rfl rfl rfl rfl (ax_cv_far hm (by omega)).1 ?_ hp
  unfold ax_nv
  dsimp only
  rw [hm]
  rw [if_pos rfl]
  unfold acp at hh
  cases e0 : h a0 with
  | inr q => rw [e0] at hh; cases hh
  | inl q =>
    obtain ⟨t0, n0, f⟩ := q
    cases e1 : h a with
    | inr q => rw [e0, e1] at hh; cases hh
    | inl q =>
      obtain ⟨t1, n1, g⟩ := q
      rw [e0, e1] at hh
      dsimp only at hh ⊢
      split at hh
      · rename_i w
        obtain ⟨w1, w2, w3, w4, w5⟩ := w
        rw [if_pos ⟨w1, w2, w3, w4, hr, w5⟩]
        cases hh
        rfl
      · cases hh
end AxEqs
