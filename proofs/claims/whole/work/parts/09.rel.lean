/-! ===== the small machine's state and the machine's own: places, values, cells, locals ===== -/
/-- where the new cells begin, where the old ones lie, a value that nobody looks at, the classes, the array classes, the old cells -/
abbrev ax_P : Type := Nat × (Nat → Nat) × Value × va_G × (Nat → ClassId) × ax_H
abbrev ax_B (P : ax_P) : Nat := P.1
abbrev ax_D (P : ax_P) : va_G := P.2.2.2.1
abbrev ax_dA (P : ax_P) : Nat → ClassId := P.2.2.2.2.1
abbrev ax_FE (P : ax_P) : ax_H := P.2.2.2.2.2
def ax_ad (P : ax_P) (a : Nat) : Nat := if a < 20 then P.2.1 a else ax_B P + (a - 20)
def ax_tr (P : ax_P) (v : Value) : Value := match v with
  | .ref a => .ref (ax_ad P a)
  | .retAddr _ => P.2.2.1
  | v => v
def ax_toE (P : ax_P) (e : ax_E) : va_E := match e with
  | .inl (t, len, f) => .inl (ax_dA P t, len, .inl f)
  | .inr (ci, fs) => .inr (ci, fs.map (ax_tr P))
def ax_ws (P : ax_P) (n : Nat) (h : ax_H) : va_W := (List.range n).map (fun k => (ax_B P + k, ax_toE P (h (k + 20))))
abbrev ax_A (P : ax_P) : Nat → Prop := fun q => ax_B P ≤ q
abbrev ax_tys (P : ax_P) : List (ClassId × FieldType) := [(ax_dA P 0, .int), (ax_dA P 1, .boolean)]
def ax_ty (t : Nat) : FieldType := if t = 0 then .int else if t = 1 then .boolean else .byte
def ax_Rel (P : ax_P) (n : Nat) (h : ax_H) (H : Heap) : Prop :=
  va_P (ax_D P) vwCl (ax_ws P n h) H ∧ H.size = ax_B P + n ∧ (∀ k, n ≤ k → h (k + 20) = ax_dead) ∧ (∀ k, k < 20 → h k = ax_FE P k) ∧ ∀ (k t len : Nat) (f : Nat → Int32), h (k + 20) = .inl (t, len, f) → t < 2
def ax_K (P : ax_P) (U : State) : Prop :=
  va_K (ax_D P) vwCl (ax_tys P) U ∧ (∀ w ∈ ax_N, va_Nw w U) ∧
  (∀ (k t len : Nat) (f : Nat → Int32), k < 20 → ax_FE P k = .inl (t, len, f) → va_T (ax_ty t) (P.2.1 k) len (fun j => .int (f j)) (ax_A P) U U.heap) ∧
  (∀ (k ci : Nat) (fs : List Value), k < 20 → ax_FE P k = .inr (ci, fs) → (ci = 99 ∨ (ci = 12 ∧ ∃ v : Nat, v < 20 ∧ fs = [.ref v, .int 0] ∧ va_O "java/lang/String" (P.2.1 k) (ax_A P) U U.heap ∧ va_OF "java/lang/String" "value" "[B" (.ref (P.2.1 v)) (P.2.1 k) (ax_A P) U U.heap ∧ va_OF "java/lang/String" "coder" "B" (.int 0) (P.2.1 k) (ax_A P) U U.heap))) ∧
  (∀ q ∈ ax_stas, va_Z q.2.2.2.1 q.2.2.2.2.1 q.2.2.2.2.2.1 (ax_tr P q.2.2.1) (ax_A P) U U.heap) ∧
  (∀ q ∈ ax_strs, vk_R (ax_cn q.1) q.2.1 q.2.2.1 (ax_ad P q.2.2.2) U) ∧ P.2.2.1.category = 1 ∧ ax_B P ≤ U.heap.size
theorem ax_K.next {P : ax_P} {s U : State} {H : Heap} {locs : List Loc} (hK : ax_K P s) (hS : va_S (ax_A P) s.heap H locs) (hU : U.heap = H) (hW : s.WarmedH U.vm) : ax_K P U := by
  obtain ⟨k1, k2, k3, k4, k5, k6, k7, k8⟩ := hK
  subst hU
  have hv := hW.alike
  refine ⟨va_K.moved hv k1, fun w hw => ?_, fun k t len f hk he => (va_T.moved hv (k3 k t len f hk he)).kept hS.2.1, fun k ci fs hk he => ?_, fun q hq => (va_Z.moved hv (k5 q hq)).kept hS.2.1, fun q hq => vk_R.warm hW (k6 q hq), k7, Nat.le_trans k8 hS.1⟩
  · have h1 := k2 w hw
    have h2 := (List.mem_filter.mp hw).2
    cases w <;> first | exact va_Nw.warmF hW h1 | exact va_Nw.warmM hW h1 | (simp [ax_isN] at h2)
  · rcases k4 k ci fs hk he with e | ⟨e, v, hv1, e1, a1, a2, a3⟩
    · exact Or.inl e
    · exact Or.inr ⟨e, v, hv1, e1, (va_O.moved hv a1).kept hS.2.1, (va_OF.moved hv a2).kept hS.2.1, (va_OF.moved hv a3).kept hS.2.1⟩
theorem ax_tr_cat {P : ax_P} (hf : P.2.2.1.category = 1) (v : Value) : (ax_tr P v).category = v.category := by
  cases v <;> first | rfl | exact hf
theorem ax_ws_get {P : ax_P} {n : Nat} {h : ax_H} {k : Nat} (hk : k < n) : (ax_ws P n h)[k]? = some (ax_B P + k, ax_toE P (h (k + 20))) := by
  simp [ax_ws, List.getElem?_range hk]
theorem ax_ws_D {P : ax_P} {n : Nat} {h : ax_H} : va_D (ax_A P) (ax_ws P n h) := by
  have key : ∀ (i : Nat) (q : Nat × va_E), (ax_ws P n h)[i]? = some q → q.1 = ax_B P + i := by
    intro i q hq
    have hi : i < n := by
      have := (List.getElem?_eq_some_iff.mp hq).1
      simpa [ax_ws] using this
    rw [ax_ws_get hi] at hq
    cases hq
    rfl
  refine ⟨fun i j p q hi hj e => ?_, fun k q hk => ?_⟩
  · have := key i p hi
    have := key j q hj
    omega
  · show ax_B P ≤ q.1
    rw [key k q hk]
    omega
theorem ax_ws_set {P : ax_P} {n : Nat} {h : ax_H} {k : Nat} (hk : k < n) (e : ax_E) : (ax_ws P n h).set k (ax_B P + k, ax_toE P e) = ax_ws P n (ax_up h (k + 20) e) := by
  apply List.ext_getElem?
  intro i
  by_cases hi : i < n
  · rw [ax_ws_get hi]
    by_cases e1 : i = k
    · subst e1
      rw [List.getElem?_set_self (by simpa [ax_ws] using hi)]
      simp [ax_up]
    · rw [List.getElem?_set_ne (Ne.symm e1), ax_ws_get hi]
      simp [ax_up, e1]
  · rw [List.getElem?_eq_none (by simp [ax_ws]; omega), List.getElem?_eq_none (by simp [ax_ws]; omega)]
theorem ax_ws_push {P : ax_P} {n : Nat} {h : ax_H} (e : ax_E) : ax_ws P n h ++ [(ax_B P + n, ax_toE P e)] = ax_ws P (n + 1) (ax_up h (n + 20) e) := by
  unfold ax_ws
  rw [List.range_succ, List.map_append]
  congr 1
  · apply List.map_congr_left
    intro k hk
    have := List.mem_range.mp hk
    simp [ax_up, show ¬ k = n by omega]
  · simp [ax_up]
theorem ax_ad_own {P : ax_P} {a : Nat} (h : 20 ≤ a) : ax_ad P a = ax_B P + (a - 20) := by
  unfold ax_ad; rw [if_neg (by omega)]
theorem ax_ad_old {P : ax_P} {a : Nat} (h : a < 20) : ax_ad P a = P.2.1 a := by
  unfold ax_ad; rw [if_pos h]
/-- a cell of the small machine that is its own: where it lies -/
theorem ax_Rel.own {P : ax_P} {n : Nat} {h : ax_H} {H : Heap} (hR : ax_Rel P n h H) {a : Nat} (ha : 20 ≤ a) (hd : h a ≠ ax_dead) : a - 20 < n ∧ (ax_ws P n h)[a - 20]? = some (ax_ad P a, ax_toE P (h a)) := by
  have h1 : a - 20 < n := by
    rcases Nat.lt_or_ge (a - 20) n with q | q
    · exact q
    · exact absurd (by have := hR.2.2.1 (a - 20) q; rwa [show a - 20 + 20 = a by omega] at this) hd
  refine ⟨h1, ?_⟩
  rw [ax_ws_get h1, ax_ad_own ha, show a - 20 + 20 = a by omega]
theorem ax_Rel.up {P : ax_P} {n : Nat} {h : ax_H} {H H1 : Heap} (hR : ax_Rel P n h H) {a : Nat} (ha : 20 ≤ a) (hd : h a ≠ ax_dead) {e : ax_E} (hP : va_P (ax_D P) vwCl ((ax_ws P n h).set (a - 20) (ax_ad P a, ax_toE P e)) H1) (hz : H1.size = H.size) (ht : ∀ (t len : Nat) (f : Nat → Int32), e = .inl (t, len, f) → t < 2) : ax_Rel P n (ax_up h a e) H1 := by
  obtain ⟨h1, -⟩ := hR.own ha hd
  refine ⟨?_, by rw [hz]; exact hR.2.1, fun k hk => ?_, fun k hk => ?_, fun k t len f he => ?_⟩
  · rw [ax_ad_own ha, ax_ws_set h1, show a - 20 + 20 = a by omega] at hP
    exact hP
  · simp only [ax_up]; rw [if_neg (by omega)]; exact hR.2.2.1 k hk
  · simp only [ax_up]; rw [if_neg (by omega)]; exact hR.2.2.2.1 k hk
  · simp only [ax_up] at he
    split at he
    · exact ht t len f he
    · exact hR.2.2.2.2 k t len f he
/-- an array of the small machine, old or new: what the machine has there -/
theorem ax_Rel.arr {P : ax_P} {n : Nat} {h : ax_H} {s : State} {H : Heap} {locs : List Loc} (hR : ax_Rel P n h H) (hK : ax_K P s) (hS : va_S (ax_A P) s.heap H locs) {a t len : Nat} {f : Nat → Int32} (he : h a = .inl (t, len, f)) :
    ∃ cell : Cell, H[ax_ad P a]? = some cell ∧ s.isArrayOf cell (ax_ty t) ∧ cell.vm ≠ .unknown ∧ len ≤ cell.slots.size ∧ cell.slots.size.toInt32 = nI len ∧ ∀ j, j < len → cell.slots[j]? = some (.int (f j)) := by
  by_cases ha : a < 20
  · have h1 : ax_FE P a = .inl (t, len, f) := (hR.2.2.2.1 a ha).symm.trans he
    obtain ⟨cell, c1, c2, c3, c4, c5, c6, c7⟩ := hK.2.2.1 a t len f ha h1
    refine ⟨cell, ?_, c2, c3, c4, c5, c6⟩
    rw [ax_ad_old ha, hS.2.1 _ (Array.getElem?_eq_some_iff.mp c1).1 c7]
    exact c1
  · have ha : 20 ≤ a := by omega
    have h2 := hR.own ha (by rw [he]; exact fun q => by cases q)
    have ht : t < 2 := hR.2.2.2.2 (a - 20) t len f (by rw [show a - 20 + 20 = a by omega]; exact he)
    have h3 := hR.1 _ _ h2.2
    rw [he] at h3
    have h3 : H[ax_ad P a]? = some (vp_cell (ax_dA P t) (len, .inl f)) := h3
    have h4 : ArrOfT s (ax_dA P t) (ax_ty t) := by
      rcases (show t = 0 ∨ t = 1 by omega) with rfl | rfl
      · exact (hK.1.2 0 _ rfl).1
      · exact (hK.1.2 1 _ rfl).1
    refine ⟨_, h3, h4 len (fun j => .int (f j)), (fun q => by cases q), ?_, ?_, ?_⟩
    · show len ≤ (arrV _ _ _).slots.size
      rw [arrV_size]
      exact Nat.le_refl _
    · show (arrV _ _ _).slots.size.toInt32 = _
      rw [arrV_size]
      rfl
    · intro j hj
      show (arrV _ _ _).slots[j]? = _
      rw [arrV_read _ _ hj]
/-! locals -/
def ax_asc (P : ax_P) : Nat → List Value → List (Nat × Value)
  | _, [] => []
  | i, v :: l => if v = ax_dm then ax_asc P (i + 1) l else (i, ax_tr P v) :: ax_asc P (i + 1) l
theorem ax_asc_mem {P : ax_P} : ∀ (lc : List Value) (i : Nat) (q : Nat × Value), q ∈ ax_asc P i lc ↔ ∃ (j : Nat) (w : Value), lc[j]? = some w ∧ w ≠ ax_dm ∧ q = (i + j, ax_tr P w) := by
  intro lc
  induction lc with
  | nil => intro i q; simp [ax_asc]
  | cons v l ih =>
    intro i q
    unfold ax_asc
    by_cases hv : v = ax_dm
    · rw [if_pos hv, ih]
      constructor
      · rintro ⟨j, w, h1, h2, rfl⟩
        exact ⟨j + 1, w, by simpa using h1, h2, by rw [show i + 1 + j = i + (j + 1) by omega]⟩
      · rintro ⟨j, w, h1, h2, rfl⟩
        cases j with
        | zero => simp at h1; exact absurd (h1 ▸ hv) h2
        | succ j => exact ⟨j, w, by simpa using h1, h2, by rw [show i + 1 + j = i + (j + 1) by omega]⟩
    · rw [if_neg hv, List.mem_cons, ih]
      constructor
      · rintro (rfl | ⟨j, w, h1, h2, rfl⟩)
        · exact ⟨0, v, by simp, hv, rfl⟩
        · exact ⟨j + 1, w, by simpa using h1, h2, by rw [show i + 1 + j = i + (j + 1) by omega]⟩
      · rintro ⟨j, w, h1, h2, rfl⟩
        cases j with
        | zero => simp at h1; subst h1; exact Or.inl rfl
        | succ j => exact Or.inr ⟨j, w, by simpa using h1, h2, by rw [show i + 1 + j = i + (j + 1) by omega]⟩
theorem ax_put_len : ∀ (lc : List Value) (k : Nat) (v : Value), (ax_put lc k v).length = lc.length := by
  intro lc
  induction lc with
  | nil => intro k v; rfl
  | cons w l ih =>
    intro k v
    cases k with
    | zero =>
      unfold ax_put
      split
      · cases l <;> simp
      · rfl
    | succ k => unfold ax_put; simp [ih]
theorem ax_put_get : ∀ (lc : List Value) (k : Nat) (v : Value) (j : Nat) (w : Value), (ax_put lc k v)[j]? = some w → w ≠ ax_dm → (j = k ∧ w = v) ∨ (j ≠ k ∧ lc[j]? = some w ∧ ¬ (j + 1 = k ∧ w.category = 2) ∧ (v.category = 2 → j ≠ k + 1)) := by
  intro lc
  induction lc with
  | nil => intro k v j w h; simp [ax_put] at h
  | cons x l ih =>
    intro k v j w h hw
    cases k with
    | zero =>
      cases j with
      | zero => simp [ax_put] at h; exact Or.inl ⟨rfl, h.symm⟩
      | succ j =>
        refine Or.inr ⟨by omega, ?_⟩
        unfold ax_put at h
        rw [List.getElem?_cons_succ] at h ⊢
        split at h
        · cases l with
          | nil => simp at h
          | cons a l =>
            cases j with
            | zero => simp at h; exact absurd h.symm hw
            | succ j => exact ⟨by simpa using h, by omega, fun _ => by omega⟩
        · rename_i hc
          exact ⟨h, by omega, fun q => absurd q hc⟩
    | succ k =>
      unfold ax_put at h
      cases j with
      | zero =>
        rw [List.getElem?_cons_zero] at h
        refine Or.inr ⟨by omega, ?_⟩
        split at h
        · simp at h; exact absurd h.symm hw
        · rename_i hc
          have e : x = w := Option.some.inj h
          subst e
          exact ⟨rfl, fun q => hc ⟨by omega, q.2⟩, fun _ => by omega⟩
      | succ j =>
        rw [List.getElem?_cons_succ] at h
        rcases ih k v j w h hw with ⟨a, b⟩ | ⟨a, b, c, d⟩
        · exact Or.inl ⟨by omega, b⟩
        · exact Or.inr ⟨by omega, by rw [List.getElem?_cons_succ]; exact b, fun q => c ⟨by omega, q.2⟩, fun q => by have := d q; omega⟩
theorem ax_lv_sub {ls : Array Slot} {nL : Nat} {l l2 : List (Nat × Value)} (h : lv_has ls nL l) (hs : ∀ q ∈ l2, q ∈ l) : lv_has ls nL l2 := ⟨h.1, h.2.1, fun q hq => h.2.2 q (hs q hq)⟩
theorem ax_put1 {P : ax_P} (hf : P.2.2.1.category = 1) {lc : List Value} {k : Nat} {v : Value} : ∀ q ∈ ax_asc P 0 (ax_put lc k v), q ∈ (k, ax_tr P v) :: (ax_asc P 0 lc).filter (fun q => !(q.1 == k) && !(q.1 + 1 == k && q.2.category == 2)) := by
  intro q hq
  obtain ⟨j, w, h1, h2, rfl⟩ := (ax_asc_mem _ _ _).mp hq
  rcases ax_put_get _ _ _ _ _ h1 h2 with ⟨rfl, rfl⟩ | ⟨a, b, c, -⟩
  · simp
  · refine List.mem_cons_of_mem _ (List.mem_filter.mpr ⟨(ax_asc_mem _ _ _).mpr ⟨j, w, b, h2, rfl⟩, ?_⟩)
    simp only [Nat.zero_add, ax_tr_cat hf, Bool.and_eq_true, Bool.not_eq_true', beq_eq_false_iff_ne, ne_eq, Bool.and_eq_false_iff]
    refine ⟨a, ?_⟩
    by_cases e1 : j + 1 = k
    · exact Or.inr (fun e2 => c ⟨e1, e2⟩)
    · exact Or.inl e1
theorem ax_put2 {P : ax_P} (hf : P.2.2.1.category = 1) {lc : List Value} {k : Nat} {v : Value} (hv : v.category = 2) : ∀ q ∈ ax_asc P 0 (ax_put lc k v), q ∈ (k, ax_tr P v) :: (ax_asc P 0 lc).filter (fun q => !(q.1 == k) && (!(q.1 == k + 1) && !(q.1 + 1 == k && q.2.category == 2))) := by
  intro q hq
  obtain ⟨j, w, h1, h2, rfl⟩ := (ax_asc_mem _ _ _).mp hq
  rcases ax_put_get _ _ _ _ _ h1 h2 with ⟨rfl, rfl⟩ | ⟨a, b, c, d⟩
  · simp
  · refine List.mem_cons_of_mem _ (List.mem_filter.mpr ⟨(ax_asc_mem _ _ _).mpr ⟨j, w, b, h2, rfl⟩, ?_⟩)
    simp only [Nat.zero_add, ax_tr_cat hf, Bool.and_eq_true, Bool.not_eq_true', beq_eq_false_iff_ne, ne_eq, Bool.and_eq_false_iff]
    refine ⟨a, d hv, ?_⟩
    by_cases e1 : j + 1 = k
    · exact Or.inr (fun e2 => c ⟨e1, e2⟩)
    · exact Or.inl e1
theorem ax_lget {P : ax_P} {ls : Array Slot} {nL : Nat} {lc : List Value} (h : lv_has ls nL (ax_asc P 0 lc)) {k : Nat} {w : Value} (hk : lc[k]? = some w) (hw : w ≠ ax_dm) : ls[k]? = some (.val (ax_tr P w)) := h.2.2 (k, ax_tr P w) ((ax_asc_mem _ _ _).mpr ⟨k, w, hk, hw, by rw [Nat.zero_add]⟩)
theorem ax_asc_app {P : ax_P} : ∀ (l l2 : List Value) (i : Nat), ax_asc P i (l ++ l2) = ax_asc P i l ++ ax_asc P (i + l.length) l2 := by
  intro l
  induction l with
  | nil => intro l2 i; simp [ax_asc]
  | cons v l ih =>
    intro l2 i
    simp only [List.cons_append, ax_asc]
    split
    · rw [ih, List.length_cons, show i + 1 + l.length = i + (l.length + 1) by omega]
    · rw [ih, List.cons_append, List.length_cons, show i + 1 + l.length = i + (l.length + 1) by omega]
theorem ax_asc_dm {P : ax_P} : ∀ (k i : Nat), ax_asc P i (List.replicate k ax_dm) = [] := by
  intro k
  induction k with
  | zero => intro i; rfl
  | succ k ih => intro i; rw [List.replicate_succ, ax_asc, if_pos rfl, ih]
theorem ax_asc_spread {P : ax_P} (hf : P.2.2.1.category = 1) : ∀ (as : List Value) (i : Nat) (q : Nat × Value), q ∈ ax_asc P i (ax_spread as) → q ∈ lv_args i (as.map (ax_tr P)) := by
  intro as
  induction as with
  | nil => intro i q h; simp [ax_spread, ax_asc] at h
  | cons v l ih =>
    intro i q h
    simp only [List.map_cons, lv_args, ax_tr_cat hf]
    unfold ax_spread at h
    by_cases hc : v.category = 2
    · rw [if_pos hc] at h
      rw [if_pos hc]
      unfold ax_asc at h
      split at h
      · rw [ax_asc, if_pos rfl] at h
        exact List.mem_cons_of_mem _ (ih _ _ h)
      · rw [ax_asc, if_pos rfl] at h
        rcases List.mem_cons.mp h with e | e
        · rw [e]; exact List.mem_cons_self
        · exact List.mem_cons_of_mem _ (ih _ _ e)
    · rw [if_neg hc] at h
      rw [if_neg hc]
      unfold ax_asc at h
      split at h
      · exact List.mem_cons_of_mem _ (ih _ _ h)
      · rcases List.mem_cons.mp h with e | e
        · rw [e]; exact List.mem_cons_self
        · exact List.mem_cons_of_mem _ (ih _ _ e)
theorem ax_spread_len {P : ax_P} (hf : P.2.2.1.category = 1) : ∀ (as : List Value), (lg_sl (as.map (ax_tr P))).length = (ax_spread as).length := by
  intro as
  induction as with
  | nil => rfl
  | cons v l ih =>
    unfold lg_sl at ih ⊢
    rw [List.map_cons, List.flatMap_cons, List.length_append, ih, ax_tr_cat hf, ax_spread]
    split <;> simp <;> omega
theorem ax_ent_has {P : ax_P} (hf : P.2.2.1.category = 1) {z : Nat} {as : List Value} (hl : (ax_spread as).length ≤ ax_ml z) : lv_has ((lg_sl (as.map (ax_tr P)) ++ List.replicate (ax_ml z - (lg_sl (as.map (ax_tr P))).length) Slot.unset).toArray) (ax_ml z) (ax_asc P 0 (ax_ent z as)) := by
  refine ax_lv_sub (lv_entry (as.map (ax_tr P)) (n := ax_ml z) (by rw [ax_spread_len hf]; exact hl)) (fun q hq => ?_)
  unfold ax_ent at hq
  rw [ax_asc_app, ax_asc_dm, List.append_nil] at hq
  exact ax_asc_spread hf as 0 q hq
theorem ax_ent_len {z : Nat} {as : List Value} (hl : (ax_spread as).length ≤ ax_ml z) : (ax_ent z as).length = ax_ml z := by
  unfold ax_ent
  rw [List.length_append, List.length_replicate]
  omega
