/-! ===== the heap once both are made ===== -/
def okf : List Value → List (Nat × Nat) → Bool
  | [], [] => true
  | v :: l, k :: ks => (match k.1, v with
    | 0, .ref a => a == k.2
    | 1, .int _ => true
    | 2, .long _ => true
    | 3, .int x => decide (x = nI k.2)
    | _, _ => false) && okf l ks
  | _, _ => false
def okc (e : ax_E) (t : (Nat × Nat) ⊕ (Nat × List (Nat × Nat))) : Bool := match e, t with
  | .inl (k, len, _), .inl (k2, len2) => k == k2 && len == len2
  | .inr (ci, fs), .inr (ci2, ks) => ci == ci2 && okf fs ks
  | _, _ => false
def okh (h : ax_H) : Nat → List ((Nat × Nat) ⊕ (Nat × List (Nat × Nat))) → Bool
  | _, [] => true
  | a, t :: l => okc (h a) t && okh h (a + 1) l
def gtI (e : ax_E) (j : Nat) : Int32 := match e with
  | .inl (_, _, f) => f j
  | .inr (_, fs) => match fs[j]? with
    | some (.int v) => v
    | _ => 0
def gtL (e : ax_E) (j : Nat) : Int64 := match e with
  | .inl _ => 0
  | .inr (_, fs) => match fs[j]? with
    | some (.long v) => v
    | _ => 0
def M0 : ax_M := fun a j => gtI (hF a) j
def N0 : ax_L := fun a j => gtL (hF a) j
theorem hF_ok : okh hF 20 hx_tab = true := by decide +kernel
theorem hF_lo : ∀ a, a < 20 → isD (hF a) = true := by decide +kernel
theorem M0_85 : ∀ j, j < 181 → M0 85 j = begA (nI 5) j := by decide +kernel
theorem M0_25 : ∀ j, j < 25 → M0 25 j = nI 0 := by decide +kernel
theorem M0_is : (M0 22 3 = nI 0 ∧ M0 24 3 = nI 5 ∧ M0 26 3 = nI 0 ∧ M0 28 3 = nI 0 ∧ M0 30 3 = nI 0 ∧ M0 21 5 = nI 5 ∧ M0 21 6 = nI 0) ∧ (M0 43 1 = nI 0 ∧ M0 87 0 = nI 0 ∧ M0 55 1 = nI 0 ∧ M0 87 1 = nI 0) ∧ (M0 67 3 = nI 0 ∧ M0 84 24 = nI 0) ∧ (M0 20 13 = M0 88 0 ∧ M0 20 14 = M0 88 1 ∧ M0 20 15 = M0 88 2) ∧ (N0 20 11 = N0 84 4 ∧ N0 20 12 = N0 84 5) := by decide +kernel
theorem hF_fs {a ci : Nat} {fs : List Value} (he : hF a = .inr (ci, fs)) : ∀ (ks : List (Nat × Nat)) (j : Nat) (l : List Value), (∀ i, fs[j + i]? = l[i]?) → okf l ks = true → hx_fs M0 N0 a j ks = l := by
  intro ks
  induction ks with
  | nil =>
    intro j l _ h
    cases l with
    | nil => rfl
    | cons v l => cases h
  | cons k ks ih =>
    intro j l hl h
    cases l with
    | nil => cases h
    | cons v l =>
      have hv : fs[j]? = some v := hl 0
      obtain ⟨h1, h2⟩ := (Bool.and_eq_true _ _).mp h
      have ht := ih (j + 1) l (fun i => by
        have := hl (i + 1)
        rw [show j + 1 + i = j + (i + 1) by omega]
        exact this) h2
      show hx_fv M0 N0 a j k :: hx_fs M0 N0 a (j + 1) ks = v :: l
      rw [ht]
      refine congrArg (fun z => z :: l) ?_
      obtain ⟨k1, k2⟩ := k
      have gI : ∀ x, v = .int x → M0 a j = x := fun x ex => by
        show gtI (hF a) j = x
        rw [he]
        unfold gtI
        dsimp only
        rw [hv, ex]
      have gL : ∀ x, v = .long x → N0 a j = x := fun x ex => by
        show gtL (hF a) j = x
        rw [he]
        unfold gtL
        dsimp only
        rw [hv, ex]
      rcases k1 with _ | _ | _ | _ | k1
      · cases v with
        | ref b =>
          have e := eq_of_beq (show (b == k2) = true from h1)
          show Value.ref k2 = .ref b
          rw [e]
        | _ => cases h1
      · cases v with
        | int x =>
          show Value.int (M0 a j) = .int x
          rw [gI x rfl]
        | _ => cases h1
      · cases v with
        | long x =>
          show Value.long (N0 a j) = .long x
          rw [gL x rfl]
        | _ => cases h1
      · cases v with
        | int x =>
          have e := of_decide_eq_true (show decide (x = nI k2) = true from h1)
          show Value.int (nI k2) = .int x
          rw [e]
        | _ => cases h1
      · cases v <;> cases h1
theorem okh_at {h : ax_H} : ∀ (l : List ((Nat × Nat) ⊕ (Nat × List (Nat × Nat)))) (a : Nat), okh h a l = true → ∀ j t, l[j]? = some t → okc (h (a + j)) t = true := by
  intro l
  induction l with
  | nil => intro a _ j t ht; cases ht
  | cons x l ih =>
    intro a hh j t ht
    obtain ⟨h1, h2⟩ := (Bool.and_eq_true _ _).mp hh
    cases j with
    | zero => cases ht; exact h1
    | succ j =>
      have := ih (a + 1) h2 j t ht
      rw [show a + (j + 1) = a + 1 + j by omega]
      exact this
theorem old_hi {L : Nat} {xs : Nat → Int32} : ∀ k, ax_old L xs (k + 15) = ax_dead := fun _ => rfl
theorem tab_all : ∀ t ∈ hx_tab, ∀ ci, t ≠ .inr (ci, []) := by
  intro t ht ci
  have h : ∀ t ∈ hx_tab, (match t with | .inr (_, []) => false | _ => true) = true := by decide +kernel
  intro e
  have := h t ht
  rw [e] at this
  cases this
theorem tab_ne {i ci : Nat} (h : hx_tab[i]? = some (.inr (ci, []))) : False := tab_all _ (List.mem_of_getElem? h) ci rfl
theorem mk_hx {L : Nat} {xs : Nat → Int32} (hd : dbn 82 hF) : ov (ax_old L xs) hF = hx (L, xs) M0 N0 := by
  funext a
  by_cases h20 : a < 20
  · unfold ov hx
    rw [if_pos (hF_lo a h20), if_pos h20]
  · have hlen : hx_tab.length = 82 := by decide +kernel
    cases ht : hx_tab[a - 20]? with
    | none =>
      have h1 : 82 ≤ a - 20 := by
        have := List.getElem?_eq_none_iff.mp ht
        rw [hlen] at this
        exact this
      unfold ov
      rw [if_pos (hd a (by omega))]
      unfold hx
      rw [if_neg h20, ht]
      obtain ⟨k, rfl⟩ : ∃ k, a = k + 15 := ⟨a - 15, by omega⟩
      exact old_hi k
    | some t =>
      have hc := okh_at hx_tab 20 hF_ok (a - 20) t ht
      rw [show 20 + (a - 20) = a by omega] at hc
      cases t with
      | inl t =>
        obtain ⟨t, len⟩ := t
        rw [hx_inl (S := (L, xs)) (M := M0) (N := N0) (Nat.le_of_not_lt h20) ht]
        cases he : hF a with
        | inr x => rw [he] at hc; cases hc
        | inl x =>
          obtain ⟨t1, len1, f⟩ := x
          have nd : isD (hF a) = false := by rw [he]; rfl
          rw [ov_at nd, he]
          rw [he] at hc
          obtain ⟨q1, q2⟩ := (Bool.and_eq_true _ _).mp hc
          have e1 := eq_of_beq q1
          have e2 := eq_of_beq q2
          have e3 : M0 a = f := by
            funext j
            show gtI (hF a) j = f j
            rw [he]
            rfl
          rw [e1, e2, e3]
      | inr t =>
        obtain ⟨ci2, ks⟩ := t
        rw [hx_inr (S := (L, xs)) (M := M0) (N := N0) (Nat.le_of_not_lt h20) ht]
        cases he : hF a with
        | inl x => rw [he] at hc; cases hc
        | inr x =>
          obtain ⟨ci, fs⟩ := x
          rw [he] at hc
          obtain ⟨q1, q2⟩ := (Bool.and_eq_true _ _).mp hc
          have e1 := eq_of_beq q1
          have e2 := hF_fs he ks 0 fs (fun i => by rw [Nat.zero_add]) q2
          have nd : isD (hF a) = false := by
            rw [he]
            refine isD_ne (fun z => ?_)
            rw [z] at q2
            cases ks with
            | nil => exact tab_ne ht
            | cons k ks => cases q2
          rw [ov_at nd, he, e1, e2]
