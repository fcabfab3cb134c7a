/-! ===== the heap once both objects are made: its shape is fixed, numbers alone change ===== -/
abbrev ax_M : Type := Nat → Nat → Int32
abbrev ax_L : Type := Nat → Nat → Int64
abbrev ax_S : Type := Nat × (Nat → Int32)
def hx_tab : List ((Nat × Nat) ⊕ (Nat × List (Nat × Nat))) := [.inr (9, [(0, 21), (0, 32), (0, 43), (0, 55), (0, 67), (0, 69), (0, 72), (0, 73), (0, 77), (0, 78), (0, 83), (2, 0), (2, 0), (1, 0), (1, 0), (1, 0)]), .inr (0, [(0, 22), (0, 24), (0, 26), (0, 28), (0, 30), (1, 0), (1, 0)]), .inr (6, [(3, 8), (3, 5), (0, 23), (1, 0)]), .inl (0, 40), .inr (6, [(3, 5), (3, 5), (0, 25), (1, 0)]), .inl (0, 25), .inr (6, [(3, 9), (3, 4), (0, 27), (1, 0)]), .inl (0, 36), .inr (6, [(3, 8), (3, 1), (0, 29), (1, 0)]), .inl (0, 8), .inr (6, [(3, 6), (3, 11), (0, 31), (1, 0)]), .inl (0, 66), .inr (0, [(0, 33), (0, 35), (0, 37), (0, 39), (0, 41), (1, 0), (1, 0)]), .inr (6, [(3, 8), (3, 5), (0, 34), (1, 0)]), .inl (0, 40), .inr (6, [(3, 5), (3, 5), (0, 36), (1, 0)]), .inl (0, 25), .inr (6, [(3, 9), (3, 4), (0, 38), (1, 0)]), .inl (0, 36), .inr (6, [(3, 8), (3, 1), (0, 40), (1, 0)]), .inl (0, 8), .inr (6, [(3, 6), (3, 11), (0, 42), (1, 0)]), .inl (0, 66), .inr (2, [(0, 44), (1, 0)]), .inr (0, [(0, 45), (0, 47), (0, 49), (0, 51), (0, 53), (1, 0), (1, 0)]), .inr (6, [(3, 8), (3, 5), (0, 46), (1, 0)]), .inl (0, 40), .inr (6, [(3, 5), (3, 5), (0, 48), (1, 0)]), .inl (0, 25), .inr (6, [(3, 9), (3, 4), (0, 50), (1, 0)]), .inl (0, 36), .inr (6, [(3, 8), (3, 1), (0, 52), (1, 0)]), .inl (0, 8), .inr (6, [(3, 6), (3, 11), (0, 54), (1, 0)]), .inl (0, 66), .inr (2, [(0, 56), (1, 0)]), .inr (0, [(0, 57), (0, 59), (0, 61), (0, 63), (0, 65), (1, 0), (1, 0)]), .inr (6, [(3, 8), (3, 5), (0, 58), (1, 0)]), .inl (0, 40), .inr (6, [(3, 5), (3, 5), (0, 60), (1, 0)]), .inl (0, 25), .inr (6, [(3, 9), (3, 4), (0, 62), (1, 0)]), .inl (0, 36), .inr (6, [(3, 8), (3, 1), (0, 64), (1, 0)]), .inl (0, 8), .inr (6, [(3, 6), (3, 11), (0, 66), (1, 0)]), .inl (0, 66), .inr (6, [(3, 150), (3, 1), (0, 68), (1, 0)]), .inl (0, 150), .inr (5, [(0, 67), (0, 70), (1, 0), (1, 0), (1, 0), (1, 0)]), .inr (6, [(3, 5), (3, 1), (0, 71), (1, 0)]), .inl (0, 5), .inr (1, [(0, 21), (1, 0), (1, 0), (1, 0)]), .inr (8, [(0, 21), (0, 76), (0, 74), (1, 0)]), .inr (6, [(3, 8), (3, 2), (0, 75), (1, 0)]), .inl (0, 16), .inr (1, [(0, 21), (1, 0), (1, 0), (1, 0)]), .inr (4, [(0, 21), (1, 0), (1, 0)]), .inr (3, [(0, 21), (0, 79), (0, 81), (1, 0)]), .inr (6, [(3, 4), (3, 1), (0, 80), (1, 0)]), .inl (0, 4), .inr (6, [(3, 4), (3, 1), (0, 82), (1, 0)]), .inl (0, 4), .inr (7, [(1, 0), (1, 0)]), .inr (10, [(0, 85), (0, 86), (0, 87), (0, 88), (2, 0), (2, 0), (1, 0), (1, 0), (1, 0), (1, 0), (0, 89), (0, 90), (0, 91), (0, 92), (0, 93), (0, 94), (0, 95), (1, 0), (0, 96), (1, 0), (1, 0), (0, 97), (0, 98), (0, 99), (1, 0), (1, 0), (1, 0), (1, 0), (1, 0), (0, 100), (0, 101)]), .inl (0, 181), .inl (0, 362), .inl (1, 2), .inl (0, 3), .inl (0, 8), .inl (0, 6), .inl (0, 6), .inl (0, 6), .inl (0, 6), .inl (0, 6), .inl (0, 6), .inl (0, 4), .inl (0, 6), .inl (0, 3), .inl (0, 150), .inl (0, 181), .inl (0, 5)]
def hx_fv (M : ax_M) (N : ax_L) (a j : Nat) (k : Nat × Nat) : Value := match k with
  | (0, r) => .ref r
  | (1, _) => .int (M a j)
  | (2, _) => .long (N a j)
  | (_, c) => .int (nI c)
def hx_fs (M : ax_M) (N : ax_L) (a : Nat) : Nat → List (Nat × Nat) → List Value
  | _, [] => []
  | j, k :: l => hx_fv M N a j k :: hx_fs M N a (j + 1) l
def hx (S : ax_S) (M : ax_M) (N : ax_L) : ax_H := fun a => if a < 20 then ax_old S.1 S.2 a else (match hx_tab[a - 20]? with
  | some (.inl (t, len)) => .inl (t, len, M a)
  | some (.inr (ci, ks)) => .inr (ci, hx_fs M N a 0 ks)
  | none => ax_dead)
def ux (M : ax_M) (a j : Nat) (v : Int32) : ax_M := fun b k => if b = a ∧ k = j then v else M b k
def ua (M : ax_M) (a : Nat) (f : Nat → Int32) : ax_M := fun b => if b = a then f else M b
def ul (N : ax_L) (a j : Nat) (v : Int64) : ax_L := fun b k => if b = a ∧ k = j then v else N b k
theorem ux_s {M : ax_M} {a j : Nat} {v : Int32} : ux M a j v a j = v := if_pos ⟨rfl, rfl⟩
theorem ux_a {M : ax_M} {a j b k : Nat} {v : Int32} (h : b ≠ a) : ux M a j v b k = M b k := if_neg (fun q => h q.1)
theorem ux_f {M : ax_M} {a j b : Nat} {v : Int32} (h : b ≠ a) : ux M a j v b = M b := funext fun _ => if_neg (fun q => h q.1)
theorem ux_j {M : ax_M} {a j k : Nat} {v : Int32} (h : k ≠ j) : ux M a j v a k = M a k := if_neg (fun q => h q.2)
theorem ux_upd {M : ax_M} {a j : Nat} {v : Int32} : ux M a j v = ua M a (upd (M a) j v) := by
  funext b k
  unfold ux ua upd
  by_cases h1 : b = a
  · subst h1; simp
  · simp [h1]
theorem ua_s {M : ax_M} {a : Nat} {f : Nat → Int32} : ua M a f a = f := if_pos rfl
theorem ua_a {M : ax_M} {a b : Nat} {f : Nat → Int32} (h : b ≠ a) : ua M a f b = M b := if_neg h
theorem ul_s {N : ax_L} {a j : Nat} {v : Int64} : ul N a j v a j = v := if_pos ⟨rfl, rfl⟩
theorem ul_j {N : ax_L} {a j k : Nat} {v : Int64} (h : k ≠ j) : ul N a j v a k = N a k := if_neg (fun q => h q.2)
theorem ul_a {N : ax_L} {a j b k : Nat} {v : Int64} (h : b ≠ a) : ul N a j v b k = N b k := if_neg (fun q => h q.1)
section Hx
variable {S : ax_S} {M : ax_M} {N : ax_L} {a : Nat}
theorem hx_inl {t len : Nat} (h20 : 20 ≤ a) (h : hx_tab[a - 20]? = some (.inl (t, len))) : hx S M N a = .inl (t, len, M a) := by
  unfold hx; rw [if_neg (by omega), h]
theorem hx_inr {ci : Nat} {ks : List (Nat × Nat)} (h20 : 20 ≤ a) (h : hx_tab[a - 20]? = some (.inr (ci, ks))) : hx S M N a = .inr (ci, hx_fs M N a 0 ks) := by
  unfold hx; rw [if_neg (by omega), h]
theorem hx_fs_len (ks : List (Nat × Nat)) : ∀ j, (hx_fs M N a j ks).length = ks.length := by
  induction ks with
  | nil => intro j; rfl
  | cons k l ih => intro j; simp [hx_fs, ih]
theorem hx_fs_ext {M2 : ax_M} {N2 : ax_L} (ks : List (Nat × Nat)) : ∀ j, (∀ i k, ks[i]? = some k → hx_fv M2 N2 a (j + i) k = hx_fv M N a (j + i) k) → hx_fs M2 N2 a j ks = hx_fs M N a j ks := by
  induction ks with
  | nil => intro j h; rfl
  | cons k l ih =>
    intro j h
    have h0 := h 0 k rfl
    rw [Nat.add_zero] at h0
    unfold hx_fs
    rw [h0, ih (j + 1) (fun i q hq => by have := h (i + 1) q (by simpa using hq); rwa [show j + (i + 1) = j + 1 + i by omega] at this)]
theorem hx_fs_set {M2 : ax_M} {N2 : ax_L} {v : Value} (ks : List (Nat × Nat)) : ∀ (j0 j : Nat) (k : Nat × Nat), ks[j]? = some k → hx_fv M2 N2 a (j0 + j) k = v → (∀ i q, i ≠ j → ks[i]? = some q → hx_fv M2 N2 a (j0 + i) q = hx_fv M N a (j0 + i) q) → (hx_fs M N a j0 ks).set j v = hx_fs M2 N2 a j0 ks := by
  induction ks with
  | nil => intro j0 j k h; simp at h
  | cons k0 l ih =>
    intro j0 j k h hv ho
    cases j with
    | zero =>
      simp at h
      subst h
      show v :: hx_fs M N a (j0 + 1) l = hx_fv M2 N2 a j0 k0 :: hx_fs M2 N2 a (j0 + 1) l
      rw [← hv, Nat.add_zero, hx_fs_ext (M := M) (N := N) (M2 := M2) (N2 := N2) l (j0 + 1) (fun i q hq => by have := ho (i + 1) q (by omega) (by simpa using hq); rwa [show j0 + (i + 1) = j0 + 1 + i by omega] at this)]
    | succ j =>
      have h0 := ho 0 k0 (by omega) rfl
      rw [Nat.add_zero] at h0
      show hx_fv M N a j0 k0 :: (hx_fs M N a (j0 + 1) l).set j v = hx_fv M2 N2 a j0 k0 :: hx_fs M2 N2 a (j0 + 1) l
      rw [h0, ih (j0 + 1) j k (by simpa using h) (by rw [show j0 + 1 + j = j0 + (j + 1) by omega]; exact hv) (fun i q hi hq => by have := ho (i + 1) q (by omega) (by simpa using hq); rwa [show j0 + (i + 1) = j0 + 1 + i by omega] at this)]
def okI (a ci j : Nat) : Bool := decide (20 ≤ a) && (match hx_tab[a - 20]? with
  | some (.inr (c, ks)) => decide (c = ci) && decide (ks[j]? = some (1, 0))
  | _ => false)
def okL (a ci j : Nat) : Bool := decide (20 ≤ a) && (match hx_tab[a - 20]? with
  | some (.inr (c, ks)) => decide (c = ci) && decide (ks[j]? = some (2, 0))
  | _ => false)
theorem okI_spec {ci j : Nat} (h : okI a ci j = true) : 20 ≤ a ∧ ∃ ks, hx_tab[a - 20]? = some (.inr (ci, ks)) ∧ ks[j]? = some (1, 0) := by
  unfold okI at h
  rw [Bool.and_eq_true, decide_eq_true_eq] at h
  refine ⟨h.1, ?_⟩
  have h2 := h.2
  split at h2
  · rename_i c ks e
    rw [Bool.and_eq_true, decide_eq_true_eq, decide_eq_true_eq] at h2
    obtain ⟨rfl, h3⟩ := h2
    exact ⟨ks, e, h3⟩
  · cases h2
theorem okL_spec {ci j : Nat} (h : okL a ci j = true) : 20 ≤ a ∧ ∃ ks, hx_tab[a - 20]? = some (.inr (ci, ks)) ∧ ks[j]? = some (2, 0) := by
  unfold okL at h
  rw [Bool.and_eq_true, decide_eq_true_eq] at h
  refine ⟨h.1, ?_⟩
  have h2 := h.2
  split at h2
  · rename_i c ks e
    rw [Bool.and_eq_true, decide_eq_true_eq, decide_eq_true_eq] at h2
    obtain ⟨rfl, h3⟩ := h2
    exact ⟨ks, e, h3⟩
  · cases h2
theorem hx_other {M2 : ax_M} {N2 : ax_L} (hM : ∀ b, b ≠ a → M2 b = M b) (hN : ∀ b, b ≠ a → N2 b = N b) (e : ax_E) (he : hx S M2 N2 a = e) : ax_up (hx S M N) a e = hx S M2 N2 := by
  funext b
  unfold ax_up
  by_cases hb : b = a
  · rw [if_pos hb, hb, he]
  · rw [if_neg hb]
    unfold hx
    split
    · rfl
    · split
      · rw [hM b hb]
      · rename_i ci ks _
        rw [hx_fs_ext ks 0 (fun i k hk => ?_)]
        unfold hx_fv
        split <;> simp [hM b hb, hN b hb]
      · rfl
theorem hx_putI {ci j : Nat} {v : Int32} (h : okI a ci j = true) : ∀ fs, hx S M N a = .inr (ci, fs) → j < fs.length ∧ 20 ≤ a ∧ ax_up (hx S M N) a (.inr (ci, fs.set j (.int v))) = hx S (ux M a j v) N := by
  intro fs hf
  obtain ⟨h20, ks, h1, h2⟩ := okI_spec h
  rw [hx_inr h20 h1] at hf
  cases hf
  refine ⟨by rw [hx_fs_len]; exact (List.getElem?_eq_some_iff.mp h2).1, h20, hx_other (fun b hb => ux_f hb) (fun _ _ => rfl) _ ?_⟩
  rw [hx_inr h20 h1, hx_fs_set (M := M) (N := N) (M2 := ux M a j v) (N2 := N) ks 0 j (1, 0) h2]
  · show Value.int (ux M a j v a (0 + j)) = _
    rw [Nat.zero_add, ux_s]
  · intro i q hi hq
    unfold hx_fv
    split
    · rfl
    · rw [Nat.zero_add, ux_j hi]
    · rfl
    · rfl
theorem hx_putL {ci j : Nat} {v : Int64} (h : okL a ci j = true) : ∀ fs, hx S M N a = .inr (ci, fs) → j < fs.length ∧ 20 ≤ a ∧ ax_up (hx S M N) a (.inr (ci, fs.set j (.long v))) = hx S M (ul N a j v) := by
  intro fs hf
  obtain ⟨h20, ks, h1, h2⟩ := okL_spec h
  rw [hx_inr h20 h1] at hf
  cases hf
  refine ⟨by rw [hx_fs_len]; exact (List.getElem?_eq_some_iff.mp h2).1, h20, hx_other (fun _ _ => rfl) (fun b hb => funext fun k => ul_a hb) _ ?_⟩
  rw [hx_inr h20 h1, hx_fs_set (M := M) (N := N) (M2 := M) (N2 := ul N a j v) ks 0 j (2, 0) h2]
  · show Value.long (ul N a j v a (0 + j)) = _
    rw [Nat.zero_add, ul_s]
  · intro i q hi hq
    unfold hx_fv
    split
    · rfl
    · rfl
    · rw [Nat.zero_add, ul_j hi]
    · rfl
theorem hx_isI {ci j : Nat} (h : okI a ci j = true) : isC (hx S M N) a ci = true := by
  obtain ⟨h20, ks, h1, -⟩ := okI_spec h
  unfold isC
  rw [hx_inr h20 h1]
  exact decide_eq_true rfl
theorem hx_isL {ci j : Nat} (h : okL a ci j = true) : isC (hx S M N) a ci = true := by
  obtain ⟨h20, ks, h1, -⟩ := okL_spec h
  unfold isC
  rw [hx_inr h20 h1]
  exact decide_eq_true rfl
def okA (a len : Nat) : Bool := decide (20 ≤ a) && decide (hx_tab[a - 20]? = some (.inl (0, len))) && decide (len < 1000)
theorem okA_spec {len : Nat} (h : okA a len = true) : 20 ≤ a ∧ hx_tab[a - 20]? = some (.inl (0, len)) ∧ len < 1000 := by
  unfold okA at h
  simp only [Bool.and_eq_true, decide_eq_true_eq] at h
  exact ⟨h.1.1, h.1.2, h.2⟩
theorem hx_alG {len k : Nat} (h : okA a len = true) (hk : k < len) : al (hx S M N) a (nI k) = some (M a k) := by
  obtain ⟨h20, h1, h2⟩ := okA_spec h
  have hk31 : k < 2 ^ 31 := by omega
  unfold al
  rw [hx_inl h20 h1]
  dsimp only
  rw [nI_clamp hk31, if_pos ⟨rfl, fun q => q.elim (fun z => nI_pos hk31 z) (fun z => by omega)⟩]
theorem hx_saG {len k : Nat} {v : Int32} (h : okA a len = true) (hk : k < len) : sa (hx S M N) a (nI k) v = some (hx S (ux M a k v) N) := by
  obtain ⟨h20, h1, h2⟩ := okA_spec h
  have hk31 : k < 2 ^ 31 := by omega
  unfold sa
  rw [hx_inl h20 h1]
  dsimp only
  rw [nI_clamp hk31, if_pos ⟨rfl, h20, fun q => q.elim (fun z => nI_pos hk31 z) (fun z => by omega)⟩]
  congr 1
  refine hx_other (fun b hb => ux_f hb) (fun _ _ => rfl) _ ?_
  rw [hx_inl h20 h1, ux_upd, ua_s]
theorem hx_anG {len : Nat} (h : okA a len = true) : an (hx S M N) a = some (nI len) := by
  obtain ⟨h20, h1, h2⟩ := okA_spec h
  unfold an
  rw [hx_inl h20 h1]
theorem hx_acp {b len : Nat} (h : okA a len = true) (h2 : okA b len = true) : acp (hx S M N) a 0 b 0 (nI len) = some (hx S (ua M b (va_cpy (M a) (M b) 0 0 len)) N) := by
  obtain ⟨a20, a1, a2⟩ := okA_spec h
  obtain ⟨b20, b1, b2⟩ := okA_spec h2
  have hk31 : len < 2 ^ 31 := by omega
  have h0 : (0 : Int32).toNatClampNeg = 0 := rfl
  unfold acp
  rw [hx_inl a20 a1, hx_inl b20 b1]
  dsimp only
  rw [nI_clamp hk31, h0, if_pos ⟨rfl, rfl, a20, b20, by decide, by decide, nI_pos hk31, by omega, by omega⟩]
  congr 1
  refine hx_other (fun c hc => ua_a hc) (fun _ _ => rfl) _ ?_
  rw [hx_inl b20 b1, ua_s]
theorem ic_20 : isC (hx S M N) 20 9 = true := rfl
theorem gf_20_0 : gf (hx S M N) 20 9 0 = some (.ref 21) := rfl
theorem gf_20_1 : gf (hx S M N) 20 9 1 = some (.ref 32) := rfl
theorem gf_20_2 : gf (hx S M N) 20 9 2 = some (.ref 43) := rfl
theorem gf_20_3 : gf (hx S M N) 20 9 3 = some (.ref 55) := rfl
theorem gf_20_4 : gf (hx S M N) 20 9 4 = some (.ref 67) := rfl
theorem gf_20_5 : gf (hx S M N) 20 9 5 = some (.ref 69) := rfl
theorem gf_20_6 : gf (hx S M N) 20 9 6 = some (.ref 72) := rfl
theorem gf_20_7 : gf (hx S M N) 20 9 7 = some (.ref 73) := rfl
theorem gf_20_8 : gf (hx S M N) 20 9 8 = some (.ref 77) := rfl
theorem gf_20_9 : gf (hx S M N) 20 9 9 = some (.ref 78) := rfl
theorem gf_20_10 : gf (hx S M N) 20 9 10 = some (.ref 83) := rfl
theorem gf_20_11 : gf (hx S M N) 20 9 11 = some (.long (N 20 11)) := rfl
theorem ok_20_11 : okL 20 9 11 = true := by decide +kernel
theorem gf_20_12 : gf (hx S M N) 20 9 12 = some (.long (N 20 12)) := rfl
theorem ok_20_12 : okL 20 9 12 = true := by decide +kernel
theorem gf_20_13 : gf (hx S M N) 20 9 13 = some (.int (M 20 13)) := rfl
theorem ok_20_13 : okI 20 9 13 = true := by decide +kernel
theorem gf_20_14 : gf (hx S M N) 20 9 14 = some (.int (M 20 14)) := rfl
theorem ok_20_14 : okI 20 9 14 = true := by decide +kernel
theorem gf_20_15 : gf (hx S M N) 20 9 15 = some (.int (M 20 15)) := rfl
theorem ok_20_15 : okI 20 9 15 = true := by decide +kernel
theorem ic_21 : isC (hx S M N) 21 0 = true := rfl
theorem gf_21_0 : gf (hx S M N) 21 0 0 = some (.ref 22) := rfl
theorem gf_21_1 : gf (hx S M N) 21 0 1 = some (.ref 24) := rfl
theorem gf_21_2 : gf (hx S M N) 21 0 2 = some (.ref 26) := rfl
theorem gf_21_3 : gf (hx S M N) 21 0 3 = some (.ref 28) := rfl
theorem gf_21_4 : gf (hx S M N) 21 0 4 = some (.ref 30) := rfl
theorem gf_21_5 : gf (hx S M N) 21 0 5 = some (.int (M 21 5)) := rfl
theorem ok_21_5 : okI 21 0 5 = true := by decide +kernel
theorem gf_21_6 : gf (hx S M N) 21 0 6 = some (.int (M 21 6)) := rfl
theorem ok_21_6 : okI 21 0 6 = true := by decide +kernel
theorem ic_22 : isC (hx S M N) 22 6 = true := rfl
theorem gf_22_0 : gf (hx S M N) 22 6 0 = some (.int (nI 8)) := rfl
theorem gf_22_1 : gf (hx S M N) 22 6 1 = some (.int (nI 5)) := rfl
theorem gf_22_2 : gf (hx S M N) 22 6 2 = some (.ref 23) := rfl
theorem gf_22_3 : gf (hx S M N) 22 6 3 = some (.int (M 22 3)) := rfl
theorem ok_22_3 : okI 22 6 3 = true := by decide +kernel
theorem oka_23 : okA 23 40 = true := by decide +kernel
theorem al_23 {k : Nat} (h : k < 40) : al (hx S M N) 23 (nI k) = some (M 23 k) := hx_alG oka_23 h
theorem sa_23 {k : Nat} {v : Int32} (h : k < 40) : sa (hx S M N) 23 (nI k) v = some (hx S (ux M 23 k v) N) := hx_saG oka_23 h
theorem an_23 : an (hx S M N) 23 = some (nI 40) := rfl
theorem ic_24 : isC (hx S M N) 24 6 = true := rfl
theorem gf_24_0 : gf (hx S M N) 24 6 0 = some (.int (nI 5)) := rfl
theorem gf_24_1 : gf (hx S M N) 24 6 1 = some (.int (nI 5)) := rfl
theorem gf_24_2 : gf (hx S M N) 24 6 2 = some (.ref 25) := rfl
theorem gf_24_3 : gf (hx S M N) 24 6 3 = some (.int (M 24 3)) := rfl
theorem ok_24_3 : okI 24 6 3 = true := by decide +kernel
theorem oka_25 : okA 25 25 = true := by decide +kernel
theorem al_25 {k : Nat} (h : k < 25) : al (hx S M N) 25 (nI k) = some (M 25 k) := hx_alG oka_25 h
theorem sa_25 {k : Nat} {v : Int32} (h : k < 25) : sa (hx S M N) 25 (nI k) v = some (hx S (ux M 25 k v) N) := hx_saG oka_25 h
theorem an_25 : an (hx S M N) 25 = some (nI 25) := rfl
theorem ic_26 : isC (hx S M N) 26 6 = true := rfl
theorem gf_26_0 : gf (hx S M N) 26 6 0 = some (.int (nI 9)) := rfl
theorem gf_26_1 : gf (hx S M N) 26 6 1 = some (.int (nI 4)) := rfl
theorem gf_26_2 : gf (hx S M N) 26 6 2 = some (.ref 27) := rfl
theorem gf_26_3 : gf (hx S M N) 26 6 3 = some (.int (M 26 3)) := rfl
theorem ok_26_3 : okI 26 6 3 = true := by decide +kernel
theorem oka_27 : okA 27 36 = true := by decide +kernel
theorem al_27 {k : Nat} (h : k < 36) : al (hx S M N) 27 (nI k) = some (M 27 k) := hx_alG oka_27 h
theorem sa_27 {k : Nat} {v : Int32} (h : k < 36) : sa (hx S M N) 27 (nI k) v = some (hx S (ux M 27 k v) N) := hx_saG oka_27 h
theorem an_27 : an (hx S M N) 27 = some (nI 36) := rfl
theorem ic_28 : isC (hx S M N) 28 6 = true := rfl
theorem gf_28_0 : gf (hx S M N) 28 6 0 = some (.int (nI 8)) := rfl
theorem gf_28_1 : gf (hx S M N) 28 6 1 = some (.int (nI 1)) := rfl
theorem gf_28_2 : gf (hx S M N) 28 6 2 = some (.ref 29) := rfl
theorem gf_28_3 : gf (hx S M N) 28 6 3 = some (.int (M 28 3)) := rfl
theorem ok_28_3 : okI 28 6 3 = true := by decide +kernel
theorem oka_29 : okA 29 8 = true := by decide +kernel
theorem al_29 {k : Nat} (h : k < 8) : al (hx S M N) 29 (nI k) = some (M 29 k) := hx_alG oka_29 h
theorem sa_29 {k : Nat} {v : Int32} (h : k < 8) : sa (hx S M N) 29 (nI k) v = some (hx S (ux M 29 k v) N) := hx_saG oka_29 h
theorem an_29 : an (hx S M N) 29 = some (nI 8) := rfl
theorem ic_30 : isC (hx S M N) 30 6 = true := rfl
theorem gf_30_0 : gf (hx S M N) 30 6 0 = some (.int (nI 6)) := rfl
theorem gf_30_1 : gf (hx S M N) 30 6 1 = some (.int (nI 11)) := rfl
theorem gf_30_2 : gf (hx S M N) 30 6 2 = some (.ref 31) := rfl
theorem gf_30_3 : gf (hx S M N) 30 6 3 = some (.int (M 30 3)) := rfl
theorem ok_30_3 : okI 30 6 3 = true := by decide +kernel
theorem oka_31 : okA 31 66 = true := by decide +kernel
theorem al_31 {k : Nat} (h : k < 66) : al (hx S M N) 31 (nI k) = some (M 31 k) := hx_alG oka_31 h
theorem sa_31 {k : Nat} {v : Int32} (h : k < 66) : sa (hx S M N) 31 (nI k) v = some (hx S (ux M 31 k v) N) := hx_saG oka_31 h
theorem an_31 : an (hx S M N) 31 = some (nI 66) := rfl
theorem ic_32 : isC (hx S M N) 32 0 = true := rfl
theorem gf_32_0 : gf (hx S M N) 32 0 0 = some (.ref 33) := rfl
theorem gf_32_1 : gf (hx S M N) 32 0 1 = some (.ref 35) := rfl
theorem gf_32_2 : gf (hx S M N) 32 0 2 = some (.ref 37) := rfl
theorem gf_32_3 : gf (hx S M N) 32 0 3 = some (.ref 39) := rfl
theorem gf_32_4 : gf (hx S M N) 32 0 4 = some (.ref 41) := rfl
theorem gf_32_5 : gf (hx S M N) 32 0 5 = some (.int (M 32 5)) := rfl
theorem ok_32_5 : okI 32 0 5 = true := by decide +kernel
theorem gf_32_6 : gf (hx S M N) 32 0 6 = some (.int (M 32 6)) := rfl
theorem ok_32_6 : okI 32 0 6 = true := by decide +kernel
theorem ic_33 : isC (hx S M N) 33 6 = true := rfl
theorem gf_33_0 : gf (hx S M N) 33 6 0 = some (.int (nI 8)) := rfl
theorem gf_33_1 : gf (hx S M N) 33 6 1 = some (.int (nI 5)) := rfl
theorem gf_33_2 : gf (hx S M N) 33 6 2 = some (.ref 34) := rfl
theorem gf_33_3 : gf (hx S M N) 33 6 3 = some (.int (M 33 3)) := rfl
theorem ok_33_3 : okI 33 6 3 = true := by decide +kernel
theorem oka_34 : okA 34 40 = true := by decide +kernel
theorem al_34 {k : Nat} (h : k < 40) : al (hx S M N) 34 (nI k) = some (M 34 k) := hx_alG oka_34 h
theorem sa_34 {k : Nat} {v : Int32} (h : k < 40) : sa (hx S M N) 34 (nI k) v = some (hx S (ux M 34 k v) N) := hx_saG oka_34 h
theorem an_34 : an (hx S M N) 34 = some (nI 40) := rfl
theorem ic_35 : isC (hx S M N) 35 6 = true := rfl
theorem gf_35_0 : gf (hx S M N) 35 6 0 = some (.int (nI 5)) := rfl
theorem gf_35_1 : gf (hx S M N) 35 6 1 = some (.int (nI 5)) := rfl
theorem gf_35_2 : gf (hx S M N) 35 6 2 = some (.ref 36) := rfl
theorem gf_35_3 : gf (hx S M N) 35 6 3 = some (.int (M 35 3)) := rfl
theorem ok_35_3 : okI 35 6 3 = true := by decide +kernel
theorem oka_36 : okA 36 25 = true := by decide +kernel
theorem al_36 {k : Nat} (h : k < 25) : al (hx S M N) 36 (nI k) = some (M 36 k) := hx_alG oka_36 h
theorem sa_36 {k : Nat} {v : Int32} (h : k < 25) : sa (hx S M N) 36 (nI k) v = some (hx S (ux M 36 k v) N) := hx_saG oka_36 h
theorem an_36 : an (hx S M N) 36 = some (nI 25) := rfl
theorem ic_37 : isC (hx S M N) 37 6 = true := rfl
theorem gf_37_0 : gf (hx S M N) 37 6 0 = some (.int (nI 9)) := rfl
theorem gf_37_1 : gf (hx S M N) 37 6 1 = some (.int (nI 4)) := rfl
theorem gf_37_2 : gf (hx S M N) 37 6 2 = some (.ref 38) := rfl
theorem gf_37_3 : gf (hx S M N) 37 6 3 = some (.int (M 37 3)) := rfl
theorem ok_37_3 : okI 37 6 3 = true := by decide +kernel
theorem oka_38 : okA 38 36 = true := by decide +kernel
theorem al_38 {k : Nat} (h : k < 36) : al (hx S M N) 38 (nI k) = some (M 38 k) := hx_alG oka_38 h
theorem sa_38 {k : Nat} {v : Int32} (h : k < 36) : sa (hx S M N) 38 (nI k) v = some (hx S (ux M 38 k v) N) := hx_saG oka_38 h
theorem an_38 : an (hx S M N) 38 = some (nI 36) := rfl
theorem ic_39 : isC (hx S M N) 39 6 = true := rfl
theorem gf_39_0 : gf (hx S M N) 39 6 0 = some (.int (nI 8)) := rfl
theorem gf_39_1 : gf (hx S M N) 39 6 1 = some (.int (nI 1)) := rfl
theorem gf_39_2 : gf (hx S M N) 39 6 2 = some (.ref 40) := rfl
theorem gf_39_3 : gf (hx S M N) 39 6 3 = some (.int (M 39 3)) := rfl
theorem ok_39_3 : okI 39 6 3 = true := by decide +kernel
theorem oka_40 : okA 40 8 = true := by decide +kernel
theorem al_40 {k : Nat} (h : k < 8) : al (hx S M N) 40 (nI k) = some (M 40 k) := hx_alG oka_40 h
theorem sa_40 {k : Nat} {v : Int32} (h : k < 8) : sa (hx S M N) 40 (nI k) v = some (hx S (ux M 40 k v) N) := hx_saG oka_40 h
theorem an_40 : an (hx S M N) 40 = some (nI 8) := rfl
theorem ic_41 : isC (hx S M N) 41 6 = true := rfl
theorem gf_41_0 : gf (hx S M N) 41 6 0 = some (.int (nI 6)) := rfl
theorem gf_41_1 : gf (hx S M N) 41 6 1 = some (.int (nI 11)) := rfl
theorem gf_41_2 : gf (hx S M N) 41 6 2 = some (.ref 42) := rfl
theorem gf_41_3 : gf (hx S M N) 41 6 3 = some (.int (M 41 3)) := rfl
theorem ok_41_3 : okI 41 6 3 = true := by decide +kernel
theorem oka_42 : okA 42 66 = true := by decide +kernel
theorem al_42 {k : Nat} (h : k < 66) : al (hx S M N) 42 (nI k) = some (M 42 k) := hx_alG oka_42 h
theorem sa_42 {k : Nat} {v : Int32} (h : k < 66) : sa (hx S M N) 42 (nI k) v = some (hx S (ux M 42 k v) N) := hx_saG oka_42 h
theorem an_42 : an (hx S M N) 42 = some (nI 66) := rfl
theorem ic_43 : isC (hx S M N) 43 2 = true := rfl
theorem gf_43_0 : gf (hx S M N) 43 2 0 = some (.ref 44) := rfl
theorem gf_43_1 : gf (hx S M N) 43 2 1 = some (.int (M 43 1)) := rfl
theorem ok_43_1 : okI 43 2 1 = true := by decide +kernel
theorem ic_44 : isC (hx S M N) 44 0 = true := rfl
theorem gf_44_0 : gf (hx S M N) 44 0 0 = some (.ref 45) := rfl
theorem gf_44_1 : gf (hx S M N) 44 0 1 = some (.ref 47) := rfl
theorem gf_44_2 : gf (hx S M N) 44 0 2 = some (.ref 49) := rfl
theorem gf_44_3 : gf (hx S M N) 44 0 3 = some (.ref 51) := rfl
theorem gf_44_4 : gf (hx S M N) 44 0 4 = some (.ref 53) := rfl
theorem gf_44_5 : gf (hx S M N) 44 0 5 = some (.int (M 44 5)) := rfl
theorem ok_44_5 : okI 44 0 5 = true := by decide +kernel
theorem gf_44_6 : gf (hx S M N) 44 0 6 = some (.int (M 44 6)) := rfl
theorem ok_44_6 : okI 44 0 6 = true := by decide +kernel
theorem ic_45 : isC (hx S M N) 45 6 = true := rfl
theorem gf_45_0 : gf (hx S M N) 45 6 0 = some (.int (nI 8)) := rfl
theorem gf_45_1 : gf (hx S M N) 45 6 1 = some (.int (nI 5)) := rfl
theorem gf_45_2 : gf (hx S M N) 45 6 2 = some (.ref 46) := rfl
theorem gf_45_3 : gf (hx S M N) 45 6 3 = some (.int (M 45 3)) := rfl
theorem ok_45_3 : okI 45 6 3 = true := by decide +kernel
theorem oka_46 : okA 46 40 = true := by decide +kernel
theorem al_46 {k : Nat} (h : k < 40) : al (hx S M N) 46 (nI k) = some (M 46 k) := hx_alG oka_46 h
theorem sa_46 {k : Nat} {v : Int32} (h : k < 40) : sa (hx S M N) 46 (nI k) v = some (hx S (ux M 46 k v) N) := hx_saG oka_46 h
theorem an_46 : an (hx S M N) 46 = some (nI 40) := rfl
theorem ic_47 : isC (hx S M N) 47 6 = true := rfl
theorem gf_47_0 : gf (hx S M N) 47 6 0 = some (.int (nI 5)) := rfl
theorem gf_47_1 : gf (hx S M N) 47 6 1 = some (.int (nI 5)) := rfl
theorem gf_47_2 : gf (hx S M N) 47 6 2 = some (.ref 48) := rfl
theorem gf_47_3 : gf (hx S M N) 47 6 3 = some (.int (M 47 3)) := rfl
theorem ok_47_3 : okI 47 6 3 = true := by decide +kernel
theorem oka_48 : okA 48 25 = true := by decide +kernel
theorem al_48 {k : Nat} (h : k < 25) : al (hx S M N) 48 (nI k) = some (M 48 k) := hx_alG oka_48 h
theorem sa_48 {k : Nat} {v : Int32} (h : k < 25) : sa (hx S M N) 48 (nI k) v = some (hx S (ux M 48 k v) N) := hx_saG oka_48 h
theorem an_48 : an (hx S M N) 48 = some (nI 25) := rfl
theorem ic_49 : isC (hx S M N) 49 6 = true := rfl
theorem gf_49_0 : gf (hx S M N) 49 6 0 = some (.int (nI 9)) := rfl
theorem gf_49_1 : gf (hx S M N) 49 6 1 = some (.int (nI 4)) := rfl
theorem gf_49_2 : gf (hx S M N) 49 6 2 = some (.ref 50) := rfl
theorem gf_49_3 : gf (hx S M N) 49 6 3 = some (.int (M 49 3)) := rfl
theorem ok_49_3 : okI 49 6 3 = true := by decide +kernel
theorem oka_50 : okA 50 36 = true := by decide +kernel
theorem al_50 {k : Nat} (h : k < 36) : al (hx S M N) 50 (nI k) = some (M 50 k) := hx_alG oka_50 h
theorem sa_50 {k : Nat} {v : Int32} (h : k < 36) : sa (hx S M N) 50 (nI k) v = some (hx S (ux M 50 k v) N) := hx_saG oka_50 h
theorem an_50 : an (hx S M N) 50 = some (nI 36) := rfl
theorem ic_51 : isC (hx S M N) 51 6 = true := rfl
theorem gf_51_0 : gf (hx S M N) 51 6 0 = some (.int (nI 8)) := rfl
theorem gf_51_1 : gf (hx S M N) 51 6 1 = some (.int (nI 1)) := rfl
theorem gf_51_2 : gf (hx S M N) 51 6 2 = some (.ref 52) := rfl
theorem gf_51_3 : gf (hx S M N) 51 6 3 = some (.int (M 51 3)) := rfl
theorem ok_51_3 : okI 51 6 3 = true := by decide +kernel
theorem oka_52 : okA 52 8 = true := by decide +kernel
theorem al_52 {k : Nat} (h : k < 8) : al (hx S M N) 52 (nI k) = some (M 52 k) := hx_alG oka_52 h
theorem sa_52 {k : Nat} {v : Int32} (h : k < 8) : sa (hx S M N) 52 (nI k) v = some (hx S (ux M 52 k v) N) := hx_saG oka_52 h
theorem an_52 : an (hx S M N) 52 = some (nI 8) := rfl
theorem ic_53 : isC (hx S M N) 53 6 = true := rfl
theorem gf_53_0 : gf (hx S M N) 53 6 0 = some (.int (nI 6)) := rfl
theorem gf_53_1 : gf (hx S M N) 53 6 1 = some (.int (nI 11)) := rfl
theorem gf_53_2 : gf (hx S M N) 53 6 2 = some (.ref 54) := rfl
theorem gf_53_3 : gf (hx S M N) 53 6 3 = some (.int (M 53 3)) := rfl
theorem ok_53_3 : okI 53 6 3 = true := by decide +kernel
theorem oka_54 : okA 54 66 = true := by decide +kernel
theorem al_54 {k : Nat} (h : k < 66) : al (hx S M N) 54 (nI k) = some (M 54 k) := hx_alG oka_54 h
theorem sa_54 {k : Nat} {v : Int32} (h : k < 66) : sa (hx S M N) 54 (nI k) v = some (hx S (ux M 54 k v) N) := hx_saG oka_54 h
theorem an_54 : an (hx S M N) 54 = some (nI 66) := rfl
theorem ic_55 : isC (hx S M N) 55 2 = true := rfl
theorem gf_55_0 : gf (hx S M N) 55 2 0 = some (.ref 56) := rfl
theorem gf_55_1 : gf (hx S M N) 55 2 1 = some (.int (M 55 1)) := rfl
theorem ok_55_1 : okI 55 2 1 = true := by decide +kernel
theorem ic_56 : isC (hx S M N) 56 0 = true := rfl
theorem gf_56_0 : gf (hx S M N) 56 0 0 = some (.ref 57) := rfl
theorem gf_56_1 : gf (hx S M N) 56 0 1 = some (.ref 59) := rfl
theorem gf_56_2 : gf (hx S M N) 56 0 2 = some (.ref 61) := rfl
theorem gf_56_3 : gf (hx S M N) 56 0 3 = some (.ref 63) := rfl
theorem gf_56_4 : gf (hx S M N) 56 0 4 = some (.ref 65) := rfl
theorem gf_56_5 : gf (hx S M N) 56 0 5 = some (.int (M 56 5)) := rfl
theorem ok_56_5 : okI 56 0 5 = true := by decide +kernel
theorem gf_56_6 : gf (hx S M N) 56 0 6 = some (.int (M 56 6)) := rfl
theorem ok_56_6 : okI 56 0 6 = true := by decide +kernel
theorem ic_57 : isC (hx S M N) 57 6 = true := rfl
theorem gf_57_0 : gf (hx S M N) 57 6 0 = some (.int (nI 8)) := rfl
theorem gf_57_1 : gf (hx S M N) 57 6 1 = some (.int (nI 5)) := rfl
theorem gf_57_2 : gf (hx S M N) 57 6 2 = some (.ref 58) := rfl
theorem gf_57_3 : gf (hx S M N) 57 6 3 = some (.int (M 57 3)) := rfl
theorem ok_57_3 : okI 57 6 3 = true := by decide +kernel
theorem oka_58 : okA 58 40 = true := by decide +kernel
theorem al_58 {k : Nat} (h : k < 40) : al (hx S M N) 58 (nI k) = some (M 58 k) := hx_alG oka_58 h
theorem sa_58 {k : Nat} {v : Int32} (h : k < 40) : sa (hx S M N) 58 (nI k) v = some (hx S (ux M 58 k v) N) := hx_saG oka_58 h
theorem an_58 : an (hx S M N) 58 = some (nI 40) := rfl
theorem ic_59 : isC (hx S M N) 59 6 = true := rfl
theorem gf_59_0 : gf (hx S M N) 59 6 0 = some (.int (nI 5)) := rfl
theorem gf_59_1 : gf (hx S M N) 59 6 1 = some (.int (nI 5)) := rfl
theorem gf_59_2 : gf (hx S M N) 59 6 2 = some (.ref 60) := rfl
theorem gf_59_3 : gf (hx S M N) 59 6 3 = some (.int (M 59 3)) := rfl
theorem ok_59_3 : okI 59 6 3 = true := by decide +kernel
theorem oka_60 : okA 60 25 = true := by decide +kernel
theorem al_60 {k : Nat} (h : k < 25) : al (hx S M N) 60 (nI k) = some (M 60 k) := hx_alG oka_60 h
theorem sa_60 {k : Nat} {v : Int32} (h : k < 25) : sa (hx S M N) 60 (nI k) v = some (hx S (ux M 60 k v) N) := hx_saG oka_60 h
theorem an_60 : an (hx S M N) 60 = some (nI 25) := rfl
theorem ic_61 : isC (hx S M N) 61 6 = true := rfl
theorem gf_61_0 : gf (hx S M N) 61 6 0 = some (.int (nI 9)) := rfl
theorem gf_61_1 : gf (hx S M N) 61 6 1 = some (.int (nI 4)) := rfl
theorem gf_61_2 : gf (hx S M N) 61 6 2 = some (.ref 62) := rfl
theorem gf_61_3 : gf (hx S M N) 61 6 3 = some (.int (M 61 3)) := rfl
theorem ok_61_3 : okI 61 6 3 = true := by decide +kernel
theorem oka_62 : okA 62 36 = true := by decide +kernel
theorem al_62 {k : Nat} (h : k < 36) : al (hx S M N) 62 (nI k) = some (M 62 k) := hx_alG oka_62 h
theorem sa_62 {k : Nat} {v : Int32} (h : k < 36) : sa (hx S M N) 62 (nI k) v = some (hx S (ux M 62 k v) N) := hx_saG oka_62 h
theorem an_62 : an (hx S M N) 62 = some (nI 36) := rfl
theorem ic_63 : isC (hx S M N) 63 6 = true := rfl
theorem gf_63_0 : gf (hx S M N) 63 6 0 = some (.int (nI 8)) := rfl
theorem gf_63_1 : gf (hx S M N) 63 6 1 = some (.int (nI 1)) := rfl
theorem gf_63_2 : gf (hx S M N) 63 6 2 = some (.ref 64) := rfl
theorem gf_63_3 : gf (hx S M N) 63 6 3 = some (.int (M 63 3)) := rfl
theorem ok_63_3 : okI 63 6 3 = true := by decide +kernel
theorem oka_64 : okA 64 8 = true := by decide +kernel
theorem al_64 {k : Nat} (h : k < 8) : al (hx S M N) 64 (nI k) = some (M 64 k) := hx_alG oka_64 h
theorem sa_64 {k : Nat} {v : Int32} (h : k < 8) : sa (hx S M N) 64 (nI k) v = some (hx S (ux M 64 k v) N) := hx_saG oka_64 h
theorem an_64 : an (hx S M N) 64 = some (nI 8) := rfl
theorem ic_65 : isC (hx S M N) 65 6 = true := rfl
theorem gf_65_0 : gf (hx S M N) 65 6 0 = some (.int (nI 6)) := rfl
theorem gf_65_1 : gf (hx S M N) 65 6 1 = some (.int (nI 11)) := rfl
theorem gf_65_2 : gf (hx S M N) 65 6 2 = some (.ref 66) := rfl
theorem gf_65_3 : gf (hx S M N) 65 6 3 = some (.int (M 65 3)) := rfl
theorem ok_65_3 : okI 65 6 3 = true := by decide +kernel
theorem oka_66 : okA 66 66 = true := by decide +kernel
theorem al_66 {k : Nat} (h : k < 66) : al (hx S M N) 66 (nI k) = some (M 66 k) := hx_alG oka_66 h
theorem sa_66 {k : Nat} {v : Int32} (h : k < 66) : sa (hx S M N) 66 (nI k) v = some (hx S (ux M 66 k v) N) := hx_saG oka_66 h
theorem an_66 : an (hx S M N) 66 = some (nI 66) := rfl
theorem ic_67 : isC (hx S M N) 67 6 = true := rfl
theorem gf_67_0 : gf (hx S M N) 67 6 0 = some (.int (nI 150)) := rfl
theorem gf_67_1 : gf (hx S M N) 67 6 1 = some (.int (nI 1)) := rfl
theorem gf_67_2 : gf (hx S M N) 67 6 2 = some (.ref 68) := rfl
theorem gf_67_3 : gf (hx S M N) 67 6 3 = some (.int (M 67 3)) := rfl
theorem ok_67_3 : okI 67 6 3 = true := by decide +kernel
theorem oka_68 : okA 68 150 = true := by decide +kernel
theorem al_68 {k : Nat} (h : k < 150) : al (hx S M N) 68 (nI k) = some (M 68 k) := hx_alG oka_68 h
theorem sa_68 {k : Nat} {v : Int32} (h : k < 150) : sa (hx S M N) 68 (nI k) v = some (hx S (ux M 68 k v) N) := hx_saG oka_68 h
theorem an_68 : an (hx S M N) 68 = some (nI 150) := rfl
theorem ic_69 : isC (hx S M N) 69 5 = true := rfl
theorem gf_69_0 : gf (hx S M N) 69 5 0 = some (.ref 67) := rfl
theorem gf_69_1 : gf (hx S M N) 69 5 1 = some (.ref 70) := rfl
theorem gf_69_2 : gf (hx S M N) 69 5 2 = some (.int (M 69 2)) := rfl
theorem ok_69_2 : okI 69 5 2 = true := by decide +kernel
theorem gf_69_3 : gf (hx S M N) 69 5 3 = some (.int (M 69 3)) := rfl
theorem ok_69_3 : okI 69 5 3 = true := by decide +kernel
theorem gf_69_4 : gf (hx S M N) 69 5 4 = some (.int (M 69 4)) := rfl
theorem ok_69_4 : okI 69 5 4 = true := by decide +kernel
theorem gf_69_5 : gf (hx S M N) 69 5 5 = some (.int (M 69 5)) := rfl
theorem ok_69_5 : okI 69 5 5 = true := by decide +kernel
theorem ic_70 : isC (hx S M N) 70 6 = true := rfl
theorem gf_70_0 : gf (hx S M N) 70 6 0 = some (.int (nI 5)) := rfl
theorem gf_70_1 : gf (hx S M N) 70 6 1 = some (.int (nI 1)) := rfl
theorem gf_70_2 : gf (hx S M N) 70 6 2 = some (.ref 71) := rfl
theorem gf_70_3 : gf (hx S M N) 70 6 3 = some (.int (M 70 3)) := rfl
theorem ok_70_3 : okI 70 6 3 = true := by decide +kernel
theorem oka_71 : okA 71 5 = true := by decide +kernel
theorem al_71 {k : Nat} (h : k < 5) : al (hx S M N) 71 (nI k) = some (M 71 k) := hx_alG oka_71 h
theorem sa_71 {k : Nat} {v : Int32} (h : k < 5) : sa (hx S M N) 71 (nI k) v = some (hx S (ux M 71 k v) N) := hx_saG oka_71 h
theorem an_71 : an (hx S M N) 71 = some (nI 5) := rfl
theorem ic_72 : isC (hx S M N) 72 1 = true := rfl
theorem gf_72_0 : gf (hx S M N) 72 1 0 = some (.ref 21) := rfl
theorem gf_72_1 : gf (hx S M N) 72 1 1 = some (.int (M 72 1)) := rfl
theorem ok_72_1 : okI 72 1 1 = true := by decide +kernel
theorem gf_72_2 : gf (hx S M N) 72 1 2 = some (.int (M 72 2)) := rfl
theorem ok_72_2 : okI 72 1 2 = true := by decide +kernel
theorem gf_72_3 : gf (hx S M N) 72 1 3 = some (.int (M 72 3)) := rfl
theorem ok_72_3 : okI 72 1 3 = true := by decide +kernel
theorem ic_73 : isC (hx S M N) 73 8 = true := rfl
theorem gf_73_0 : gf (hx S M N) 73 8 0 = some (.ref 21) := rfl
theorem gf_73_1 : gf (hx S M N) 73 8 1 = some (.ref 76) := rfl
theorem gf_73_2 : gf (hx S M N) 73 8 2 = some (.ref 74) := rfl
theorem gf_73_3 : gf (hx S M N) 73 8 3 = some (.int (M 73 3)) := rfl
theorem ok_73_3 : okI 73 8 3 = true := by decide +kernel
theorem ic_74 : isC (hx S M N) 74 6 = true := rfl
theorem gf_74_0 : gf (hx S M N) 74 6 0 = some (.int (nI 8)) := rfl
theorem gf_74_1 : gf (hx S M N) 74 6 1 = some (.int (nI 2)) := rfl
theorem gf_74_2 : gf (hx S M N) 74 6 2 = some (.ref 75) := rfl
theorem gf_74_3 : gf (hx S M N) 74 6 3 = some (.int (M 74 3)) := rfl
theorem ok_74_3 : okI 74 6 3 = true := by decide +kernel
theorem oka_75 : okA 75 16 = true := by decide +kernel
theorem al_75 {k : Nat} (h : k < 16) : al (hx S M N) 75 (nI k) = some (M 75 k) := hx_alG oka_75 h
theorem sa_75 {k : Nat} {v : Int32} (h : k < 16) : sa (hx S M N) 75 (nI k) v = some (hx S (ux M 75 k v) N) := hx_saG oka_75 h
theorem an_75 : an (hx S M N) 75 = some (nI 16) := rfl
theorem ic_76 : isC (hx S M N) 76 1 = true := rfl
theorem gf_76_0 : gf (hx S M N) 76 1 0 = some (.ref 21) := rfl
theorem gf_76_1 : gf (hx S M N) 76 1 1 = some (.int (M 76 1)) := rfl
theorem ok_76_1 : okI 76 1 1 = true := by decide +kernel
theorem gf_76_2 : gf (hx S M N) 76 1 2 = some (.int (M 76 2)) := rfl
theorem ok_76_2 : okI 76 1 2 = true := by decide +kernel
theorem gf_76_3 : gf (hx S M N) 76 1 3 = some (.int (M 76 3)) := rfl
theorem ok_76_3 : okI 76 1 3 = true := by decide +kernel
theorem ic_77 : isC (hx S M N) 77 4 = true := rfl
theorem gf_77_0 : gf (hx S M N) 77 4 0 = some (.ref 21) := rfl
theorem gf_77_1 : gf (hx S M N) 77 4 1 = some (.int (M 77 1)) := rfl
theorem ok_77_1 : okI 77 4 1 = true := by decide +kernel
theorem gf_77_2 : gf (hx S M N) 77 4 2 = some (.int (M 77 2)) := rfl
theorem ok_77_2 : okI 77 4 2 = true := by decide +kernel
theorem ic_78 : isC (hx S M N) 78 3 = true := rfl
theorem gf_78_0 : gf (hx S M N) 78 3 0 = some (.ref 21) := rfl
theorem gf_78_1 : gf (hx S M N) 78 3 1 = some (.ref 79) := rfl
theorem gf_78_2 : gf (hx S M N) 78 3 2 = some (.ref 81) := rfl
theorem gf_78_3 : gf (hx S M N) 78 3 3 = some (.int (M 78 3)) := rfl
theorem ok_78_3 : okI 78 3 3 = true := by decide +kernel
theorem ic_79 : isC (hx S M N) 79 6 = true := rfl
theorem gf_79_0 : gf (hx S M N) 79 6 0 = some (.int (nI 4)) := rfl
theorem gf_79_1 : gf (hx S M N) 79 6 1 = some (.int (nI 1)) := rfl
theorem gf_79_2 : gf (hx S M N) 79 6 2 = some (.ref 80) := rfl
theorem gf_79_3 : gf (hx S M N) 79 6 3 = some (.int (M 79 3)) := rfl
theorem ok_79_3 : okI 79 6 3 = true := by decide +kernel
theorem oka_80 : okA 80 4 = true := by decide +kernel
theorem al_80 {k : Nat} (h : k < 4) : al (hx S M N) 80 (nI k) = some (M 80 k) := hx_alG oka_80 h
theorem sa_80 {k : Nat} {v : Int32} (h : k < 4) : sa (hx S M N) 80 (nI k) v = some (hx S (ux M 80 k v) N) := hx_saG oka_80 h
theorem an_80 : an (hx S M N) 80 = some (nI 4) := rfl
theorem ic_81 : isC (hx S M N) 81 6 = true := rfl
theorem gf_81_0 : gf (hx S M N) 81 6 0 = some (.int (nI 4)) := rfl
theorem gf_81_1 : gf (hx S M N) 81 6 1 = some (.int (nI 1)) := rfl
theorem gf_81_2 : gf (hx S M N) 81 6 2 = some (.ref 82) := rfl
theorem gf_81_3 : gf (hx S M N) 81 6 3 = some (.int (M 81 3)) := rfl
theorem ok_81_3 : okI 81 6 3 = true := by decide +kernel
theorem oka_82 : okA 82 4 = true := by decide +kernel
theorem al_82 {k : Nat} (h : k < 4) : al (hx S M N) 82 (nI k) = some (M 82 k) := hx_alG oka_82 h
theorem sa_82 {k : Nat} {v : Int32} (h : k < 4) : sa (hx S M N) 82 (nI k) v = some (hx S (ux M 82 k v) N) := hx_saG oka_82 h
theorem an_82 : an (hx S M N) 82 = some (nI 4) := rfl
theorem ic_83 : isC (hx S M N) 83 7 = true := rfl
theorem gf_83_0 : gf (hx S M N) 83 7 0 = some (.int (M 83 0)) := rfl
theorem ok_83_0 : okI 83 7 0 = true := by decide +kernel
theorem gf_83_1 : gf (hx S M N) 83 7 1 = some (.int (M 83 1)) := rfl
theorem ok_83_1 : okI 83 7 1 = true := by decide +kernel
theorem ic_84 : isC (hx S M N) 84 10 = true := rfl
theorem gf_84_0 : gf (hx S M N) 84 10 0 = some (.ref 85) := rfl
theorem gf_84_1 : gf (hx S M N) 84 10 1 = some (.ref 86) := rfl
theorem gf_84_2 : gf (hx S M N) 84 10 2 = some (.ref 87) := rfl
theorem gf_84_3 : gf (hx S M N) 84 10 3 = some (.ref 88) := rfl
theorem gf_84_4 : gf (hx S M N) 84 10 4 = some (.long (N 84 4)) := rfl
theorem ok_84_4 : okL 84 10 4 = true := by decide +kernel
theorem gf_84_5 : gf (hx S M N) 84 10 5 = some (.long (N 84 5)) := rfl
theorem ok_84_5 : okL 84 10 5 = true := by decide +kernel
theorem gf_84_6 : gf (hx S M N) 84 10 6 = some (.int (M 84 6)) := rfl
theorem ok_84_6 : okI 84 10 6 = true := by decide +kernel
theorem gf_84_7 : gf (hx S M N) 84 10 7 = some (.int (M 84 7)) := rfl
theorem ok_84_7 : okI 84 10 7 = true := by decide +kernel
theorem gf_84_8 : gf (hx S M N) 84 10 8 = some (.int (M 84 8)) := rfl
theorem ok_84_8 : okI 84 10 8 = true := by decide +kernel
theorem gf_84_9 : gf (hx S M N) 84 10 9 = some (.int (M 84 9)) := rfl
theorem ok_84_9 : okI 84 10 9 = true := by decide +kernel
theorem gf_84_10 : gf (hx S M N) 84 10 10 = some (.ref 89) := rfl
theorem gf_84_11 : gf (hx S M N) 84 10 11 = some (.ref 90) := rfl
theorem gf_84_12 : gf (hx S M N) 84 10 12 = some (.ref 91) := rfl
theorem gf_84_13 : gf (hx S M N) 84 10 13 = some (.ref 92) := rfl
theorem gf_84_14 : gf (hx S M N) 84 10 14 = some (.ref 93) := rfl
theorem gf_84_15 : gf (hx S M N) 84 10 15 = some (.ref 94) := rfl
theorem gf_84_16 : gf (hx S M N) 84 10 16 = some (.ref 95) := rfl
theorem gf_84_17 : gf (hx S M N) 84 10 17 = some (.int (M 84 17)) := rfl
theorem ok_84_17 : okI 84 10 17 = true := by decide +kernel
theorem gf_84_18 : gf (hx S M N) 84 10 18 = some (.ref 96) := rfl
theorem gf_84_19 : gf (hx S M N) 84 10 19 = some (.int (M 84 19)) := rfl
theorem ok_84_19 : okI 84 10 19 = true := by decide +kernel
theorem gf_84_20 : gf (hx S M N) 84 10 20 = some (.int (M 84 20)) := rfl
theorem ok_84_20 : okI 84 10 20 = true := by decide +kernel
theorem gf_84_21 : gf (hx S M N) 84 10 21 = some (.ref 97) := rfl
theorem gf_84_22 : gf (hx S M N) 84 10 22 = some (.ref 98) := rfl
theorem gf_84_23 : gf (hx S M N) 84 10 23 = some (.ref 99) := rfl
theorem gf_84_24 : gf (hx S M N) 84 10 24 = some (.int (M 84 24)) := rfl
theorem ok_84_24 : okI 84 10 24 = true := by decide +kernel
theorem gf_84_25 : gf (hx S M N) 84 10 25 = some (.int (M 84 25)) := rfl
theorem ok_84_25 : okI 84 10 25 = true := by decide +kernel
theorem gf_84_26 : gf (hx S M N) 84 10 26 = some (.int (M 84 26)) := rfl
theorem ok_84_26 : okI 84 10 26 = true := by decide +kernel
theorem gf_84_27 : gf (hx S M N) 84 10 27 = some (.int (M 84 27)) := rfl
theorem ok_84_27 : okI 84 10 27 = true := by decide +kernel
theorem gf_84_28 : gf (hx S M N) 84 10 28 = some (.int (M 84 28)) := rfl
theorem ok_84_28 : okI 84 10 28 = true := by decide +kernel
theorem gf_84_29 : gf (hx S M N) 84 10 29 = some (.ref 100) := rfl
theorem gf_84_30 : gf (hx S M N) 84 10 30 = some (.ref 101) := rfl
theorem oka_85 : okA 85 181 = true := by decide +kernel
theorem al_85 {k : Nat} (h : k < 181) : al (hx S M N) 85 (nI k) = some (M 85 k) := hx_alG oka_85 h
theorem sa_85 {k : Nat} {v : Int32} (h : k < 181) : sa (hx S M N) 85 (nI k) v = some (hx S (ux M 85 k v) N) := hx_saG oka_85 h
theorem an_85 : an (hx S M N) 85 = some (nI 181) := rfl
theorem oka_86 : okA 86 362 = true := by decide +kernel
theorem al_86 {k : Nat} (h : k < 362) : al (hx S M N) 86 (nI k) = some (M 86 k) := hx_alG oka_86 h
theorem sa_86 {k : Nat} {v : Int32} (h : k < 362) : sa (hx S M N) 86 (nI k) v = some (hx S (ux M 86 k v) N) := hx_saG oka_86 h
theorem an_86 : an (hx S M N) 86 = some (nI 362) := rfl
theorem oka_88 : okA 88 3 = true := by decide +kernel
theorem al_88 {k : Nat} (h : k < 3) : al (hx S M N) 88 (nI k) = some (M 88 k) := hx_alG oka_88 h
theorem sa_88 {k : Nat} {v : Int32} (h : k < 3) : sa (hx S M N) 88 (nI k) v = some (hx S (ux M 88 k v) N) := hx_saG oka_88 h
theorem an_88 : an (hx S M N) 88 = some (nI 3) := rfl
theorem oka_89 : okA 89 8 = true := by decide +kernel
theorem al_89 {k : Nat} (h : k < 8) : al (hx S M N) 89 (nI k) = some (M 89 k) := hx_alG oka_89 h
theorem sa_89 {k : Nat} {v : Int32} (h : k < 8) : sa (hx S M N) 89 (nI k) v = some (hx S (ux M 89 k v) N) := hx_saG oka_89 h
theorem an_89 : an (hx S M N) 89 = some (nI 8) := rfl
theorem oka_90 : okA 90 6 = true := by decide +kernel
theorem al_90 {k : Nat} (h : k < 6) : al (hx S M N) 90 (nI k) = some (M 90 k) := hx_alG oka_90 h
theorem sa_90 {k : Nat} {v : Int32} (h : k < 6) : sa (hx S M N) 90 (nI k) v = some (hx S (ux M 90 k v) N) := hx_saG oka_90 h
theorem an_90 : an (hx S M N) 90 = some (nI 6) := rfl
theorem oka_91 : okA 91 6 = true := by decide +kernel
theorem al_91 {k : Nat} (h : k < 6) : al (hx S M N) 91 (nI k) = some (M 91 k) := hx_alG oka_91 h
theorem sa_91 {k : Nat} {v : Int32} (h : k < 6) : sa (hx S M N) 91 (nI k) v = some (hx S (ux M 91 k v) N) := hx_saG oka_91 h
theorem an_91 : an (hx S M N) 91 = some (nI 6) := rfl
theorem oka_92 : okA 92 6 = true := by decide +kernel
theorem al_92 {k : Nat} (h : k < 6) : al (hx S M N) 92 (nI k) = some (M 92 k) := hx_alG oka_92 h
theorem sa_92 {k : Nat} {v : Int32} (h : k < 6) : sa (hx S M N) 92 (nI k) v = some (hx S (ux M 92 k v) N) := hx_saG oka_92 h
theorem an_92 : an (hx S M N) 92 = some (nI 6) := rfl
theorem oka_93 : okA 93 6 = true := by decide +kernel
theorem al_93 {k : Nat} (h : k < 6) : al (hx S M N) 93 (nI k) = some (M 93 k) := hx_alG oka_93 h
theorem sa_93 {k : Nat} {v : Int32} (h : k < 6) : sa (hx S M N) 93 (nI k) v = some (hx S (ux M 93 k v) N) := hx_saG oka_93 h
theorem an_93 : an (hx S M N) 93 = some (nI 6) := rfl
theorem oka_94 : okA 94 6 = true := by decide +kernel
theorem al_94 {k : Nat} (h : k < 6) : al (hx S M N) 94 (nI k) = some (M 94 k) := hx_alG oka_94 h
theorem sa_94 {k : Nat} {v : Int32} (h : k < 6) : sa (hx S M N) 94 (nI k) v = some (hx S (ux M 94 k v) N) := hx_saG oka_94 h
theorem an_94 : an (hx S M N) 94 = some (nI 6) := rfl
theorem oka_95 : okA 95 6 = true := by decide +kernel
theorem al_95 {k : Nat} (h : k < 6) : al (hx S M N) 95 (nI k) = some (M 95 k) := hx_alG oka_95 h
theorem sa_95 {k : Nat} {v : Int32} (h : k < 6) : sa (hx S M N) 95 (nI k) v = some (hx S (ux M 95 k v) N) := hx_saG oka_95 h
theorem an_95 : an (hx S M N) 95 = some (nI 6) := rfl
theorem oka_96 : okA 96 4 = true := by decide +kernel
theorem al_96 {k : Nat} (h : k < 4) : al (hx S M N) 96 (nI k) = some (M 96 k) := hx_alG oka_96 h
theorem sa_96 {k : Nat} {v : Int32} (h : k < 4) : sa (hx S M N) 96 (nI k) v = some (hx S (ux M 96 k v) N) := hx_saG oka_96 h
theorem an_96 : an (hx S M N) 96 = some (nI 4) := rfl
theorem oka_97 : okA 97 6 = true := by decide +kernel
theorem al_97 {k : Nat} (h : k < 6) : al (hx S M N) 97 (nI k) = some (M 97 k) := hx_alG oka_97 h
theorem sa_97 {k : Nat} {v : Int32} (h : k < 6) : sa (hx S M N) 97 (nI k) v = some (hx S (ux M 97 k v) N) := hx_saG oka_97 h
theorem an_97 : an (hx S M N) 97 = some (nI 6) := rfl
theorem oka_98 : okA 98 3 = true := by decide +kernel
theorem al_98 {k : Nat} (h : k < 3) : al (hx S M N) 98 (nI k) = some (M 98 k) := hx_alG oka_98 h
theorem sa_98 {k : Nat} {v : Int32} (h : k < 3) : sa (hx S M N) 98 (nI k) v = some (hx S (ux M 98 k v) N) := hx_saG oka_98 h
theorem an_98 : an (hx S M N) 98 = some (nI 3) := rfl
theorem oka_99 : okA 99 150 = true := by decide +kernel
theorem al_99 {k : Nat} (h : k < 150) : al (hx S M N) 99 (nI k) = some (M 99 k) := hx_alG oka_99 h
theorem sa_99 {k : Nat} {v : Int32} (h : k < 150) : sa (hx S M N) 99 (nI k) v = some (hx S (ux M 99 k v) N) := hx_saG oka_99 h
theorem an_99 : an (hx S M N) 99 = some (nI 150) := rfl
theorem oka_100 : okA 100 181 = true := by decide +kernel
theorem al_100 {k : Nat} (h : k < 181) : al (hx S M N) 100 (nI k) = some (M 100 k) := hx_alG oka_100 h
theorem sa_100 {k : Nat} {v : Int32} (h : k < 181) : sa (hx S M N) 100 (nI k) v = some (hx S (ux M 100 k v) N) := hx_saG oka_100 h
theorem an_100 : an (hx S M N) 100 = some (nI 181) := rfl
theorem oka_101 : okA 101 5 = true := by decide +kernel
theorem al_101 {k : Nat} (h : k < 5) : al (hx S M N) 101 (nI k) = some (M 101 k) := hx_alG oka_101 h
theorem sa_101 {k : Nat} {v : Int32} (h : k < 5) : sa (hx S M N) 101 (nI k) v = some (hx S (ux M 101 k v) N) := hx_saG oka_101 h
theorem an_101 : an (hx S M N) 101 = some (nI 5) := rfl
end Hx
