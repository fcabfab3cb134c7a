/-! ===== what holds between the calls: class and reference alike ===== -/
def IM (M : ax_M) : Prop := M 43 1 = M 87 0 ∧ M 55 1 = M 87 1 ∧ (M 87 0 = nI 0 ∨ (M 87 0 = nI 1 ∧ RC M 44 (M 86) ∧ WF (M 86))) ∧ (M 87 1 = nI 0 ∨ (M 87 1 = nI 1 ∧ RC M 56 (fun j => M 86 (181 + j)) ∧ WF (fun j => M 86 (181 + j))))
def TX (M : ax_M) : Prop := ∃ t : Nat, t ≤ 150 ∧ M 67 3 = nI t ∧ M 84 24 = nI t ∧ ∀ i, i < t → M 68 i = M 99 i ∧ ∃ c : Nat, c < 128 ∧ M 99 i = nI c
def ST3 (M : ax_M) : Prop := M 20 13 = M 88 0 ∧ M 20 14 = M 88 1 ∧ M 20 15 = M 88 2
def FR (N : ax_L) : Prop := N 20 11 = N 84 4 ∧ N 20 12 = N 84 5
def Inv (M : ax_M) (N : ax_L) : Prop := RC M 21 (M 85) ∧ WF (M 85) ∧ IM M ∧ TX M ∧ ST3 M ∧ FR N
theorem RC_keepc {M M2 : ax_M} {c : Nat} {A : ax_A0} (h : ∀ a, c ≤ a → a ≤ c + 10 → M2 a = M a) (hC : RC M c A) : RC M2 c A := by
  unfold RC at hC ⊢
  rw [h c (by omega) (by omega), h (c + 1) (by omega) (by omega), h (c + 2) (by omega) (by omega), h (c + 3) (by omega) (by omega), h (c + 4) (by omega) (by omega), h (c + 5) (by omega) (by omega), h (c + 6) (by omega) (by omega), h (c + 7) (by omega) (by omega), h (c + 8) (by omega) (by omega), h (c + 9) (by omega) (by omega), h (c + 10) (by omega) (by omega)]
  exact hC
/-- images alike -/
theorem IM_keep {M M2 : ax_M} (h : ∀ a, 43 ≤ a → a ≤ 66 → M2 a = M a) (h6 : M2 86 = M 86) (h7 : M2 87 = M 87) (hI : IM M) : IM M2 := by
  obtain ⟨i1, i2, i3, i4⟩ := hI
  refine ⟨by rw [h 43 (by omega) (by omega), h7]; exact i1, by rw [h 55 (by omega) (by omega), h7]; exact i2, ?_, ?_⟩
  · rw [h6, h7]
    exact i3.imp id (fun q => ⟨q.1, RC_keepc (fun a h1 h2 => h a (by omega) (by omega)) q.2.1, q.2.2⟩)
  · rw [h6, h7]
    exact i4.imp id (fun q => ⟨q.1, RC_keepc (fun a h1 h2 => h a (by omega) (by omega)) q.2.1, q.2.2⟩)
theorem TX_keep {M M2 : ax_M} (h7 : M2 67 = M 67) (h8 : M2 68 = M 68) (h9 : M2 99 = M 99) (h4 : M2 84 24 = M 84 24) (hT : TX M) : TX M2 := by
  obtain ⟨t, t1, t2, t3, t4⟩ := hT
  exact ⟨t, t1, by rw [h7]; exact t2, by rw [h4]; exact t3, by rw [h8, h9]; exact t4⟩
/-- what a call may change freely -/
def sc (M M2 : ax_M) : Prop := (∀ a, (20 ≤ a ∧ a ≤ 31) ∨ (43 ≤ a ∧ a ≤ 68) ∨ (85 ≤ a ∧ a ≤ 88) ∨ a = 99 → M2 a = M a) ∧ M2 84 24 = M 84 24
theorem sc_rf {M : ax_M} : sc M M := ⟨fun _ _ => rfl, rfl⟩
theorem sc_tr {M M2 M3 : ax_M} (h1 : sc M M2) (h2 : sc M2 M3) : sc M M3 := ⟨fun a h => (h2.1 a h).trans (h1.1 a h), h2.2.trans h1.2⟩
theorem sc_ux {M M2 : ax_M} {a j : Nat} {v : Int32} (h : sc M M2) (ha : (32 ≤ a ∧ a ≤ 42) ∨ (69 ≤ a ∧ a ≤ 83) ∨ (89 ≤ a ∧ a ≤ 98) ∨ 100 ≤ a ∨ (a = 84 ∧ j ≠ 24)) : sc M (ux M2 a j v) := by
  refine ⟨fun b hb => ?_, ?_⟩
  · rw [ux_f (by omega)]; exact h.1 b hb
  · by_cases e : a = 84
    · subst e
      rw [ux_j (by omega)]; exact h.2
    · rw [ux_a (Ne.symm e)]; exact h.2
theorem sc_ev {M M2 : ax_M} {e : Nat} {v : ax_V} (h : sc M M2) (he : e = 72 ∨ e = 76) : sc M (evM M2 e v) := by
  refine ⟨fun b hb => ?_, ?_⟩
  · rw [evM_o (by omega)]; exact h.1 b hb
  · rw [evM_o (by omega)]; exact h.2
theorem sc_rv {M M2 : ax_M} {v : ax_V} (h : sc M M2) : sc M (rvM M2 v) := by
  refine ⟨fun b hb => ?_, ?_⟩
  · rw [rvM_o (by omega)]; exact h.1 b hb
  · rw [rvM_j (by decide) (by decide) (by decide) (by decide)]; exact h.2
theorem Inv_sc {M M2 : ax_M} {N : ax_L} (h : sc M M2) (hI : Inv M N) : Inv M2 N := by
  obtain ⟨i1, i2, i3, i4, i5, i6⟩ := hI
  have k := h.1
  refine ⟨?_, by rw [k 85 (by omega)]; exact i2, IM_keep (fun a h1 h2 => k a (by omega)) (k 86 (by omega)) (k 87 (by omega)) i3, TX_keep (k 67 (by omega)) (k 68 (by omega)) (k 99 (by omega)) h.2 i4, ?_, i6⟩
  · rw [k 85 (by omega)]
    exact RC_keepc (fun a h1 h2 => k a (by omega)) i1
  · unfold ST3
    rw [k 20 (by omega), k 88 (by omega)]
    exact i5
/-- the court alone is another one -/
theorem Inv_court {M M2 : ax_M} {N : ax_L} {A : ax_A0} (hC : RC M2 21 A) (hA : M2 85 = A) (hW : WF A) (h : ∀ a, a = 20 ∨ (43 ≤ a ∧ a ≤ 68) ∨ (86 ≤ a ∧ a ≤ 88) ∨ a = 99 → M2 a = M a) (h4 : M2 84 24 = M 84 24) (hI : Inv M N) : Inv M2 N := by
  obtain ⟨i1, i2, i3, i4, i5, i6⟩ := hI
  refine ⟨by rw [hA]; exact hC, by rw [hA]; exact hW, IM_keep (fun a h1 h2 => h a (by omega)) (h 86 (by omega)) (h 87 (by omega)) i3, TX_keep (h 67 (by omega)) (h 68 (by omega)) (h 99 (by omega)) h4 i4, ?_, i6⟩
  unfold ST3
  rw [h 20 (by omega), h 88 (by omega)]
  exact i5
theorem Inv_st {M M2 : ax_M} {N : ax_L} (h : ∀ a, (21 ≤ a ∧ a ≤ 31) ∨ (43 ≤ a ∧ a ≤ 68) ∨ (85 ≤ a ∧ a ≤ 87) ∨ a = 99 → M2 a = M a) (h4 : M2 84 24 = M 84 24) (hs : ST3 M2) (hI : Inv M N) : Inv M2 N := by
  obtain ⟨i1, i2, i3, i4, i5, i6⟩ := hI
  refine ⟨?_, by rw [h 85 (by omega)]; exact i2, IM_keep (fun a h1 h2 => h a (by omega)) (h 86 (by omega)) (h 87 (by omega)) i3, TX_keep (h 67 (by omega)) (h 68 (by omega)) (h 99 (by omega)) h4 i4, hs, i6⟩
  rw [h 85 (by omega)]
  exact RC_keepc (fun a h1 h2 => h a (by omega)) i1
/-- refused as BAD (0), NO (1), FULL (2) by both -/
def rjM (M : ax_M) (k : Nat) : ax_M := ux (ux M 20 (13 + k) (M 20 (13 + k) + nI 1)) 88 k (M 88 k + nI 1)
theorem Inv_rj {M : ax_M} {N : ax_L} {k : Nat} (hk : k < 3) (hI : Inv M N) : Inv (rjM M k) N := by
  have i5 := hI.2.2.2.2.1
  refine Inv_st (fun a h => ?_) ?_ ?_ hI
  · unfold rjM; rw [ux_f (by omega), ux_f (by omega)]
  · unfold rjM; rw [ux_a (by decide), ux_a (by decide)]
  · obtain ⟨a, b, c⟩ := i5
    unfold ST3 rjM
    rcases (show k = 0 ∨ k = 1 ∨ k = 2 by omega) with rfl | rfl | rfl
    · refine ⟨?_, ?_, ?_⟩
      · rw [ux_a (by decide), ux_s, ux_s, a]
      · rw [ux_a (by decide), ux_j (by decide), ux_j (by decide), ux_a (by decide), b]
      · rw [ux_a (by decide), ux_j (by decide), ux_j (by decide), ux_a (by decide), c]
    · refine ⟨?_, ?_, ?_⟩
      · rw [ux_a (by decide), ux_j (by decide), ux_j (by decide), ux_a (by decide), a]
      · rw [ux_a (by decide), ux_s, ux_s, b]
      · rw [ux_a (by decide), ux_j (by decide), ux_j (by decide), ux_a (by decide), c]
    · refine ⟨?_, ?_, ?_⟩
      · rw [ux_a (by decide), ux_j (by decide), ux_j (by decide), ux_a (by decide), a]
      · rw [ux_a (by decide), ux_j (by decide), ux_j (by decide), ux_a (by decide), b]
      · rw [ux_a (by decide), ux_s, ux_s, c]
/-- a call answers alike: ints, longs -/
def RPi (zc zm : Nat) (lc lm : List Value) (M : ax_M) (N : ax_L) : Prop := ∃ (v : Int32) (M1 : ax_M) (N1 : ax_L) (M2 : ax_M) (N2 : ax_L), (∀ (S : ax_S) (d n : Nat) (Q : Option Value → Nat → ax_H → Prop), ax_W (d + 900) zc 0 lc [] n (hx S M N) Q = Q (some (.int v)) n (hx S M1 N1)) ∧ (∀ (S : ax_S) (d n : Nat) (Q : Option Value → Nat → ax_H → Prop), ax_W (d + 900) zm 0 lm [] n (hx S M1 N1) Q = Q (some (.int v)) n (hx S M2 N2)) ∧ Inv M2 N2
def RPl (zc zm : Nat) (lc lm : List Value) (M : ax_M) (N : ax_L) : Prop := ∃ (v : Int64) (M1 : ax_M) (N1 : ax_L) (M2 : ax_M) (N2 : ax_L), (∀ (S : ax_S) (d n : Nat) (Q : Option Value → Nat → ax_H → Prop), ax_W (d + 900) zc 0 lc [] n (hx S M N) Q = Q (some (.long v)) n (hx S M1 N1)) ∧ (∀ (S : ax_S) (d n : Nat) (Q : Option Value → Nat → ax_H → Prop), ax_W (d + 900) zm 0 lm [] n (hx S M1 N1) Q = Q (some (.long v)) n (hx S M2 N2)) ∧ Inv M2 N2
theorem refM_b {M : ax_M} : refM M (-2) = ux M 20 13 (M 20 13 + nI 1) := by unfold refM; rw [if_pos rfl]
theorem refM_n {M : ax_M} : refM M (-3) = ux M 20 14 (M 20 14 + nI 1) := by unfold refM; rw [if_neg (by decide), if_pos rfl]
theorem refM_f {M : ax_M} : refM M (-4) = ux M 20 15 (M 20 15 + nI 1) := by unfold refM; rw [if_neg (by decide), if_neg (by decide)]
theorem ux88 {M : ax_M} {j k : Nat} {v : Int32} : ux M 20 j v 88 k = M 88 k := ux_a (by decide)
/-! the court's parts, each by the places that it speaks of -/
theorem WF_up {A B : ax_A0} (hW : WF A) (h0 : B 0 = A 0) (h1 : B 1 = A 1) (h3 : B 3 = A 3) (h4 : B 4 = A 4) (h5 : B 5 = A 5) (hl : -(30 + 24 * (ncA A : Int)) ≤ leA B ∧ leA B ≤ 30 + 24 * (ncA A : Int)) (hd : ∀ i, 6 ≤ i → i < 46 → B i = A i) (hb : ∀ a b, a < 5 → b < 5 → -3 ≤ bkA B a b ∧ bkA B a b ≤ 3) (hr : ∀ i, 71 ≤ i → i < 181 → B i = A i) : WF B := by
  have e0 : ndA B = ndA A := by unfold ndA; rw [h0]
  have e1 : huA B = huA A := by unfold huA; rw [h1]
  have e3 : ncA B = ncA A := by unfold ncA; rw [h3]
  have e4 : nmA B = nmA A := by unfold nmA; rw [h4]
  have e5 : nrA B = nrA A := by unfold nrA; rw [h5]
  obtain ⟨w0, w1, w3, w4, w5, wl, wd, wb, wc, ws, wm, wn, wr⟩ := hW
  have n8 := w0.2
  have esv : ∀ k, k ≤ ncA A → svA B k = svA A k := by
    intro k
    induction k with
    | zero => intro _; rfl
    | succ k ih => intro hk; show addB (svA B k) (tn (B (71 + 4 * k))) = addB (svA A k) (tn (A (71 + 4 * k))); rw [ih (by omega), hr _ (by omega) (by have := w3.2; omega)]
  have emn : ∀ k, k ≤ nmA A → mnA B k = mnA A k := by
    intro k
    induction k with
    | zero => intro _; rfl
    | succ k ih => intro hk; show addB (mnA B k) (tn (B (107 + k))) = addB (mnA A k) (tn (A (107 + k))); rw [ih (by omega), hr _ (by omega) (by have := w4.2; omega)]
  refine ⟨by rw [h0, e0]; exact w0, by rw [h1, e1]; exact w1, by rw [h3, e3]; exact w3, by rw [h4, e4]; exact w4, by rw [h5, e5]; exact w5, by rw [e3]; exact hl, ?_, hb, ?_, ?_, ?_, ?_, ?_⟩
  · intro d hdd
    rw [e0] at hdd
    unfold kdA taA foA buA coA
    rw [hd _ (by omega) (by omega), hd _ (by omega) (by omega), hd _ (by omega) (by omega), hd _ (by omega) (by omega), hd _ (by omega) (by omega)]
    exact wd d hdd
  · intro i hi
    rw [e3] at hi
    rw [e0]
    unfold cdA
    have := w3.2
    rw [hr _ (by omega) (by omega), hr _ (by omega) (by omega), hr _ (by omega) (by omega)]
    exact wc i hi
  · intro k hk
    rw [e3] at hk
    rw [esv k hk]
    exact ws k hk
  · intro i hi
    rw [e4] at hi
    rw [e0]
    unfold mdA
    have := w4.2
    rw [hr _ (by omega) (by omega)]
    exact wm i hi
  · intro k hk
    rw [e4] at hk
    rw [emn k hk]
    exact wn k hk
  · intro r hr2
    rw [e5] at hr2
    rw [e0]
    have := w5.2
    obtain ⟨x1, x2, x3, x4⟩ := wr r hr2
    rw [hr _ (by omega) (by omega), hr _ (by omega) (by omega), hr (117 + 11 * r) (by omega) (by omega)]
    refine ⟨x1, x2, x3, fun k hk => ?_⟩
    have := x3.2
    rw [hr _ (by omega) (by omega)]
    exact x4 k hk
