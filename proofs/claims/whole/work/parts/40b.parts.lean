/-! ===== the invariant part by part ===== -/
def WFd (A : ax_A0) : Prop := (A 0 = nI (ndA A) ∧ ndA A ≤ 8) ∧ (A 1 = nI (huA A) ∧ huA A ≤ 9) ∧ ∀ d, d < ndA A → (A (6 + 5 * d) = nI (kdA A d) ∧ kdA A d ≤ 5) ∧ (A (7 + 5 * d) = nI (taA A d) ∧ taA A d ≤ 4) ∧ (A (8 + 5 * d) = nI (foA A d) ∧ 1 ≤ foA A d ∧ foA A d ≤ 9) ∧ (A (9 + 5 * d) = nI (buA A d) ∧ buA A d ≤ 9) ∧ (A (10 + 5 * d) = nI (coA A d) ∧ coA A d ≤ 2)
def WFb (A : ax_A0) : Prop := ∀ a b, a < 5 → b < 5 → -3 ≤ bkA A a b ∧ bkA A a b ≤ 3
def WFc (A : ax_A0) : Prop := (A 3 = nI (ncA A) ∧ ncA A ≤ 8) ∧ (-(30 + 24 * (ncA A : Int)) ≤ leA A ∧ leA A ≤ 30 + 24 * (ncA A : Int)) ∧ (∀ i, i < ncA A → (A (71 + 4 * i) = nI (cdA A i) ∧ cdA A i < ndA A) ∧ (A (72 + 4 * i) = nI 0 ∨ A (72 + 4 * i) = nI 1) ∧ (-(30 + 24 * (i : Int)) ≤ (A (74 + 4 * i)).toInt ∧ (A (74 + 4 * i)).toInt ≤ 30 + 24 * (i : Int))) ∧ ∀ k, k ≤ ncA A → pop (svA A k) = k
def WFm (A : ax_A0) : Prop := (A 4 = nI (nmA A) ∧ nmA A ≤ 8) ∧ (∀ i, i < nmA A → A (107 + i) = nI (mdA A i) ∧ mdA A i < ndA A) ∧ ∀ k, k ≤ nmA A → pop (mnA A k) = k
def WFr (A : ax_A0) : Prop := (A 5 = nI (nrA A) ∧ nrA A ≤ 6) ∧ ∀ r, r < nrA A → (A (115 + 11 * r) = nI 0 ∨ A (115 + 11 * r) = nI 1) ∧ (A (116 + 11 * r) = nI (tn (A (116 + 11 * r))) ∧ tn (A (116 + 11 * r)) ≤ 2) ∧ (A (117 + 11 * r) = nI (tn (A (117 + 11 * r))) ∧ tn (A (117 + 11 * r)) ≤ 8) ∧ ∀ k, k < tn (A (117 + 11 * r)) → A (118 + 11 * r + k) = nI (tn (A (118 + 11 * r + k))) ∧ tn (A (118 + 11 * r + k)) < ndA A
theorem WF_mk {A : ax_A0} (hd : WFd A) (hb : WFb A) (hc : WFc A) (hm : WFm A) (hr : WFr A) : WF A := ⟨hd.1, hd.2.1, hc.1, hm.1, hr.1, hc.2.1, hd.2.2, hb, hc.2.2.1, hc.2.2.2, hm.2.1, hm.2.2, hr.2⟩
theorem WF.d {A : ax_A0} (h : WF A) : WFd A := ⟨h.1, h.2.1, h.2.2.2.2.2.2.1⟩
theorem WF.b {A : ax_A0} (h : WF A) : WFb A := h.2.2.2.2.2.2.2.1
theorem WF.c {A : ax_A0} (h : WF A) : WFc A := ⟨h.2.2.1, h.2.2.2.2.2.1, h.2.2.2.2.2.2.2.2.1, h.2.2.2.2.2.2.2.2.2.1⟩
theorem WF.m {A : ax_A0} (h : WF A) : WFm A := ⟨h.2.2.2.1, h.2.2.2.2.2.2.2.2.2.2.1, h.2.2.2.2.2.2.2.2.2.2.2.1⟩
theorem WF.r {A : ax_A0} (h : WF A) : WFr A := ⟨h.2.2.2.2.1, h.2.2.2.2.2.2.2.2.2.2.2.2⟩
theorem svA_eq {A B : ax_A0} : ∀ k, (∀ i, i < k → B (71 + 4 * i) = A (71 + 4 * i)) → svA B k = svA A k := by
  intro k
  induction k with
  | zero => intro _; rfl
  | succ k ih => intro h; show addB (svA B k) (tn (B (71 + 4 * k))) = addB (svA A k) (tn (A (71 + 4 * k))); rw [ih (fun i hi => h i (by omega)), h k (by omega)]
theorem mnA_eq {A B : ax_A0} : ∀ k, (∀ i, i < k → B (107 + i) = A (107 + i)) → mnA B k = mnA A k := by
  intro k
  induction k with
  | zero => intro _; rfl
  | succ k ih => intro h; show addB (mnA B k) (tn (B (107 + k))) = addB (mnA A k) (tn (A (107 + k))); rw [ih (fun i hi => h i (by omega)), h k (by omega)]
theorem WFd_eq {A B : ax_A0} (h0 : B 0 = A 0) (h1 : B 1 = A 1) (hd : ∀ i, 6 ≤ i → i < 46 → B i = A i) (h : WFd A) : WFd B := by
  have e0 : ndA B = ndA A := by unfold ndA; rw [h0]
  have e1 : huA B = huA A := by unfold huA; rw [h1]
  obtain ⟨w0, w1, w2⟩ := h
  refine ⟨by rw [h0, e0]; exact w0, by rw [h1, e1]; exact w1, fun d hdd => ?_⟩
  rw [e0] at hdd
  have := w0.2
  unfold kdA taA foA buA coA
  rw [hd _ (by omega) (by omega), hd _ (by omega) (by omega), hd _ (by omega) (by omega), hd _ (by omega) (by omega), hd _ (by omega) (by omega)]
  exact w2 d hdd
theorem WFb_eq {A B : ax_A0} (hd : ∀ i, 46 ≤ i → i < 71 → B i = A i) (h : WFb A) : WFb B := by
  intro a b ha hb
  unfold bkA
  rw [hd _ (by omega) (by omega)]
  exact h a b ha hb
theorem WFc_eq {A B : ax_A0} (h0 : ndA A ≤ ndA B) (h2 : B 2 = A 2) (h3 : B 3 = A 3) (hd : ∀ i, 71 ≤ i → i < 107 → B i = A i) (h : WFc A) : WFc B := by
  have e3 : ncA B = ncA A := by unfold ncA; rw [h3]
  obtain ⟨w0, w1, w2, w3⟩ := h
  have := w0.2
  refine ⟨by rw [h3, e3]; exact w0, by unfold leA; rw [h2, e3]; exact w1, fun i hi => ?_, fun k hk => ?_⟩
  · rw [e3] at hi
    unfold cdA
    rw [hd _ (by omega) (by omega), hd _ (by omega) (by omega), hd _ (by omega) (by omega)]
    obtain ⟨⟨x1, x2⟩, x3⟩ := w2 i hi
    exact ⟨⟨x1, Nat.lt_of_lt_of_le x2 h0⟩, x3⟩
  · rw [e3] at hk
    rw [svA_eq k (fun i hi => hd _ (by omega) (by omega))]
    exact w3 k hk
theorem WFm_eq {A B : ax_A0} (h0 : ndA A ≤ ndA B) (h4 : B 4 = A 4) (hd : ∀ i, 107 ≤ i → i < 115 → B i = A i) (h : WFm A) : WFm B := by
  have e4 : nmA B = nmA A := by unfold nmA; rw [h4]
  obtain ⟨w0, w1, w2⟩ := h
  have := w0.2
  refine ⟨by rw [h4, e4]; exact w0, fun i hi => ?_, fun k hk => ?_⟩
  · rw [e4] at hi
    unfold mdA
    rw [hd _ (by omega) (by omega)]
    exact ⟨(w1 i hi).1, Nat.lt_of_lt_of_le (w1 i hi).2 h0⟩
  · rw [e4] at hk
    rw [mnA_eq k (fun i hi => hd _ (by omega) (by omega))]
    exact w2 k hk
theorem WFr_eq {A B : ax_A0} (h0 : ndA A ≤ ndA B) (h5 : B 5 = A 5) (hd : ∀ i, 115 ≤ i → i < 181 → B i = A i) (h : WFr A) : WFr B := by
  have e5 : nrA B = nrA A := by unfold nrA; rw [h5]
  obtain ⟨w0, w1⟩ := h
  have := w0.2
  refine ⟨by rw [h5, e5]; exact w0, fun r hr => ?_⟩
  rw [e5] at hr
  obtain ⟨x1, x2, x3, x4⟩ := w1 r hr
  rw [hd _ (by omega) (by omega), hd (116 + 11 * r) (by omega) (by omega), hd (117 + 11 * r) (by omega) (by omega)]
  refine ⟨x1, x2, x3, fun k hk => ?_⟩
  have := x3.2
  rw [hd _ (by omega) (by omega)]
  exact ⟨(x4 k hk).1, Nat.lt_of_lt_of_le (x4 k hk).2 h0⟩
theorem WFm_0 {A : ax_A0} (h : A 4 = nI 0) : WFm A := by
  have e : nmA A = 0 := by unfold nmA; rw [h]; rfl
  refine ⟨by rw [h, e]; exact ⟨rfl, by omega⟩, fun i hi => ?_, fun k hk => ?_⟩
  · omega
  · rw [show k = 0 by omega]; exact (by decide : pop 0 = 0)
theorem WFr_0 {A : ax_A0} (h : A 5 = nI 0) : WFr A := by
  have e : nrA A = 0 := by unfold nrA; rw [h]; rfl
  exact ⟨by rw [h, e]; exact ⟨rfl, by omega⟩, fun i hi => by omega⟩
theorem WFc_0 {A : ax_A0} (h : A 3 = nI 0) (hl : -30 ≤ leA A ∧ leA A ≤ 30) : WFc A := by
  have e : ncA A = 0 := by unfold ncA; rw [h]; rfl
  refine ⟨by rw [h, e]; exact ⟨rfl, by omega⟩, by rw [e]; simpa using hl, fun i hi => by omega, fun k hk => ?_⟩
  rw [show k = 0 by omega]; exact (by decide : pop 0 = 0)
/-! the class's court -/
def RCd (M : ax_M) (c : Nat) (A : ax_A0) : Prop := M (c + 1) 3 = A 0 ∧ ∀ i, i < 5 * ndA A → M (c + 2) i = A (6 + i)
def RCb (M : ax_M) (c : Nat) (A : ax_A0) : Prop := M (c + 3) 3 = nI 5 ∧ ∀ i, i < 25 → M (c + 4) i = A (46 + i)
def RCc (M : ax_M) (c : Nat) (A : ax_A0) : Prop := M (c + 5) 3 = A 3 ∧ ∀ i, i < 4 * ncA A → M (c + 6) i = A (71 + i)
def RCm (M : ax_M) (c : Nat) (A : ax_A0) : Prop := M (c + 7) 3 = A 4 ∧ ∀ i, i < nmA A → M (c + 8) i = A (107 + i)
def RCr (M : ax_M) (c : Nat) (A : ax_A0) : Prop := M (c + 9) 3 = A 5 ∧ ∀ r w, r < nrA A → w < 3 + tn (A (117 + 11 * r)) → M (c + 10) (11 * r + w) = A (115 + 11 * r + w)
def RCh (M : ax_M) (c : Nat) (A : ax_A0) : Prop := M c 5 = A 1 ∧ M c 6 = A 2
theorem RC_mk {M : ax_M} {c : Nat} {A : ax_A0} (hd : RCd M c A) (hb : RCb M c A) (hc : RCc M c A) (hm : RCm M c A) (hr : RCr M c A) (hh : RCh M c A) : RC M c A := ⟨hd.1, hb.1, hc.1, hm.1, hr.1, hh.1, hh.2, hd.2, hb.2, hc.2, hm.2, hr.2⟩
section RCp
variable {M M2 : ax_M} {c : Nat} {A B : ax_A0}
theorem RC.pd (h : RC M c A) : RCd M c A := ⟨h.1, h.2.2.2.2.2.2.2.1⟩
theorem RC.pb (h : RC M c A) : RCb M c A := ⟨h.2.1, h.2.2.2.2.2.2.2.2.1⟩
theorem RC.pc (h : RC M c A) : RCc M c A := ⟨h.2.2.1, h.2.2.2.2.2.2.2.2.2.1⟩
theorem RC.pm (h : RC M c A) : RCm M c A := ⟨h.2.2.2.1, h.2.2.2.2.2.2.2.2.2.2.1⟩
theorem RC.pr (h : RC M c A) : RCr M c A := ⟨h.2.2.2.2.1, h.2.2.2.2.2.2.2.2.2.2.2⟩
theorem RC.ph (h : RC M c A) : RCh M c A := ⟨h.2.2.2.2.2.1, h.2.2.2.2.2.2.1⟩
theorem RCd_eq (m1 : M2 (c + 1) = M (c + 1)) (m2 : M2 (c + 2) = M (c + 2)) (h0 : B 0 = A 0) (hn : ndA A ≤ 8) (hd : ∀ i, 6 ≤ i → i < 46 → B i = A i) (h : RCd M c A) : RCd M2 c B := by
  refine ⟨by rw [m1, h0]; exact h.1, fun i hi => ?_⟩
  have e : ndA B = ndA A := by unfold ndA; rw [h0]
  rw [m2, hd _ (by omega) (by omega)]
  exact h.2 i (by rw [← e]; exact hi)
theorem RCb_eq (m1 : M2 (c + 3) = M (c + 3)) (m2 : M2 (c + 4) = M (c + 4)) (hd : ∀ i, 46 ≤ i → i < 71 → B i = A i) (h : RCb M c A) : RCb M2 c B := by
  refine ⟨by rw [m1]; exact h.1, fun i hi => ?_⟩
  rw [m2, hd _ (by omega) (by omega)]
  exact h.2 i hi
theorem RCc_eq (m1 : M2 (c + 5) = M (c + 5)) (m2 : M2 (c + 6) = M (c + 6)) (h0 : B 3 = A 3) (hn : ncA A ≤ 8) (hd : ∀ i, 71 ≤ i → i < 107 → B i = A i) (h : RCc M c A) : RCc M2 c B := by
  refine ⟨by rw [m1, h0]; exact h.1, fun i hi => ?_⟩
  have e : ncA B = ncA A := by unfold ncA; rw [h0]
  rw [m2, hd _ (by omega) (by omega)]
  exact h.2 i (by rw [← e]; exact hi)
theorem RCm_eq (m1 : M2 (c + 7) = M (c + 7)) (m2 : M2 (c + 8) = M (c + 8)) (h0 : B 4 = A 4) (hn : nmA A ≤ 8) (hd : ∀ i, 107 ≤ i → i < 115 → B i = A i) (h : RCm M c A) : RCm M2 c B := by
  refine ⟨by rw [m1, h0]; exact h.1, fun i hi => ?_⟩
  have e : nmA B = nmA A := by unfold nmA; rw [h0]
  rw [m2, hd _ (by omega) (by omega)]
  exact h.2 i (by rw [← e]; exact hi)
theorem RCr_eq (m1 : M2 (c + 9) = M (c + 9)) (m2 : M2 (c + 10) = M (c + 10)) (h0 : B 5 = A 5) (hw : WFr A) (hd : ∀ i, 115 ≤ i → i < 181 → B i = A i) (h : RCr M c A) : RCr M2 c B := by
  refine ⟨by rw [m1, h0]; exact h.1, fun r w hr hw2 => ?_⟩
  have e : nrA B = nrA A := by unfold nrA; rw [h0]
  rw [e] at hr
  have n6 := hw.1.2
  have m8 := (hw.2 r hr).2.2.1.2
  rw [hd (117 + 11 * r) (by omega) (by omega)] at hw2
  rw [m2, hd _ (by omega) (by omega)]
  exact h.2 r w hr hw2
theorem RCh_eq (m1 : M2 c = M c) (h1 : B 1 = A 1) (h2 : B 2 = A 2) (h : RCh M c A) : RCh M2 c B := ⟨by rw [m1, h1]; exact h.1, by rw [m1, h2]; exact h.2⟩
end RCp
