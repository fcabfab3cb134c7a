/-! ===== a text: words, numbers ===== -/
def wl (s : Nat) : Nat := if s = 0 then 5 else 4
def wch (s j : Nat) : Nat := ([[99, 111, 117, 114, 116], [100, 105, 115, 104], [109, 111, 114, 101], [108, 101, 115, 115]].getD s []).getD j 0
def wdB (B : Nat → Nat) (t i s : Nat) : Bool := decide (tkK B t i = 1 ∧ tkE B t i - tkP B t i = wl s ∧ ∀ j, j < wl s → B (tkP B t i + j) = wch s j)
section Words
variable {M M2 : ax_M} {N : ax_L} {d n t i s : Nat} {S : ax_S} {Q : Option Value → Nat → ax_H → Prop} {B : Nat → Nat} {h : ax_H}
theorem wl_bd : wl s ≤ 5 := by unfold wl; split <;> omega
theorem wch_bd : ∀ s, s < 4 → ∀ j, j < 5 → wch s j < 128 := by decide +kernel
theorem str_gf (hs : s < 4) : gf (hx S M N) (7 + s) 12 0 = some (.ref (11 + s)) ∧ gf (hx S M N) (7 + s) 12 1 = some (.int 0) ∧ isC (hx S M N) (7 + s) 12 = true ∧ an (hx S M N) (11 + s) = some (nI (wl s)) := by
  rcases (show s = 0 ∨ s = 1 ∨ s = 2 ∨ s = 3 by omega) with rfl | rfl | rfl | rfl <;> exact ⟨rfl, rfl, rfl, rfl⟩
theorem hx_str (hs : s < 4) : hx S M N (11 + s) = .inl (2, wl s, fun j => nI (wch s j)) := by
  rcases (show s = 0 ∨ s = 1 ∨ s = 2 ∨ s = 3 by omega) with rfl | rfl | rfl | rfl
  · show (Sum.inl (2, 5, ax_ofL [99, 111, 117, 114, 116]) : ax_E) = .inl (2, 5, _)
    refine congrArg (fun f => (Sum.inl (2, 5, f) : ax_E)) (funext fun j => ?_)
    rcases j with _ | _ | _ | _ | _ | j <;> rfl
  · show (Sum.inl (2, 4, ax_ofL [100, 105, 115, 104]) : ax_E) = .inl (2, 4, _)
    refine congrArg (fun f => (Sum.inl (2, 4, f) : ax_E)) (funext fun j => ?_)
    rcases j with _ | _ | _ | _ | j <;> rfl
  · show (Sum.inl (2, 4, ax_ofL [109, 111, 114, 101]) : ax_E) = .inl (2, 4, _)
    refine congrArg (fun f => (Sum.inl (2, 4, f) : ax_E)) (funext fun j => ?_)
    rcases j with _ | _ | _ | _ | j <;> rfl
  · show (Sum.inl (2, 4, ax_ofL [108, 101, 115, 115]) : ax_E) = .inl (2, 4, _)
    refine congrArg (fun f => (Sum.inl (2, 4, f) : ax_E)) (funext fun j => ?_)
    rcases j with _ | _ | _ | _ | j <;> rfl
theorem bl_str (hs : s < 4) {j : Nat} (hj : j < wl s) : bl (hx S M N) (11 + s) (nI j) = some (nI (wch s j)) := by
  have w5 := wl_bd (s := s)
  unfold bl
  rw [hx_str hs]
  dsimp only
  rw [nI_clamp (by omega), if_pos ⟨Or.inr rfl, fun q => q.elim (fun z => nI_pos (n := j) (by omega) z) (fun z => by omega)⟩]
theorem ch255 : ∀ c, c < 128 → nI c &&& nI 255 = nI c ∧ ((nI c).toUInt32 % 65536).toInt32 = nI c ∧ narrow .char (.int (nI c)) = .int (nI c) := by decide +kernel
theorem sh0 : ∀ c, c < 8 → nI c >>> ((0 : Int32) &&& 31) = nI c := by decide +kernel
theorem c219 (hs : s < 4) : ax_W (d + 1) 219 0 [.ref (7 + s)] [] n (hx S M N) Q = Q (some (.int (nI (wl s)))) n (hx S M N) := by
  obtain ⟨g0, g1, g2, g3⟩ := str_gf (S := S) (M := M) (N := N) hs
  have w5 := wl_bd (s := s)
  simp only [↓s219_0, ↓s219_1, ↓s219_4, ↓s219_5, ↓s219_6, ↓s221_0, ↓s221_3, ↓s221_6, ↓s221_7, ↓s221_10, ↓s221_13, ↓s221_14, g0, g1, g2, g3, show ¬ (1 : Int32) = nI 0 by decide, show narrow .byte (.int 0) = .int 0 from rfl, ct_s, ct_n, ↓bI_01, bI_eq0, bI_eq1, nI_10, nI_01, dec_f, dec_t, if_n, eq_self, true_or, or_true, if_true, if_false, reduceIte]
  simp only [↓s219_9, ↓s219_10, sh0 (wl s) (by omega), ct_s, ct_n, ↓bI_01, bI_eq0, bI_eq1, nI_10, nI_01, dec_f, dec_t, if_n, eq_self, true_or, or_true, if_true, if_false, reduceIte]
theorem c220 (hs : s < 4) {j : Nat} (hj : j < wl s) : ax_W (d + 4) 220 0 [.ref (7 + s), .int (nI j)] [] n (hx S M N) Q = Q (some (.int (nI (wch s j)))) n (hx S M N) := by
  obtain ⟨g0, g1, g2, g3⟩ := str_gf (S := S) (M := M) (N := N) hs
  have w5 := wl_bd (s := s)
  obtain ⟨e1, e2, e3⟩ := ch255 (wch s j) (wch_bd s hs j (by omega))
  simp only [↓s220_0, ↓s220_1, ↓s220_4, ↓s222_0, ↓s222_3, ↓s222_6, ↓s222_7, ↓s222_10, ↓s222_13, ↓s222_14, ↓s222_17, ↓s222_18, g0, g1, g2, g3, show ¬ (1 : Int32) = nI 0 by decide, show ((0 : Int32) = nI 0) = True from eq_true rfl, ct_s, ct_n, ↓bI_01, bI_eq0, bI_eq1, nI_10, nI_01, dec_f, dec_t, if_n, eq_self, true_or, or_true, if_true, if_false, reduceIte]
  simp only [↓s220_7, ↓s220_8, ↓s220_11, ↓s220_12, g0, ct_s, ct_n, ↓bI_01, bI_eq0, bI_eq1, nI_10, nI_01, dec_f, dec_t, if_n, eq_self, true_or, or_true, if_true, if_false, reduceIte]
  simp only [↓s224_0, ↓s224_1, ↓s224_2, ↓s224_3, g3, ct_s, ct_n, ↓bI_01, bI_eq0, bI_eq1, nI_10, nI_01, dec_f, dec_t, if_n, eq_self, true_or, or_true, if_true, if_false, reduceIte]
  simp only [↓s223_0, ↓s223_1, ↓s223_2, ↓s223_5, ct_s, ct_n, ↓bI_01, bI_eq0, bI_eq1, nI_10, nI_01, dec_f, dec_t, if_n, eq_self, true_or, or_true, if_true, if_false, reduceIte]
  simp only [↓s225_0, ↓s225_1, ct_s, ct_n, ↓bI_01, bI_eq0, bI_eq1, nI_10, nI_01, dec_f, dec_t, if_n, eq_self, true_or, or_true, if_true, if_false, reduceIte]
  rw [if_neg (nI_nlt (a := j) (b := 0) (by omega) (by omega))]
  simp only [↓s225_4, ↓s225_5, ↓s225_6, ct_s, ct_n, ↓bI_01, bI_eq0, bI_eq1, nI_10, nI_01, dec_f, dec_t, if_n, eq_self, true_or, or_true, if_true, if_false, reduceIte]
  rw [if_pos (nI_lt hj (by omega))]
  simp only [↓s225_16, ↓s225_17, ↓s223_8, ↓s223_9, ct_s, ct_n, ↓bI_01, bI_eq0, bI_eq1, nI_10, nI_01, dec_f, dec_t, if_n, eq_self, true_or, or_true, if_true, if_false, reduceIte]
  simp only [↓s224_6, ↓s224_7, ↓s224_8, ↓s224_9, ↓s224_12, ↓s224_13, ↓s224_14, bl_str hs hj, e1, e2, e3, ct_s, ct_n, ↓bI_01, bI_eq0, bI_eq1, nI_10, nI_01, dec_f, dec_t, if_n, eq_self, true_or, or_true, if_true, if_false, reduceIte]
  simp only [↓s220_15, e3, ct_s, ct_n, ↓bI_01, bI_eq0, bI_eq1, nI_10, nI_01, dec_f, dec_t, if_n, eq_self, true_or, or_true, if_true, if_false, reduceIte]
theorem l49 (hT : TXc M B t) (hi : i ≤ t) (hs : s < 4) (hL : LC M B t i) (hk : tkK B t i = 1) (hl : tkE B t i - tkP B t i = wl s) : ∀ c j, j + c = wl s → (∀ l, l < j → B (tkP B t i + l) = wch s l) → ax_W (d + 5) 49 28 [.ref 69, .ref (7 + s), .int (nI j)] [] n (hx S M N) Q = Q (some (.int (bI (wdB B t i s)))) n (hx S M N) := by
  have t1 := hT.2.1
  have w5 := wl_bd (s := s)
  have he := tkE_bd (B := B) hi
  obtain ⟨l1, l2, l3, -⟩ := hL
  have g2 := (str_gf (S := S) (M := M) (N := N) hs).2.2.1
  intro c
  induction c with
  | zero =>
    intro j hj hm
    have e : wdB B t i s = true := decide_eq_true ⟨hk, hl, fun l h => hm l (by omega)⟩
    rw [e]
    simp only [↓s49_28, ↓s49_29, ↓s49_30, ↓s49_33, g2, ↓c219 hs, ct_s, ct_n, ↓bI_01, bI_eq0, bI_eq1, nI_10, nI_01, dec_f, dec_t, if_n, eq_self, true_or, or_true, if_true, if_false, reduceIte]
    rw [if_pos (nI_le (a := wl s) (b := j) (by omega) (by omega))]
    simp only [↓s49_66, ↓s49_67, ct_s, ct_n, ↓bI_01, bI_eq0, bI_eq1, nI_10, nI_01, dec_f, dec_t, if_n, eq_self, true_or, or_true, if_true, if_false, reduceIte]
    rfl
  | succ c ih =>
    intro j hj hm
    have b1 := (hT.2.2 (tkP B t i + j) (by omega)).2
    have b2 := wch_bd s hs j (by omega)
    simp only [↓s49_28, ↓s49_29, ↓s49_30, ↓s49_33, g2, ↓c219 hs, ct_s, ct_n, ↓bI_01, bI_eq0, bI_eq1, nI_10, nI_01, dec_f, dec_t, if_n, eq_self, true_or, or_true, if_true, if_false, reduceIte]
    rw [if_neg (nI_ge (a := j) (b := wl s) (by omega) (by omega))]
    simp only [↓s49_36, ↓s49_37, ↓s49_40, ↓s49_41, ↓s49_44, ↓s49_45, ↓s49_46, ↓s49_47, ↓s49_50, ↓s49_51, ↓s49_52, jc_69, gf_69_0, gf_69_1, gf_69_2, ok_69_2, gf_69_3, ok_69_3, gf_69_4, ok_69_4, gf_69_5, ok_69_5, jc_67, gf_67_0, gf_67_1, gf_67_2, gf_67_3, ok_67_3, g2, l2, nI_add, ↓c54 h67 (cap67 hT), rdT hT (show tkP B t i + j < t by omega), ↓c220 hs (show j < wl s by omega), ct_s, ct_n, ↓bI_01, bI_eq0, bI_eq1, nI_10, nI_01, dec_f, dec_t, if_n, eq_self, true_or, or_true, if_true, if_false, reduceIte]
    simp only [↓s49_55, ct_s, ct_n, ↓bI_01, bI_eq0, bI_eq1, nI_10, nI_01, dec_f, dec_t, if_n, eq_self, true_or, or_true, if_true, if_false, reduceIte]
    by_cases hb : B (tkP B t i + j) = wch s j
    · rw [if_pos (by rw [hb])]
      simp only [↓s49_60, ↓s49_63, nI_add, ct_s, ct_n, ↓bI_01, bI_eq0, bI_eq1, nI_10, nI_01, dec_f, dec_t, if_n, eq_self, true_or, or_true, if_true, if_false, reduceIte]
      exact ih (j + 1) (by omega) (fun l hl2 => by
        by_cases z : l = j
        · rw [z]; exact hb
        · exact hm l (by omega))
    · rw [if_neg (fun q => hb ((nI_eq (a := B (tkP B t i + j)) (b := wch s j) (by omega) (by omega)).mp q))]
      have e : wdB B t i s = false := decide_eq_false (fun q => hb (q.2.2 j (by omega)))
      rw [e]
      simp only [↓s49_58, ↓s49_59, ct_s, ct_n, ↓bI_01, bI_eq0, bI_eq1, nI_10, nI_01, dec_f, dec_t, if_n, eq_self, true_or, or_true, if_true, if_false, reduceIte]
      rfl
theorem c49 (hT : TXc M B t) (hi : i ≤ t) (hs : s < 4) (hL : LC M B t i) : ax_W (d + 5) 49 0 [.ref 69, .ref (7 + s), ax_dm] [] n (hx S M N) Q = Q (some (.int (bI (wdB B t i s)))) n (hx S M N) := by
  have t1 := hT.2.1
  have w5 := wl_bd (s := s)
  have he := tkE_bd (B := B) hi
  have kb := tkK_bd (B := B) (t := t) (i := i)
  have g2 := (str_gf (S := S) (M := M) (N := N) hs).2.2.1
  obtain ⟨l1, l2, l3, l4⟩ := hL
  simp only [↓s49_0, ↓s49_1, ↓s49_4, ↓s49_5, jc_69, gf_69_0, gf_69_1, gf_69_2, ok_69_2, gf_69_3, ok_69_3, gf_69_4, ok_69_4, gf_69_5, ok_69_5, l3, ct_s, ct_n, ↓bI_01, bI_eq0, bI_eq1, nI_10, nI_01, dec_f, dec_t, if_n, eq_self, true_or, or_true, if_true, if_false, reduceIte]
  by_cases hk : tkK B t i = 1
  · rw [if_pos (by rw [hk])]
    simp only [↓s49_8, ↓s49_9, ↓s49_12, ↓s49_13, ↓s49_16, ↓s49_17, ↓s49_18, ↓s49_21, jc_69, gf_69_0, gf_69_1, gf_69_2, ok_69_2, gf_69_3, ok_69_3, gf_69_4, ok_69_4, gf_69_5, ok_69_5, l1, l2, pk_sub he.1, g2, ↓c219 hs, ct_s, ct_n, ↓bI_01, bI_eq0, bI_eq1, nI_10, nI_01, dec_f, dec_t, if_n, eq_self, true_or, or_true, if_true, if_false, reduceIte]
    by_cases hl : tkE B t i - tkP B t i = wl s
    · rw [if_pos (by rw [hl])]
      simp only [↓s49_26, ↓s49_27, ct_s, ct_n, ↓bI_01, bI_eq0, bI_eq1, nI_10, nI_01, dec_f, dec_t, if_n, eq_self, true_or, or_true, if_true, if_false, reduceIte]
      exact l49 hT hi hs ⟨l1, l2, l3, l4⟩ hk hl (wl s) 0 (by omega) (fun l h => absurd h (Nat.not_lt_zero l))
    · rw [if_neg (fun q => hl ((nI_eq (a := tkE B t i - tkP B t i) (b := wl s) (by omega) (by omega)).mp q))]
      rw [show wdB B t i s = false from decide_eq_false (fun q => hl q.2.1)]
      simp only [↓s49_24, ↓s49_25, ct_s, ct_n, ↓bI_01, bI_eq0, bI_eq1, nI_10, nI_01, dec_f, dec_t, if_n, eq_self, true_or, or_true, if_true, if_false, reduceIte]
      rfl
  · rw [if_neg (fun q => hk ((nI_eq (a := tkK B t i) (b := 1) (by omega) (by omega)).mp q))]
    rw [show wdB B t i s = false from decide_eq_false (fun q => hk q.1)]
    simp only [↓s49_24, ↓s49_25, ct_s, ct_n, ↓bI_01, bI_eq0, bI_eq1, nI_10, nI_01, dec_f, dec_t, if_n, eq_self, true_or, or_true, if_true, if_false, reduceIte]
    rfl
end Words
/-! ===== numbers in a row ===== -/
def psn (B : Nat → Nat) (t i : Nat) : Nat → Nat
  | 0 => i
  | j + 1 => tkE B t (psn B t i j)
def tvA (B : Nat → Nat) (t i : Nat) : Int := tvZ B (tkP B t i) (tkE B t i)
def tok (B : Nat → Nat) (t lo hi i : Nat) : Bool := decide (tkK B t i = 2 ∧ (lo : Int) ≤ tvA B t i ∧ tvA B t i ≤ (hi : Int))
def ldF (f : Nat → Bool) : Nat → Nat → Nat
  | 0, j => j
  | c + 1, j => if f j = true then ldF f c (j + 1) else j
def nmQ (B : Nat → Nat) (t : Nat) (lo hi : Nat → Nat) (len i : Nat) : Nat := ldF (fun j => tok B t (lo j) (hi j) (psn B t i j)) len 0
def nmK (B : Nat → Nat) (t : Nat) (lo hi : Nat → Nat) (len i : Nat) : Bool := decide (nmQ B t lo hi len i = len ∧ tkK B t (psn B t i len) = 3)
/-- the number at place j -/
def nmV (B : Nat → Nat) (t i j : Nat) : Nat := (tvA B t (psn B t i j)).toNat
section Nums
variable {M M2 : ax_M} {N : ax_L} {d n t i : Nat} {S : ax_S} {Q : Option Value → Nat → ax_H → Prop} {B : Nat → Nat}
theorem psn_bd (hi : i ≤ t) : ∀ j, psn B t i j ≤ t := by
  intro j
  induction j with
  | zero => exact hi
  | succ j ih => exact (tkE_bd ih).2.1
theorem psn_ge (hi : i ≤ t) : ∀ j, i ≤ psn B t i j := by
  intro j
  induction j with
  | zero => exact Nat.le_refl _
  | succ j ih =>
    have h1 := tkP_bd (B := B) (psn_bd (B := B) hi j)
    have h2 := tkE_bd (B := B) (psn_bd (B := B) hi j)
    show i ≤ tkE B t (psn B t i j)
    omega
theorem ldF_bd {f : Nat → Bool} : ∀ c j, j ≤ ldF f c j ∧ ldF f c j ≤ j + c := by
  intro c
  induction c with
  | zero => intro j; exact ⟨Nat.le_refl _, Nat.le_refl _⟩
  | succ c ih =>
    intro j
    have := ih (j + 1)
    show j ≤ (if _ then _ else _) ∧ (if _ then _ else _) ≤ j + (c + 1)
    split <;> omega
theorem ldF_ok {f : Nat → Bool} : ∀ c j, ∀ l, j ≤ l → l < ldF f c j → f l = true := by
  intro c
  induction c with
  | zero => intro j l h1 h2; exact absurd h2 (by show ¬ l < j; omega)
  | succ c ih =>
    intro j l h1 h2
    rw [show ldF f (c + 1) j = if f j = true then ldF f c (j + 1) else j from rfl] at h2
    by_cases e : f j = true
    · rw [if_pos e] at h2
      by_cases z : l = j
      · rw [z]; exact e
      · exact ih (j + 1) l (by omega) h2
    · rw [if_neg e] at h2; omega
theorem tok_v {lo hi i : Nat} (h : tok B t lo hi i = true) : tkK B t i = 2 ∧ tvA B t i = ((tvA B t i).toNat : Int) ∧ lo ≤ (tvA B t i).toNat ∧ (tvA B t i).toNat ≤ hi := by
  have h := of_decide_eq_true h
  exact ⟨h.1, by omega, by omega, by omega⟩
theorem nm_v {lo hi : Nat → Nat} {len : Nat} (h : nmK B t lo hi len i = true) : ∀ j, j < len → lo j ≤ nmV B t i j ∧ nmV B t i j ≤ hi j := by
  intro j hj
  have h := (of_decide_eq_true h).1
  have h2 := ldF_ok len 0 j (by omega) (show j < nmQ B t lo hi len i by omega)
  exact (tok_v h2).2.2
theorem h70 : (70, 5, 1) ∈ rwt := by decide
theorem TXc_o (h : ∀ a, a ≠ 69 → a ≠ 70 → a ≠ 71 → M2 a = M a) (hT : TXc M B t) : TXc M2 B t := TXc_eq (h 67 (by decide) (by decide) (by decide)) (h 68 (by decide) (by decide) (by decide)) hT
theorem tv_bd (hT : TXc M B t) (hi : i ≤ t) : -100000 ≤ tvA B t i ∧ tvA B t i ≤ 100000 := by
  have t1 := hT.2.1
  have he := tkE_bd (B := B) hi
  unfold tvA tvZ
  split
  · have := (hT.2.2 (tkP B t i) (by omega)).2; omega
  · split
    · have := (hT.2.2 (tkP B t i) (by omega)).2
      have := (hT.2.2 (tkP B t i + 1) (by omega)).2
      omega
    · omega
set_option maxHeartbeats 1000000 in
theorem l48 {a b len : Nat} {lo hi : Nat → Nat} (ha : ∀ (S : ax_S) (M : ax_M) (N : ax_L) (k : Nat), k < len → al (hx S M N) a (nI k) = some (nI (lo k))) (hb : ∀ (S : ax_S) (M : ax_M) (N : ax_L) (k : Nat), k < len → al (hx S M N) b (nI k) = some (nI (hi k))) (na : ∀ (S : ax_S) (M : ax_M) (N : ax_L), an (hx S M N) a = some (nI len)) (nb : ∀ (S : ax_S) (M : ax_M) (N : ax_L), an (hx S M N) b = some (nI len)) (h5 : len ≤ 5) (h9 : ∀ k, k < len → lo k ≤ 9 ∧ hi k ≤ 9) (hit : i ≤ t) : ∀ c j, j + c = len → ∀ M, TXc M B t → M 69 2 = nI (psn B t i j) → M 70 3 = nI j → (∀ l, l < j → M 71 l = nI (nmV B t i l)) → ∃ M2, (M2 69 3 = nI (tkP B t (psn B t i (ldF (fun j => tok B t (lo j) (hi j) (psn B t i j)) c j))) ∧ (ldF (fun j => tok B t (lo j) (hi j) (psn B t i j)) c j = len ∧ tkK B t (psn B t i len) = 3 → M2 69 2 = nI (psn B t i (len + 1)) ∧ M2 70 3 = nI len ∧ ∀ l, l < len → M2 71 l = nI (nmV B t i l)) ∧ ∀ a, ¬ (69 ≤ a ∧ a ≤ 71) → M2 a = M a) ∧ ∀ (S : ax_S) (d n : Nat) (Q : Option Value → Nat → ax_H → Prop), ax_W (d + 3) 48 10 [.ref 69, .ref a, .ref b, .int (nI j)] [] n (hx S M N) Q = Q (some (.int (bI (decide (ldF (fun j => tok B t (lo j) (hi j) (psn B t i j)) c j = len ∧ tkK B t (psn B t i len) = 3))))) n (hx S M2 N) := by
  intro c
  induction c with
  | zero =>
    intro j hj M hT h2 h70' h71
    have e : j = len := by omega
    subst e
    obtain ⟨M1, ⟨⟨a1, a2, a3, a4⟩, a5⟩, g⟩ := c50 (N := N) hT h2 (psn_bd hit j)
    have kb := tkK_bd (B := B) (t := t) (i := psn B t i j)
    refine ⟨M1, ⟨a2, fun _ => ⟨a1, ?_, fun l hl => ?_⟩, fun q hq => a5 q (by omega)⟩, fun S d n Q => ?_⟩
    · rw [a5 70 (by decide)]; exact h70'
    · rw [a5 71 (by decide)]; exact h71 l hl
    · simp only [↓s48_10, ↓s48_11, ↓s48_12, ↓s48_13, na, ct_s, ct_n, ↓bI_01, bI_eq0, bI_eq1, nI_10, nI_01, dec_f, dec_t, if_n, eq_self, true_or, or_true, if_true, if_false, reduceIte]
      rw [if_pos (nI_le (a := j) (b := j) (by omega) (by omega))]
      simp only [↓s48_81, ↓s48_82, ↓s48_85, ↓s48_86, ↓s48_89, ↓s48_90, jc_69, gf_69_0, gf_69_1, gf_69_2, ok_69_2, gf_69_3, ok_69_3, gf_69_4, ok_69_4, gf_69_5, ok_69_5, ↓g, a3, ct_s, ct_n, ↓bI_01, bI_eq0, bI_eq1, nI_10, nI_01, dec_f, dec_t, if_n, eq_self, true_or, or_true, if_true, if_false, reduceIte]
      by_cases hk : tkK B t (psn B t i j) = 3
      · rw [if_pos (by rw [hk]), bI_t ⟨rfl, hk⟩]
        simp only [↓s48_93, ↓s48_94, ↓s48_97, ↓s48_98, ct_s, ct_n, ↓bI_01, bI_eq0, bI_eq1, nI_10, nI_01, dec_f, dec_t, if_n, eq_self, true_or, or_true, if_true, if_false, reduceIte]
      · rw [if_neg (fun q => hk ((nI_eq (a := tkK B t (psn B t i j)) (b := 3) (by omega) (by omega)).mp q)), bI_f (fun q => hk q.2)]
        simp only [↓s48_97, ↓s48_98, ct_s, ct_n, ↓bI_01, bI_eq0, bI_eq1, nI_10, nI_01, dec_f, dec_t, if_n, eq_self, true_or, or_true, if_true, if_false, reduceIte]
  | succ c ih =>
    intro j hj M hT h2 h70' h71
    have hjl : j < len := by omega
    have p1 := psn_bd (B := B) hit j
    obtain ⟨M1, ⟨⟨a1, a2, a3, a4⟩, a5⟩, g⟩ := c50 (N := N) hT h2 p1
    have kb := tkK_bd (B := B) (t := t) (i := psn B t i j)
    have tb := tv_bd hT p1
    have hT1 : TXc M1 B t := TXc_o (fun a h1 _ _ => a5 a h1) hT
    obtain ⟨l9, r9⟩ := h9 j hjl
    have pre : ∀ (S : ax_S) (d n : Nat) (Q : Option Value → Nat → ax_H → Prop), ax_W (d + 3) 48 10 [.ref 69, .ref a, .ref b, .int (nI j)] [] n (hx S M N) Q = ax_W (d + 3) 48 26 [.ref 69, .ref a, .ref b, .int (nI j)] [] n (hx S M1 N) Q := by
      intro S d n Q
      simp only [↓s48_10, ↓s48_11, ↓s48_12, ↓s48_13, na, ct_s, ct_n, ↓bI_01, bI_eq0, bI_eq1, nI_10, nI_01, dec_f, dec_t, if_n, eq_self, true_or, or_true, if_true, if_false, reduceIte]
      rw [if_neg (nI_ge (a := j) (b := len) (by omega) (by omega))]
      simp only [↓s48_16, ↓s48_17, ↓s48_18, ↓s48_19, nb, ct_s, ct_n, ↓bI_01, bI_eq0, bI_eq1, nI_10, nI_01, dec_f, dec_t, if_n, eq_self, true_or, or_true, if_true, if_false, reduceIte]
      rw [if_neg (nI_ge (a := j) (b := len) (by omega) (by omega))]
      simp only [↓s48_22, ↓s48_23, jc_69, gf_69_0, gf_69_1, gf_69_2, ok_69_2, gf_69_3, ok_69_3, gf_69_4, ok_69_4, gf_69_5, ok_69_5, ↓g, ct_s, ct_n, ↓bI_01, bI_eq0, bI_eq1, nI_10, nI_01, dec_f, dec_t, if_n, eq_self, true_or, or_true, if_true, if_false, reduceIte]
    rw [show ldF (fun j => tok B t (lo j) (hi j) (psn B t i j)) (c + 1) j = if tok B t (lo j) (hi j) (psn B t i j) = true then ldF (fun j => tok B t (lo j) (hi j) (psn B t i j)) c (j + 1) else j from rfl]
    cases ok : tok B t (lo j) (hi j) (psn B t i j) with
    | true =>
      rw [if_pos rfl]
      obtain ⟨o1, o2, o3, o4⟩ := tok_v ok
      have v5 : M1 69 5 = nI (nmV B t i j) := by
        rw [a4 o1, iI_nat]
        exact congrArg iI o2
      have hv : nmV B t i j = (tvA B t (psn B t i j)).toNat := rfl
      have q3 : M1 70 3 = nI j := by rw [a5 70 (by decide)]; exact h70'
      have u2 : zr (ux M1 70 3 (nI (j + 1))) (70 + 1) (j * 1) 1 70 3 = nI (j + 1) := by rw [zr_a (by decide), ux_s]
      have u5 : zr (ux M1 70 3 (nI (j + 1))) (70 + 1) (j * 1) 1 69 5 = nI (nmV B t i j) := by rw [zr_a (by decide), ux_f (by decide)]; exact v5
      have cap : tn (zr (ux M1 70 3 (nI (j + 1))) (70 + 1) (j * 1) 1 70 3) ≤ 5 := by rw [u2, tn_nI (by omega)]; omega
      have pt := rput_in (r := 70) (wi := 1) (i := j) (c := 0) (v := nI (nmV B t i j)) u2 (by omega) (by omega) (by omega) (by omega)
      obtain ⟨M3, hM3⟩ : ∃ M3, M3 = ux (zr (ux M1 70 3 (nI (j + 1))) (70 + 1) (j * 1) 1) (70 + 1) (j * 1 + 0) (nI (nmV B t i j)) := ⟨_, rfl⟩
      have hM4 : M3 = ux (zr (ux M1 70 3 (nI (j + 1))) 71 (j * 1) 1) 71 (j * 1 + 0) (nI (nmV B t i j)) := hM3
      have w69 : M3 69 = M1 69 := by rw [hM4, ux_f (by decide), zr_a (by decide), ux_f (by decide)]
      have w70 : M3 70 3 = nI (j + 1) := by rw [hM4, ux_a (by decide), zr_a (by decide), ux_s]
      have w71 : M3 71 j = nI (nmV B t i j) := by rw [hM4, show j * 1 + 0 = j by omega, ux_s]
      have w71o : ∀ l, l < j → M3 71 l = M1 71 l := fun l hl => by
        rw [hM4, ux_j (by omega)]
        unfold zr
        rw [if_neg (by omega), ux_a (by decide)]
      have wo : ∀ a, ¬ (69 ≤ a ∧ a ≤ 71) → M3 a = M1 a := fun a ha => by rw [hM4, ux_f (by omega), zr_a (by omega), ux_f (by omega)]
      have hT3 : TXc M3 B t := TXc_eq (wo 67 (by omega)) (wo 68 (by omega)) hT1
      obtain ⟨M2, ⟨f1, f2, f3⟩, g2⟩ := ih (j + 1) (by omega) M3 hT3 (by rw [w69]; exact a1) w70 (fun l hl => by
        by_cases z : l = j
        · rw [z]; exact w71
        · rw [w71o l (by omega), a5 71 (by decide)]; exact h71 l (by omega))
      refine ⟨M2, ⟨f1, f2, fun q hq => by rw [f3 q hq, wo q hq, a5 q (by omega)]⟩, fun S d n Q => ?_⟩
      rw [pre]
      simp only [↓s48_26, ↓s48_27, ↓s48_30, ↓s48_31, jc_69, gf_69_0, gf_69_1, gf_69_2, ok_69_2, gf_69_3, ok_69_3, gf_69_4, ok_69_4, gf_69_5, ok_69_5, a3, o1, ct_s, ct_n, ↓bI_01, bI_eq0, bI_eq1, nI_10, nI_01, dec_f, dec_t, if_n, eq_self, true_or, or_true, if_true, if_false, reduceIte]
      simp only [↓s48_34, ↓s48_35, ↓s48_38, ↓s48_39, ↓s48_40, ↓s48_41, jc_69, gf_69_0, gf_69_1, gf_69_2, ok_69_2, gf_69_3, ok_69_3, gf_69_4, ok_69_4, gf_69_5, ok_69_5, v5, ha S M1 N j hjl, ct_s, ct_n, ↓bI_01, bI_eq0, bI_eq1, nI_10, nI_01, dec_f, dec_t, if_n, eq_self, true_or, or_true, if_true, if_false, reduceIte]
      rw [if_neg (nI_nlt (a := nmV B t i j) (b := lo j) (by omega) (by omega))]
      simp only [↓s48_44, ↓s48_45, ↓s48_48, ↓s48_49, ↓s48_50, ↓s48_51, jc_69, gf_69_0, gf_69_1, gf_69_2, ok_69_2, gf_69_3, ok_69_3, gf_69_4, ok_69_4, gf_69_5, ok_69_5, v5, hb S M1 N j hjl, ct_s, ct_n, ↓bI_01, bI_eq0, bI_eq1, nI_10, nI_01, dec_f, dec_t, if_n, eq_self, true_or, or_true, if_true, if_false, reduceIte]
      rw [if_pos (nI_le (a := nmV B t i j) (b := hi j) (by omega) (by omega))]
      simp only [↓s48_56, ↓s48_57, ↓s48_60, ↓s48_61, ↓s48_64, jc_69, gf_69_0, gf_69_1, gf_69_2, ok_69_2, gf_69_3, ok_69_3, gf_69_4, ok_69_4, gf_69_5, ok_69_5, jc_70, gf_70_0, gf_70_1, gf_70_2, gf_70_3, ok_70_3, ↓c56 h70 q3 (show j < 5 by omega), ct_s, ct_n, ↓bI_01, bI_eq0, bI_eq1, nI_10, nI_01, dec_f, dec_t, if_n, eq_self, true_or, or_true, if_true, if_false, reduceIte]
      simp only [↓s48_67, ↓s48_68, ↓s48_69, ↓s48_72, jc_69, gf_69_0, gf_69_1, gf_69_2, ok_69_2, gf_69_3, ok_69_3, gf_69_4, ok_69_4, gf_69_5, ok_69_5, jc_70, gf_70_0, gf_70_1, gf_70_2, gf_70_3, ok_70_3, u5, ↓c55 h70 cap, pt, ← hM3, ct_s, ct_n, ↓bI_01, bI_eq0, bI_eq1, nI_10, nI_01, dec_f, dec_t, if_n, eq_self, true_or, or_true, if_true, if_false, reduceIte]
      simp only [↓s48_75, ↓s48_78, nI_add, ct_s, ct_n, ↓bI_01, bI_eq0, bI_eq1, nI_10, nI_01, dec_f, dec_t, if_n, eq_self, true_or, or_true, if_true, if_false, reduceIte]
      exact g2 S d n Q
    | false =>
      rw [if_neg (by decide)]
      refine ⟨M1, ⟨a2, fun q => absurd q.1 (by omega), fun q hq => a5 q (by omega)⟩, fun S d n Q => ?_⟩
      rw [pre, bI_f (fun q => absurd q.1 (by omega))]
      simp only [↓s48_26, ↓s48_27, ↓s48_30, ↓s48_31, jc_69, gf_69_0, gf_69_1, gf_69_2, ok_69_2, gf_69_3, ok_69_3, gf_69_4, ok_69_4, gf_69_5, ok_69_5, a3, ct_s, ct_n, ↓bI_01, bI_eq0, bI_eq1, nI_10, nI_01, dec_f, dec_t, if_n, eq_self, true_or, or_true, if_true, if_false, reduceIte]
      by_cases k2 : tkK B t (psn B t i j) = 2
      · have v5 : M1 69 5 = iI (tvA B t (psn B t i j)) := a4 k2
        have nk := of_decide_eq_false ok
        rw [if_pos (by rw [k2])]
        simp only [↓s48_34, ↓s48_35, ↓s48_38, ↓s48_39, ↓s48_40, ↓s48_41, jc_69, gf_69_0, gf_69_1, gf_69_2, ok_69_2, gf_69_3, ok_69_3, gf_69_4, ok_69_4, gf_69_5, ok_69_5, v5, ha S M1 N j hjl, ct_s, ct_n, ↓bI_01, bI_eq0, bI_eq1, nI_10, nI_01, dec_f, dec_t, if_n, eq_self, true_or, or_true, if_true, if_false, reduceIte]
        by_cases c1 : tvA B t (psn B t i j) < (lo j : Int)
        · rw [if_pos (by rw [iI_nat, iI_lt (by omega) (by omega) (by omega) (by omega)]; exact c1)]
          simp only [↓s48_54, ↓s48_55, ct_s, ct_n, ↓bI_01, bI_eq0, bI_eq1, nI_10, nI_01, dec_f, dec_t, if_n, eq_self, true_or, or_true, if_true, if_false, reduceIte]
        · rw [if_neg (by rw [iI_nat, iI_lt (by omega) (by omega) (by omega) (by omega)]; exact c1)]
          simp only [↓s48_44, ↓s48_45, ↓s48_48, ↓s48_49, ↓s48_50, ↓s48_51, jc_69, gf_69_0, gf_69_1, gf_69_2, ok_69_2, gf_69_3, ok_69_3, gf_69_4, ok_69_4, gf_69_5, ok_69_5, v5, hb S M1 N j hjl, ct_s, ct_n, ↓bI_01, bI_eq0, bI_eq1, nI_10, nI_01, dec_f, dec_t, if_n, eq_self, true_or, or_true, if_true, if_false, reduceIte]
          rw [if_neg (by rw [iI_nat, iI_le (by omega) (by omega) (by omega) (by omega)]; exact fun q => nk ⟨k2, by omega, q⟩)]
          simp only [↓s48_54, ↓s48_55, ct_s, ct_n, ↓bI_01, bI_eq0, bI_eq1, nI_10, nI_01, dec_f, dec_t, if_n, eq_self, true_or, or_true, if_true, if_false, reduceIte]
      · rw [if_neg (fun q => k2 ((nI_eq (a := tkK B t (psn B t i j)) (b := 2) (by omega) (by omega)).mp q))]
        simp only [↓s48_54, ↓s48_55, ct_s, ct_n, ↓bI_01, bI_eq0, bI_eq1, nI_10, nI_01, dec_f, dec_t, if_n, eq_self, true_or, or_true, if_true, if_false, reduceIte]
theorem c48 {a b len : Nat} {lo hi : Nat → Nat} (ha : ∀ (S : ax_S) (M : ax_M) (N : ax_L) (k : Nat), k < len → al (hx S M N) a (nI k) = some (nI (lo k))) (hb : ∀ (S : ax_S) (M : ax_M) (N : ax_L) (k : Nat), k < len → al (hx S M N) b (nI k) = some (nI (hi k))) (na : ∀ (S : ax_S) (M : ax_M) (N : ax_L), an (hx S M N) a = some (nI len)) (nb : ∀ (S : ax_S) (M : ax_M) (N : ax_L), an (hx S M N) b = some (nI len)) (h5 : len ≤ 5) (h9 : ∀ k, k < len → lo k ≤ 9 ∧ hi k ≤ 9) (hT : TXc M B t) (h2 : M 69 2 = nI i) (hit : i ≤ t) : ∃ M2, (M2 69 3 = nI (tkP B t (psn B t i (nmQ B t lo hi len i))) ∧ (nmK B t lo hi len i = true → M2 69 2 = nI (psn B t i (len + 1)) ∧ M2 70 3 = nI len ∧ ∀ l, l < len → M2 71 l = nI (nmV B t i l)) ∧ ∀ a, ¬ (69 ≤ a ∧ a ≤ 71) → M2 a = M a) ∧ ∀ (S : ax_S) (d n : Nat) (Q : Option Value → Nat → ax_H → Prop), ax_W (d + 3) 48 0 [.ref 69, .ref a, .ref b, ax_dm] [] n (hx S M N) Q = Q (some (.int (bI (nmK B t lo hi len i)))) n (hx S M2 N) := by
  have o : ∀ a, a ≠ 70 → ux M 70 3 (nI 0) a = M a := fun a ha => ux_f ha
  obtain ⟨M2, ⟨f1, f2, f3⟩, g⟩ := l48 (N := N) ha hb na nb h5 h9 hit len 0 (by omega) (ux M 70 3 (nI 0)) (TXc_eq (o 67 (by decide)) (o 68 (by decide)) hT) (by rw [o 69 (by decide)]; exact h2) ux_s (fun l hl => absurd hl (Nat.not_lt_zero l))
  refine ⟨M2, ⟨f1, fun q => f2 (of_decide_eq_true q), fun q hq => by rw [f3 q hq, o q (by omega)]⟩, fun S d n Q => ?_⟩
  simp only [↓s48_0, ↓s48_1, ↓s48_4, ↓s48_5, ↓s48_8, ↓s48_9, jc_69, gf_69_0, gf_69_1, gf_69_2, ok_69_2, gf_69_3, ok_69_3, gf_69_4, ok_69_4, gf_69_5, ok_69_5, jc_70, gf_70_0, gf_70_1, gf_70_2, gf_70_3, ok_70_3, ↓c57z h70, ct_s, ct_n, ↓bI_01, bI_eq0, bI_eq1, nI_10, nI_01, dec_f, dec_t, if_n, eq_self, true_or, or_true, if_true, if_false, reduceIte]
  exact g S d n Q
end Nums
