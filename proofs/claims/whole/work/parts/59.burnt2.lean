/-! ===== burnt: class and reference ===== -/
section Burnt
variable {M M0 : ax_M} {N : ax_L} {A : ax_A0} {x y z : Int32} {f : Nat → Nat} {w : ax_V} {s m : Nat}
/-- the pulls of the dishes of mask c below k -/
def pl (A : ax_A0) (f : Nat → Nat) (w : ax_V) (s c : Nat) : Nat → Int
  | 0 => 0
  | k + 1 => pl A f w s c k + (if hasB c k = true then gP A f w s k else 0)
theorem pl_gL {c : Nat} (hm : m < 9) (hc : c < 2 ^ m) : ∀ k, k ≤ m → gL A f w s (2 ^ m - 1 - c) k = pl A f w s c k := by
  intro k
  induction k with
  | zero => intro _; rfl
  | succ k ih =>
    intro hk
    show gL A f w s (2 ^ m - 1 - c) k + (ck (2 ^ m - 1 - c) k : Int) * gP A f w s k = pl A f w s c k + _
    rw [ih (by omega)]
    unfold ck
    rw [cp_has m hm c hc k (by omega)]
    cases hasB c k with
    | true => simp
    | false => simp
theorem l77 {g : Nat → Int32} {c : Nat} (hc : c < 256) (hm : m ≤ 8) {d n : Nat} {S : ax_S} {Q : Option Value → Nat → ax_H → Prop} : ∀ (r i : Nat), i + r = m → ax_W (d + 2) 77 4 [.ref 73, .int (nI c), .int (iI (pl A f w s c i)), .int (nI i)] [] n (hx S (tgM M A f w s m m) N) Q = Q (some (.int (iI (pl A f w s c m)))) n (hx S (tgM M A f w s m m) N) := by
  intro r
  induction r with
  | zero =>
    intro i hi
    have e : i = m := by omega
    subst e
    simp only [↓s77_4, ↓s77_5, ↓s77_6, ↓s77_9, ↓s70_0, ↓s70_1, ↓s70_4, ↓s70_7, jc_73, gf_73_0, gf_73_1, gf_73_2, gf_73_3, ok_73_3, jc_74, gf_74_0, gf_74_1, gf_74_2, gf_74_3, ok_74_3, ↓c53 h74, tg_74, ct_s, ct_n, ↓bI_01, bI_eq0, bI_eq1, nI_10, nI_01, dec_f, dec_t, if_n, eq_self, true_or, or_true, if_true, if_false, reduceIte]
    rw [if_pos (nI_le (a := i) (b := i) (by omega) (by omega))]
    simp only [↓s77_34, ↓s77_35, ct_s, ct_n, ↓bI_01, bI_eq0, bI_eq1, nI_10, nI_01, dec_f, dec_t, if_n, eq_self, true_or, or_true, if_true, if_false, reduceIte]
  | succ r ih =>
    intro i hi
    have ih := ih (i + 1) (by omega)
    rw [show pl A f w s c (i + 1) = pl A f w s c i + (if hasB c i = true then gP A f w s i else 0) from rfl] at ih
    simp only [↓s77_4, ↓s77_5, ↓s77_6, ↓s77_9, ↓s70_0, ↓s70_1, ↓s70_4, ↓s70_7, jc_73, gf_73_0, gf_73_1, gf_73_2, gf_73_3, ok_73_3, jc_74, gf_74_0, gf_74_1, gf_74_2, gf_74_3, ok_74_3, ↓c53 h74, tg_74, ct_s, ct_n, ↓bI_01, bI_eq0, bI_eq1, nI_10, nI_01, dec_f, dec_t, if_n, eq_self, true_or, or_true, if_true, if_false, reduceIte]
    rw [if_neg (nI_ge (a := i) (b := m) (by omega) (by omega))]
    simp only [↓s77_12, ↓s77_13, ↓s77_14, ↓c129, bt_has c hc i (show i < 8 by omega), ct_s, ct_n, ↓bI_01, bI_eq0, bI_eq1, nI_10, nI_01, dec_f, dec_t, if_n, eq_self, true_or, or_true, if_true, if_false, reduceIte]
    cases h : hasB c i with
    | true =>
      rw [h, if_pos rfl] at ih
      simp only [↓s77_17, ↓s77_20, ↓s77_21, ↓s77_22, ↓s77_23, ↓s77_26, ↓s77_27, ↓s77_28, ↓s77_31, ↓s71_0, ↓s71_1, ↓s71_4, ↓s71_5, ↓s71_6, ↓s71_9, jc_73, gf_73_0, gf_73_1, gf_73_2, gf_73_3, ok_73_3, jc_74, gf_74_0, gf_74_1, gf_74_2, gf_74_3, ok_74_3, ↓c54 h74 (cap_of (tg_74 (M := M) (A := A) (f := f) (w := w) (s := s) (m := m) (i := m)) hm (by omega)), tg_cell1 (show i < m by omega) (show i < m by omega) hm, iI_add, nI_add, ct_s, ct_n, ↓bI_01, bI_eq0, bI_eq1, nI_10, nI_01, dec_f, dec_t, if_n, eq_self, true_or, or_true, if_true, if_false, reduceIte, Bool.true_eq_false, not_false_eq_true, decide_true, decide_false]
      exact ih
    | false =>
      rw [h, if_neg (by decide), Int.add_zero] at ih
      simp only [↓s77_17, ↓s77_28, ↓s77_31, nI_add, ct_s, ct_n, ↓bI_01, bI_eq0, bI_eq1, nI_10, nI_01, dec_f, dec_t, if_n, eq_self, true_or, or_true, if_true, if_false, reduceIte, not_true_eq_false, decide_true, decide_false]
      exact ih
theorem c77 {c : Nat} (hc : c < 256) (hm : m ≤ 8) {d n : Nat} {S : ax_S} {Q : Option Value → Nat → ax_H → Prop} : ax_W (d + 2) 77 0 [.ref 73, .int (nI c), ax_dm, ax_dm] [] n (hx S (tgM M A f w s m m) N) Q = Q (some (.int (iI (pl A f w s c m)))) n (hx S (tgM M A f w s m m) N) := by
  simp only [↓s77_0, ↓s77_1, ↓s77_2, ↓s77_3, ct_s, ct_n, ↓bI_01, bI_eq0, bI_eq1, nI_10, nI_01, dec_f, dec_t, if_n, eq_self, true_or, or_true, if_true, if_false, reduceIte]
  exact l77 (g := fun _ => 0) hc hm m 0 (by omega)
/-- how a burnt mask b counts -/
def wv (A : ax_A0) (s v o b : Nat) : Nat := if vdI (iI (leA A + gL A (mdA A) (nowA A) s b (nmA A))) = nI v then (10 - o) ^ (nmA A - pop b) * o ^ pop b else 0
theorem wv_le {v o b : Nat} (hm : nmA A ≤ 8) (ho : o ≤ 10) : wv A s v o b ≤ 10000000000000000 := by
  unfold wv
  split
  · have := pw_10 (o := 10 - o) (p := nmA A - pop b) (by omega) (by omega)
    have := pw_10 (o := o) (p := pop b) ho (bt_pop8 b)
    exact Nat.le_trans (Nat.mul_le_mul (by assumption) (by assumption)) (by decide)
  · exact Nat.zero_le _
theorem l76 (hC : RC M 21 A) (hW : WF A) {v o : Nat} (ho : o ≤ 10) {d n : Nat} {S : ax_S} {Q : Option Value → Nat → ax_H → Prop} : ∀ (r c : Nat), c + r = 2 ^ nmA A → ∀ y6, ax_W (d + 3) 76 5 [.ref 73, .int (nI v), .int (nI o), .long (nL (sm (fun c => wv A s v o (2 ^ nmA A - 1 - c)) c)), ax_dm, .int (nI c), y6] [] n (hx S (tgM M A (mdA A) (nowA A) s (nmA A) (nmA A)) N) Q = Q (some (.long (nL (sm (fun c => wv A s v o (2 ^ nmA A - 1 - c)) (2 ^ nmA A))))) n (hx S (tgM M A (mdA A) (nowA A) s (nmA A) (nmA A)) N) := by
  have m8 := hW.2.2.2.1.2
  have p2 := p2_le (nmA A) (by omega)
  have hC2 := RC_tg (f := mdA A) (w := nowA A) (s := s) (m := nmA A) (i := nmA A) hC
  intro r
  induction r with
  | zero =>
    intro c hc y6
    have e : c = 2 ^ nmA A := by omega
    simp only [↓s76_5, ↓s76_7, ↓s76_8, ↓s76_9, ↓s76_12, ↓s76_13, ↓s70_0, ↓s70_1, ↓s70_4, ↓s70_7, jc_73, gf_73_0, gf_73_1, gf_73_2, gf_73_3, ok_73_3, jc_74, gf_74_0, gf_74_1, gf_74_2, gf_74_3, ok_74_3, ↓c53 h74, tg_74, sh_one _ (show nmA A < 9 by omega), ct_s, ct_n, ↓bI_01, bI_eq0, bI_eq1, nI_10, nI_01, dec_f, dec_t, if_n, eq_self, true_or, or_true, if_true, if_false, reduceIte]
    rw [if_pos (nI_le (a := 2 ^ nmA A) (b := c) (by omega) (by omega)), e]
    simp only [↓s76_76, ↓s76_77, ct_s, ct_n, ↓bI_01, bI_eq0, bI_eq1, nI_10, nI_01, dec_f, dec_t, if_n, eq_self, true_or, or_true, if_true, if_false, reduceIte]
  | succ r ih =>
    intro c hc y6
    have hcl : c < 2 ^ nmA A := by omega
    have cp := cp_pop (nmA A) (by omega) c hcl
    have ih := ih (c + 1) (by omega)
    rw [show sm (fun c => wv A s v o (2 ^ nmA A - 1 - c)) (c + 1) = sm (fun c => wv A s v o (2 ^ nmA A - 1 - c)) c + wv A s v o (2 ^ nmA A - 1 - c) from rfl] at ih
    simp only [↓s76_5, ↓s76_7, ↓s76_8, ↓s76_9, ↓s76_12, ↓s76_13, ↓s70_0, ↓s70_1, ↓s70_4, ↓s70_7, jc_73, gf_73_0, gf_73_1, gf_73_2, gf_73_3, ok_73_3, jc_74, gf_74_0, gf_74_1, gf_74_2, gf_74_3, ok_74_3, ↓c53 h74, tg_74, sh_one _ (show nmA A < 9 by omega), ct_s, ct_n, ↓bI_01, bI_eq0, bI_eq1, nI_10, nI_01, dec_f, dec_t, if_n, eq_self, true_or, or_true, if_true, if_false, reduceIte]
    rw [if_neg (nI_ge (a := c) (b := 2 ^ nmA A) (by omega) (by omega))]
    simp only [↓s76_16, ↓s76_17, ↓s76_20, ↓s76_23, ↓s76_24, ↓s76_26, ↓s76_29, ↓s76_30, ↓s76_33, ↓s76_34, jc_73, gf_73_0, gf_73_1, gf_73_2, gf_73_3, ok_73_3, jc_21, gf_21_0, gf_21_1, gf_21_2, gf_21_3, gf_21_4, gf_21_5, ok_21_5, gf_21_6, ok_21_6, ↓c77 (show c < 256 by omega) m8, rc_le hC2, iI_add, ↓c126, ct_s, ct_n, ↓bI_01, bI_eq0, bI_eq1, nI_10, nI_01, dec_f, dec_t, if_n, eq_self, true_or, or_true, if_true, if_false, reduceIte]
    unfold wv at ih
    rw [pl_gL (show nmA A < 9 by omega) hcl _ (Nat.le_refl _)] at ih
    by_cases e : vdI (iI (leA A + pl A (mdA A) (nowA A) s c (nmA A))) = nI v
    · rw [if_pos e] at ih
      rw [if_pos e]
      have q1 : nmA A - pop (2 ^ nmA A - 1 - c) = pop c := by omega
      have q2 : pop (2 ^ nmA A - 1 - c) = nmA A - pop c := by omega
      rw [q1, q2] at ih
      have f1 := pwL_n (b := 10 - o) (pop c) 1
      have f2 := pwL_n (b := o) (nmA A - pop c) 1
      rw [Nat.one_mul] at f1 f2
      rw [show nL 1 = (1 : Int64) from rfl] at f1 f2
      simp only [↓s76_37, ↓s76_39, ↓s76_42, ↓s76_44, ↓s76_45, ↓s76_47, ↓s76_48, ↓s76_49, ↓s76_50, ↓s76_52, ↓s76_55, ↓s76_56, ↓s76_57, ↓s76_58, ↓s76_61, ↓s76_63, ↓s76_64, ↓s76_67, ↓s76_68, ↓s76_69, ↓s76_70, ↓s76_73, ↓s70_0, ↓s70_1, ↓s70_4, ↓s70_7, jc_73, gf_73_0, gf_73_1, gf_73_2, gf_73_3, ok_73_3, jc_74, gf_74_0, gf_74_1, gf_74_2, gf_74_3, ok_74_3, ↓c218 (show c < 256 by omega), pk_sub ho, nI_64 (show 10 - o < 2 ^ 31 by omega), nI_64 (show o < 2 ^ 31 by omega), ↓c132 _ _ (show pop c < 2 ^ 31 by omega), ↓c53 h74, tg_74, pk_sub (show pop c ≤ nmA A by omega), ↓c132 _ _ (show nmA A - pop c < 2 ^ 31 by omega), f1, f2, nL_mul, nL_add, nI_add, ct_s, ct_n, ↓bI_01, bI_eq0, bI_eq1, nI_10, nI_01, dec_f, dec_t, if_n, eq_self, true_or, or_true, if_true, if_false, reduceIte]
      exact ih _
    · rw [if_neg e, Nat.add_zero] at ih
      rw [if_neg e]
      simp only [↓s76_70, ↓s76_73, nI_add, ct_s, ct_n, ↓bI_01, bI_eq0, bI_eq1, nI_10, nI_01, dec_f, dec_t, if_n, eq_self, true_or, or_true, if_true, if_false, reduceIte]
      exact ih _
theorem c76 (hC : RC M 21 A) (hW : WF A) {v o : Nat} (ho : o ≤ 10) {d n : Nat} {S : ax_S} {Q : Option Value → Nat → ax_H → Prop} : ax_W (d + 3) 76 0 [.ref 73, .int (nI v), .int (nI o), ax_dm, ax_dm, ax_dm, ax_dm] [] n (hx S (tgM M A (mdA A) (nowA A) s (nmA A) (nmA A)) N) Q = Q (some (.long (nL (sm (wv A s v o) (2 ^ nmA A))))) n (hx S (tgM M A (mdA A) (nowA A) s (nmA A) (nmA A)) N) := by
  rw [← sm_r]
  simp only [↓s76_0, ↓s76_1, ↓s76_2, ↓s76_3, ct_s, ct_n, ↓bI_01, bI_eq0, bI_eq1, nI_10, nI_01, dec_f, dec_t, if_n, eq_self, true_or, or_true, if_true, if_false, reduceIte]
  exact l76 hC hW ho (2 ^ nmA A) 0 (Nat.zero_add _) ax_dm
theorem l195a (hA : M 85 = A) (hW : WF A) {y1 y2 y3 : Int32} {T : Int64} {d n : Nat} {S : ax_S} {Q : Option Value → Nat → ax_H → Prop} {y9 y10 y11 : Value} : ∀ (r i : Nat), i + r = nmA A → ax_W (d + 7) 195 47 [.ref 84, .int y1, .int y2, .int y3, .long T, ax_dm, .long (nL (10 ^ i)), ax_dm, .int (nI i), y9, y10, y11] [] n (hx S M N) Q = ax_W (d + 7) 195 72 [.ref 84, .int y1, .int y2, .int y3, .long T, ax_dm, .long (nL (10 ^ nmA A)), ax_dm, .int (nI (nmA A)), y9, y10, y11] [] n (hx S M N) Q := by
  have m8 := hW.2.2.2.1.2
  have a4 : M 85 4 = nI (nmA A) := by rw [hA]; exact hW.2.2.2.1.1
  intro r
  induction r with
  | zero =>
    intro i hi
    have e : i = nmA A := by omega
    simp only [↓s195_47, ↓s195_49, ↓s195_50, ↓s195_53, ↓s195_54, ↓s195_55, jc_84, gf_84_0, gf_84_1, gf_84_2, gf_84_3, gf_84_4, ok_84_4, gf_84_5, ok_84_5, gf_84_6, ok_84_6, gf_84_7, ok_84_7, gf_84_8, ok_84_8, gf_84_9, ok_84_9, gf_84_10, gf_84_11, gf_84_12, gf_84_13, gf_84_14, gf_84_15, gf_84_16, gf_84_17, ok_84_17, gf_84_18, gf_84_19, ok_84_19, gf_84_20, ok_84_20, gf_84_21, gf_84_22, gf_84_23, gf_84_24, ok_84_24, gf_84_25, ok_84_25, gf_84_26, ok_84_26, gf_84_27, ok_84_27, gf_84_28, ok_84_28, gf_84_29, gf_84_30, al_85 (show 4 < 181 by decide), a4, ct_s, ct_n, ↓bI_01, bI_eq0, bI_eq1, nI_10, nI_01, dec_f, dec_t, if_n, eq_self, true_or, or_true, if_true, if_false, reduceIte]
    rw [e, if_pos (nI_le (a := nmA A) (b := nmA A) (by omega) (by omega))]
  | succ r ih =>
    intro i hi
    simp only [↓s195_47, ↓s195_49, ↓s195_50, ↓s195_53, ↓s195_54, ↓s195_55, jc_84, gf_84_0, gf_84_1, gf_84_2, gf_84_3, gf_84_4, ok_84_4, gf_84_5, ok_84_5, gf_84_6, ok_84_6, gf_84_7, ok_84_7, gf_84_8, ok_84_8, gf_84_9, ok_84_9, gf_84_10, gf_84_11, gf_84_12, gf_84_13, gf_84_14, gf_84_15, gf_84_16, gf_84_17, ok_84_17, gf_84_18, gf_84_19, ok_84_19, gf_84_20, ok_84_20, gf_84_21, gf_84_22, gf_84_23, gf_84_24, ok_84_24, gf_84_25, ok_84_25, gf_84_26, ok_84_26, gf_84_27, ok_84_27, gf_84_28, ok_84_28, gf_84_29, gf_84_30, al_85 (show 4 < 181 by decide), a4, ct_s, ct_n, ↓bI_01, bI_eq0, bI_eq1, nI_10, nI_01, dec_f, dec_t, if_n, eq_self, true_or, or_true, if_true, if_false, reduceIte]
    rw [if_neg (nI_ge (a := i) (b := nmA A) (by omega) (by omega))]
    simp only [↓s195_58, ↓s195_60, ↓s195_63, ↓s195_64, ↓s195_66, ↓s195_69, show (10 : Int64) = nL 10 from rfl, nL_mul, nI_add, ct_s, ct_n, ↓bI_01, bI_eq0, bI_eq1, nI_10, nI_01, dec_f, dec_t, if_n, eq_self, true_or, or_true, if_true, if_false, reduceIte]
    exact ih (i + 1) (by omega)
theorem l195w (hA : M 85 = A) (hW : WF A) {y1 y3 : Int32} {o b : Nat} (ho : o ≤ 10) (hb : b < 256) {T B : Int64} {d n : Nat} {S : ax_S} {Q : Option Value → Nat → ax_H → Prop} : ∀ (r i : Nat), i + r = nmA A → ax_W (d + 7) 195 94 [.ref 84, .int y1, .int (nI o), .int y3, .long T, ax_dm, .long B, ax_dm, .int (nI b), .long (nL (wt o b i)), ax_dm, .int (nI i)] [] n (hx S M N) Q = ax_W (d + 7) 195 137 [.ref 84, .int y1, .int (nI o), .int y3, .long T, ax_dm, .long B, ax_dm, .int (nI b), .long (nL (wt o b (nmA A))), ax_dm, .int (nI (nmA A))] [] n (hx S M N) Q := by
  have m8 := hW.2.2.2.1.2
  have a4 : M 85 4 = nI (nmA A) := by rw [hA]; exact hW.2.2.2.1.1
  intro r
  induction r with
  | zero =>
    intro i hi
    have e : i = nmA A := by omega
    simp only [↓s195_94, ↓s195_96, ↓s195_97, ↓s195_100, ↓s195_101, ↓s195_102, jc_84, gf_84_0, gf_84_1, gf_84_2, gf_84_3, gf_84_4, ok_84_4, gf_84_5, ok_84_5, gf_84_6, ok_84_6, gf_84_7, ok_84_7, gf_84_8, ok_84_8, gf_84_9, ok_84_9, gf_84_10, gf_84_11, gf_84_12, gf_84_13, gf_84_14, gf_84_15, gf_84_16, gf_84_17, ok_84_17, gf_84_18, gf_84_19, ok_84_19, gf_84_20, ok_84_20, gf_84_21, gf_84_22, gf_84_23, gf_84_24, ok_84_24, gf_84_25, ok_84_25, gf_84_26, ok_84_26, gf_84_27, ok_84_27, gf_84_28, ok_84_28, gf_84_29, gf_84_30, al_85 (show 4 < 181 by decide), a4, ct_s, ct_n, ↓bI_01, bI_eq0, bI_eq1, nI_10, nI_01, dec_f, dec_t, if_n, eq_self, true_or, or_true, if_true, if_false, reduceIte]
    rw [e, if_pos (nI_le (a := nmA A) (b := nmA A) (by omega) (by omega))]
  | succ r ih =>
    intro i hi
    have ih := ih (i + 1) (by omega)
    rw [show wt o b (i + 1) = wt o b i * (if hasB b i = true then o else 10 - o) from rfl] at ih
    simp only [↓s195_94, ↓s195_96, ↓s195_97, ↓s195_100, ↓s195_101, ↓s195_102, jc_84, gf_84_0, gf_84_1, gf_84_2, gf_84_3, gf_84_4, ok_84_4, gf_84_5, ok_84_5, gf_84_6, ok_84_6, gf_84_7, ok_84_7, gf_84_8, ok_84_8, gf_84_9, ok_84_9, gf_84_10, gf_84_11, gf_84_12, gf_84_13, gf_84_14, gf_84_15, gf_84_16, gf_84_17, ok_84_17, gf_84_18, gf_84_19, ok_84_19, gf_84_20, ok_84_20, gf_84_21, gf_84_22, gf_84_23, gf_84_24, ok_84_24, gf_84_25, ok_84_25, gf_84_26, ok_84_26, gf_84_27, ok_84_27, gf_84_28, ok_84_28, gf_84_29, gf_84_30, al_85 (show 4 < 181 by decide), a4, ct_s, ct_n, ↓bI_01, bI_eq0, bI_eq1, nI_10, nI_01, dec_f, dec_t, if_n, eq_self, true_or, or_true, if_true, if_false, reduceIte]
    rw [if_neg (nI_ge (a := i) (b := nmA A) (by omega) (by omega))]
    simp only [↓s195_105, ↓s195_107, ↓s195_109, ↓s195_111, ↓s195_112, ↓s195_113, ↓s195_114, ↓s195_115, bt_has b hb i (show i < 8 by omega), ct_s, ct_n, ↓bI_01, bI_eq0, bI_eq1, nI_10, nI_01, dec_f, dec_t, if_n, eq_self, true_or, or_true, if_true, if_false, reduceIte]
    cases h : hasB b i with
    | true =>
      rw [h, if_pos rfl] at ih
      rw [if_pos rfl]
      simp only [↓s195_118, ↓s195_119, ↓s195_120, ↓s195_123, ↓s195_125, ↓s195_126, ↓s195_127, ↓s195_128, ↓s195_129, ↓s195_131, ↓s195_134, nI_64 (show o < 2 ^ 31 by omega), nL_mul, nI_add, ct_s, ct_n, ↓bI_01, bI_eq0, bI_eq1, nI_10, nI_01, dec_f, dec_t, if_n, eq_self, true_or, or_true, if_true, if_false, reduceIte]
      exact ih
    | false =>
      rw [h, if_neg (by decide)] at ih
      rw [if_neg (by decide)]
      simp only [↓s195_123, ↓s195_125, ↓s195_126, ↓s195_127, ↓s195_128, ↓s195_129, ↓s195_131, ↓s195_134, pk_sub ho, nI_64 (show 10 - o < 2 ^ 31 by omega), nL_mul, nI_add, ct_s, ct_n, ↓bI_01, bI_eq0, bI_eq1, nI_10, nI_01, dec_f, dec_t, if_n, eq_self, true_or, or_true, if_true, if_false, reduceIte]
      exact ih
theorem l195 (hA0 : M0 85 = A) (hW : WF A) (hs : s ≤ 1) {v o : Nat} (ho : o ≤ 10) {B : Int64} : ∀ (r b : Nat), b + r = 2 ^ nmA A → ∀ (M : ax_M), sc M0 M → ∀ y9 y10 y11, ∃ (M2 : ax_M) (z8 z9 z10 z11 : Value), sc M0 M2 ∧ ∀ (S : ax_S) (d n : Nat) (Q : Option Value → Nat → ax_H → Prop), ax_W (d + 7) 195 75 [.ref 84, .int (nI s), .int (nI o), .int (nI v), .long (nL (sm (wv A s v o) b)), ax_dm, .long B, ax_dm, .int (nI b), y9, y10, y11] [] n (hx S M N) Q = ax_W (d + 7) 195 172 [.ref 84, .int (nI s), .int (nI o), .int (nI v), .long (nL (sm (wv A s v o) (2 ^ nmA A))), ax_dm, .long B, ax_dm, z8, z9, z10, z11] [] n (hx S M2 N) Q := by
  have m8 := hW.2.2.2.1.2
  have p2 := p2_le (nmA A) (by omega)
  intro r
  induction r with
  | zero =>
    intro b hb M hM y9 y10 y11
    have hA := (hM.1 85 (by omega)).trans hA0
    have a4 : M 85 4 = nI (nmA A) := by rw [hA]; exact hW.2.2.2.1.1
    have e : b = 2 ^ nmA A := by omega
    refine ⟨M, .int (nI b), y9, y10, y11, hM, fun S d n Q => ?_⟩
    simp only [↓s195_75, ↓s195_77, ↓s195_78, ↓s195_79, ↓s195_82, ↓s195_83, ↓s195_84, ↓s195_85, jc_84, gf_84_0, gf_84_1, gf_84_2, gf_84_3, gf_84_4, ok_84_4, gf_84_5, ok_84_5, gf_84_6, ok_84_6, gf_84_7, ok_84_7, gf_84_8, ok_84_8, gf_84_9, ok_84_9, gf_84_10, gf_84_11, gf_84_12, gf_84_13, gf_84_14, gf_84_15, gf_84_16, gf_84_17, ok_84_17, gf_84_18, gf_84_19, ok_84_19, gf_84_20, ok_84_20, gf_84_21, gf_84_22, gf_84_23, gf_84_24, ok_84_24, gf_84_25, ok_84_25, gf_84_26, ok_84_26, gf_84_27, ok_84_27, gf_84_28, ok_84_28, gf_84_29, gf_84_30, al_85 (show 4 < 181 by decide), a4, sh_one _ (show nmA A < 9 by omega), ct_s, ct_n, ↓bI_01, bI_eq0, bI_eq1, nI_10, nI_01, dec_f, dec_t, if_n, eq_self, true_or, or_true, if_true, if_false, reduceIte]
    rw [e, if_pos (nI_le (a := 2 ^ nmA A) (b := 2 ^ nmA A) (by omega) (by omega))]
  | succ r ih =>
    intro b hb M hM y9 y10 y11
    have hA := (hM.1 85 (by omega)).trans hA0
    have a4 : M 85 4 = nI (nmA A) := by rw [hA]; exact hW.2.2.2.1.1
    have hbl : b < 2 ^ nmA A := by omega
    obtain ⟨M2, z8, z9, z10, z11, h2, h3⟩ := ih (b + 1) (by omega) _ (sc_gm (A := A) (f := mdA A) (w := nowA A) (s := s) (mk := b) (m := nmA A) hM) (.long (nL (wt o b (nmA A)))) ax_dm (.int (nI (nmA A)))
    refine ⟨M2, z8, z9, z10, z11, h2, fun S d n Q => ?_⟩
    have h3 := h3 S d n Q
    rw [show sm (wv A s v o) (b + 1) = sm (wv A s v o) b + wv A s v o b from rfl, show wv A s v o b = (if vdI (iI (leA A + gL A (mdA A) (nowA A) s b (nmA A))) = nI v then (10 - o) ^ (nmA A - pop b) * o ^ pop b else 0) from rfl] at h3
    have hw : (10 - o) ^ (nmA A - pop b) * o ^ pop b = wt o b (nmA A) := by rw [wt_eq, bC_pop (nmA A) (by omega) b hbl]
    rw [hw] at h3
    simp only [↓s195_75, ↓s195_77, ↓s195_78, ↓s195_79, ↓s195_82, ↓s195_83, ↓s195_84, ↓s195_85, jc_84, gf_84_0, gf_84_1, gf_84_2, gf_84_3, gf_84_4, ok_84_4, gf_84_5, ok_84_5, gf_84_6, ok_84_6, gf_84_7, ok_84_7, gf_84_8, ok_84_8, gf_84_9, ok_84_9, gf_84_10, gf_84_11, gf_84_12, gf_84_13, gf_84_14, gf_84_15, gf_84_16, gf_84_17, ok_84_17, gf_84_18, gf_84_19, ok_84_19, gf_84_20, ok_84_20, gf_84_21, gf_84_22, gf_84_23, gf_84_24, ok_84_24, gf_84_25, ok_84_25, gf_84_26, ok_84_26, gf_84_27, ok_84_27, gf_84_28, ok_84_28, gf_84_29, gf_84_30, al_85 (show 4 < 181 by decide), a4, sh_one _ (show nmA A < 9 by omega), ct_s, ct_n, ↓bI_01, bI_eq0, bI_eq1, nI_10, nI_01, dec_f, dec_t, if_n, eq_self, true_or, or_true, if_true, if_false, reduceIte]
    rw [if_neg (nI_ge (a := b) (b := 2 ^ nmA A) (by omega) (by omega))]
    simp only [↓s195_88, ↓s195_89, ↓s195_91, ↓s195_92, ct_s, ct_n, ↓bI_01, bI_eq0, bI_eq1, nI_10, nI_01, dec_f, dec_t, if_n, eq_self, true_or, or_true, if_true, if_false, reduceIte]
    refine (l195w (o := o) (b := b) hA hW ho (by omega) (nmA A) 0 (by omega)).trans ?_
    simp only [↓s195_137, ↓s195_138, ↓s195_139, ↓s195_141, ↓s195_144, ↓s195_146, ↓s195_147, ↓s195_150, ↓s195_153, ↓s195_154, jc_84, gf_84_0, gf_84_1, gf_84_2, gf_84_3, gf_84_4, ok_84_4, gf_84_5, ok_84_5, gf_84_6, ok_84_6, gf_84_7, ok_84_7, gf_84_8, ok_84_8, gf_84_9, ok_84_9, gf_84_10, gf_84_11, gf_84_12, gf_84_13, gf_84_14, gf_84_15, gf_84_16, gf_84_17, ok_84_17, gf_84_18, gf_84_19, ok_84_19, gf_84_20, ok_84_20, gf_84_21, gf_84_22, gf_84_23, gf_84_24, ok_84_24, gf_84_25, ok_84_25, gf_84_26, ok_84_26, gf_84_27, ok_84_27, gf_84_28, ok_84_28, gf_84_29, gf_84_30, ↓c170 hA hW hs (show b < 256 by omega), gm_6, show (nowA A).2.2 = leA A from rfl, ↓c160, ct_s, ct_n, ↓bI_01, bI_eq0, bI_eq1, nI_10, nI_01, dec_f, dec_t, if_n, eq_self, true_or, or_true, if_true, if_false, reduceIte]
    by_cases e : vdI (iI (leA A + gL A (mdA A) (nowA A) s b (nmA A))) = nI v
    · rw [if_pos e] at h3
      rw [if_pos e]
      simp only [↓s195_157, ↓s195_159, ↓s195_162, ↓s195_163, ↓s195_164, ↓s195_166, ↓s195_169, nL_add, nI_add, ct_s, ct_n, ↓bI_01, bI_eq0, bI_eq1, nI_10, nI_01, dec_f, dec_t, if_n, eq_self, true_or, or_true, if_true, if_false, reduceIte]
      exact h3
    · rw [if_neg e] at h3
      rw [if_neg e]
      simp only [↓s195_162, ↓s195_163, ↓s195_164, ↓s195_166, ↓s195_169, show (0 : Int64) = nL 0 from rfl, nL_add, nI_add, ct_s, ct_n, ↓bI_01, bI_eq0, bI_eq1, nI_10, nI_01, dec_f, dec_t, if_n, eq_self, true_or, or_true, if_true, if_false, reduceIte]
      exact h3
def frN (N : ax_L) (p q : Int64) : ax_L := ul (ul N 20 11 p) 20 12 q
def frN2 (N : ax_L) (p q : Int64) : ax_L := ul (ul (frN N p q) 84 4 p) 84 5 q
theorem Inv_fr {p q : Int64} (hI : Inv M N) : Inv M (frN2 N p q) := by
  obtain ⟨i1, i2, i3, i4, i5, i6⟩ := hI
  refine ⟨i1, i2, i3, i4, i5, ?_, ?_⟩
  · show frN2 N p q 20 11 = frN2 N p q 84 4
    unfold frN2 frN
    rw [ul_a (by decide), ul_a (by decide), ul_j (by decide), ul_s, ul_j (by decide), ul_s]
  · show frN2 N p q 20 12 = frN2 N p q 84 5
    unfold frN2 frN
    rw [ul_a (by decide), ul_a (by decide), ul_s, ul_s]
theorem p27_bad (hI : Inv M N) (hb : ¬ ((nI 0 ≤ x ∧ x ≤ nI 1) ∧ (nI 0 ≤ y ∧ y ≤ nI 10) ∧ (nI 0 ≤ z ∧ z ≤ nI 2))) : RPi 108 195 [.ref 20, .int x, .int y, .int z] [.ref 84, .int x, .int y, .int z, ax_dm, ax_dm, ax_dm, ax_dm, ax_dm, ax_dm, ax_dm, ax_dm] M N := by
  refine ⟨-2, ux M 20 13 (M 20 13 + nI 1), N, rjM M 0, N, fun S d n Q => ?_, fun S d n Q => ?_, Inv_rj (by decide) hI⟩
  · simp only [↓s108_0, ↓s108_1, ↓s108_4, ↓s108_7, ↓s108_8, ↓s108_9, ↓s108_11, ↓s108_14, ↓s108_17, ↓s108_18, ↓s108_21, ↓s108_24, ↓s108_25, ↓s108_27, ↓s108_29, ↓s108_32, ↓c122, ↓c121, ↓c124, jc_20, ↓c116, refM_b, ct_s, ct_n, ↓bI_01, bI_eq0, bI_eq1, nI_10, nI_01, dec_f, dec_t, if_n, eq_self, true_or, or_true, if_true, if_false, reduceIte]
    by_cases h0 : nI 0 ≤ x ∧ x ≤ nI 1
    · rw [if_pos h0]
      by_cases h1 : nI 0 ≤ y ∧ y ≤ nI 10
      · rw [if_pos h1, if_neg (fun q => hb ⟨h0, h1, q⟩)]
      · rw [if_neg h1]
    · rw [if_neg h0]
  · have fin : rjM M 0 = ux (ux M 20 13 (M 20 13 + nI 1)) 88 0 (M 88 0 + nI 1) := rfl
    rw [fin]
    simp only [↓s195_0, ↓s195_1, ↓s195_4, ↓s195_7, ↓s195_8, ↓s195_9, ↓s195_10, ↓s195_13, ↓s195_16, ↓s195_19, ↓s195_20, ↓s195_21, ↓s195_22, ↓s195_25, ↓s195_28, ↓s195_31, ↓s195_32, ↓s195_34, ↓s195_37, ↓c142, ↓c135 (l := nI 0) (q := 0) (m := nI 10) (r := 10) rfl rfl, ↓c135 (l := nI 0) (q := 0) (m := nI 2) (r := 2) rfl rfl, jc_84, ↓c136, ux88, ct_s, ct_n, ↓bI_01, bI_eq0, bI_eq1, nI_10, nI_01, dec_f, dec_t, if_n, eq_self, true_or, or_true, if_true, if_false, reduceIte]
    by_cases h0 : nI 0 ≤ x ∧ x ≤ nI 1
    · rw [if_pos h0]
      by_cases h1 : nI 0 ≤ y ∧ y ≤ nI 10
      · rw [if_pos h1, if_neg (fun q => hb ⟨h0, h1, q⟩)]
      · rw [if_neg h1]
    · rw [if_neg h0]
theorem p27 (hI : Inv M N) : RPi 108 195 [.ref 20, .int x, .int y, .int z] [.ref 84, .int x, .int y, .int z, ax_dm, ax_dm, ax_dm, ax_dm, ax_dm, ax_dm, ax_dm, ax_dm] M N := by
  have hC := hI.1
  have hW := hI.2.1
  by_cases h0 : nI 0 ≤ x ∧ x ≤ nI 1
  · by_cases h1 : nI 0 ≤ y ∧ y ≤ nI 10
    · by_cases h2 : nI 0 ≤ z ∧ z ≤ nI 2
      · obtain ⟨s, s1, rfl⟩ := rng (by decide) h0
        obtain ⟨o, o1, rfl⟩ := rng (by decide) h1
        obtain ⟨v, v1, rfl⟩ := rng (by decide) h2
        generalize hA : M 85 = A at *
        have m8 := hW.2.2.2.1.2
        have p2 := p2_le (nmA A) (by omega)
        have hC1 : RC (ux M 74 3 (nI 0)) 21 A := RC_ux (by decide) hC
        have sc1 : sc M (tgM (ux M 74 3 (nI 0)) A (mdA A) (nowA A) s (nmA A) (nmA A)) := sc_tg (sc_ux sc_rf (by omega))
        have hA2 : (tgM (ux M 74 3 (nI 0)) A (mdA A) (nowA A) s (nmA A) (nmA A)) 85 = A := (sc1.1 85 (by omega)).trans hA
        have bT : sm (wv A s v o) (2 ^ nmA A) < 2 ^ 63 := by
          have a := sm_le (f := wv A s v o) (2 ^ nmA A) (fun i _ => wv_le m8 o1)
          have b : 2 ^ nmA A * 10000000000000000 ≤ 256 * 10000000000000000 := Nat.mul_le_mul_right _ p2
          omega
        have bB : 10 ^ nmA A < 2 ^ 40 := Nat.lt_of_le_of_lt (Nat.pow_le_pow_right (by decide) m8) (by decide)
        have bP : 0 < 10 ^ nmA A := Nat.pow_pos (by decide)
        obtain ⟨M2, z8, z9, z10, z11, h2', g2⟩ := l195 (N := frN N (nL (sm (wv A s v o) (2 ^ nmA A) / Nat.gcd (sm (wv A s v o) (2 ^ nmA A)) (10 ^ nmA A))) (nL (10 ^ nmA A / Nat.gcd (sm (wv A s v o) (2 ^ nmA A)) (10 ^ nmA A)))) (v := v) (B := nL (10 ^ nmA A)) hA2 hW s1 o1 (2 ^ nmA A) 0 (Nat.zero_add _) _ sc_rf ax_dm ax_dm ax_dm
        have f3 := pwL_n (b := 10) (nmA A) 1
        rw [Nat.one_mul, show nL 1 = (1 : Int64) from rfl, show nL 10 = (10 : Int64) from rfl] at f3
        refine ⟨nI 1, tgM (ux M 74 3 (nI 0)) A (mdA A) (nowA A) s (nmA A) (nmA A), frN N (nL (sm (wv A s v o) (2 ^ nmA A) / Nat.gcd (sm (wv A s v o) (2 ^ nmA A)) (10 ^ nmA A))) (nL (10 ^ nmA A / Nat.gcd (sm (wv A s v o) (2 ^ nmA A)) (10 ^ nmA A))), M2, frN2 N (nL (sm (wv A s v o) (2 ^ nmA A) / Nat.gcd (sm (wv A s v o) (2 ^ nmA A)) (10 ^ nmA A))) (nL (10 ^ nmA A / Nat.gcd (sm (wv A s v o) (2 ^ nmA A)) (10 ^ nmA A))), fun S d n Q => ?_, fun S d n Q => ?_, Inv_fr (Inv_sc (sc_tr sc1 h2') hI)⟩
        · simp only [↓s108_0, ↓s108_1, ↓s108_4, ↓s108_7, ↓s108_8, ↓s108_9, ↓s108_11, ↓s108_14, ↓s108_17, ↓s108_18, ↓s108_21, ↓c122, ↓c121, ↓c124, ct_s, ct_n, ↓bI_01, bI_eq0, bI_eq1, nI_10, nI_01, dec_f, dec_t, if_n, eq_self, true_or, or_true, if_true, if_false, reduceIte]
          rw [if_pos h0, if_pos h1, if_pos h2]
          simp only [↓s108_33, ↓s108_34, ↓s108_37, ↓s108_38, ↓s108_41, ↓s108_42, ↓s108_43, ↓s108_46, ↓s108_47, ↓s108_48, ↓s108_51, ↓s108_54, ↓s108_55, ↓s108_58, ↓s70_0, ↓s70_1, ↓s70_4, ↓s70_7, jc_20, gf_20_0, gf_20_1, gf_20_2, gf_20_3, gf_20_4, gf_20_5, gf_20_6, gf_20_7, gf_20_8, gf_20_9, gf_20_10, gf_20_11, ok_20_11, gf_20_12, ok_20_12, gf_20_13, ok_20_13, gf_20_14, ok_20_14, gf_20_15, ok_20_15, jc_73, gf_73_0, gf_73_1, gf_73_2, gf_73_3, ok_73_3, jc_74, gf_74_0, gf_74_1, gf_74_2, gf_74_3, ok_74_3, ↓c73 hC hW s1, ↓c76 hC1 hW o1, ↓c53 h74, tg_74, ct_s, ct_n, ↓bI_01, bI_eq0, bI_eq1, nI_10, nI_01, dec_f, dec_t, if_n, eq_self, true_or, or_true, if_true, if_false, reduceIte]
          simp only [↓s108_61, ↓s108_64, ↓s108_67, ↓s108_68, jc_20, gf_20_0, gf_20_1, gf_20_2, gf_20_3, gf_20_4, gf_20_5, gf_20_6, gf_20_7, gf_20_8, gf_20_9, gf_20_10, gf_20_11, ok_20_11, gf_20_12, ok_20_12, gf_20_13, ok_20_13, gf_20_14, ok_20_14, gf_20_15, ok_20_15, ↓c132 _ _ (show nmA A < 2 ^ 31 by omega), f3, ↓c120 bT bB bP, ct_s, ct_n, ↓bI_01, bI_eq0, bI_eq1, nI_10, nI_01, dec_f, dec_t, if_n, eq_self, true_or, or_true, if_true, if_false, reduceIte]
          rfl
        · simp only [↓s195_0, ↓s195_1, ↓s195_4, ↓s195_7, ↓s195_8, ↓s195_9, ↓s195_10, ↓s195_13, ↓s195_16, ↓s195_19, ↓s195_20, ↓s195_21, ↓s195_22, ↓s195_25, ↓s195_28, ↓c142, ↓c135 (l := nI 0) (q := 0) (m := nI 10) (r := 10) rfl rfl, ↓c135 (l := nI 0) (q := 0) (m := nI 2) (r := 2) rfl rfl, ct_s, ct_n, ↓bI_01, bI_eq0, bI_eq1, nI_10, nI_01, dec_f, dec_t, if_n, eq_self, true_or, or_true, if_true, if_false, reduceIte]
          rw [if_pos h0, if_pos h1, if_pos h2]
          simp only [↓s195_38, ↓s195_39, ↓s195_41, ↓s195_42, ↓s195_44, ↓s195_45, ct_s, ct_n, ↓bI_01, bI_eq0, bI_eq1, nI_10, nI_01, dec_f, dec_t, if_n, eq_self, true_or, or_true, if_true, if_false, reduceIte]
          refine (l195a (d := d + 893) hA2 hW (nmA A) 0 (by omega)).trans ?_
          simp only [↓s195_72, ↓s195_73, ct_s, ct_n, ↓bI_01, bI_eq0, bI_eq1, nI_10, nI_01, dec_f, dec_t, if_n, eq_self, true_or, or_true, if_true, if_false, reduceIte]
          refine (g2 S (d + 893) n Q).trans ?_
          simp only [↓s195_172, ↓s195_173, ↓s195_175, ↓s195_177, ↓s195_180, ↓s195_181, jc_84, gf_84_0, gf_84_1, gf_84_2, gf_84_3, gf_84_4, ok_84_4, gf_84_5, ok_84_5, gf_84_6, ok_84_6, gf_84_7, ok_84_7, gf_84_8, ok_84_8, gf_84_9, ok_84_9, gf_84_10, gf_84_11, gf_84_12, gf_84_13, gf_84_14, gf_84_15, gf_84_16, gf_84_17, ok_84_17, gf_84_18, gf_84_19, ok_84_19, gf_84_20, ok_84_20, gf_84_21, gf_84_22, gf_84_23, gf_84_24, ok_84_24, gf_84_25, ok_84_25, gf_84_26, ok_84_26, gf_84_27, ok_84_27, gf_84_28, ok_84_28, gf_84_29, gf_84_30, ↓c194 bT bB bP, ct_s, ct_n, ↓bI_01, bI_eq0, bI_eq1, nI_10, nI_01, dec_f, dec_t, if_n, eq_self, true_or, or_true, if_true, if_false, reduceIte]
          rfl
      · exact p27_bad hI (fun q => h2 q.2.2)
    · exact p27_bad hI (fun q => h1 q.2.1)
  · exact p27_bad hI (fun q => h0 q.1)
end Burnt
