/-! ===== pardon: the reference's walk ===== -/
section Pardon5
variable {M : ax_M} {N : ax_L} {A : ax_A0} {s m r : Nat} {f : Nat → Nat} {b : bX} {v : ax_V}
def SBP (N : ax_L) (A : ax_A0) (s r : Nat) : Prop := ∀ (m : Nat) (v : ax_V) (f : Nat → Nat) (b : bX) (M : ax_M) (y4 : Value), m + r = 4 → M 85 = A → frm M m v → cur M v → M 94 m = nI 0 → rowR M A m f → vok A m v → bestR M b → ∃ (M2 : ax_M) (z4 : Value), (chh m M M2 ∧ bestR M2 (wR A s r v (bsum A f m) m f b)) ∧ ∀ (S : ax_S) (d n : Nat) (Q : Option Value → Nat → ax_H → Prop), ax_W (d + 6) 181 42 [.ref 84, .int (nI s), .int (nI m), .int (nI 1), y4] [] n (hx S M N) Q = ax_W (d + 6) 181 64 [.ref 84, .int (nI s), .int (nI m), .int (nI 1), z4] [] n (hx S M2 N) Q
/-- back from the turn behind -/
theorem bck {i : Nat} {y4 : Value} (hm : m ≤ 3) (hf : frm M m v) (h94 : M 94 m = nI i) : ∃ M3, (frm M3 m v ∧ cur M3 v ∧ M3 94 m = nI (i + 1) ∧ (∀ j, j ≠ m → M3 94 j = M 94 j) ∧ (∀ a, a ≠ 84 → a ≠ 94 → M3 a = M a) ∧ ∀ j, ¬ (6 ≤ j ∧ j ≤ 9) → M3 84 j = M 84 j) ∧ ∀ (S : ax_S) (d n : Nat) (Q : Option Value → Nat → ax_H → Prop), ax_W (d + 6) 181 64 [.ref 84, .int (nI s), .int (nI (m + 1)), .int (nI 1), y4] [] n (hx S M N) Q = ax_W (d + 6) 181 42 [.ref 84, .int (nI s), .int (nI m), .int (nI 1), y4] [] n (hx S M3 N) Q := by
  obtain ⟨M3, hM3⟩ : ∃ M3, M3 = ux (btM M m) 94 m (nI (i + 1)) := ⟨_, rfl⟩
  have q94 : btM M m 94 m = nI i := by rw [bt_o (by decide)]; exact h94
  refine ⟨M3, ⟨?_, ?_, ?_, fun j hj => ?_, fun a h1 h2 => ?_, fun j hj => ?_⟩, fun S d n Q => ?_⟩
  · unfold frm at *
    rw [hM3, ux_f (by decide), ux_f (by decide), ux_f (by decide), ux_f (by decide), bt_o (by decide), bt_o (by decide), bt_o (by decide), bt_o (by decide)]
    exact hf
  · have h := bt_cur hf
    unfold cur at *
    rw [hM3, ux_f (by decide)]
    exact h
  · rw [hM3, ux_s]
  · rw [hM3, ux_j hj, bt_o (by decide)]
  · rw [hM3, ux_f h2, bt_o h1]
  · rw [hM3, ux_a (by decide)]
    exact chg_bt (q := 0) 84 j (by omega) (by omega)
  · have em : nI (m + 1) + (-1) = nI m := by
      have h := pk_sub (show 1 ≤ m + 1 by omega)
      rw [Nat.add_sub_cancel] at h
      rw [← h]
      exact (Int32.sub_eq_add_neg (nI (m + 1)) (nI 1)).symm
    simp only [↓s181_64, ↓s181_67, ↓s181_68, em, ct_s, ct_n, ↓bI_01, bI_eq0, bI_eq1, nI_10, nI_01, dec_f, dec_t, if_n, eq_self, true_or, or_true, if_true, if_false, reduceIte]
    rw [if_neg (nI_nlt (a := m) (b := 0) (by omega) (by omega))]
    simp only [↓s181_71, ↓s181_72, ↓s181_75, ↓s181_76, ↓s181_77, ↓s181_78, ct_s, ct_n, ↓bI_01, bI_eq0, bI_eq1, nI_10, nI_01, dec_f, dec_t, if_n, eq_self, true_or, or_true, if_true, if_false, reduceIte]
    simp only [↓s181_81, ↓s181_82, ↓s181_83, ↓s181_86, ↓s181_87, ↓s181_90, ↓s181_91, ↓s181_92, ↓s181_93, ↓s181_94, ↓s181_95, ↓s181_96, jc_84, gf_84_0, gf_84_1, gf_84_2, gf_84_3, gf_84_4, ok_84_4, gf_84_5, ok_84_5, gf_84_6, ok_84_6, gf_84_7, ok_84_7, gf_84_8, ok_84_8, gf_84_9, ok_84_9, gf_84_10, gf_84_11, gf_84_12, gf_84_13, gf_84_14, gf_84_15, gf_84_16, gf_84_17, ok_84_17, gf_84_18, gf_84_19, ok_84_19, gf_84_20, ok_84_20, gf_84_21, gf_84_22, gf_84_23, gf_84_24, ok_84_24, gf_84_25, ok_84_25, gf_84_26, ok_84_26, gf_84_27, ok_84_27, gf_84_28, ok_84_28, gf_84_29, gf_84_30, ↓c174 (show m < 6 by omega), al_94 (show m < 6 by omega), sa_94 (show m < 6 by omega), q94, nI_add, ← hM3, ct_s, ct_n, ↓bI_01, bI_eq0, bI_eq1, nI_10, nI_01, dec_f, dec_t, if_n, eq_self, true_or, or_true, if_true, if_false, reduceIte]
set_option maxHeartbeats 1000000 in
theorem lsb (hW : WF A) (hs : s ≤ 1) (ih : SBP N A s r) (hm : m + r + 1 = 4) (hok : vok A m v) (hr0 : ∀ j, j < m → f j < ndA A) {b0 : bX} {g : Nat → bX → bX} (hg : g = fun k b => wR A s r (evS A s k v) (bsum A f m + buA A k) (m + 1) (fu f m k) (jr s (evS A s k v) (bsum A f m + buA A k) (m + 1) (fu f m k) b)) : ∀ (t i : Nat), i + t = ndA A → ∀ (M : ax_M) (y4 : Value), M 85 = A → frm M m v → cur M v → M 94 m = nI i → rowR M A m f → bestR M (lpR A s v.1 g i b0) → ∃ (M2 : ax_M) (z4 : Value), (chh m M M2 ∧ bestR M2 (lpR A s v.1 g (ndA A) b0)) ∧ ∀ (S : ax_S) (d n : Nat) (Q : Option Value → Nat → ax_H → Prop), ax_W (d + 6) 181 42 [.ref 84, .int (nI s), .int (nI m), .int (nI 1), y4] [] n (hx S M N) Q = ax_W (d + 6) 181 64 [.ref 84, .int (nI s), .int (nI m), .int (nI 1), z4] [] n (hx S M2 N) Q := by
  have n8 := hW.1.2
  intro t
  induction t with
  | zero =>
    intro i hi M y4 hA hf hcu h94 hr hb
    have e : i = ndA A := by omega
    subst e
    have a0 : M 85 0 = nI (ndA A) := by rw [hA]; exact hW.1.1
    refine ⟨M, y4, ⟨chh_rf, hb⟩, fun S d n Q => ?_⟩
    simp only [↓s181_42, ↓s181_43, ↓s181_46, ↓s181_47, ↓s181_48, ct_s, ct_n, ↓bI_01, bI_eq0, bI_eq1, nI_10, nI_01, dec_f, dec_t, if_n, eq_self, true_or, or_true, if_true, if_false, reduceIte]
    rw [if_neg (fun q => by have := (nI_eq (a := m) (b := 4) (by omega) (by omega)).mp q; omega)]
    simp only [↓s181_51, ↓s181_52, ↓s181_55, ↓s181_56, ↓s181_57, ↓s181_58, ↓s181_61, jc_84, gf_84_0, gf_84_1, gf_84_2, gf_84_3, gf_84_4, ok_84_4, gf_84_5, ok_84_5, gf_84_6, ok_84_6, gf_84_7, ok_84_7, gf_84_8, ok_84_8, gf_84_9, ok_84_9, gf_84_10, gf_84_11, gf_84_12, gf_84_13, gf_84_14, gf_84_15, gf_84_16, gf_84_17, ok_84_17, gf_84_18, gf_84_19, ok_84_19, gf_84_20, ok_84_20, gf_84_21, gf_84_22, gf_84_23, gf_84_24, ok_84_24, gf_84_25, ok_84_25, gf_84_26, ok_84_26, gf_84_27, ok_84_27, gf_84_28, ok_84_28, gf_84_29, gf_84_30, al_94 (show m < 6 by omega), h94, ↓c140, a0, ct_s, ct_n, ↓bI_01, bI_eq0, bI_eq1, nI_10, nI_01, dec_f, dec_t, if_n, eq_self, true_or, or_true, if_true, if_false, reduceIte]
    rw [if_neg (nI_nlt (a := ndA A) (b := ndA A) (by omega) (by omega))]
  | succ t iht =>
    intro i hi M y4 hA hf hcu h94 hr hb
    have hin : i < ndA A := by omega
    obtain ⟨o1, o2, o3, o4⟩ := hok
    have erv := cur_rv hcu
    have a0 : M 85 0 = nI (ndA A) := by rw [hA]; exact hW.1.1
    have pre : ∀ (S : ax_S) (d n : Nat) (Q : Option Value → Nat → ax_H → Prop), ax_W (d + 6) 181 42 [.ref 84, .int (nI s), .int (nI m), .int (nI 1), y4] [] n (hx S M N) Q = ax_W (d + 6) 181 110 [.ref 84, .int (nI s), .int (nI m), .int (nI 1), y4] [.int (bI (mayA A i s v.1))] n (hx S M N) Q := by
      intro S d n Q
      have k159 := fun (d : Nat) (Q : Option Value → Nat → ax_H → Prop) => c159 (d := d) (n := n) (S := S) (N := N) (Q := Q) hA hW hin hs o1
      rw [← erv] at k159
      simp only [↓s181_42, ↓s181_43, ↓s181_46, ↓s181_47, ↓s181_48, ct_s, ct_n, ↓bI_01, bI_eq0, bI_eq1, nI_10, nI_01, dec_f, dec_t, if_n, eq_self, true_or, or_true, if_true, if_false, reduceIte]
      rw [if_neg (fun q => by have := (nI_eq (a := m) (b := 4) (by omega) (by omega)).mp q; omega)]
      simp only [↓s181_51, ↓s181_52, ↓s181_55, ↓s181_56, ↓s181_57, ↓s181_58, ↓s181_61, jc_84, gf_84_0, gf_84_1, gf_84_2, gf_84_3, gf_84_4, ok_84_4, gf_84_5, ok_84_5, gf_84_6, ok_84_6, gf_84_7, ok_84_7, gf_84_8, ok_84_8, gf_84_9, ok_84_9, gf_84_10, gf_84_11, gf_84_12, gf_84_13, gf_84_14, gf_84_15, gf_84_16, gf_84_17, ok_84_17, gf_84_18, gf_84_19, ok_84_19, gf_84_20, ok_84_20, gf_84_21, gf_84_22, gf_84_23, gf_84_24, ok_84_24, gf_84_25, ok_84_25, gf_84_26, ok_84_26, gf_84_27, ok_84_27, gf_84_28, ok_84_28, gf_84_29, gf_84_30, al_94 (show m < 6 by omega), h94, ↓c140, a0, ct_s, ct_n, ↓bI_01, bI_eq0, bI_eq1, nI_10, nI_01, dec_f, dec_t, if_n, eq_self, true_or, or_true, if_true, if_false, reduceIte]
      rw [if_pos (nI_lt hin (by omega))]
      simp only [↓s181_99, ↓s181_100, ↓s181_101, ↓s181_104, ↓s181_105, ↓s181_106, ↓s181_107, jc_84, gf_84_0, gf_84_1, gf_84_2, gf_84_3, gf_84_4, ok_84_4, gf_84_5, ok_84_5, gf_84_6, ok_84_6, gf_84_7, ok_84_7, gf_84_8, ok_84_8, gf_84_9, ok_84_9, gf_84_10, gf_84_11, gf_84_12, gf_84_13, gf_84_14, gf_84_15, gf_84_16, gf_84_17, ok_84_17, gf_84_18, gf_84_19, ok_84_19, gf_84_20, ok_84_20, gf_84_21, gf_84_22, gf_84_23, gf_84_24, ok_84_24, gf_84_25, ok_84_25, gf_84_26, ok_84_26, gf_84_27, ok_84_27, gf_84_28, ok_84_28, gf_84_29, gf_84_30, al_94 (show m < 6 by omega), h94, ↓k159, ct_s, ct_n, ↓bI_01, bI_eq0, bI_eq1, nI_10, nI_01, dec_f, dec_t, if_n, eq_self, true_or, or_true, if_true, if_false, reduceIte]
    cases e : mayA A i s v.1 with
    | false =>
      obtain ⟨M3, hM3⟩ : ∃ M3, M3 = ux M 94 m (nI (i + 1)) := ⟨_, rfl⟩
      have hch : chg m M M3 := by rw [hM3]; exact chg_ux (Or.inr ⟨by omega, by omega, Nat.le_refl _⟩)
      have hf3 : frm M3 m v := by
        unfold frm at *
        rw [hM3, ux_f (by decide), ux_f (by decide), ux_f (by decide), ux_f (by decide)]; exact hf
      have hcu3 : cur M3 v := by
        unfold cur at *
        rw [hM3, ux_f (by decide)]; exact hcu
      obtain ⟨M2, z4, ⟨f1, f2⟩, g2⟩ := iht (i + 1) (by omega) M3 y4 (by rw [hM3, ux_f (by decide)]; exact hA) hf3 hcu3 (by rw [hM3, ux_s]) (chh_row (chh_of hch) hr) (by rw [lpR_f e]; exact chg_best hch hb)
      refine ⟨M2, z4, ⟨chh_tr (chh_of hch) f1, f2⟩, fun S d n Q => ?_⟩
      rw [pre, e]
      simp only [↓s181_110, ↓s181_149, ↓s181_150, ↓s181_153, ↓s181_154, ↓s181_155, ↓s181_156, ↓s181_157, ↓s181_158, ↓s181_159, jc_84, gf_84_0, gf_84_1, gf_84_2, gf_84_3, gf_84_4, ok_84_4, gf_84_5, ok_84_5, gf_84_6, ok_84_6, gf_84_7, ok_84_7, gf_84_8, ok_84_8, gf_84_9, ok_84_9, gf_84_10, gf_84_11, gf_84_12, gf_84_13, gf_84_14, gf_84_15, gf_84_16, gf_84_17, ok_84_17, gf_84_18, gf_84_19, ok_84_19, gf_84_20, ok_84_20, gf_84_21, gf_84_22, gf_84_23, gf_84_24, ok_84_24, gf_84_25, ok_84_25, gf_84_26, ok_84_26, gf_84_27, ok_84_27, gf_84_28, ok_84_28, gf_84_29, gf_84_30, al_94 (show m < 6 by omega), sa_94 (show m < 6 by omega), h94, nI_add, ← hM3, ct_s, ct_n, ↓bI_01, bI_eq0, bI_eq1, nI_10, nI_01, dec_f, dec_t, if_n, eq_self, true_or, or_true, if_true, if_false, reduceIte]
      exact g2 S d n Q
    | true =>
      have lt := mayA_lt e
      have hstep := lpR_t (g := g) (b := b0) e
      generalize hbk : lpR A s v.1 g i b0 = bk at hb hstep
      have okv := evS_vok (s := s) hW hin (m := m) (v := v) ⟨o1, o2, o3, o4⟩
      obtain ⟨M1, hM1⟩ : ∃ M1, M1 = ltM (rvM M (evS A s i v)) (m + 1) := ⟨_, rfl⟩
      have c1 : chg (m + 1) M M1 := by rw [hM1]; exact chg_tr chg_rv chg_lt
      have cu1 : cur M1 (evS A s i v) := by rw [hM1]; exact lt_cur rv_cur
      have fr1 : frm M1 (m + 1) (evS A s i v) := by rw [hM1]; exact lt_frm rv_cur
      have n1 : M1 94 (m + 1) = nI 0 := by rw [hM1]; exact lt_94
      have A1 : M1 85 = A := (chh_85 (chh_of c1)).trans hA
      have row1 : rowR M1 A (m + 1) (fu f m i) := fun j hj => by
        by_cases z : j = m
        · subst z
          rw [fu_s]
          exact ⟨(c1 94 j (by omega) (by omega)).trans h94, hin⟩
        · rw [fu_n z]
          exact ⟨(c1 94 j (by omega) (by omega)).trans (hr j (by omega)).1, (hr j (by omega)).2⟩
      have bu9 : buA A i ≤ 9 := (hW.2.2.2.2.2.2.1 i hin).2.2.2.1.2
      have bs9 : ∀ k, k ≤ m → bsum A f k ≤ 9 * k := by
        intro k
        induction k with
        | zero => intro _; exact Nat.le_refl _
        | succ k ihk =>
          intro hk
          have h1 := ihk (by omega)
          have h2 : buA A (f k) ≤ 9 := (hW.2.2.2.2.2.2.1 (f k) (hr0 k (by omega))).2.2.2.1.2
          show bsum A f k + buA A (f k) ≤ 9 * (k + 1)
          omega
      have bsm := bs9 m (Nat.le_refl _)
      obtain ⟨M4, ⟨j1, j2, j3⟩, g4⟩ := c179 (N := N) (s := s) (c := bsum A f m + buA A i) (m := m + 1) (f := fu f m i) cu1 (by have := okv.2.2.1; omega) (by have := okv.2.2.2; omega) hs (chg_best c1 hb) (by omega) (by omega) (fun j hj => (row1 j hj).1)
      have c4 : chh (m + 1) M1 M4 := fun a j q1 q2 q3 => by
        by_cases z : a = 84
        · subst z; exact j3 j (by omega) (by omega)
        · rw [j2 a z q3]
      have fr4 : frm M4 (m + 1) (evS A s i v) := by
        unfold frm at *
        rw [j2 90 (by decide) (by decide), j2 91 (by decide) (by decide), j2 92 (by decide) (by decide), j2 93 (by decide) (by decide)]; exact fr1
      have cu4 : cur M4 (evS A s i v) := by
        unfold cur at *
        rw [j3 6 (by decide) (by decide), j3 7 (by decide) (by decide), j3 8 (by decide) (by decide), j3 9 (by decide) (by decide)]; exact cu1
      obtain ⟨M5, z4, ⟨k1, k2⟩, g5⟩ := ih (m + 1) (evS A s i v) (fu f m i) (jr s (evS A s i v) (bsum A f m + buA A i) (m + 1) (fu f m i) bk) M4 (.int (nI (dsN A i (pop v.1) v.2.1))) (by omega) (by rw [j2 85 (by decide) (by decide)]; exact A1) fr4 cu4 (by rw [j2 94 (by decide) (by decide)]; exact n1) (fun j hj => ⟨by rw [j2 94 (by decide) (by decide)]; exact (row1 j hj).1, (row1 j hj).2⟩) okv j1
      have c5 : chh (m + 1) M M5 := chh_tr (chh_of c1) (chh_tr c4 k1)
      rw [bsum_fu] at k2
      obtain ⟨M6, ⟨l1, l2, l3, l4, l5, l6⟩, g6⟩ := bck (N := N) (s := s) (i := i) (y4 := z4) (show m ≤ 3 by omega) (chh_frm (Nat.lt_succ_self m) c5 hf) ((c5 94 m (by omega) (by omega) (by omega)).trans h94)
      have c6 : chh m M5 M6 := fun a j q1 q2 q3 => by
        by_cases z : a = 84
        · subst z; exact l6 j (by omega)
        · by_cases z2 : a = 94
          · subst z2; exact l4 j (by omega)
          · rw [l5 a z z2]
      have c7 : chh m M M6 := chh_tr (chh_le (by omega) c5) c6
      have hb6 : bestR M6 (g i bk) := by
        rw [hg]
        exact bestR_eq (l6 19 (by omega)) (l6 20 (by omega)) (l5 96 (by decide) (by decide)) k2
      obtain ⟨M2, z5, ⟨f1, f2⟩, g2⟩ := iht (i + 1) (by omega) M6 z4 ((chh_85 c7).trans hA) l1 l2 l3 (chh_row c7 hr) (by rw [hstep]; exact hb6)
      refine ⟨M2, z5, ⟨chh_tr c7 f1, f2⟩, fun S d n Q => ?_⟩
      have k156 := fun (d : Nat) (Q : Option Value → Nat → ax_H → Prop) => c156 (d := d) (n := n) (S := S) (N := N) (Q := Q) (c := 1) hA hW lt.1 hs (by omega) o1 lt.2 o2
      rw [← erv, evB_1] at k156
      have k180 := fun (d : Nat) (Q : Option Value → Nat → ax_H → Prop) => c180 (d := d) (n := n) (S := S) (N := N) (Q := Q) A1 hW (show m + 1 ≤ 4 by omega) row1
      rw [bsum_fu] at k180
      rw [pre, e]
      simp only [↓s181_110, ↓s181_113, ↓s181_114, ↓s181_115, ↓s181_118, ↓s181_119, ↓s181_120, ↓s181_121, ↓s181_122, jc_84, gf_84_0, gf_84_1, gf_84_2, gf_84_3, gf_84_4, ok_84_4, gf_84_5, ok_84_5, gf_84_6, ok_84_6, gf_84_7, ok_84_7, gf_84_8, ok_84_8, gf_84_9, ok_84_9, gf_84_10, gf_84_11, gf_84_12, gf_84_13, gf_84_14, gf_84_15, gf_84_16, gf_84_17, ok_84_17, gf_84_18, gf_84_19, ok_84_19, gf_84_20, ok_84_20, gf_84_21, gf_84_22, gf_84_23, gf_84_24, ok_84_24, gf_84_25, ok_84_25, gf_84_26, ok_84_26, gf_84_27, ok_84_27, gf_84_28, ok_84_28, gf_84_29, gf_84_30, al_94 (show m < 6 by omega), h94, ↓k156, ct_s, ct_n, ↓bI_01, bI_eq0, bI_eq1, nI_10, nI_01, dec_f, dec_t, if_n, eq_self, true_or, or_true, if_true, if_false, reduceIte, Bool.true_eq_false]
      simp only [↓s181_125, ↓s181_127, ↓s181_130, ↓s181_131, ↓s181_132, jc_84, gf_84_0, gf_84_1, gf_84_2, gf_84_3, gf_84_4, ok_84_4, gf_84_5, ok_84_5, gf_84_6, ok_84_6, gf_84_7, ok_84_7, gf_84_8, ok_84_8, gf_84_9, ok_84_9, gf_84_10, gf_84_11, gf_84_12, gf_84_13, gf_84_14, gf_84_15, gf_84_16, gf_84_17, ok_84_17, gf_84_18, gf_84_19, ok_84_19, gf_84_20, ok_84_20, gf_84_21, gf_84_22, gf_84_23, gf_84_24, ok_84_24, gf_84_25, ok_84_25, gf_84_26, ok_84_26, gf_84_27, ok_84_27, gf_84_28, ok_84_28, gf_84_29, gf_84_30, nI_add, ↓c173 (show m + 1 < 6 by omega), ← hM1, ct_s, ct_n, ↓bI_01, bI_eq0, bI_eq1, nI_10, nI_01, dec_f, dec_t, if_n, eq_self, true_or, or_true, if_true, if_false, reduceIte]
      simp only [↓s181_135, ↓s181_136, ↓s181_137, ↓s181_138, ↓s181_139, ↓s181_140, ↓s181_143, ↓s181_146, jc_84, gf_84_0, gf_84_1, gf_84_2, gf_84_3, gf_84_4, ok_84_4, gf_84_5, ok_84_5, gf_84_6, ok_84_6, gf_84_7, ok_84_7, gf_84_8, ok_84_8, gf_84_9, ok_84_9, gf_84_10, gf_84_11, gf_84_12, gf_84_13, gf_84_14, gf_84_15, gf_84_16, gf_84_17, ok_84_17, gf_84_18, gf_84_19, ok_84_19, gf_84_20, ok_84_20, gf_84_21, gf_84_22, gf_84_23, gf_84_24, ok_84_24, gf_84_25, ok_84_25, gf_84_26, ok_84_26, gf_84_27, ok_84_27, gf_84_28, ok_84_28, gf_84_29, gf_84_30, ↓k180, ↓g4, ct_s, ct_n, ↓bI_01, bI_eq0, bI_eq1, nI_10, nI_01, dec_f, dec_t, if_n, eq_self, true_or, or_true, if_true, if_false, reduceIte]
      rw [g5, g6]
      exact g2 S d n Q
theorem SBP_all (hW : WF A) (hs : s ≤ 1) : ∀ r, SBP N A s r := by
  intro r
  induction r with
  | zero =>
    intro m v f b M y4 hm hA hf hcu h94 hr hok hb
    have e : m = 4 := by omega
    subst e
    refine ⟨M, y4, ⟨chh_rf, hb⟩, fun S d n Q => ?_⟩
    simp only [↓s181_42, ↓s181_43, ↓s181_46, ↓s181_47, ↓s181_48, ct_s, ct_n, ↓bI_01, bI_eq0, bI_eq1, nI_10, nI_01, dec_f, dec_t, if_n, eq_self, true_or, or_true, if_true, if_false, reduceIte]
  | succ r ih =>
    intro m v f b M y4 hm hA hf hcu h94 hr hok hb
    exact lsb hW hs ih (by omega) hok (fun j hj => (hr j hj).2) rfl (ndA A) 0 (by omega) M y4 hA hf hcu h94 hr hb
theorem sk_R (hW : WF A) : sk A s = if vdZ (leA A) = s then some (0, 0, f0) else wR A s 4 (nowA A) 0 0 f0 none := by
  unfold sk
  rw [wRC]
theorem c181 (hA : M 85 = A) (hW : WF A) (hs : s ≤ 1) : ∃ M2, (sc M M2 ∧ bestR M2 (sk A s)) ∧ ∀ (S : ax_S) (d n : Nat) (Q : Option Value → Nat → ax_H → Prop), ax_W (d + 6) 181 0 [.ref 84, .int (nI s), ax_dm, ax_dm, ax_dm] [] n (hx S M N) Q = Q none n (hx S M2 N) := by
  have okv := now_vok hW
  obtain ⟨M0, hM0⟩ : ∃ M0, M0 = ux (ux M 84 19 (-1)) 84 20 (nI 0) := ⟨_, rfl⟩
  have A0 : M0 85 = A := by rw [hM0, ux_f (by decide), ux_f (by decide)]; exact hA
  have q19 : M0 84 19 = -1 := by rw [hM0, ux_j (by decide), ux_s]
  have s0 : sc M M0 := by rw [hM0]; exact sc_ux (sc_ux sc_rf (by omega)) (by omega)
  obtain ⟨M1, hM1⟩ : ∃ M1, M1 = ltM (rvM M0 (nowA A)) 0 := ⟨_, rfl⟩
  have c1 : chg 0 M0 M1 := by rw [hM1]; exact chg_tr chg_rv chg_lt
  have cu1 : cur M1 (nowA A) := by rw [hM1]; exact lt_cur rv_cur
  have fr1 : frm M1 0 (nowA A) := by rw [hM1]; exact lt_frm rv_cur
  have n1 : M1 94 0 = nI 0 := by rw [hM1]; exact lt_94
  have A1 : M1 85 = A := (chh_85 (chh_of c1)).trans A0
  have b1 : bestR M1 none := chg_best (b := none) c1 q19
  have lb1 : -(300 + 24 * ((0 : Nat) : Int)) ≤ (nowA A).2.2 := okv.2.2.1
  have lb2 : (nowA A).2.2 ≤ 300 + 24 * ((0 : Nat) : Int) := okv.2.2.2
  obtain ⟨M4, ⟨j1, j2, j3⟩, g4⟩ := c179 (N := N) (s := s) (c := 0) (m := 0) (f := f0) cu1 (by omega) (by omega) hs b1 (by omega) (by omega) (fun j hj => absurd hj (Nat.not_lt_zero j))
  have hsc : ∀ {M2 : ax_M}, chh 0 M1 M2 → sc M M2 := fun {M2} h => by
    refine sc_tr s0 ⟨fun a ha => ?_, ?_⟩
    · funext j
      rw [h a j (by omega) (by omega) (by omega)]
      exact c1 a j (by omega) (by omega)
    · rw [h 84 24 (by omega) (by omega) (by omega)]
      exact c1 84 24 (by omega) (by omega)
  have c4 : chh 0 M1 M4 := fun a j q1 q2 q3 => by
    by_cases z : a = 84
    · subst z; exact j3 j (by omega) (by omega)
    · rw [j2 a z q3]
  have pre : ∀ (S : ax_S) (d n : Nat) (Q : Option Value → Nat → ax_H → Prop), ax_W (d + 6) 181 0 [.ref 84, .int (nI s), ax_dm, ax_dm, ax_dm] [] n (hx S M N) Q = ax_W (d + 6) 181 33 [.ref 84, .int (nI s), .int (nI 0), ax_dm, ax_dm] [.int (-1), .int (M4 84 19)] n (hx S M4 N) Q := by
    intro S d n Q
    simp only [↓s181_0, ↓s181_1, ↓s181_2, ↓s181_3, ↓s181_4, ↓s181_7, ↓s181_8, ↓s181_9, ↓s181_12, ↓s181_13, jc_84, gf_84_0, gf_84_1, gf_84_2, gf_84_3, gf_84_4, ok_84_4, gf_84_5, ok_84_5, gf_84_6, ok_84_6, gf_84_7, ok_84_7, gf_84_8, ok_84_8, gf_84_9, ok_84_9, gf_84_10, gf_84_11, gf_84_12, gf_84_13, gf_84_14, gf_84_15, gf_84_16, gf_84_17, ok_84_17, gf_84_18, gf_84_19, ok_84_19, gf_84_20, ok_84_20, gf_84_21, gf_84_22, gf_84_23, gf_84_24, ok_84_24, gf_84_25, ok_84_25, gf_84_26, ok_84_26, gf_84_27, ok_84_27, gf_84_28, ok_84_28, gf_84_29, gf_84_30, ← hM0, ↓c151 A0 hW, ct_s, ct_n, ↓bI_01, bI_eq0, bI_eq1, nI_10, nI_01, dec_f, dec_t, if_n, eq_self, true_or, or_true, if_true, if_false, reduceIte]
    simp only [↓s181_16, ↓s181_17, ↓s181_18, ↓s181_21, ↓s181_22, ↓s181_23, ↓s181_24, ↓s181_25, jc_84, gf_84_0, gf_84_1, gf_84_2, gf_84_3, gf_84_4, ok_84_4, gf_84_5, ok_84_5, gf_84_6, ok_84_6, gf_84_7, ok_84_7, gf_84_8, ok_84_8, gf_84_9, ok_84_9, gf_84_10, gf_84_11, gf_84_12, gf_84_13, gf_84_14, gf_84_15, gf_84_16, gf_84_17, ok_84_17, gf_84_18, gf_84_19, ok_84_19, gf_84_20, ok_84_20, gf_84_21, gf_84_22, gf_84_23, gf_84_24, ok_84_24, gf_84_25, ok_84_25, gf_84_26, ok_84_26, gf_84_27, ok_84_27, gf_84_28, ok_84_28, gf_84_29, gf_84_30, ↓c173 (show 0 < 6 by decide), ← hM1, ↓g4, ct_s, ct_n, ↓bI_01, bI_eq0, bI_eq1, nI_10, nI_01, dec_f, dec_t, if_n, eq_self, true_or, or_true, if_true, if_false, reduceIte]
    simp only [↓s181_28, ↓s181_29, ↓s181_32, jc_84, gf_84_0, gf_84_1, gf_84_2, gf_84_3, gf_84_4, ok_84_4, gf_84_5, ok_84_5, gf_84_6, ok_84_6, gf_84_7, ok_84_7, gf_84_8, ok_84_8, gf_84_9, ok_84_9, gf_84_10, gf_84_11, gf_84_12, gf_84_13, gf_84_14, gf_84_15, gf_84_16, gf_84_17, ok_84_17, gf_84_18, gf_84_19, ok_84_19, gf_84_20, ok_84_20, gf_84_21, gf_84_22, gf_84_23, gf_84_24, ok_84_24, gf_84_25, ok_84_25, gf_84_26, ok_84_26, gf_84_27, ok_84_27, gf_84_28, ok_84_28, gf_84_29, gf_84_30, ct_s, ct_n, ↓bI_01, bI_eq0, bI_eq1, nI_10, nI_01, dec_f, dec_t, if_n, eq_self, true_or, or_true, if_true, if_false, reduceIte]
  rw [sk_R hW]
  by_cases hv : vdZ (leA A) = s
  · have ej : jr s (nowA A) 0 0 f0 none = some (0, 0, f0) := if_pos ⟨hv, rfl⟩
    rw [ej] at j1
    rw [if_pos hv]
    refine ⟨M4, ⟨hsc c4, j1⟩, fun S d n Q => ?_⟩
    rw [pre, show M4 84 19 = nI 0 from j1.1]
    simp only [↓s181_33, show ¬ nI 0 = -1 by decide, ct_s, ct_n, ↓bI_01, bI_eq0, bI_eq1, nI_10, nI_01, dec_f, dec_t, if_n, eq_self, true_or, or_true, if_true, if_false, reduceIte]
    simp only [↓s181_40, ↓s181_41, ↓s181_42, ↓s181_43, ↓s181_162, ct_s, ct_n, ↓bI_01, bI_eq0, bI_eq1, nI_10, nI_01, dec_f, dec_t, if_n, eq_self, true_or, or_true, if_true, if_false, reduceIte]
  · have ej : jr s (nowA A) 0 0 f0 none = none := if_neg (fun q => hv q.1)
    rw [ej] at j1
    rw [if_neg hv]
    have fr4 : frm M4 0 (nowA A) := by
      unfold frm at *
      rw [j2 90 (by decide) (by decide), j2 91 (by decide) (by decide), j2 92 (by decide) (by decide), j2 93 (by decide) (by decide)]; exact fr1
    have cu4 : cur M4 (nowA A) := by
      unfold cur at *
      rw [j3 6 (by decide) (by decide), j3 7 (by decide) (by decide), j3 8 (by decide) (by decide), j3 9 (by decide) (by decide)]; exact cu1
    obtain ⟨M5, z4, ⟨k1, k2⟩, g5⟩ := SBP_all (N := N) hW hs 4 0 (nowA A) f0 none M4 ax_dm (by omega) (by rw [j2 85 (by decide) (by decide)]; exact A1) fr4 cu4 (by rw [j2 94 (by decide) (by decide)]; exact n1) (fun j hj => absurd hj (Nat.not_lt_zero j)) okv j1
    refine ⟨M5, ⟨hsc (chh_tr c4 k1), k2⟩, fun S d n Q => ?_⟩
    rw [pre, show M4 84 19 = -1 from j1]
    simp only [↓s181_33, ↓s181_36, ↓s181_37, ↓s181_40, ↓s181_41, ct_s, ct_n, ↓bI_01, bI_eq0, bI_eq1, nI_10, nI_01, dec_f, dec_t, if_n, eq_self, true_or, or_true, if_true, if_false, reduceIte]
    rw [g5]
    simp only [↓s181_64, ↓s181_67, ↓s181_68, show nI 0 + (-1) < nI 0 by decide, ct_s, ct_n, ↓bI_01, bI_eq0, bI_eq1, nI_10, nI_01, dec_f, dec_t, if_n, eq_self, true_or, or_true, if_true, if_false, reduceIte]
    simp only [↓s181_75, ↓s181_76, ↓s181_77, ↓s181_78, ↓s181_42, ↓s181_43, ↓s181_162, ct_s, ct_n, ↓bI_01, bI_eq0, bI_eq1, nI_10, nI_01, dec_f, dec_t, if_n, eq_self, true_or, or_true, if_true, if_false, reduceIte]
end Pardon5
