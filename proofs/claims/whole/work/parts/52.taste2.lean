/-! ===== the menu gone through: the reference's call, the class ===== -/
section Go
variable {d n : Nat} {Q : Option Value → Nat → ax_H → Prop} {S : ax_S} {M : ax_M} {N : ax_L} {A : ax_A0} {f : Nat → Nat} {w : ax_V} {s mk p m : Nat}
/-- behind goMenu -/
def gmM (M : ax_M) (A : ax_A0) (f : Nat → Nat) (w : ax_V) (s mk m : Nat) : ax_M := rvM (cpy M 89 0 m (fun i => nI (gN A f w s i))) (gV A f w s mk m)
theorem c169 (hA : M 85 = A) (hW : WF A) (hp : ∀ i, i < m → p + i < 181 ∧ A (p + i) = nI (f i)) (hf : ∀ i, i < m → f i < ndA A) (hm : m ≤ 8) (hs : s ≤ 1) (hk : mk < 256) (hw : w.1 < 256) (hl : ∀ j, w.2.1 = some j → j < ndA A) : ax_W (d + 5) 169 0 [.ref 84, .int (nI p), .int (nI m), .int (nI s), .int (nI mk), ax_dm, ax_dm, ax_dm] [] n (hx S (rvM M w) N) Q = Q none n (hx S (gmM M A f w s mk m) N) := by
  simp only [↓s169_0, ↓s169_1, ↓s169_3, ↓s169_4]
  have h := l169 (d := d) (n := n) (Q := Q) (S := S) (N := N) (y := .int 0) (y3 := .int (nI s)) (y7 := .int 0) hA hW hp hf hm hs hk hw hl m 0 (by omega) ax_dm
  rw [cpy_0, gV_0] at h
  exact h
theorem gm_o {a : Nat} (h1 : a ≠ 84) (h2 : a ≠ 89) : gmM M A f w s mk m a = M a := by unfold gmM; rw [rvM_o h1, cpy_a h2]
theorem gm_6 : gmM M A f w s mk m 84 6 = iI (w.2.2 + gL A f w s mk m) := by unfold gmM; rw [rvM_6]; rfl
theorem gm_89 {i : Nat} (hi : i < m) : gmM M A f w s mk m 89 i = nI (gN A f w s i) := by
  unfold gmM
  rw [rvM_o (by decide)]
  have := cpy_i (M := M) (a := 89) (lo := 0) (f := fun i => nI (gN A f w s i)) hi
  rw [Nat.zero_add] at this
  exact this
theorem gm_j {j : Nat} (h6 : j ≠ 6) (h7 : j ≠ 7) (h8 : j ≠ 8) (h9 : j ≠ 9) : gmM M A f w s mk m 84 j = M 84 j := by unfold gmM; rw [rvM_j h6 h7 h8 h9, cpy_a (by decide)]
theorem sc_gm {M2 : ax_M} (h : sc M M2) : sc M (gmM M2 A f w s mk m) := by
  refine ⟨fun a ha => ?_, ?_⟩
  · rw [gm_o (by omega) (by omega)]; exact h.1 a ha
  · rw [gm_j (by decide) (by decide) (by decide) (by decide)]; exact h.2
theorem c170 (hA : M 85 = A) (hW : WF A) (hs : s ≤ 1) (hk : mk < 256) : ax_W (d + 6) 170 0 [.ref 84, .int (nI s), .int (nI mk)] [] n (hx S M N) Q = Q none n (hx S (gmM M A (mdA A) (nowA A) s mk (nmA A)) N) := by
  have m8 := hW.2.2.2.1.2
  obtain ⟨v1, v2, v3⟩ := nowA_ok hW
  have a4 : rvM M (nowA A) 85 4 = nI (nmA A) := by rw [rvM_85, hA]; exact hW.2.2.2.1.1
  simp only [↓s170_0, ↓s170_1, ↓s170_4, ↓s170_5, ↓s170_7, ↓s170_8, ↓s170_11, ↓s170_12, ↓s170_13, ↓s170_14, ↓s170_15, ↓s170_18, jc_84, gf_84_0, gf_84_1, gf_84_2, gf_84_3, gf_84_4, ok_84_4, gf_84_5, ok_84_5, gf_84_6, ok_84_6, gf_84_7, ok_84_7, gf_84_8, ok_84_8, gf_84_9, ok_84_9, gf_84_10, gf_84_11, gf_84_12, gf_84_13, gf_84_14, gf_84_15, gf_84_16, gf_84_17, ok_84_17, gf_84_18, gf_84_19, ok_84_19, gf_84_20, ok_84_20, gf_84_21, gf_84_22, gf_84_23, gf_84_24, ok_84_24, gf_84_25, ok_84_25, gf_84_26, ok_84_26, gf_84_27, ok_84_27, gf_84_28, ok_84_28, gf_84_29, gf_84_30, ↓c151 hA hW, al_85 (show 4 < 181 by decide), a4, ↓c169 (p := 107) (f := mdA A) hA hW (fun i hi => ⟨by omega, (hW.m.2.1 i hi).1⟩) (fun i hi => (hW.m.2.1 i hi).2) m8 hs hk v1 v3, ct_s, ct_n, ↓bI_01, bI_eq0, bI_eq1, nI_10, nI_01, dec_f, dec_t, if_n, eq_self, true_or, or_true, if_true, if_false, reduceIte]
/-! the class -/
theorem h74 : (74, 8, 2) ∈ rwt := by decide
/-- the row of a tasting: m dishes, k of them tasted -/
def tsM (M : ax_M) (m : Nat) (f : Nat → Nat) (g : Nat → Int32) (k : Nat) : ax_M := fun b j => if b = 74 ∧ j = 3 then nI m else if b = 75 ∧ j < 2 * m then (if j % 2 = 0 then nI (f (j / 2)) else if j / 2 < k then g (j / 2) else nI 0) else M b j
variable {g : Nat → Int32} {k : Nat}
theorem ts_o {a : Nat} (h1 : a ≠ 74) (h2 : a ≠ 75) : tsM M m f g k a = M a := by
  funext j
  unfold tsM
  rw [if_neg (fun q => h1 q.1), if_neg (fun q => h2 q.1)]
theorem ts_3 : tsM M m f g k 74 3 = nI m := by unfold tsM; rw [if_pos ⟨rfl, rfl⟩]
theorem ts_0 {i : Nat} (hi : i < m) : tsM M m f g k 75 (i * 2 + 0) = nI (f i) := by
  unfold tsM
  rw [if_neg (by omega), if_pos ⟨rfl, by omega⟩, if_pos (by omega), show (i * 2 + 0) / 2 = i by omega]
theorem ts_1 {i : Nat} (hi : i < m) (hk : i < k) : tsM M m f g k 75 (i * 2 + 1) = g i := by
  unfold tsM
  rw [if_neg (by omega), if_pos ⟨rfl, by omega⟩, if_neg (by omega), show (i * 2 + 1) / 2 = i by omega, if_pos hk]
theorem ts_z (h : M 74 3 = nI 0) : tsM M 0 f g 0 = M := by
  funext b j
  unfold tsM
  by_cases e : b = 74 ∧ j = 3
  · rw [if_pos e, e.1, e.2, h]
  · rw [if_neg e, if_neg (by omega)]
/-- a row more -/
theorem ts_g : ux (zr (ux (tsM M m f g 0) 74 3 (nI (m + 1))) 75 (m * 2) 2) 75 (m * 2 + 0) (nI (f m)) = tsM M (m + 1) f g 0 := by
  funext b j
  show (if b = 75 ∧ j = m * 2 + 0 then nI (f m) else if b = 75 ∧ m * 2 ≤ j ∧ j < m * 2 + 2 then nI 0 else if b = 74 ∧ j = 3 then nI (m + 1) else tsM M m f g 0 b j) = _
  unfold tsM
  by_cases hb : b = 75
  · subst hb
    by_cases h1 : j = m * 2
    · rw [if_pos ⟨rfl, by omega⟩, if_neg (by omega), if_pos ⟨rfl, by omega⟩, if_pos (by omega), show j / 2 = m by omega]
    · rw [if_neg (by omega)]
      by_cases h2 : j = m * 2 + 1
      · rw [if_pos ⟨rfl, by omega, by omega⟩, if_neg (by omega), if_pos ⟨rfl, by omega⟩, if_neg (by omega), if_neg (by omega)]
      · have z : ¬ ((75 : Nat) = 74 ∧ j = 3) := by omega
        rw [if_neg (by omega)]
        simp only [if_neg z, true_and]
        by_cases h3 : j < 2 * m
        · rw [if_pos h3, if_pos (show j < 2 * (m + 1) by omega)]
        · rw [if_neg h3, if_neg (show ¬ j < 2 * (m + 1) by omega)]
  · rw [if_neg (fun q => hb q.1), if_neg (fun q => hb q.1)]
    by_cases h1 : b = 74 ∧ j = 3
    · rw [if_pos h1, if_pos h1]
    · rw [if_neg h1, if_neg h1, if_neg h1, if_neg (fun q => hb q.1), if_neg (fun q => hb q.1)]
/-- a taste more -/
theorem ts_s (hk : k < m) : ux (tsM M m f g k) 75 (k * 2 + 1) (g k) = tsM M m f g (k + 1) := by
  funext b j
  show (if b = 75 ∧ j = k * 2 + 1 then g k else tsM M m f g k b j) = _
  unfold tsM
  by_cases hb : b = 75
  · subst hb
    by_cases h1 : j = k * 2 + 1
    · rw [if_pos ⟨rfl, h1⟩, if_neg (by omega), if_pos ⟨rfl, by omega⟩, if_neg (by omega), if_pos (by omega), show j / 2 = k by omega]
    · have z : ¬ ((75 : Nat) = 74 ∧ j = 3) := by omega
      rw [if_neg (fun q => h1 q.2)]
      simp only [if_neg z, true_and]
      by_cases h3 : j < 2 * m
      · rw [if_pos h3, if_pos h3]
        by_cases h4 : j % 2 = 0
        · rw [if_pos h4, if_pos h4]
        · rw [if_neg h4, if_neg h4]
          by_cases h5 : j / 2 < k
          · rw [if_pos h5, if_pos (by omega)]
          · rw [if_neg h5, if_neg (by omega)]
      · rw [if_neg h3, if_neg h3]
  · rw [if_neg (fun q => hb q.1)]
    by_cases h1 : b = 74 ∧ j = 3
    · rw [if_pos h1, if_pos h1]
    · rw [if_neg h1, if_neg h1, if_neg (fun q => hb q.1), if_neg (fun q => hb q.1)]
/-- none tasted -/
theorem ts_n (h : g k = nI 0) : tsM M m f g (k + 1) = tsM M m f g k := by
  funext b j
  unfold tsM
  by_cases h1 : b = 74 ∧ j = 3
  · rw [if_pos h1, if_pos h1]
  · rw [if_neg h1, if_neg h1]
    by_cases h2 : b = 75 ∧ j < 2 * m
    · rw [if_pos h2, if_pos h2]
      by_cases h4 : j % 2 = 0
      · rw [if_pos h4, if_pos h4]
      · rw [if_neg h4, if_neg h4]
        by_cases h5 : j / 2 < k
        · rw [if_pos h5, if_pos (by omega)]
        · rw [if_neg h5]
          by_cases h6 : j / 2 < k + 1
          · rw [if_pos h6, show j / 2 = k by omega, h]
          · rw [if_neg h6]
    · rw [if_neg h2, if_neg h2]
theorem sc_ts {M2 : ax_M} (h : sc M M2) : sc M (tsM M2 m f g k) := by
  refine ⟨fun a ha => ?_, ?_⟩
  · rw [ts_o (by omega) (by omega)]; exact h.1 a ha
  · rw [ts_o (by decide) (by decide)]; exact h.2
theorem RC_ts (hC : RC M 21 A) : RC (tsM M m f g k) 21 A := RC_keep (fun b _ _ => ts_o (by omega) (by omega)) hC
theorem l78 (hC : RC M 21 A) (hW : WF A) : ∀ (c i : Nat), i + c = nmA A → ax_W (d + 2) 78 10 [.ref 73, .int (nI i)] [] n (hx S (tsM M i (mdA A) g 0) N) Q = Q none n (hx S (tsM M (nmA A) (mdA A) g 0) N) := by
  have m8 := hW.2.2.2.1.2
  intro c
  induction c with
  | zero =>
    intro i hi
    have hC2 := RC_ts (m := i) (f := mdA A) (g := g) (k := 0) hC
    have e : i = nmA A := by omega
    simp only [↓s78_10, ↓s78_11, ↓s78_12, ↓s78_15, ↓s78_18, ↓s78_21, jc_73, gf_73_0, gf_73_1, gf_73_2, gf_73_3, ok_73_3, jc_21, gf_21_0, gf_21_1, gf_21_2, gf_21_3, gf_21_4, gf_21_5, ok_21_5, gf_21_6, ok_21_6, jc_28, gf_28_0, gf_28_1, gf_28_2, gf_28_3, ok_28_3, ↓c53 h28, (rc_nm hC2 hW).1, ct_s, ct_n, ↓bI_01, bI_eq0, bI_eq1, nI_10, nI_01, dec_f, dec_t, if_n, eq_self, true_or, or_true, if_true, if_false, reduceIte]
    rw [e, if_pos (nI_le (a := nmA A) (b := nmA A) (by omega) (by omega))]
    simp only [↓s78_57, ct_s, ct_n, ↓bI_01, bI_eq0, bI_eq1, nI_10, nI_01, dec_f, dec_t, if_n, eq_self, true_or, or_true, if_true, if_false, reduceIte]
  | succ c ih =>
    intro i hi
    have hC2 := RC_ts (m := i) (f := mdA A) (g := g) (k := 0) hC
    have ih := ih (i + 1) (by omega)
    have q3 : zr (ux (tsM M i (mdA A) g 0) 74 3 (nI (i + 1))) (74 + 1) (i * 2) 2 74 3 = nI (i + 1) := by rw [zr_a (by decide), ux_s]
    have hC3 : RC (zr (ux (tsM M i (mdA A) g 0) 74 3 (nI (i + 1))) (74 + 1) (i * 2) 2) 21 A := RC_keep (fun b _ _ => by rw [zr_a (by omega), ux_f (by omega)]) hC2
    simp only [↓s78_10, ↓s78_11, ↓s78_12, ↓s78_15, ↓s78_18, ↓s78_21, jc_73, gf_73_0, gf_73_1, gf_73_2, gf_73_3, ok_73_3, jc_21, gf_21_0, gf_21_1, gf_21_2, gf_21_3, gf_21_4, gf_21_5, ok_21_5, gf_21_6, ok_21_6, jc_28, gf_28_0, gf_28_1, gf_28_2, gf_28_3, ok_28_3, ↓c53 h28, (rc_nm hC2 hW).1, ct_s, ct_n, ↓bI_01, bI_eq0, bI_eq1, nI_10, nI_01, dec_f, dec_t, if_n, eq_self, true_or, or_true, if_true, if_false, reduceIte]
    rw [if_neg (nI_ge (a := i) (b := nmA A) (by omega) (by omega))]
    simp only [↓s78_24, ↓s78_25, ↓s78_28, ↓s78_29, ↓s78_32, ↓s78_35, ↓s78_36, ↓s78_37, ↓s78_40, ↓s78_43, ↓s78_44, ↓s78_45, ↓s78_48, ↓s78_51, ↓s78_54, jc_73, gf_73_0, gf_73_1, gf_73_2, gf_73_3, ok_73_3, jc_74, gf_74_0, gf_74_1, gf_74_2, gf_74_3, ok_74_3, jc_21, gf_21_0, gf_21_1, gf_21_2, gf_21_3, gf_21_4, gf_21_5, ok_21_5, gf_21_6, ok_21_6, jc_28, gf_28_0, gf_28_1, gf_28_2, gf_28_3, ok_28_3, ↓c56 h74 (ts_3 (M := M) (m := i) (f := mdA A) (g := g) (k := 0)) (show i < 8 by omega), ↓c54 h28 (cap28 hC3 hW), rd_menu hC3 hW (show i < nmA A by omega), ↓c55 h74 (cap_of q3 (show i + 1 ≤ 8 by omega) (by omega)), rput_in q3 (show i + 1 < 2 ^ 31 by omega) (Nat.lt_succ_self i) (by decide) (show 0 < 2 by decide), nI_add, ct_s, ct_n, ↓bI_01, bI_eq0, bI_eq1, nI_10, nI_01, dec_f, dec_t, if_n, eq_self, true_or, or_true, if_true, if_false, reduceIte]
    rw [← ts_g] at ih
    exact ih
theorem c78 (hC : RC M 21 A) (hW : WF A) : ax_W (d + 2) 78 0 [.ref 73, ax_dm] [] n (hx S M N) Q = Q none n (hx S (tsM (ux M 74 3 (nI 0)) (nmA A) (mdA A) g 0) N) := by
  simp only [↓s78_0, ↓s78_1, ↓s78_4, ↓s78_5, ↓s78_8, ↓s78_9, jc_73, gf_73_0, gf_73_1, gf_73_2, gf_73_3, ok_73_3, jc_74, gf_74_0, gf_74_1, gf_74_2, gf_74_3, ok_74_3, ↓c57z h74, ct_s, ct_n, ↓bI_01, bI_eq0, bI_eq1, nI_10, nI_01, dec_f, dec_t, if_n, eq_self, true_or, or_true, if_true, if_false, reduceIte]
  have h := l78 (d := d) (n := n) (Q := Q) (S := S) (N := N) (g := g) (RC_ux (M := M) (a := 74) (j := 3) (v := nI 0) (by decide) hC) hW (nmA A) 0 (by omega)
  rw [ts_z (by rw [ux_s])] at h
  exact h
/-- the class behind a tasting -/
def tgM (M : ax_M) (A : ax_A0) (f : Nat → Nat) (w : ax_V) (s m i : Nat) : ax_M := evM (ux (tsM M m f (fun i => iI (gP A f w s i)) i) 73 3 (iI (gL A f w s 0 i))) 76 (gV A f w s 0 i)
theorem tg_o {i a : Nat} (h1 : a ≠ 73) (h2 : a ≠ 74) (h3 : a ≠ 75) (h4 : a ≠ 76) : tgM M A f w s m i a = M a := by unfold tgM; rw [evM_o h4, ux_f h1, ts_o h2 h3]
theorem tg_73 {i : Nat} : tgM M A f w s m i 73 3 = iI (gL A f w s 0 i) := by unfold tgM; rw [evM_o (by decide), ux_s]
theorem tg_74 {i : Nat} : tgM M A f w s m i 74 3 = nI m := by unfold tgM; rw [evM_o (by decide), ux_a (by decide), ts_3]
theorem tg_750 {i j : Nat} (h : j < m) : tgM M A f w s m i 75 (j * 2 + 0) = nI (f j) := by unfold tgM; rw [evM_o (by decide), ux_a (by decide), ts_0 h]
theorem tg_751 {i j : Nat} (h : j < m) (h2 : j < i) : tgM M A f w s m i 75 (j * 2 + 1) = iI (gP A f w s j) := by unfold tgM; rw [evM_o (by decide), ux_a (by decide), ts_1 h h2]
theorem tg_76 {i : Nat} : tgM M A f w s m i 76 1 = nI (gq A f w s i).1 := by unfold tgM; rw [evM_1]; rfl
theorem RC_tg {i : Nat} (hC : RC M 21 A) : RC (tgM M A f w s m i) 21 A := RC_keep (fun b _ _ => tg_o (by omega) (by omega) (by omega) (by omega)) hC
theorem sc_tg {M2 : ax_M} {i : Nat} (h : sc M M2) : sc M (tgM M2 A f w s m i) := by
  refine ⟨fun a ha => ?_, ?_⟩
  · rw [tg_o (by omega) (by omega) (by omega) (by omega)]; exact h.1 a ha
  · rw [tg_o (by decide) (by decide) (by decide) (by decide)]; exact h.2
theorem tg_cell {i j : Nat} (h : j < m) (hm : m ≤ 8) : rcell (tgM M A f w s m i) 74 2 (nI j) (nI 0) = nI (f j) := by
  rw [rcell_in tg_74 (by omega) h (by decide) (by decide)]
  exact tg_750 h
theorem tg_cell1 {i j : Nat} (h : j < m) (h2 : j < i) (hm : m ≤ 8) : rcell (tgM M A f w s m i) 74 2 (nI j) (nI 1) = iI (gP A f w s j) := by
  rw [rcell_in tg_74 (by omega) h (by decide) (by decide)]
  exact tg_751 h h2
theorem tsI_sg {s x : Nat} (hs : s ≤ 1) : tsI (nI s) (nI x) = iI (sg s x) := by
  rw [iI_nat x, tsI_i s hs]
  rfl
set_option maxHeartbeats 1000000 in
theorem l79 (hC : RC M 21 A) (hW : WF A) (hf : ∀ i, i < m → f i < ndA A) (hm : m ≤ 8) (hs : s ≤ 1) (hw : w.1 < 256) (hl : ∀ j, w.2.1 = some j → j < ndA A) {y1 : Int32} : ∀ (c i : Nat), i + c = m → ∀ y4 y5, ax_W (d + 4) 79 9 [.ref 73, .int y1, .int (nI (gq A f w s i).2.2), .int (nI i), y4, y5] [] n (hx S (tgM M A f w s m i) N) Q = Q none n (hx S (tgM M A f w s m m) N) := by
  have n8 := hW.1.2
  intro c
  induction c with
  | zero =>
    intro i hi y4 y5
    have e : i = m := by omega
    subst e
    simp only [↓s79_9, ↓s79_10, ↓s79_11, ↓s79_14, ↓s79_17, jc_73, gf_73_0, gf_73_1, gf_73_2, gf_73_3, ok_73_3, jc_74, gf_74_0, gf_74_1, gf_74_2, gf_74_3, ok_74_3, ↓c53 h74, tg_74, ct_s, ct_n, ↓bI_01, bI_eq0, bI_eq1, nI_10, nI_01, dec_f, dec_t, if_n, eq_self, true_or, or_true, if_true, if_false, reduceIte]
    rw [if_pos (nI_le (a := i) (b := i) (by omega) (by omega))]
    simp only [↓s79_98, ct_s, ct_n, ↓bI_01, bI_eq0, bI_eq1, nI_10, nI_01, dec_f, dec_t, if_n, eq_self, true_or, or_true, if_true, if_false, reduceIte]
  | succ c ih =>
    intro i hi y4 y5
    have hfi := hf i (by omega)
    have ok := gq_ok (s := s) n8 hf hw hl i (by omega)
    have hsi := gq_s (A := A) (f := f) (w := w) hs i
    have hC2 := RC_tg (f := f) (w := w) (s := s) (m := m) (i := i) hC
    have ih := ih (i + 1) (by omega)
    simp only [↓s79_9, ↓s79_10, ↓s79_11, ↓s79_14, ↓s79_17, jc_73, gf_73_0, gf_73_1, gf_73_2, gf_73_3, ok_73_3, jc_74, gf_74_0, gf_74_1, gf_74_2, gf_74_3, ok_74_3, ↓c53 h74, tg_74, ct_s, ct_n, ↓bI_01, bI_eq0, bI_eq1, nI_10, nI_01, dec_f, dec_t, if_n, eq_self, true_or, or_true, if_true, if_false, reduceIte]
    rw [if_neg (nI_ge (a := i) (b := m) (by omega) (by omega))]
    simp only [↓s79_20, ↓s79_21, ↓s79_24, ↓s79_25, ↓s79_26, ↓s79_29, ↓s79_31, ↓s79_32, ↓s79_35, ↓s79_37, ↓s79_38, ↓s79_41, ↓s79_44, jc_73, gf_73_0, gf_73_1, gf_73_2, gf_73_3, ok_73_3, jc_74, gf_74_0, gf_74_1, gf_74_2, gf_74_3, ok_74_3, jc_21, gf_21_0, gf_21_1, gf_21_2, gf_21_3, gf_21_4, gf_21_5, ok_21_5, gf_21_6, ok_21_6, jc_76, gf_76_0, gf_76_1, ok_76_1, gf_76_2, ok_76_2, gf_76_3, ok_76_3, ↓c54 h74 (cap_of (tg_74 (M := M) (A := A) (f := f) (w := w) (s := s) (m := m) (i := i)) hm (by omega)), tg_cell (show i < m by omega) hm, tg_76, ↓c8 hC2 hW (show f i < 1000 by omega) ok.1, decide_eq_true hfi, Bool.true_and, ct_s, ct_n, ↓bI_01, bI_eq0, bI_eq1, nI_10, nI_01, dec_f, dec_t, if_n, eq_self, true_or, or_true, if_true, if_false, reduceIte]
    cases h : hasB (gq A f w s i).1 (f i) with
    | true =>
      have e : tgM M A f w s m (i + 1) = tgM M A f w s m i := by
        unfold tgM
        rw [gV_t h, ts_n (by show iI (gP A f w s i) = nI 0; rw [gP_t h]; decide)]
        show evM (ux _ 73 3 (iI (gL A f w s 0 i + (ck 0 i : Int) * gP A f w s i))) 76 _ = _
        rw [gP_t h, Int.mul_zero, Int.add_zero]
      rw [e, gq_t h] at ih
      simp only [↓s79_47, ↓s79_92, ↓s79_95, nI_add, Bool.not_true, ct_s, ct_n, ↓bI_01, bI_eq0, bI_eq1, nI_10, nI_01, dec_f, dec_t, if_n, eq_self, true_or, or_true, if_true, if_false, reduceIte]
      exact ih _ _
    | false =>
      have e1 := gV_f (mk := 0) h
      have e3 := gq_f h
      have hC3 : RC (ux (tsM M m f (fun i => iI (gP A f w s i)) i) 73 3 (iI (gL A f w s 0 i))) 21 A := RC_ux (by decide) (RC_ts hC)
      have hgp : gP A f w s i = sg (gq A f w s i).2.2 (dsN A (f i) (pop (gq A f w s i).1) (gq A f w s i).2.1) := by unfold gP; rw [gN_f h]
      have e4 : evS A (gq A f w s i).2.2 (f i) (gV A f w s 0 i) = gV A f w s 0 (i + 1) := by rw [e1, ck_0, evB_1]
      have e : evM (ux (tsM M m f (fun i => iI (gP A f w s i)) (i + 1)) 73 3 (iI (gL A f w s 0 i + gP A f w s i))) 76 (gV A f w s 0 (i + 1)) = tgM M A f w s m (i + 1) := by
        unfold tgM
        show _ = evM (ux _ 73 3 (iI (gL A f w s 0 i + (ck 0 i : Int) * gP A f w s i))) 76 _
        rw [ck_0, show ((1 : Nat) : Int) = 1 from rfl, Int.one_mul]
      rw [e3] at ih
      have q3 : evM (ux (tsM M m f (fun i => iI (gP A f w s i)) i) 73 3 (iI (gL A f w s 0 i))) 76 (gV A f w s 0 (i + 1)) 74 3 = nI m := by rw [evM_o (by decide), ux_a (by decide), ts_3]
      have q73 : ∀ z, ux (evM (ux (tsM M m f (fun i => iI (gP A f w s i)) i) 73 3 (iI (gL A f w s 0 i))) 76 (gV A f w s 0 (i + 1))) (74 + 1) (i * 2 + 1) z 73 3 = iI (gL A f w s 0 i) := fun z => by rw [ux_a (by decide), evM_o (by decide), ux_s]
      have q5 : ux (ux (evM (ux (tsM M m f (fun i => iI (gP A f w s i)) i) 73 3 (iI (gL A f w s 0 i))) 76 (gV A f w s 0 (i + 1))) (74 + 1) (i * 2 + 1) (iI (gP A f w s i))) 73 3 (iI (gL A f w s 0 i + gP A f w s i)) = tgM M A f w s m (i + 1) := by
        rw [← e, ux_ev (by decide), ux_ev (by decide), ux_co (show 73 ≠ 74 + 1 by decide), ux_ux]
        exact congrArg (fun m => evM (ux m 73 3 (iI (gL A f w s 0 i + gP A f w s i))) 76 (gV A f w s 0 (i + 1))) (ts_s (show i < m by omega))
      have k17 := fun Q => c17 (d := d) (n := n) (Q := Q) (S := S) (N := N) (e := 76) (v := gV A f w s 0 i) (k := f i) (s := (gq A f w s i).2.2) (Or.inr rfl) hC3 hW hfi hsi ok.1 ok.2
      rw [e4] at k17
      simp only [↓s79_47, ↓s79_50, ↓s79_51, ↓s79_52, ↓s79_55, ↓s79_56, jc_73, gf_73_0, gf_73_1, gf_73_2, gf_73_3, ok_73_3, jc_74, gf_74_0, gf_74_1, gf_74_2, gf_74_3, ok_74_3, jc_21, gf_21_0, gf_21_1, gf_21_2, gf_21_3, gf_21_4, gf_21_5, ok_21_5, gf_21_6, ok_21_6, jc_76, gf_76_0, gf_76_1, ok_76_1, gf_76_2, ok_76_2, gf_76_3, ok_76_3, Bool.not_false, ct_s, ct_n, ↓bI_01, bI_eq0, bI_eq1, nI_10, nI_01, dec_f, dec_t, if_n, eq_self, true_or, or_true, if_true, if_false, reduceIte, Bool.true_eq_false]
      unfold tgM
      simp only [↓s79_58, ↓s79_61, ↓s79_64, ↓s79_66, ↓s79_67, ↓s79_70, ↓s79_71, ↓s79_72, ↓s79_74, jc_73, gf_73_0, gf_73_1, gf_73_2, gf_73_3, ok_73_3, jc_74, gf_74_0, gf_74_1, gf_74_2, gf_74_3, ok_74_3, jc_21, gf_21_0, gf_21_1, gf_21_2, gf_21_3, gf_21_4, gf_21_5, ok_21_5, gf_21_6, ok_21_6, jc_76, gf_76_0, gf_76_1, ok_76_1, gf_76_2, ok_76_2, gf_76_3, ok_76_3, ↓k17, ↓c128, tsI_sg hsi, ↓c55 h74 (cap_of q3 hm (by omega)), rput_in q3 (show m < 2 ^ 31 by omega) (show i < m by omega) (by decide) (show 1 < 2 by decide), ct_s, ct_n, ↓bI_01, bI_eq0, bI_eq1, nI_10, nI_01, dec_f, dec_t, if_n, eq_self, true_or, or_true, if_true, if_false, reduceIte]
      rw [show (gV A f w s 0 i).1 = (gq A f w s i).1 from rfl, show (gV A f w s 0 i).2.1 = (gq A f w s i).2.1 from rfl, ← hgp]
      simp only [↓s79_77, ↓s79_78, ↓s79_79, ↓s79_82, ↓s79_84, ↓s79_85, ↓s79_88, ↓s79_89, ↓s79_90, ↓s79_91, ↓s79_92, ↓s79_95, jc_73, gf_73_0, gf_73_1, gf_73_2, gf_73_3, ok_73_3, jc_74, gf_74_0, gf_74_1, gf_74_2, gf_74_3, ok_74_3, jc_21, gf_21_0, gf_21_1, gf_21_2, gf_21_3, gf_21_4, gf_21_5, ok_21_5, gf_21_6, ok_21_6, jc_76, gf_76_0, gf_76_1, ok_76_1, gf_76_2, ok_76_2, gf_76_3, ok_76_3, q73, iI_add, q5, nI_add, pk_sub hsi, ct_s, ct_n, ↓bI_01, bI_eq0, bI_eq1, nI_10, nI_01, dec_f, dec_t, if_n, eq_self, true_or, or_true, if_true, if_false, reduceIte]
      exact ih _ _
theorem c79 (hC : RC M 21 A) (hW : WF A) (hf : ∀ i, i < m → f i < ndA A) (hm : m ≤ 8) (hs : s ≤ 1) (hw : w.1 < 256) (hl : ∀ j, w.2.1 = some j → j < ndA A) : ax_W (d + 4) 79 0 [.ref 73, .int (nI s), ax_dm, ax_dm, ax_dm, ax_dm] [] n (hx S (evM (tsM M m f (fun i => iI (gP A f w s i)) 0) 76 w) N) Q = Q none n (hx S (tgM M A f w s m m) N) := by
  simp only [↓s79_0, ↓s79_1, ↓s79_2, ↓s79_3, ↓s79_4, ↓s79_7, ↓s79_8, jc_73, gf_73_0, gf_73_1, gf_73_2, gf_73_3, ok_73_3, ux_ev (show 73 ≠ 76 by decide), ct_s, ct_n, ↓bI_01, bI_eq0, bI_eq1, nI_10, nI_01, dec_f, dec_t, if_n, eq_self, true_or, or_true, if_true, if_false, reduceIte]
  have h := l79 (d := d) (n := n) (Q := Q) (S := S) (N := N) (y1 := nI s) hC hW hf hm hs hw hl m 0 (by omega) ax_dm ax_dm
  have e : tgM M A f w s m 0 = evM (ux (tsM M m f (fun i => iI (gP A f w s i)) 0) 73 3 (nI 0)) 76 w := by
    unfold tgM
    rw [gV_0]
    rfl
  rw [e] at h
  exact h
theorem c73 (hC : RC M 21 A) (hW : WF A) (hs : s ≤ 1) : ax_W (d + 5) 73 0 [.ref 73, .int (nI s)] [] n (hx S M N) Q = Q none n (hx S (tgM (ux M 74 3 (nI 0)) A (mdA A) (nowA A) s (nmA A) (nmA A)) N) := by
  have m8 := hW.2.2.2.1.2
  obtain ⟨v1, v2, v3⟩ := nowA_ok hW
  have hC1 : RC (ux M 74 3 (nI 0)) 21 A := RC_ux (by decide) hC
  simp only [↓s73_0, ↓s73_1, ↓s73_4, ↓s73_5, ↓s73_8, ↓s73_11, ↓s73_12, ↓s73_13, ↓s73_16, jc_73, gf_73_0, gf_73_1, gf_73_2, gf_73_3, ok_73_3, jc_76, gf_76_0, gf_76_1, ok_76_1, gf_76_2, ok_76_2, gf_76_3, ok_76_3, ↓c78 (g := fun i => iI (gP A (mdA A) (nowA A) s i)) hC hW, ↓c15 (e := 76) (Or.inr rfl) (RC_ts hC1) hW, ↓c79 hC1 hW (fun i hi => (hW.m.2.1 i hi).2) m8 hs v1 v3, ct_s, ct_n, ↓bI_01, bI_eq0, bI_eq1, nI_10, nI_01, dec_f, dec_t, if_n, eq_self, true_or, or_true, if_true, if_false, reduceIte]
theorem c74 (hC : RC M 21 A) (hW : WF A) (hs : s ≤ 1) : ax_W (d + 5) 74 0 [.ref 73, .int (nI s)] [] n (hx S M N) Q = Q none n (hx S (tgM (ux M 74 3 (nI 0)) A (mdA A) (0, none, 0) s (nmA A) (nmA A)) N) := by
  have m8 := hW.2.2.2.1.2
  have hC1 : RC (ux M 74 3 (nI 0)) 21 A := RC_ux (by decide) hC
  simp only [↓s74_0, ↓s74_1, ↓s74_4, ↓s74_5, ↓s74_8, ↓s74_11, ↓s74_12, ↓s74_13, ↓s74_16, jc_73, gf_73_0, gf_73_1, gf_73_2, gf_73_3, ok_73_3, jc_76, gf_76_0, gf_76_1, ok_76_1, gf_76_2, ok_76_2, gf_76_3, ok_76_3, ↓c78 (g := fun i => iI (gP A (mdA A) (0, none, 0) s i)) hC hW, ↓c16 (e := 76) (Or.inr rfl), ↓c79 (w := (0, none, 0)) hC1 hW (fun i hi => (hW.m.2.1 i hi).2) m8 hs (by decide) (fun j hj => by cases hj), ct_s, ct_n, ↓bI_01, bI_eq0, bI_eq1, nI_10, nI_01, dec_f, dec_t, if_n, eq_self, true_or, or_true, if_true, if_false, reduceIte]
end Go
section Comes
variable {M : ax_M} {N : ax_L} {x y : Int32}
theorem Inv_A (hI : Inv M N) : RC M 21 (M 85) ∧ WF (M 85) := ⟨hI.1, hI.2.1⟩
theorem p15 (hI : Inv M N) : RPi 96 171 [.ref 20, .int x] [.ref 84, .int x] M N := by
  have hC := hI.1
  have hW := hI.2.1
  by_cases h0 : nI 0 ≤ x ∧ x ≤ nI 1
  · obtain ⟨s, s1, rfl⟩ := rng (by decide) h0
    generalize hA : M 85 = A at *
    have sc1 : sc M (tgM (ux M 74 3 (nI 0)) A (mdA A) (nowA A) s (nmA A) (nmA A)) := sc_tg (sc_ux sc_rf (by omega))
    have hC2 : RC (tgM (ux M 74 3 (nI 0)) A (mdA A) (nowA A) s (nmA A) (nmA A)) 21 A := RC_tg (RC_ux (by decide) hC)
    refine ⟨iI (leA A + gL A (mdA A) (nowA A) s 0 (nmA A)), tgM (ux M 74 3 (nI 0)) A (mdA A) (nowA A) s (nmA A) (nmA A), N, _, N, fun S d n Q => ?_, fun S d n Q => ?_, Inv_sc (sc_gm (A := A) (f := mdA A) (w := nowA A) (s := s) (mk := 0) (m := nmA A) sc1) hI⟩
    · simp only [↓s96_0, ↓s96_1, ↓s96_4, ↓c122, ct_s, ct_n, ↓bI_01, bI_eq0, bI_eq1, nI_10, nI_01, dec_f, dec_t, if_n, eq_self, true_or, or_true, if_true, if_false, reduceIte]
      rw [if_pos h0]
      simp only [↓s96_17, ↓s96_18, ↓s96_21, ↓s96_22, ↓s96_25, ↓s96_26, ↓s96_29, ↓s96_32, ↓s96_33, ↓s96_36, ↓s96_39, ↓s96_40, jc_20, gf_20_0, gf_20_1, gf_20_2, gf_20_3, gf_20_4, gf_20_5, gf_20_6, gf_20_7, gf_20_8, gf_20_9, gf_20_10, gf_20_11, ok_20_11, gf_20_12, ok_20_12, gf_20_13, ok_20_13, gf_20_14, ok_20_14, gf_20_15, ok_20_15, jc_73, gf_73_0, gf_73_1, gf_73_2, gf_73_3, ok_73_3, jc_21, gf_21_0, gf_21_1, gf_21_2, gf_21_3, gf_21_4, gf_21_5, ok_21_5, gf_21_6, ok_21_6, ↓s72_0, ↓s72_1, ↓s72_4, ↓c73 hC hW s1, rc_le hC2, tg_73, iI_add, ct_s, ct_n, ↓bI_01, bI_eq0, bI_eq1, nI_10, nI_01, dec_f, dec_t, if_n, eq_self, true_or, or_true, if_true, if_false, reduceIte]
    · simp only [↓s171_0, ↓s171_1, ↓s171_4, ↓c142, ct_s, ct_n, ↓bI_01, bI_eq0, bI_eq1, nI_10, nI_01, dec_f, dec_t, if_n, eq_self, true_or, or_true, if_true, if_false, reduceIte]
      rw [if_pos h0]
      simp only [↓s171_15, ↓s171_16, ↓s171_17, ↓s171_18, ↓s171_21, ↓s171_22, ↓s171_25, jc_84, gf_84_0, gf_84_1, gf_84_2, gf_84_3, gf_84_4, ok_84_4, gf_84_5, ok_84_5, gf_84_6, ok_84_6, gf_84_7, ok_84_7, gf_84_8, ok_84_8, gf_84_9, ok_84_9, gf_84_10, gf_84_11, gf_84_12, gf_84_13, gf_84_14, gf_84_15, gf_84_16, gf_84_17, ok_84_17, gf_84_18, gf_84_19, ok_84_19, gf_84_20, ok_84_20, gf_84_21, gf_84_22, gf_84_23, gf_84_24, ok_84_24, gf_84_25, ok_84_25, gf_84_26, ok_84_26, gf_84_27, ok_84_27, gf_84_28, ok_84_28, gf_84_29, gf_84_30, ↓c170 (M := tgM (ux M 74 3 (nI 0)) A (mdA A) (nowA A) s (nmA A) (nmA A)) (mk := 0) ((sc1.1 85 (by omega)).trans hA) hW s1 (by decide), gm_6, ct_s, ct_n, ↓bI_01, bI_eq0, bI_eq1, nI_10, nI_01, dec_f, dec_t, if_n, eq_self, true_or, or_true, if_true, if_false, reduceIte]
      rfl
  · refine ⟨-1000, ux M 20 13 (M 20 13 + nI 1), N, rjM M 0, N, fun S d n Q => ?_, fun S d n Q => ?_, Inv_rj (by decide) hI⟩
    · simp only [↓s96_0, ↓s96_1, ↓s96_4, ↓s96_7, ↓s96_8, ↓s96_10, ↓s96_13, ↓s96_16, ↓c122, jc_20, ↓c116, refM_b, ct_s, ct_n, ↓bI_01, bI_eq0, bI_eq1, nI_10, nI_01, dec_f, dec_t, if_n, eq_self, true_or, or_true, if_true, if_false, reduceIte]
      rw [if_neg h0]
    · simp only [↓s171_0, ↓s171_1, ↓s171_4, ↓s171_7, ↓s171_8, ↓s171_11, ↓s171_14, ↓c142, jc_84, ↓c136, ux88, ct_s, ct_n, ↓bI_01, bI_eq0, bI_eq1, nI_10, nI_01, dec_f, dec_t, if_n, eq_self, true_or, or_true, if_true, if_false, reduceIte]
      rw [if_neg h0]
      rfl
theorem abI_sg {s x : Nat} (hx : x ≤ 1000) : abI (iI (sg s x)) = nI x := by
  unfold abI sg
  have e0 : (0 : Int32) = iI 0 := by decide
  by_cases h : s = 0
  · rw [if_pos h, ← iI_nat, if_pos (by rw [show (0 : Int32) = nI 0 by decide]; exact nI_le (by omega) (by omega))]
  · rw [if_neg h]
    by_cases hz : x = 0
    · subst hz; decide
    · rw [if_neg (by rw [e0, iI_le (by omega) (by omega) (by omega) (by omega)]; omega), e0, iI_sub, iI_nat]
      congr 1
      omega
theorem p16_bad (hI : Inv M N) (hb : ¬ ((nI 0 ≤ x ∧ x ≤ nI 1) ∧ -1 ≤ y)) : RPi 97 172 [.ref 20, .int x, .int y] [.ref 84, .int x, .int y] M N := by
  refine ⟨-10, ux M 20 13 (M 20 13 + nI 1), N, rjM M 0, N, fun S d n Q => ?_, fun S d n Q => ?_, Inv_rj (by decide) hI⟩
  · simp only [↓s97_0, ↓s97_1, ↓s97_4, ↓s97_7, ↓s97_8, ↓s97_9, ↓s97_12, ↓s97_13, ↓s97_15, ↓s97_17, ↓s97_20, ↓c122, jc_20, ↓c116, refM_b, ct_s, ct_n, ↓bI_01, bI_eq0, bI_eq1, nI_10, nI_01, dec_f, dec_t, if_n, eq_self, true_or, or_true, if_true, if_false, reduceIte]
    by_cases h0 : nI 0 ≤ x ∧ x ≤ nI 1
    · rw [if_pos h0, if_neg (fun q => hb ⟨h0, q⟩)]
    · rw [if_neg h0]
  · have fin : rjM M 0 = ux (ux M 20 13 (M 20 13 + nI 1)) 88 0 (M 88 0 + nI 1) := rfl
    rw [fin]
    simp only [↓s172_0, ↓s172_1, ↓s172_4, ↓s172_7, ↓s172_8, ↓s172_9, ↓s172_12, ↓s172_13, ↓s172_15, ↓s172_18, ↓c142, jc_84, ↓c136, ux88, ct_s, ct_n, ↓bI_01, bI_eq0, bI_eq1, nI_10, nI_01, dec_f, dec_t, if_n, eq_self, true_or, or_true, if_true, if_false, reduceIte]
    by_cases h0 : nI 0 ≤ x ∧ x ≤ nI 1
    · rw [if_pos h0, if_neg (fun q => hb ⟨h0, q⟩)]
    · rw [if_neg h0]
theorem p16 (hI : Inv M N) : RPi 97 172 [.ref 20, .int x, .int y] [.ref 84, .int x, .int y] M N := by
  have hC := hI.1
  have hW := hI.2.1
  have m8 := hW.2.2.2.1.2
  by_cases h0 : nI 0 ≤ x ∧ x ≤ nI 1
  · by_cases h1 : -1 ≤ y
    · obtain ⟨s, s1, rfl⟩ := rng (by decide) h0
      generalize hA : M 85 = A at *
      have sc1 : sc M (tgM (ux M 74 3 (nI 0)) A (mdA A) (nowA A) s (nmA A) (nmA A)) := sc_tg (sc_ux sc_rf (by omega))
      have hC2 : RC (tgM (ux M 74 3 (nI 0)) A (mdA A) (nowA A) s (nmA A) (nmA A)) 21 A := RC_tg (RC_ux (by decide) hC)
      have hA2 : (tgM (ux M 74 3 (nI 0)) A (mdA A) (nowA A) s (nmA A) (nmA A)) 85 = A := (sc1.1 85 (by omega)).trans hA
      have a4 : ∀ w mk, gmM (tgM (ux M 74 3 (nI 0)) A (mdA A) (nowA A) s (nmA A) (nmA A)) A (mdA A) w s mk (nmA A) 85 4 = nI (nmA A) := fun w mk => by rw [gm_o (by decide) (by decide), hA2]; exact hW.2.2.2.1.1
      have a4' : ∀ w mk, gmM M A (mdA A) w s mk (nmA A) 85 4 = nI (nmA A) := fun w mk => by rw [gm_o (by decide) (by decide), hA]; exact hW.2.2.2.1.1
      by_cases e : y = -1
      · subst e
        refine ⟨vdI (iI (leA A + gL A (mdA A) (nowA A) s 0 (nmA A))), tgM (ux M 74 3 (nI 0)) A (mdA A) (nowA A) s (nmA A) (nmA A), N, _, N, fun S d n Q => ?_, fun S d n Q => ?_, Inv_sc (sc_gm (A := A) (f := mdA A) (w := nowA A) (s := s) (mk := 0) (m := nmA A) sc1) hI⟩
        · simp only [↓s97_0, ↓s97_1, ↓s97_4, ↓s97_7, ↓s97_8, ↓s97_9, ↓c122, ct_s, ct_n, ↓bI_01, bI_eq0, bI_eq1, nI_10, nI_01, dec_f, dec_t, if_n, eq_self, true_or, or_true, if_true, if_false, reduceIte]
          rw [if_pos h0, if_pos h1]
          simp only [↓s97_21, ↓s97_22, ↓s97_23, ↓s97_26, ↓s97_29, ↓s97_32, jc_20, gf_20_0, gf_20_1, gf_20_2, gf_20_3, gf_20_4, gf_20_5, gf_20_6, gf_20_7, gf_20_8, gf_20_9, gf_20_10, gf_20_11, ok_20_11, gf_20_12, ok_20_12, gf_20_13, ok_20_13, gf_20_14, ok_20_14, gf_20_15, ok_20_15, jc_21, gf_21_0, gf_21_1, gf_21_2, gf_21_3, gf_21_4, gf_21_5, ok_21_5, gf_21_6, ok_21_6, jc_28, gf_28_0, gf_28_1, gf_28_2, gf_28_3, ok_28_3, ↓c53 h28, (rc_nm hC hW).1, ct_s, ct_n, ↓bI_01, bI_eq0, bI_eq1, nI_10, nI_01, dec_f, dec_t, if_n, eq_self, true_or, or_true, if_true, if_false, reduceIte]
          rw [if_pos (show (-1 : Int32) < nI (nmA A) from Int32.lt_of_lt_of_le (by decide) (nI_le (a := 0) (by omega) (by omega)))]
          simp only [↓s97_38, ↓s97_39, ↓s97_42, ↓s97_43, ↓s97_46, ↓s97_47, ↓s97_48, ↓s97_51, ↓s97_52, ↓s97_55, ↓s97_58, ↓s97_59, ↓s97_62, ↓s97_65, ↓s97_66, ↓s97_69, ↓s97_72, ↓s97_73, ↓s97_76, ↓s97_77, ↓s97_80, ↓s97_83, jc_20, gf_20_0, gf_20_1, gf_20_2, gf_20_3, gf_20_4, gf_20_5, gf_20_6, gf_20_7, gf_20_8, gf_20_9, gf_20_10, gf_20_11, ok_20_11, gf_20_12, ok_20_12, gf_20_13, ok_20_13, gf_20_14, ok_20_14, gf_20_15, ok_20_15, jc_73, gf_73_0, gf_73_1, gf_73_2, gf_73_3, ok_73_3, jc_21, gf_21_0, gf_21_1, gf_21_2, gf_21_3, gf_21_4, gf_21_5, ok_21_5, gf_21_6, ok_21_6, ↓s72_0, ↓s72_1, ↓s72_4, ↓c73 hC hW s1, rc_le hC2, tg_73, iI_add, ↓c126, ct_s, ct_n, ↓bI_01, bI_eq0, bI_eq1, nI_10, nI_01, dec_f, dec_t, if_n, eq_self, true_or, or_true, if_true, if_false, reduceIte]
        · simp only [↓s172_0, ↓s172_1, ↓s172_4, ↓s172_7, ↓s172_8, ↓s172_9, ↓c142, ct_s, ct_n, ↓bI_01, bI_eq0, bI_eq1, nI_10, nI_01, dec_f, dec_t, if_n, eq_self, true_or, or_true, if_true, if_false, reduceIte]
          rw [if_pos h0, if_pos h1]
          simp only [↓s172_19, ↓s172_20, ↓s172_21, ↓s172_22, ↓s172_25, ↓s172_26, ↓s172_27, ↓s172_30, ↓s172_31, ↓s172_34, ↓s172_37, ↓s172_40, ↓s172_41, ↓s172_42, ↓s172_45, ↓s172_46, ↓s172_47, ↓s172_50, ↓s172_51, ↓s172_54, ↓s172_55, ↓s172_56, ↓s172_59, ↓s172_61, jc_84, gf_84_0, gf_84_1, gf_84_2, gf_84_3, gf_84_4, ok_84_4, gf_84_5, ok_84_5, gf_84_6, ok_84_6, gf_84_7, ok_84_7, gf_84_8, ok_84_8, gf_84_9, ok_84_9, gf_84_10, gf_84_11, gf_84_12, gf_84_13, gf_84_14, gf_84_15, gf_84_16, gf_84_17, ok_84_17, gf_84_18, gf_84_19, ok_84_19, gf_84_20, ok_84_20, gf_84_21, gf_84_22, gf_84_23, gf_84_24, ok_84_24, gf_84_25, ok_84_25, gf_84_26, ok_84_26, gf_84_27, ok_84_27, gf_84_28, ok_84_28, gf_84_29, gf_84_30, ↓c170 (M := tgM (ux M 74 3 (nI 0)) A (mdA A) (nowA A) s (nmA A) (nmA A)) (mk := 0) hA2 hW s1 (by decide), gm_6, ↓c160, ct_s, ct_n, ↓bI_01, bI_eq0, bI_eq1, nI_10, nI_01, dec_f, dec_t, if_n, eq_self, true_or, or_true, if_true, if_false, reduceIte]
          rfl
      · have h2 : nI 0 ≤ y := by
          rw [Int32.le_iff_toInt_le, show (-1 : Int32).toInt = -1 by decide] at h1
          rw [Int32.le_iff_toInt_le, show (nI 0).toInt = 0 by decide]
          have : y.toInt ≠ -1 := fun q => e (Int32.toInt_inj.mp (q.trans (by decide)))
          omega
        obtain ⟨ey, ly⟩ := le_tn h2
        generalize tn y = j at ey ly
        subst ey
        by_cases hj : j < nmA A
        · have g24 := gN_le (s := s) hW (fun i hi => (hW.m.2.1 i hi).2) (nowA_ok hW).1 (nowA_ok hW).2.2 hj
          refine ⟨nI (gN A (mdA A) (nowA A) s j), tgM (ux M 74 3 (nI 0)) A (mdA A) (nowA A) s (nmA A) (nmA A), N, _, N, fun S d n Q => ?_, fun S d n Q => ?_, Inv_sc (sc_gm (A := A) (f := mdA A) (w := nowA A) (s := s) (mk := 0) (m := nmA A) sc1) hI⟩
          · simp only [↓s97_0, ↓s97_1, ↓s97_4, ↓s97_7, ↓s97_8, ↓s97_9, ↓c122, ct_s, ct_n, ↓bI_01, bI_eq0, bI_eq1, nI_10, nI_01, dec_f, dec_t, if_n, eq_self, true_or, or_true, if_true, if_false, reduceIte]
            rw [if_pos h0, if_pos h1]
            simp only [↓s97_21, ↓s97_22, ↓s97_23, ↓s97_26, ↓s97_29, ↓s97_32, jc_20, gf_20_0, gf_20_1, gf_20_2, gf_20_3, gf_20_4, gf_20_5, gf_20_6, gf_20_7, gf_20_8, gf_20_9, gf_20_10, gf_20_11, ok_20_11, gf_20_12, ok_20_12, gf_20_13, ok_20_13, gf_20_14, ok_20_14, gf_20_15, ok_20_15, jc_21, gf_21_0, gf_21_1, gf_21_2, gf_21_3, gf_21_4, gf_21_5, ok_21_5, gf_21_6, ok_21_6, jc_28, gf_28_0, gf_28_1, gf_28_2, gf_28_3, ok_28_3, ↓c53 h28, (rc_nm hC hW).1, ct_s, ct_n, ↓bI_01, bI_eq0, bI_eq1, nI_10, nI_01, dec_f, dec_t, if_n, eq_self, true_or, or_true, if_true, if_false, reduceIte]
            rw [if_pos (nI_lt hj (by omega))]
            simp only [↓s97_38, ↓s97_39, ↓s97_42, ↓s97_43, ↓s97_46, ↓s97_47, ↓s97_48, jc_20, gf_20_0, gf_20_1, gf_20_2, gf_20_3, gf_20_4, gf_20_5, gf_20_6, gf_20_7, gf_20_8, gf_20_9, gf_20_10, gf_20_11, ok_20_11, gf_20_12, ok_20_12, gf_20_13, ok_20_13, gf_20_14, ok_20_14, gf_20_15, ok_20_15, jc_73, gf_73_0, gf_73_1, gf_73_2, gf_73_3, ok_73_3, jc_21, gf_21_0, gf_21_1, gf_21_2, gf_21_3, gf_21_4, gf_21_5, ok_21_5, gf_21_6, ok_21_6, ↓c73 hC hW s1, ct_s, ct_n, ↓bI_01, bI_eq0, bI_eq1, nI_10, nI_01, dec_f, dec_t, if_n, eq_self, true_or, or_true, if_true, if_false, reduceIte]
            rw [if_neg e]
            simp only [↓s97_72, ↓s97_73, ↓s97_76, ↓s97_77, ↓s97_80, ↓s97_83, jc_20, gf_20_0, gf_20_1, gf_20_2, gf_20_3, gf_20_4, gf_20_5, gf_20_6, gf_20_7, gf_20_8, gf_20_9, gf_20_10, gf_20_11, ok_20_11, gf_20_12, ok_20_12, gf_20_13, ok_20_13, gf_20_14, ok_20_14, gf_20_15, ok_20_15, jc_73, gf_73_0, gf_73_1, gf_73_2, gf_73_3, ok_73_3, jc_74, gf_74_0, gf_74_1, gf_74_2, gf_74_3, ok_74_3, ↓s71_0, ↓s71_1, ↓s71_4, ↓s71_5, ↓s71_6, ↓s71_9, ↓c54 h74 (cap_of (tg_74 (M := ux M 74 3 (nI 0)) (A := A) (f := mdA A) (w := nowA A) (s := s) (m := nmA A) (i := nmA A)) m8 (by omega)), tg_cell1 hj hj m8, ct_s, ct_n, ↓bI_01, bI_eq0, bI_eq1, nI_10, nI_01, dec_f, dec_t, if_n, eq_self, true_or, or_true, if_true, if_false, reduceIte]
            unfold gP
            rw [abI_sg (by omega)]
          · simp only [↓s172_0, ↓s172_1, ↓s172_4, ↓s172_7, ↓s172_8, ↓s172_9, ↓c142, ct_s, ct_n, ↓bI_01, bI_eq0, bI_eq1, nI_10, nI_01, dec_f, dec_t, if_n, eq_self, true_or, or_true, if_true, if_false, reduceIte]
            rw [if_pos h0, if_pos h1]
            simp only [↓s172_19, ↓s172_20, ↓s172_21, ↓s172_22, ↓s172_25, ↓s172_26, ↓s172_27, jc_84, gf_84_0, gf_84_1, gf_84_2, gf_84_3, gf_84_4, ok_84_4, gf_84_5, ok_84_5, gf_84_6, ok_84_6, gf_84_7, ok_84_7, gf_84_8, ok_84_8, gf_84_9, ok_84_9, gf_84_10, gf_84_11, gf_84_12, gf_84_13, gf_84_14, gf_84_15, gf_84_16, gf_84_17, ok_84_17, gf_84_18, gf_84_19, ok_84_19, gf_84_20, ok_84_20, gf_84_21, gf_84_22, gf_84_23, gf_84_24, ok_84_24, gf_84_25, ok_84_25, gf_84_26, ok_84_26, gf_84_27, ok_84_27, gf_84_28, ok_84_28, gf_84_29, gf_84_30, ↓c170 (M := tgM (ux M 74 3 (nI 0)) A (mdA A) (nowA A) s (nmA A) (nmA A)) (mk := 0) hA2 hW s1 (by decide), ct_s, ct_n, ↓bI_01, bI_eq0, bI_eq1, nI_10, nI_01, dec_f, dec_t, if_n, eq_self, true_or, or_true, if_true, if_false, reduceIte]
            rw [if_neg e]
            simp only [↓s172_40, ↓s172_41, ↓s172_42, ↓s172_45, ↓s172_46, ↓s172_47, jc_84, gf_84_0, gf_84_1, gf_84_2, gf_84_3, gf_84_4, ok_84_4, gf_84_5, ok_84_5, gf_84_6, ok_84_6, gf_84_7, ok_84_7, gf_84_8, ok_84_8, gf_84_9, ok_84_9, gf_84_10, gf_84_11, gf_84_12, gf_84_13, gf_84_14, gf_84_15, gf_84_16, gf_84_17, ok_84_17, gf_84_18, gf_84_19, ok_84_19, gf_84_20, ok_84_20, gf_84_21, gf_84_22, gf_84_23, gf_84_24, ok_84_24, gf_84_25, ok_84_25, gf_84_26, ok_84_26, gf_84_27, ok_84_27, gf_84_28, ok_84_28, gf_84_29, gf_84_30, al_85 (show 4 < 181 by decide), a4, ct_s, ct_n, ↓bI_01, bI_eq0, bI_eq1, nI_10, nI_01, dec_f, dec_t, if_n, eq_self, true_or, or_true, if_true, if_false, reduceIte]
            rw [if_neg (nI_ge (a := j) (b := nmA A) (by omega) (by omega))]
            simp only [↓s172_50, ↓s172_51, ↓s172_54, ↓s172_55, ↓s172_56, ↓s172_59, ↓s172_61, jc_84, gf_84_0, gf_84_1, gf_84_2, gf_84_3, gf_84_4, ok_84_4, gf_84_5, ok_84_5, gf_84_6, ok_84_6, gf_84_7, ok_84_7, gf_84_8, ok_84_8, gf_84_9, ok_84_9, gf_84_10, gf_84_11, gf_84_12, gf_84_13, gf_84_14, gf_84_15, gf_84_16, gf_84_17, ok_84_17, gf_84_18, gf_84_19, ok_84_19, gf_84_20, ok_84_20, gf_84_21, gf_84_22, gf_84_23, gf_84_24, ok_84_24, gf_84_25, ok_84_25, gf_84_26, ok_84_26, gf_84_27, ok_84_27, gf_84_28, ok_84_28, gf_84_29, gf_84_30, al_89 (show j < 8 by omega), gm_89 hj, ct_s, ct_n, ↓bI_01, bI_eq0, bI_eq1, nI_10, nI_01, dec_f, dec_t, if_n, eq_self, true_or, or_true, if_true, if_false, reduceIte]
        · refine ⟨-5, M, N, _, N, fun S d n Q => ?_, fun S d n Q => ?_, Inv_sc (sc_gm (A := A) (f := mdA A) (w := nowA A) (s := s) (mk := 0) (m := nmA A) sc_rf) hI⟩
          · simp only [↓s97_0, ↓s97_1, ↓s97_4, ↓s97_7, ↓s97_8, ↓s97_9, ↓c122, ct_s, ct_n, ↓bI_01, bI_eq0, bI_eq1, nI_10, nI_01, dec_f, dec_t, if_n, eq_self, true_or, or_true, if_true, if_false, reduceIte]
            rw [if_pos h0, if_pos h1]
            simp only [↓s97_21, ↓s97_22, ↓s97_23, ↓s97_26, ↓s97_29, ↓s97_32, jc_20, gf_20_0, gf_20_1, gf_20_2, gf_20_3, gf_20_4, gf_20_5, gf_20_6, gf_20_7, gf_20_8, gf_20_9, gf_20_10, gf_20_11, ok_20_11, gf_20_12, ok_20_12, gf_20_13, ok_20_13, gf_20_14, ok_20_14, gf_20_15, ok_20_15, jc_21, gf_21_0, gf_21_1, gf_21_2, gf_21_3, gf_21_4, gf_21_5, ok_21_5, gf_21_6, ok_21_6, jc_28, gf_28_0, gf_28_1, gf_28_2, gf_28_3, ok_28_3, ↓c53 h28, (rc_nm hC hW).1, ct_s, ct_n, ↓bI_01, bI_eq0, bI_eq1, nI_10, nI_01, dec_f, dec_t, if_n, eq_self, true_or, or_true, if_true, if_false, reduceIte]
            rw [if_neg (nI_nlt (a := j) (b := nmA A) (by omega) (by omega))]
            simp only [↓s97_35, ↓s97_37, ct_s, ct_n, ↓bI_01, bI_eq0, bI_eq1, nI_10, nI_01, dec_f, dec_t, if_n, eq_self, true_or, or_true, if_true, if_false, reduceIte]
          · simp only [↓s172_0, ↓s172_1, ↓s172_4, ↓s172_7, ↓s172_8, ↓s172_9, ↓c142, ct_s, ct_n, ↓bI_01, bI_eq0, bI_eq1, nI_10, nI_01, dec_f, dec_t, if_n, eq_self, true_or, or_true, if_true, if_false, reduceIte]
            rw [if_pos h0, if_pos h1]
            simp only [↓s172_19, ↓s172_20, ↓s172_21, ↓s172_22, ↓s172_25, ↓s172_26, ↓s172_27, jc_84, gf_84_0, gf_84_1, gf_84_2, gf_84_3, gf_84_4, ok_84_4, gf_84_5, ok_84_5, gf_84_6, ok_84_6, gf_84_7, ok_84_7, gf_84_8, ok_84_8, gf_84_9, ok_84_9, gf_84_10, gf_84_11, gf_84_12, gf_84_13, gf_84_14, gf_84_15, gf_84_16, gf_84_17, ok_84_17, gf_84_18, gf_84_19, ok_84_19, gf_84_20, ok_84_20, gf_84_21, gf_84_22, gf_84_23, gf_84_24, ok_84_24, gf_84_25, ok_84_25, gf_84_26, ok_84_26, gf_84_27, ok_84_27, gf_84_28, ok_84_28, gf_84_29, gf_84_30, ↓c170 (M := M) (mk := 0) hA hW s1 (by decide), ct_s, ct_n, ↓bI_01, bI_eq0, bI_eq1, nI_10, nI_01, dec_f, dec_t, if_n, eq_self, true_or, or_true, if_true, if_false, reduceIte]
            rw [if_neg e]
            simp only [↓s172_40, ↓s172_41, ↓s172_42, ↓s172_45, ↓s172_46, ↓s172_47, jc_84, gf_84_0, gf_84_1, gf_84_2, gf_84_3, gf_84_4, ok_84_4, gf_84_5, ok_84_5, gf_84_6, ok_84_6, gf_84_7, ok_84_7, gf_84_8, ok_84_8, gf_84_9, ok_84_9, gf_84_10, gf_84_11, gf_84_12, gf_84_13, gf_84_14, gf_84_15, gf_84_16, gf_84_17, ok_84_17, gf_84_18, gf_84_19, ok_84_19, gf_84_20, ok_84_20, gf_84_21, gf_84_22, gf_84_23, gf_84_24, ok_84_24, gf_84_25, ok_84_25, gf_84_26, ok_84_26, gf_84_27, ok_84_27, gf_84_28, ok_84_28, gf_84_29, gf_84_30, al_85 (show 4 < 181 by decide), a4', ct_s, ct_n, ↓bI_01, bI_eq0, bI_eq1, nI_10, nI_01, dec_f, dec_t, if_n, eq_self, true_or, or_true, if_true, if_false, reduceIte]
            rw [if_pos (nI_le (a := nmA A) (b := j) (by omega) (by omega))]
            simp only [↓s172_59, ↓s172_61, ct_s, ct_n, ↓bI_01, bI_eq0, bI_eq1, nI_10, nI_01, dec_f, dec_t, if_n, eq_self, true_or, or_true, if_true, if_false, reduceIte]
    · exact p16_bad hI (fun q => h1 q.2)
  · exact p16_bad hI (fun q => h0 q.1)
end Comes
