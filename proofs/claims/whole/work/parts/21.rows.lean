/-! ===== rows of numbers ===== -/
def rwt : List (Nat × Nat × Nat) := [(22, 8, 5), (24, 5, 5), (26, 9, 4), (28, 8, 1), (30, 6, 11), (33, 8, 5), (35, 5, 5), (37, 9, 4), (39, 8, 1), (41, 6, 11), (45, 8, 5), (47, 5, 5), (49, 9, 4), (51, 8, 1), (53, 6, 11), (57, 8, 5), (59, 5, 5), (61, 9, 4), (63, 8, 1), (65, 6, 11), (67, 150, 1), (70, 5, 1), (74, 8, 2), (79, 4, 1), (81, 4, 1)]
theorem rwt_gf {S : ax_S} {M : ax_M} {N : ax_L} {r mo wi : Nat} (hr : (r, mo, wi) ∈ rwt) : gf (hx S M N) r 6 0 = some (.int (nI mo)) ∧ gf (hx S M N) r 6 1 = some (.int (nI wi)) ∧ gf (hx S M N) r 6 2 = some (.ref (r + 1)) ∧ gf (hx S M N) r 6 3 = some (.int (M r 3)) ∧ isC (hx S M N) r 6 = true ∧ okI r 6 3 = true ∧ okA (r + 1) (mo * wi) = true ∧ mo * wi < 1000 ∧ 0 < wi ∧ mo < 1000 ∧ wi < 1000 := by
  simp only [rwt, List.mem_cons, List.not_mem_nil, or_false, Prod.mk.injEq] at hr
  rcases hr with ⟨rfl, rfl, rfl⟩ | ⟨rfl, rfl, rfl⟩ | ⟨rfl, rfl, rfl⟩ | ⟨rfl, rfl, rfl⟩ | ⟨rfl, rfl, rfl⟩ | ⟨rfl, rfl, rfl⟩ | ⟨rfl, rfl, rfl⟩ | ⟨rfl, rfl, rfl⟩ | ⟨rfl, rfl, rfl⟩ | ⟨rfl, rfl, rfl⟩ | ⟨rfl, rfl, rfl⟩ | ⟨rfl, rfl, rfl⟩ | ⟨rfl, rfl, rfl⟩ | ⟨rfl, rfl, rfl⟩ | ⟨rfl, rfl, rfl⟩ | ⟨rfl, rfl, rfl⟩ | ⟨rfl, rfl, rfl⟩ | ⟨rfl, rfl, rfl⟩ | ⟨rfl, rfl, rfl⟩ | ⟨rfl, rfl, rfl⟩ | ⟨rfl, rfl, rfl⟩ | ⟨rfl, rfl, rfl⟩ | ⟨rfl, rfl, rfl⟩ | ⟨rfl, rfl, rfl⟩ | ⟨rfl, rfl, rfl⟩ <;> exact ⟨rfl, rfl, rfl, rfl, rfl, by decide +kernel, by decide +kernel, by decide, by decide, by decide, by decide⟩
theorem rwt_ne2 : ∀ q ∈ rwt, ∀ p ∈ rwt, ¬ p.1 = q.1 + 1 := by decide +kernel
theorem rwt_ne {r r2 mo wi mo2 wi2 : Nat} (hr : (r, mo, wi) ∈ rwt) (hr2 : (r2, mo2, wi2) ∈ rwt) : r2 ≠ r + 1 := rwt_ne2 _ hr _ hr2
/-- what cell answers -/
def rcell (M : ax_M) (r wi : Nat) (i c : Int32) : Int32 := if nI 0 ≤ i ∧ i < M r 3 ∧ nI 0 ≤ c ∧ c < nI wi then M (r + 1) (tn i * wi + tn c) else nI 0
/-- what put does -/
def rput (M : ax_M) (r wi : Nat) (i c v : Int32) : ax_M := if nI 0 ≤ i ∧ i < M r 3 ∧ nI 0 ≤ c ∧ c < nI wi then ux M (r + 1) (tn i * wi + tn c) v else M
theorem idx_lt {i c k wi mo : Nat} (hi : i < k) (hk : k ≤ mo) (hc : c < wi) : i * wi + c < mo * wi := by
  have h1 : (i + 1) * wi ≤ mo * wi := Nat.mul_le_mul_right wi (by omega)
  rw [Nat.add_mul, Nat.one_mul] at h1
  omega
theorem rcell_in {M : ax_M} {r wi i c k : Nat} (hk : M r 3 = nI k) (hk3 : k < 2 ^ 31) (hi : i < k) (hw : wi < 2 ^ 31) (hc : c < wi) : rcell M r wi (nI i) (nI c) = M (r + 1) (i * wi + c) := by
  unfold rcell
  rw [hk, if_pos ⟨nI_le (by omega) (by omega), nI_lt hi hk3, nI_le (by omega) (by omega), nI_lt hc hw⟩]
  show M (r + 1) ((nI i).toNatClampNeg * wi + (nI c).toNatClampNeg) = _
  rw [nI_clamp (by omega), nI_clamp (by omega)]
theorem rput_in {M : ax_M} {r wi i c k : Nat} {v : Int32} (hk : M r 3 = nI k) (hk3 : k < 2 ^ 31) (hi : i < k) (hw : wi < 2 ^ 31) (hc : c < wi) : rput M r wi (nI i) (nI c) v = ux M (r + 1) (i * wi + c) v := by
  unfold rput
  rw [hk, if_pos ⟨nI_le (by omega) (by omega), nI_lt hi hk3, nI_le (by omega) (by omega), nI_lt hc hw⟩]
  show ux M (r + 1) ((nI i).toNatClampNeg * wi + (nI c).toNatClampNeg) v = _
  rw [nI_clamp (by omega), nI_clamp (by omega)]
theorem rcell_out {M : ax_M} {r wi : Nat} {i c : Int32} (h : ¬ (nI 0 ≤ i ∧ i < M r 3)) : rcell M r wi i c = nI 0 := by
  unfold rcell
  rw [if_neg (fun q => h ⟨q.1, q.2.1⟩)]
section Rows
variable {d n : Nat} {h : ax_H} {Q : Option Value → Nat → ax_H → Prop} {x l m s e i c v : Int32} {S : ax_S} {M : ax_M} {N : ax_L} {p q : Int64} {r mo wi : Nat}
theorem c53 (hr : (r, mo, wi) ∈ rwt) : ax_W d 53 0 [.ref r] [] n (hx S M N) Q = Q (some (.int (M r 3))) n (hx S M N) := by
  obtain ⟨g0, g1, g2, g3, g4, g5, g6, g7, g8, g9, g10⟩ := rwt_gf (S := S) (M := M) (N := N) hr
  simp only [↓s53_0, ↓s53_1, ↓s53_4, g3, ct_s, ct_n, ↓bI_01, bI_eq0, bI_eq1, nI_10, nI_01, dec_f, dec_t, if_n, eq_self, true_or, or_true, if_true, if_false, reduceIte]
set_option maxHeartbeats 1000000 in
theorem c54 (hr : (r, mo, wi) ∈ rwt) (hk : tn (M r 3) ≤ mo) : ax_W d 54 0 [.ref r, .int i, .int c, ax_dm] [] n (hx S M N) Q = Q (some (.int (rcell M r wi i c))) n (hx S M N) := by
  obtain ⟨g0, g1, g2, g3, g4, g5, g6, g7, g8, g9, g10⟩ := rwt_gf (S := S) (M := M) (N := N) hr
  simp only [↓s54_0, ↓s54_1, ↓s54_4, ↓s54_5, ↓s54_6, ↓s54_9, ↓s54_12, ↓s54_13, ↓s54_16, ↓s54_17, ↓s54_18, ↓s54_21, ↓s54_24, ↓s54_25, ↓s54_28, ↓s54_29, ↓s54_30, ↓s54_31, ↓s54_34, ↓s54_35, ↓s54_38, ↓s54_39, ↓s54_40, ↓s54_43, ↓s54_44, ↓s54_45, ↓s54_46, ↓s54_47, ↓s54_50, ↓s54_51, g1, g2, g3, ct_s, ct_n, ↓bI_01, bI_eq0, bI_eq1, nI_10, nI_01, dec_f, dec_t, if_n, eq_self, true_or, or_true, if_true, if_false, reduceIte]
  unfold rcell
  by_cases hin : nI 0 ≤ i ∧ i < M r 3 ∧ nI 0 ≤ c ∧ c < nI wi
  · obtain ⟨h1, h2, h3, h4⟩ := hin
    obtain ⟨ei, li⟩ := le_tn h1
    obtain ⟨ec, lc⟩ := le_tn h3
    have lc2 := lt_tn (by omega) h3 h4
    have li2 : tn i < tn (M r 3) := by
      have h0 : nI 0 ≤ M r 3 := Int32.le_trans h1 (Int32.le_of_lt h2)
      obtain ⟨em, lm⟩ := le_tn h0
      rw [em] at h2
      exact lt_tn lm h1 h2
    rw [if_neg (Int32.not_lt.mpr h1), if_neg (Int32.not_le.mpr h2), if_neg (Int32.not_lt.mpr h3), if_neg (Int32.not_le.mpr h4), if_pos ⟨h1, h2, h3, h4⟩]
    have ex : i * nI wi + c = nI (tn i * wi + tn c) := by rw [← nI_add, ← pk_mul, ← ei, ← ec]
    rw [ex, hx_alG g6 (idx_lt li2 hk lc2)]
  · rw [if_neg hin]
    by_cases h1 : i < nI 0
    · rw [if_pos h1]
    · rw [if_neg h1]
      by_cases h2 : M r 3 ≤ i
      · rw [if_pos h2]
      · rw [if_neg h2]
        by_cases h3 : c < nI 0
        · rw [if_pos h3]
        · rw [if_neg h3]
          by_cases h4 : nI wi ≤ c
          · rw [if_pos h4]
          · exact absurd ⟨Int32.not_lt.mp h1, Int32.not_le.mp h2, Int32.not_lt.mp h3, Int32.not_le.mp h4⟩ hin
set_option maxHeartbeats 1000000 in
theorem c55 (hr : (r, mo, wi) ∈ rwt) (hk : tn (M r 3) ≤ mo) : ax_W d 55 0 [.ref r, .int i, .int c, .int v] [] n (hx S M N) Q = Q none n (hx S (rput M r wi i c v) N) := by
  obtain ⟨g0, g1, g2, g3, g4, g5, g6, g7, g8, g9, g10⟩ := rwt_gf (S := S) (M := M) (N := N) hr
  simp only [↓s55_0, ↓s55_1, ↓s55_4, ↓s55_5, ↓s55_6, ↓s55_9, ↓s55_12, ↓s55_13, ↓s55_16, ↓s55_17, ↓s55_18, ↓s55_21, ↓s55_24, ↓s55_25, ↓s55_28, ↓s55_29, ↓s55_30, ↓s55_33, ↓s55_34, ↓s55_35, ↓s55_36, ↓s55_37, ↓s55_38, g1, g2, g3, ct_s, ct_n, ↓bI_01, bI_eq0, bI_eq1, nI_10, nI_01, dec_f, dec_t, if_n, eq_self, true_or, or_true, if_true, if_false, reduceIte]
  unfold rput
  by_cases hin : nI 0 ≤ i ∧ i < M r 3 ∧ nI 0 ≤ c ∧ c < nI wi
  · obtain ⟨h1, h2, h3, h4⟩ := hin
    obtain ⟨ei, li⟩ := le_tn h1
    obtain ⟨ec, lc⟩ := le_tn h3
    have lc2 := lt_tn (by omega) h3 h4
    have li2 : tn i < tn (M r 3) := by
      have h0 : nI 0 ≤ M r 3 := Int32.le_trans h1 (Int32.le_of_lt h2)
      obtain ⟨em, lm⟩ := le_tn h0
      rw [em] at h2
      exact lt_tn lm h1 h2
    rw [if_neg (Int32.not_lt.mpr h1), if_neg (Int32.not_le.mpr h2), if_neg (Int32.not_lt.mpr h3), if_neg (Int32.not_le.mpr h4), if_pos ⟨h1, h2, h3, h4⟩]
    have ex : i * nI wi + c = nI (tn i * wi + tn c) := by rw [← nI_add, ← pk_mul, ← ei, ← ec]
    rw [ex, hx_saG g6 (idx_lt li2 hk lc2)]
  · rw [if_neg hin]
    by_cases h1 : i < nI 0
    · rw [if_pos h1]
    · rw [if_neg h1]
      by_cases h2 : M r 3 ≤ i
      · rw [if_pos h2]
      · rw [if_neg h2]
        by_cases h3 : c < nI 0
        · rw [if_pos h3]
        · rw [if_neg h3]
          by_cases h4 : nI wi ≤ c
          · rw [if_pos h4]
          · exact absurd ⟨Int32.not_lt.mp h1, Int32.not_le.mp h2, Int32.not_lt.mp h3, Int32.not_le.mp h4⟩ hin
/-- places lo .. lo + k of cell a are 0 -/
def zr (M : ax_M) (a lo k : Nat) : ax_M := fun b j => if b = a ∧ lo ≤ j ∧ j < lo + k then nI 0 else M b j
theorem zr_0 {a lo : Nat} : zr M a lo 0 = M := by
  funext b j
  unfold zr
  rw [if_neg (by omega)]
theorem zr_s {a lo k : Nat} : ux (zr M a lo k) a (lo + k) (nI 0) = zr M a lo (k + 1) := by
  funext b j
  show (if b = a ∧ j = lo + k then nI 0 else if b = a ∧ lo ≤ j ∧ j < lo + k then nI 0 else M b j) = (if b = a ∧ lo ≤ j ∧ j < lo + (k + 1) then nI 0 else M b j)
  by_cases hb : b = a
  · by_cases h1 : j = lo + k
    · rw [if_pos ⟨hb, h1⟩, if_pos ⟨hb, by omega, by omega⟩]
    · rw [if_neg (fun q => h1 q.2)]
      by_cases h2 : lo ≤ j ∧ j < lo + k
      · rw [if_pos ⟨hb, h2⟩, if_pos ⟨hb, by omega, by omega⟩]
      · rw [if_neg (fun q => h2 q.2), if_neg (fun q => h2 ⟨q.2.1, by omega⟩)]
  · rw [if_neg (fun q => hb q.1), if_neg (fun q => hb q.1), if_neg (fun q => hb q.1)]
theorem zr_a {a lo k b : Nat} (hb : b ≠ a) : zr M a lo k b = M b := by
  funext j
  unfold zr
  rw [if_neg (fun q => hb q.1)]
theorem l56 (hr : (r, mo, wi) ∈ rwt) {k : Nat} (hk : M r 3 = nI (k + 1)) (hkm : k < mo) : ∀ (c i : Nat), i + c = wi → ax_W (d + 1) 56 25 [.ref r, .int (nI i)] [] n (hx S (zr M (r + 1) (k * wi) i) N) Q = Q (some (.int (nI k))) n (hx S (zr M (r + 1) (k * wi) wi) N) := by
  obtain ⟨g0, g1, g2, g3, g4, g5, g6, g7, g8, g9, g10⟩ := rwt_gf (S := S) (M := M) (N := N) hr
  have hkw : k < 1000 := by omega
  intro c
  induction c with
  | zero =>
    intro i hi
    obtain ⟨_, e1, e2, e3, e4, _⟩ := rwt_gf (S := S) (M := zr M (r + 1) (k * wi) i) (N := N) hr
    simp only [s56_25, s56_26, s56_27, s56_30, e1]
    rw [if_pos (nI_le (a := wi) (b := i) (by omega) (by omega))]
    simp only [s56_51, s56_52, s56_55, s56_56, s56_57, e3]
    rw [zr_a (by omega), hk, pk_sub (by omega), Nat.add_sub_cancel, show i = wi by omega]
  | succ c ih =>
    intro i hi
    obtain ⟨_, e1, e2, e3, e4, _⟩ := rwt_gf (S := S) (M := zr M (r + 1) (k * wi) i) (N := N) hr
    have hz : zr M (r + 1) (k * wi) i r 3 = nI (k + 1) := by rw [zr_a (by omega), hk]
    simp only [s56_25, s56_26, s56_27, s56_30, e1]
    rw [if_neg (nI_ge (a := i) (b := wi) (by omega) (by omega))]
    simp only [s56_33, s56_34, s56_35, s56_38, s56_39, s56_40, s56_41, s56_42 e4, e3]
    rw [hz, pk_sub (by omega), Nat.add_sub_cancel, c55 hr (by rw [hz]; show (nI (k + 1)).toNatClampNeg ≤ mo; rw [nI_clamp (by omega)]; omega)]
    rw [rput_in hz (by omega) (by omega) (by omega) (by omega), zr_s]
    simp only [ct_n, s56_45, s56_48]
    rw [nI_add, ih (i + 1) (by omega)]
theorem c56 (hr : (r, mo, wi) ∈ rwt) {k : Nat} (hk : M r 3 = nI k) (hkm : k < mo) : ax_W (d + 1) 56 0 [.ref r, ax_dm] [] n (hx S M N) Q = Q (some (.int (nI k))) n (hx S (zr (ux M r 3 (nI (k + 1))) (r + 1) (k * wi) wi) N) := by
  obtain ⟨g0, g1, g2, g3, g4, g5, g6, g7, g8, g9, g10⟩ := rwt_gf (S := S) (M := M) (N := N) hr
  simp only [s56_0, s56_1, s56_4, s56_5, s56_8, g0, g3]
  rw [hk, if_pos (nI_lt hkm (by omega))]
  simp only [s56_13, s56_14, s56_15, s56_18, s56_19, s56_20 g5, s56_23, s56_24, g3]
  rw [hk, nI_add]
  have h1 := l56 (d := d) (n := n) (Q := Q) (S := S) (N := N) (M := ux M r 3 (nI (k + 1))) hr (k := k) ux_s hkm wi 0 (by omega)
  rw [zr_0] at h1
  exact h1
theorem c56f (hr : (r, mo, wi) ∈ rwt) (hk : M r 3 = nI mo) : ax_W d 56 0 [.ref r, ax_dm] [] n (hx S M N) Q = Q (some (.int (-1))) n (hx S M N) := by
  obtain ⟨g0, g1, g2, g3, g4, g5, g6, g7, g8, g9, g10⟩ := rwt_gf (S := S) (M := M) (N := N) hr
  simp only [s56_0, s56_1, s56_4, s56_5, s56_8, g0, g3]
  rw [hk, if_neg (nI_nlt (a := mo) (b := mo) (Nat.le_refl _) (by omega))]
  simp only [s56_11, s56_12]
theorem c57 (hr : (r, mo, wi) ∈ rwt) {l k : Nat} (hk : M r 3 = nI k) (hk3 : k < 2 ^ 31) (hl : l ≤ k) : ax_W (d + 1) 57 0 [.ref r, .int (nI l)] [] n (hx S M N) Q = Q none n (hx S (ux M r 3 (nI l)) N) := by
  obtain ⟨g0, g1, g2, g3, g4, g5, g6, g7, g8, g9, g10⟩ := rwt_gf (S := S) (M := M) (N := N) hr
  simp only [s57_0, s57_1, s57_2, s57_3, s57_6, s57_7, s57_10, s57_13 g5, s57_16, g3]
  have e1 : mnI (nI k) (nI l) = nI l := by
    unfold mnI
    by_cases h1 : nI l < nI k
    · rw [if_pos h1]
    · rw [if_neg h1, show k = l from Nat.le_antisymm (Nat.not_lt.mp (fun q => h1 (nI_lt q hk3))) hl]
  have e2 : mxI (nI 0) (nI l) = nI l := by
    unfold mxI
    by_cases h1 : nI 0 < nI l
    · rw [if_pos h1]
    · rw [if_neg h1, show l = 0 from Nat.eq_zero_of_not_pos (fun q => h1 (nI_lt q (by omega)))]
  rw [hk, e1, e2]
theorem c58 {r2 : Nat} (hr : (r, mo, wi) ∈ rwt) (hr2 : (r2, mo, wi) ∈ rwt) : ax_W (d + 1) 58 0 [.ref r, .ref r2] [] n (hx S M N) Q = Q none n (hx S (ux (ua M (r + 1) (va_cpy (M (r2 + 1)) (M (r + 1)) 0 0 (mo * wi))) r 3 (M r2 3)) N) := by
  obtain ⟨g0, g1, g2, g3, g4, g5, g6, g7, g8, g9, g10⟩ := rwt_gf (S := S) (M := M) (N := N) hr
  obtain ⟨f0, f1, f2, f3, f4, f5, f6, f7, f8, f9, f10⟩ := rwt_gf (S := S) (M := M) (N := N) hr2
  simp only [s58_0, s58_1, s58_4, s58_5, s58_6, s58_9, s58_10, g2, f2, hx_anG g6, hx_anG f6, if_true, s58_13, s58_14, s58_17, s58_18, s58_19, s58_22, s58_23, s58_24, s58_27]
  rw [s58_28 (x := nI 0) (w := nI 0) (hx_acp f6 g6)]
  obtain ⟨f0, f1, f2, f3, f4, f5, f6, f7, f8, f9, f10⟩ := rwt_gf (S := S) (M := ua M (r + 1) (va_cpy (M (r2 + 1)) (M (r + 1)) 0 0 (mo * wi))) (N := N) hr2
  simp only [s58_31, s58_32, s58_33, s58_36 g5, s58_39, f3]
  rw [ua_a (a := r + 1) (b := r2) (rwt_ne hr hr2)]
/-- the sum of a row's cells -/
def mixR (M : ax_M) (r wi : Nat) (i : Int32) : Nat → Nat → Int64 → Int64
  | 0, _, h => h
  | k + 1, c, h => mixR M r wi i k (c + 1) (31 * h + (rcell M r wi i (nI c)).toInt64)
theorem l60 (hr : (r, mo, wi) ∈ rwt) (hk : tn (M r 3) ≤ mo) (cs : Nat) (hcs : cs < 2 ^ 31) : ∀ (k c : Nat) (p : Int64), c + k = cs → ax_W (d + 1) 60 3 [.ref r, .long p, ax_dm, .int i, .int (nI cs), .int (nI c)] [] n (hx S M N) Q = Q (some (.long (mixR M r wi i k c p))) n (hx S M N) := by
  obtain ⟨g0, g1, g2, g3, g4, g5, g6, g7, g8, g9, g10⟩ := rwt_gf (S := S) (M := M) (N := N) hr
  intro k
  induction k with
  | zero =>
    intro c p hc
    simp only [s60_3, s60_5, s60_7]
    rw [if_pos (nI_le (a := cs) (b := c) (by omega) (by omega))]
    simp only [s60_29, s60_30]
    rfl
  | succ k ih =>
    intro c p hc
    simp only [s60_3, s60_5, s60_7]
    rw [if_neg (nI_ge (a := c) (b := cs) (by omega) hcs)]
    simp only [s60_10, s60_11, s60_12, s60_13, s60_15 g4]
    rw [c54 hr hk]
    simp only [ct_s, s60_18, s60_19, c131, s60_22, s60_23, s60_26]
    rw [nI_add, ih (c + 1) _ (by omega)]
    rfl
theorem c60 (hr : (r, mo, wi) ∈ rwt) (hk : tn (M r 3) ≤ mo) {cs : Nat} (hcs : cs < 2 ^ 31) : ax_W (d + 1) 60 0 [.ref r, .long p, ax_dm, .int i, .int (nI cs), ax_dm] [] n (hx S M N) Q = Q (some (.long (mixR M r wi i cs 0 p))) n (hx S M N) := by
  simp only [s60_0, s60_1]
  exact l60 hr hk cs hcs cs 0 p (by omega)
def mixA (M : ax_M) (r wi cs : Nat) : Nat → Nat → Int64 → Int64
  | 0, _, h => h
  | k + 1, i, h => mixA M r wi cs k (i + 1) (mixR M r wi (nI i) cs 0 h)
theorem l59 (hr : (r, mo, wi) ∈ rwt) {m : Nat} (hm : M r 3 = nI m) (hmo : m ≤ mo) {cs : Nat} (hcs : cs < 2 ^ 31) : ∀ (k i : Nat) (p : Int64), i + k = m → ax_W (d + 2) 59 3 [.ref r, .long p, ax_dm, .int (nI cs), .int (nI i)] [] n (hx S M N) Q = Q (some (.long (mixA M r wi cs k i p))) n (hx S M N) := by
  obtain ⟨g0, g1, g2, g3, g4, g5, g6, g7, g8, g9, g10⟩ := rwt_gf (S := S) (M := M) (N := N) hr
  have hk : tn (M r 3) ≤ mo := by rw [hm]; show (nI m).toNatClampNeg ≤ mo; rw [nI_clamp (by omega)]; exact hmo
  intro k
  induction k with
  | zero =>
    intro i p hi
    simp only [s59_3, s59_5, s59_6, s59_9, g3]
    rw [hm, if_pos (nI_le (a := m) (b := i) (by omega) (by omega))]
    simp only [s59_27, s59_28]
    rfl
  | succ k ih =>
    intro i p hi
    simp only [s59_3, s59_5, s59_6, s59_9, g3]
    rw [hm, if_neg (nI_ge (a := i) (b := m) (by omega) (by omega))]
    simp only [s59_12, s59_13, s59_14, s59_16, s59_17 g4]
    rw [c60 hr hk hcs]
    simp only [ct_s, s59_20, s59_21, s59_24]
    rw [nI_add, ih (i + 1) _ (by omega)]
    rfl
theorem c59 (hr : (r, mo, wi) ∈ rwt) {m : Nat} (hm : M r 3 = nI m) (hmo : m ≤ mo) {cs : Nat} (hcs : cs < 2 ^ 31) : ax_W (d + 2) 59 0 [.ref r, .long p, ax_dm, .int (nI cs), ax_dm] [] n (hx S M N) Q = Q (some (.long (mixA M r wi cs m 0 p))) n (hx S M N) := by
  simp only [s59_0, s59_1]
  exact l59 hr hm hmo hcs m 0 p (by omega)
end Rows
