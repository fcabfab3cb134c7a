/-! ===== the class's court: what it reads ===== -/
theorem h22 : (22, 8, 5) ∈ rwt := by decide
theorem h24 : (24, 5, 5) ∈ rwt := by decide
theorem h26 : (26, 9, 4) ∈ rwt := by decide
theorem h28 : (28, 8, 1) ∈ rwt := by decide
theorem h30 : (30, 6, 11) ∈ rwt := by decide
theorem tn_nI {k : Nat} (h : k < 2 ^ 31) : tn (nI k) = k := nI_clamp h
theorem nI_m1 {j : Nat} (h : j < 2 ^ 31) : ¬ nI j = -1 := by
  intro e
  have h1 := congrArg Int32.toInt e
  rw [nI_toInt h] at h1
  have h2 : (-1 : Int32).toInt = -1 := by decide
  omega
theorem lsI_m1 {l : Option Nat} (h : ∀ j, l = some j → j < 2 ^ 31) : (lsI l = -1) ↔ l = none := by
  cases l with
  | none => exact ⟨fun _ => rfl, fun _ => rfl⟩
  | some j => exact ⟨fun e => absurd e (nI_m1 (h j rfl)), fun e => by cases e⟩
section Court
variable {d n : Nat} {h : ax_H} {Q : Option Value → Nat → ax_H → Prop} {S : ax_S} {M : ax_M} {N : ax_L} {A : ax_A0}
theorem rc_nd (hC : RC M 21 A) (hW : WF A) : M 22 3 = nI (ndA A) ∧ ndA A ≤ 8 := ⟨hC.1.trans hW.1.1, hW.1.2⟩
theorem rc_nc (hC : RC M 21 A) (hW : WF A) : M 26 3 = nI (ncA A) ∧ ncA A ≤ 8 := ⟨hC.2.2.1.trans hW.2.2.1.1, hW.2.2.1.2⟩
theorem rc_nm (hC : RC M 21 A) (hW : WF A) : M 28 3 = nI (nmA A) ∧ nmA A ≤ 8 := ⟨hC.2.2.2.1.trans hW.2.2.2.1.1, hW.2.2.2.1.2⟩
theorem rc_nr (hC : RC M 21 A) (hW : WF A) : M 30 3 = nI (nrA A) ∧ nrA A ≤ 6 := ⟨hC.2.2.2.2.1.trans hW.2.2.2.2.1.1, hW.2.2.2.2.1.2⟩
theorem rc_hu (hC : RC M 21 A) (hW : WF A) : M 21 5 = nI (huA A) ∧ huA A ≤ 9 := ⟨hC.2.2.2.2.2.1.trans hW.2.1.1, hW.2.1.2⟩
theorem rc_le (hC : RC M 21 A) : M 21 6 = iI (leA A) := hC.2.2.2.2.2.2.1.trans (iI_to _).symm
theorem cap_of {r k mo : Nat} (hk : M r 3 = nI k) (h : k ≤ mo) (h3 : k < 2 ^ 31) : tn (M r 3) ≤ mo := by rw [hk, tn_nI h3]; exact h
theorem cap22 (hC : RC M 21 A) (hW : WF A) : tn (M 22 3) ≤ 8 := cap_of (rc_nd hC hW).1 (rc_nd hC hW).2 (by have := (rc_nd hC hW).2; omega)
theorem cap24 (hC : RC M 21 A) : tn (M 24 3) ≤ 5 := cap_of hC.2.1 (by omega) (by omega)
theorem cap26 (hC : RC M 21 A) (hW : WF A) : tn (M 26 3) ≤ 9 := cap_of (rc_nc hC hW).1 (by have := (rc_nc hC hW).2; omega) (by have := (rc_nc hC hW).2; omega)
theorem cap28 (hC : RC M 21 A) (hW : WF A) : tn (M 28 3) ≤ 8 := cap_of (rc_nm hC hW).1 (rc_nm hC hW).2 (by have := (rc_nm hC hW).2; omega)
theorem cap30 (hC : RC M 21 A) (hW : WF A) : tn (M 30 3) ≤ 6 := cap_of (rc_nr hC hW).1 (rc_nr hC hW).2 (by have := (rc_nr hC hW).2; omega)
theorem rd_dish (hC : RC M 21 A) (hW : WF A) {k w : Nat} (hk : k < ndA A) (hw : w < 5) : rcell M 22 5 (nI k) (nI w) = A (6 + 5 * k + w) := by
  have h8 := (rc_nd hC hW).2
  rw [rcell_in (rc_nd hC hW).1 (by omega) hk (by omega) hw, show k * 5 + w = 5 * k + w by omega]
  show M (21 + 2) _ = _
  rw [hC.2.2.2.2.2.2.2.1 (5 * k + w) (by omega), Nat.add_assoc]
theorem rd_kind (hC : RC M 21 A) (hW : WF A) {k : Nat} (hk : k < ndA A) : rcell M 22 5 (nI k) (nI 0) = nI (kdA A k) := (rd_dish hC hW hk (by omega)).trans (hW.2.2.2.2.2.2.1 k hk).1.1
theorem rd_taste (hC : RC M 21 A) (hW : WF A) {k : Nat} (hk : k < ndA A) : rcell M 22 5 (nI k) (nI 1) = nI (taA A k) := (rd_dish hC hW hk (by omega)).trans (by rw [show 6 + 5 * k + 1 = 7 + 5 * k by omega]; exact (hW.2.2.2.2.2.2.1 k hk).2.1.1)
theorem rd_force (hC : RC M 21 A) (hW : WF A) {k : Nat} (hk : k < ndA A) : rcell M 22 5 (nI k) (nI 2) = nI (foA A k) := (rd_dish hC hW hk (by omega)).trans (by rw [show 6 + 5 * k + 2 = 8 + 5 * k by omega]; exact (hW.2.2.2.2.2.2.1 k hk).2.2.1.1)
theorem rd_butter (hC : RC M 21 A) (hW : WF A) {k : Nat} (hk : k < ndA A) : rcell M 22 5 (nI k) (nI 3) = nI (buA A k) := (rd_dish hC hW hk (by omega)).trans (by rw [show 6 + 5 * k + 3 = 9 + 5 * k by omega]; exact (hW.2.2.2.2.2.2.1 k hk).2.2.2.1.1)
theorem rd_cook (hC : RC M 21 A) (hW : WF A) {k : Nat} (hk : k < ndA A) : rcell M 22 5 (nI k) (nI 4) = nI (coA A k) := (rd_dish hC hW hk (by omega)).trans (by rw [show 6 + 5 * k + 4 = 10 + 5 * k by omega]; exact (hW.2.2.2.2.2.2.1 k hk).2.2.2.2.1)
theorem rd_book (hC : RC M 21 A) {a b : Nat} (ha : a < 5) (hb : b < 5) : rcell M 24 5 (nI a) (nI b) = iI (bkA A a b) := by
  rw [rcell_in hC.2.1 (by omega) ha (by omega) hb, show a * 5 + b = 5 * a + b by omega]
  show M (21 + 4) _ = _
  rw [hC.2.2.2.2.2.2.2.2.1 (5 * a + b) (by omega), ← Nat.add_assoc]
  exact (iI_to _).symm
theorem rd_course (hC : RC M 21 A) (hW : WF A) {i w : Nat} (hi : i < ncA A) (hw : w < 4) : rcell M 26 4 (nI i) (nI w) = A (71 + 4 * i + w) := by
  have h8 := (rc_nc hC hW).2
  rw [rcell_in (rc_nc hC hW).1 (by omega) hi (by omega) hw, show i * 4 + w = 4 * i + w by omega]
  show M (21 + 6) _ = _
  rw [hC.2.2.2.2.2.2.2.2.2.1 (4 * i + w) (by omega), Nat.add_assoc]
theorem rd_cdish (hC : RC M 21 A) (hW : WF A) {i : Nat} (hi : i < ncA A) : rcell M 26 4 (nI i) (nI 0) = nI (cdA A i) := (rd_course hC hW hi (by omega)).trans (hW.2.2.2.2.2.2.2.2.1 i hi).1.1
theorem rd_menu (hC : RC M 21 A) (hW : WF A) {i : Nat} (hi : i < nmA A) : rcell M 28 1 (nI i) (nI 0) = nI (mdA A i) := by
  have h8 := (rc_nm hC hW).2
  rw [rcell_in (rc_nm hC hW).1 (by omega) hi (by omega) (by omega), show i * 1 + 0 = i by omega]
  show M (21 + 8) _ = _
  rw [hC.2.2.2.2.2.2.2.2.2.2.1 i hi]
  exact (hW.2.2.2.2.2.2.2.2.2.2.1 i hi).1
theorem c3 (hC : RC M 21 A) (hW : WF A) {x : Int32} : ax_W (d + 1) 3 0 [.ref 21, .int x] [] n (hx S M N) Q = Q (some (.int (bI (decide (nI 0 ≤ x ∧ x ≤ nI (ndA A) - nI 1))))) n (hx S M N) := by
  simp only [↓s3_0, ↓s3_1, ↓s3_2, ↓s3_3, ↓s3_6, ↓s3_9, ↓s3_10, ↓s3_11, ↓s3_14, jc_21, gf_21_0, gf_21_1, gf_21_2, gf_21_3, gf_21_4, gf_21_5, ok_21_5, gf_21_6, ok_21_6, jc_22, gf_22_0, gf_22_1, gf_22_2, gf_22_3, ok_22_3, c53 h22, c121, (rc_nd hC hW).1, ct_s, ct_n, ↓bI_01, bI_eq0, bI_eq1, nI_10, nI_01, dec_f, dec_t, if_n, eq_self, true_or, or_true, if_true, if_false, reduceIte]
theorem c7 (hC : RC M 21 A) (hW : WF A) {k : Nat} (hk : k < 1000) : ax_W d 7 0 [.ref 21, .int (nI k)] [] n (hx S M N) Q = Q (some (.int (nI (huA A - k)))) n (hx S M N) := by
  simp only [↓s7_0, ↓s7_1, ↓s7_4, ↓s7_5, ↓s7_8, ↓s7_9, ↓s7_12, ↓s7_13, ↓s7_14, ↓s7_17, ↓s7_18, jc_21, gf_21_0, gf_21_1, gf_21_2, gf_21_3, gf_21_4, gf_21_5, ok_21_5, gf_21_6, ok_21_6, (rc_hu hC hW).1, ct_s, ct_n, ↓bI_01, bI_eq0, bI_eq1, nI_10, nI_01, dec_f, dec_t, if_n, eq_self, true_or, or_true, if_true, if_false, reduceIte]
  have h9 := (rc_hu hC hW).2
  by_cases h1 : huA A ≤ k
  · rw [if_pos (nI_le h1 (by omega)), show huA A - k = 0 by omega]
  · rw [if_neg (nI_ge (a := k) (b := huA A) (by omega) (by omega)), pk_sub (by omega)]
set_option maxHeartbeats 1000000 in
theorem c127 {k f m hg : Nat} {a b : Bool} {x y : Int32} (hk : k ≤ 5) (hf : f < 1000) (hm : m < 1000) (hg3 : hg < 1000) (hx : x = bI a) (hy : y = bI b) : ax_W d 127 0 [.int (nI k), .int (nI f), .int (nI m), .int (nI hg), .int x, .int y, ax_dm, ax_dm] [] n h Q = Q (some (.int (nI (pwN k f m hg a b)))) n h := by
  subst hx; subst hy
  unfold pwN
  rcases (show k = 0 ∨ k = 1 ∨ k = 2 ∨ k = 3 ∨ k = 4 ∨ k = 5 by omega) with rfl | rfl | rfl | rfl | rfl | rfl
  · simp only [↓s127_0, ↓s127_2, ↓s127_5, ↓s127_6, ↓s127_7, ↓s127_8, ↓s127_11, ↓s127_12, ↓s127_14, ↓s127_15, ↓s127_16, ↓s127_17, ↓s127_19, ↓s127_20_0, ↓s127_20_1, ↓s127_20_2, ↓s127_20_3, ↓s127_20_4, ↓s127_20_5, ↓s127_60, ↓s127_62, ↓s127_63, ↓s127_65, ↓s127_66, ↓s127_67, ↓s127_68, ↓s127_69, ↓s127_70, ↓s127_72, ↓s127_75, ↓s127_77, ↓s127_78, ↓s127_79, ↓s127_82, ↓s127_84, ↓s127_85, ↓s127_86, ↓s127_87, ↓s127_90, ↓s127_92, ↓s127_95, ↓s127_96, ↓s127_97, ↓s127_98, ct_s, ct_n, ↓bI_01, bI_eq0, bI_eq1, nI_10, nI_01, dec_f, dec_t, if_n, eq_self, true_or, or_true, if_true, if_false, reduceIte]
    cases a <;> simp
  · simp only [↓s127_0, ↓s127_2, ↓s127_5, ↓s127_6, ↓s127_7, ↓s127_8, ↓s127_11, ↓s127_12, ↓s127_14, ↓s127_15, ↓s127_16, ↓s127_17, ↓s127_19, ↓s127_20_0, ↓s127_20_1, ↓s127_20_2, ↓s127_20_3, ↓s127_20_4, ↓s127_20_5, ↓s127_60, ↓s127_62, ↓s127_63, ↓s127_65, ↓s127_66, ↓s127_67, ↓s127_68, ↓s127_69, ↓s127_70, ↓s127_72, ↓s127_75, ↓s127_77, ↓s127_78, ↓s127_79, ↓s127_82, ↓s127_84, ↓s127_85, ↓s127_86, ↓s127_87, ↓s127_90, ↓s127_92, ↓s127_95, ↓s127_96, ↓s127_97, ↓s127_98, ct_s, ct_n, ↓bI_01, bI_eq0, bI_eq1, nI_10, nI_01, dec_f, dec_t, if_n, eq_self, true_or, or_true, if_true, if_false, reduceIte]
    cases a <;> simp [pk_mul]
  · simp only [↓s127_0, ↓s127_2, ↓s127_5, ↓s127_6, ↓s127_7, ↓s127_8, ↓s127_11, ↓s127_12, ↓s127_14, ↓s127_15, ↓s127_16, ↓s127_17, ↓s127_19, ↓s127_20_0, ↓s127_20_1, ↓s127_20_2, ↓s127_20_3, ↓s127_20_4, ↓s127_20_5, ↓s127_60, ↓s127_62, ↓s127_63, ↓s127_65, ↓s127_66, ↓s127_67, ↓s127_68, ↓s127_69, ↓s127_70, ↓s127_72, ↓s127_75, ↓s127_77, ↓s127_78, ↓s127_79, ↓s127_82, ↓s127_84, ↓s127_85, ↓s127_86, ↓s127_87, ↓s127_90, ↓s127_92, ↓s127_95, ↓s127_96, ↓s127_97, ↓s127_98, ct_s, ct_n, ↓bI_01, bI_eq0, bI_eq1, nI_10, nI_01, dec_f, dec_t, if_n, eq_self, true_or, or_true, if_true, if_false, reduceIte]
    cases a <;> simp [nI_add]
  · simp only [↓s127_0, ↓s127_2, ↓s127_5, ↓s127_6, ↓s127_7, ↓s127_8, ↓s127_11, ↓s127_12, ↓s127_14, ↓s127_15, ↓s127_16, ↓s127_17, ↓s127_19, ↓s127_20_0, ↓s127_20_1, ↓s127_20_2, ↓s127_20_3, ↓s127_20_4, ↓s127_20_5, ↓s127_60, ↓s127_62, ↓s127_63, ↓s127_65, ↓s127_66, ↓s127_67, ↓s127_68, ↓s127_69, ↓s127_70, ↓s127_72, ↓s127_75, ↓s127_77, ↓s127_78, ↓s127_79, ↓s127_82, ↓s127_84, ↓s127_85, ↓s127_86, ↓s127_87, ↓s127_90, ↓s127_92, ↓s127_95, ↓s127_96, ↓s127_97, ↓s127_98, ct_s, ct_n, ↓bI_01, bI_eq0, bI_eq1, nI_10, nI_01, dec_f, dec_t, if_n, eq_self, true_or, or_true, if_true, if_false, reduceIte]
    cases a <;> simp [nI_add]
  · simp only [↓s127_0, ↓s127_2, ↓s127_5, ↓s127_6, ↓s127_7, ↓s127_8, ↓s127_11, ↓s127_12, ↓s127_14, ↓s127_15, ↓s127_16, ↓s127_17, ↓s127_19, ↓s127_20_0, ↓s127_20_1, ↓s127_20_2, ↓s127_20_3, ↓s127_20_4, ↓s127_20_5, ↓s127_60, ↓s127_62, ↓s127_63, ↓s127_65, ↓s127_66, ↓s127_67, ↓s127_68, ↓s127_69, ↓s127_70, ↓s127_72, ↓s127_75, ↓s127_77, ↓s127_78, ↓s127_79, ↓s127_82, ↓s127_84, ↓s127_85, ↓s127_86, ↓s127_87, ↓s127_90, ↓s127_92, ↓s127_95, ↓s127_96, ↓s127_97, ↓s127_98, ct_s, ct_n, ↓bI_01, bI_eq0, bI_eq1, nI_10, nI_01, dec_f, dec_t, if_n, eq_self, true_or, or_true, if_true, if_false, reduceIte]
    cases a <;> cases b <;> simp [nI_add, pk_mul]
  · simp only [↓s127_0, ↓s127_2, ↓s127_5, ↓s127_6, ↓s127_7, ↓s127_8, ↓s127_11, ↓s127_12, ↓s127_14, ↓s127_15, ↓s127_16, ↓s127_17, ↓s127_19, ↓s127_20_0, ↓s127_20_1, ↓s127_20_2, ↓s127_20_3, ↓s127_20_4, ↓s127_20_5, ↓s127_60, ↓s127_62, ↓s127_63, ↓s127_65, ↓s127_66, ↓s127_67, ↓s127_68, ↓s127_69, ↓s127_70, ↓s127_72, ↓s127_75, ↓s127_77, ↓s127_78, ↓s127_79, ↓s127_82, ↓s127_84, ↓s127_85, ↓s127_86, ↓s127_87, ↓s127_90, ↓s127_92, ↓s127_95, ↓s127_96, ↓s127_97, ↓s127_98, ct_s, ct_n, ↓bI_01, bI_eq0, bI_eq1, nI_10, nI_01, dec_f, dec_t, if_n, eq_self, true_or, or_true, if_true, if_false, reduceIte]
    by_cases h4 : m < 4
    · rw [if_pos (nI_lt h4 (by omega))]
      cases a <;> simp [show ¬ 4 ≤ m by omega]
    · rw [if_neg (nI_nlt (a := m) (b := 4) (by omega) (by omega))]
      cases a <;> simp [show 4 ≤ m by omega, nI_add]
theorem toNat_mx (p : Nat) (b : Int) (hp : p < 1000) (hb1 : -3 ≤ b) (hb2 : b ≤ 3) : mxI (nI 0) (nI p + iI b) = nI ((p : Int) + b).toNat := by
  rw [iI_nat p, iI_add]
  unfold mxI
  have e0 : nI 0 = iI 0 := by decide
  have l1 := iI_lt (a := 0) (b := (p : Int) + b) (by omega) (by omega) (by omega) (by omega)
  rw [e0]
  by_cases c1 : iI 0 < iI ((p : Int) + b)
  · rw [if_pos c1, iI_nat]
    have := l1.mp c1
    rw [Int.toNat_of_nonneg (by omega)]
  · rw [if_neg c1]
    have : ¬ 0 < (p : Int) + b := fun q => c1 (l1.mpr q)
    rw [show ((p : Int) + b).toNat = 0 by omega]
    exact e0.symm
set_option maxHeartbeats 2000000 in
theorem c10 (hC : RC M 21 A) (hW : WF A) {k sv : Nat} {l : Option Nat} (hk : k < ndA A) (hs : sv < 256) (hl : ∀ j, l = some j → j < ndA A) : ax_W (d + 2) 10 0 [.ref 21, .int (nI k), .int (nI sv), .int (lsI l), ax_dm, ax_dm, ax_dm, ax_dm, ax_dm, ax_dm, ax_dm, ax_dm] [] n (hx S M N) Q = Q (some (.int (nI (dsN A k (pop sv) l)))) n (hx S M N) := by
  have p8 := bt_pop8 sv
  have h9 := (rc_hu hC hW).2
  obtain ⟨⟨-, k5⟩, ⟨-, t4⟩, ⟨-, -, f9⟩, -, -⟩ := hW.2.2.2.2.2.2.1 k hk
  simp only [↓s10_0, ↓s10_1, ↓s10_4, ↓s10_6, ↓s10_7, ↓s10_10, ↓s10_11, ↓s10_12, ↓s10_15, ↓s10_17, ↓s10_18, ↓s10_21, ↓s10_22, ↓s10_23, ↓s10_26, ↓s10_28, ↓s10_29, ↓s10_31, ↓s10_34, ↓s10_36, ↓s10_37, ↓s10_38, jc_21, gf_21_0, gf_21_1, gf_21_2, gf_21_3, gf_21_4, gf_21_5, ok_21_5, gf_21_6, ok_21_6, jc_22, gf_22_0, gf_22_1, gf_22_2, gf_22_3, ok_22_3, jc_24, gf_24_0, gf_24_1, gf_24_2, gf_24_3, ok_24_3, ↓c218 hs, ↓c54 h22 (cap22 hC hW), ↓c7 hC hW (show pop sv < 1000 by omega), rd_kind hC hW hk, rd_force hC hW hk, ct_s, ct_n, ↓bI_01, bI_eq0, bI_eq1, nI_10, nI_01, dec_f, dec_t, if_n, eq_self, true_or, or_true, if_true, if_false, reduceIte]
  cases l with
  | none =>
    rw [show lsI none = -1 from rfl, if_pos rfl]
    simp only [↓s10_41, ↓s10_43, ↓s10_45, ↓s10_47, ↓s10_49, ↓s10_50, ↓s10_51, ↓s10_54]
    refine (c127 (f := foA A k) (m := pop sv) (hg := huA A - pop sv) (a := false) (b := false) k5 (by omega) (by omega) (by omega) rfl rfl).trans ?_
    simp only [↓s10_41, ↓s10_43, ↓s10_45, ↓s10_47, ↓s10_49, ↓s10_50, ↓s10_51, ↓s10_54, ct_s, ct_n, ↓bI_01, bI_eq0, bI_eq1, nI_10, nI_01, dec_f, dec_t, if_n, eq_self, true_or, or_true, if_true, if_false, reduceIte]
    rfl
  | some j =>
    have hj := hl j rfl
    obtain ⟨⟨-, jk5⟩, ⟨-, jt4⟩, ⟨-, -, jf9⟩, -, -⟩ := hW.2.2.2.2.2.2.1 j hj
    have hb := hW.2.2.2.2.2.2.2.1 (taA A j) (taA A k) (by omega) (by omega)
    have n8 := (rc_nd hC hW).2
    have pl := pwN_le (k := kdA A k) (a := decide (taA A k = taA A j)) (b := decide (¬ coA A k = coA A j)) f9 p8 (show huA A - pop sv ≤ 9 by omega)
    obtain ⟨-, -, -, -, -, co2⟩ := hW.2.2.2.2.2.2.1 k hk
    obtain ⟨-, -, -, -, -, jco2⟩ := hW.2.2.2.2.2.2.1 j hj
    rw [show lsI (some j) = nI j from rfl, if_neg (nI_m1 (j := j) (by omega))]
    simp only [↓s10_55, ↓s10_56, ↓s10_59, ↓s10_60, ↓s10_61, ↓s10_64, ↓s10_66, ↓s10_67, ↓s10_70, ↓s10_71, ↓s10_72, ↓s10_75, ↓s10_77, ↓s10_78, ↓s10_81, ↓s10_82, ↓s10_83, ↓s10_86, ↓s10_87, ↓s10_90, ↓s10_91, ↓s10_92, ↓s10_95, jc_21, gf_21_0, gf_21_1, gf_21_2, gf_21_3, gf_21_4, gf_21_5, ok_21_5, gf_21_6, ok_21_6, jc_22, gf_22_0, gf_22_1, gf_22_2, gf_22_3, ok_22_3, ↓c54 h22 (cap22 hC hW), rd_taste hC hW hk, rd_taste hC hW hj, rd_cook hC hW hk, rd_cook hC hW hj, ct_s, ct_n, ↓bI_01, bI_eq0, bI_eq1, nI_10, nI_01, dec_f, dec_t, if_n, eq_self, true_or, or_true, if_true, if_false, reduceIte]
    have fin : ∀ (x y : Int32), x = bI (decide (taA A k = taA A j)) → y = bI (decide (¬ coA A k = coA A j)) → ax_W (d + 1 + 1) 10 127 [Value.ref 21, Value.int (nI k), Value.int (nI sv), Value.int (nI j), Value.int (nI (pop sv)), Value.int (nI (kdA A k)), Value.int (nI (foA A k)), Value.int (nI (huA A - pop sv)), Value.int (nI (taA A k)), Value.int (nI (taA A j)), .int y, ax_dm] [.int y, .int x, Value.int (nI (huA A - pop sv)), Value.int (nI (pop sv)), Value.int (nI (foA A k)), Value.int (nI (kdA A k))] n (hx S M N) Q = Q (some (Value.int (nI (dsN A k (pop sv) (some j))))) n (hx S M N) := by
      intro x y ex ey
      simp only [↓s10_127]
      rw [c127 (f := foA A k) (m := pop sv) (hg := huA A - pop sv) k5 (by omega) (by omega) (by omega) ex ey]
      simp only [↓s10_130, ↓s10_132, ↓s10_133, ↓s10_135, ↓s10_136, ↓s10_139, ↓s10_141, ↓s10_143, ↓s10_146, ↓s10_147, ↓s10_150, jc_21, gf_21_0, gf_21_1, gf_21_2, gf_21_3, gf_21_4, gf_21_5, ok_21_5, gf_21_6, ok_21_6, jc_24, gf_24_0, gf_24_1, gf_24_2, gf_24_3, ok_24_3, ↓c54 h24 (cap24 hC), rd_book hC (show taA A j < 5 by omega) (show taA A k < 5 by omega), toNat_mx _ _ (show pwN (kdA A k) (foA A k) (pop sv) (huA A - pop sv) (decide (taA A k = taA A j)) (decide (¬ coA A k = coA A j)) < 1000 by omega) hb.1 hb.2, ct_s, ct_n, ↓bI_01, bI_eq0, bI_eq1, nI_10, nI_01, dec_f, dec_t, if_n, eq_self, true_or, or_true, if_true, if_false, reduceIte]
      rfl
    by_cases e1 : coA A k = coA A j
    · rw [if_pos (by rw [e1])]
      simp only [↓s10_98, ↓s10_99, ↓s10_102, ↓s10_103, ↓s10_105, ↓s10_107, ↓s10_109, ↓s10_111, ↓s10_113, ↓s10_115, ↓s10_117]
      by_cases e2 : taA A k = taA A j
      · rw [if_pos (by rw [e2])]
        simp only [↓s10_120, ↓s10_121, ↓s10_124, ↓s10_125]
        exact fin _ _ (bI_t e2).symm (bI_f (fun q => q e1)).symm
      · rw [if_neg (fun q => e2 ((nI_eq (by omega) (by omega)).mp q))]
        simp only [↓s10_120, ↓s10_121, ↓s10_124, ↓s10_125]
        exact fin _ _ (bI_f e2).symm (bI_f (fun q => q e1)).symm
    · rw [if_neg (fun q => e1 ((nI_eq (by omega) (by omega)).mp q))]
      simp only [↓s10_98, ↓s10_99, ↓s10_102, ↓s10_103, ↓s10_105, ↓s10_107, ↓s10_109, ↓s10_111, ↓s10_113, ↓s10_115, ↓s10_117]
      by_cases e2 : taA A k = taA A j
      · rw [if_pos (by rw [e2])]
        simp only [↓s10_120, ↓s10_121, ↓s10_124, ↓s10_125]
        exact fin _ _ (bI_t e2).symm (bI_t e1).symm
      · rw [if_neg (fun q => e2 ((nI_eq (by omega) (by omega)).mp q))]
        simp only [↓s10_120, ↓s10_121, ↓s10_124, ↓s10_125]
        exact fin _ _ (bI_f e2).symm (bI_t e1).symm
end Court
