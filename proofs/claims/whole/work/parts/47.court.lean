/-! ===== a court anew, images ===== -/
theorem ct_gf {S : ax_S} {M : ax_M} {N : ax_L} {c : Nat} (hc : c = 21 ∨ c = 32 ∨ c = 44 ∨ c = 56) : (gf (hx S M N) c 0 0 = some (.ref (c + 1)) ∧ gf (hx S M N) c 0 1 = some (.ref (c + 3)) ∧ gf (hx S M N) c 0 2 = some (.ref (c + 5)) ∧ gf (hx S M N) c 0 3 = some (.ref (c + 7)) ∧ gf (hx S M N) c 0 4 = some (.ref (c + 9)) ∧ gf (hx S M N) c 0 5 = some (.int (M c 5)) ∧ gf (hx S M N) c 0 6 = some (.int (M c 6))) ∧ isC (hx S M N) c 0 = true ∧ (okI c 0 5 = true ∧ okI c 0 6 = true) := by
  rcases hc with rfl | rfl | rfl | rfl <;> exact ⟨⟨rfl, rfl, rfl, rfl, rfl, rfl, rfl⟩, rfl, by decide +kernel, by decide +kernel⟩
theorem ct_rw {c : Nat} (hc : c = 21 ∨ c = 32 ∨ c = 44 ∨ c = 56) : (c + 1, 8, 5) ∈ rwt ∧ (c + 3, 5, 5) ∈ rwt ∧ (c + 5, 9, 4) ∈ rwt ∧ (c + 7, 8, 1) ∈ rwt ∧ (c + 9, 6, 11) ∈ rwt := by
  rcases hc with rfl | rfl | rfl | rfl <;> exact ⟨by decide, by decide, by decide, by decide, by decide⟩
theorem rw_is {S : ax_S} {M : ax_M} {N : ax_L} {r mo wi : Nat} (h : (r, mo, wi) ∈ rwt) : isC (hx S M N) r 6 = true := (rwt_gf h).2.2.2.2.1
def stM (M : ax_M) (c i : Nat) : ax_M := fun b j => if b = c + 3 ∧ j = 3 then nI i else if b = c + 4 ∧ j < 5 * i then nI 0 else M b j
theorem stM_s {M : ax_M} {c i : Nat} : zr (ux (stM M c i) (c + 3) 3 (nI (i + 1))) (c + 3 + 1) (i * 5) 5 = stM M c (i + 1) := by
  funext b j
  show (if b = c + 3 + 1 ∧ i * 5 ≤ j ∧ j < i * 5 + 5 then nI 0 else if b = c + 3 ∧ j = 3 then nI (i + 1) else if b = c + 3 ∧ j = 3 then nI i else if b = c + 4 ∧ j < 5 * i then nI 0 else M b j) = (if b = c + 3 ∧ j = 3 then nI (i + 1) else if b = c + 4 ∧ j < 5 * (i + 1) then nI 0 else M b j)
  by_cases b4 : b = c + 4
  · by_cases h1 : i * 5 ≤ j ∧ j < i * 5 + 5
    · rw [if_pos ⟨by omega, h1⟩, if_neg (by omega), if_pos ⟨b4, by omega⟩]
    · rw [if_neg (by omega), if_neg (by omega), if_neg (by omega)]
      by_cases h2 : j < 5 * i
      · rw [if_pos ⟨b4, h2⟩, if_neg (by omega), if_pos ⟨b4, by omega⟩]
      · rw [if_neg (by omega), if_neg (by omega), if_neg (by omega)]
  · rw [if_neg (by omega)]
    by_cases h3 : b = c + 3 ∧ j = 3
    · rw [if_pos h3, if_pos h3]
    · rw [if_neg h3, if_neg h3, if_neg h3, if_neg (by omega), if_neg (by omega)]
theorem stM_0 {M : ax_M} {c : Nat} : ux M (c + 3) 3 (nI 0) = stM M c 0 := by
  funext b j
  unfold ux stM
  by_cases h3 : b = c + 3 ∧ j = 3
  · rw [if_pos h3, if_pos h3]
  · rw [if_neg h3, if_neg h3, if_neg (by omega)]
theorem stM_3 {M : ax_M} {c i : Nat} : stM M c i (c + 3) 3 = nI i := by unfold stM; rw [if_pos ⟨rfl, rfl⟩]
theorem stM_o {M : ax_M} {c i b : Nat} (h3 : b ≠ c + 3) (h4 : b ≠ c + 4) : stM M c i b = M b := by
  funext j
  unfold stM
  rw [if_neg (fun q => h3 q.1), if_neg (fun q => h4 q.1)]
def begA (hu : Int32) : ax_A0 := fun j => if j = 1 then hu else nI 0
theorem l1 {M : ax_M} {N : ax_L} {d n : Nat} {Q : Option Value → Nat → ax_H → Prop} {S : ax_S} {hu : Int32} {c : Nat} (hc : c = 21 ∨ c = 32 ∨ c = 44 ∨ c = 56) : ∀ (k i : Nat), i + k = 5 → ax_W (d + 2) 1 42 [.ref c, .int hu, .int (nI i)] [] n (hx S (stM M c i) N) Q = ax_W (d + 2) 1 61 [.ref c, .int hu, .int (nI 5)] [] n (hx S (stM M c 5) N) Q := by
  obtain ⟨r1, r2, r3, r4, r5⟩ := ct_rw hc
  intro k
  induction k with
  | zero =>
    intro i hi
    simp only [↓s1_42, ↓s1_43, ↓s1_44]
    rw [if_pos (nI_le (a := 5) (b := i) (by omega) (by omega)), show i = 5 by omega]
  | succ k ih =>
    intro i hi
    obtain ⟨⟨g0, g1, g2, g3, g4, g5, g6⟩, g7, g8⟩ := ct_gf (S := S) (M := stM M c i) (N := N) hc
    simp only [↓s1_42, ↓s1_43, ↓s1_44]
    rw [if_neg (nI_ge (a := i) (b := 5) (by omega) (by omega))]
    simp only [↓s1_47, ↓s1_48, g1, s1_51 (rw_is r2), ↓c56 r2 (stM_3 (M := M) (i := i)) (show i < 5 by omega), stM_s, ct_s, ↓s1_54, ↓s1_55, ↓s1_58, nI_add]
    exact ih (i + 1) (by omega)
theorem c1 {M : ax_M} {hu : Int32} {c : Nat} (hc : c = 21 ∨ c = 32 ∨ c = 44 ∨ c = 56) : ∃ M2 : ax_M, (∀ (N : ax_L) (S : ax_S) (d n : Nat) (Q : Option Value → Nat → ax_H → Prop), ax_W (d + 2) 1 0 [.ref c, .int hu, ax_dm] [] n (hx S M N) Q = Q none n (hx S M2 N)) ∧ (∀ A : ax_A0, (∀ j, j < 181 → A j = begA hu j) → RC M2 c A) ∧ ∀ a, a < c ∨ c + 10 < a → M2 a = M a := by
  obtain ⟨r1, r2, r3, r4, r5⟩ := ct_rw hc
  generalize hm : ux (ux (ux (ux M (c + 1) 3 (nI 0)) (c + 5) 3 (nI 0)) (c + 7) 3 (nI 0)) (c + 9) 3 (nI 0) = m
  refine ⟨ux (ux (stM m c 5) c 5 hu) c 6 (nI 0), fun N S d n Q => ?_, fun A hA => ?_, fun a ha => ?_⟩
  · obtain ⟨⟨g0, g1, g2, g3, g4, g5, g6⟩, g7, g8, g9⟩ := ct_gf (S := S) (M := M) (N := N) hc
    simp only [↓s1_0, ↓s1_1, ↓s1_4, g0, s1_5 (rw_is r1), ↓c57z r1, ct_n]
    obtain ⟨⟨-, -, q2, -⟩, -⟩ := ct_gf (S := S) (M := ux M (c + 1) 3 (nI 0)) (N := N) hc
    simp only [↓s1_8, ↓s1_9, ↓s1_12, q2, s1_13 (rw_is r3), ↓c57z r3, ct_n]
    obtain ⟨⟨-, -, -, q3, -⟩, -⟩ := ct_gf (S := S) (M := ux (ux M (c + 1) 3 (nI 0)) (c + 5) 3 (nI 0)) (N := N) hc
    simp only [↓s1_16, ↓s1_17, ↓s1_20, q3, s1_21 (rw_is r4), ↓c57z r4, ct_n]
    obtain ⟨⟨-, -, -, -, q4, -⟩, -⟩ := ct_gf (S := S) (M := ux (ux (ux M (c + 1) 3 (nI 0)) (c + 5) 3 (nI 0)) (c + 7) 3 (nI 0)) (N := N) hc
    simp only [↓s1_24, ↓s1_25, ↓s1_28, q4, s1_29 (rw_is r5), ↓c57z r5, ct_n, hm]
    obtain ⟨⟨-, q1, -⟩, -⟩ := ct_gf (S := S) (M := m) (N := N) hc
    simp only [↓s1_32, ↓s1_33, ↓s1_36, q1, s1_37 (rw_is r2), ↓c57z r2, ct_n, stM_0, ↓s1_40, ↓s1_41]
    rw [l1 hc 5 0 (by omega)]
    simp only [s1_61, s1_62, s1_63 g8, s1_66, s1_67, s1_68 g9, s1_71]
  · have o : ∀ a, a ≠ c → ux (ux (stM m c 5) c 5 hu) c 6 (nI 0) a = stM m c 5 a := fun a h => by rw [ux_f h, ux_f h]
    have z : ∀ j, j < 181 → j ≠ 1 → A j = nI 0 := fun j h1 h2 => by rw [hA j h1]; unfold begA; rw [if_neg h2]
    have n0 : ndA A = 0 := by unfold ndA; rw [z 0 (by omega) (by omega)]; rfl
    have n3 : ncA A = 0 := by unfold ncA; rw [z 3 (by omega) (by omega)]; rfl
    have n4 : nmA A = 0 := by unfold nmA; rw [z 4 (by omega) (by omega)]; rfl
    have n5 : nrA A = 0 := by unfold nrA; rw [z 5 (by omega) (by omega)]; rfl
    refine RC_mk ⟨?_, fun i hi => by omega⟩ ⟨?_, fun i hi => ?_⟩ ⟨?_, fun i hi => by omega⟩ ⟨?_, fun i hi => by omega⟩ ⟨?_, fun r w hr => by omega⟩ ⟨?_, ?_⟩
    · rw [o _ (by omega), stM_o (by omega) (by omega), ← hm, ux_a (by omega), ux_a (by omega), ux_a (by omega), ux_s, z 0 (by omega) (by omega)]
    · rw [o _ (by omega), stM_3]
    · rw [o _ (by omega), z _ (by omega) (by omega)]
      unfold stM
      rw [if_neg (by omega), if_pos ⟨rfl, by omega⟩]
    · rw [o _ (by omega), stM_o (by omega) (by omega), ← hm, ux_a (by omega), ux_a (by omega), ux_s, z 3 (by omega) (by omega)]
    · rw [o _ (by omega), stM_o (by omega) (by omega), ← hm, ux_a (by omega), ux_s, z 4 (by omega) (by omega)]
    · rw [o _ (by omega), stM_o (by omega) (by omega), ← hm, ux_s, z 5 (by omega) (by omega)]
    · rw [ux_j (by omega), ux_s, hA 1 (by omega)]; rfl
    · rw [ux_s, z 2 (by omega) (by omega)]
  · rw [ux_f (by omega), ux_f (by omega), stM_o (by omega) (by omega), ← hm, ux_f (by omega), ux_f (by omega), ux_f (by omega), ux_f (by omega)]
/-- the first k places are 0 -/
def z0M (M : ax_M) (a k : Nat) : ax_M := fun b j => if b = a ∧ j < k then nI 0 else M b j
section CourtNew
variable {M : ax_M} {N : ax_L} {x y z : Int32} {A : ax_A0}
theorem l139 {d n : Nat} {Q : Option Value → Nat → ax_H → Prop} {S : ax_S} {hu : Int32} {a : Nat} (ha : okA a 181 = true) : ∀ (c i : Nat), i + c = 181 → ax_W d 139 2 [.ref a, .int hu, .int (nI i)] [] n (hx S (z0M M a i) N) Q = Q none n (hx S (ux (z0M M a 181) a 1 hu) N) := by
  intro c
  induction c with
  | zero =>
    intro i hi
    simp only [↓s139_2, ↓s139_3, ↓s139_6]
    rw [if_pos (nI_le (a := 181) (b := i) (by omega) (by omega)), show i = 181 by omega]
    simp only [↓s139_19, ↓s139_20, ↓s139_21, ↓s139_22, ↓s139_23, hx_saG ha (show 1 < 181 by decide)]
  | succ c ih =>
    intro i hi
    simp only [↓s139_2, ↓s139_3, ↓s139_6]
    rw [if_neg (nI_ge (a := i) (b := 181) (by omega) (by omega))]
    simp only [↓s139_9, ↓s139_10, ↓s139_11, ↓s139_12, ↓s139_13, ↓s139_16, hx_saG ha (show i < 181 by omega), nI_add]
    have e : ux (z0M M a i) a i (nI 0) = z0M M a (i + 1) := by
      funext b j
      show (if b = a ∧ j = i then nI 0 else if b = a ∧ j < i then nI 0 else M b j) = (if b = a ∧ j < i + 1 then nI 0 else M b j)
      by_cases h1 : b = a ∧ j = i
      · rw [if_pos h1, if_pos ⟨h1.1, by omega⟩]
      · rw [if_neg h1]
        by_cases h2 : b = a ∧ j < i
        · rw [if_pos h2, if_pos ⟨h2.1, by omega⟩]
        · rw [if_neg h2, if_neg (by omega)]
    rw [e]
    exact ih (i + 1) (by omega)
theorem c139 {d n : Nat} {Q : Option Value → Nat → ax_H → Prop} {S : ax_S} {hu : Int32} {a : Nat} (ha : okA a 181 = true) : ax_W d 139 0 [.ref a, .int hu, ax_dm] [] n (hx S M N) Q = Q none n (hx S (ux (z0M M a 181) a 1 hu) N) := by
  have e : z0M M a 0 = M := by funext b j; unfold z0M; rw [if_neg (by omega)]
  simp only [↓s139_0, ↓s139_1]
  have h1 := l139 (M := M) (N := N) (d := d) (n := n) (Q := Q) (S := S) (hu := hu) ha 181 0 (by omega)
  rw [e] at h1
  exact h1
theorem beg_at {a : Nat} {hu : Int32} : ∀ j, j < 181 → ux (z0M M a 181) a 1 hu a j = begA hu j := by
  intro j hj
  rw [uxS]
  unfold begA z0M
  by_cases h1 : j = 1
  · rw [if_pos h1, if_pos h1]
  · rw [if_neg h1, if_neg h1, if_pos ⟨rfl, hj⟩]
theorem beg_wf {k : Nat} (hk : k ≤ 9) (h : ∀ j, j < 181 → A j = begA (nI k) j) : WF A := by
  have z : ∀ j, j < 181 → j ≠ 1 → A j = nI 0 := fun j h1 h2 => by rw [h j h1]; unfold begA; rw [if_neg h2]
  have n0 : ndA A = 0 := by unfold ndA; rw [z 0 (by omega) (by omega)]; rfl
  have a1 : A 1 = nI k := by rw [h 1 (by omega)]; rfl
  have n1 : huA A = k := by unfold huA; rw [a1, tn_nI (by omega)]
  refine WF_mk ⟨⟨by rw [n0]; exact z 0 (by omega) (by omega), by omega⟩, ⟨by rw [n1]; exact a1, by omega⟩, fun d hd => by omega⟩ (fun a b ha hb => ?_) (WFc_0 (z 3 (by omega) (by omega)) ?_) (WFm_0 (z 4 (by omega) (by omega))) (WFr_0 (z 5 (by omega) (by omega)))
  · unfold bkA; rw [z _ (by omega) (by omega)]; decide
  · unfold leA; rw [z 2 (by omega) (by omega)]; decide
theorem p0 (hI : Inv M N) : RPi 81 145 [.ref 20, .int x, ax_dm] [.ref 84, .int x, ax_dm] M N := by
  by_cases hb : nI 0 ≤ x ∧ x ≤ nI 9
  · obtain ⟨k, k9, rfl⟩ := rng (by decide) hb
    obtain ⟨M1, q1, q2, q3⟩ := c1 (M := M) (hu := nI k) (c := 21) (Or.inl rfl)
    have hA : M1 85 = M 85 := q3 85 (by omega)
    refine ⟨M 85 0, M1, N, ux (z0M M1 85 181) 85 1 (nI k), N, fun S d n Q => ?_, fun S d n Q => ?_, ?_⟩
    · simp only [↓s81_0, ↓s81_1, ↓s81_2, ↓s81_4, ↓s81_7, jc_20, gf_20_0, gf_20_1, gf_20_2, gf_20_3, gf_20_4, gf_20_5, gf_20_6, gf_20_7, gf_20_8, gf_20_9, gf_20_10, gf_20_11, ok_20_11, gf_20_12, ok_20_12, gf_20_13, ok_20_13, gf_20_14, ok_20_14, gf_20_15, ok_20_15, jc_21, gf_21_0, gf_21_1, gf_21_2, gf_21_3, gf_21_4, gf_21_5, ok_21_5, gf_21_6, ok_21_6, ↓c121, ct_s, ct_n, ↓bI_01, bI_eq0, bI_eq1, nI_10, nI_01, dec_f, dec_t, if_n, eq_self, true_or, or_true, if_true, if_false, reduceIte]
      rw [if_pos hb]
      simp only [↓s81_19, ↓s81_20, ↓s81_23, ↓s81_26, ↓s81_29, ↓s81_30, ↓s81_31, ↓s81_34, ↓s81_35, ↓s81_38, ↓s81_39, jc_20, gf_20_0, gf_20_1, gf_20_2, gf_20_3, gf_20_4, gf_20_5, gf_20_6, gf_20_7, gf_20_8, gf_20_9, gf_20_10, gf_20_11, ok_20_11, gf_20_12, ok_20_12, gf_20_13, ok_20_13, gf_20_14, ok_20_14, gf_20_15, ok_20_15, jc_21, gf_21_0, gf_21_1, gf_21_2, gf_21_3, gf_21_4, gf_21_5, ok_21_5, gf_21_6, ok_21_6, jc_22, gf_22_0, gf_22_1, gf_22_2, gf_22_3, ok_22_3, ↓c53 h22, ↓q1, show M 22 3 = M 85 0 from hI.1.1, ct_s, ct_n, ↓bI_01, bI_eq0, bI_eq1, nI_10, nI_01, dec_f, dec_t, if_n, eq_self, true_or, or_true, if_true, if_false, reduceIte]
    · simp only [↓s145_0, ↓s145_1, ↓s145_2, ↓s145_3, ↓s145_6, ↓s145_9, jc_84, gf_84_0, gf_84_1, gf_84_2, gf_84_3, gf_84_4, ok_84_4, gf_84_5, ok_84_5, gf_84_6, ok_84_6, gf_84_7, ok_84_7, gf_84_8, ok_84_8, gf_84_9, ok_84_9, gf_84_10, gf_84_11, gf_84_12, gf_84_13, gf_84_14, gf_84_15, gf_84_16, gf_84_17, ok_84_17, gf_84_18, gf_84_19, ok_84_19, gf_84_20, ok_84_20, gf_84_21, gf_84_22, gf_84_23, gf_84_24, ok_84_24, gf_84_25, ok_84_25, gf_84_26, ok_84_26, gf_84_27, ok_84_27, gf_84_28, ok_84_28, gf_84_29, gf_84_30, ↓c135 (l := nI 0) (q := 0) (m := nI 9) (r := 9) rfl rfl, ct_s, ct_n, ↓bI_01, bI_eq0, bI_eq1, nI_10, nI_01, dec_f, dec_t, if_n, eq_self, true_or, or_true, if_true, if_false, reduceIte]
      rw [if_pos hb]
      simp only [↓s145_19, ↓s145_20, ↓s145_23, ↓s145_24, ↓s145_25, ↓s145_28, ↓s145_29, ↓s145_32, ↓s145_33, jc_84, gf_84_0, gf_84_1, gf_84_2, gf_84_3, gf_84_4, ok_84_4, gf_84_5, ok_84_5, gf_84_6, ok_84_6, gf_84_7, ok_84_7, gf_84_8, ok_84_8, gf_84_9, ok_84_9, gf_84_10, gf_84_11, gf_84_12, gf_84_13, gf_84_14, gf_84_15, gf_84_16, gf_84_17, ok_84_17, gf_84_18, gf_84_19, ok_84_19, gf_84_20, ok_84_20, gf_84_21, gf_84_22, gf_84_23, gf_84_24, ok_84_24, gf_84_25, ok_84_25, gf_84_26, ok_84_26, gf_84_27, ok_84_27, gf_84_28, ok_84_28, gf_84_29, gf_84_30, ↓c140, hA, ↓c139 oka_85, ct_s, ct_n, ↓bI_01, bI_eq0, bI_eq1, nI_10, nI_01, dec_f, dec_t, if_n, eq_self, true_or, or_true, if_true, if_false, reduceIte]
    · have o : ∀ a, a ≠ 85 → ux (z0M M1 85 181) 85 1 (nI k) a = M1 a := fun a h => by rw [ux_f h]; funext j; unfold z0M; rw [if_neg (by omega)]
      refine Inv_court (RC_keepc (fun a h1 h2 => o a (by omega)) (q2 _ beg_at)) rfl (beg_wf k9 beg_at) (fun a h => by rw [o a (by omega), q3 a (by omega)]) (by rw [o 84 (by decide), q3 84 (by omega)]) hI
  · refine ⟨-2, ux M 20 13 (M 20 13 + nI 1), N, rjM M 0, N, fun S d n Q => ?_, fun S d n Q => ?_, Inv_rj (by decide) hI⟩
    · simp only [↓s81_0, ↓s81_1, ↓s81_2, ↓s81_4, ↓s81_7, ↓s81_10, ↓s81_11, ↓s81_13, ↓s81_15, ↓s81_18, jc_20, gf_20_0, gf_20_1, gf_20_2, gf_20_3, gf_20_4, gf_20_5, gf_20_6, gf_20_7, gf_20_8, gf_20_9, gf_20_10, gf_20_11, ok_20_11, gf_20_12, ok_20_12, gf_20_13, ok_20_13, gf_20_14, ok_20_14, gf_20_15, ok_20_15, jc_21, gf_21_0, gf_21_1, gf_21_2, gf_21_3, gf_21_4, gf_21_5, ok_21_5, gf_21_6, ok_21_6, ↓c121, ↓c116, refM_b, ct_s, ct_n, ↓bI_01, bI_eq0, bI_eq1, nI_10, nI_01, dec_f, dec_t, if_n, eq_self, true_or, or_true, if_true, if_false, reduceIte]
      rw [if_neg hb]
    · simp only [↓s145_0, ↓s145_1, ↓s145_2, ↓s145_3, ↓s145_6, ↓s145_9, ↓s145_12, ↓s145_13, ↓s145_15, ↓s145_18, jc_84, gf_84_0, gf_84_1, gf_84_2, gf_84_3, gf_84_4, ok_84_4, gf_84_5, ok_84_5, gf_84_6, ok_84_6, gf_84_7, ok_84_7, gf_84_8, ok_84_8, gf_84_9, ok_84_9, gf_84_10, gf_84_11, gf_84_12, gf_84_13, gf_84_14, gf_84_15, gf_84_16, gf_84_17, ok_84_17, gf_84_18, gf_84_19, ok_84_19, gf_84_20, ok_84_20, gf_84_21, gf_84_22, gf_84_23, gf_84_24, ok_84_24, gf_84_25, ok_84_25, gf_84_26, ok_84_26, gf_84_27, ok_84_27, gf_84_28, ok_84_28, gf_84_29, gf_84_30, ↓c135 (l := nI 0) (q := 0) (m := nI 9) (r := 9) rfl rfl, ↓c136, ux88, ct_s, ct_n, ↓bI_01, bI_eq0, bI_eq1, nI_10, nI_01, dec_f, dec_t, if_n, eq_self, true_or, or_true, if_true, if_false, reduceIte]
      rw [if_neg hb]
      rfl
end CourtNew
/-! copies of courts -/
theorem c2 {M : ax_M} {c e : Nat} (hc : c = 21 ∨ c = 32 ∨ c = 44 ∨ c = 56) (he : e = 21 ∨ e = 32 ∨ e = 44 ∨ e = 56) (hne : c ≠ e) : ∃ M2 : ax_M, (∀ (N : ax_L) (S : ax_S) (d n : Nat) (Q : Option Value → Nat → ax_H → Prop), ax_W (d + 2) 2 0 [.ref c, .ref e] [] n (hx S M N) Q = Q none n (hx S M2 N)) ∧ (∀ A : ax_A0, WF A → RC M e A → RC M2 c A) ∧ ∀ a, a < c ∨ c + 10 < a → M2 a = M a := by
  obtain ⟨r1, r2, r3, r4, r5⟩ := ct_rw hc
  obtain ⟨f1, f2, f3, f4, f5⟩ := ct_rw he
  have far : c + 10 < e ∨ e + 10 < c := by omega
  generalize h1 : ux (ua M (c + 1 + 1) (va_cpy (M (e + 1 + 1)) (M (c + 1 + 1)) 0 0 (8 * 5))) (c + 1) 3 (M (e + 1) 3) = m1
  have o1 : ∀ a, a ≠ c + 1 → a ≠ c + 2 → m1 a = M a := fun a q1 q2 => by rw [← h1, ux_f q1, ua_a (by omega)]
  generalize h2 : ux (ua m1 (c + 3 + 1) (va_cpy (m1 (e + 3 + 1)) (m1 (c + 3 + 1)) 0 0 (5 * 5))) (c + 3) 3 (m1 (e + 3) 3) = m2
  have o2 : ∀ a, a ≠ c + 3 → a ≠ c + 4 → m2 a = m1 a := fun a q1 q2 => by rw [← h2, ux_f q1, ua_a (by omega)]
  generalize h3 : ux (ua m2 (c + 5 + 1) (va_cpy (m2 (e + 5 + 1)) (m2 (c + 5 + 1)) 0 0 (9 * 4))) (c + 5) 3 (m2 (e + 5) 3) = m3
  have o3 : ∀ a, a ≠ c + 5 → a ≠ c + 6 → m3 a = m2 a := fun a q1 q2 => by rw [← h3, ux_f q1, ua_a (by omega)]
  generalize h4 : ux (ua m3 (c + 7 + 1) (va_cpy (m3 (e + 7 + 1)) (m3 (c + 7 + 1)) 0 0 (8 * 1))) (c + 7) 3 (m3 (e + 7) 3) = m4
  have o4 : ∀ a, a ≠ c + 7 → a ≠ c + 8 → m4 a = m3 a := fun a q1 q2 => by rw [← h4, ux_f q1, ua_a (by omega)]
  generalize h5 : ux (ua m4 (c + 9 + 1) (va_cpy (m4 (e + 9 + 1)) (m4 (c + 9 + 1)) 0 0 (6 * 11))) (c + 9) 3 (m4 (e + 9) 3) = m5
  have o5 : ∀ a, a ≠ c + 9 → a ≠ c + 10 → m5 a = m4 a := fun a q1 q2 => by rw [← h5, ux_f q1, ua_a (by omega)]
  have all : ∀ a, a < c + 1 ∨ c + 10 < a → m5 a = M a := fun a q => by rw [o5 a (by omega) (by omega), o4 a (by omega) (by omega), o3 a (by omega) (by omega), o2 a (by omega) (by omega), o1 a (by omega) (by omega)]
  refine ⟨ux (ux m5 c 5 (M e 5)) c 6 (M e 6), fun N S d n Q => ?_, fun A hW hA => ?_, fun a ha => ?_⟩
  · obtain ⟨⟨g0, -⟩, -, g8, g9⟩ := ct_gf (S := S) (M := M) (N := N) hc
    obtain ⟨⟨k0, -⟩, -⟩ := ct_gf (S := S) (M := M) (N := N) he
    simp only [↓s2_0, ↓s2_1, ↓s2_4, ↓s2_5, g0, k0, s2_8 (rw_is r1), ↓c58 r1 f1, h1, ct_n]
    obtain ⟨⟨-, g1, -⟩, -⟩ := ct_gf (S := S) (M := m1) (N := N) hc
    obtain ⟨⟨-, k1, -⟩, -⟩ := ct_gf (S := S) (M := m1) (N := N) he
    simp only [↓s2_11, ↓s2_12, ↓s2_15, ↓s2_16, g1, k1, s2_19 (rw_is r2), ↓c58 r2 f2, h2, ct_n]
    obtain ⟨⟨-, -, g2, -⟩, -⟩ := ct_gf (S := S) (M := m2) (N := N) hc
    obtain ⟨⟨-, -, k2, -⟩, -⟩ := ct_gf (S := S) (M := m2) (N := N) he
    simp only [↓s2_22, ↓s2_23, ↓s2_26, ↓s2_27, g2, k2, s2_30 (rw_is r3), ↓c58 r3 f3, h3, ct_n]
    obtain ⟨⟨-, -, -, g3, -⟩, -⟩ := ct_gf (S := S) (M := m3) (N := N) hc
    obtain ⟨⟨-, -, -, k3, -⟩, -⟩ := ct_gf (S := S) (M := m3) (N := N) he
    simp only [↓s2_33, ↓s2_34, ↓s2_37, ↓s2_38, g3, k3, s2_41 (rw_is r4), ↓c58 r4 f4, h4, ct_n]
    obtain ⟨⟨-, -, -, -, g4, -⟩, -⟩ := ct_gf (S := S) (M := m4) (N := N) hc
    obtain ⟨⟨-, -, -, -, k4, -⟩, -⟩ := ct_gf (S := S) (M := m4) (N := N) he
    simp only [↓s2_44, ↓s2_45, ↓s2_48, ↓s2_49, g4, k4, s2_52 (rw_is r5), ↓c58 r5 f5, h5, ct_n]
    obtain ⟨⟨-, -, -, -, -, k5, -⟩, -⟩ := ct_gf (S := S) (M := m5) (N := N) he
    simp only [↓s2_55, ↓s2_56, ↓s2_57, k5, s2_60 g8]
    rw [all e (by omega)]
    obtain ⟨⟨-, -, -, -, -, -, k6⟩, -⟩ := ct_gf (S := S) (M := ux m5 c 5 (M e 5)) (N := N) he
    simp only [↓s2_63, ↓s2_64, ↓s2_65, k6, s2_68 g9, s2_71]
    rw [ux_a (Ne.symm hne), all e (by omega)]
  · have o : ∀ a, a ≠ c → ux (ux m5 c 5 (M e 5)) c 6 (M e 6) a = m5 a := fun a h => by rw [ux_f h, ux_f h]
    have cp : ∀ (f g : Nat → Int32) (k j : Nat), j < k → va_cpy f g 0 0 k j = f j := fun f g k j hj => by
      rw [pk_cpy_in (by omega) (by omega)]
      rw [show 0 + (j - 0) = j by omega]
    have n8 := hW.1.2
    have c8 := hW.2.2.1.2
    have m8 := hW.2.2.2.1.2
    have r6 := hW.2.2.2.2.1.2
    refine RC_mk ⟨?_, fun i hi => ?_⟩ ⟨?_, fun i hi => ?_⟩ ⟨?_, fun i hi => ?_⟩ ⟨?_, fun i hi => ?_⟩ ⟨?_, fun r w hr hw => ?_⟩ ⟨?_, ?_⟩
    · rw [o _ (by omega), o5 _ (by omega) (by omega), o4 _ (by omega) (by omega), o3 _ (by omega) (by omega), o2 _ (by omega) (by omega), ← h1, ux_s]
      exact hA.pd.1
    · rw [o _ (by omega), o5 _ (by omega) (by omega), o4 _ (by omega) (by omega), o3 _ (by omega) (by omega), o2 _ (by omega) (by omega), ← h1, ux_a (by omega)]
      show ua M (c + 2) _ (c + 2) i = _
      rw [ua_s, cp _ _ _ _ (by omega)]
      exact hA.pd.2 i hi
    · rw [o _ (by omega), o5 _ (by omega) (by omega), o4 _ (by omega) (by omega), o3 _ (by omega) (by omega), ← h2, ux_s, o1 _ (by omega) (by omega)]
      exact hA.pb.1
    · rw [o _ (by omega), o5 _ (by omega) (by omega), o4 _ (by omega) (by omega), o3 _ (by omega) (by omega), ← h2, ux_a (by omega)]
      show ua m1 (c + 4) _ (c + 4) i = _
      rw [ua_s, cp _ _ _ _ (by omega), o1 _ (by omega) (by omega)]
      exact hA.pb.2 i hi
    · rw [o _ (by omega), o5 _ (by omega) (by omega), o4 _ (by omega) (by omega), ← h3, ux_s, o2 _ (by omega) (by omega), o1 _ (by omega) (by omega)]
      exact hA.pc.1
    · rw [o _ (by omega), o5 _ (by omega) (by omega), o4 _ (by omega) (by omega), ← h3, ux_a (by omega)]
      show ua m2 (c + 6) _ (c + 6) i = _
      rw [ua_s, cp _ _ _ _ (by omega), o2 _ (by omega) (by omega), o1 _ (by omega) (by omega)]
      exact hA.pc.2 i hi
    · rw [o _ (by omega), o5 _ (by omega) (by omega), ← h4, ux_s, o3 _ (by omega) (by omega), o2 _ (by omega) (by omega), o1 _ (by omega) (by omega)]
      exact hA.pm.1
    · rw [o _ (by omega), o5 _ (by omega) (by omega), ← h4, ux_a (by omega)]
      show ua m3 (c + 8) _ (c + 8) i = _
      rw [ua_s, cp _ _ _ _ (by omega), o3 _ (by omega) (by omega), o2 _ (by omega) (by omega), o1 _ (by omega) (by omega)]
      exact hA.pm.2 i hi
    · rw [o _ (by omega), ← h5, ux_s, o4 _ (by omega) (by omega), o3 _ (by omega) (by omega), o2 _ (by omega) (by omega), o1 _ (by omega) (by omega)]
      exact hA.pr.1
    · have t8 := (hW.r.2 r hr).2.2.1.2
      rw [o _ (by omega), ← h5, ux_a (by omega)]
      show ua m4 (c + 10) _ (c + 10) _ = _
      rw [ua_s, cp _ _ _ _ (by omega), o4 _ (by omega) (by omega), o3 _ (by omega) (by omega), o2 _ (by omega) (by omega), o1 _ (by omega) (by omega)]
      exact hA.pr.2 r w hr hw
    · rw [ux_j (by omega), ux_s]; exact hA.ph.1
    · rw [ux_s]; exact hA.ph.2
  · rw [ux_f (by omega), ux_f (by omega), all a (by omega)]
section Images
variable {M : ax_M} {N : ax_L} {x : Int32}
theorem bl_87 {S : ax_S} {k : Nat} (h : k < 2) : bl (hx S M N) 87 (nI k) = some (M 87 k) := by
  unfold bl
  rw [hx_inl (a := 87) (t := 1) (len := 2) (by decide) (by decide +kernel)]
  dsimp only
  rw [nI_clamp (by omega), if_pos ⟨Or.inl rfl, fun q => q.elim (fun z => nI_pos (n := k) (by omega) z) (fun z => by omega)⟩]
theorem sb_87 {S : ax_S} {k : Nat} (h : k < 2) : sb (hx S M N) 87 (nI k) (nI 1) = some (hx S (ux M 87 k (nI 1)) N) := by
  unfold sb
  rw [hx_inl (a := 87) (t := 1) (len := 2) (by decide) (by decide +kernel)]
  dsimp only
  rw [nI_clamp (by omega), if_pos ⟨rfl, by decide, Or.inr rfl, fun q => q.elim (fun z => nI_pos (n := k) (by omega) z) (fun z => by omega)⟩]
  congr 1
  refine hx_other (fun b hb => ux_f hb) (fun _ _ => rfl) _ ?_
  rw [hx_inl (a := 87) (t := 1) (len := 2) (by decide) (by decide +kernel), ux_upd, ua_s]
/-- places to + 0 .. to + k of cell a hold what cell b has at fr + 0 .. fr + k -/
def cpM (M : ax_M) (a to b fr k : Nat) : ax_M := fun c j => if c = a ∧ to ≤ j ∧ j < to + k then M b (fr + (j - to)) else M c j
theorem cpM_s {a to b fr k : Nat} (hab : b ≠ a) : ux (cpM M a to b fr k) a (to + k) (cpM M a to b fr k b (fr + k)) = cpM M a to b fr (k + 1) := by
  funext c j
  have e : cpM M a to b fr k b (fr + k) = M b (fr + k) := by unfold cpM; rw [if_neg (fun q => hab q.1)]
  rw [e]
  show (if c = a ∧ j = to + k then M b (fr + k) else if c = a ∧ to ≤ j ∧ j < to + k then M b (fr + (j - to)) else M c j) = (if c = a ∧ to ≤ j ∧ j < to + (k + 1) then M b (fr + (j - to)) else M c j)
  by_cases h1 : c = a ∧ j = to + k
  · rw [if_pos h1, if_pos ⟨h1.1, by omega, by omega⟩, show fr + (j - to) = fr + k by omega]
  · rw [if_neg h1]
    by_cases h2 : c = a ∧ to ≤ j ∧ j < to + k
    · rw [if_pos h2, if_pos ⟨h2.1, h2.2.1, by omega⟩]
    · rw [if_neg h2, if_neg (by omega)]
theorem cpM_0 {a to b fr : Nat} : cpM M a to b fr 0 = M := by funext c j; unfold cpM; rw [if_neg (by omega)]
theorem cpM_o {a to b fr k c : Nat} (h : c ≠ a) : cpM M a to b fr k c = M c := by funext j; unfold cpM; rw [if_neg (fun q => h q.1)]
theorem l211 {d n : Nat} {Q : Option Value → Nat → ax_H → Prop} {S : ax_S} {i : Nat} (hi : i < 2) : ∀ (c k : Nat), k + c = 181 → ax_W d 211 19 [.ref 84, .int (nI i), .int (nI k)] [] n (hx S (cpM M 86 (181 * i) 85 0 k) N) Q = Q (some (.int (nI 1))) n (hx S (ux (cpM M 86 (181 * i) 85 0 181) 87 i (nI 1)) N) := by
  intro c
  induction c with
  | zero =>
    intro k hk
    simp only [↓s211_19, ↓s211_20, ↓s211_23]
    rw [if_pos (nI_le (a := 181) (b := k) (by omega) (by omega)), show k = 181 by omega]
    simp only [↓s211_50, ↓s211_51, ↓s211_54, ↓s211_55, ↓s211_56, ↓s211_57, ↓s211_58, jc_84, gf_84_0, gf_84_1, gf_84_2, gf_84_3, gf_84_4, ok_84_4, gf_84_5, ok_84_5, gf_84_6, ok_84_6, gf_84_7, ok_84_7, gf_84_8, ok_84_8, gf_84_9, ok_84_9, gf_84_10, gf_84_11, gf_84_12, gf_84_13, gf_84_14, gf_84_15, gf_84_16, gf_84_17, ok_84_17, gf_84_18, gf_84_19, ok_84_19, gf_84_20, ok_84_20, gf_84_21, gf_84_22, gf_84_23, gf_84_24, ok_84_24, gf_84_25, ok_84_25, gf_84_26, ok_84_26, gf_84_27, ok_84_27, gf_84_28, ok_84_28, gf_84_29, gf_84_30, sb_87 hi]
  | succ c ih =>
    intro k hk
    simp only [↓s211_19, ↓s211_20, ↓s211_23]
    rw [if_neg (nI_ge (a := k) (b := 181) (by omega) (by omega))]
    have e := cpM_s (M := M) (a := 86) (to := 181 * i) (b := 85) (fr := 0) (k := k) (by decide)
    rw [Nat.zero_add] at e
    simp only [↓s211_26, ↓s211_27, ↓s211_30, ↓s211_33, ↓s211_34, ↓s211_35, ↓s211_36, ↓s211_37, ↓s211_38, ↓s211_41, ↓s211_42, ↓s211_43, ↓s211_44, ↓s211_47, jc_84, gf_84_0, gf_84_1, gf_84_2, gf_84_3, gf_84_4, ok_84_4, gf_84_5, ok_84_5, gf_84_6, ok_84_6, gf_84_7, ok_84_7, gf_84_8, ok_84_8, gf_84_9, ok_84_9, gf_84_10, gf_84_11, gf_84_12, gf_84_13, gf_84_14, gf_84_15, gf_84_16, gf_84_17, ok_84_17, gf_84_18, gf_84_19, ok_84_19, gf_84_20, ok_84_20, gf_84_21, gf_84_22, gf_84_23, gf_84_24, ok_84_24, gf_84_25, ok_84_25, gf_84_26, ok_84_26, gf_84_27, ok_84_27, gf_84_28, ok_84_28, gf_84_29, gf_84_30, pk_mul, nI_add, al_85 (show k < 181 by omega), sa_86 (show 181 * i + k < 362 by omega), e]
    exact ih (k + 1) (by omega)
theorem l212 {d n : Nat} {Q : Option Value → Nat → ax_H → Prop} {S : ax_S} {i : Nat} (hi : i < 2) : ∀ (c k : Nat), k + c = 181 → ax_W d 212 33 [.ref 84, .int (nI i), .int (nI k)] [] n (hx S (cpM M 85 0 86 (181 * i) k) N) Q = Q (some (.int (nI 1))) n (hx S (cpM M 85 0 86 (181 * i) 181) N) := by
  intro c
  induction c with
  | zero =>
    intro k hk
    simp only [↓s212_33, ↓s212_34, ↓s212_37]
    rw [if_pos (nI_le (a := 181) (b := k) (by omega) (by omega)), show k = 181 by omega]
    simp only [↓s212_64, ↓s212_65]
  | succ c ih =>
    intro k hk
    simp only [↓s212_33, ↓s212_34, ↓s212_37]
    rw [if_neg (nI_ge (a := k) (b := 181) (by omega) (by omega))]
    have e := cpM_s (M := M) (a := 85) (to := 0) (b := 86) (fr := 181 * i) (k := k) (by decide)
    rw [Nat.zero_add] at e
    simp only [↓s212_40, ↓s212_41, ↓s212_44, ↓s212_45, ↓s212_46, ↓s212_49, ↓s212_52, ↓s212_53, ↓s212_54, ↓s212_55, ↓s212_56, ↓s212_57, ↓s212_58, ↓s212_61, jc_84, gf_84_0, gf_84_1, gf_84_2, gf_84_3, gf_84_4, ok_84_4, gf_84_5, ok_84_5, gf_84_6, ok_84_6, gf_84_7, ok_84_7, gf_84_8, ok_84_8, gf_84_9, ok_84_9, gf_84_10, gf_84_11, gf_84_12, gf_84_13, gf_84_14, gf_84_15, gf_84_16, gf_84_17, ok_84_17, gf_84_18, gf_84_19, ok_84_19, gf_84_20, ok_84_20, gf_84_21, gf_84_22, gf_84_23, gf_84_24, ok_84_24, gf_84_25, ok_84_25, gf_84_26, ok_84_26, gf_84_27, ok_84_27, gf_84_28, ok_84_28, gf_84_29, gf_84_30, pk_mul, nI_add, al_86 (show 181 * i + k < 362 by omega), sa_85 (show k < 181 by omega), e]
    exact ih (k + 1) (by omega)
/-- courts that agree on the 181 places -/
theorem WF_181 {A B : ax_A0} (h : ∀ j, j < 181 → B j = A j) (hW : WF A) : WF B := by
  have e0 : ndA B = ndA A := by unfold ndA; rw [h 0 (by omega)]
  exact WF_mk (WFd_eq (h 0 (by omega)) (h 1 (by omega)) (fun i _ _ => h i (by omega)) hW.d) (WFb_eq (fun i _ _ => h i (by omega)) hW.b) (WFc_eq (Nat.le_of_eq e0.symm) (h 2 (by omega)) (h 3 (by omega)) (fun i _ _ => h i (by omega)) hW.c) (WFm_eq (Nat.le_of_eq e0.symm) (h 4 (by omega)) (fun i _ _ => h i (by omega)) hW.m) (WFr_eq (Nat.le_of_eq e0.symm) (h 5 (by omega)) (fun i _ _ => h i (by omega)) hW.r)
theorem RC_181 {A B : ax_A0} {c : Nat} (h : ∀ j, j < 181 → B j = A j) (hW : WF A) (hC : RC M c A) : RC M c B := RC_mk (RCd_eq rfl rfl (h 0 (by omega)) hW.1.2 (fun i _ _ => h i (by omega)) hC.pd) (RCb_eq rfl rfl (fun i _ _ => h i (by omega)) hC.pb) (RCc_eq rfl rfl (h 3 (by omega)) hW.2.2.1.2 (fun i _ _ => h i (by omega)) hC.pc) (RCm_eq rfl rfl (h 4 (by omega)) hW.2.2.2.1.2 (fun i _ _ => h i (by omega)) hC.pm) (RCr_eq rfl rfl (h 5 (by omega)) hW.r (fun i _ _ => h i (by omega)) hC.pr) (RCh_eq rfl (h 1 (by omega)) (h 2 (by omega)) hC.ph)
end Images
