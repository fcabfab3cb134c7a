/-! ===== image, from ===== -/
section Image2
variable {M : ax_M} {N : ax_L} {x : Int32}
theorem c118 {d n : Nat} {Q : Option Value → Nat → ax_H → Prop} {S : ax_S} {i : Nat} (hi : i < 2) : ax_W d 118 0 [.ref 20, .int (nI i)] [] n (hx S M N) Q = Q (some (.ref (43 + 12 * i))) n (hx S M N) := by
  rcases (show i = 0 ∨ i = 1 by omega) with rfl | rfl
  · simp only [↓s118_0, ↓s118_1, ↓s118_4, ↓s118_5, ↓s118_8, ↓s118_11, ↓s118_12, ↓s118_15, jc_20, gf_20_0, gf_20_1, gf_20_2, gf_20_3, gf_20_4, gf_20_5, gf_20_6, gf_20_7, gf_20_8, gf_20_9, gf_20_10, gf_20_11, ok_20_11, gf_20_12, ok_20_12, gf_20_13, ok_20_13, gf_20_14, ok_20_14, gf_20_15, ok_20_15, ct_s, ct_n, ↓bI_01, bI_eq0, bI_eq1, nI_10, nI_01, dec_f, dec_t, if_n, eq_self, true_or, or_true, if_true, if_false, reduceIte]
  · simp only [↓s118_0, ↓s118_1, ↓s118_4, ↓s118_5, ↓s118_8, ↓s118_11, ↓s118_12, ↓s118_15, jc_20, gf_20_0, gf_20_1, gf_20_2, gf_20_3, gf_20_4, gf_20_5, gf_20_6, gf_20_7, gf_20_8, gf_20_9, gf_20_10, gf_20_11, ok_20_11, gf_20_12, ok_20_12, gf_20_13, ok_20_13, gf_20_14, ok_20_14, gf_20_15, ok_20_15, ct_s, ct_n, ↓bI_01, bI_eq0, bI_eq1, nI_10, nI_01, dec_f, dec_t, if_n, eq_self, true_or, or_true, if_true, if_false, reduceIte]
theorem im_gf {S : ax_S} {i : Nat} (hi : i < 2) : gf (hx S M N) (43 + 12 * i) 2 0 = some (.ref (44 + 12 * i)) ∧ gf (hx S M N) (43 + 12 * i) 2 1 = some (.int (M (43 + 12 * i) 1)) ∧ isC (hx S M N) (43 + 12 * i) 2 = true ∧ okI (43 + 12 * i) 2 1 = true := by
  rcases (show i = 0 ∨ i = 1 by omega) with rfl | rfl <;> exact ⟨rfl, rfl, rfl, by decide +kernel⟩
theorem IM_i (h : IM M) {i : Nat} (hi : i < 2) : M (43 + 12 * i) 1 = M 87 i ∧ (M 87 i = nI 0 ∨ (M 87 i = nI 1 ∧ RC M (44 + 12 * i) (fun j => M 86 (181 * i + j)) ∧ WF (fun j => M 86 (181 * i + j)))) := by
  obtain ⟨i1, i2, i3, i4⟩ := h
  rcases (show i = 0 ∨ i = 1 by omega) with rfl | rfl
  · refine ⟨i1, ?_⟩
    have e : (fun j => M 86 (181 * 0 + j)) = M 86 := by funext j; rw [Nat.mul_zero, Nat.zero_add]
    rw [e]
    exact i3
  · exact ⟨i2, i4⟩
theorem IM_mk (h : ∀ i, i < 2 → M (43 + 12 * i) 1 = M 87 i ∧ (M 87 i = nI 0 ∨ (M 87 i = nI 1 ∧ RC M (44 + 12 * i) (fun j => M 86 (181 * i + j)) ∧ WF (fun j => M 86 (181 * i + j))))) : IM M := by
  obtain ⟨a1, a2⟩ := h 0 (by omega)
  obtain ⟨b1, b2⟩ := h 1 (by omega)
  have e : (fun j => M 86 (181 * 0 + j)) = M 86 := by funext j; rw [Nat.mul_zero, Nat.zero_add]
  rw [e] at a2
  exact ⟨a1, b1, a2, b2⟩
theorem p30 (hI : Inv M N) : RPi 111 211 [.ref 20, .int x] [.ref 84, .int x, ax_dm] M N := by
  have hC := hI.1
  have hW := hI.2.1
  by_cases hb : nI 0 ≤ x ∧ x ≤ nI 1
  · obtain ⟨i, i1, rfl⟩ := rng (by decide) hb
    have hi : i < 2 := by omega
    have hc : 44 + 12 * i = 21 ∨ 44 + 12 * i = 32 ∨ 44 + 12 * i = 44 ∨ 44 + 12 * i = 56 := by omega
    obtain ⟨M1, q1, q2, q3⟩ := c2 (M := M) hc (Or.inl rfl : (21 : Nat) = 21 ∨ _) (by omega)
    generalize hm2 : ux M1 (43 + 12 * i) 1 (nI 1) = M2
    have o2 : ∀ a, a ≠ 43 + 12 * i → (a < 44 + 12 * i ∨ 54 + 12 * i < a) → M2 a = M a := fun a h1 h2 => by rw [← hm2, ux_f h1, q3 a (by omega)]
    have o2c : ∀ a, 44 + 12 * i ≤ a → a ≤ 54 + 12 * i → M2 a = M1 a := fun a h1 h2 => by rw [← hm2, ux_f (by omega)]
    generalize hm3 : ux (cpM M2 86 (181 * i) 85 0 181) 87 i (nI 1) = M3
    have o3 : ∀ a, a ≠ 86 → a ≠ 87 → M3 a = M2 a := fun a h1 h2 => by rw [← hm3, ux_f h2, cpM_o h1]
    have v86 : ∀ j, M3 86 j = if 181 * i ≤ j ∧ j < 181 * i + 181 then M 85 (j - 181 * i) else M 86 j := fun j => by
      rw [← hm3, ux_f (by decide)]
      unfold cpM
      by_cases h : 181 * i ≤ j ∧ j < 181 * i + 181
      · rw [if_pos ⟨rfl, h⟩, if_pos h, o2 85 (by omega) (by omega), Nat.zero_add]
      · rw [if_neg (fun q => h q.2), if_neg h, o2 86 (by omega) (by omega)]
    have v87 : ∀ j, M3 87 j = if j = i then nI 1 else M 87 j := fun j => by rw [← hm3, uxS, cpM_o (by decide), o2 87 (by omega) (by omega)]
    refine ⟨nI 1, M2, N, M3, N, fun S d n Q => ?_, fun S d n Q => ?_, ?_⟩
    · simp only [↓s111_0, ↓s111_1, ↓s111_2, ↓s111_3, ↓s111_6, jc_20, gf_20_0, gf_20_1, gf_20_2, gf_20_3, gf_20_4, gf_20_5, gf_20_6, gf_20_7, gf_20_8, gf_20_9, gf_20_10, gf_20_11, ok_20_11, gf_20_12, ok_20_12, gf_20_13, ok_20_13, gf_20_14, ok_20_14, gf_20_15, ok_20_15, ↓c121, ct_s, ct_n, ↓bI_01, bI_eq0, bI_eq1, nI_10, nI_01, dec_f, dec_t, if_n, eq_self, true_or, or_true, if_true, if_false, reduceIte]
      rw [if_pos hb]
      obtain ⟨g0, g1, g2, g3⟩ := im_gf (S := S) (M := M) (N := N) hi
      simp only [↓s111_18, ↓s111_19, ↓s111_20, ↓s111_23, ↓s111_24, jc_20, gf_20_0, gf_20_1, gf_20_2, gf_20_3, gf_20_4, gf_20_5, gf_20_6, gf_20_7, gf_20_8, gf_20_9, gf_20_10, gf_20_11, ok_20_11, gf_20_12, ok_20_12, gf_20_13, ok_20_13, gf_20_14, ok_20_14, gf_20_15, ok_20_15, ↓c118 hi, ct_s, ct_n, ↓bI_01, bI_eq0, bI_eq1, nI_10, nI_01, dec_f, dec_t, if_n, eq_self, true_or, or_true, if_true, if_false, reduceIte]
      simp only [s111_27 g2, ↓s25_0, ↓s25_1, ↓s25_4, g0]
      simp only [s25_5 (ct_gf (S := S) (M := M) (N := N) hc).2.1, ↓q1, ct_n, s25_8, s25_9, s25_10 g3 (Or.inr rfl), s25_13, hm2, s111_30, s111_31]
    · simp only [↓s211_0, ↓s211_1, ↓s211_2, ↓s211_3, ↓s211_4, ↓s211_7, jc_84, gf_84_0, gf_84_1, gf_84_2, gf_84_3, gf_84_4, ok_84_4, gf_84_5, ok_84_5, gf_84_6, ok_84_6, gf_84_7, ok_84_7, gf_84_8, ok_84_8, gf_84_9, ok_84_9, gf_84_10, gf_84_11, gf_84_12, gf_84_13, gf_84_14, gf_84_15, gf_84_16, gf_84_17, ok_84_17, gf_84_18, gf_84_19, ok_84_19, gf_84_20, ok_84_20, gf_84_21, gf_84_22, gf_84_23, gf_84_24, ok_84_24, gf_84_25, ok_84_25, gf_84_26, ok_84_26, gf_84_27, ok_84_27, gf_84_28, ok_84_28, gf_84_29, gf_84_30, ↓c135 (l := nI 0) (q := 0) (m := nI 1) (r := 1) rfl rfl, ct_s, ct_n, ↓bI_01, bI_eq0, bI_eq1, nI_10, nI_01, dec_f, dec_t, if_n, eq_self, true_or, or_true, if_true, if_false, reduceIte]
      rw [if_pos hb]
      simp only [↓s211_17, ↓s211_18]
      have h1 := l211 (M := M2) (N := N) (d := d + 900) (n := n) (Q := Q) (S := S) hi 181 0 (by omega)
      rw [cpM_0, hm3] at h1
      exact h1
    · obtain ⟨j1, j2, j3, j4, j5, j6⟩ := hI
      refine ⟨?_, ?_, IM_mk (fun k hk => ?_), TX_keep (by rw [o3 67 (by decide) (by decide), o2 67 (by omega) (by omega)]) (by rw [o3 68 (by decide) (by decide), o2 68 (by omega) (by omega)]) (by rw [o3 99 (by decide) (by decide), o2 99 (by omega) (by omega)]) (by rw [o3 84 (by decide) (by decide), o2 84 (by omega) (by omega)]) j4, ?_, j6⟩
      · rw [o3 85 (by decide) (by decide), o2 85 (by omega) (by omega)]
        exact RC_keepc (fun a h1 h2 => by rw [o3 a (by omega) (by omega), o2 a (by omega) (by omega)]) j1
      · rw [o3 85 (by decide) (by decide), o2 85 (by omega) (by omega)]
        exact j2
      · by_cases e : k = i
        · subst e
          refine ⟨?_, Or.inr ⟨by rw [v87, if_pos rfl], ?_, ?_⟩⟩
          · rw [v87, if_pos rfl, o3 _ (by omega) (by omega), ← hm2, ux_s]
          · have h1 : RC M3 (44 + 12 * k) (M 85) := RC_keepc (fun a h1 h2 => by rw [o3 a (by omega) (by omega), o2c a (by omega) (by omega)]) (q2 _ hW hC)
            refine RC_181 (fun j hj => ?_) hW h1
            rw [v86, if_pos (by omega), show 181 * k + j - 181 * k = j by omega]
          · refine WF_181 (fun j hj => ?_) hW
            rw [v86, if_pos (by omega), show 181 * k + j - 181 * k = j by omega]
        · obtain ⟨k1, k2⟩ := IM_i j3 hk
          refine ⟨?_, ?_⟩
          · rw [v87, if_neg e, o3 _ (by omega) (by omega), o2 _ (by omega) (by omega)]
            exact k1
          · rw [v87, if_neg e]
            refine k2.imp id (fun q => ⟨q.1, ?_, ?_⟩)
            · refine RC_181 (fun j hj => ?_) q.2.2 (RC_keepc (fun a h1 h2 => by rw [o3 a (by omega) (by omega), o2 a (by omega) (by omega)]) q.2.1)
              rw [v86, if_neg (by omega)]
            · refine WF_181 (fun j hj => ?_) q.2.2
              rw [v86, if_neg (by omega)]
      · unfold ST3
        rw [o3 20 (by decide) (by decide), o2 20 (by omega) (by omega), o3 88 (by decide) (by decide), o2 88 (by omega) (by omega)]
        exact j5
  · refine ⟨-2, ux M 20 13 (M 20 13 + nI 1), N, rjM M 0, N, fun S d n Q => ?_, fun S d n Q => ?_, Inv_rj (by decide) hI⟩
    · simp only [↓s111_0, ↓s111_1, ↓s111_2, ↓s111_3, ↓s111_6, ↓s111_9, ↓s111_10, ↓s111_12, ↓s111_14, ↓s111_17, jc_20, gf_20_0, gf_20_1, gf_20_2, gf_20_3, gf_20_4, gf_20_5, gf_20_6, gf_20_7, gf_20_8, gf_20_9, gf_20_10, gf_20_11, ok_20_11, gf_20_12, ok_20_12, gf_20_13, ok_20_13, gf_20_14, ok_20_14, gf_20_15, ok_20_15, ↓c121, ↓c116, refM_b, ct_s, ct_n, ↓bI_01, bI_eq0, bI_eq1, nI_10, nI_01, dec_f, dec_t, if_n, eq_self, true_or, or_true, if_true, if_false, reduceIte]
      rw [if_neg hb]
    · simp only [↓s211_0, ↓s211_1, ↓s211_2, ↓s211_3, ↓s211_4, ↓s211_7, ↓s211_10, ↓s211_11, ↓s211_13, ↓s211_16, jc_84, gf_84_0, gf_84_1, gf_84_2, gf_84_3, gf_84_4, ok_84_4, gf_84_5, ok_84_5, gf_84_6, ok_84_6, gf_84_7, ok_84_7, gf_84_8, ok_84_8, gf_84_9, ok_84_9, gf_84_10, gf_84_11, gf_84_12, gf_84_13, gf_84_14, gf_84_15, gf_84_16, gf_84_17, ok_84_17, gf_84_18, gf_84_19, ok_84_19, gf_84_20, ok_84_20, gf_84_21, gf_84_22, gf_84_23, gf_84_24, ok_84_24, gf_84_25, ok_84_25, gf_84_26, ok_84_26, gf_84_27, ok_84_27, gf_84_28, ok_84_28, gf_84_29, gf_84_30, ↓c135 (l := nI 0) (q := 0) (m := nI 1) (r := 1) rfl rfl, ↓c136, ux88, ct_s, ct_n, ↓bI_01, bI_eq0, bI_eq1, nI_10, nI_01, dec_f, dec_t, if_n, eq_self, true_or, or_true, if_true, if_false, reduceIte]
      rw [if_neg hb]
      rfl
theorem p31 (hI : Inv M N) : RPi 112 212 [.ref 20, .int x] [.ref 84, .int x, ax_dm] M N := by
  by_cases hb : nI 0 ≤ x ∧ x ≤ nI 1
  · obtain ⟨i, i1, rfl⟩ := rng (by decide) hb
    have hi : i < 2 := by omega
    obtain ⟨k1, k2⟩ := IM_i hI.2.2.1 hi
    rcases k2 with k2 | ⟨k2, k3, k4⟩
    · refine ⟨-3, ux M 20 14 (M 20 14 + nI 1), N, rjM M 1, N, fun S d n Q => ?_, fun S d n Q => ?_, Inv_rj (by decide) hI⟩
      · simp only [↓s112_0, ↓s112_1, ↓s112_2, ↓s112_3, ↓s112_6, jc_20, gf_20_0, gf_20_1, gf_20_2, gf_20_3, gf_20_4, gf_20_5, gf_20_6, gf_20_7, gf_20_8, gf_20_9, gf_20_10, gf_20_11, ok_20_11, gf_20_12, ok_20_12, gf_20_13, ok_20_13, gf_20_14, ok_20_14, gf_20_15, ok_20_15, ↓c121, ct_s, ct_n, ↓bI_01, bI_eq0, bI_eq1, nI_10, nI_01, dec_f, dec_t, if_n, eq_self, true_or, or_true, if_true, if_false, reduceIte]
        rw [if_pos hb]
        obtain ⟨g0, g1, g2, g3⟩ := im_gf (S := S) (M := M) (N := N) hi
        simp only [↓s112_18, ↓s112_19, ↓s112_20, jc_20, gf_20_0, gf_20_1, gf_20_2, gf_20_3, gf_20_4, gf_20_5, gf_20_6, gf_20_7, gf_20_8, gf_20_9, gf_20_10, gf_20_11, ok_20_11, gf_20_12, ok_20_12, gf_20_13, ok_20_13, gf_20_14, ok_20_14, gf_20_15, ok_20_15, ↓c118 hi, ct_s, ct_n, ↓bI_01, bI_eq0, bI_eq1, nI_10, nI_01, dec_f, dec_t, if_n, eq_self, true_or, or_true, if_true, if_false, reduceIte]
        simp only [s112_23 g2, ↓s24_0, ↓s24_1, g1, k1, k2, s24_4 (Or.inl rfl), ct_s, ↓s112_26, ↓s112_29, ↓s112_30, ↓s112_32, ↓s112_34, ↓s112_37, jc_20, gf_20_0, gf_20_1, gf_20_2, gf_20_3, gf_20_4, gf_20_5, gf_20_6, gf_20_7, gf_20_8, gf_20_9, gf_20_10, gf_20_11, ok_20_11, gf_20_12, ok_20_12, gf_20_13, ok_20_13, gf_20_14, ok_20_14, gf_20_15, ok_20_15, ↓c116, refM_n, ct_s, ct_n, ↓bI_01, bI_eq0, bI_eq1, nI_10, nI_01, dec_f, dec_t, if_n, eq_self, true_or, or_true, if_true, if_false, reduceIte]
      · have e : ux M 20 14 (M 20 14 + nI 1) 87 i = nI 0 := by rw [ux_a (by decide)]; exact k2
        simp only [↓s212_0, ↓s212_1, ↓s212_2, ↓s212_3, ↓s212_4, ↓s212_7, jc_84, gf_84_0, gf_84_1, gf_84_2, gf_84_3, gf_84_4, ok_84_4, gf_84_5, ok_84_5, gf_84_6, ok_84_6, gf_84_7, ok_84_7, gf_84_8, ok_84_8, gf_84_9, ok_84_9, gf_84_10, gf_84_11, gf_84_12, gf_84_13, gf_84_14, gf_84_15, gf_84_16, gf_84_17, ok_84_17, gf_84_18, gf_84_19, ok_84_19, gf_84_20, ok_84_20, gf_84_21, gf_84_22, gf_84_23, gf_84_24, ok_84_24, gf_84_25, ok_84_25, gf_84_26, ok_84_26, gf_84_27, ok_84_27, gf_84_28, ok_84_28, gf_84_29, gf_84_30, ↓c135 (l := nI 0) (q := 0) (m := nI 1) (r := 1) rfl rfl, ct_s, ct_n, ↓bI_01, bI_eq0, bI_eq1, nI_10, nI_01, dec_f, dec_t, if_n, eq_self, true_or, or_true, if_true, if_false, reduceIte]
        rw [if_pos hb]
        simp only [↓s212_17, ↓s212_18, ↓s212_21, ↓s212_22, ↓s212_23, ↓s212_26, ↓s212_27, ↓s212_30, jc_84, gf_84_0, gf_84_1, gf_84_2, gf_84_3, gf_84_4, ok_84_4, gf_84_5, ok_84_5, gf_84_6, ok_84_6, gf_84_7, ok_84_7, gf_84_8, ok_84_8, gf_84_9, ok_84_9, gf_84_10, gf_84_11, gf_84_12, gf_84_13, gf_84_14, gf_84_15, gf_84_16, gf_84_17, ok_84_17, gf_84_18, gf_84_19, ok_84_19, gf_84_20, ok_84_20, gf_84_21, gf_84_22, gf_84_23, gf_84_24, ok_84_24, gf_84_25, ok_84_25, gf_84_26, ok_84_26, gf_84_27, ok_84_27, gf_84_28, ok_84_28, gf_84_29, gf_84_30, bl_87 hi, e, ↓c137, ux88, ct_s, ct_n, ↓bI_01, bI_eq0, bI_eq1, nI_10, nI_01, dec_f, dec_t, if_n, eq_self, true_or, or_true, if_true, if_false, reduceIte]
        rfl
    · have hc : 44 + 12 * i = 21 ∨ 44 + 12 * i = 32 ∨ 44 + 12 * i = 44 ∨ 44 + 12 * i = 56 := by omega
      obtain ⟨M1, q1, q2, q3⟩ := c2 (M := M) (Or.inl rfl : (21 : Nat) = 21 ∨ _) hc (by omega)
      have o3 : ∀ a, a ≠ 85 → cpM M1 85 0 86 (181 * i) 181 a = M1 a := fun a h => cpM_o h
      have v85 : ∀ j, j < 181 → cpM M1 85 0 86 (181 * i) 181 85 j = M 86 (181 * i + j) := fun j hj => by
        unfold cpM
        rw [if_pos ⟨rfl, by omega, by omega⟩, q3 86 (by omega), Nat.sub_zero]
      refine ⟨nI 1, M1, N, cpM M1 85 0 86 (181 * i) 181, N, fun S d n Q => ?_, fun S d n Q => ?_, ?_⟩
      · simp only [↓s112_0, ↓s112_1, ↓s112_2, ↓s112_3, ↓s112_6, jc_20, gf_20_0, gf_20_1, gf_20_2, gf_20_3, gf_20_4, gf_20_5, gf_20_6, gf_20_7, gf_20_8, gf_20_9, gf_20_10, gf_20_11, ok_20_11, gf_20_12, ok_20_12, gf_20_13, ok_20_13, gf_20_14, ok_20_14, gf_20_15, ok_20_15, ↓c121, ct_s, ct_n, ↓bI_01, bI_eq0, bI_eq1, nI_10, nI_01, dec_f, dec_t, if_n, eq_self, true_or, or_true, if_true, if_false, reduceIte]
        rw [if_pos hb]
        obtain ⟨g0, g1, g2, g3⟩ := im_gf (S := S) (M := M) (N := N) hi
        simp only [↓s112_18, ↓s112_19, ↓s112_20, jc_20, gf_20_0, gf_20_1, gf_20_2, gf_20_3, gf_20_4, gf_20_5, gf_20_6, gf_20_7, gf_20_8, gf_20_9, gf_20_10, gf_20_11, ok_20_11, gf_20_12, ok_20_12, gf_20_13, ok_20_13, gf_20_14, ok_20_14, gf_20_15, ok_20_15, ↓c118 hi, ct_s, ct_n, ↓bI_01, bI_eq0, bI_eq1, nI_10, nI_01, dec_f, dec_t, if_n, eq_self, true_or, or_true, if_true, if_false, reduceIte]
        simp only [s112_23 g2, ↓s24_0, ↓s24_1, g1, k1, k2, s24_4 (Or.inr rfl), ct_s, ↓s112_26, ↓s112_29, ↓s112_30, ↓s112_32, ↓s112_34, ↓s112_37, ↓s112_38, ↓s112_39, ↓s112_40, ↓s112_43, ↓s112_44, jc_20, gf_20_0, gf_20_1, gf_20_2, gf_20_3, gf_20_4, gf_20_5, gf_20_6, gf_20_7, gf_20_8, gf_20_9, gf_20_10, gf_20_11, ok_20_11, gf_20_12, ok_20_12, gf_20_13, ok_20_13, gf_20_14, ok_20_14, gf_20_15, ok_20_15, ↓c118 hi, ct_s, ct_n, ↓bI_01, bI_eq0, bI_eq1, nI_10, nI_01, dec_f, dec_t, if_n, eq_self, true_or, or_true, if_true, if_false, reduceIte]
        simp only [s112_47 g2, ↓s26_0, ↓s26_1, ↓s26_2, g0, jc_21, s26_5, ↓q1, ct_n, ↓s26_8, ↓s112_50, ↓s112_51]
      · have e : M1 87 i = nI 1 := by rw [q3 87 (by omega)]; exact k2
        simp only [↓s212_0, ↓s212_1, ↓s212_2, ↓s212_3, ↓s212_4, ↓s212_7, jc_84, gf_84_0, gf_84_1, gf_84_2, gf_84_3, gf_84_4, ok_84_4, gf_84_5, ok_84_5, gf_84_6, ok_84_6, gf_84_7, ok_84_7, gf_84_8, ok_84_8, gf_84_9, ok_84_9, gf_84_10, gf_84_11, gf_84_12, gf_84_13, gf_84_14, gf_84_15, gf_84_16, gf_84_17, ok_84_17, gf_84_18, gf_84_19, ok_84_19, gf_84_20, ok_84_20, gf_84_21, gf_84_22, gf_84_23, gf_84_24, ok_84_24, gf_84_25, ok_84_25, gf_84_26, ok_84_26, gf_84_27, ok_84_27, gf_84_28, ok_84_28, gf_84_29, gf_84_30, ↓c135 (l := nI 0) (q := 0) (m := nI 1) (r := 1) rfl rfl, ct_s, ct_n, ↓bI_01, bI_eq0, bI_eq1, nI_10, nI_01, dec_f, dec_t, if_n, eq_self, true_or, or_true, if_true, if_false, reduceIte]
        rw [if_pos hb]
        simp only [↓s212_17, ↓s212_18, ↓s212_21, ↓s212_22, ↓s212_23, ↓s212_26, ↓s212_27, ↓s212_30, ↓s212_31, ↓s212_32, jc_84, gf_84_0, gf_84_1, gf_84_2, gf_84_3, gf_84_4, ok_84_4, gf_84_5, ok_84_5, gf_84_6, ok_84_6, gf_84_7, ok_84_7, gf_84_8, ok_84_8, gf_84_9, ok_84_9, gf_84_10, gf_84_11, gf_84_12, gf_84_13, gf_84_14, gf_84_15, gf_84_16, gf_84_17, ok_84_17, gf_84_18, gf_84_19, ok_84_19, gf_84_20, ok_84_20, gf_84_21, gf_84_22, gf_84_23, gf_84_24, ok_84_24, gf_84_25, ok_84_25, gf_84_26, ok_84_26, gf_84_27, ok_84_27, gf_84_28, ok_84_28, gf_84_29, gf_84_30, bl_87 hi, e, ct_s, ct_n, ↓bI_01, bI_eq0, bI_eq1, nI_10, nI_01, dec_f, dec_t, if_n, eq_self, true_or, or_true, if_true, if_false, reduceIte]
        have h1 := l212 (M := M1) (N := N) (d := d + 900) (n := n) (Q := Q) (S := S) hi 181 0 (by omega)
        rw [cpM_0] at h1
        exact h1
      · refine Inv_court (M := M) ?_ rfl (WF_181 v85 k4) (fun a h => by rw [o3 a (by omega), q3 a (by omega)]) (by rw [o3 84 (by decide), q3 84 (by omega)]) hI
        exact RC_181 v85 k4 (RC_keepc (fun a h1 h2 => o3 a (by omega)) (q2 _ k4 k3))
  · refine ⟨-2, ux M 20 13 (M 20 13 + nI 1), N, rjM M 0, N, fun S d n Q => ?_, fun S d n Q => ?_, Inv_rj (by decide) hI⟩
    · simp only [↓s112_0, ↓s112_1, ↓s112_2, ↓s112_3, ↓s112_6, ↓s112_9, ↓s112_10, ↓s112_12, ↓s112_14, ↓s112_17, jc_20, gf_20_0, gf_20_1, gf_20_2, gf_20_3, gf_20_4, gf_20_5, gf_20_6, gf_20_7, gf_20_8, gf_20_9, gf_20_10, gf_20_11, ok_20_11, gf_20_12, ok_20_12, gf_20_13, ok_20_13, gf_20_14, ok_20_14, gf_20_15, ok_20_15, ↓c121, ↓c116, refM_b, ct_s, ct_n, ↓bI_01, bI_eq0, bI_eq1, nI_10, nI_01, dec_f, dec_t, if_n, eq_self, true_or, or_true, if_true, if_false, reduceIte]
      rw [if_neg hb]
    · simp only [↓s212_0, ↓s212_1, ↓s212_2, ↓s212_3, ↓s212_4, ↓s212_7, ↓s212_10, ↓s212_11, ↓s212_13, ↓s212_16, jc_84, gf_84_0, gf_84_1, gf_84_2, gf_84_3, gf_84_4, ok_84_4, gf_84_5, ok_84_5, gf_84_6, ok_84_6, gf_84_7, ok_84_7, gf_84_8, ok_84_8, gf_84_9, ok_84_9, gf_84_10, gf_84_11, gf_84_12, gf_84_13, gf_84_14, gf_84_15, gf_84_16, gf_84_17, ok_84_17, gf_84_18, gf_84_19, ok_84_19, gf_84_20, ok_84_20, gf_84_21, gf_84_22, gf_84_23, gf_84_24, ok_84_24, gf_84_25, ok_84_25, gf_84_26, ok_84_26, gf_84_27, ok_84_27, gf_84_28, ok_84_28, gf_84_29, gf_84_30, ↓c135 (l := nI 0) (q := 0) (m := nI 1) (r := 1) rfl rfl, ↓c136, ux88, ct_s, ct_n, ↓bI_01, bI_eq0, bI_eq1, nI_10, nI_01, dec_f, dec_t, if_n, eq_self, true_or, or_true, if_true, if_false, reduceIte]
      rw [if_neg hb]
      rfl
end Image2
