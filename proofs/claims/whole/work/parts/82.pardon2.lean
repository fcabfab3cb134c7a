/-! ===== pardon: the search ===== -/
section Pardon3
variable {M : ax_M} {N : ax_L} {A : ax_A0} {s c m k r : Nat} {f : Nat → Nat} {b : bX} {v : ax_V}
theorem bestC_eq {M2 : ax_M} (h8 : M2 78 = M 78) (h1 : M2 81 = M 81) (h2 : M2 82 = M 82) (h : bestC M b) : bestC M2 b := by
  cases b with
  | none => show M2 78 3 = -1; rw [h8]; exact h
  | some b =>
    obtain ⟨a1, a2, a3, a4, a5⟩ := h
    exact ⟨by rw [h8]; exact a1, a2, a3, by rw [h1]; exact a4, fun j hj => by rw [h2]; exact a5 j hj⟩
theorem evS_vok (hW : WF A) (hk : k < ndA A) (hok : vok A m v) : vok A (m + 1) (evS A s k v) := by
  obtain ⟨o1, o2, o3, o4⟩ := hok
  have ds := dsN_le hW hk (bt_pop8 v.1) o2
  have okk := evS_ok (s := s) hW hk o1
  exact ⟨okk.1, okk.2, by unfold evS sg; dsimp only; split <;> omega, by unfold evS sg; dsimp only; split <;> omega⟩
theorem evS_le (hs : s ≤ 1) : iI v.2.2 + tsI (nI s) (nI (dsN A k (pop v.1) v.2.1)) = iI (evS A s k v).2.2 := by
  rw [iI_nat (dsN A k (pop v.1) v.2.1), tsI_i s hs, iI_add]
  rfl
def TB (N : ax_L) (A : ax_A0) (s r : Nat) : Prop := ∀ (m c : Nat) (v : ax_V) (f : Nat → Nat) (b : bX) (M : ax_M), m + r = 4 → c ≤ 9 * m → vok A m v → RC M 21 A → bestC M b → trI M m f → ∃ M2, (bestC M2 (wC A s r v c m f b) ∧ trI M2 m f ∧ ∀ a, ¬ (78 ≤ a ∧ a ≤ 82) → M2 a = M a) ∧ ∀ (S : ax_S) (d n : Nat) (Q : Option Value → Nat → ax_H → Prop), ax_W (d + r + 3) 32 0 [.ref 78, .int (nI s), .int (nI v.1), .int (lsI v.2.1), .int (iI v.2.2), .int (nI c), .int (nI m), ax_dm, ax_dm, ax_dm] [] n (hx S M N) Q = Q none n (hx S M2 N)
set_option maxHeartbeats 1000000 in
theorem l32 (hW : WF A) (hs : s ≤ 1) (ih : TB N A s r) (hm : m + r + 1 = 4) (hc : c ≤ 9 * m) (hok : vok A m v) {b0 : bX} : ∀ (t k : Nat), k + t = ndA A → ∀ (M : ax_M) (y8 y9 : Value), RC M 21 A → bestC M (lpR A s v.1 (gC A s (wC A s r) v c m f) k b0) → trI M m f → ∃ M2, (bestC M2 (lpR A s v.1 (gC A s (wC A s r) v c m f) (ndA A) b0) ∧ trI M2 m f ∧ ∀ a, ¬ (78 ≤ a ∧ a ≤ 82) → M2 a = M a) ∧ ∀ (S : ax_S) (d n : Nat) (Q : Option Value → Nat → ax_H → Prop), ax_W (d + r + 4) 32 10 [.ref 78, .int (nI s), .int (nI v.1), .int (lsI v.2.1), .int (iI v.2.2), .int (nI c), .int (nI m), .int (nI k), y8, y9] [] n (hx S M N) Q = Q none n (hx S M2 N) := by
  have n8 := hW.1.2
  intro t
  induction t with
  | zero =>
    intro k hk M y8 y9 hC hb ht
    have e : k = ndA A := by omega
    subst e
    refine ⟨M, ⟨hb, ht, fun _ _ => rfl⟩, fun S d n Q => ?_⟩
    simp only [↓s32_10, ↓s32_12, ↓s32_13, ↓s32_16, ↓s32_19, ↓s32_22, jc_78, gf_78_0, gf_78_1, gf_78_2, gf_78_3, ok_78_3, jc_21, gf_21_0, gf_21_1, gf_21_2, gf_21_3, gf_21_4, gf_21_5, ok_21_5, gf_21_6, ok_21_6, jc_22, gf_22_0, gf_22_1, gf_22_2, gf_22_3, ok_22_3, ↓c53 h22, (rc_nd hC hW).1, ct_s, ct_n, ↓bI_01, bI_eq0, bI_eq1, nI_10, nI_01, dec_f, dec_t, if_n, eq_self, true_or, or_true, if_true, if_false, reduceIte]
    rw [if_pos (nI_le (a := ndA A) (b := ndA A) (by omega) (by omega))]
    simp only [↓s32_172, ct_s, ct_n, ↓bI_01, bI_eq0, bI_eq1, nI_10, nI_01, dec_f, dec_t, if_n, eq_self, true_or, or_true, if_true, if_false, reduceIte]
  | succ t iht =>
    intro k hk M y8 y9 hC hb ht
    have hkn : k < ndA A := by omega
    obtain ⟨o1, o2, o3, o4⟩ := hok
    have bu9 : buA A k ≤ 9 := (hW.2.2.2.2.2.2.1 k hkn).2.2.2.1.2
    have pre : ∀ (S : ax_S) (d n : Nat) (Q : Option Value → Nat → ax_H → Prop), ax_W (d + r + 4) 32 10 [.ref 78, .int (nI s), .int (nI v.1), .int (lsI v.2.1), .int (iI v.2.2), .int (nI c), .int (nI m), .int (nI k), y8, y9] [] n (hx S M N) Q = ax_W (d + r + 4) 32 54 [.ref 78, .int (nI s), .int (nI v.1), .int (lsI v.2.1), .int (iI v.2.2), .int (nI c), .int (nI m), .int (nI k), .int (nI (c + buA A k)), y9] [.int (bI (mayA A k s v.1))] n (hx S M N) Q := by
      intro S d n Q
      simp only [↓s32_10, ↓s32_12, ↓s32_13, ↓s32_16, ↓s32_19, ↓s32_22, jc_78, gf_78_0, gf_78_1, gf_78_2, gf_78_3, ok_78_3, jc_21, gf_21_0, gf_21_1, gf_21_2, gf_21_3, gf_21_4, gf_21_5, ok_21_5, gf_21_6, ok_21_6, jc_22, gf_22_0, gf_22_1, gf_22_2, gf_22_3, ok_22_3, ↓c53 h22, (rc_nd hC hW).1, ct_s, ct_n, ↓bI_01, bI_eq0, bI_eq1, nI_10, nI_01, dec_f, dec_t, if_n, eq_self, true_or, or_true, if_true, if_false, reduceIte]
      rw [if_neg (nI_ge (a := k) (b := ndA A) (by omega) (by omega))]
      simp only [↓s32_25, ↓s32_27, ↓s32_28, ↓s32_31, ↓s32_34, ↓s32_36, ↓s32_37, ↓s32_40, jc_78, gf_78_0, gf_78_1, gf_78_2, gf_78_3, ok_78_3, jc_21, gf_21_0, gf_21_1, gf_21_2, gf_21_3, gf_21_4, gf_21_5, ok_21_5, gf_21_6, ok_21_6, jc_22, gf_22_0, gf_22_1, gf_22_2, gf_22_3, ok_22_3, ↓c54 h22 (cap22 hC hW), rd_butter hC hW hkn, nI_add, ct_s, ct_n, ↓bI_01, bI_eq0, bI_eq1, nI_10, nI_01, dec_f, dec_t, if_n, eq_self, true_or, or_true, if_true, if_false, reduceIte]
      simp only [↓s32_41, ↓s32_43, ↓s32_44, ↓s32_47, ↓s32_49, ↓s32_50, ↓s32_51, jc_78, gf_78_0, gf_78_1, gf_78_2, gf_78_3, ok_78_3, jc_21, gf_21_0, gf_21_1, gf_21_2, gf_21_3, gf_21_4, gf_21_5, ok_21_5, gf_21_6, ok_21_6, ↓c9 hC hW (show k < 1000 by omega) hs o1, ct_s, ct_n, ↓bI_01, bI_eq0, bI_eq1, nI_10, nI_01, dec_f, dec_t, if_n, eq_self, true_or, or_true, if_true, if_false, reduceIte]
    cases e : mayA A k s v.1 with
    | false =>
      obtain ⟨M2, f1, g⟩ := iht (k + 1) (by omega) M (.int (nI (c + buA A k))) y9 hC (by rw [lpR_f e]; exact hb) ht
      refine ⟨M2, f1, fun S d n Q => ?_⟩
      rw [pre, e]
      simp only [↓s32_54, ↓s32_166, ↓s32_169, nI_add, ct_s, ct_n, ↓bI_01, bI_eq0, bI_eq1, nI_10, nI_01, dec_f, dec_t, if_n, eq_self, true_or, or_true, if_true, if_false, reduceIte]
      exact g S d n Q
    | true =>
      have hstep := lpR_t (g := gC A s (wC A s r) v c m f) (b := b0) e
      generalize hbk : lpR A s v.1 (gC A s (wC A s r) v c m f) k b0 = bk at hb hstep
      have pre2 : ∀ (S : ax_S) (d n : Nat) (Q : Option Value → Nat → ax_H → Prop), ax_W (d + r + 4) 32 10 [.ref 78, .int (nI s), .int (nI v.1), .int (lsI v.2.1), .int (iI v.2.2), .int (nI c), .int (nI m), .int (nI k), y8, y9] [] n (hx S M N) Q = ax_W (d + r + 4) 32 67 [.ref 78, .int (nI s), .int (nI v.1), .int (lsI v.2.1), .int (iI v.2.2), .int (nI c), .int (nI m), .int (nI k), .int (nI (c + buA A k)), y9] [.int (bI (btr (c + buA A k) (m + 1) bk))] n (hx S M N) Q := by
        intro S d n Q
        rw [pre, e]
        simp only [↓s32_54, ↓s32_57, ↓s32_58, ↓s32_60, ↓s32_62, ↓s32_63, ↓s32_64, jc_78, gf_78_0, gf_78_1, gf_78_2, gf_78_3, ok_78_3, nI_add, ↓c33 hb (show c + buA A k ≤ 100 by omega) (show m + 1 ≤ 4 by omega), ct_s, ct_n, ↓bI_01, bI_eq0, bI_eq1, nI_10, nI_01, dec_f, dec_t, if_n, eq_self, true_or, or_true, if_true, if_false, reduceIte, Bool.true_eq_false]
      cases eb : btr (c + buA A k) (m + 1) bk with
      | false =>
        have eg : gC A s (wC A s r) v c m f k bk = bk := by unfold gC; rw [if_neg (by rw [eb]; decide)]
        obtain ⟨M2, f1, g⟩ := iht (k + 1) (by omega) M (.int (nI (c + buA A k))) y9 hC (by rw [hstep, eg]; exact hb) ht
        refine ⟨M2, f1, fun S d n Q => ?_⟩
        rw [pre2, eb]
        simp only [↓s32_67, ↓s32_166, ↓s32_169, nI_add, ct_s, ct_n, ↓bI_01, bI_eq0, bI_eq1, nI_10, nI_01, dec_f, dec_t, if_n, eq_self, true_or, or_true, if_true, if_false, reduceIte]
        exact g S d n Q
      | true =>
        obtain ⟨M3, ⟨u1, u2, u3, u4⟩, g3⟩ := grow79 (N := N) (k := k) (show m < 4 by omega) ht.1
        have hC3 : RC M3 21 A := RC_keep (fun a _ _ => u4 a (by omega) (by omega)) hC
        have hb3 : bestC M3 bk := bestC_eq (u4 78 (by decide) (by decide)) (u4 81 (by decide) (by decide)) (u4 82 (by decide) (by decide)) hb
        have ht3 : trI M3 (m + 1) (fu f m k) := by
          refine ⟨Or.inr ⟨m + 1, u1, by omega, by omega⟩, fun j hj => ?_⟩
          by_cases z : j = m
          · subst z; rw [fu_s]; exact u2
          · rw [fu_n z, u3 j z]; exact ht.2 j (by omega)
        have okv := evS_vok (s := s) hW hkn (m := m) (v := v) ⟨o1, o2, o3, o4⟩
        have vv := vdI_i (z := (evS A s k v).2.2) (by have := okv.2.2.1; omega) (by have := okv.2.2.2; omega)
        have pre3 : ∀ (S : ax_S) (d n : Nat) (Q : Option Value → Nat → ax_H → Prop), ax_W (d + r + 4) 32 10 [.ref 78, .int (nI s), .int (nI v.1), .int (lsI v.2.1), .int (iI v.2.2), .int (nI c), .int (nI m), .int (nI k), y8, y9] [] n (hx S M N) Q = ax_W (d + r + 4) 32 122 [.ref 78, .int (nI s), .int (nI v.1), .int (lsI v.2.1), .int (iI v.2.2), .int (nI c), .int (nI m), .int (nI k), .int (nI (c + buA A k)), .int (iI (evS A s k v).2.2)] [.int (nI s), .int (nI (vdZ (evS A s k v).2.2))] n (hx S M3 N) Q := by
          intro S d n Q
          rw [pre2, eb]
          simp only [↓s32_67, ct_s, ct_n, ↓bI_01, bI_eq0, bI_eq1, nI_10, nI_01, dec_f, dec_t, if_n, eq_self, true_or, or_true, if_true, if_false, reduceIte, Bool.true_eq_false]
          rw [show d + r + 4 = (d + r + 1) + 3 by omega, g3]
          simp only [↓s32_96, ↓s32_98, ↓s32_99, ↓s32_100, ↓s32_103, ↓s32_105, ↓s32_106, ↓s32_107, ↓s32_110, ↓s32_113, jc_78, gf_78_0, gf_78_1, gf_78_2, gf_78_3, ok_78_3, jc_21, gf_21_0, gf_21_1, gf_21_2, gf_21_3, gf_21_4, gf_21_5, ok_21_5, gf_21_6, ok_21_6, ↓c10 hC3 hW hkn o1 o2, ↓c128, evS_le hs, ct_s, ct_n, ↓bI_01, bI_eq0, bI_eq1, nI_10, nI_01, dec_f, dec_t, if_n, eq_self, true_or, or_true, if_true, if_false, reduceIte]
          simp only [↓s32_114, ↓s32_116, ↓s32_118, ↓s32_121, ↓c126, vv, ct_s, ct_n, ↓bI_01, bI_eq0, bI_eq1, nI_10, nI_01, dec_f, dec_t, if_n, eq_self, true_or, or_true, if_true, if_false, reduceIte]
        by_cases hv : vdZ (evS A s k v).2.2 = s
        · have eg : gC A s (wC A s r) v c m f k bk = some (c + buA A k, m + 1, fu f m k) := by unfold gC; rw [if_pos eb, if_pos hv]
          obtain ⟨M5, hM5'⟩ : ∃ M5, M5 = ux (ua (ux M3 78 3 (nI (c + buA A k))) (81 + 1) (va_cpy (ux M3 78 3 (nI (c + buA A k)) (79 + 1)) (ux M3 78 3 (nI (c + buA A k)) (81 + 1)) 0 0 (4 * 1))) 81 3 (ux M3 78 3 (nI (c + buA A k)) 79 3) := ⟨_, rfl⟩
          have hM5 : M5 = ux (ua (ux M3 78 3 (nI (c + buA A k))) 82 (va_cpy (ux M3 78 3 (nI (c + buA A k)) 80) (ux M3 78 3 (nI (c + buA A k)) 82) 0 0 4)) 81 3 (ux M3 78 3 (nI (c + buA A k)) 79 3) := hM5'
          have q78 : M5 78 3 = nI (c + buA A k) := by rw [hM5, ux_a (by decide), ua_a (by decide), ux_s]
          have q79 : M5 79 = M3 79 := by rw [hM5, ux_f (by decide), ua_a (by decide), ux_f (by decide)]
          have q80 : M5 80 = M3 80 := by rw [hM5, ux_f (by decide), ua_a (by decide), ux_f (by decide)]
          have q81 : M5 81 3 = nI (m + 1) := by rw [hM5, ux_s, ux_a (by decide)]; exact u1
          have q82 : ∀ j, j < 4 → M5 82 j = M3 80 j := by
            intro j hj
            rw [hM5, ux_f (by decide), ua_s, pk_cpy_in (by omega) (by omega), ux_f (by decide)]
            rw [show 0 + (j - 0) = j by omega]
          have qo : ∀ a, ¬ (78 ≤ a ∧ a ≤ 82) → M5 a = M3 a := by
            intro a ha
            rw [hM5, ux_f (by omega), ua_a (by omega), ux_f (by omega)]
          have ht5 : trI M5 m f := by
            refine ⟨Or.inr ⟨m + 1, by rw [q79]; exact u1, by omega, by omega⟩, fun j hj => ?_⟩
            rw [q80, u3 j (by omega)]
            exact ht.2 j hj
          have hb5 : bestC M5 (some (c + buA A k, m + 1, fu f m k)) := ⟨q78, (by show c + buA A k ≤ 100; omega), (by show m + 1 ≤ 4; omega), q81, fun j hj => by
            have hj : j < m + 1 := hj
            rw [q82 j (by omega)]; exact ht3.2 j hj⟩
          obtain ⟨M2, ⟨f1, f2, f3⟩, g⟩ := iht (k + 1) (by omega) M5 (.int (nI (c + buA A k))) (.int (iI (evS A s k v).2.2)) (RC_keep (fun a _ _ => qo a (by omega)) hC3) (by rw [hstep, eg]; exact hb5) ht5
          refine ⟨M2, ⟨f1, f2, fun a ha => by rw [f3 a ha, qo a ha, u4 a (by omega) (by omega)]⟩, fun S d n Q => ?_⟩
          rw [pre3]
          simp only [↓s32_122, ↓s32_125, ↓s32_126, ↓s32_128, ↓s32_131, ↓s32_132, ↓s32_135, ↓s32_136, ↓s32_139, jc_78, gf_78_0, gf_78_1, gf_78_2, gf_78_3, ok_78_3, jc_79, gf_79_0, gf_79_1, gf_79_2, gf_79_3, ok_79_3, jc_81, gf_81_0, gf_81_1, gf_81_2, gf_81_3, ok_81_3, hv, ↓c58 h81 h79, ← hM5', ct_s, ct_n, ↓bI_01, bI_eq0, bI_eq1, nI_10, nI_01, dec_f, dec_t, if_n, eq_self, true_or, or_true, if_true, if_false, reduceIte]
          simp only [↓s32_142, ↓s32_166, ↓s32_169, nI_add, ct_s, ct_n, ↓bI_01, bI_eq0, bI_eq1, nI_10, nI_01, dec_f, dec_t, if_n, eq_self, true_or, or_true, if_true, if_false, reduceIte]
          exact g S d n Q
        · have eg : gC A s (wC A s r) v c m f k bk = wC A s r (evS A s k v) (c + buA A k) (m + 1) (fu f m k) bk := by unfold gC; rw [if_pos eb, if_neg hv]
          obtain ⟨M4, ⟨w1, w2, w3⟩, hK⟩ := ih (m + 1) (c + buA A k) (evS A s k v) (fu f m k) bk M3 (by omega) (by omega) okv hC3 hb3 ht3
          have ht4 : trI M4 m f := by
            refine ⟨?_, fun j hj => ?_⟩
            · rcases w2.1 with z | ⟨q, z1, z2, z3⟩
              · omega
              · exact Or.inr ⟨q, z1, by omega, z3⟩
            · rw [w2.2 j (by omega), fu_n (by omega)]
          obtain ⟨M2, ⟨f1, f2, f3⟩, g⟩ := iht (k + 1) (by omega) M4 (.int (nI (c + buA A k))) (.int (iI (evS A s k v).2.2)) (RC_keep (fun a _ _ => w3 a (by omega)) hC3) (by rw [hstep, eg]; exact w1) ht4
          refine ⟨M2, ⟨f1, f2, fun a ha => by rw [f3 a ha, w3 a ha, u4 a (by omega) (by omega)]⟩, fun S d n Q => ?_⟩
          have hK2 : ∀ (d n : Nat) (Q : Option Value → Nat → ax_H → Prop), ax_W (d + r + 3) 32 0 [.ref 78, .int (nI s), .int (nI (addB v.1 k)), .int (nI k), .int (iI (evS A s k v).2.2), .int (nI (c + buA A k)), .int (nI (m + 1)), ax_dm, ax_dm, ax_dm] [] n (hx S M3 N) Q = Q none n (hx S M4 N) := fun d n Q => hK S d n Q
          rw [pre3]
          simp only [↓s32_122, ct_s, ct_n, ↓bI_01, bI_eq0, bI_eq1, nI_10, nI_01, dec_f, dec_t, if_n, eq_self, true_or, or_true, if_true, if_false, reduceIte]
          have vb : vdZ (evS A s k v).2.2 ≤ 2 := by unfold vdZ; split <;> (try split) <;> omega
          rw [if_neg (fun q => hv ((nI_eq (a := vdZ (evS A s k v).2.2) (b := s) (by omega) (by omega)).mp q))]
          simp only [↓s32_145, ↓s32_146, ↓s32_147, ↓s32_148, ↓s32_150, ↓s32_153, ↓s32_155, ↓s32_157, ↓s32_159, ↓s32_161, ↓s32_162, ↓s32_163, jc_78, gf_78_0, gf_78_1, gf_78_2, gf_78_3, ok_78_3, ↓c130, bt_add v.1 o1 k (show k < 8 by omega), nI_add, ↓hK2, ct_s, ct_n, ↓bI_01, bI_eq0, bI_eq1, nI_10, nI_01, dec_f, dec_t, if_n, eq_self, true_or, or_true, if_true, if_false, reduceIte]
          simp only [↓s32_166, ↓s32_169, nI_add, ct_s, ct_n, ↓bI_01, bI_eq0, bI_eq1, nI_10, nI_01, dec_f, dec_t, if_n, eq_self, true_or, or_true, if_true, if_false, reduceIte]
          exact g S d n Q
theorem TB_all (hW : WF A) (hs : s ≤ 1) : ∀ r, TB N A s r := by
  intro r
  induction r with
  | zero =>
    intro m c v f b M hm hc hok hC hb ht
    have e : m = 4 := by omega
    subst e
    refine ⟨M, ⟨hb, ht, fun _ _ => rfl⟩, fun S d n Q => ?_⟩
    simp only [↓s32_0, ↓s32_2, ↓s32_3, ↓s32_6, show ¬ nI 4 < nI 4 by decide, ct_s, ct_n, ↓bI_01, bI_eq0, bI_eq1, nI_10, nI_01, dec_f, dec_t, if_n, eq_self, true_or, or_true, if_true, if_false, reduceIte]
  | succ r ih =>
    intro m c v f b M hm hc hok hC hb ht
    obtain ⟨M2, f1, g⟩ := l32 (f := f) hW hs ih (by omega) hc hok (ndA A) 0 (by omega) M ax_dm ax_dm hC (b0 := b) hb ht
    refine ⟨M2, f1, fun S d n Q => ?_⟩
    rw [show d + (r + 1) + 3 = d + r + 4 by omega]
    simp only [↓s32_0, ↓s32_2, ↓s32_3, ct_s, ct_n, ↓bI_01, bI_eq0, bI_eq1, nI_10, nI_01, dec_f, dec_t, if_n, eq_self, true_or, or_true, if_true, if_false, reduceIte]
    rw [if_pos (nI_lt (a := m) (b := 4) (by omega) (by omega))]
    simp only [↓s32_7, ↓s32_8, ct_s, ct_n, ↓bI_01, bI_eq0, bI_eq1, nI_10, nI_01, dec_f, dec_t, if_n, eq_self, true_or, or_true, if_true, if_false, reduceIte]
    exact g S d n Q
def f0 : Nat → Nat := fun _ => 0
/-- the row sought -/
def sk (A : ax_A0) (s : Nat) : bX := if vdZ (leA A) = s then some (0, 0, f0) else wC A s 4 (nowA A) 0 0 f0 none
theorem now_vok (hW : WF A) : vok A 0 (nowA A) := by
  obtain ⟨v1, v2, v3⟩ := nowA_ok hW
  have c8 := hW.2.2.1.2
  have lb := hW.2.2.2.2.2.1
  exact ⟨v1, v3, by show -(300 + 24 * ((0 : Nat) : Int)) ≤ leA A; omega, by show leA A ≤ 300 + 24 * ((0 : Nat) : Int); omega⟩
theorem c31 (hC : RC M 21 A) (hW : WF A) (hs : s ≤ 1) : ∃ M2, (bestC M2 (sk A s) ∧ ∀ a, ¬ (78 ≤ a ∧ a ≤ 82) → M2 a = M a) ∧ ∀ (S : ax_S) (d n : Nat) (Q : Option Value → Nat → ax_H → Prop), ax_W (d + 10) 31 0 [.ref 78, .int (nI s)] [] n (hx S M N) Q = Q none n (hx S M2 N) := by
  obtain ⟨M1, hM1⟩ : ∃ M1, M1 = ux (ux M 78 3 (-1)) 81 3 (nI 0) := ⟨_, rfl⟩
  have q1 : ∀ a, ¬ (78 ≤ a ∧ a ≤ 82) → M1 a = M a := fun a ha => by rw [hM1, ux_f (by omega), ux_f (by omega)]
  have q78 : M1 78 3 = -1 := by rw [hM1, ux_a (by decide), ux_s]
  have q81 : M1 81 3 = nI 0 := by rw [hM1, ux_s]
  have hC1 : RC M1 21 A := RC_keep (fun a _ _ => q1 a (by omega)) hC
  have okv := now_vok hW
  have vv := vdI_i (z := leA A) (by have : -(300 + 24 * ((0 : Nat) : Int)) ≤ leA A := okv.2.2.1; omega) (by have : leA A ≤ 300 + 24 * ((0 : Nat) : Int) := okv.2.2.2; omega)
  have vb : vdZ (leA A) ≤ 2 := by unfold vdZ; split <;> (try split) <;> omega
  have pre : ∀ (S : ax_S) (d n : Nat) (Q : Option Value → Nat → ax_H → Prop), ax_W (d + 10) 31 0 [.ref 78, .int (nI s)] [] n (hx S M N) Q = ax_W (d + 10) 31 24 [.ref 78, .int (nI s)] [.int (nI s), .int (nI (vdZ (leA A)))] n (hx S M1 N) Q := by
    intro S d n Q
    simp only [↓s31_0, ↓s31_1, ↓s31_2, ↓s31_5, ↓s31_6, ↓s31_9, ↓s31_10, jc_78, gf_78_0, gf_78_1, gf_78_2, gf_78_3, ok_78_3, jc_81, gf_81_0, gf_81_1, gf_81_2, gf_81_3, ok_81_3, ↓c57z h81, ← hM1, ct_s, ct_n, ↓bI_01, bI_eq0, bI_eq1, nI_10, nI_01, dec_f, dec_t, if_n, eq_self, true_or, or_true, if_true, if_false, reduceIte]
    simp only [↓s31_13, ↓s31_14, ↓s31_17, ↓s31_20, ↓s31_23, jc_78, gf_78_0, gf_78_1, gf_78_2, gf_78_3, ok_78_3, jc_21, gf_21_0, gf_21_1, gf_21_2, gf_21_3, gf_21_4, gf_21_5, ok_21_5, gf_21_6, ok_21_6, rc_le hC1, ↓c126, vv, ct_s, ct_n, ↓bI_01, bI_eq0, bI_eq1, nI_10, nI_01, dec_f, dec_t, if_n, eq_self, true_or, or_true, if_true, if_false, reduceIte]
  unfold sk
  by_cases hv : vdZ (leA A) = s
  · rw [if_pos hv]
    refine ⟨ux M1 78 3 (nI 0), ⟨⟨ux_s, by show (0 : Nat) ≤ 100; omega, by show (0 : Nat) ≤ 4; omega, by rw [ux_a (by decide)]; exact q81, fun j hj => absurd hj (Nat.not_lt_zero j)⟩, fun a ha => by rw [ux_f (by omega)]; exact q1 a ha⟩, fun S d n Q => ?_⟩
    rw [pre]
    simp only [↓s31_24, ↓s31_27, ↓s31_28, ↓s31_29, ↓s31_32, ↓s31_63, jc_78, gf_78_0, gf_78_1, gf_78_2, gf_78_3, ok_78_3, hv, ct_s, ct_n, ↓bI_01, bI_eq0, bI_eq1, nI_10, nI_01, dec_f, dec_t, if_n, eq_self, true_or, or_true, if_true, if_false, reduceIte]
  · rw [if_neg hv]
    obtain ⟨M2, ⟨f1, f2, f3⟩, hK⟩ := TB_all (N := N) hW hs 4 0 0 (nowA A) f0 none M1 (by omega) (by omega) okv hC1 q78 ⟨Or.inl rfl, fun j hj => absurd hj (Nat.not_lt_zero j)⟩
    refine ⟨M2, ⟨f1, fun a ha => by rw [f3 a ha]; exact q1 a ha⟩, fun S d n Q => ?_⟩
    have hK2 : ∀ (d n : Nat) (Q : Option Value → Nat → ax_H → Prop), ax_W (d + 9) 32 0 [.ref 78, .int (nI s), .int (nI (nowA A).1), .int (lsI (nowA A).2.1), .int (iI (leA A)), .int (nI 0), .int (nI 0), ax_dm, ax_dm, ax_dm] [] n (hx S M1 N) Q = Q none n (hx S M2 N) := fun d n Q => hK S (d + 2) n Q
    rw [pre]
    simp only [↓s31_24, ct_s, ct_n, ↓bI_01, bI_eq0, bI_eq1, nI_10, nI_01, dec_f, dec_t, if_n, eq_self, true_or, or_true, if_true, if_false, reduceIte]
    rw [if_neg (fun q => hv ((nI_eq (a := vdZ (leA A)) (b := s) (by omega) (by omega)).mp q))]
    simp only [↓s31_35, ↓s31_36, ↓s31_37, ↓s31_38, ↓s31_41, ↓s31_44, ↓s31_45, ↓s31_48, ↓s31_51, ↓s31_52, ↓s31_55, ↓s31_58, ↓s31_59, ↓s31_60, jc_78, gf_78_0, gf_78_1, gf_78_2, gf_78_3, ok_78_3, jc_21, gf_21_0, gf_21_1, gf_21_2, gf_21_3, gf_21_4, gf_21_5, ok_21_5, gf_21_6, ok_21_6, ↓c5 hC1 hW, ↓c6 hC1 hW, rc_le hC1, ↓hK2, ct_s, ct_n, ↓bI_01, bI_eq0, bI_eq1, nI_10, nI_01, dec_f, dec_t, if_n, eq_self, true_or, or_true, if_true, if_false, reduceIte]
    simp only [↓s31_63, ct_s, ct_n, ↓bI_01, bI_eq0, bI_eq1, nI_10, nI_01, dec_f, dec_t, if_n, eq_self, true_or, or_true, if_true, if_false, reduceIte]
end Pardon3
