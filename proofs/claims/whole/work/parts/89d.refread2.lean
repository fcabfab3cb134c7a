/-! ===== a text: the reference's items ===== -/
section RefItems
variable {M M1 M2 M3 : ax_M} {N : ax_L} {t i : Nat} {B : Nat → Nat} {A A2 : ax_A0}
theorem k203 {s : Nat} (hT : TXm M B t) (hi : i ≤ t) (hs : s < 4) (hL : LM M B t i) (S : ax_S) (d n : Nat) (Q : Option Value → Nat → ax_H → Prop) : ax_W d 203 0 [.ref 84, .int (nI (wl s)), .int (nI (wch s 0)), .int (nI (wch s 1)), .int (nI (wch s 2)), .int (nI (wch s 3)), .int (nI (wch s 4)), ax_dm, ax_dm] [] n (hx S M N) Q = Q (some (.int (bI (wdB B t i s)))) n (hx S M N) := c203 hT hi hs hL
/-- what the first item leaves -/
def JF (B : Nat → Nat) (t : Nat) (M2 : ax_M) (r : pR) : Prop := (r.1 = true → ∃ p, p ≤ t ∧ LM M2 B t p ∧ r.2.1 = tkE B t p ∧ ∀ j, j < 181 → M2 100 j = r.2.2 j) ∧ (r.1 = false → M2 84 25 = nI r.2.1)
theorem itC_G : itC B t i A = itG B t loC hiC 1 (tkE B t i) A (begA (nI (nmV B t (tkE B t i) 0))) := rfl
theorem itB_G {g : Int32} : itB B t i g A = itG B t loF hiF 3 (tkE B t i) A (upd A (46 + 5 * nmV B t (tkE B t i) 0 + nmV B t (tkE B t i) 1) (g * nI (nmV B t (tkE B t i) 2))) := rfl
theorem itD_G (h : ¬ ndA A = 8) : itD B t i A = itG B t loD hiD 5 (tkE B t i) A (dshA A (nI (nmV B t (tkE B t i) 0)) (nI (nmV B t (tkE B t i) 1)) (nI (nmV B t (tkE B t i) 2)) (nI (nmV B t (tkE B t i) 3)) (nI (nmV B t (tkE B t i) 4))) := by
  unfold itD
  rw [if_neg h]
  rfl
theorem JF_t {r : pR} (h : JR B t M2 true r) : (r.1 = true → ∃ p, p ≤ t ∧ LM M2 B t p ∧ tkK B t p = 3 ∧ r.2.1 = tkE B t p ∧ ∀ j, j < 181 → M2 100 j = r.2.2 j) ∧ (r.1 = false → ∃ p, p ≤ t ∧ LM M2 B t p ∧ tkK B t p ≠ 3 ∧ r.2.1 = tkP B t p) := by
  rcases h with ⟨-, p, p1, p2, h⟩ | ⟨h, -⟩
  · rcases h with ⟨q1, q2, q3, q4⟩ | ⟨q1, q2, q3⟩
    · exact ⟨fun _ => ⟨p, p1, p2, q1, q3, q4⟩, fun z => (ft (z.symm.trans q2)).elim⟩
    · exact ⟨fun z => (ft (q2.symm.trans z)).elim, fun _ => ⟨p, p1, p2, q1, q3⟩⟩
  · cases h
theorem JR_ff {r : pR} (h : JR B t M2 false r) : r.1 = false ∧ M2 84 25 = nI r.2.1 := by
  rcases h with ⟨h, -⟩ | ⟨-, h⟩
  · cases h
  · exact h
theorem c205 (hT : TXm M B t) (hi : i ≤ t) (hL : LM M B t i) : ∃ M2, (JF B t M2 (itf B t i A) ∧ RG M M2) ∧ ∀ (S : ax_S) (d n : Nat) (Q : Option Value → Nat → ax_H → Prop), ax_W (d + 5) 205 0 [.ref 84] [] n (hx S M N) Q = Q (some (.int (bI (itf B t i A).1))) n (hx S M2 N) := by
  have hE := tkE_bd (B := B) hi
  have kw : ∀ (S : ax_S) (d n : Nat) (Q : Option Value → Nat → ax_H → Prop), ax_W d 203 0 [.ref 84, .int (nI 5), .int (nI 99), .int (nI 111), .int (nI 117), .int (nI 114), .int (nI 116), ax_dm, ax_dm] [] n (hx S M N) Q = Q (some (.int (bI (wdB B t i 0)))) n (hx S M N) := fun S d n Q => k203 (s := 0) hT hi (by omega) hL S d n Q
  unfold itf
  cases e : wdB B t i 0 with
  | false =>
    rw [e] at kw
    rw [if_neg (by decide)]
    refine ⟨M, ⟨⟨fun q => (ft q).elim, fun _ => hL.1⟩, RG_rf⟩, fun S d n Q => ?_⟩
    simp only [↓s205_0, ↓s205_1, ↓s205_2, ↓s205_4, ↓s205_6, ↓s205_8, ↓s205_10, ↓s205_12, jc_84, gf_84_0, gf_84_1, gf_84_2, gf_84_3, gf_84_4, ok_84_4, gf_84_5, ok_84_5, gf_84_6, ok_84_6, gf_84_7, ok_84_7, gf_84_8, ok_84_8, gf_84_9, ok_84_9, gf_84_10, gf_84_11, gf_84_12, gf_84_13, gf_84_14, gf_84_15, gf_84_16, gf_84_17, ok_84_17, gf_84_18, gf_84_19, ok_84_19, gf_84_20, ok_84_20, gf_84_21, gf_84_22, gf_84_23, gf_84_24, ok_84_24, gf_84_25, ok_84_25, gf_84_26, ok_84_26, gf_84_27, ok_84_27, gf_84_28, ok_84_28, gf_84_29, gf_84_30, ↓kw, ct_s, ct_n, ↓bI_01, bI_eq0, bI_eq1, nI_10, nI_01, dec_f, dec_t, if_n, eq_self, true_or, or_true, if_true, if_false, reduceIte]
    simp only [↓s205_15, ↓s205_18, ↓s205_19, ct_s, ct_n, ↓bI_01, bI_eq0, bI_eq1, nI_10, nI_01, dec_f, dec_t, if_n, eq_self, true_or, or_true, if_true, if_false, reduceIte]
    rfl
  | true =>
    rw [e] at kw
    rw [if_pos rfl, itC_G]
    obtain ⟨M1, ⟨f1, f2⟩, g1⟩ := c202 (N := N) hT hi hL
    have r1 : RG M M1 := RG_f f2
    obtain ⟨M2, ⟨s1, s2, s3, s4⟩, g2⟩ := c204 (N := N) (lo := loC) (hi := hiC) (k := 0) (TXm_rg r1 hT) hE.2.1 (NS_0 f1) (by omega) (b9C 0 (by omega))
    have g2' : ∀ (S : ax_S) (d n : Nat) (Q : Option Value → Nat → ax_H → Prop), ax_W (d + 4) 204 0 [.ref 84, .int (nI 0), .int (nI 0), .int (nI 9)] [] n (hx S M1 N) Q = Q (some (.int (bI (tok B t (loC 0) (hiC 0) (psn B t (tkE B t i) 0))))) n (hx S M2 N) := g2
    have pre : ∀ (S : ax_S) (d n : Nat) (Q : Option Value → Nat → ax_H → Prop), ax_W (d + 5) 205 0 [.ref 84] [] n (hx S M N) Q = ax_W (d + 5) 205 32 [.ref 84] [.int (bI (tok B t (loC 0) (hiC 0) (psn B t (tkE B t i) 0)))] n (hx S M2 N) Q := by
      intro S d n Q
      simp only [↓s205_0, ↓s205_1, ↓s205_2, ↓s205_4, ↓s205_6, ↓s205_8, ↓s205_10, ↓s205_12, jc_84, gf_84_0, gf_84_1, gf_84_2, gf_84_3, gf_84_4, ok_84_4, gf_84_5, ok_84_5, gf_84_6, ok_84_6, gf_84_7, ok_84_7, gf_84_8, ok_84_8, gf_84_9, ok_84_9, gf_84_10, gf_84_11, gf_84_12, gf_84_13, gf_84_14, gf_84_15, gf_84_16, gf_84_17, ok_84_17, gf_84_18, gf_84_19, ok_84_19, gf_84_20, ok_84_20, gf_84_21, gf_84_22, gf_84_23, gf_84_24, ok_84_24, gf_84_25, ok_84_25, gf_84_26, ok_84_26, gf_84_27, ok_84_27, gf_84_28, ok_84_28, gf_84_29, gf_84_30, ↓kw, ct_s, ct_n, ↓bI_01, bI_eq0, bI_eq1, nI_10, nI_01, dec_f, dec_t, if_n, eq_self, true_or, or_true, if_true, if_false, reduceIte]
      simp only [↓s205_15, ↓s205_18, ↓s205_19, ↓s205_20, ↓s205_21, jc_84, gf_84_0, gf_84_1, gf_84_2, gf_84_3, gf_84_4, ok_84_4, gf_84_5, ok_84_5, gf_84_6, ok_84_6, gf_84_7, ok_84_7, gf_84_8, ok_84_8, gf_84_9, ok_84_9, gf_84_10, gf_84_11, gf_84_12, gf_84_13, gf_84_14, gf_84_15, gf_84_16, gf_84_17, ok_84_17, gf_84_18, gf_84_19, ok_84_19, gf_84_20, ok_84_20, gf_84_21, gf_84_22, gf_84_23, gf_84_24, ok_84_24, gf_84_25, ok_84_25, gf_84_26, ok_84_26, gf_84_27, ok_84_27, gf_84_28, ok_84_28, gf_84_29, gf_84_30, ↓g1, ct_s, ct_n, ↓bI_01, bI_eq0, bI_eq1, nI_10, nI_01, dec_f, dec_t, if_n, eq_self, true_or, or_true, if_true, if_false, reduceIte, Bool.true_eq_false]
      simp only [↓s205_24, ↓s205_25, ↓s205_26, ↓s205_27, ↓s205_29, jc_84, gf_84_0, gf_84_1, gf_84_2, gf_84_3, gf_84_4, ok_84_4, gf_84_5, ok_84_5, gf_84_6, ok_84_6, gf_84_7, ok_84_7, gf_84_8, ok_84_8, gf_84_9, ok_84_9, gf_84_10, gf_84_11, gf_84_12, gf_84_13, gf_84_14, gf_84_15, gf_84_16, gf_84_17, ok_84_17, gf_84_18, gf_84_19, ok_84_19, gf_84_20, ok_84_20, gf_84_21, gf_84_22, gf_84_23, gf_84_24, ok_84_24, gf_84_25, ok_84_25, gf_84_26, ok_84_26, gf_84_27, ok_84_27, gf_84_28, ok_84_28, gf_84_29, gf_84_30, ↓g2', ct_s, ct_n, ↓bI_01, bI_eq0, bI_eq1, nI_10, nI_01, dec_f, dec_t, if_n, eq_self, true_or, or_true, if_true, if_false, reduceIte]
    cases ok : tok B t (loC 0) (hiC 0) (psn B t (tkE B t i) 0) with
    | false =>
      rw [ok] at pre
      have em := s2 ok
      have j := JR_ff (JG_f (M2 := M2) (lo := loC) (hi := hiC) (len := 1) (j := 0) (A := A) (A2 := begA (nI (nmV B t (tkE B t i) 0))) (fun l hl => absurd hl (Nat.not_lt_zero l)) ok (by omega) (by rw [em]; exact f1.1))
      refine ⟨M2, ⟨⟨fun q => (ft (j.1.symm.trans q)).elim, fun _ => j.2⟩, RG_tr r1 s3⟩, fun S d n Q => ?_⟩
      rw [pre, j.1]
      simp only [↓s205_32, ↓s205_35, ↓s205_36, ct_s, ct_n, ↓bI_01, bI_eq0, bI_eq1, nI_10, nI_01, dec_f, dec_t, if_n, eq_self, true_or, or_true, if_true, if_false, reduceIte]
      rfl
    | true =>
      rw [ok] at pre
      obtain ⟨n1, n2, n3⟩ := s1 ok
      have v0 : M2 101 0 = nI (nmV B t (tkE B t i) 0) := n3 0 (by omega)
      obtain ⟨M3, hM3⟩ : ∃ M3, M3 = ux (z0M M2 100 181) 100 1 (nI (nmV B t (tkE B t i) 0)) := ⟨_, rfl⟩
      have o3 : ∀ a, a ≠ 100 → M3 a = M2 a := fun a ha => by
        rw [hM3, ux_f ha]
        funext j
        unfold z0M
        rw [if_neg (fun q => ha q.1)]
      have hL3 : LM M3 B t (psn B t (tkE B t i) 1) := by
        unfold LM
        rw [o3 84 (by decide)]
        exact n1
      have hA3 : ∀ j, j < 181 → M3 100 j = begA (nI (nmV B t (tkE B t i) 0)) j := by rw [hM3]; exact beg_at
      have j := JF_t (JG_t (M2 := M3) (lo := loC) (hi := hiC) (len := 1) (A := A) (A2 := begA (nI (nmV B t (tkE B t i) 0))) hE.2.1 n2 hL3 hA3)
      have r3 : RG M M3 := RG_tr r1 (RG_tr s3 ⟨fun a _ q _ => o3 a q, fun j _ => by rw [o3 84 (by decide)]⟩)
      have mb := tkM_bd (B := B) (t := t) (i := psn B t (tkE B t i) 1)
      have pre2 : ∀ (S : ax_S) (d n : Nat) (Q : Option Value → Nat → ax_H → Prop), ax_W (d + 5) 205 0 [.ref 84] [] n (hx S M N) Q = ax_W (d + 5) 205 55 [.ref 84] [.int (nI 3), .int (nI (tkM B t (psn B t (tkE B t i) 1)))] n (hx S M3 N) Q := by
        intro S d n Q
        rw [pre]
        simp only [↓s205_32, ↓s205_35, ↓s205_36, ↓s205_37, ↓s205_38, ↓s205_41, ↓s205_42, ↓s205_45, ↓s205_46, ↓s205_47, jc_84, gf_84_0, gf_84_1, gf_84_2, gf_84_3, gf_84_4, ok_84_4, gf_84_5, ok_84_5, gf_84_6, ok_84_6, gf_84_7, ok_84_7, gf_84_8, ok_84_8, gf_84_9, ok_84_9, gf_84_10, gf_84_11, gf_84_12, gf_84_13, gf_84_14, gf_84_15, gf_84_16, gf_84_17, ok_84_17, gf_84_18, gf_84_19, ok_84_19, gf_84_20, ok_84_20, gf_84_21, gf_84_22, gf_84_23, gf_84_24, ok_84_24, gf_84_25, ok_84_25, gf_84_26, ok_84_26, gf_84_27, ok_84_27, gf_84_28, ok_84_28, gf_84_29, gf_84_30, al_101 (show 0 < 5 by decide), v0, ↓c139 oka_100, ← hM3, ct_s, ct_n, ↓bI_01, bI_eq0, bI_eq1, nI_10, nI_01, dec_f, dec_t, if_n, eq_self, true_or, or_true, if_true, if_false, reduceIte, Bool.true_eq_false]
        simp only [↓s205_50, ↓s205_51, ↓s205_54, jc_84, gf_84_0, gf_84_1, gf_84_2, gf_84_3, gf_84_4, ok_84_4, gf_84_5, ok_84_5, gf_84_6, ok_84_6, gf_84_7, ok_84_7, gf_84_8, ok_84_8, gf_84_9, ok_84_9, gf_84_10, gf_84_11, gf_84_12, gf_84_13, gf_84_14, gf_84_15, gf_84_16, gf_84_17, ok_84_17, gf_84_18, gf_84_19, ok_84_19, gf_84_20, ok_84_20, gf_84_21, gf_84_22, gf_84_23, gf_84_24, ok_84_24, gf_84_25, ok_84_25, gf_84_26, ok_84_26, gf_84_27, ok_84_27, gf_84_28, ok_84_28, gf_84_29, gf_84_30, hL3.2.2.1, ct_s, ct_n, ↓bI_01, bI_eq0, bI_eq1, nI_10, nI_01, dec_f, dec_t, if_n, eq_self, true_or, or_true, if_true, if_false, reduceIte]
      cases er : (itG B t loC hiC 1 (tkE B t i) A (begA (nI (nmV B t (tkE B t i) 0)))).1 with
      | true =>
        obtain ⟨p, p1, p2, p3, p4, p5⟩ := j.1 er
        have k3 : tkK B t (psn B t (tkE B t i) 1) = 3 := by
          unfold itG at er
          by_cases z : nmK B t loC hiC 1 (tkE B t i) = true
          · exact (of_decide_eq_true z).2
          · rw [if_neg z] at er; cases er
        refine ⟨M3, ⟨⟨fun _ => ⟨p, p1, p2, p4, p5⟩, fun q => (ft (q.symm.trans er)).elim⟩, r3⟩, fun S d n Q => ?_⟩
        rw [pre2, (tkM_1 (by omega)).mpr k3]
        simp only [↓s205_55, ↓s205_58, ↓s205_59, ↓s205_62, ↓s205_63, ct_s, ct_n, ↓bI_01, bI_eq0, bI_eq1, nI_10, nI_01, dec_f, dec_t, if_n, eq_self, true_or, or_true, if_true, if_false, reduceIte]
        rfl
      | false =>
        obtain ⟨p, p1, p2, p3, p4⟩ := j.2 er
        have k3 : ¬ tkK B t (psn B t (tkE B t i) 1) = 3 := fun z => by
          have q : nmQ B t loC hiC 1 (tkE B t i) = 1 := by
            have := ldF_all (f := fun j => tok B t (loC j) (hiC j) (psn B t (tkE B t i) j)) 1 0 (fun l _ h => n2 l (by omega))
            unfold nmQ
            rw [this]
          have k : nmK B t loC hiC 1 (tkE B t i) = true := decide_eq_true ⟨q, z⟩
          unfold itG at er
          rw [if_pos k] at er
          cases er
        refine ⟨M3, ⟨⟨fun q => (ft (er.symm.trans q)).elim, fun _ => by rw [p4]; exact p2.1⟩, r3⟩, fun S d n Q => ?_⟩
        rw [pre2]
        simp only [↓s205_55, ct_s, ct_n, ↓bI_01, bI_eq0, bI_eq1, nI_10, nI_01, dec_f, dec_t, if_n, eq_self, true_or, or_true, if_true, if_false, reduceIte]
        rw [if_neg (fun q => k3 ((tkM_1 (by omega)).mp ((nI_eq (a := tkM B t (psn B t (tkE B t i) 1)) (b := 3) (by omega) (by omega)).mp q)))]
        simp only [↓s205_62, ↓s205_63, ct_s, ct_n, ↓bI_01, bI_eq0, bI_eq1, nI_10, nI_01, dec_f, dec_t, if_n, eq_self, true_or, or_true, if_true, if_false, reduceIte]
        rfl
/-- book -/
theorem c207 {g : Int32} (hT : TXm M B t) (hi : i ≤ t) (hL : LM M B t i) (hA : ∀ j, j < 181 → M 100 j = A j) : ∃ (M2 : ax_M) (b : Bool), (JR B t M2 b (itB B t i g A) ∧ RG M M2) ∧ ∀ (S : ax_S) (d n : Nat) (Q : Option Value → Nat → ax_H → Prop), ax_W (d + 5) 207 0 [.ref 84, .int g] [] n (hx S M N) Q = Q (some (.int (bI b))) n (hx S M2 N) := by
  have hE := tkE_bd (B := B) hi
  have he := hE.2.1
  rw [itB_G]
  obtain ⟨M0, ⟨f1, f2⟩, g0⟩ := c202 (N := N) hT hi hL
  have r0 : RG M M0 := RG_f f2
  obtain ⟨M1, ⟨s1, s2, s3, s4⟩, g1⟩ := c204 (N := N) (lo := loF) (hi := hiF) (k := 0) (TXm_rg r0 hT) he (NS_0 f1) (by omega) (b9F 0 (by omega))
  have g1' : ∀ (S : ax_S) (d n : Nat) (Q : Option Value → Nat → ax_H → Prop), ax_W (d + 4) 204 0 [.ref 84, .int (nI 0), .int (nI 0), .int (nI 4)] [] n (hx S M0 N) Q = Q (some (.int (bI (tok B t (loF 0) (hiF 0) (psn B t (tkE B t i) 0))))) n (hx S M1 N) := g1
  have r1 := RG_tr r0 s3
  cases ok0 : tok B t (loF 0) (hiF 0) (psn B t (tkE B t i) 0) with
  | false =>
    rw [ok0] at g1'
    refine ⟨M1, false, ⟨JG_f (j := 0) (fun l hl => absurd hl (Nat.not_lt_zero l)) ok0 (by omega) (by rw [s2 ok0]; exact f1.1), r1⟩, fun S d n Q => ?_⟩
    simp only [↓s207_0, ↓s207_1, ↓s207_4, ↓s207_5, ↓s207_6, ↓s207_7, ↓s207_8, jc_84, gf_84_0, gf_84_1, gf_84_2, gf_84_3, gf_84_4, ok_84_4, gf_84_5, ok_84_5, gf_84_6, ok_84_6, gf_84_7, ok_84_7, gf_84_8, ok_84_8, gf_84_9, ok_84_9, gf_84_10, gf_84_11, gf_84_12, gf_84_13, gf_84_14, gf_84_15, gf_84_16, gf_84_17, ok_84_17, gf_84_18, gf_84_19, ok_84_19, gf_84_20, ok_84_20, gf_84_21, gf_84_22, gf_84_23, gf_84_24, ok_84_24, gf_84_25, ok_84_25, gf_84_26, ok_84_26, gf_84_27, ok_84_27, gf_84_28, ok_84_28, gf_84_29, gf_84_30, ↓g0, ↓g1', ct_s, ct_n, ↓bI_01, bI_eq0, bI_eq1, nI_10, nI_01, dec_f, dec_t, if_n, eq_self, true_or, or_true, if_true, if_false, reduceIte]
    simp only [↓s207_11, ↓s207_34, ↓s207_35, ct_s, ct_n, ↓bI_01, bI_eq0, bI_eq1, nI_10, nI_01, dec_f, dec_t, if_n, eq_self, true_or, or_true, if_true, if_false, reduceIte]
    rfl
  | true =>
    rw [ok0] at g1'
    have n1 := s1 ok0
    obtain ⟨M2, ⟨t1, t2, t3, t4⟩, g2⟩ := c204 (N := N) (lo := loF) (hi := hiF) (k := 1) (TXm_rg r1 hT) he n1 (by omega) (b9F 1 (by omega))
    have g2' : ∀ (S : ax_S) (d n : Nat) (Q : Option Value → Nat → ax_H → Prop), ax_W (d + 4) 204 0 [.ref 84, .int (nI 1), .int (nI 0), .int (nI 4)] [] n (hx S M1 N) Q = Q (some (.int (bI (tok B t (loF 1) (hiF 1) (psn B t (tkE B t i) 1))))) n (hx S M2 N) := g2
    have r2 := RG_tr r1 t3
    cases ok1 : tok B t (loF 1) (hiF 1) (psn B t (tkE B t i) 1) with
    | false =>
      rw [ok1] at g2'
      refine ⟨M2, false, ⟨JG_f (j := 1) n1.2.1 ok1 (by omega) (by rw [t2 ok1]; exact n1.1.1), r2⟩, fun S d n Q => ?_⟩
      simp only [↓s207_0, ↓s207_1, ↓s207_4, ↓s207_5, ↓s207_6, ↓s207_7, ↓s207_8, jc_84, gf_84_0, gf_84_1, gf_84_2, gf_84_3, gf_84_4, ok_84_4, gf_84_5, ok_84_5, gf_84_6, ok_84_6, gf_84_7, ok_84_7, gf_84_8, ok_84_8, gf_84_9, ok_84_9, gf_84_10, gf_84_11, gf_84_12, gf_84_13, gf_84_14, gf_84_15, gf_84_16, gf_84_17, ok_84_17, gf_84_18, gf_84_19, ok_84_19, gf_84_20, ok_84_20, gf_84_21, gf_84_22, gf_84_23, gf_84_24, ok_84_24, gf_84_25, ok_84_25, gf_84_26, ok_84_26, gf_84_27, ok_84_27, gf_84_28, ok_84_28, gf_84_29, gf_84_30, ↓g0, ↓g1', ct_s, ct_n, ↓bI_01, bI_eq0, bI_eq1, nI_10, nI_01, dec_f, dec_t, if_n, eq_self, true_or, or_true, if_true, if_false, reduceIte]
      simp only [↓s207_11, ↓s207_14, ↓s207_15, ↓s207_16, ↓s207_17, ↓s207_18, jc_84, gf_84_0, gf_84_1, gf_84_2, gf_84_3, gf_84_4, ok_84_4, gf_84_5, ok_84_5, gf_84_6, ok_84_6, gf_84_7, ok_84_7, gf_84_8, ok_84_8, gf_84_9, ok_84_9, gf_84_10, gf_84_11, gf_84_12, gf_84_13, gf_84_14, gf_84_15, gf_84_16, gf_84_17, ok_84_17, gf_84_18, gf_84_19, ok_84_19, gf_84_20, ok_84_20, gf_84_21, gf_84_22, gf_84_23, gf_84_24, ok_84_24, gf_84_25, ok_84_25, gf_84_26, ok_84_26, gf_84_27, ok_84_27, gf_84_28, ok_84_28, gf_84_29, gf_84_30, ↓g2', ct_s, ct_n, ↓bI_01, bI_eq0, bI_eq1, nI_10, nI_01, dec_f, dec_t, if_n, eq_self, true_or, or_true, if_true, if_false, reduceIte, Bool.true_eq_false]
      simp only [↓s207_21, ↓s207_34, ↓s207_35, ct_s, ct_n, ↓bI_01, bI_eq0, bI_eq1, nI_10, nI_01, dec_f, dec_t, if_n, eq_self, true_or, or_true, if_true, if_false, reduceIte]
      rfl
    | true =>
      rw [ok1] at g2'
      have n2 := t1 ok1
      obtain ⟨M3, ⟨u1, u2, u3, u4⟩, g3⟩ := c204 (N := N) (lo := loF) (hi := hiF) (k := 2) (TXm_rg r2 hT) he n2 (by omega) (b9F 2 (by omega))
      have g3' : ∀ (S : ax_S) (d n : Nat) (Q : Option Value → Nat → ax_H → Prop), ax_W (d + 4) 204 0 [.ref 84, .int (nI 2), .int (nI 0), .int (nI 3)] [] n (hx S M2 N) Q = Q (some (.int (bI (tok B t (loF 2) (hiF 2) (psn B t (tkE B t i) 2))))) n (hx S M3 N) := g3
      have r3 := RG_tr r2 u3
      have pre : ∀ (S : ax_S) (d n : Nat) (Q : Option Value → Nat → ax_H → Prop), ax_W (d + 5) 207 0 [.ref 84, .int g] [] n (hx S M N) Q = ax_W (d + 5) 207 31 [.ref 84, .int g] [.int (bI (tok B t (loF 2) (hiF 2) (psn B t (tkE B t i) 2)))] n (hx S M3 N) Q := by
        intro S d n Q
        simp only [↓s207_0, ↓s207_1, ↓s207_4, ↓s207_5, ↓s207_6, ↓s207_7, ↓s207_8, jc_84, gf_84_0, gf_84_1, gf_84_2, gf_84_3, gf_84_4, ok_84_4, gf_84_5, ok_84_5, gf_84_6, ok_84_6, gf_84_7, ok_84_7, gf_84_8, ok_84_8, gf_84_9, ok_84_9, gf_84_10, gf_84_11, gf_84_12, gf_84_13, gf_84_14, gf_84_15, gf_84_16, gf_84_17, ok_84_17, gf_84_18, gf_84_19, ok_84_19, gf_84_20, ok_84_20, gf_84_21, gf_84_22, gf_84_23, gf_84_24, ok_84_24, gf_84_25, ok_84_25, gf_84_26, ok_84_26, gf_84_27, ok_84_27, gf_84_28, ok_84_28, gf_84_29, gf_84_30, ↓g0, ↓g1', ct_s, ct_n, ↓bI_01, bI_eq0, bI_eq1, nI_10, nI_01, dec_f, dec_t, if_n, eq_self, true_or, or_true, if_true, if_false, reduceIte]
        simp only [↓s207_11, ↓s207_14, ↓s207_15, ↓s207_16, ↓s207_17, ↓s207_18, jc_84, gf_84_0, gf_84_1, gf_84_2, gf_84_3, gf_84_4, ok_84_4, gf_84_5, ok_84_5, gf_84_6, ok_84_6, gf_84_7, ok_84_7, gf_84_8, ok_84_8, gf_84_9, ok_84_9, gf_84_10, gf_84_11, gf_84_12, gf_84_13, gf_84_14, gf_84_15, gf_84_16, gf_84_17, ok_84_17, gf_84_18, gf_84_19, ok_84_19, gf_84_20, ok_84_20, gf_84_21, gf_84_22, gf_84_23, gf_84_24, ok_84_24, gf_84_25, ok_84_25, gf_84_26, ok_84_26, gf_84_27, ok_84_27, gf_84_28, ok_84_28, gf_84_29, gf_84_30, ↓g2', ct_s, ct_n, ↓bI_01, bI_eq0, bI_eq1, nI_10, nI_01, dec_f, dec_t, if_n, eq_self, true_or, or_true, if_true, if_false, reduceIte, Bool.true_eq_false]
        simp only [↓s207_21, ↓s207_24, ↓s207_25, ↓s207_26, ↓s207_27, ↓s207_28, jc_84, gf_84_0, gf_84_1, gf_84_2, gf_84_3, gf_84_4, ok_84_4, gf_84_5, ok_84_5, gf_84_6, ok_84_6, gf_84_7, ok_84_7, gf_84_8, ok_84_8, gf_84_9, ok_84_9, gf_84_10, gf_84_11, gf_84_12, gf_84_13, gf_84_14, gf_84_15, gf_84_16, gf_84_17, ok_84_17, gf_84_18, gf_84_19, ok_84_19, gf_84_20, ok_84_20, gf_84_21, gf_84_22, gf_84_23, gf_84_24, ok_84_24, gf_84_25, ok_84_25, gf_84_26, ok_84_26, gf_84_27, ok_84_27, gf_84_28, ok_84_28, gf_84_29, gf_84_30, ↓g3', ct_s, ct_n, ↓bI_01, bI_eq0, bI_eq1, nI_10, nI_01, dec_f, dec_t, if_n, eq_self, true_or, or_true, if_true, if_false, reduceIte, Bool.true_eq_false]
      cases ok2 : tok B t (loF 2) (hiF 2) (psn B t (tkE B t i) 2) with
      | false =>
        rw [ok2] at pre
        refine ⟨M3, false, ⟨JG_f (j := 2) n2.2.1 ok2 (by omega) (by rw [u2 ok2]; exact n2.1.1), r3⟩, fun S d n Q => ?_⟩
        rw [pre]
        simp only [↓s207_31, ↓s207_34, ↓s207_35, ct_s, ct_n, ↓bI_01, bI_eq0, bI_eq1, nI_10, nI_01, dec_f, dec_t, if_n, eq_self, true_or, or_true, if_true, if_false, reduceIte]
        rfl
      | true =>
        rw [ok2] at pre
        obtain ⟨q1, q2, q3⟩ := u1 ok2
        have v0 := tok_v (q2 0 (by omega))
        have v1 := tok_v (q2 1 (by omega))
        have w0 : hiF 0 = 4 ∧ hiF 1 = 4 := by decide
        have x0 : nmV B t (tkE B t i) 0 ≤ 4 := by have := v0.2.2.2; rw [w0.1] at this; exact this
        have x1 : nmV B t (tkE B t i) 1 ≤ 4 := by have := v1.2.2.2; rw [w0.2] at this; exact this
        have e0 := q3 0 (by omega)
        have e1 := q3 1 (by omega)
        have e2 := q3 2 (by omega)
        generalize hw : nmV B t (tkE B t i) = w at *
        obtain ⟨M4, hM4⟩ : ∃ M4, M4 = ux M3 100 (46 + 5 * w 0 + w 1) (g * nI (w 2)) := ⟨_, rfl⟩
        have o4 : ∀ a, a ≠ 100 → M4 a = M3 a := fun a ha => by rw [hM4, ux_f ha]
        have hL4 : LM M4 B t (psn B t (tkE B t i) 3) := by
          unfold LM
          rw [o4 84 (by decide)]
          exact q1
        have a3 : M3 100 = M 100 := by rw [u4, t4, s4, f2.1 100 (by decide)]
        refine ⟨M4, true, ⟨JG_t he q2 hL4 (fun j hj => ?_), RG_tr r3 ⟨fun a _ q _ => o4 a q, fun j _ => by rw [o4 84 (by decide)]⟩⟩, fun S d n Q => ?_⟩
        · rw [hM4]
          by_cases z : j = 46 + 5 * w 0 + w 1
          · rw [z, ux_s, pk_us]
          · rw [ux_j z, pk_un z, a3]; exact hA j hj
        · rw [pre]
          simp only [↓s207_31, ↓s207_34, ↓s207_35, ↓s207_36, ↓s207_37, ↓s207_40, ↓s207_42, ↓s207_43, ↓s207_44, ↓s207_47, ↓s207_48, ↓s207_49, ↓s207_50, ↓s207_51, jc_84, gf_84_0, gf_84_1, gf_84_2, gf_84_3, gf_84_4, ok_84_4, gf_84_5, ok_84_5, gf_84_6, ok_84_6, gf_84_7, ok_84_7, gf_84_8, ok_84_8, gf_84_9, ok_84_9, gf_84_10, gf_84_11, gf_84_12, gf_84_13, gf_84_14, gf_84_15, gf_84_16, gf_84_17, ok_84_17, gf_84_18, gf_84_19, ok_84_19, gf_84_20, ok_84_20, gf_84_21, gf_84_22, gf_84_23, gf_84_24, ok_84_24, gf_84_25, ok_84_25, gf_84_26, ok_84_26, gf_84_27, ok_84_27, gf_84_28, ok_84_28, gf_84_29, gf_84_30, al_101 (show 0 < 5 by decide), e0, pk_mul, nI_add, ct_s, ct_n, ↓bI_01, bI_eq0, bI_eq1, nI_10, nI_01, dec_f, dec_t, if_n, eq_self, true_or, or_true, if_true, if_false, reduceIte, Bool.true_eq_false]
          simp only [↓s207_52, ↓s207_55, ↓s207_56, ↓s207_57, ↓s207_58, ↓s207_59, ↓s207_60, ↓s207_63, ↓s207_64, ↓s207_65, ↓s207_66, jc_84, gf_84_0, gf_84_1, gf_84_2, gf_84_3, gf_84_4, ok_84_4, gf_84_5, ok_84_5, gf_84_6, ok_84_6, gf_84_7, ok_84_7, gf_84_8, ok_84_8, gf_84_9, ok_84_9, gf_84_10, gf_84_11, gf_84_12, gf_84_13, gf_84_14, gf_84_15, gf_84_16, gf_84_17, ok_84_17, gf_84_18, gf_84_19, ok_84_19, gf_84_20, ok_84_20, gf_84_21, gf_84_22, gf_84_23, gf_84_24, ok_84_24, gf_84_25, ok_84_25, gf_84_26, ok_84_26, gf_84_27, ok_84_27, gf_84_28, ok_84_28, gf_84_29, gf_84_30, al_101 (show 1 < 5 by decide), al_101 (show 2 < 5 by decide), e1, e2, nI_add, sa_100 (show 46 + 5 * w 0 + w 1 < 181 by omega), ← hM4, ct_s, ct_n, ↓bI_01, bI_eq0, bI_eq1, nI_10, nI_01, dec_f, dec_t, if_n, eq_self, true_or, or_true, if_true, if_false, reduceIte]
          simp only [↓s207_67, ↓s207_68, ct_s, ct_n, ↓bI_01, bI_eq0, bI_eq1, nI_10, nI_01, dec_f, dec_t, if_n, eq_self, true_or, or_true, if_true, if_false, reduceIte]
          rfl
end RefItems
