/-! ===== read: answers alike ===== -/
section Read6
variable {M M1 M2 : ax_M} {N : ax_L} {t i : Nat} {B : Nat → Nat} {A A2 : ax_A0}
theorem itG_bd {lo hi : Nat → Nat} {len e : Nat} (he : e ≤ t) (h : (itG B t lo hi len e A A2).1 = false) : (itG B t lo hi len e A A2).2.1 ≤ t := by
  unfold itG at h ⊢
  by_cases k : nmK B t lo hi len e = true
  · rw [if_pos k] at h; cases h
  · rw [if_neg k]
    exact (tkP_bd (psn_bd he _)).2
theorem itm_bd (hi : i ≤ t) (h : (itm B t i A).1 = false) : (itm B t i A).2.1 ≤ t := by
  have hE := (tkE_bd (B := B) hi).2.1
  have hP := (tkP_bd (B := B) hi).2
  unfold itm at h ⊢
  by_cases e1 : wdB B t i 1 = true
  · rw [if_pos e1] at h ⊢
    by_cases h8 : ndA A = 8
    · unfold itD
      rw [if_pos h8]
      exact hP
    · rw [itD_G h8] at h ⊢
      exact itG_bd hE h
  · rw [if_neg e1] at h ⊢
    by_cases e2 : wdB B t i 2 = true
    · rw [if_pos e2] at h ⊢
      rw [itB_G] at h ⊢
      exact itG_bd hE h
    · rw [if_neg e2] at h ⊢
      by_cases e3 : wdB B t i 3 = true
      · rw [if_pos e3] at h ⊢
        rw [itB_G] at h ⊢
        exact itG_bd hE h
      · rw [if_neg e3]
        exact hP
theorem prs_bd : ∀ c m i A, i ≤ t → WF A → (prs B t c m i A).1 = false → (prs B t c m i A).2.1 ≤ t := by
  intro c
  induction c with
  | zero => intro m i A _ _ _; exact Nat.le_refl t
  | succ c ih =>
    intro m i A hi hW h
    rw [show prs B t (c + 1) m i A = if tkK B t i = 0 then (true, m, A) else if (itm B t i A).1 = true then prs B t c (m + 1) (itm B t i A).2.1 (itm B t i A).2.2 else (false, (itm B t i A).2.1, A) from rfl] at h ⊢
    by_cases h0 : tkK B t i = 0
    · rw [if_pos h0] at h; cases h
    · rw [if_neg h0] at h ⊢
      by_cases h1 : (itm B t i A).1 = true
      · rw [if_pos h1] at h ⊢
        have ok := itm_ok hi hW h1
        exact ih _ _ _ ok.1.2 ok.2 h
      · rw [if_neg h1]
        exact itm_bd hi (by
          cases e : (itm B t i A).1 with
          | true => exact absurd e h1
          | false => rfl)
theorem rd_bd (h : (rdP B t A).1 = false) : (rdP B t A).2.1 ≤ t := by
  unfold rdP at h ⊢
  by_cases h1 : (itf B t 0 A).1 = true
  · rw [if_pos h1] at h ⊢
    have ok := itf_ok (Nat.zero_le t) h1
    exact prs_bd _ _ _ _ ok.1.2 ok.2 h
  · rw [if_neg h1]
    show (itf B t 0 A).2.1 ≤ t
    have hE := (tkE_bd (B := B) (Nat.zero_le t)).2.1
    have hP := (tkP_bd (B := B) (Nat.zero_le t)).2
    unfold itf at h1 ⊢
    by_cases e : wdB B t 0 0 = true
    · rw [if_pos e] at h1 ⊢
      rw [itC_G] at h1 ⊢
      exact itG_bd hE (by
        cases e : (itG B t loC hiC 1 (tkE B t 0) A (begA (nI (nmV B t (tkE B t 0) 0)))).1 with
        | true => exact absurd e h1
        | false => rfl)
    · rw [if_neg e]
      exact hP
theorem rd_ok (h : (rdP B t A).1 = true) : (1 ≤ (rdP B t A).2.1 ∧ (rdP B t A).2.1 ≤ t + 1) ∧ WF (rdP B t A).2.2 := by
  unfold rdP at h ⊢
  by_cases h1 : (itf B t 0 A).1 = true
  · rw [if_pos h1] at h ⊢
    have ok := itf_ok (Nat.zero_le t) h1
    have := prs_ok t 1 _ _ ok.1.2 (Nat.le_refl 1) ok.2 h
    exact ⟨by omega, this.2⟩
  · rw [if_neg h1] at h; cases h
theorem p6 (hI : Inv M N) : RPi 87 209 [.ref 20, ax_dm] [.ref 84, ax_dm, ax_dm] M N := by
  obtain ⟨t, t1, t2, t3, t4⟩ := hI.2.2.2.1
  obtain ⟨B, hB⟩ : ∃ B : Nat → Nat, B = fun i => tn (M 99 i) := ⟨_, rfl⟩
  have hb : ∀ i, i < t → M 99 i = nI (B i) ∧ B i < 128 := fun i hi => by
    obtain ⟨-, c, c1, c2⟩ := t4 i hi
    have e : B i = c := by rw [hB]; show tn (M 99 i) = c; rw [c2, tn_nI (by omega)]
    rw [e]
    exact ⟨c2, c1⟩
  have hTc : TXc M B t := ⟨t2, t1, fun i hi => ⟨(t4 i hi).1.trans (hb i hi).1, (hb i hi).2⟩⟩
  have hTm : TXm M B t := ⟨t3, t1, hb⟩
  obtain ⟨M1, ⟨f1, f2⟩, g1⟩ := c43 (N := N) (A := M 85) hTc
  have k84 : M1 84 = M 84 := f2 84 (by omega) (by omega)
  have k99 : M1 99 = M 99 := f2 99 (by omega) (by omega)
  cases er : (rdP B t (M 85)).1 with
  | false =>
    have pb := rd_bd er
    obtain ⟨M2, ⟨h1, h2, h3, h4⟩, g2⟩ := c209 (N := N) (A := M 85) (TXm_eq (by rw [k84]) k99 hTm)
    have ea : anR (rdP B t (M 85)) = iI (-10 - ((rdP B t (M 85)).2.1 : Int)) := by
      unfold anR
      rw [if_neg (by rw [er]; decide), iI_nat, show (-10 : Int32) = iI (-10) by decide, iI_sub]
    have sc2 : sc M M2 := by
      refine ⟨fun a ha => ?_, ?_⟩
      · by_cases z : a = 85
        · rw [z, h2 er]; exact f2 85 (by omega) (by omega)
        · rw [h3 a (by omega) z (by omega) (by omega)]; exact f2 a (by omega) (by omega)
      · rw [h4 24 (by omega), k84]
    refine ⟨anR (rdP B t (M 85)), M1, N, M2, N, fun S d n Q => ?_, fun S d n Q => g2 S (d + 893) n Q, Inv_sc sc2 hI⟩
    have g1' : ∀ (n : Nat) (Q : Option Value → Nat → ax_H → Prop), ax_W (d + 899) 43 0 [.ref 69, .ref 32, ax_dm] [] n (hx S M N) Q = Q (some (.int (anR (rdP B t (M 85))))) n (hx S M1 N) := fun n Q => g1 S (d + 891) n Q
    simp only [↓s87_0, ↓s87_1, ↓s87_4, ↓s87_5, ↓s87_8, ↓s87_11, ↓s87_12, ↓s87_13, jc_20, gf_20_0, gf_20_1, gf_20_2, gf_20_3, gf_20_4, gf_20_5, gf_20_6, gf_20_7, gf_20_8, gf_20_9, gf_20_10, gf_20_11, ok_20_11, gf_20_12, ok_20_12, gf_20_13, ok_20_13, gf_20_14, ok_20_14, gf_20_15, ok_20_15, jc_69, ↓g1', ct_s, ct_n, ↓bI_01, bI_eq0, bI_eq1, nI_10, nI_01, dec_f, dec_t, if_n, eq_self, true_or, or_true, if_true, if_false, reduceIte]
    rw [if_pos (by rw [ea, show nI 0 = iI 0 by decide, iI_le (by omega) (by omega) (by omega) (by omega)]; omega)]
    simp only [↓s87_27, ↓s87_28, ct_s, ct_n, ↓bI_01, bI_eq0, bI_eq1, nI_10, nI_01, dec_f, dec_t, if_n, eq_self, true_or, or_true, if_true, if_false, reduceIte]
  | true =>
    obtain ⟨⟨b1, b2⟩, hW⟩ := rd_ok er
    obtain ⟨M3, g3, q3, o3⟩ := c2 (M := M1) (c := 21) (e := 32) (Or.inl rfl) (Or.inr (Or.inl rfl)) (by decide)
    have hC3 := q3 _ hW (f1 er)
    obtain ⟨M2, ⟨h1, h2, h3, h4⟩, g2⟩ := c209 (N := N) (A := M 85) (M := M3) (TXm_eq (by rw [o3 84 (by omega), k84]) (by rw [o3 99 (by omega), k99]) hTm)
    have hA := h1 er
    have ea : anR (rdP B t (M 85)) = nI (rdP B t (M 85)).2.1 := by unfold anR; rw [if_pos er]
    refine ⟨anR (rdP B t (M 85)), M3, N, M2, N, fun S d n Q => ?_, fun S d n Q => g2 S (d + 893) n Q, ?_⟩
    · have g1' : ∀ (n : Nat) (Q : Option Value → Nat → ax_H → Prop), ax_W (d + 899) 43 0 [.ref 69, .ref 32, ax_dm] [] n (hx S M N) Q = Q (some (.int (anR (rdP B t (M 85))))) n (hx S M1 N) := fun n Q => g1 S (d + 891) n Q
      have g3' : ∀ (n : Nat) (Q : Option Value → Nat → ax_H → Prop), ax_W (d + 899) 2 0 [.ref 21, .ref 32] [] n (hx S M1 N) Q = Q none n (hx S M3 N) := fun n Q => g3 N S (d + 897) n Q
      simp only [↓s87_0, ↓s87_1, ↓s87_4, ↓s87_5, ↓s87_8, ↓s87_11, ↓s87_12, ↓s87_13, jc_20, gf_20_0, gf_20_1, gf_20_2, gf_20_3, gf_20_4, gf_20_5, gf_20_6, gf_20_7, gf_20_8, gf_20_9, gf_20_10, gf_20_11, ok_20_11, gf_20_12, ok_20_12, gf_20_13, ok_20_13, gf_20_14, ok_20_14, gf_20_15, ok_20_15, jc_69, ↓g1', ct_s, ct_n, ↓bI_01, bI_eq0, bI_eq1, nI_10, nI_01, dec_f, dec_t, if_n, eq_self, true_or, or_true, if_true, if_false, reduceIte]
      rw [if_neg (by rw [ea]; exact nI_ge (a := 0) (b := (rdP B t (M 85)).2.1) (by omega) (by omega))]
      simp only [↓s87_16, ↓s87_17, ↓s87_20, ↓s87_21, ↓s87_24, ↓s87_27, ↓s87_28, jc_20, gf_20_0, gf_20_1, gf_20_2, gf_20_3, gf_20_4, gf_20_5, gf_20_6, gf_20_7, gf_20_8, gf_20_9, gf_20_10, gf_20_11, ok_20_11, gf_20_12, ok_20_12, gf_20_13, ok_20_13, gf_20_14, ok_20_14, gf_20_15, ok_20_15, jc_21, ↓g3', ct_s, ct_n, ↓bI_01, bI_eq0, bI_eq1, nI_10, nI_01, dec_f, dec_t, if_n, eq_self, true_or, or_true, if_true, if_false, reduceIte]
    · have hC2 : RC M2 21 (rdP B t (M 85)).2.2 := RC_keepc (fun a _ _ => h3 a (by omega) (by omega) (by omega) (by omega)) hC3
      refine Inv_court (A := M2 85) (RC_181 hA hW hC2) rfl (WF_181 hA hW) (fun a ha => ?_) ?_ hI
      · rw [h3 a (by omega) (by omega) (by omega) (by omega), o3 a (by omega)]
        exact f2 a (by omega) (by omega)
      · rw [h4 24 (by omega), o3 84 (by omega), k84]
end Read6
