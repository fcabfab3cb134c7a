/-! ===== the first call finds what must hold ===== -/
theorem tn_0 : tn (nI 0) = 0 := tn_nI (by decide)
theorem Inv_0 : Inv M0 N0 := by
  obtain ⟨⟨a1, a2, a3, a4, a5, a6, a7⟩, ⟨b1, b2, b3, b4⟩, ⟨c1, c2⟩, ⟨d1, d2, d3⟩, ⟨e1, e2⟩⟩ := M0_is
  have z : ∀ j, j ≠ 1 → begA (nI 5) j = nI 0 := fun j hj => by unfold begA; rw [if_neg hj]
  have q : ∀ j, j < 181 → j ≠ 1 → M0 85 j = nI 0 := fun j hj h1 => by rw [M0_85 j hj, z j h1]
  have q1 : M0 85 1 = nI 5 := by rw [M0_85 1 (by omega)]; rfl
  have n0 : ndA (M0 85) = 0 := by unfold ndA; rw [q 0 (by omega) (by omega)]; exact tn_0
  have n3 : ncA (M0 85) = 0 := by unfold ncA; rw [q 3 (by omega) (by omega)]; exact tn_0
  have n4 : nmA (M0 85) = 0 := by unfold nmA; rw [q 4 (by omega) (by omega)]; exact tn_0
  have n5 : nrA (M0 85) = 0 := by unfold nrA; rw [q 5 (by omega) (by omega)]; exact tn_0
  refine ⟨⟨?_, a2, ?_, ?_, ?_, ?_, ?_, fun i hi => ?_, fun i hi => ?_, fun i hi => ?_, fun i hi => ?_, fun r w hr _ => ?_⟩, beg_wf (k := 5) (by omega) M0_85, ⟨b1.trans b2.symm, b3.trans b4.symm, Or.inl b2, Or.inl b4⟩, ⟨0, by omega, c1, c2, fun i hi => absurd hi (Nat.not_lt_zero i)⟩, ⟨d1, d2, d3⟩, ⟨e1, e2⟩⟩
  · rw [q 0 (by omega) (by omega)]; exact a1
  · rw [q 3 (by omega) (by omega)]; exact a3
  · rw [q 4 (by omega) (by omega)]; exact a4
  · rw [q 5 (by omega) (by omega)]; exact a5
  · rw [q1]; exact a6
  · rw [q 2 (by omega) (by omega)]; exact a7
  · rw [n0] at hi; omega
  · rw [q (46 + i) (by omega) (by omega)]; exact M0_25 i hi
  · rw [n3] at hi; omega
  · rw [n4] at hi; omega
  · rw [n5] at hr; omega
theorem ov_d {u : ax_H} : ov u dH = u := by
  funext a
  unfold ov
  rw [if_pos (show isD (dH a) = true from rfl)]
theorem o80_eq : o80 = some (none, 64, h80) := by
  have h := e80
  unfold h80
  cases e : o80 with
  | none => rw [e] at h; cases h
  | some o =>
    rw [e] at h
    obtain ⟨v, n, hh⟩ := o
    cases h
    rfl
theorem o134_eq : o134 = some (none, 82, hF) := by
  have h := e134
  unfold hF
  cases e : o134 with
  | none => rw [e] at h; cases h
  | some o =>
    rw [e] at h
    obtain ⟨v, n, hh⟩ := o
    cases h
    rfl
theorem r80 : ax_run 1000 999 80 0 [.ref 20] [] 1 (ax_up dH 20 (.inr (9, ax_news.getD 9 []))) = some (none, 64, h80) := o80_eq
theorem r134 : ax_run 3000 999 134 0 [.ref 84] [] 65 (ax_up h80 84 (.inr (10, ax_news.getD 10 []))) = some (none, 82, hF) := o134_eq
theorem ov_run2 {u h h1 : ax_H} {g d y pc n n1 : Nat} {lc st : List Value} {v : Option Value} (hr : ax_run g d y pc lc st n h = some (v, n1, h1)) : ax_run g d y pc lc st n (ov u h) = some (v, n1, ov u h1) ∧ (dbn n h → dbn n1 h1) := ov_run g d y pc lc st n h (v, n1, h1) hr
theorem ax_W_mk {h h1 : ax_H} {g d y pc n n1 : Nat} {lc st : List Value} {v : Option Value} {Q : Option Value → Nat → ax_H → Prop} (hr : ax_run g d y pc lc st n h = some (v, n1, h1)) (hq : Q v n1 h1) : ax_W d y pc lc st n h Q := ⟨g, (v, n1, h1), hr, hq⟩
theorem dbn_up1 {n a : Nat} {h : ax_H} {e : ax_E} (ha : a = n + 20) (hd : dbn n h) : dbn (n + 1) (ax_up h a e) := by
  subst ha
  exact dbn_nw hd
theorem dbn_1 : dbn 64 h80 := (ov_run2 (u := dH) r80).2 (dbn_up1 (n := 0) rfl (fun _ _ => rfl))
theorem dbn_2 {e : ax_E} : dbn 65 (ax_up h80 84 e) := dbn_up1 (n := 64) rfl dbn_1
theorem dbn_0 : dbn 82 hF := (ov_run2 (u := dH) r134).2 dbn_2
section Start
variable {L : Nat} {xs : Nat → Int32} {Q : Option Value → Nat → ax_H → Prop}
theorem st_0 : ax_W 1000 226 0 [.ref 0, ax_dm, ax_dm, ax_dm] [] 0 (ax_old L xs) Q = ax_W 1000 226 3 [.ref 0, ax_dm, ax_dm, ax_dm] [.ref 20] 1 (ax_up (ax_old L xs) 20 (.inr (9, ax_news.getD 9 []))) Q := e_hp (i := .new 7) _ _ _ _ (by decide +kernel) rfl rfl rfl rfl rfl
theorem st_8 {h : ax_H} : ax_W 1000 226 8 [.ref 0, .ref 20, ax_dm, ax_dm] [] 64 h Q = ax_W 1000 226 11 [.ref 0, .ref 20, ax_dm, ax_dm] [.ref 84] 65 (ax_up h 84 (.inr (10, ax_news.getD 10 []))) Q := e_hp (i := .new 10) _ _ _ _ (by decide +kernel) rfl rfl rfl rfl rfl
theorem q80 : ax_run 1000 999 80 0 [.ref 20] [] 1 (ax_up (ax_old L xs) 20 (.inr (9, ax_news.getD 9 []))) = some (none, 64, ov (ax_old L xs) h80) := by
  have r1 := (ov_run2 (u := ax_old L xs) r80).1
  rw [ov_up (show isD (.inr (9, ax_news.getD 9 [])) = false from by decide +kernel), ov_d] at r1
  exact r1
theorem q134 : ax_run 3000 999 134 0 [.ref 84] [] 65 (ax_up (ov (ax_old L xs) h80) 84 (.inr (10, ax_news.getD 10 []))) = some (none, 82, ov (ax_old L xs) hF) := by
  have r1 := (ov_run2 (u := ax_old L xs) r134).1
  rw [ov_up (show isD (.inr (10, ax_news.getD 10 [])) = false from by decide +kernel)] at r1
  exact r1
theorem st_b {h : ax_H} (hr : ax_run 3000 999 134 0 [.ref 84] [] 65 (ax_up h 84 (.inr (10, ax_news.getD 10 []))) = some (none, 82, hx (L, xs) M0 N0)) (hk : ax_W 1000 226 18 [.ref 0, .ref 20, .ref 84, .int (nI 0)] [] 82 (hx (L, xs) M0 N0) Q) : ax_W 1000 226 7 [.ref 0, ax_dm, ax_dm, ax_dm] [.ref 20] 64 h Q := by
  rw [s226_7, st_8, s226_11, s226_12]
  refine ax_W_mk hr ?_
  rw [ct_n, s226_15, s226_16, s226_17]
  exact hk
theorem st_a {h : ax_H} (hr : ax_run 1000 999 80 0 [.ref 20] [] 1 (ax_up (ax_old L xs) 20 (.inr (9, ax_news.getD 9 []))) = some (none, 64, h)) (hk : ax_W 1000 226 7 [.ref 0, ax_dm, ax_dm, ax_dm] [.ref 20] 64 h Q) : ax_W 1000 226 0 [.ref 0, ax_dm, ax_dm, ax_dm] [] 0 (ax_old L xs) Q := by
  rw [st_0, s226_3, s226_4]
  refine ax_W_mk hr ?_
  rw [ct_n]
  exact hk
theorem st_all (hk : ax_W 1000 226 18 [.ref 0, .ref 20, .ref 84, .int (nI 0)] [] 82 (hx (L, xs) M0 N0) Q) : ax_W 1000 226 0 [.ref 0, ax_dm, ax_dm, ax_dm] [] 0 (ax_old L xs) Q := by
  have h2 := q134 (L := L) (xs := xs)
  rw [mk_hx dbn_0] at h2
  exact st_a q80 (st_b h2 hk)
end Start
