/-! ===== whatever the small machine comes to, the machine comes to ===== -/
theorem ax_len0 {i : Instr} (h : ax_len i = 0) : ∃ a b c d, i = .tableswitch a b c d := by
  unfold ax_len at h
  split at h <;> first | (exact ⟨_, _, _, _, rfl⟩) | (cases h)
theorem ax_dec {y pc : Nat} {i : Instr} (hy : y < 227) (h : ax_at y pc = some i) : ∃ len, decode (ax_by y) pc = .ok (i, len) ∧ (ax_len i = 0 ∨ len = ax_len i) := by
  obtain ⟨row, h1, h2, h3⟩ := ax_find h
  have h4 := ax_dd y hy row h1
  unfold ax_dk at h4
  simp only [Bool.and_eq_true, decide_eq_true_eq, Bool.or_eq_true, beq_iff_eq] at h4 h2
  subst h2; subst h3
  exact ⟨row.2.2, h4.1, h4.2⟩
theorem ax_decL {y pc : Nat} {i : Instr} (hy : y < 227) (h : ax_at y pc = some i) (hn : ∀ a b c d, i ≠ .tableswitch a b c d) : decode (ax_by y) pc = .ok (i, ax_len i) := by
  obtain ⟨len, h1, h2 | h2⟩ := ax_dec hy h
  · obtain ⟨a, b, c, d, e⟩ := ax_len0 h2
    exact absurd e (hn a b c d)
  · rw [← h2]; exact h1
set_option maxHeartbeats 4000000 in
theorem ax_sound {P : ax_P} {l : Launch} : ∀ (g d y pc : Nat) (lc st : List Value) (n : Nat) (h : ax_H) (o : ax_R), ax_run g d y pc lc st n h = some o → y < 227 →
    ∀ {p : Program} {e : Env} {R : Room} {s : State} {m : MethodId} {args : Array Value} {below : List Frame} {meth : Method} {c : Code} {H : Heap} {locs : List Loc} {cells slots : Nat} {Q : State → Prop} {ls : Array Slot} (tc ts : Nat),
    ax_C p s m args meth c y → ax_K P s → ax_Rel P n h H → va_S (ax_A P) s.heap H locs → lv_has ls (ax_ml y) (ax_asc P 0 lc) → lc.length = ax_ml y → d ≤ R.frames → 60 * d ≤ R.locals → cells + o.2.1 = tc + n → slots + 400 * o.2.1 = ts + 400 * n → tc ≤ R.cells → ts ≤ R.slots →
    (∀ (pc : Nat) (ls : Array Slot) (st : List Value) (i : Instr) (H : Heap) (locs : List Loc), ax_rv y i st = some o.1 → decode (ax_by y) pc = .ok (i, ax_len i) → ax_Rel P o.2.1 o.2.2 H → va_S (ax_A P) s.heap H locs → W p l e R s m args below meth c H locs tc ts Q (F0 m pc ls (st.map (ax_tr P)))) →
    W p l e R s m args below meth c H locs cells slots Q (F0 m pc ls (st.map (ax_tr P))) := by
  intro g
  induction g with
  | zero => intro d y pc lc st n h o hr; rw [ax_run] at hr; cases hr
  | succ g ih =>
    intro d y pc lc st n h o hr hy p e R s m args below meth c H locs cells slots Q ls tc ts hC hK hR hS hl hn hfr hlo hct hst hcR hsR hE
    have hf : P.2.2.1.category = 1 := hK.2.2.2.2.2.2.1
    obtain ⟨i, ha, hc⟩ := ax_run_inv hr
    have gr := ax_grow _ _ _ _ _ _ _ _ _ hr
    rcases hc with ⟨st1, h1, hr⟩ | ⟨h0, q, h1, hr⟩ | ⟨h0, h1, q, h2, hr⟩ | ⟨h0, h1, h2, q, h3, hr⟩ | ⟨h0, h1, h2, h3, q, d1, o1, rfl, h4, hr1, hr⟩ | ⟨h0, h1, h2, h3, h4, q, d1, rfl, h5, hr⟩ | ⟨h0, h1, h2, h3, h4, h5, v, h6, rfl⟩
    · exact sd_st hf hC.1 hC.2.1 h1 (ax_decL hy ha (fun a b c d e => by rw [e] at h1; cases h1)) (ih _ _ _ _ _ _ _ _ hr hy tc ts hC hK hR hS hl hn hfr hlo hct hst hcR hsR hE)
    · exact sd_lc hf hC.1 hC.2.1 h1 (ax_decL hy ha (fun a b c d e => by rw [e] at h1; cases h1)) hl hn (fun ls1 hl1 hn1 => ih _ _ _ _ _ _ _ _ hr hy tc ts hC hK hR hS hl1 hn1 hfr hlo hct hst hcR hsR hE)
    · obtain ⟨len, hd, hlen⟩ := ax_dec hy ha
      exact sd_br hC.1 hC.2.1 h2 hd hlen (ih _ _ _ _ _ _ _ _ hr hy tc ts hC hK hR hS hl hn hfr hlo hct hst hcR hsR hE)
    · have gr2 := ax_grow _ _ _ _ _ _ _ _ _ hr
      have hq : n ≤ q.2.1 := by rcases ax_hp_n h3 with e | e <;> omega
      exact sd_hp hC hK hR hS h3 (ax_decL hy ha (fun a b c d e => by rw [e] at h3; cases h3)) (by omega) (by omega) (fun H1 locs1 hR1 hS1 => ih _ _ _ _ _ _ _ _ hr hy tc ts hC hK hR1 hS1 hl hn hfr hlo (by omega) (by omega) hcR hsR hE)
    · have gr1 := ax_grow _ _ _ _ _ _ _ _ _ hr1
      have gr2 := ax_grow _ _ _ _ _ _ _ _ _ hr
      obtain ⟨z, as, r⟩ := q
      have hzl : z < 226 ∧ (ax_spread as).length ≤ ax_ml z := by
        unfold ax_cv at h4
        split at h4
        · split at h4
          · split at h4
            · split at h4
              · split at h4
                · rename_i w1 _ _ _ _ w2; cases h4; exact ⟨w1.1, w2.2⟩
                · cases h4
              · cases h4
            · cases h4
          · cases h4
        · split at h4
          · split at h4
            · split at h4
              · split at h4
                · split at h4
                  · rename_i w1 _ _ _ _ _ _ _ _ _ w2; cases h4; exact ⟨w1.1, w2.2.2⟩
                  · cases h4
                · cases h4
              · cases h4
            · cases h4
          · cases h4
        · split at h4
          · split at h4
            · split at h4
              · split at h4
                · rename_i w1 _ _ _ _ _ w2; cases h4; exact ⟨w1.1, w2.2⟩
                · cases h4
              · cases h4
            · cases h4
          · cases h4
        · cases h4
      obtain ⟨hz, hsp⟩ := hzl
      have hM : Met l (ax_nm z) (ax_ww z) (ax_rm d1 (o1.2.1 - n) (400 * (o1.2.1 - n))) (ax_Pc P n h as) (ax_Qc P o1) (o1.2.1 - n) (400 * (o1.2.1 - n)) (ax_A P) := by
        refine Met.ofW (cc := ax_by z) (maxL := ax_ml z) (ret := ax_rt z) (ax_mk4 z hz) rfl ?_
        intro p e s m args below meth c s₁ B hml hv
        obtain ⟨rfl, hRel, hK1⟩ := hv
        have hts := atoms_spec (ws := ax_ww z) B.pre
        rw [lg_entry_eq]
        have hown : s.vm.findClass (ax_cn (ax_cl z)) = some m.cls := by
          have := findClass_of_methodNamed B.named
          rw [(ax_mk2 z hz).1] at this
          exact this
        refine ih d1 z 0 (ax_ent z as) [] n h o1 hr1 (by omega) (o1.2.1 - n) (400 * (o1.2.1 - n)) ⟨B.exec, B.bytes, hml, hown, fun w hw => hts w (List.mem_cons_of_mem _ hw), B.returns, B.notSynchronized, fun hi => ?_⟩ hK1 hRel va_S.rf (ax_ent_has hf hsp) (ax_ent_len hsp) (Nat.le_refl _) (Nat.le_refl _) (by omega) (by omega) (Nat.le_refl _) (Nat.le_refl _) (fun pc ls st i H locs w1 w2 w3 w4 => ?_)
        · rw [(name_of_methodNamed B.named B.method).1]
          exact of_decide_eq_true hi
        · exact sd_rv ⟨B.exec, B.bytes, hml, hown, fun w hw => hts w (List.mem_cons_of_mem _ hw), B.returns, B.notSynchronized, fun hi => by rw [(name_of_methodNamed B.named B.method).1]; exact of_decide_eq_true hi⟩ w1 w2 (fun t ht _ => ⟨rfl, by rw [ht]; exact w3, w4.F ht⟩) w4.2.2
      exact sd_cv hC hK hR hS hl.1 h4 (ax_decL hy ha (fun a b c d e => by rw [e] at h4; cases h4)) hM (by omega) (by omega) (by omega) (by omega) (fun H1 locs1 hR1 hS1 => ih _ _ _ _ _ _ _ _ hr hy tc ts hC hK hR1 hS1 hl hn hfr hlo (by omega) (by omega) hcR hsR hE)
    · exact sd_nv hC hK hR hS hl.1 h5 (ax_decL hy ha (fun a b c d e => by rw [e] at h5; cases h5)) (by omega) (by omega) (by omega) (by omega) (fun H1 locs1 hR1 hS1 => ih _ _ _ _ _ _ _ _ hr hy tc ts hC hK hR1 hS1 hl hn hfr hlo hct hst hcR hsR hE)
    · have e1 : cells = tc := by simp only at hct; omega
      have e2 : slots = ts := by simp only at hst; omega
      rw [e1, e2]
      exact hE _ _ _ i _ _ h6 (ax_decL hy ha (fun a b c d e => by rw [e] at h6; cases h6)) hR hS
