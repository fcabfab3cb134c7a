/-! ===== a step of the small machine is a step of the machine: stack, locals, branches ===== -/
theorem ax_ii_inv {f : Int32 → Int32 → Int32} {st st1 : List Value} (h : ax_ii f st = some st1) : ∃ (x y : Int32) (r : List Value), st = .int y :: .int x :: r ∧ st1 = .int (f x y) :: r := by
  unfold ax_ii at h
  split at h
  · cases h; exact ⟨_, _, _, rfl, rfl⟩
  · cases h
theorem ax_ll_inv {f : Int64 → Int64 → Int64} {st st1 : List Value} (h : ax_ll f st = some st1) : ∃ (x y : Int64) (r : List Value), st = .long y :: .long x :: r ∧ st1 = .long (f x y) :: r := by
  unfold ax_ll at h
  split at h
  · cases h; exact ⟨_, _, _, rfl, rfl⟩
  · cases h
theorem ax_ld_inv {f : Int64 → Int64 → Int64} {st st1 : List Value} (h : ax_ld f st = some st1) : ∃ (x y : Int64) (r : List Value), ¬ y = 0 ∧ st = .long y :: .long x :: r ∧ st1 = .long (f x y) :: r := by
  unfold ax_ld at h
  split at h
  · split at h
    · cases h
    · rename_i hy; cases h; exact ⟨_, _, _, hy, rfl, rfl⟩
  · cases h
theorem ax_id_inv {f : Int32 → Int32 → Int32} {st st1 : List Value} (h : ax_id f st = some st1) : ∃ (x y : Int32) (r : List Value), ¬ y = 0 ∧ st = .int y :: .int x :: r ∧ st1 = .int (f x y) :: r := by
  unfold ax_id at h
  split at h
  · split at h
    · cases h
    · rename_i hy; cases h; exact ⟨_, _, _, hy, rfl, rfl⟩
  · cases h
theorem ax_u1_inv {f : Int32 → Value} {st st1 : List Value} (h : ax_u1 f st = some st1) : ∃ (x : Int32) (r : List Value), st = .int x :: r ∧ st1 = f x :: r := by
  unfold ax_u1 at h
  split at h
  · cases h; exact ⟨_, _, rfl, rfl⟩
  · cases h
section AxPure
variable {P : ax_P} {p : Program} {l : Launch} {e : Env} {R : Room} {s : State} {m : MethodId} {args : Array Value} {below : List Frame} {meth : Method} {c : Code} {H : Heap} {locs : List Loc} {cells slots : Nat} {Q : State → Prop} {cc : ByteArray} {pc : Nat} {ls : Array Slot} {i : Instr} {lc st : List Value}
set_option maxHeartbeats 4000000 in
theorem sd_st {st1 : List Value} (hf : P.2.2.1.category = 1) (hx : p.tables.exec = Jvm.exec) (hb : c.code = cc) (h1 : ax_st i st = some st1) (hd : decode cc pc = .ok (i, ax_len i))
    (k : W p l e R s m args below meth c H locs cells slots Q (F0 m (pc + ax_len i) ls (st1.map (ax_tr P)))) : W p l e R s m args below meth c H locs cells slots Q (F0 m pc ls (st.map (ax_tr P))) := by
  unfold ax_st at h1
  split at h1
  · obtain ⟨x, y, r, rfl, rfl⟩ := ax_ii_inv h1; exact lv_iadd hx hb hd k
  · obtain ⟨x, y, r, rfl, rfl⟩ := ax_ii_inv h1; exact lv_isub hx hb hd k
  · obtain ⟨x, y, r, rfl, rfl⟩ := ax_ii_inv h1; exact lv_imul hx hb hd k
  · obtain ⟨x, y, r, rfl, rfl⟩ := ax_ii_inv h1; exact lv_iand hx hb hd k
  · obtain ⟨x, y, r, rfl, rfl⟩ := ax_ii_inv h1; exact lv_ior hx hb hd k
  · obtain ⟨x, y, r, rfl, rfl⟩ := ax_ii_inv h1; exact lv_ishl hx hb hd k
  · obtain ⟨x, y, r, rfl, rfl⟩ := ax_ii_inv h1; exact lv_ishr hx hb hd k
  · obtain ⟨x, y, r, rfl, rfl⟩ := ax_ii_inv h1; exact lv_iushr hx hb hd rfl k
  · obtain ⟨x, y, r, hy, rfl, rfl⟩ := ax_id_inv h1; exact lv_irem hx hb hd hy k
  · obtain ⟨x, r, rfl, rfl⟩ := ax_u1_inv h1; exact lv_ineg hx hb hd k
  · obtain ⟨x, r, rfl, rfl⟩ := ax_u1_inv h1; exact lv_i2l hx hb hd rfl k
  · obtain ⟨x, r, rfl, rfl⟩ := ax_u1_inv h1; exact lv_i2c hx hb hd rfl k
  · split at h1
    · cases h1; exact lv_l2i hx hb hd rfl k
    · cases h1
  · obtain ⟨x, y, r, rfl, rfl⟩ := ax_ll_inv h1; exact lv_ladd hx hb hd k
  · obtain ⟨x, y, r, rfl, rfl⟩ := ax_ll_inv h1; exact lv_lmul hx hb hd k
  · obtain ⟨x, y, r, hy, rfl, rfl⟩ := ax_ld_inv h1; exact lv_ldiv hx hb hd hy k
  · obtain ⟨x, y, r, hy, rfl, rfl⟩ := ax_ld_inv h1; exact lv_lrem hx hb hd hy k
  · split at h1
    · cases h1; exact W.lcmp hx hb hd k
    · cases h1
  · cases h1; exact lv_iconst hx hb hd rfl k
  · cases h1; exact lv_bipush hx hb hd rfl k
  · cases h1; exact lv_sipush hx hb hd rfl k
  · cases h1; exact lv_lconst hx hb hd rfl k
  · split at h1
    · split at h1
      · rename_i hc; cases h1; exact lv_dup hx hb hd (by rw [ax_tr_cat hf]; exact hc) k
      · cases h1
    · cases h1
  · split at h1
    · split at h1
      · rename_i hc; cases h1; exact lv_pop hx hb hd (by rw [ax_tr_cat hf]; exact hc) k
      · cases h1
    · cases h1
  · split at h1
    · split at h1
      · rename_i hc; cases h1; exact lv_dup2_11 hx hb hd (by rw [ax_tr_cat hf]; exact hc.1) (by rw [ax_tr_cat hf]; exact hc.2) k
      · cases h1
    · cases h1
  · cases h1
theorem ax_ldi_inv {k : Nat} {q : List Value × List Value} (h : ax_ldi k lc st = some q) : ∃ x, lc[k]? = some (.int x) ∧ q = (lc, .int x :: st) := by
  unfold ax_ldi at h
  split at h
  · rename_i x hx; cases h; exact ⟨x, hx, rfl⟩
  · cases h
theorem ax_ldl_inv {k : Nat} {q : List Value × List Value} (h : ax_ldl k lc st = some q) : ∃ x, lc[k]? = some (.long x) ∧ q = (lc, .long x :: st) := by
  unfold ax_ldl at h
  split at h
  · rename_i x hx; cases h; exact ⟨x, hx, rfl⟩
  · cases h
theorem ax_lda_inv {k : Nat} {q : List Value × List Value} (h : ax_lda k lc st = some q) : ∃ x, lc[k]? = some (.ref x) ∧ q = (lc, .ref x :: st) := by
  unfold ax_lda at h
  split at h
  · rename_i x hx; cases h; exact ⟨x, hx, rfl⟩
  · cases h
theorem ax_sti_inv {k : Nat} {q : List Value × List Value} (h : ax_sti k lc st = some q) : ∃ x r, st = .int x :: r ∧ k < lc.length ∧ q = (ax_put lc k (.int x), r) := by
  unfold ax_sti at h
  split at h
  · split at h
    · rename_i hk; cases h; exact ⟨_, _, rfl, hk, rfl⟩
    · cases h
  · cases h
theorem ax_sta1_inv {k : Nat} {q : List Value × List Value} (h : ax_sta1 k lc st = some q) : ∃ x r, st = .ref x :: r ∧ k < lc.length ∧ q = (ax_put lc k (.ref x), r) := by
  unfold ax_sta1 at h
  split at h
  · split at h
    · rename_i hk; cases h; exact ⟨_, _, rfl, hk, rfl⟩
    · cases h
  · cases h
theorem ax_stl_inv {k : Nat} {q : List Value × List Value} (h : ax_stl k lc st = some q) : ∃ x r, st = .long x :: r ∧ k + 1 < lc.length ∧ q = (ax_put lc k (.long x), r) := by
  unfold ax_stl at h
  split at h
  · split at h
    · rename_i hk; cases h; exact ⟨_, _, rfl, hk, rfl⟩
    · cases h
  · cases h
set_option maxHeartbeats 4000000 in
theorem sd_lc {q : List Value × List Value} {nL : Nat} (hf : P.2.2.1.category = 1) (hx : p.tables.exec = Jvm.exec) (hb : c.code = cc) (h1 : ax_lc i lc st = some q) (hd : decode cc pc = .ok (i, ax_len i)) (hl : lv_has ls nL (ax_asc P 0 lc)) (hn : lc.length = nL)
    (k : ∀ ls1, lv_has ls1 nL (ax_asc P 0 q.1) → q.1.length = nL → W p l e R s m args below meth c H locs cells slots Q (F0 m (pc + ax_len i) ls1 (q.2.map (ax_tr P)))) : W p l e R s m args below meth c H locs cells slots Q (F0 m pc ls (st.map (ax_tr P))) := by
  unfold ax_lc at h1
  split at h1
  · obtain ⟨x, g, rfl⟩ := ax_ldi_inv h1; exact lv_iload hx hb hd (ax_lget hl g (fun z => by cases z)) (k ls hl hn)
  · obtain ⟨x, g, rfl⟩ := ax_ldi_inv h1; exact lv_iload_n hx hb hd rfl (ax_lget hl g (fun z => by cases z)) (k ls hl hn)
  · obtain ⟨x, g, rfl⟩ := ax_ldl_inv h1; exact lv_lload hx hb hd (ax_lget hl g (fun z => by cases z)) (k ls hl hn)
  · obtain ⟨x, g, rfl⟩ := ax_ldl_inv h1; exact lv_lload_n hx hb hd rfl (ax_lget hl g (fun z => by cases z)) (k ls hl hn)
  · obtain ⟨x, g, rfl⟩ := ax_lda_inv h1; exact lv_aload_n hx hb hd rfl (ax_lget hl g (fun z => by cases z)) (k ls hl hn)
  · obtain ⟨x, r, rfl, g, rfl⟩ := ax_sti_inv h1; exact lv_istore hx hb hd hl (by omega) rfl (fun ls1 h2 => k ls1 (ax_lv_sub h2 (ax_put1 hf)) (by rw [ax_put_len]; exact hn))
  · obtain ⟨x, r, rfl, g, rfl⟩ := ax_sti_inv h1; exact lv_istore_n hx hb hd rfl hl (by omega) rfl (fun ls1 h2 => k ls1 (ax_lv_sub h2 (ax_put1 hf)) (by rw [ax_put_len]; exact hn))
  · obtain ⟨x, r, rfl, g, rfl⟩ := ax_stl_inv h1; exact lv_lstore hx hb hd hl (by omega) rfl (fun ls1 h2 => k ls1 (ax_lv_sub h2 (ax_put2 hf rfl)) (by rw [ax_put_len]; exact hn))
  · obtain ⟨x, r, rfl, g, rfl⟩ := ax_stl_inv h1; exact lv_lstore_n hx hb hd rfl hl (by omega) rfl (fun ls1 h2 => k ls1 (ax_lv_sub h2 (ax_put2 hf rfl)) (by rw [ax_put_len]; exact hn))
  · obtain ⟨x, r, rfl, g, rfl⟩ := ax_sta1_inv h1; exact lv_astore_n hx hb hd rfl hl (by omega) rfl (fun ls1 h2 => k ls1 (ax_lv_sub h2 (ax_put1 hf)) (by rw [ax_put_len]; exact hn))
  · rename_i kk nn
    split at h1
    · rename_i x g
      split at h1
      · rename_i g2
        cases h1
        obtain ⟨j, hj⟩ := List.getElem?_of_mem ((ax_asc_mem (P := P) lc 0 (kk, .int x)).mpr ⟨kk, .int x, g, (fun z => by cases z), by rw [Nat.zero_add]; rfl⟩)
        exact lv_iinc hx hb hd hl hj rfl (by omega) rfl (fun ls1 h2 => k ls1 (ax_lv_sub h2 (ax_put1 hf)) (by rw [ax_put_len]; exact hn))
      · cases h1
    · cases h1
  · cases h1
theorem ax_tgt {pc : Nat} {off : Int} (h : 0 ≤ (pc : Int) + off) : (pc : Int) + off = ((((pc : Int) + off).toNat : Nat) : Int) := (Int.toNat_of_nonneg h).symm
set_option maxHeartbeats 4000000 in
theorem sd_br {q : Nat × List Value} {len : Nat} (hx : p.tables.exec = Jvm.exec) (hb : c.code = cc) (h1 : ax_br i pc st = some q) (hd : decode cc pc = .ok (i, len)) (hlen : ax_len i = 0 ∨ len = ax_len i)
    (k : W p l e R s m args below meth c H locs cells slots Q (F0 m q.1 ls (q.2.map (ax_tr P)))) : W p l e R s m args below meth c H locs cells slots Q (F0 m pc ls (st.map (ax_tr P))) := by
  unfold ax_br at h1
  split at h1
  · split at h1
    · rename_i g
      cases h1
      have e : len = 3 := by rcases hlen with e | e; cases e; exact e
      subst e
      exact lv_goto hx hb hd (ax_tgt g) k
    · cases h1
  · rename_i cnd off
    have e : len = 3 := by rcases hlen with e | e; cases e; exact e
    subst e
    split at h1
    · rename_i y x r
      split at h1
      · rename_i g
        cases h1
        have kt : ax_cmp cnd x y = true → W p l e R s m args below meth c H locs cells slots Q (F0 m ((pc : Int) + off).toNat ls (r.map (ax_tr P))) := fun z => by
          have k := k
          dsimp only at k
          rw [if_pos z] at k
          exact k
        have kf : ¬ ax_cmp cnd x y = true → W p l e R s m args below meth c H locs cells slots Q (F0 m (pc + 3) ls (r.map (ax_tr P))) := fun z => by
          have k := k
          dsimp only at k
          rw [if_neg z] at k
          exact k
        cases cnd
        · exact lv_icmp_eq hx hb hd (ax_tgt g) (fun z => kt (decide_eq_true z)) (fun z => kf (fun w => z (of_decide_eq_true w)))
        · exact lv_icmp_ne hx hb hd (ax_tgt g) (fun z => kt (decide_eq_true z)) (fun z => kf (fun w => (of_decide_eq_true w) z))
        · exact lv_icmp_lt hx hb hd (ax_tgt g) (fun z => kt (decide_eq_true z)) (fun z => kf (fun w => z (of_decide_eq_true w)))
        · exact lv_icmp_ge hx hb hd (ax_tgt g) (fun z => kt (decide_eq_true z)) (fun z => kf (fun w => z (of_decide_eq_true w)))
        · exact lv_icmp_gt hx hb hd (ax_tgt g) (fun z => kt (decide_eq_true z)) (fun z => kf (fun w => z (of_decide_eq_true w)))
        · exact lv_icmp_le hx hb hd (ax_tgt g) (fun z => kt (decide_eq_true z)) (fun z => kf (fun w => z (of_decide_eq_true w)))
      · cases h1
    · cases h1
  · rename_i cnd off
    have e : len = 3 := by rcases hlen with e | e; cases e; exact e
    subst e
    split at h1
    · rename_i x r
      split at h1
      · rename_i g
        cases h1
        have kt : ax_cmp cnd x 0 = true → W p l e R s m args below meth c H locs cells slots Q (F0 m ((pc : Int) + off).toNat ls (r.map (ax_tr P))) := fun z => by
          have k := k
          dsimp only at k
          rw [if_pos z] at k
          exact k
        have kf : ¬ ax_cmp cnd x 0 = true → W p l e R s m args below meth c H locs cells slots Q (F0 m (pc + 3) ls (r.map (ax_tr P))) := fun z => by
          have k := k
          dsimp only at k
          rw [if_neg z] at k
          exact k
        cases cnd
        · exact lv_if_eq hx hb hd (ax_tgt g) (fun z => kt (decide_eq_true z)) (fun z => kf (fun w => z (of_decide_eq_true w)))
        · exact lv_if_ne hx hb hd (ax_tgt g) (fun z => kt (decide_eq_true z)) (fun z => kf (fun w => (of_decide_eq_true w) z))
        · exact lv_if_lt hx hb hd (ax_tgt g) (fun z => kt (decide_eq_true z)) (fun z => kf (fun w => z (of_decide_eq_true w)))
        · exact lv_if_ge hx hb hd (ax_tgt g) (fun z => kt (decide_eq_true z)) (fun z => kf (fun w => z (of_decide_eq_true w)))
        · exact lv_if_gt hx hb hd (ax_tgt g) (fun z => kt (decide_eq_true z)) (fun z => kf (fun w => z (of_decide_eq_true w)))
        · exact lv_if_le hx hb hd (ax_tgt g) (fun z => kt (decide_eq_true z)) (fun z => kf (fun w => z (of_decide_eq_true w)))
      · cases h1
    · cases h1
  · split at h1
    · split at h1
      · rename_i g
        split at h1
        · rename_i g2
          cases h1
          exact lv_tableOut hx hb hd g (ax_tgt g2) k
        · cases h1
      · rename_i g
        split at h1
        · rename_i off g2
          split at h1
          · rename_i g3
            cases h1
            exact lv_tableIn hx hb hd (fun z => g (Or.inl z)) (fun z => g (Or.inr z)) g2 (ax_tgt g3) k
          · cases h1
        · cases h1
    · cases h1
  · cases h1
end AxPure
