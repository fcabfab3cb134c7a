/-! ===== the heap's other steps; the library's own methods; a method's end ===== -/
theorem ax_cat2 (v : Value) : v.category ≤ 2 := by cases v <;> simp [Value.category]
theorem ax_cat_sum : ∀ (r : List Value), (r.map fun v => v.category).sum ≤ 2 * r.length := by
  intro r
  induction r with
  | nil => simp
  | cons v r ih =>
    have := ax_cat2 v
    simp only [List.map_cons, List.sum_cons, List.length_cons]
    omega
theorem ax_mth_row {c k z : Nat} (h : ax_mth c k = some z) : ∃ row, row ∈ ax_mths ∧ row.1 = c ∧ row.2.1 = k ∧ row.2.2.1 = z := by
  obtain ⟨row, h1, h2, h3⟩ := ax_find h
  simp only [Bool.and_eq_true, beq_iff_eq] at h2
  exact ⟨row, h1, h2.1, h2.2, h3⟩
theorem ax_mw_lib : ∀ q ∈ ax_mths, 900 ≤ q.2.2.1 → q.2.2.2.1 = false := by decide +kernel
theorem ax_mw_far {args : Array Value} {s : State} (hG : ∀ w ∈ ax_G, w.before args s = true) {c k z : Nat} (h : ax_mth c k = some z) (hz : 900 ≤ z) : (Cond.methodLink (ax_cn c) k (ax_mn z)).before args s = true := by
  obtain ⟨row, hr, rfl, rfl, rfl⟩ := ax_mth_row h
  have h1 := ax_mw_ok row hr
  unfold ax_mw at h1
  rw [if_neg (by rw [ax_mw_lib row hr hz]; decide)] at h1
  exact ax_hasG hG h1 rfl
theorem ax_w55 : ax_isW 55 (.arrayClass .int) = true := by decide +kernel
theorem ax_w1027 : ax_isW 1027 (.arrayClass .boolean) = true := by decide +kernel
theorem ax_w25 : ax_isW 25 (.instanceMethod Lib.objectInit) = true := by decide +kernel
theorem ax_w26 : ax_isW 26 (.code Lib.objectInit ⟨#[0xb1]⟩ 1 none) = true := by decide +kernel
theorem ax_w466 : ax_isW 466 (.static arraycopyName) = true := by decide +kernel
theorem ax_w467 : ax_isW 467 (.native arraycopyName) = true := by decide +kernel
theorem ax_w17 : ax_isW 17 (.initialized "java/lang/System") = true := by decide +kernel
theorem ax_w4 : ax_isW 4 (.initialized "java/lang/Math") = true := by decide +kernel
theorem ax_w40 : ax_isW 40 (.static Lib.Math.max.name) = true := by decide +kernel
theorem ax_w41 : ax_isW 41 (.code Lib.Math.max.name Lib.Math.max.code 2 (some .int)) = true := by decide +kernel
theorem ax_w239 : ax_isW 239 (.static Lib.Math.min.name) = true := by decide +kernel
theorem ax_w240 : ax_isW 240 (.code Lib.Math.min.name Lib.Math.min.code 2 (some .int)) = true := by decide +kernel
theorem ax_w623 : ax_isW 623 (.static Lib.Math.abs.name) = true := by decide +kernel
theorem ax_w624 : ax_isW 624 (.code Lib.Math.abs.name Lib.Math.abs.code 1 (some .int)) = true := by decide +kernel
section AxHeap2
variable {P : ax_P} {p : Program} {l : Launch} {e : Env} {R : Room} {s : State} {m : MethodId} {args : Array Value} {below : List Frame} {meth : Method} {c : Code} {H : Heap} {locs : List Loc} {cells slots : Nat} {Q : State → Prop} {y pc n : Nat} {ls : Array Slot} {i : Instr} {st r : List Value} {h : ax_H}
theorem ax_in_of {x : Int32} {len N : Nat} (h : ¬ (x < 0 ∨ len ≤ x.toNatClampNeg)) (hl : len ≤ N) : ¬ (x < 0 ∨ N ≤ x.toNatClampNeg) := fun q => h (q.imp id (fun z => Nat.le_trans hl z))
theorem sd_iast {a len : Nat} {f : Nat → Int32} {x v : Int32} (hC : ax_C p s m args meth c y) (hK : ax_K P s) (hR : ax_Rel P n h H) (hS : va_S (ax_A P) s.heap H locs) (hh : h a = .inl (0, len, f)) (ha : 20 ≤ a) (hin : ¬ (x < 0 ∨ len ≤ x.toNatClampNeg)) (hd : decode (ax_by y) pc = .ok (.iastore, 1))
    (k : ∀ H1 locs1, ax_Rel P n (ax_up h a (.inl (0, len, upd f x.toNatClampNeg v))) H1 → va_S (ax_A P) s.heap H1 locs1 → W p l e R s m args below meth c H1 locs1 cells slots Q (F0 m (pc + 1) ls (r.map (ax_tr P)))) : W p l e R s m args below meth c H locs cells slots Q (F0 m pc ls ((Value.int v :: Value.int x :: Value.ref a :: r).map (ax_tr P))) := by
  obtain ⟨hx, hb, -⟩ := hC
  have hne : h a ≠ ax_dead := by rw [hh]; exact fun q => by cases q
  have ho := (hR.own ha hne).2
  rw [hh] at ho
  have ho : (ax_ws P n h)[a - 20]? = some (ax_ad P a, .inl (ax_dA P 0, len, .inl f)) := ho
  refine W.iast hx hb (hR.1 _ _ ho) ((hK.1.2 0 _ rfl).1 len (fun j => .int (f j))) (fun q => by cases q) (by show ¬ (x < 0 ∨ (arrV _ _ _).slots.size ≤ _); rw [arrV_size]; exact hin) rfl rfl hd fun H1 e1 z oq => ?_
  refine k H1 _ (hR.up (e := .inl (0, len, upd f x.toNatClampNeg v)) ha hne (hR.1.set ax_ws_D ho ?_ oq) z (fun t l2 f2 q => by cases q; omega)) (hS.put z oq (ax_ws_D.2 _ _ ho))
  show H1[ax_ad P a]? = some (vp_cell (ax_dA P 0) (len, .inl (upd f x.toNatClampNeg v)))
  rw [e1, vp_cell_i]
  show some ((arrV (ax_dA P 0) len (fun j => .int (f j))).setSlot _ _) = _
  rw [arrV_store]
  congr 1
  rw [vp_cell_i]
  congr 1
  funext q
  by_cases hq : q = x.toNatClampNeg
  · subst hq; simp [updV, upd]
  · simp [updV, upd, hq]
theorem sd_zast {a len : Nat} {f : Nat → Int32} {x v : Int32} (hC : ax_C p s m args meth c y) (hK : ax_K P s) (hR : ax_Rel P n h H) (hS : va_S (ax_A P) s.heap H locs) (hh : h a = .inl (1, len, f)) (ha : 20 ≤ a) (hv : v = 0 ∨ v = 1) (hin : ¬ (x < 0 ∨ len ≤ x.toNatClampNeg)) (hd : decode (ax_by y) pc = .ok (.bastore, 1))
    (k : ∀ H1 locs1, ax_Rel P n (ax_up h a (.inl (1, len, upd f x.toNatClampNeg v))) H1 → va_S (ax_A P) s.heap H1 locs1 → W p l e R s m args below meth c H1 locs1 cells slots Q (F0 m (pc + 1) ls (r.map (ax_tr P)))) : W p l e R s m args below meth c H locs cells slots Q (F0 m pc ls ((Value.int v :: Value.int x :: Value.ref a :: r).map (ax_tr P))) := by
  obtain ⟨hx, hb, -⟩ := hC
  have hne : h a ≠ ax_dead := by rw [hh]; exact fun q => by cases q
  have ho := (hR.own ha hne).2
  rw [hh] at ho
  have ho : (ax_ws P n h)[a - 20]? = some (ax_ad P a, .inl (ax_dA P 1, len, .inl f)) := ho
  have hnv : narrow .boolean (.int v) = .int v := by rcases hv with rfl | rfl <;> rfl
  refine W.zast hx hb (hR.1 _ _ ho) ((hK.1.2 1 _ rfl).1 len (fun j => .int (f j))) (fun q => by cases q) (by show ¬ (x < 0 ∨ (arrV _ _ _).slots.size ≤ _); rw [arrV_size]; exact hin) rfl rfl hd fun H1 e1 z oq => ?_
  refine k H1 _ (hR.up (e := .inl (1, len, upd f x.toNatClampNeg v)) ha hne (hR.1.set ax_ws_D ho ?_ oq) z (fun t l2 f2 q => by cases q; omega)) (hS.put z oq (ax_ws_D.2 _ _ ho))
  show H1[ax_ad P a]? = some (vp_cell (ax_dA P 1) (len, .inl (upd f x.toNatClampNeg v)))
  rw [e1, vp_cell_i, hnv]
  show some ((arrV (ax_dA P 1) len (fun j => .int (f j))).setSlot _ _) = _
  rw [arrV_store]
  congr 1
  rw [vp_cell_i]
  congr 1
  funext q
  by_cases hq : q = x.toNatClampNeg
  · subst hq; simp [updV, upd]
  · simp [updV, upd, hq]
theorem sd_newa {t : Nat} {ty : FieldType} {at_ : ArrayType} {x : Int32} {w : Nat} (hC : ax_C p s m args meth c y) (hK : ax_K P s) (hR : ax_Rel P n h H) (hS : va_S (ax_A P) s.heap H locs) (ht : t < 2) (hty : newarray.typeOf at_ = ty) (hdv : defaultValue ty = .int 0) (hcb : componentBytes ty ≤ 4) (htt : (ax_tys P)[t]? = some (ax_dA P t, ty)) (hra : ∀ cA, va_RA s (ax_dA P t) ty → s.vm.findClass ("[" ++ ty.toString) = some cA → cA = ax_dA P t) (hw : ax_isW w (.arrayClass ty) = true) (hx0 : ¬ x < 0) (hx4 : x.toNatClampNeg ≤ 400) (hd : decode (ax_by y) pc = .ok (.newarray at_, 2)) (hc : cells + 1 ≤ R.cells) (hs : slots + 400 ≤ R.slots)
    (k : ∀ H1 locs1, ax_Rel P (n + 1) (ax_up h (n + 20) (.inl (t, x.toNatClampNeg, fun _ => 0))) H1 → va_S (ax_A P) s.heap H1 locs1 → W p l e R s m args below meth c H1 locs1 (cells + 1) (slots + 400) Q (F0 m (pc + 2) ls ((Value.ref (n + 20) :: r).map (ax_tr P)))) : W p l e R s m args below meth c H locs cells slots Q (F0 m pc ls ((Value.int x :: r).map (ax_tr P))) := by
  obtain ⟨hx, hb, -, -, hG, -⟩ := hC
  subst hty
  refine va_newaK (n := x) (N := x.toNatClampNeg) hx hb (ax_hasG hG hw rfl) (g := F0 m pc ls ((Value.int x :: r).map (ax_tr P))) rfl hd rfl hx0 rfl (Nat.le_trans (Nat.mul_le_mul hx4 hcb) (by decide)) hc (by omega) (h := ax_B P + n) hR.2.1 fun H1 cA e1 z1 o1 hAr hNm => ?_
  have hcA : cA = ax_dA P t := hra cA (hK.1.2 t _ htt).2 hNm
  subst hcA
  refine W.widen (Nat.le_refl _) (show slots + x.toNatClampNeg ≤ slots + 400 by omega) ?_
  have z2 : H1.size = H.size + 1 := by rw [z1, hR.2.1]
  have o2 : ∀ q, q < H.size → H1[q]? = H[q]? := fun q hq => o1 q (by rw [← hR.2.1]; exact hq)
  have k1 := k H1 locs (hR.push (e := .inl (t, x.toNatClampNeg, fun _ => 0)) (by
    show H1[ax_B P + n]? = some (vp_cell (ax_dA P t) (x.toNatClampNeg, .inl (fun _ => 0)))
    rw [e1, vp_cell_i, hdv]) z2 o2 (fun t1 l2 f2 q => by cases q; exact ht)) (ax_S_push hS z2 o2)
  have ea : ax_tr P (Value.ref (n + 20)) = Value.ref (ax_B P + n) := by
    show Value.ref (ax_ad P (n + 20)) = _
    rw [ax_ad_own (by omega), Nat.add_sub_cancel]
  rw [List.map_cons, ea] at k1
  exact k1
theorem sd_new {k ci : Nat} (hC : ax_C p s m args meth c y) (hK : ax_K P s) (hR : ax_Rel P n h H) (hS : va_S (ax_A P) s.heap H locs) (hq : ax_cls (ax_cl y) k = some ci) (hd : decode (ax_by y) pc = .ok (.new k, 3)) (hc : cells + 1 ≤ R.cells) (hs : slots + 400 ≤ R.slots)
    (kk : ∀ H1 locs1, ax_Rel P (n + 1) (ax_up h (n + 20) (.inr (ci, ax_news.getD ci []))) H1 → va_S (ax_A P) s.heap H1 locs1 → W p l e R s m args below meth c H1 locs1 (cells + 1) (slots + 400) Q (F0 m (pc + 3) ls ((Value.ref (n + 20) :: st).map (ax_tr P)))) : W p l e R s m args below meth c H locs cells slots Q (F0 m pc ls (st.map (ax_tr P))) := by
  obtain ⟨hx, hb, -, hown, hG, -⟩ := hC
  obtain ⟨row, hr, e1, e2⟩ := ax_find hq
  simp only [Bool.and_eq_true, beq_iff_eq] at e1
  obtain ⟨hw, hlt⟩ := ax_nw_ok row hr
  rw [e1.1, e1.2, e2] at hw
  rw [e2] at hlt
  have hin := ax_hasG hG (ax_ins_ok ci hlt) rfl
  have hini := ax_hasG hG (ax_ini_ok ci (by omega)) rfl
  have hKn := hK.1.1 ci _ (ax_vw ci hlt)
  obtain ⟨n1, n2, n3⟩ := ax_newl_ok ci hlt
  refine W.newcK hx hb hown (ax_hasG hG hw rfl) hin hini (g := F0 m pc ls (st.map (ax_tr P))) rfl hd hc (by omega) hKn.2.1 (h := ax_B P + n) hR.2.1 fun H1 kC hkC e3 z1 o1 => ?_
  refine W.widen (Nat.le_refl _) (show slots + ax_NN ci ≤ slots + 400 by omega) ?_
  have z2 : H1.size = H.size + 1 := by rw [z1, hR.2.1]
  have o2 : ∀ q, q < H.size → H1[q]? = H[q]? := fun q hq => o1 q (by rw [← hR.2.1]; exact hq)
  have k1 := kk H1 locs (hR.push (e := .inr (ci, ax_news.getD ci [])) (by
    refine ⟨_, ax_vw ci hlt, (u_born (ax_fty ci) hG (ax_layG hlt) hKn hkC e3 (fun k hk => (ax_fty_ok ci hlt k hk).1)).to (fun j hj => ?_)⟩
    show _ = vp_V ((ax_news.getD ci []).map (ax_tr P)) j
    rw [ax_news_tr hlt]
    exact (ax_new_ok ci hlt j hj).1) z2 o2 (fun t1 l2 f2 q => by cases q)) (ax_S_push hS z2 o2)
  have ea : ax_tr P (Value.ref (n + 20)) = Value.ref (ax_B P + n) := by
    show Value.ref (ax_ad P (n + 20)) = _
    rw [ax_ad_own (by omega), Nat.add_sub_cancel]
  rw [List.map_cons, ea] at k1
  exact k1
set_option maxHeartbeats 4000000 in
theorem sd_hp {q : List Value × Nat × ax_H} (hC : ax_C p s m args meth c y) (hK : ax_K P s) (hR : ax_Rel P n h H) (hS : va_S (ax_A P) s.heap H locs) (h1 : ax_hp (ax_cl y) (ax_ini y) i st n h = some q) (hd : decode (ax_by y) pc = .ok (i, ax_len i)) (hc : cells + (q.2.1 - n) ≤ R.cells) (hs : slots + 400 * (q.2.1 - n) ≤ R.slots)
    (k : ∀ H1 locs1, ax_Rel P q.2.1 q.2.2 H1 → va_S (ax_A P) s.heap H1 locs1 → W p l e R s m args below meth c H1 locs1 (cells + (q.2.1 - n)) (slots + 400 * (q.2.1 - n)) Q (F0 m (pc + ax_len i) ls (q.1.map (ax_tr P)))) : W p l e R s m args below meth c H locs cells slots Q (F0 m pc ls (st.map (ax_tr P))) := by
  have hC0 := hC
  obtain ⟨hx, hb, -, hown, hG, -⟩ := hC0
  unfold ax_hp at h1
  split at h1
  · split at h1
    · obtain ⟨st1, g, rfl⟩ := Option.map_eq_some_iff.mp h1
      simp only [Nat.sub_self, Nat.mul_zero, Nat.add_zero] at k
      exact sd_get hC hK hR hS g hd (k H locs hR hS)
    · cases h1
  · split at h1
    · obtain ⟨h2, g, rfl⟩ := Option.map_eq_some_iff.mp h1
      simp only [Nat.sub_self, Nat.mul_zero, Nat.add_zero] at k
      exact sd_put hC hK hR hS g hd k
    · cases h1
  · obtain ⟨v, g, rfl⟩ := Option.map_eq_some_iff.mp h1
    simp only [Nat.sub_self, Nat.mul_zero, Nat.add_zero] at k
    obtain ⟨row, hr, e1, e2⟩ := ax_find g
    simp only [Bool.and_eq_true, beq_iff_eq] at e1
    have hw := ax_sw_ok row hr
    unfold ax_sw at hw
    have hZ := hK.2.2.2.2.1 row hr
    rw [e2] at hZ
    by_cases hb2 : row.2.2.2.2.2.2.1 = true
    · rw [if_pos hb2, e1.1, e1.2] at hw
      exact va_getsN hx hb hZ hS hown (ax_hasN hK hw rfl rfl) (fun _ q => q) hd (k H locs hR hS)
    · rw [if_neg hb2, e1.1, e1.2] at hw
      exact va_gets hx hb hZ hS hown (ax_hasG hG hw rfl) (fun _ q => q) hd (k H locs hR hS)
  · split at h1
    · rename_i v g
      cases h1
      simp only [Nat.sub_self, Nat.mul_zero, Nat.add_zero] at k
      obtain ⟨row, hr, e1, e2⟩ := ax_find g
      simp only [Bool.and_eq_true, beq_iff_eq] at e1
      have hw := ax_ci_ok row hr
      rw [e1.1, e1.2, e2] at hw
      exact lv_ldc hx hb hown (ax_hasG hG hw rfl) hd (k H locs hR hS)
    · obtain ⟨v, g, rfl⟩ := Option.map_eq_some_iff.mp h1
      simp only [Nat.sub_self, Nat.mul_zero, Nat.add_zero] at k
      obtain ⟨row, hr, e1, e2⟩ := ax_find g
      simp only [Bool.and_eq_true, beq_iff_eq] at e1
      have hZ := hK.2.2.2.2.2.1 row hr
      rw [e1.1, e1.2, e2] at hZ
      exact va_ldcS hx hb hown hZ hd (k H locs hR hS)
  · obtain ⟨v, g, rfl⟩ := Option.map_eq_some_iff.mp h1
    simp only [Nat.sub_self, Nat.mul_zero, Nat.add_zero] at k
    obtain ⟨row, hr, e1, e2⟩ := ax_find g
    simp only [Bool.and_eq_true, beq_iff_eq] at e1
    have hw := ax_ci_ok row hr
    rw [e1.1, e1.2, e2] at hw
    exact lv_ldcw hx hb hown (ax_hasG hG hw rfl) hd (k H locs hR hS)
  · obtain ⟨v, g, rfl⟩ := Option.map_eq_some_iff.mp h1
    simp only [Nat.sub_self, Nat.mul_zero, Nat.add_zero] at k
    obtain ⟨row, hr, e1, e2⟩ := ax_find g
    simp only [Bool.and_eq_true, beq_iff_eq] at e1
    have hw := ax_cl_ok row hr
    rw [e1.1, e1.2, e2] at hw
    exact lv_ldc2 hx hb hown (ax_hasG hG hw rfl) hd (k H locs hR hS)
  · split at h1
    · split at h1
      · rename_i t len f hh
        cases h1
        simp only [Nat.sub_self, Nat.mul_zero, Nat.add_zero] at k
        obtain ⟨cell, c1, c2, c3, c4, c5, c6⟩ := hR.arr hK hS hh
        exact W.alen hx hb c1 c2 c5 rfl rfl hd (k H locs hR hS)
      · cases h1
    · cases h1
  · split at h1
    · split at h1
      · rename_i t len f hh
        split at h1
        · rename_i g
          cases h1
          obtain ⟨rfl, g⟩ := g
          simp only [Nat.sub_self, Nat.mul_zero, Nat.add_zero] at k
          obtain ⟨cell, c1, c2, c3, c4, c5, c6⟩ := hR.arr hK hS hh
          exact W.iald hx hb c1 c2 c3 (ax_in_of g c4) (c6 _ (Nat.not_le.mp fun q => g (Or.inr q))) rfl rfl hd (k H locs hR hS)
        · cases h1
      · cases h1
    · cases h1
  · split at h1
    · split at h1
      · rename_i t len f hh
        split at h1
        · rename_i g
          cases h1
          obtain ⟨g0, g⟩ := g
          simp only [Nat.sub_self, Nat.mul_zero, Nat.add_zero] at k
          obtain ⟨cell, c1, c2, c3, c4, c5, c6⟩ := hR.arr hK hS hh
          rcases g0 with rfl | rfl
          · exact W.zald hx hb c1 c2 c3 (ax_in_of g c4) (c6 _ (Nat.not_le.mp fun q => g (Or.inr q))) rfl rfl hd (k H locs hR hS)
          · exact W.bald hx hb c1 c2 c3 (ax_in_of g c4) (c6 _ (Nat.not_le.mp fun q => g (Or.inr q))) rfl rfl hd (k H locs hR hS)
        · cases h1
      · cases h1
    · cases h1
  · split at h1
    · split at h1
      · rename_i t len f hh
        split at h1
        · rename_i g
          cases h1
          obtain ⟨rfl, g1, g2⟩ := g
          simp only [Nat.sub_self, Nat.mul_zero, Nat.add_zero] at k
          exact sd_iast hC hK hR hS hh g1 g2 hd k
        · cases h1
      · cases h1
    · cases h1
  · split at h1
    · split at h1
      · rename_i t len f hh
        split at h1
        · rename_i g
          cases h1
          obtain ⟨rfl, g1, g2, g3⟩ := g
          simp only [Nat.sub_self, Nat.mul_zero, Nat.add_zero] at k
          exact sd_zast hC hK hR hS hh g1 g2 g3 hd k
        · cases h1
      · cases h1
    · cases h1
  · split at h1
    · split at h1
      · rename_i g
        cases h1
        obtain ⟨g1, g2, g3⟩ := g
        simp only [Nat.add_sub_cancel_left, Nat.mul_one] at k hc hs
        rcases g1 with rfl | rfl
        · exact sd_newa (t := 0) (ty := .int) hC hK hR hS (by omega) rfl rfl (by decide) rfl (fun cA a b => Option.some.inj (b.symm.trans a)) ax_w55 g2 g3 hd hc hs k
        · exact sd_newa (t := 1) (ty := .boolean) hC hK hR hS (by omega) rfl rfl (by decide) rfl (fun cA a b => Option.some.inj (b.symm.trans a)) ax_w1027 g2 g3 hd hc hs k
      · cases h1
    · cases h1
  · obtain ⟨ci, g, rfl⟩ := Option.map_eq_some_iff.mp h1
    simp only [Nat.add_sub_cancel_left, Nat.mul_one] at k hc hs
    exact sd_new hC hK hR hS g hd hc hs k
  · cases h1
theorem sd_rv {v : Option Value} {Qc : Array Value → State → Outcome → State → Prop} {free : Addr → Prop} (hC : ax_C p s m args meth c y) (h1 : ax_rv y i st = some v) (hd : decode (ax_by y) pc = .ok (i, ax_len i)) (hq : ∀ t : State, t.heap = H → s.WarmedH t.vm → Qc args s (.returned (v.map (ax_tr P))) t) (hf : ∀ q ∈ locs, free q.base) : W p l e R s m args below meth c H locs cells slots (MQ below Qc args s cells slots free) (F0 m pc ls (st.map (ax_tr P))) := by
  obtain ⟨hx, hb, -, -, -, hr, hlocks, -⟩ := hC
  unfold ax_rv at h1
  split at h1
  · split at h1
    · split at h1
      · rename_i ty hty
        split at h1
        · rename_i g
          cases h1
          exact W.zret hx hb (hr.trans hty) g hq hf hd hlocks
        · cases h1
      · cases h1
    · cases h1
  · split at h1
    · split at h1
      · rename_i g
        cases h1
        exact W.lret hx hb (hr.trans g) hq hf hd hlocks
      · cases h1
    · cases h1
  · split at h1
    · split at h1
      · rename_i nm g
        cases h1
        exact W.aret hx hb (hr.trans g) (Or.inl ⟨_, rfl⟩) (Or.inr ⟨_, rfl⟩) hq hf hd hlocks
      · cases h1
    · cases h1
  · split at h1
    · split at h1
      · rename_i g
        cases h1
        exact W.vret hx hb (hr.trans g) hq hf hd hlocks
      · cases h1
    · cases h1
  · cases h1
end AxHeap2
