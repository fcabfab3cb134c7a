/-! ===== the library's own methods; calls; the small machine is the machine ===== -/
def ax_ww (z : Nat) : List Cond := Cond.code (ax_nm z) (ax_by z) (ax_ml z) (ax_rt z) :: ax_G
def ax_rm (d mc ms : Nat) : Room := { frames := d, cells := mc, slots := ms, locals := 60 * d }
def ax_Qc (P : ax_P) (o : ax_R) : Array Value → State → Outcome → State → Prop := fun _ st oc t => oc = .returned (o.1.map (ax_tr P)) ∧ ax_Rel P o.2.1 o.2.2 t.heap ∧ va_F (ax_A P) st t
abbrev ax_Pc (P : ax_P) (n : Nat) (h : ax_H) (as : List Value) : Array Value → State → Prop := va_Pc (as.map (ax_tr P)) (fun U => ax_Rel P n h U.heap ∧ ax_K P U)
theorem ax_wwG {z : Nat} (hz : z < 226) : GoodIn ax_G (ax_ww z) := by
  intro w hw
  rcases List.mem_cons.mp hw with rfl | hw
  · exact ⟨ax_inG (ax_kc z hz) rfl, good_of_word rfl⟩
  · exact ⟨hw, good_of_word (List.mem_filter.mp hw).2⟩
theorem ax_cn_mh : ∀ c, c < 17 → ax_cn c ≠ "java/lang/invoke/MethodHandle" ∧ ax_cn c ≠ "java/lang/invoke/VarHandle" := by decide +kernel
theorem ax_rt_init : ∀ z, z < 226 → (ax_nm z).name = "<init>" → ax_rt z = none := by decide +kernel
theorem ax_cn12 : ax_cn 12 = "java/lang/String" := by decide +kernel
theorem ax_sel {z : Nat} (hz : z < 226) (h1 : ax_sc z = false) (h2 : ¬ (ax_nm z).name = "<init>") : Cond.selects (ax_nm z).cls (ax_nm z) (ax_nm z) ∈ ax_G := by
  have h := ax_mk5 z hz
  unfold ax_mkS at h
  split at h
  rename_i b e _
  split at h
  · rw [h1] at h
    simp [ax_ini, h2] at h
  · split at h
    · exact ax_inG (ax_isW_mem h) rfl
    · exact List.mem_filter.mpr ⟨List.mem_append_left _ (List.mem_of_getElem? (of_decide_eq_true h)), rfl⟩
theorem ax_kwG {args : Array Value} {s : State} (hG : ∀ w ∈ ax_G, w.before args s = true) {z : Nat} (hz : z < 226) : (ax_kw z).before args s = true := by
  refine ax_hasG hG (ax_mk1 z hz) ?_
  unfold ax_kw
  split <;> rfl
theorem ax_mw_near {P : ax_P} {args : Array Value} {s : State} (hG : ∀ w ∈ ax_G, w.before args s = true) (hK : ax_K P s) {c k z : Nat} (h : ax_mth c k = some z) (hz : z < 226) : (Cond.methodLink (ax_cn c) k (ax_nm z)).before args s = true ∨ va_Nw (.methodLinkNest (ax_cn c) k (ax_nm z) "DinnerPleas") s := by
  obtain ⟨row, hr, rfl, rfl, rfl⟩ := ax_mth_row h
  have h1 := ax_mw_ok row hr
  unfold ax_mw at h1
  have e : ax_mn row.2.2.1 = ax_nm row.2.2.1 := by
    unfold ax_mn
    rw [if_neg (by omega), if_neg (by omega), if_neg (by omega), if_neg (by omega), if_neg (by omega)]
  rw [e] at h1
  by_cases hb : row.2.2.2.1 = true
  · rw [if_pos hb] at h1
    exact Or.inr (hK.2.1 _ (ax_inN (ax_isW_mem h1) rfl))
  · rw [if_neg hb] at h1
    exact Or.inl (ax_hasG hG h1 rfl)
theorem ax_pop_inv : ∀ (k : Nat) (as st as2 r : List Value), ax_pop k as st = some (as2, r) → ∃ q : List Value, q.length = k ∧ as2 = q.reverse ++ as ∧ st = q ++ r := by
  intro k
  induction k with
  | zero => intro as st as2 r h; cases h; exact ⟨[], rfl, rfl, rfl⟩
  | succ k ih =>
    intro as st as2 r h
    cases st with
    | nil => cases h
    | cons v st =>
      obtain ⟨q, h1, h2, h3⟩ := ih (v :: as) st as2 r h
      exact ⟨v :: q, by rw [List.length_cons, h1], by rw [h2, List.reverse_cons, List.append_assoc]; rfl, by rw [h3]; rfl⟩
theorem ax_pop_rev {k : Nat} {st as r : List Value} (h : ax_pop k [] st = some (as, r)) : as.length = k ∧ st = as.reverse ++ r := by
  obtain ⟨q, h1, h2, h3⟩ := ax_pop_inv k [] st as r h
  rw [List.append_nil] at h2
  subst h2
  exact ⟨by rw [List.length_reverse, h1], by rw [List.reverse_reverse]; exact h3⟩
theorem ax_K.same {P : ax_P} {U V : State} (hv : V.vm = U.vm) (hh : V.heap = U.heap) (hK : ax_K P U) : ax_K P V := by
  obtain ⟨k1, k2, k3, k4, k5, k6, k7, k8⟩ := hK
  have hal : U.vm.Alike V.vm := by rw [hv]; exact Vm.Alike.refl _
  refine ⟨k1.moved hal, fun w hw => ?_, fun k t len f hk he => by rw [hh]; exact va_T.moved hal (k3 k t len f hk he), fun k ci fs hk he => ?_, fun q hq => by rw [hh]; exact va_Z.moved hal (k5 q hq), fun q hq => vk_R.same hv (k6 q hq), k7, by rw [hh]; exact k8⟩
  · refine va_Nw.same ?_ hv.symm (k2 w hw)
    have h2 := (List.mem_filter.mp hw).2
    cases w <;> first | rfl | (simp [ax_isN] at h2)
  · rw [hh]
    rcases k4 k ci fs hk he with e | ⟨e, v, hv1, e1, a1, a2, a3⟩
    · exact Or.inl e
    · exact Or.inr ⟨e, v, hv1, e1, va_O.moved hal a1, va_OF.moved hal a2, va_OF.moved hal a3⟩
theorem ax_blind {P : ax_P} {n : Nat} {h : ax_H} {as : List Value} : FrameBlind (ax_Pc P n h as) := fun _ U _ _ q => ⟨q.1, q.2.1, ax_K.same (U := U) rfl rfl q.2.2⟩
theorem ax_pre {P : ax_P} {n : Nat} {h : ax_H} {as : List Value} {s : State} {H : Heap} {locs : List Loc} (hK : ax_K P s) (hR : ax_Rel P n h H) (hS : va_S (ax_A P) s.heap H locs) : ∀ U : State, U.heap = H → s.WarmedH U.vm → ax_Pc P n h as (as.map (ax_tr P)).toArray U := fun U hU hW => ⟨rfl, by rw [hU]; exact hR, hK.next hS hU hW⟩
section AxCall
variable {P : ax_P} {p : Program} {l : Launch} {e : Env} {R : Room} {s : State} {m : MethodId} {args : Array Value} {below : List Frame} {meth : Method} {c : Code} {H : Heap} {locs : List Loc} {cells slots : Nat} {Q : State → Prop} {y pc n : Nat} {ls : Array Slot} {i : Instr} {st r : List Value} {h : ax_H}
theorem sd_copy {a0 a n0 n1 k : Nat} {f g : Nat → Int32} {sp dp mm : Int32} (hC : ax_C p s m args meth c y) (hK : ax_K P s) (hR : ax_Rel P n h H) (hS : va_S (ax_A P) s.heap H locs) (hls : ls.size = ax_ml y) (hm : ax_mth (ax_cl y) k = some 901) (g0 : h a0 = .inl (0, n0, f)) (g1 : h a = .inl (0, n1, g)) (ha0 : 20 ≤ a0) (ha : 20 ≤ a) (h1 : ¬ sp < 0) (h2 : ¬ dp < 0) (h3 : ¬ mm < 0) (h4 : sp.toNatClampNeg + mm.toNatClampNeg ≤ n0) (h5 : dp.toNatClampNeg + mm.toNatClampNeg ≤ n1) (hr : r.length ≤ 4) (hfr : 1 ≤ R.frames) (hlo : 60 ≤ R.locals) (hd : decode (ax_by y) pc = .ok (.invokestatic k, 3))
    (kk : ∀ H1 locs1, ax_Rel P n (ax_up h a (.inl (0, n1, va_cpy f g sp.toNatClampNeg dp.toNatClampNeg mm.toNatClampNeg))) H1 → va_S (ax_A P) s.heap H1 locs1 → W p l e R s m args below meth c H1 locs1 cells slots Q (F0 m (pc + 3) ls (r.map (ax_tr P)))) : W p l e R s m args below meth c H locs cells slots Q (F0 m pc ls ((Value.int mm :: Value.int dp :: Value.ref a :: Value.int sp :: Value.ref a0 :: r).map (ax_tr P))) := by
  obtain ⟨hx, hb, hml, hown, hG, -⟩ := hC
  have nn : ∀ z : Int32, ¬ z < 0 → z.toInt = (z.toNatClampNeg : Int) := by
    intro z hz
    have hz0 : (0 : Int) ≤ z.toInt := by
      have := Int32.not_lt.mp hz
      simpa using Int32.le_iff_toInt_le.mp this
    show z.toInt = ((z.toInt.toNat : Nat) : Int)
    omega
  have hne0 : h a0 ≠ ax_dead := by rw [g0]; exact fun q => by cases q
  have hne : h a ≠ ax_dead := by rw [g1]; exact fun q => by cases q
  have o0 := (hR.own ha0 hne0).2
  have o1 := (hR.own ha hne).2
  rw [g0] at o0
  rw [g1] at o1
  have hc0 : H[ax_ad P a0]? = some (vp_cell (ax_dA P 0) (n0, .inl f)) := hR.1 _ _ o0
  have hc1 : H[ax_ad P a]? = some (vp_cell (ax_dA P 0) (n1, .inl g)) := hR.1 _ _ o1
  obtain ⟨-, k0, hk0, cm0, hkk0⟩ := (hK.1.2 0 _ rfl).1 n0 (fun j => .int (f j))
  obtain ⟨-, k1, hk1, cm1, hkk1⟩ := (hK.1.2 0 _ rfl).1 n1 (fun j => .int (g j))
  have hlink : (Cond.methodLink (ax_cn (ax_cl y)) k arraycopyName).before args s = true := ax_mw_far hG hm (by omega)
  have hsum := ax_cat_sum (r.map (ax_tr P))
  rw [List.length_map] at hsum
  have hnw : nativeFrameWords "java/lang/System" "arraycopy" 5 ≤ 10 := by decide
  intro T hT X
  obtain ⟨vm', X', step⟩ := X.arraycopy hx hown hlink (ax_hasG hG ax_w467 rfl) (ax_hasG hG ax_w466 rfl) (ax_hasG hG ax_w17 rfl) (src := ax_ad P a0) (dst := ax_ad P a) (cs := vp_cell (ax_dA P 0) (n0, .inl f)) (cd := vp_cell (ax_dA P 0) (n1, .inl g)) (srcPos := sp) (destPos := dp) (n := mm) (by rw [hT]; exact hc0) (by rw [hT]; exact hc1)
    (fun _ q => by cases q) (fun _ q => by cases q) (fun q => by cases q) (fun q => by cases q) hk0 hk1 hkk0 hkk1 (by simp [refKind]) h1 h2 h3
    (by rw [nn sp h1, nn mm h3]; show ¬ _ > ((arrV (ax_dA P 0) n0 (fun j => .int (f j))).slots.size : Int); rw [arrV_size]; omega)
    (by rw [nn dp h2, nn mm h3]; show ¬ _ > ((arrV (ax_dA P 0) n1 (fun j => .int (g j))).slots.size : Int); rw [arrV_size]; omega)
    (fun vm₁ _ i hi => by
      have e1 : (vp_cell (ax_dA P 0) (n0, .inl f)).slots.getD (sp.toNatClampNeg + i) .null = .int (f (sp.toNatClampNeg + i)) := by
        show (arrV (ax_dA P 0) n0 (fun j => .int (f j))).slots.getD _ _ = _
        rw [Array.getD_eq_getD_getElem?, arrV_read _ _ (by omega)]
        rfl
      refine ⟨?_, ?_⟩
      · rw [e1]
        rfl
      · rw [e1]
        exact trivial)
    (g := F0 m pc ls (Value.int mm :: Value.int dp :: Value.ref (ax_ad P a) :: Value.int sp :: Value.ref (ax_ad P a0) :: r.map (ax_tr P))) rfl (by rw [hml]; exact hls) (rest := r.map (ax_tr P)) rfl (by rw [hb]; exact hd) hfr (by show 2 * 0 + _ + _ ≤ _; omega)
  have e1 : copied (vp_cell (ax_dA P 0) (n0, .inl f)) (vp_cell (ax_dA P 0) (n1, .inl g)) sp dp mm = vp_cell (ax_dA P 0) (n1, .inl (va_cpy f g sp.toNatClampNeg dp.toNatClampNeg mm.toNatClampNeg)) := va_copied (fun z => .int z) (ax_dA P 0) (ax_dA P 0) f g h4
  rw [e1] at X' step
  have hl : ax_ad P a < H.size := (Array.getElem?_eq_some_iff.mp hc1).1
  have hheap : ((T.setVm vm').setCell (ax_ad P a) (vp_cell (ax_dA P 0) (n1, .inl (va_cpy f g sp.toNatClampNeg dp.toNatClampNeg mm.toNatClampNeg)))).heap = H.setIfInBounds (ax_ad P a) (vp_cell (ax_dA P 0) (n1, .inl (va_cpy f g sp.toNatClampNeg dp.toNatClampNeg mm.toNatClampNeg))) := by rw [← hT]; rfl
  have oq : ∀ q : Nat, q ≠ ax_ad P a → (H.setIfInBounds (ax_ad P a) (vp_cell (ax_dA P 0) (n1, .inl (va_cpy f g sp.toNatClampNeg dp.toNatClampNeg mm.toNatClampNeg))))[q]? = H[q]? := fun q hq => by simp [Array.getElem?_setIfInBounds, Ne.symm hq]
  obtain ⟨t, a1, b1⟩ := kk _ _ (hR.up (e := .inl (0, n1, va_cpy f g sp.toNatClampNeg dp.toNatClampNeg mm.toNatClampNeg)) ha hne (hR.1.set ax_ws_D o1 (show (H.setIfInBounds (ax_ad P a) _)[ax_ad P a]? = some _ by simp [Array.getElem?_setIfInBounds, hl]) oq) (by simp) (fun t l2 f2 q => by cases q; omega)) ⟨by simp; exact hS.1, fun q w1 w2 => by
      rw [oq q (fun e => w2 (by rw [e]; exact ax_ws_D.2 _ _ o1))]
      exact hS.2.1 q w1 w2, fun q hq => by
      rcases List.mem_append.mp hq with w | w
      · exact hS.2.2 q w
      · obtain ⟨z, -, hz⟩ := List.mem_map.mp w
        rw [← hz]
        exact ax_ws_D.2 _ _ o1⟩ _ hheap X'
  exact ⟨t, step t a1, b1⟩
set_option maxHeartbeats 4000000 in
theorem sd_nv {q : List Value × ax_H} (hC : ax_C p s m args meth c y) (hK : ax_K P s) (hR : ax_Rel P n h H) (hS : va_S (ax_A P) s.heap H locs) (hls : ls.size = ax_ml y) (h1 : ax_nv (ax_cl y) i st h = some q) (hd : decode (ax_by y) pc = .ok (i, ax_len i)) (hfr : 1 ≤ R.frames) (hlo : 60 ≤ R.locals) (hc : cells ≤ R.cells) (hs : slots ≤ R.slots)
    (k : ∀ H1 locs1, ax_Rel P n q.2 H1 → va_S (ax_A P) s.heap H1 locs1 → W p l e R s m args below meth c H1 locs1 cells slots Q (F0 m (pc + 3) ls (q.1.map (ax_tr P)))) : W p l e R s m args below meth c H locs cells slots Q (F0 m pc ls (st.map (ax_tr P))) := by
  have hC0 := hC
  obtain ⟨hx, hb, hml, hown, hG, -⟩ := hC0
  unfold ax_nv at h1
  split at h1
  · split at h1
    · rename_i k0 hm
      split at h1
      · rename_i a r
        split at h1
        · rename_i g
          cases h1
          have hsum := ax_cat_sum (r.map (ax_tr P))
          rw [List.length_map] at hsum
          have hlink : (Cond.methodLink (ax_cn (ax_cl y)) k0 Lib.objectInit).before args s = true := ax_mw_far hG hm (by omega)
          exact W.objInit hx hb hown hlink (ax_hasG hG ax_w25 rfl) (ax_hasG hG ax_w26 rfl) rfl (by rw [hml]; exact hls) rfl hd hfr (by show 2 * 0 + _ + _ ≤ _; omega) (k H locs hR hS)
        · cases h1
      · cases h1
    · cases h1
  · split at h1
    · rename_i k0 hm
      split at h1
      · split at h1
        · rename_i t0 n0 f t1 n1 g e0 e1
          split at h1
          · rename_i w
            obtain ⟨rfl, rfl, w1, w2, w3, w4, w5, w6, w7, w8⟩ := w
            cases h1
            exact sd_copy hC hK hR hS hls hm e0 e1 w1 w2 w4 w5 w6 w7 w8 w3 hfr hlo hd k
          · cases h1
        · cases h1
      · cases h1
    · split at h1
      · rename_i k0 hm0 hm
        split at h1
        · rename_i y0 x0 r
          split at h1
          · rename_i g
            cases h1
            have hsum := ax_cat_sum (r.map (ax_tr P))
            rw [List.length_map] at hsum
            have hlink : (Cond.methodLink (ax_cn (ax_cl y)) k0 Lib.Math.max.name).before args s = true := ax_mw_far hG hm (by omega)
            exact va_mmax hx hb (by rw [hml]; exact hls.symm) hown hlink (ax_hasG hG ax_w40 rfl) (ax_hasG hG ax_w4 rfl) (ax_hasG hG ax_w41 rfl) hfr (by omega) hc hs hd (k H locs hR hS)
          · cases h1
        · cases h1
      · split at h1
        · rename_i k0 hm0 hm1 hm
          split at h1
          · rename_i y0 x0 r
            split at h1
            · rename_i g
              cases h1
              have hsum := ax_cat_sum (r.map (ax_tr P))
              rw [List.length_map] at hsum
              have hlink : (Cond.methodLink (ax_cn (ax_cl y)) k0 Lib.Math.min.name).before args s = true := ax_mw_far hG hm (by omega)
              exact va_mmin hx hb (by rw [hml]; exact hls.symm) hown hlink (ax_hasG hG ax_w239 rfl) (ax_hasG hG ax_w4 rfl) (ax_hasG hG ax_w240 rfl) hfr (by omega) hc hs hd (k H locs hR hS)
            · cases h1
          · cases h1
        · split at h1
          · rename_i k0 hm0 hm1 hm2 hm
            split at h1
            · rename_i x0 r
              split at h1
              · rename_i g
                cases h1
                have hsum := ax_cat_sum (r.map (ax_tr P))
                rw [List.length_map] at hsum
                have hlink : (Cond.methodLink (ax_cn (ax_cl y)) k0 Lib.Math.abs.name).before args s = true := ax_mw_far hG hm (by omega)
                exact va_mabs hx hb (by rw [hml]; exact hls.symm) hown hlink (ax_hasG hG ax_w623 rfl) (ax_hasG hG ax_w4 rfl) (ax_hasG hG ax_w624 rfl) hfr (by omega) hc hs hd (k H locs hR hS)
              · cases h1
            · cases h1
          · cases h1
  · cases h1
theorem ax_callK {o : ax_R} {mc ms : Nat} {st0 rest : List Value} {a : Array Value} (hr : va_Run p l e R s m args below meth c H locs cells slots mc ms (F0 m pc ls st0) rest (ax_Qc P o a) (ax_A P)) (hS : va_S (ax_A P) s.heap H locs)
    (k : ∀ H1 locs1, ax_Rel P o.2.1 o.2.2 H1 → va_S (ax_A P) s.heap H1 locs1 → W p l e R s m args below meth c H1 locs1 (cells + mc) (slots + ms) Q (F0 m (pc + 3) ls ((o.1.map (ax_tr P)).toList ++ rest))) : W p l e R s m args below meth c H locs cells slots Q (F0 m pc ls st0) := by
  intro T hT X
  obtain ⟨v, st₀, t, T', L, h0, X', hL, e1, e2, ⟨hv, hrel, hz, hk⟩, st⟩ := hr T hT X
  cases hv
  rw [h0] at hz hk
  obtain ⟨t2, a1, b1⟩ := k T'.heap (locs ++ L) (by rw [e1]; exact hrel) ⟨Nat.le_trans hS.1 (by rw [e1]; exact hz), fun q w1 w2 => by rw [e1, hk q (Nat.lt_of_lt_of_le w1 hS.1) w2]; exact hS.2.1 q w1 w2, fun q hq => by
      rcases List.mem_append.mp hq with w | w
      · exact hS.2.2 q w
      · exact hL q w⟩ T' rfl X'
  exact ⟨t2, st t2 a1, b1⟩
theorem ax_recv {b : Nat} {z : Nat} {fs : List Value} (hK : ax_K P s) (hR : ax_Rel P n h H) (hS : va_S (ax_A P) s.heap H locs) (hz : z < 226) (hb : h b = .inr (ax_cl z, fs)) : ∃ cellB : Cell, H[ax_ad P b]? = some cellB ∧ cellB.vm.isStatics = false ∧ s.vm.findClass (ax_nm z).cls = some cellB.cls := by
  obtain ⟨m1, m2, -⟩ := ax_mk2 z hz
  rw [m1]
  by_cases ha : b < 20
  · have hF : ax_FE P b = .inr (ax_cl z, fs) := (hR.2.2.2.1 b ha).symm.trans hb
    rcases hK.2.2.2.1 b _ fs ha hF with w | ⟨w, v0, hv0, ef, o1, o2, o3⟩
    · omega
    · rw [w, ax_cn12, ax_ad_old ha]
      obtain ⟨cell, c1, c2, c3, c4⟩ := o1.kept hS.2.1
      exact ⟨cell, c1, c2, c3⟩
  · have ha : 20 ≤ b := by omega
    have hne : h b ≠ ax_dead := by
      rw [hb]
      intro q
      have q : ax_cl z = 99 := congrArg (fun (z : ax_E) => match z with
        | .inr (c, _) => c
        | .inl _ => 0) q
      omega
    have ho := (hR.own ha hne).2
    rw [hb] at ho
    have ho : (ax_ws P n h)[b - 20]? = some (ax_ad P b, .inr (ax_cl z, fs.map (ax_tr P))) := ho
    have hlt : ax_cl z < 11 := by
      obtain ⟨r0, h0, -⟩ := hR.1 _ _ ho
      exact (List.getElem?_eq_some_iff.mp h0).1
    exact va_recv hK.1 hR.1 (ax_vw _ hlt) ho
set_option maxHeartbeats 4000000 in
theorem sd_cv {z d mc ms : Nat} {as : List Value} {o : ax_R} (hC : ax_C p s m args meth c y) (hK : ax_K P s) (hR : ax_Rel P n h H) (hS : va_S (ax_A P) s.heap H locs) (hls : ls.size = ax_ml y) (h1 : ax_cv (ax_cl y) i st h = some (z, as, r)) (hd : decode (ax_by y) pc = .ok (i, ax_len i)) (hM : Met l (ax_nm z) (ax_ww z) (ax_rm d mc ms) (ax_Pc P n h as) (ax_Qc P o) mc ms (ax_A P)) (hfr : d + 1 ≤ R.frames) (hlo : 60 * (d + 1) ≤ R.locals) (hc : cells + mc ≤ R.cells) (hs : slots + ms ≤ R.slots)
    (k : ∀ H1 locs1, ax_Rel P o.2.1 o.2.2 H1 → va_S (ax_A P) s.heap H1 locs1 → W p l e R s m args below meth c H1 locs1 (cells + mc) (slots + ms) Q (F0 m (pc + 3) ls ((o.1.toList ++ r).map (ax_tr P)))) : W p l e R s m args below meth c H locs cells slots Q (F0 m pc ls (st.map (ax_tr P))) := by
  have hC0 := hC
  obtain ⟨hx, hb, hml, hown, hG, -⟩ := hC0
  have hfix : CallFix p m c (ax_by y) (ax_ml y) s args ax_G (ax_cn (ax_cl y)) := ⟨hx, hb, hml, hown, hG⟩
  have room : ∀ r : List Value, r.length ≤ 4 → 2 * 0 + ((r.map (ax_tr P)).map fun v => v.category).sum ≤ 8 := by
    intro r hr
    have hsum := ax_cat_sum (r.map (ax_tr P))
    rw [List.length_map] at hsum
    omega
  have fin : ∀ (H1 : Heap) (locs1 : List Loc), ax_Rel P o.2.1 o.2.2 H1 → va_S (ax_A P) s.heap H1 locs1 → W p l e R s m args below meth c H1 locs1 (cells + mc) (slots + ms) Q (F0 m (pc + 3) ls ((o.1.map (ax_tr P)).toList ++ r.map (ax_tr P))) := by
    intro H1 locs1 w1 w2
    have k1 := k H1 locs1 w1 w2
    rw [List.map_append] at k1
    have e1 : (o.1.map (ax_tr P)).toList = o.1.toList.map (ax_tr P) := by cases o.1 <;> rfl
    rw [e1]
    exact k1
  have base : z < 226 → (ax_nm z).cls = ax_cn (ax_cl z) ∧ (Cond.initialized (ax_nm z).cls).before args s = true ∧ ((ax_nm z).cls ≠ "java/lang/invoke/MethodHandle" ∧ (ax_nm z).cls ≠ "java/lang/invoke/VarHandle" ∧ (parseMethodDescriptor (ax_nm z).desc).map (fun d => d.parameters.length) = some (ax_np z)) ∧ ((ax_rm d mc ms).frames + 1 ≤ R.frames ∧ 8 + (ax_ml z + 11) + (ax_rm d mc ms).locals ≤ R.locals) := by
    intro hz
    obtain ⟨m1, m2, m3⟩ := ax_mk2 z hz
    refine ⟨m1, by rw [m1]; exact ax_hasG hG (ax_ini_ok _ m2) rfl, by rw [m1]; exact ⟨(ax_cn_mh _ m2).1, (ax_cn_mh _ m2).2, ax_mk3 z hz⟩, hfr, ?_⟩
    show 8 + (ax_ml z + 11) + 60 * d ≤ R.locals
    omega
  unfold ax_cv at h1
  split at h1
  · split at h1
    · rename_i k0 z0 hm
      split at h1
      · rename_i hz
        split at h1
        · rename_i as0 r0 hp
          split at h1
          · rename_i g
            cases h1
            obtain ⟨b1, b2, b3, b4⟩ := base hz.1
            obtain ⟨p1, p2⟩ := ax_pop_rev hp
            subst p2
            have hkw := ax_kwG hG hz.1
            unfold ax_kw at hkw
            rw [if_pos hz.2] at hkw
            have hst : (as.reverse ++ r).map (ax_tr P) = (as.map (ax_tr P)).reverse ++ r.map (ax_tr P) := by rw [List.map_append, List.map_reverse]
            rcases ax_mw_near (args := args) hG hK hm hz.1 with hl | hl
            · exact ax_callK (va_runS hfix hM ⟨callB_of (ax_np z) hG (ax_wwG hz.1) rfl rfl rfl b2 hl b3 b4, hkw⟩ ⟨ax_blind, ax_pre hK hR hS⟩ rfl (by rw [List.length_map]; exact p1) hls hst (room r g.1) hd ⟨hc, hs⟩) hS fin
            · exact ax_callK (va_runSN hfix hM ⟨va_cnB (ax_np z) hG (ax_wwG hz.1) rfl rfl rfl hl b2 b3 b4, hkw, trivial⟩ ⟨ax_blind, ax_pre hK hR hS⟩ rfl (by rw [List.length_map]; exact p1) hls hst (room r g.1) hd ⟨hc, hs⟩) hS fin
          · cases h1
        · cases h1
      · cases h1
    · cases h1
  · split at h1
    · rename_i k0 z0 hm
      split at h1
      · rename_i hz
        split at h1
        · rename_i as0 b r0 hp
          split at h1
          · rename_i ci fs hh
            split at h1
            · rename_i g
              cases h1
              obtain ⟨rfl, g1, g2⟩ := g
              obtain ⟨b1, b2, b3, b4⟩ := base hz.1
              obtain ⟨p1, p2⟩ := ax_pop_rev hp
              subst p2
              have hkw := ax_kwG hG hz.1
              unfold ax_kw at hkw
              rw [if_neg (by rw [hz.2.1]; decide)] at hkw
              have hsel := hG _ (ax_sel hz.1 hz.2.1 hz.2.2)
              have hst : (as0.reverse ++ Value.ref b :: r).map (ax_tr P) = (as0.map (ax_tr P)).reverse ++ Value.ref (ax_ad P b) :: r.map (ax_tr P) := by rw [List.map_append, List.map_reverse]; rfl
              have hrec := ax_recv hK hR hS hz.1 hh
              rcases ax_mw_near (args := args) hG hK hm hz.1 with hl | hl
              · exact ax_callK (va_runV hfix hM ⟨callB_of (ax_np z) hG (ax_wwG hz.1) rfl rfl rfl b2 hl b3 b4, hkw, hsel⟩ ⟨ax_blind, hrec, ax_pre (as := Value.ref b :: as0) hK hR hS⟩ rfl (by rw [List.length_map]; exact p1) hls hst (room r g1) hd ⟨hc, hs⟩) hS fin
              · exact ax_callK (va_runVN hfix hM ⟨va_cnB (ax_np z) hG (ax_wwG hz.1) rfl rfl rfl hl b2 b3 b4, hkw, hsel⟩ ⟨ax_blind, hrec, ax_pre (as := Value.ref b :: as0) hK hR hS⟩ rfl (by rw [List.length_map]; exact p1) hls hst (room r g1) hd ⟨hc, hs⟩) hS fin
            · cases h1
          · cases h1
        · cases h1
      · cases h1
    · cases h1
  · split at h1
    · rename_i k0 z0 hm
      split at h1
      · rename_i hz
        split at h1
        · rename_i as0 b r0 hp
          split at h1
          · rename_i g
            cases h1
            obtain ⟨b1, b2, b3, b4⟩ := base hz.1
            obtain ⟨p1, p2⟩ := ax_pop_rev hp
            subst p2
            have hkw := ax_kwG hG hz.1
            unfold ax_kw at hkw
            rw [if_neg (by rw [hz.2.1]; decide)] at hkw
            have hrt : ax_rt z = none := ax_rt_init z hz.1 hz.2.2
            have hst : (as0.reverse ++ Value.ref b :: r).map (ax_tr P) = (as0.map (ax_tr P)).reverse ++ Value.ref (ax_ad P b) :: r.map (ax_tr P) := by rw [List.map_append, List.map_reverse]; rfl
            have hww : ax_ww z = Cond.code (ax_nm z) (ax_by z) (ax_ml z) none :: ax_G := by unfold ax_ww; rw [hrt]
            rcases ax_mw_near (args := args) hG hK hm hz.1 with hl | hl
            · exact ax_callK (va_runI hfix hM ⟨callB_of (ax_np z) hG (ax_wwG hz.1) hww rfl rfl b2 hl b3 b4, hz.2.2, hkw⟩ ⟨ax_blind, ax_pre (as := Value.ref b :: as0) hK hR hS⟩ rfl (by rw [List.length_map]; exact p1) hls hst (room r g.1) hd ⟨hc, hs⟩) hS fin
            · exact ax_callK (va_runIN hfix hM ⟨va_cnB (ax_np z) hG (ax_wwG hz.1) hww rfl rfl hl b2 b3 b4, hz.2.2, hkw⟩ ⟨ax_blind, ax_pre (as := Value.ref b :: as0) hK hR hS⟩ rfl (by rw [List.length_map]; exact p1) hls hst (room r g.1) hd ⟨hc, hs⟩) hS fin
          · cases h1
        · cases h1
      · cases h1
    · cases h1
  · cases h1
end AxCall
