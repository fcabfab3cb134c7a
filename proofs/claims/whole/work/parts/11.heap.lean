/-! ===== a step of the small machine is a step of the machine: the heap ===== -/
def ax_C (p : Program) (s : State) (m : MethodId) (args : Array Value) (meth : Method) (c : Code) (y : Nat) : Prop :=
  p.tables.exec = Jvm.exec ∧ c.code = ax_by y ∧ c.maxLocals = ax_ml y ∧ s.vm.findClass (ax_cn (ax_cl y)) = some m.cls ∧ (∀ w ∈ ax_G, w.before args s = true) ∧ meth.sig.returnType = ax_rt y ∧ meth.locks = false ∧ (ax_ini y = true → meth.name = "<init>")
theorem ax_find {α β : Type} {l : List α} {f : α → Bool} {g : α → β} {b : β} (h : (l.find? f).map g = some b) : ∃ a, a ∈ l ∧ f a = true ∧ g a = b := by
  obtain ⟨a, h1, h2⟩ := Option.map_eq_some_iff.mp h
  exact ⟨a, List.mem_of_find?_eq_some h1, List.find?_some h1, h2⟩
theorem ax_hasG {args : Array Value} {s : State} (hG : ∀ w ∈ ax_G, w.before args s = true) {i : Nat} {w : Cond} (h : ax_isW i w = true) (hg : goodWord w = true) : w.before args s = true := hG _ (ax_inG (ax_isW_mem h) hg)
theorem ax_hasN {P : ax_P} {args : Array Value} {s : State} (hK : ax_K P s) {i : Nat} {w : Cond} (h : ax_isW i w = true) (hn : ax_isN w = true) (ho : w.onTables = true) : w.before args s = true := va_Nw.use ho (hK.2.1 w (ax_inN (ax_isW_mem h) hn))
theorem ax_layG {ci : Nat} (h : ci < 11) : ∀ w ∈ u_ws (ax_cn ci) (ax_TT ci) (ax_NN ci), w ∈ ax_G := by
  intro w hw
  obtain ⟨k, hk, rfl⟩ := List.mem_map.mp hw
  refine ax_inG (ax_isW_mem (ax_lay_ok ci h k (List.mem_range.mp hk))) ?_
  unfold u_lay
  split <;> rfl
theorem ax_fld_row {c k : Nat} {q : Nat × Nat} (h : ax_fld c k = some q) : ∃ row, row ∈ ax_flds ∧ row.1 = c ∧ row.2.1 = k ∧ row.2.2.1 = q.1 ∧ row.2.2.2.1 = q.2 := by
  obtain ⟨row, h1, h2, h3⟩ := ax_find h
  simp only [Bool.and_eq_true, beq_iff_eq] at h2
  subst h3
  exact ⟨row, h1, h2.1, h2.2, rfl, rfl⟩
theorem ax_fw_str : ∀ q ∈ ax_flds, q.2.2.1 = 12 → q.2.2.2.2.1 = false ∧ q.2.2.2.1 < 2 := by decide +kernel
theorem ax_fw_nest : ∀ q ∈ ax_flds, q.2.2.2.2.1 = true → ¬ q.2.2.1 = q.1 := by decide +kernel
theorem ax_fw_of {P : ax_P} {args : Array Value} {s : State} (hG : ∀ w ∈ ax_G, w.before args s = true) (hK : ax_K P s) {row : Nat × Nat × Nat × Nat × Bool × Nat} (hr : row ∈ ax_flds) (hn : ¬ row.2.2.1 = 12) :
    (row.2.2.2.2.1 = false ∧ (Cond.fieldLink (ax_cn row.1) row.2.1 (ax_TT row.2.2.1 row.2.2.2.1).1 (ax_TT row.2.2.1 row.2.2.2.1).2.1 (ax_TT row.2.2.1 row.2.2.2.1).2.2.1).before args s = true) ∨
    (row.2.2.2.2.1 = true ∧ (Cond.fieldLinkNest (ax_cn row.1) row.2.1 (ax_TT row.2.2.1 row.2.2.2.1).1 (ax_TT row.2.2.1 row.2.2.2.1).2.1 (ax_TT row.2.2.1 row.2.2.2.1).2.2.1 "DinnerPleas").before args s = true) := by
  have h1 := (ax_fw_ok row hr).1
  unfold ax_fw at h1
  have e : ax_fd row.2.2.1 row.2.2.2.1 = ax_TT row.2.2.1 row.2.2.2.1 := by unfold ax_fd; rw [if_neg hn]
  rw [e] at h1
  by_cases hb : row.2.2.2.2.1 = true
  · rw [if_pos hb] at h1
    exact Or.inr ⟨hb, ax_hasN hK h1 rfl rfl⟩
  · rw [if_neg hb] at h1
    exact Or.inl ⟨by simpa using hb, ax_hasG hG h1 rfl⟩
theorem ax_Rel.push {P : ax_P} {n : Nat} {h : ax_H} {H H1 : Heap} (hR : ax_Rel P n h H) {e : ax_E} (h1 : va_at (ax_D P) vwCl (ax_B P + n, ax_toE P e) H1) (hz : H1.size = H.size + 1) (ho : ∀ q, q < H.size → H1[q]? = H[q]?) (ht : ∀ (t len : Nat) (f : Nat → Int32), e = .inl (t, len, f) → t < 2) : ax_Rel P (n + 1) (ax_up h (n + 20) e) H1 := by
  refine ⟨?_, by rw [hz, hR.2.1]; omega, fun k hk => ?_, fun k hk => ?_, fun k t len f he => ?_⟩
  · rw [← ax_ws_push]
    refine va_P.app (hR.1.kept (fun k q hk => ho q.1 (hR.1 k q hk).lt)) (fun k q hk => ?_)
    have hz : k < 1 := (List.getElem?_eq_some_iff.mp hk).1
    rw [show k = 0 by omega] at hk
    cases hk
    exact h1
  · simp only [ax_up]; rw [if_neg (by omega)]; exact hR.2.2.1 k (by omega)
  · simp only [ax_up]; rw [if_neg (by omega)]; exact hR.2.2.2.1 k hk
  · simp only [ax_up] at he
    split at he
    · exact ht t len f he
    · exact hR.2.2.2.2 k t len f he
theorem ax_S_push {A : Nat → Prop} {H0 H H1 : Heap} {locs : List Loc} (hS : va_S A H0 H locs) (hz : H1.size = H.size + 1) (ho : ∀ q, q < H.size → H1[q]? = H[q]?) : va_S A H0 H1 locs := ⟨Nat.le_trans hS.1 (by omega), fun x h1 h2 => (ho x (Nat.lt_of_lt_of_le h1 hS.1)).trans (hS.2.1 x h1 h2), hS.2.2⟩
theorem ax_nar {P : ax_P} {ty : FieldType} {v : Value} (h1 : narrow ty v = v) (h2 : fits ty v = true) : narrow ty (ax_tr P v) = ax_tr P v ∧ fits ty (ax_tr P v) = true := by
  cases v with
  | ref a => cases ty <;> first | (exact ⟨rfl, rfl⟩) | (cases h2)
  | retAddr a => cases ty <;> cases h2
  | _ => exact ⟨h1, h2⟩
theorem ax_map_set {P : ax_P} {fs : List Value} {j : Nat} {v : Value} : (fs.map (ax_tr P)).set j (ax_tr P v) = (fs.set j v).map (ax_tr P) := by rw [List.map_set]
theorem ax_news_tr {P : ax_P} {ci : Nat} (h : ci < 11) : (ax_news.getD ci []).map (ax_tr P) = ax_news.getD ci [] := by
  have h1 := (ax_newl_ok ci h).2.2
  generalize ax_news.getD ci [] = l at h1
  induction l with
  | nil => rfl
  | cons v l ih =>
    rw [List.map_cons, ih (fun w hw => h1 w (List.mem_cons_of_mem _ hw))]
    rcases h1 v List.mem_cons_self with e | e | e <;> subst e <;> rfl
section AxHeap
variable {P : ax_P} {p : Program} {l : Launch} {e : Env} {R : Room} {s : State} {m : MethodId} {args : Array Value} {below : List Frame} {meth : Method} {c : Code} {H : Heap} {locs : List Loc} {cells slots : Nat} {Q : State → Prop} {y pc n : Nat} {ls : Array Slot} {i : Instr} {st r : List Value} {h : ax_H}
theorem sd_get {k a : Nat} {st1 : List Value} (hC : ax_C p s m args meth c y) (hK : ax_K P s) (hR : ax_Rel P n h H) (hS : va_S (ax_A P) s.heap H locs) (h1 : ax_getf (ax_cl y) k a r h = some st1) (hd : decode (ax_by y) pc = .ok (.getfield k, 3))
    (kk : W p l e R s m args below meth c H locs cells slots Q (F0 m (pc + 3) ls (st1.map (ax_tr P)))) : W p l e R s m args below meth c H locs cells slots Q (F0 m pc ls ((Value.ref a :: r).map (ax_tr P))) := by
  obtain ⟨hx, hb, -, hown, hG, -⟩ := hC
  unfold ax_getf at h1
  split at h1
  · rename_i q hq
    obtain ⟨row, hr, e1, e2, e3, e4⟩ := ax_fld_row hq
    split at h1
    · rename_i ci fs hh
      split at h1
      · rename_i hci
        split at h1
        · rename_i v hv
          cases h1
          rw [List.map_cons] at kk ⊢
          show W p l e R s m args below meth c H locs cells slots Q (F0 m pc ls (Value.ref (ax_ad P a) :: r.map (ax_tr P)))
          have ok := (ax_fw_ok row hr).2
          rw [← e3] at hci
          subst hci
          by_cases ha : a < 20
          · have hF : ax_FE P a = .inr (row.2.2.1, fs) := (hR.2.2.2.1 a ha).symm.trans hh
            rcases hK.2.2.2.1 a _ fs ha hF with z | ⟨z, v0, hv0, ef, o1, o2, o3⟩
            · rcases ok with ok | ok <;> omega
            · obtain ⟨g1, g2⟩ := ax_fw_str row hr z
              have hw := (ax_fw_ok row hr).1
              unfold ax_fw at hw
              rw [if_neg (by rw [g1]; decide)] at hw
              have hl := ax_hasG hG hw rfl
              rw [ax_ad_old ha]
              rw [e1, e2] at hl
              subst ef
              rcases (show row.2.2.2.1 = 0 ∨ row.2.2.2.1 = 1 by omega) with j0 | j0
              · rw [← e4, j0] at hv
                cases hv
                rw [show ax_fd row.2.2.1 row.2.2.2.1 = ("java/lang/String", "value", "[B", true) by unfold ax_fd; rw [if_pos z, if_pos j0]] at hl
                have kk : W p l e R s m args below meth c H locs cells slots Q (F0 m (pc + 3) ls (Value.ref (P.2.1 v0) :: r.map (ax_tr P))) := by
                  have := kk
                  rw [show ax_tr P (Value.ref v0) = Value.ref (P.2.1 v0) by show Value.ref (ax_ad P v0) = _; rw [ax_ad_old hv0]] at this
                  exact this
                exact vk_getf hx hb o2 hS hown hl (fun _ q => q) hd kk
              · rw [← e4, j0] at hv
                cases hv
                rw [show ax_fd row.2.2.1 row.2.2.2.1 = ("java/lang/String", "coder", "B", true) by unfold ax_fd; rw [if_pos z, if_neg (by omega)]] at hl
                exact vk_getf hx hb o3 hS hown hl (fun _ q => q) hd kk
          · have ha : 20 ≤ a := by omega
            have hne : h a ≠ ax_dead := by
              rw [hh]
              intro q
              have q : row.2.2.1 = 99 := congrArg (fun (z : ax_E) => match z with
                | .inr (c, _) => c
                | .inl _ => 0) q
              rcases ok with ok | ok <;> omega
            have ho := (hR.own ha hne).2
            rw [hh] at ho
            have ho : (ax_ws P n h)[a - 20]? = some (ax_ad P a, .inr (row.2.2.1, fs.map (ax_tr P))) := ho
            have hn12 : ¬ row.2.2.1 = 12 := by
              intro z
              obtain ⟨r0, h0, -⟩ := hR.1 _ _ ho
              rw [z] at h0
              cases h0
            have hlt : row.2.2.1 < 11 ∧ row.2.2.2.1 < ax_NN row.2.2.1 := by
              rcases ok with ok | ok
              · exact absurd ok hn12
              · exact ok
            have hv2 : (fs.map (ax_tr P))[row.2.2.2.1]? = some (ax_tr P v) := by rw [List.getElem?_map, e4, hv]; rfl
            rcases ax_fw_of (args := args) hG hK hr hn12 with ⟨-, hl⟩ | ⟨-, hl⟩
            · rw [e1, e2] at hl
              exact va_get hx hb hG (ax_layG hlt.1) hown hK.1 hR.1 _ ho (ax_vw _ hlt.1) _ hlt.2 hl (fun _ q => q) hv2 hd kk
            · rw [e1, e2] at hl
              exact va_getN hx hb hG (ax_layG hlt.1) hown hK.1 hR.1 _ ho (ax_vw _ hlt.1) _ hlt.2 hl (fun _ q => q) hv2 hd kk
        · cases h1
      · cases h1
    · cases h1
  · cases h1
theorem sd_put {k a : Nat} {v : Value} {h1 : ax_H} (hC : ax_C p s m args meth c y) (hK : ax_K P s) (hR : ax_Rel P n h H) (hS : va_S (ax_A P) s.heap H locs) (hp : ax_putf (ax_cl y) (ax_ini y) k a v h = some h1) (hd : decode (ax_by y) pc = .ok (.putfield k, 3))
    (kk : ∀ H1 locs1, ax_Rel P n h1 H1 → va_S (ax_A P) s.heap H1 locs1 → W p l e R s m args below meth c H1 locs1 cells slots Q (F0 m (pc + 3) ls (r.map (ax_tr P)))) : W p l e R s m args below meth c H locs cells slots Q (F0 m pc ls ((v :: Value.ref a :: r).map (ax_tr P))) := by
  obtain ⟨hx, hb, -, hown, hG, -, -, hini⟩ := hC
  unfold ax_putf at hp
  split at hp
  · rename_i q hq
    obtain ⟨row, hr, e1, e2, e3, e4⟩ := ax_fld_row hq
    split at hp
    · rename_i ci fs hh
      split at hp
      · rename_i hc
        obtain ⟨c1, c2, c3, c4, c5, c6, c7⟩ := hc
        cases hp
        show W p l e R s m args below meth c H locs cells slots Q (F0 m pc ls (ax_tr P v :: Value.ref (ax_ad P a) :: r.map (ax_tr P)))
        have ok := (ax_fw_ok row hr).2
        rw [← e3] at c1 c5 c6 c7
        rw [← e4] at c3 c5 c6 c7
        subst c1
        have hne : h a ≠ ax_dead := by
          rw [hh]
          intro q
          have q : row.2.2.1 = 99 := congrArg (fun (z : ax_E) => match z with
            | .inr (c, _) => c
            | .inl _ => 0) q
          omega
        have ho := (hR.own c4 hne).2
        rw [hh] at ho
        have ho : (ax_ws P n h)[a - 20]? = some (ax_ad P a, .inr (row.2.2.1, fs.map (ax_tr P))) := ho
        have hlt : row.2.2.1 < 11 ∧ row.2.2.2.1 < ax_NN row.2.2.1 := by
          rcases ok with ok | ok
          · omega
          · exact ok
        obtain ⟨d1, d2⟩ := ax_nar (P := P) c5 c6
        have hty : ∀ k, k < ax_NN row.2.2.1 → parseFieldDescriptor (ax_TT row.2.2.1 k).2.2.1 = some (ax_fty row.2.2.1 k) := fun k hk => (ax_fty_ok _ hlt.1 k hk).1
        have hnm : ∀ a, a < ax_NN row.2.2.1 → ∀ b, b < ax_NN row.2.2.1 → a ≠ b → (ax_TT row.2.2.1 a).2.1 ≠ (ax_TT row.2.2.1 b).2.1 := ax_fnm_ok _ hlt.1
        have hll : row.2.2.2.1 < (fs.map (ax_tr P)).length := by rw [List.length_map]; exact c3
        have fin : ∀ (H1 : Heap) (locs1 : List Loc), va_P (ax_D P) vwCl ((ax_ws P n h).set (a - 20) (ax_ad P a, .inr (row.2.2.1, (fs.map (ax_tr P)).set row.2.2.2.1 (ax_tr P v)))) H1 → va_D (ax_A P) ((ax_ws P n h).set (a - 20) (ax_ad P a, .inr (row.2.2.1, (fs.map (ax_tr P)).set row.2.2.2.1 (ax_tr P v)))) → va_S (ax_A P) s.heap H1 locs1 → H1.size = H.size → W p l e R s m args below meth c H1 locs1 cells slots Q (F0 m (pc + 3) ls (r.map (ax_tr P))) := by
          intro H1 locs1 g1 g2 g3 g4
          refine kk H1 locs1 (hR.up (e := .inr (row.2.2.1, fs.set q.2 v)) c4 hne ?_ g4 (fun t len f z => by cases z)) g3
          rw [ax_map_set, e4] at g1
          exact g1
        have hfi := (ax_fty_ok _ hlt.1 _ hlt.2).2
        obtain ⟨r0, h0, cell, q1, q2, q3, q4⟩ := hR.1 _ _ ho
        have hr0 : r0 = (ax_cn row.2.2.1, ax_TT row.2.2.1, ax_NN row.2.2.1) := Option.some.inj (h0.symm.trans (ax_vw _ hlt.1))
        subst hr0
        have hap := va_apart (own := ax_cn (ax_cl y)) hG (ax_layG hlt.1) (ax_fty row.2.2.1) hty hnm hK.1 (ax_vw _ hlt.1)
        obtain ⟨hS2, hfc, kC, hkC, hkind⟩ := hK.1.1 row.2.2.1 _ (ax_vw _ hlt.1)
        obtain ⟨cf, kf, fi, f, hi, hsl⟩ := hS2 row.2.2.2.1 hlt.2
        have hlay := hG _ (ax_layG hlt.1 _ (u_in_lay hlt.2))
        have hst := (u_facts hfc hkC (u_lays hG (ax_layG hlt.1) hlt.2) hi).1
        have last : ∀ H' : Heap, H'[ax_ad P a]? = some (cell.setSlot f.slot (ax_tr P v)) → H'.size = H.size → (∀ q, q ≠ ax_ad P a → H'[q]? = H[q]?) → W p l e R s m args below meth c H' (locs ++ [⟨ax_ad P a, f.slot⟩]) cells slots Q (F0 m (pc + 3) ls (r.map (ax_tr P))) := by
          intro H' g1 g2 g3
          rw [hsl] at g1
          refine fin H' _ (hR.1.set ax_ws_D ho ⟨_, ax_vw _ hlt.1, t_OB.to (V := updV (vp_V (fs.map (ax_tr P))) row.2.2.2.1 (ax_tr P v)) ⟨_, g1, q2, q3, t_set q4 hap hlt.2 (ax_tr P v)⟩ (fun j _ => vp_updV_set hll (ax_tr P v) j)⟩ g3) (va_D.set ax_ws_D ho) (hS.put g2 g3 (ax_ws_D.2 _ _ ho)) g2
        rcases c7 with c7 | ⟨c7, c8⟩
        · have hfin : (ax_TT row.2.2.1 row.2.2.2.1).2.2.2 = false := hfi.1.trans c7
          unfold u_lay at hlay
          rw [if_neg (by rw [hfin]; decide)] at hlay
          have h6 := u_store hfc hkC hkind hlay hi (hty _ hlt.2) d1 d2
          rcases ax_fw_of (args := args) hG hK hr (by omega) with ⟨-, hl⟩ | ⟨-, hl⟩
          · rw [e1, e2] at hl
            exact W.putK hx hb (f := f) ⟨hown, hl, ⟨_, _, _, hi⟩, hst⟩ (by rw [q2]; exact h6) q1 q3 (by rw [hsl]; exact k2_hasslot (q4 _ hlt.2)) rfl rfl hd last
          · rw [e1, e2] at hl
            exact va_WputK hx hb (f := f) hown hl hi hst (by rw [q2]; exact h6) q1 q3 (by rw [hsl]; exact k2_hasslot (q4 _ hlt.2)) rfl rfl hd last
        · by_cases hfin : (ax_TT row.2.2.1 row.2.2.2.1).2.2.2 = true
          · rcases ax_fw_of (args := args) hG hK hr (by omega) with ⟨-, hl⟩ | ⟨z, -⟩
            · rw [e1, e2] at hl
              unfold u_lay at hlay
              rw [if_pos hfin] at hlay
              have hcf : m.cls = cf := by
                obtain ⟨_, _, c', _, _, _, -, -, hf', -, -, -, hown2, -⟩ := Cond.laysFinal_spec hlay
                have e1 : c' = cf := by have := hi.symm.trans hf'; simp at this; exact this.1.symm
                rw [hfi.2, c8] at hown2
                rw [← e1]; exact Option.some.inj (hown.symm.trans hown2)
              have h6 := u_fits hfc hkC hkind (Or.inr hlay) hi (hty _ hlt.2) d1 d2
              exact W.putFinK hx hb hown hl hi hst hcf (hini c7) (by rw [q2]; exact h6) q1 q3 (by rw [hsl]; exact k2_hasslot (q4 _ hlt.2)) rfl rfl hd last
            · exact absurd (c8.trans e1.symm) (ax_fw_nest row hr z)
          · have hfin : (ax_TT row.2.2.1 row.2.2.2.1).2.2.2 = false := by simpa using hfin
            unfold u_lay at hlay
            rw [if_neg (by rw [hfin]; decide)] at hlay
            have h6 := u_store hfc hkC hkind hlay hi (hty _ hlt.2) d1 d2
            rcases ax_fw_of (args := args) hG hK hr (by omega) with ⟨-, hl⟩ | ⟨-, hl⟩
            · rw [e1, e2] at hl
              exact W.putK hx hb (f := f) ⟨hown, hl, ⟨_, _, _, hi⟩, hst⟩ (by rw [q2]; exact h6) q1 q3 (by rw [hsl]; exact k2_hasslot (q4 _ hlt.2)) rfl rfl hd last
            · rw [e1, e2] at hl
              exact va_WputK hx hb (f := f) hown hl hi hst (by rw [q2]; exact h6) q1 q3 (by rw [hsl]; exact k2_hasslot (q4 _ hlt.2)) rfl rfl hd last
      · cases hp
    · cases hp
  · cases hp
end AxHeap
