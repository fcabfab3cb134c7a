/-! ===== a run over a heap that is laid over another one ===== -/
def isD (e : ax_E) : Bool := match e with
  | .inr (c, fs) => (c == 99) && fs.isEmpty
  | .inl _ => false
def ov (u h : ax_H) : ax_H := fun a => if isD (h a) = true then u a else h a
def dbn (n : Nat) (h : ax_H) : Prop := ∀ a, n + 20 ≤ a → isD (h a) = true
theorem nns {α : Type} {q : α} (h : (none : Option α) = some q) : False := by cases h
section Over
variable {u h : ax_H} {a n c k : Nat} {e : ax_E} {ini : Bool} {st r s : List Value} {v : Value}
theorem ov_at (hd : isD (h a) = false) : ov u h a = h a := by unfold ov; rw [hd]; rfl
theorem ov_up (he : isD e = false) : ov u (ax_up h a e) = ax_up (ov u h) a e := by
  funext j
  unfold ov ax_up
  by_cases hj : j = a
  · rw [if_pos hj, if_pos hj, he]; rfl
  · rw [if_neg hj, if_neg hj]
theorem dbn_lt (hd : dbn n h) (he : isD (h a) = false) : a < n + 20 := by
  rcases Nat.lt_or_ge a (n + 20) with q | q
  · exact q
  · rw [hd a q] at he; cases he
theorem dbn_up (ha : a < n + 20) (hd : dbn n h) : dbn n (ax_up h a e) := fun j hj => by
  unfold ax_up
  rw [if_neg (by omega)]
  exact hd j hj
theorem dbn_nw (hd : dbn n h) : dbn (n + 1) (ax_up h (n + 20) e) := fun j hj => by
  unfold ax_up
  rw [if_neg (by omega)]
  exact hd j (by omega)
theorem isD_l {t len : Nat} {f : Nat → Int32} (he : h a = .inl (t, len, f)) : isD (h a) = false := by rw [he]; rfl
theorem isD_ne {ci : Nat} {fs : List Value} (hf : fs ≠ []) : isD (.inr (ci, fs)) = false := by
  cases fs with
  | nil => exact absurd rfl hf
  | cons x l => exact Bool.and_false _
theorem isD_c {ci : Nat} {fs : List Value} (hf : ci ≠ 99) : isD (.inr (ci, fs)) = false := by
  show ((ci == 99) && fs.isEmpty) = false
  rw [beq_false_of_ne hf, Bool.false_and]
theorem ov_getf (hq : ax_getf c k a r h = some s) : ax_getf c k a r (ov u h) = some s := by
  unfold ax_getf at hq ⊢
  cases hf : ax_fld c k with
  | none => rw [hf] at hq; exact (nns hq).elim
  | some q =>
    rw [hf] at hq
    dsimp only at hq ⊢
    cases he : h a with
    | inl x => rw [he] at hq; exact (nns hq).elim
    | inr x =>
      obtain ⟨ci, fs⟩ := x
      have nd : isD (h a) = false := by
        rw [he]
        refine isD_ne (fun z => ?_)
        rw [he, z] at hq
        dsimp only at hq
        split at hq
        · exact nns hq
        · exact nns hq
      rw [ov_at nd]
      exact hq
theorem ov_putf {h1 : ax_H} (hq : ax_putf c ini k a v h = some h1) : ax_putf c ini k a v (ov u h) = some (ov u h1) ∧ (dbn n h → dbn n h1) := by
  unfold ax_putf at hq ⊢
  cases hf : ax_fld c k with
  | none => rw [hf] at hq; exact (nns hq).elim
  | some q =>
    rw [hf] at hq
    dsimp only at hq ⊢
    cases he : h a with
    | inl x => rw [he] at hq; exact (nns hq).elim
    | inr x =>
      obtain ⟨ci, fs⟩ := x
      rw [he] at hq
      dsimp only at hq
      by_cases hc : ci = q.1 ∧ ci < 11 ∧ q.2 < fs.length ∧ 20 ≤ a ∧ narrow (ax_fty q.1 q.2) v = v ∧ fits (ax_fty q.1 q.2) v = true ∧ (ax_fin q.1 q.2 = false ∨ (ini = true ∧ q.1 = c))
      · rw [if_pos hc] at hq
        cases hq
        have nd : isD (h a) = false := by rw [he]; exact isD_c (by omega)
        have nd2 : isD (.inr (ci, fs.set q.2 v)) = false := isD_c (by omega)
        rw [ov_at nd, he]
        dsimp only
        rw [if_pos hc, ov_up nd2]
        exact ⟨rfl, fun hd => dbn_up (dbn_lt hd nd) hd⟩
      · rw [if_neg hc] at hq; exact (nns hq).elim
theorem cls_nd : ∀ q ∈ ax_clss, isD (.inr (q.2.2.1, ax_news.getD q.2.2.1 [])) = false := by decide +kernel
theorem cls_ok {ci : Nat} (h : ax_cls c k = some ci) : isD (.inr (ci, ax_news.getD ci [])) = false := by
  unfold ax_cls at h
  rw [Option.map_eq_some_iff] at h
  obtain ⟨q, h1, rfl⟩ := h
  exact cls_nd q (List.mem_of_find?_eq_some h1)
set_option maxHeartbeats 4000000 in
theorem ov_hp {i : Instr} {q : List Value × Nat × ax_H} (hq : ax_hp c ini i st n h = some q) : ax_hp c ini i st n (ov u h) = some (q.1, q.2.1, ov u q.2.2) ∧ (dbn n h → dbn q.2.1 q.2.2) := by
  cases i
  case getfield k =>
    cases st with
    | nil => exact (nns hq).elim
    | cons w0 r =>
      cases w0 with
      | ref a =>
        have hq : (ax_getf c k a r h).map (fun s => (s, n, h)) = some q := hq
        rw [Option.map_eq_some_iff] at hq
        obtain ⟨s, hs, rfl⟩ := hq
        exact ⟨by show (ax_getf c k a r (ov u h)).map _ = _; rw [ov_getf hs]; rfl, fun hd => hd⟩
      | _ => exact (nns hq).elim
  case putfield k =>
    cases st with
    | nil => exact (nns hq).elim
    | cons v r1 =>
      cases r1 with
      | nil => exact (nns hq).elim
      | cons w1 r =>
        cases w1 with
        | ref a =>
          have hq : (ax_putf c ini k a v h).map (fun h1 => (r, n, h1)) = some q := hq
          rw [Option.map_eq_some_iff] at hq
          obtain ⟨h1, hs, rfl⟩ := hq
          have z := ov_putf (u := u) (n := n) hs
          exact ⟨by show (ax_putf c ini k a v (ov u h)).map _ = _; rw [z.1]; rfl, z.2⟩
        | _ => exact (nns hq).elim
  case getstatic k =>
    have hq : (ax_sta c k).map (fun v => (v :: st, n, h)) = some q := hq
    rw [Option.map_eq_some_iff] at hq
    obtain ⟨v, hs, rfl⟩ := hq
    exact ⟨by show Option.map _ _ = _; rw [hs]; rfl, fun hd => hd⟩
  case ldc_w k =>
    have hq : (ax_csi c k).map (fun v => (.int v :: st, n, h)) = some q := hq
    rw [Option.map_eq_some_iff] at hq
    obtain ⟨v, hs, rfl⟩ := hq
    exact ⟨by show Option.map _ _ = _; rw [hs]; rfl, fun hd => hd⟩
  case ldc2_w k =>
    have hq : (ax_csl c k).map (fun v => (.long v :: st, n, h)) = some q := hq
    rw [Option.map_eq_some_iff] at hq
    obtain ⟨v, hs, rfl⟩ := hq
    exact ⟨by show Option.map _ _ = _; rw [hs]; rfl, fun hd => hd⟩
  case ldc k =>
    have hq : (match ax_csi c k with | some v => some (.int v :: st, n, h) | none => (ax_str c k).map (fun a => (.ref a :: st, n, h))) = some q := hq
    have gl : ax_hp c ini (.ldc k) st n (ov u h) = (match ax_csi c k with | some v => some (.int v :: st, n, ov u h) | none => (ax_str c k).map (fun a => (.ref a :: st, n, ov u h))) := rfl
    cases e1 : ax_csi c k with
    | some v => rw [e1] at hq gl; rw [gl]; cases hq; exact ⟨rfl, fun hd => hd⟩
    | none =>
      rw [e1] at hq gl
      rw [gl]
      dsimp only at hq ⊢
      rw [Option.map_eq_some_iff] at hq
      obtain ⟨v, hs, rfl⟩ := hq
      rw [hs]
      exact ⟨rfl, fun hd => hd⟩
  case arraylength =>
    cases st with
    | nil => exact (nns hq).elim
    | cons w0 r =>
      cases w0 with
      | ref a =>
        have hq : (match h a with | .inl (_, len, _) => some (.int (nI len) :: r, n, h) | .inr _ => none) = some q := hq
        have gl : ax_hp c ini .arraylength (.ref a :: r) n (ov u h) = (match ov u h a with | .inl (_, len, _) => some (.int (nI len) :: r, n, ov u h) | .inr _ => none) := rfl
        cases he : h a with
        | inr x => rw [he] at hq; exact (nns hq).elim
        | inl x =>
          obtain ⟨t, len, f⟩ := x
          rw [gl, ov_at (isD_l he), he]
          rw [he] at hq
          dsimp only at hq ⊢
          cases hq
          exact ⟨rfl, fun hd => hd⟩
      | _ => exact (nns hq).elim
  case iaload =>
    cases st with
    | nil => exact (nns hq).elim
    | cons w0 r1 =>
      cases w0 with
      | int x =>
        cases r1 with
        | nil => exact (nns hq).elim
        | cons w1 r =>
          cases w1 with
          | ref a =>
            have hq : (match h a with | .inl (t, len, f) => if t = 0 ∧ ¬ (x < 0 ∨ len ≤ x.toNatClampNeg) then some (.int (f x.toNatClampNeg) :: r, n, h) else none | .inr _ => none) = some q := hq
            have gl : ax_hp c ini .iaload (.int x :: .ref a :: r) n (ov u h) = (match ov u h a with | .inl (t, len, f) => if t = 0 ∧ ¬ (x < 0 ∨ len ≤ x.toNatClampNeg) then some (.int (f x.toNatClampNeg) :: r, n, ov u h) else none | .inr _ => none) := rfl
            cases he : h a with
            | inr x => rw [he] at hq; exact (nns hq).elim
            | inl x2 =>
              obtain ⟨t, len, f⟩ := x2
              rw [gl, ov_at (isD_l he), he]
              rw [he] at hq
              dsimp only at hq ⊢
              by_cases hc : t = 0 ∧ ¬ (x < 0 ∨ len ≤ x.toNatClampNeg)
              · rw [if_pos hc] at hq ⊢; cases hq; exact ⟨rfl, fun hd => hd⟩
              · rw [if_neg hc] at hq; exact (nns hq).elim
          | _ => exact (nns hq).elim
      | _ => exact (nns hq).elim
  case baload =>
    cases st with
    | nil => exact (nns hq).elim
    | cons w0 r1 =>
      cases w0 with
      | int x =>
        cases r1 with
        | nil => exact (nns hq).elim
        | cons w1 r =>
          cases w1 with
          | ref a =>
            have hq : (match h a with | .inl (t, len, f) => if (t = 1 ∨ t = 2) ∧ ¬ (x < 0 ∨ len ≤ x.toNatClampNeg) then some (.int (f x.toNatClampNeg) :: r, n, h) else none | .inr _ => none) = some q := hq
            have gl : ax_hp c ini .baload (.int x :: .ref a :: r) n (ov u h) = (match ov u h a with | .inl (t, len, f) => if (t = 1 ∨ t = 2) ∧ ¬ (x < 0 ∨ len ≤ x.toNatClampNeg) then some (.int (f x.toNatClampNeg) :: r, n, ov u h) else none | .inr _ => none) := rfl
            cases he : h a with
            | inr x => rw [he] at hq; exact (nns hq).elim
            | inl x2 =>
              obtain ⟨t, len, f⟩ := x2
              rw [gl, ov_at (isD_l he), he]
              rw [he] at hq
              dsimp only at hq ⊢
              by_cases hc : (t = 1 ∨ t = 2) ∧ ¬ (x < 0 ∨ len ≤ x.toNatClampNeg)
              · rw [if_pos hc] at hq ⊢; cases hq; exact ⟨rfl, fun hd => hd⟩
              · rw [if_neg hc] at hq; exact (nns hq).elim
          | _ => exact (nns hq).elim
      | _ => exact (nns hq).elim
  case iastore =>
    cases st with
    | nil => exact (nns hq).elim
    | cons w0 r1 =>
      cases w0 with
      | int v =>
        cases r1 with
        | nil => exact (nns hq).elim
        | cons w1 r2 =>
          cases w1 with
          | int x =>
            cases r2 with
            | nil => exact (nns hq).elim
            | cons w2 r =>
              cases w2 with
              | ref a =>
                have hq : (match h a with | .inl (t, len, f) => if t = 0 ∧ 20 ≤ a ∧ ¬ (x < 0 ∨ len ≤ x.toNatClampNeg) then some (r, n, ax_up h a (.inl (0, len, upd f x.toNatClampNeg v))) else none | .inr _ => none) = some q := hq
                have gl : ax_hp c ini .iastore (.int v :: .int x :: .ref a :: r) n (ov u h) = (match ov u h a with | .inl (t, len, f) => if t = 0 ∧ 20 ≤ a ∧ ¬ (x < 0 ∨ len ≤ x.toNatClampNeg) then some (r, n, ax_up (ov u h) a (.inl (0, len, upd f x.toNatClampNeg v))) else none | .inr _ => none) := rfl
                cases he : h a with
                | inr x => rw [he] at hq; exact (nns hq).elim
                | inl x2 =>
                  obtain ⟨t, len, f⟩ := x2
                  rw [gl, ov_at (isD_l he), he]
                  rw [he] at hq
                  dsimp only at hq ⊢
                  by_cases hc : t = 0 ∧ 20 ≤ a ∧ ¬ (x < 0 ∨ len ≤ x.toNatClampNeg)
                  · rw [if_pos hc] at hq ⊢; cases hq; exact ⟨by rw [ov_up rfl], fun hd => dbn_up (dbn_lt hd (isD_l he)) hd⟩
                  · rw [if_neg hc] at hq; exact (nns hq).elim
              | _ => exact (nns hq).elim
          | _ => exact (nns hq).elim
      | _ => exact (nns hq).elim
  case bastore =>
    cases st with
    | nil => exact (nns hq).elim
    | cons w0 r1 =>
      cases w0 with
      | int v =>
        cases r1 with
        | nil => exact (nns hq).elim
        | cons w1 r2 =>
          cases w1 with
          | int x =>
            cases r2 with
            | nil => exact (nns hq).elim
            | cons w2 r =>
              cases w2 with
              | ref a =>
                have hq : (match h a with | .inl (t, len, f) => if t = 1 ∧ 20 ≤ a ∧ (v = 0 ∨ v = 1) ∧ ¬ (x < 0 ∨ len ≤ x.toNatClampNeg) then some (r, n, ax_up h a (.inl (1, len, upd f x.toNatClampNeg v))) else none | .inr _ => none) = some q := hq
                have gl : ax_hp c ini .bastore (.int v :: .int x :: .ref a :: r) n (ov u h) = (match ov u h a with | .inl (t, len, f) => if t = 1 ∧ 20 ≤ a ∧ (v = 0 ∨ v = 1) ∧ ¬ (x < 0 ∨ len ≤ x.toNatClampNeg) then some (r, n, ax_up (ov u h) a (.inl (1, len, upd f x.toNatClampNeg v))) else none | .inr _ => none) := rfl
                cases he : h a with
                | inr x => rw [he] at hq; exact (nns hq).elim
                | inl x2 =>
                  obtain ⟨t, len, f⟩ := x2
                  rw [gl, ov_at (isD_l he), he]
                  rw [he] at hq
                  dsimp only at hq ⊢
                  by_cases hc : t = 1 ∧ 20 ≤ a ∧ (v = 0 ∨ v = 1) ∧ ¬ (x < 0 ∨ len ≤ x.toNatClampNeg)
                  · rw [if_pos hc] at hq ⊢; cases hq; exact ⟨by rw [ov_up rfl], fun hd => dbn_up (dbn_lt hd (isD_l he)) hd⟩
                  · rw [if_neg hc] at hq; exact (nns hq).elim
              | _ => exact (nns hq).elim
          | _ => exact (nns hq).elim
      | _ => exact (nns hq).elim
  case newarray ty =>
    cases st with
    | nil => exact (nns hq).elim
    | cons w0 r =>
      cases w0 with
      | int x =>
        have hq : (if (ty = .int ∨ ty = .boolean) ∧ ¬ x < 0 ∧ x.toNatClampNeg ≤ 400 then some (.ref (n + 20) :: r, n + 1, ax_up h (n + 20) (.inl (if ty = .int then 0 else 1, x.toNatClampNeg, fun _ => 0))) else none) = some q := hq
        have gl : ax_hp c ini (.newarray ty) (.int x :: r) n (ov u h) = (if (ty = .int ∨ ty = .boolean) ∧ ¬ x < 0 ∧ x.toNatClampNeg ≤ 400 then some (.ref (n + 20) :: r, n + 1, ax_up (ov u h) (n + 20) (.inl (if ty = .int then 0 else 1, x.toNatClampNeg, fun _ => 0))) else none) := rfl
        by_cases hc : (ty = .int ∨ ty = .boolean) ∧ ¬ x < 0 ∧ x.toNatClampNeg ≤ 400
        · rw [gl]; rw [if_pos hc] at hq ⊢; cases hq; exact ⟨by rw [ov_up rfl], fun hd => dbn_nw hd⟩
        · rw [if_neg hc] at hq; exact (nns hq).elim
      | _ => exact (nns hq).elim
  case new k =>
    have hq : (ax_cls c k).map (fun ci => (.ref (n + 20) :: st, n + 1, ax_up h (n + 20) (.inr (ci, ax_news.getD ci [])))) = some q := hq
    rw [Option.map_eq_some_iff] at hq
    obtain ⟨ci, hs, rfl⟩ := hq
    refine ⟨?_, fun hd => dbn_nw hd⟩
    show (ax_cls c k).map (fun ci => (.ref (n + 20) :: st, n + 1, ax_up (ov u h) (n + 20) (.inr (ci, ax_news.getD ci [])))) = some (.ref (n + 20) :: st, n + 1, ov u (ax_up h (n + 20) (.inr (ci, ax_news.getD ci []))))
    rw [hs, ov_up (cls_ok hs)]
    rfl
  all_goals exact (nns hq).elim
/-- calls -/
theorem cl_nd : ∀ z, z < 226 → ax_cl z ≠ 99 := by decide +kernel
theorem ov_cv {i : Instr} {q : Nat × List Value × List Value} (hq : ax_cv c i st h = some q) : ax_cv c i st (ov u h) = some q ∧ ∀ (n : Nat) (h2 : ax_H), ax_hp c ini i st n h2 = none := by
  cases i
  case invokestatic k => exact ⟨hq, fun _ _ => rfl⟩
  case invokespecial k => exact ⟨hq, fun _ _ => rfl⟩
  case invokevirtual k =>
    refine ⟨?_, fun _ _ => rfl⟩
    unfold ax_cv at hq ⊢
    dsimp only at hq ⊢
    cases hm : ax_mth c k with
    | none => rw [hm] at hq; exact (nns hq).elim
    | some z =>
      rw [hm] at hq
      dsimp only at hq ⊢
      by_cases hz : z < 226 ∧ ax_sc z = false ∧ ¬ (ax_nm z).name = "<init>"
      · rw [if_pos hz] at hq ⊢
        cases hp : ax_pop (ax_np z) [] st with
        | none => rw [hp] at hq; exact (nns hq).elim
        | some x =>
          obtain ⟨as, l⟩ := x
          rw [hp] at hq
          cases l with
          | nil => exact (nns hq).elim
          | cons w r =>
            cases w with
            | ref b =>
              dsimp only at hq ⊢
              cases he : h b with
              | inl x => rw [he] at hq; exact (nns hq).elim
              | inr x =>
                obtain ⟨ci, fs⟩ := x
                rw [he] at hq
                dsimp only at hq
                by_cases hc : ci = ax_cl z ∧ r.length ≤ 4 ∧ (ax_spread (.ref b :: as)).length ≤ ax_ml z
                · have nd : isD (h b) = false := by rw [he]; exact isD_c (by rw [hc.1]; exact cl_nd z hz.1)
                  rw [ov_at nd, he]
                  exact hq
                · rw [if_neg hc] at hq; exact (nns hq).elim
            | _ => exact (nns hq).elim
      · rw [if_neg hz] at hq; exact (nns hq).elim
  all_goals exact (nns hq).elim
theorem ov_nv {i : Instr} {q : List Value × ax_H} (hq : ax_nv c i st h = some q) : ax_nv c i st (ov u h) = some (q.1, ov u q.2) ∧ (dbn n h → dbn n q.2) ∧ (∀ (n : Nat) (h2 : ax_H), ax_hp c ini i st n h2 = none) ∧ ax_cv c i st (ov u h) = ax_cv c i st h := by
  cases i
  case invokespecial k =>
    refine ⟨?_, ?_, fun _ _ => rfl, rfl⟩
    · unfold ax_nv at hq ⊢
      dsimp only at hq ⊢
      split at hq
      · rename_i hm
        rw [if_pos hm]
        cases st with
        | nil => exact (nns hq).elim
        | cons w r =>
          cases w with
          | ref b =>
            dsimp only at hq ⊢
            split at hq
            · rename_i hl
              rw [if_pos hl]
              cases hq
              rfl
            · exact (nns hq).elim
          | _ => exact (nns hq).elim
      · exact (nns hq).elim
    · unfold ax_nv at hq
      dsimp only at hq
      split at hq
      · cases st with
        | nil => exact (nns hq).elim
        | cons w r =>
          cases w with
          | ref b =>
            dsimp only at hq
            split at hq
            · cases hq
              exact fun hd => hd
            · exact (nns hq).elim
          | _ => exact (nns hq).elim
      · exact (nns hq).elim
  case invokestatic k =>
    refine (fun (z : ax_nv c (.invokestatic k) st (ov u h) = some (q.1, ov u q.2) ∧ (dbn n h → dbn n q.2)) => ⟨z.1, z.2, fun _ _ => rfl, rfl⟩) ?_
    unfold ax_nv at hq ⊢
    dsimp only at hq ⊢
    by_cases h1 : ax_mth c k = some 901
    · rw [if_pos h1] at hq ⊢
      cases st with
      | nil => exact (nns hq).elim
      | cons w0 r1 =>
        cases w0 with
        | int m =>
          cases r1 with
          | nil => exact (nns hq).elim
          | cons w1 r2 =>
            cases w1 with
            | int dp =>
              cases r2 with
              | nil => exact (nns hq).elim
              | cons w2 r3 =>
                cases w2 with
                | ref a =>
                  cases r3 with
                  | nil => exact (nns hq).elim
                  | cons w3 r4 =>
                    cases w3 with
                    | int sp =>
                      cases r4 with
                      | nil => exact (nns hq).elim
                      | cons w4 r =>
                        cases w4 with
                        | ref a0 =>
                          dsimp only at hq ⊢
                          cases he0 : h a0 with
                          | inr x => rw [he0] at hq; exact (nns hq).elim
                          | inl x0 =>
                            cases he : h a with
                            | inr x => rw [he0, he] at hq; exact (nns hq).elim
                            | inl x1 =>
                              obtain ⟨t0, n0, f⟩ := x0
                              obtain ⟨t1, n1, g⟩ := x1
                              rw [ov_at (isD_l he0), ov_at (isD_l he), he0, he]
                              rw [he0, he] at hq
                              dsimp only at hq ⊢
                              by_cases hc : t0 = 0 ∧ t1 = 0 ∧ 20 ≤ a0 ∧ 20 ≤ a ∧ r.length ≤ 4 ∧ ¬ sp < 0 ∧ ¬ dp < 0 ∧ ¬ m < 0 ∧ sp.toNatClampNeg + m.toNatClampNeg ≤ n0 ∧ dp.toNatClampNeg + m.toNatClampNeg ≤ n1
                              · rw [if_pos hc] at hq ⊢; cases hq; exact ⟨by rw [ov_up rfl], fun hd => dbn_up (dbn_lt hd (isD_l he)) hd⟩
                              · rw [if_neg hc] at hq; exact (nns hq).elim
                        | _ => exact (nns hq).elim
                    | _ => exact (nns hq).elim
                | _ => exact (nns hq).elim
            | _ => exact (nns hq).elim
        | _ => exact (nns hq).elim
    · rw [if_neg h1] at hq ⊢
      by_cases h2 : ax_mth c k = some 902
      · rw [if_pos h2] at hq ⊢
        cases st with
        | nil => exact (nns hq).elim
        | cons w0 r1 =>
          cases w0 with
          | int y1 =>
            cases r1 with
            | nil => exact (nns hq).elim
            | cons w1 r =>
              cases w1 with
              | int x1 =>
                dsimp only at hq ⊢
                by_cases hc : r.length ≤ 4
                · rw [if_pos hc] at hq ⊢; cases hq; exact ⟨rfl, fun hd => hd⟩
                · rw [if_neg hc] at hq; exact (nns hq).elim
              | _ => exact (nns hq).elim
          | _ => exact (nns hq).elim
      · rw [if_neg h2] at hq ⊢
        by_cases h3 : ax_mth c k = some 903
        · rw [if_pos h3] at hq ⊢
          cases st with
          | nil => exact (nns hq).elim
          | cons w0 r1 =>
            cases w0 with
            | int y1 =>
              cases r1 with
              | nil => exact (nns hq).elim
              | cons w1 r =>
                cases w1 with
                | int x1 =>
                  dsimp only at hq ⊢
                  by_cases hc : r.length ≤ 4
                  · rw [if_pos hc] at hq ⊢; cases hq; exact ⟨rfl, fun hd => hd⟩
                  · rw [if_neg hc] at hq; exact (nns hq).elim
                | _ => exact (nns hq).elim
            | _ => exact (nns hq).elim
        · rw [if_neg h3] at hq ⊢
          by_cases h4 : ax_mth c k = some 904
          · rw [if_pos h4] at hq ⊢
            cases st with
            | nil => exact (nns hq).elim
            | cons w0 r =>
              cases w0 with
              | int x1 =>
                dsimp only at hq ⊢
                by_cases hc : r.length ≤ 4
                · rw [if_pos hc] at hq ⊢; cases hq; exact ⟨rfl, fun hd => hd⟩
                · rw [if_neg hc] at hq; exact (nns hq).elim
              | _ => exact (nns hq).elim
          · rw [if_neg h4] at hq; exact (nns hq).elim
  all_goals exact (nns hq).elim
theorem ov_run : ∀ (g : Nat) (d y pc : Nat) (lc st : List Value) (n : Nat) (h : ax_H) (o : ax_R), ax_run g d y pc lc st n h = some o → ax_run g d y pc lc st n (ov u h) = some (o.1, o.2.1, ov u o.2.2) ∧ (dbn n h → dbn o.2.1 o.2.2) := by
  intro g
  induction g with
  | zero => intro d y pc lc st n h o hr; rw [ax_run] at hr; cases hr
  | succ g ih =>
    intro d y pc lc st n h o hr
    obtain ⟨i, ha, hc⟩ := ax_run_inv hr
    rcases hc with ⟨st1, h1, hr⟩ | ⟨h0, q, h1, hr⟩ | ⟨h0, h1, q, h2, hr⟩ | ⟨h0, h1, h2, q, h3, hr⟩ | ⟨h0, h1, h2, h3, q, d1, o1, rfl, h4, hr1, hr⟩ | ⟨h0, h1, h2, h3, h4, q, d1, rfl, h5, hr⟩ | ⟨h0, h1, h2, h3, h4, h5, v, h6, rfl⟩
    · rw [ax_run_st ha h1]; exact ih _ _ _ _ _ _ _ _ hr
    · rw [ax_run_lc ha h0 h1]; exact ih _ _ _ _ _ _ _ _ hr
    · rw [ax_run_br ha h0 h1 h2]; exact ih _ _ _ _ _ _ _ _ hr
    · have z := ov_hp (u := u) h3
      rw [ax_run_hp ha h0 h1 h2 z.1]
      have z2 := ih _ _ _ _ _ _ _ _ hr
      exact ⟨z2.1, fun hd => z2.2 (z.2 hd)⟩
    · have z := ov_cv (u := u) (ini := ax_ini y) h4
      have z1 := ih _ _ _ _ _ _ _ _ hr1
      have z2 := ih _ _ _ _ _ _ _ _ hr
      rw [ax_run_cv ha h0 h1 h2 (z.2 n (ov u h)) z.1, z1.1]
      exact ⟨z2.1, fun hd => z2.2 (z1.2 hd)⟩
    · have z := ov_nv (u := u) (n := n) (ini := ax_ini y) h5
      have z2 := ih _ _ _ _ _ _ _ _ hr
      rw [ax_run_nv ha h0 h1 h2 (z.2.2.1 n (ov u h)) (z.2.2.2.trans h4) z.1]
      exact ⟨z2.1, fun hd => z2.2 (z.2.1 hd)⟩
    · refine ⟨?_, fun hd => hd⟩
      have e : ∀ (h2 : ax_H), ax_hp (ax_cl y) (ax_ini y) i st n h2 = none ∧ ax_cv (ax_cl y) i st h2 = none ∧ ax_nv (ax_cl y) i st h2 = none := by
        intro h2
        cases i
        case ireturn => exact ⟨rfl, rfl, rfl⟩
        case lreturn => exact ⟨rfl, rfl, rfl⟩
        case areturn => exact ⟨rfl, rfl, rfl⟩
        case return_ => exact ⟨rfl, rfl, rfl⟩
        all_goals exact (nns h6).elim
      exact ax_run_rv ha h0 h1 h2 (e _).1 (e _).2.1 (e _).2.2 h6
end Over
