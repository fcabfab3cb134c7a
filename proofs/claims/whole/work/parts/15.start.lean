/-! THE CLAIM OUT OF ONE WALK OF THE LAW'S BODY. Your part is whole_start (and what it stands on); all else here is the same for every law, but numbers. -/
def R_law : String := "DinnerPleasLaw"
def lw_P (b : Addr) (xs : List Int32) (args : Array Value) (s : State) : Prop := args = #[.ref b] ∧ s.IntsAt b xs ∧ xs.length ≤ 384 ∧ (Jvm.Cond.and given_1 narrow_1).before args s = true
def lw_Q (_ : Array Value) (s : State) (o : Outcome) (t : State) : Prop := o = .returned (some (.int 1)) ∧ Framed s o t [] 600000 7302250
def lw_Z (below : List Frame) (a : Array Value) (s : State) : State → Prop := fun t => ∃ o, t.status = .running ∧ Ended t below o ∧ lw_Q a s o t
/-- the law's own end, with 1 on the stack, nothing written that was there before, its room as the claim has it -/
theorem lw_ret {p : Program} {l : Launch} {e : Env} {s : State} {m : MethodId} {below : List Frame} {meth : Method} {c : Code} {b : Nat} (hx : p.tables.exec = Jvm.exec) (hb : c.code = code) (hr : meth.sig.returnType = ret) (hlocks : meth.locks = false) {pc : Nat} {H : Heap} {ls : Array Slot} (hdg : decode code pc = .ok (.ireturn, 1)) : W p l e room_1 s m #[Value.ref b] below meth c H [] 600000 7302250 (lw_Z below #[Value.ref b] s) (F0 m pc ls [.int 1]) := by
  intro T hT X
  obtain ⟨fs, hret, hrun, hended, hW, hframe⟩ := X.leave (v := some (.int 1)) (hlocks := hlocks) (fun h => by rw [hr] at h; cases h)
  have hmeth' : T.vm.method? m = some meth := X.method'
  refine ⟨T.setFrames fs, ?_, .returned (some (.int 1)), hrun, hended, rfl, ⟨_, rfl⟩, hW, hframe⟩
  jvm_step X.here [X.here.top, hx, hb, hdg, hmeth', hr, ret, narrow_b1]
  (try refine ⟨rfl, ?_⟩); (try refine ⟨rfl, ?_⟩)
  first | (intro acts; rw [hret _ acts rfl rfl rfl]) | rw [hret _ _ rfl rfl rfl]
  exact Steps.refl _
/-- what holds at the law's entry: the machine, the code, the tables' words (any of lw_tbl by 'hts w (by decide +kernel)'), the script of L ints xs at the cell b, what the Statement gives of the start (any of its parts by flat_of_before) -/
def lw_At (p : Program) (s : State) (m : MethodId) (meth : Method) (c : Code) (b L : Nat) (xs : Nat → Int32) : Prop :=
  p.tables.exec = Jvm.exec ∧ c.code = code ∧ meth.sig.returnType = ret ∧ c.maxLocals = 4 ∧ s.vm.findClass R_law = some m.cls ∧ (∀ w ∈ lw_tbl, w.before #[Value.ref b] s = true) ∧ va_X b L xs s s.heap ∧ b < s.heap.size ∧ meth.locks = false ∧ (Jvm.Cond.and given_1 narrow_1).before #[Value.ref b] s = true
/-! ===== the start: what lies in the heap before the law begins ===== -/
abbrev ax_ofL (l : List Int32) : Nat → Int32 := fun j => l.getD j 0
def ax_old (L : Nat) (xs : Nat → Int32) : ax_H := fun k => match k with
  | 0 => .inl (0, L, xs)
  | 1 => .inl (0, 5, ax_ofL [0, 0, 1, 0, 0])
  | 2 => .inl (0, 5, ax_ofL [5, 4, 9, 9, 2])
  | 3 => .inl (0, 1, ax_ofL [0])
  | 4 => .inl (0, 1, ax_ofL [9])
  | 5 => .inl (0, 3, ax_ofL [0, 0, 0])
  | 6 => .inl (0, 3, ax_ofL [4, 4, 3])
  | 7 => .inr (12, [.ref 11, .int 0])
  | 8 => .inr (12, [.ref 12, .int 0])
  | 9 => .inr (12, [.ref 13, .int 0])
  | 10 => .inr (12, [.ref 14, .int 0])
  | 11 => .inl (2, 5, ax_ofL [99, 111, 117, 114, 116])
  | 12 => .inl (2, 4, ax_ofL [100, 105, 115, 104])
  | 13 => .inl (2, 4, ax_ofL [109, 111, 114, 101])
  | 14 => .inl (2, 4, ax_ofL [108, 101, 115, 115])
  | _ => ax_dead
theorem ax_hasT {args : Array Value} {s : State} (hts : ∀ w ∈ lw_tbl, w.before args s = true) {i : Nat} {w : Cond} (h : ax_isW i w = true) : w.before args s = true := hts _ (List.mem_append_right _ (ax_isW_mem h))
theorem ax_start {p : Program} {s : State} {m : MethodId} {meth : Method} {c : Code} {b L : Nat} {xs : Nat → Int32} (C0 : lw_At p s m meth c b L xs) : ∃ P : ax_P, ax_K P s ∧ ax_B P = s.heap.size ∧ ax_FE P = ax_old L xs ∧ P.2.1 0 = b := by
  obtain ⟨hx, hb, hr, hml, hown, hts, hX, hbl, hlocks, hgv⟩ := C0
  have hs := flat_of_before _ hgv
  have hA : ∀ a : Nat, a < s.heap.size → ¬ (fun q : Nat => s.heap.size ≤ q) a := fun a h1 h2 => by
    have h2 : s.heap.size ≤ a := h2
    omega
  obtain ⟨t1, E1, T1⟩ := va_Tof (args := #[Value.ref b]) (s := s) (tm := .static "DinnerPleas" "DISH_LEAST" "[I") (ty := .int) (N := 5) (f := fun j => .int (ax_ofL [0, 0, 1, 0, 0] j)) (A := fun q : Nat => s.heap.size ≤ q) (by decide) (hs _ (by decide +kernel)) (va_eqt (hs _ (by decide +kernel))) (fun j hj => by
      match j, hj with
      | 0, _ => exact va_eqt (hs _ (by decide +kernel))
      | 1, _ => exact va_eqt (hs _ (by decide +kernel))
      | 2, _ => exact va_eqt (hs _ (by decide +kernel))
      | 3, _ => exact va_eqt (hs _ (by decide +kernel))
      | 4, _ => exact va_eqt (hs _ (by decide +kernel))) hA
  have Z1 := va_Zof (args := #[Value.ref b]) (ax_hasT hts (i := 321) (by decide +kernel)) (ax_hasT hts (i := 1) (by decide +kernel)) E1 hA
  obtain ⟨t2, E2, T2⟩ := va_Tof (args := #[Value.ref b]) (s := s) (tm := .static "DinnerPleas" "DISH_MOST" "[I") (ty := .int) (N := 5) (f := fun j => .int (ax_ofL [5, 4, 9, 9, 2] j)) (A := fun q : Nat => s.heap.size ≤ q) (by decide) (hs _ (by decide +kernel)) (va_eqt (hs _ (by decide +kernel))) (fun j hj => by
      match j, hj with
      | 0, _ => exact va_eqt (hs _ (by decide +kernel))
      | 1, _ => exact va_eqt (hs _ (by decide +kernel))
      | 2, _ => exact va_eqt (hs _ (by decide +kernel))
      | 3, _ => exact va_eqt (hs _ (by decide +kernel))
      | 4, _ => exact va_eqt (hs _ (by decide +kernel))) hA
  have Z2 := va_Zof (args := #[Value.ref b]) (ax_hasT hts (i := 323) (by decide +kernel)) (ax_hasT hts (i := 1) (by decide +kernel)) E2 hA
  obtain ⟨t3, E3, T3⟩ := va_Tof (args := #[Value.ref b]) (s := s) (tm := .static "DinnerPleas$Reader" "COURT_LEAST" "[I") (ty := .int) (N := 1) (f := fun j => .int (ax_ofL [0] j)) (A := fun q : Nat => s.heap.size ≤ q) (by decide) (hs _ (by decide +kernel)) (va_eqt (hs _ (by decide +kernel))) (fun j hj => by
      match j, hj with
      | 0, _ => exact va_eqt (hs _ (by decide +kernel))) hA
  have Z3 := va_Zof (args := #[Value.ref b]) (ax_hasT hts (i := 429) (by decide +kernel)) (ax_hasT hts (i := 6) (by decide +kernel)) E3 hA
  obtain ⟨t4, E4, T4⟩ := va_Tof (args := #[Value.ref b]) (s := s) (tm := .static "DinnerPleas$Reader" "COURT_MOST" "[I") (ty := .int) (N := 1) (f := fun j => .int (ax_ofL [9] j)) (A := fun q : Nat => s.heap.size ≤ q) (by decide) (hs _ (by decide +kernel)) (va_eqt (hs _ (by decide +kernel))) (fun j hj => by
      match j, hj with
      | 0, _ => exact va_eqt (hs _ (by decide +kernel))) hA
  have Z4 := va_Zof (args := #[Value.ref b]) (ax_hasT hts (i := 431) (by decide +kernel)) (ax_hasT hts (i := 6) (by decide +kernel)) E4 hA
  obtain ⟨t5, E5, T5⟩ := va_Tof (args := #[Value.ref b]) (s := s) (tm := .static "DinnerPleas$Reader" "BOOK_LEAST" "[I") (ty := .int) (N := 3) (f := fun j => .int (ax_ofL [0, 0, 0] j)) (A := fun q : Nat => s.heap.size ≤ q) (by decide) (hs _ (by decide +kernel)) (va_eqt (hs _ (by decide +kernel))) (fun j hj => by
      match j, hj with
      | 0, _ => exact va_eqt (hs _ (by decide +kernel))
      | 1, _ => exact va_eqt (hs _ (by decide +kernel))
      | 2, _ => exact va_eqt (hs _ (by decide +kernel))) hA
  have Z5 := va_Zof (args := #[Value.ref b]) (ax_hasT hts (i := 453) (by decide +kernel)) (ax_hasT hts (i := 6) (by decide +kernel)) E5 hA
  obtain ⟨t6, E6, T6⟩ := va_Tof (args := #[Value.ref b]) (s := s) (tm := .static "DinnerPleas$Reader" "BOOK_MOST" "[I") (ty := .int) (N := 3) (f := fun j => .int (ax_ofL [4, 4, 3] j)) (A := fun q : Nat => s.heap.size ≤ q) (by decide) (hs _ (by decide +kernel)) (va_eqt (hs _ (by decide +kernel))) (fun j hj => by
      match j, hj with
      | 0, _ => exact va_eqt (hs _ (by decide +kernel))
      | 1, _ => exact va_eqt (hs _ (by decide +kernel))
      | 2, _ => exact va_eqt (hs _ (by decide +kernel))) hA
  have Z6 := va_Zof (args := #[Value.ref b]) (ax_hasT hts (i := 455) (by decide +kernel)) (ax_hasT hts (i := 6) (by decide +kernel)) E6 hA
  obtain ⟨adK, adV, hstr, hev⟩ := vk_Sof (args := #[Value.ref b]) (s := s) (N := 4) (tm := fun i => Term.string "DinnerPleas$Reader" ([47, 57, 62, 68].getD i 0)) (len := [5, 4, 4, 4]) (byt := [[99, 111, 117, 114, 116], [100, 105, 115, 104], [109, 111, 114, 101], [108, 101, 115, 115]]) (A := fun q : Nat => s.heap.size ≤ q)
    (fun i hi => by
      match i, hi with
      | 0, _ => exact (by decide)
      | 1, _ => exact (by decide)
      | 2, _ => exact (by decide)
      | 3, _ => exact (by decide))
    (fun i hi => by
      match i, hi with
      | 0, _ => exact hs _ (by decide +kernel)
      | 1, _ => exact hs _ (by decide +kernel)
      | 2, _ => exact hs _ (by decide +kernel)
      | 3, _ => exact hs _ (by decide +kernel))
    (fun i hi => by
      match i, hi with
      | 0, _ => exact hs _ (by decide +kernel)
      | 1, _ => exact hs _ (by decide +kernel)
      | 2, _ => exact hs _ (by decide +kernel)
      | 3, _ => exact hs _ (by decide +kernel))
    (fun i hi => by
      match i, hi with
      | 0, _ => exact hs _ (by decide +kernel)
      | 1, _ => exact hs _ (by decide +kernel)
      | 2, _ => exact hs _ (by decide +kernel)
      | 3, _ => exact hs _ (by decide +kernel))
    (fun i hi => by
      match i, hi with
      | 0, _ => exact hs _ (by decide +kernel)
      | 1, _ => exact hs _ (by decide +kernel)
      | 2, _ => exact hs _ (by decide +kernel)
      | 3, _ => exact hs _ (by decide +kernel))
    (fun i hi j hj => by
      match i, hi, j, hj with
      | 0, _, 0, _ => exact hs _ (by decide +kernel)
      | 0, _, 1, _ => exact hs _ (by decide +kernel)
      | 0, _, 2, _ => exact hs _ (by decide +kernel)
      | 0, _, 3, _ => exact hs _ (by decide +kernel)
      | 0, _, 4, _ => exact hs _ (by decide +kernel)
      | 1, _, 0, _ => exact hs _ (by decide +kernel)
      | 1, _, 1, _ => exact hs _ (by decide +kernel)
      | 1, _, 2, _ => exact hs _ (by decide +kernel)
      | 1, _, 3, _ => exact hs _ (by decide +kernel)
      | 2, _, 0, _ => exact hs _ (by decide +kernel)
      | 2, _, 1, _ => exact hs _ (by decide +kernel)
      | 2, _, 2, _ => exact hs _ (by decide +kernel)
      | 2, _, 3, _ => exact hs _ (by decide +kernel)
      | 3, _, 0, _ => exact hs _ (by decide +kernel)
      | 3, _, 1, _ => exact hs _ (by decide +kernel)
      | 3, _, 2, _ => exact hs _ (by decide +kernel)
      | 3, _, 3, _ => exact hs _ (by decide +kernel))
    (fun i j hi hj hij => by
      match i, hi, j, hj with
      | 0, _, 0, _ => exact absurd rfl hij
      | 0, _, 1, _ => exact Or.inl (hs _ (by decide +kernel))
      | 0, _, 2, _ => exact Or.inl (hs _ (by decide +kernel))
      | 0, _, 3, _ => exact Or.inl (hs _ (by decide +kernel))
      | 1, _, 0, _ => exact Or.inr (hs _ (by decide +kernel))
      | 1, _, 1, _ => exact absurd rfl hij
      | 1, _, 2, _ => exact Or.inl (hs _ (by decide +kernel))
      | 1, _, 3, _ => exact Or.inl (hs _ (by decide +kernel))
      | 2, _, 0, _ => exact Or.inr (hs _ (by decide +kernel))
      | 2, _, 1, _ => exact Or.inr (hs _ (by decide +kernel))
      | 2, _, 2, _ => exact absurd rfl hij
      | 2, _, 3, _ => exact Or.inl (hs _ (by decide +kernel))
      | 3, _, 0, _ => exact Or.inr (hs _ (by decide +kernel))
      | 3, _, 1, _ => exact Or.inr (hs _ (by decide +kernel))
      | 3, _, 2, _ => exact Or.inr (hs _ (by decide +kernel))
      | 3, _, 3, _ => exact absurd rfl hij) hA
  have hkn : ∀ c : Nat, ∃ q : ClassId × (Nat → Nat), c < 11 → u_Kn s (ax_cn c) (ax_TT c) (ax_NN c) q.1 q.2 := by
    intro c
    by_cases hc : c < 11
    · obtain ⟨cC, iS, h⟩ := u_known (ws := lw_tbl) hts (fun w hw => (List.mem_filter.mp (ax_layG hc w hw)).1) (ax_hasT hts (ax_ins_ok c hc))
      exact ⟨(cC, iS), fun _ => h⟩
    · exact ⟨(0, fun _ => 0), fun h => absurd h hc⟩
  obtain ⟨kn, hkn⟩ := Classical.axiomOfChoice hkn
  obtain ⟨cI, kI, coI, hI1, hI2, hI3⟩ := Cond.arrayClass_spec (ax_hasT hts ax_w55)
  obtain ⟨cZ, kZ, coZ, hZ1, hZ2, hZ3⟩ := Cond.arrayClass_spec (ax_hasT hts ax_w1027)
  have hq : ∃ v : Value, v.category = 1 ∧ va_Z "jdk/internal/util/Preconditions" "SIOOBE_FORMATTER" "Ljava/util/function/BiFunction;" v (fun q : Nat => s.heap.size ≤ q) s s.heap := by
    rcases va_Zqof (args := #[Value.ref b]) (C := "jdk/internal/util/Preconditions") (n := "SIOOBE_FORMATTER") (d := "Ljava/util/function/BiFunction;") (ax_hasT hts (i := 401) (by decide +kernel)) (ax_hasT hts (i := 15) (by decide +kernel)) (hs _ (by decide +kernel)) hA with h | ⟨t, h⟩
    · exact ⟨.null, rfl, h⟩
    · exact ⟨.ref t, rfl, h⟩
  obtain ⟨vq, hvc, hvq⟩ := hq
  have hcs : va_Z "java/lang/String" "COMPACT_STRINGS" "Z" (.int 1) (fun q : Nat => s.heap.size ≤ q) s s.heap := va_Zof (args := #[Value.ref b]) (ax_hasT hts (i := 385) (by decide +kernel)) (ax_hasT hts (i := 13) (by decide +kernel)) (va_eqi (hs _ (by decide +kernel))) hA
  refine ⟨(s.heap.size, fun k => match k with
    | 0 => b
    | 1 => t1
    | 2 => t2
    | 3 => t3
    | 4 => t4
    | 5 => t5
    | 6 => t6
    | 7 => adK 0
    | 8 => adK 1
    | 9 => adK 2
    | 10 => adK 3
    | 11 => adV 0
    | 12 => adV 1
    | 13 => adV 2
    | 14 => adV 3
    | _ => 0, vq, (fun c => (kn c).1, fun c => (kn c).2), fun t => if t = 0 then cI else cZ, ax_old L xs), ⟨⟨fun c q hc => ?_, fun k q hk => ?_⟩, fun w hw => ?_, fun k t len f hk he => ?_, fun k ci fs hk he => ?_, fun q hq => ?_, fun q hq => ?_, hvc, Nat.le_refl _⟩, rfl, rfl, rfl⟩
  · have hl : c < 11 := (List.getElem?_eq_some_iff.mp hc).1
    have e : q = (ax_cn c, ax_TT c, ax_NN c) := Option.some.inj (hc.symm.trans (ax_vw c hl))
    subst e
    exact hkn c hl
  · match k, hk with
    | 0, hk =>
      cases hk
      exact ⟨fun n z => ⟨fun k h => (by cases h), kI, hI2, coI, hI3⟩, hI1⟩
    | 1, hk =>
      cases hk
      exact ⟨fun n z => ⟨fun k h => (by cases h), kZ, hZ2, coZ, hZ3⟩, hZ1⟩
    | k + 2, hk => cases hk
  · refine va_Nw.of ?_ (hts w (List.mem_filter.mp hw).1)
    have h2 := (List.mem_filter.mp hw).2
    cases w <;> first | rfl | (simp [ax_isN] at h2)
  · match k, hk, he with
    | 0, _, he =>
      cases he
      obtain ⟨scr, x1, x2, x3, x4, x5⟩ := hX
      exact ⟨scr, x1, x2, x3, by omega, (by rw [x4]), x5, hA b hbl⟩
    | 1, _, he => cases he; exact T1
    | 2, _, he => cases he; exact T2
    | 3, _, he => cases he; exact T3
    | 4, _, he => cases he; exact T4
    | 5, _, he => cases he; exact T5
    | 6, _, he => cases he; exact T6
    | 7, _, he => cases he
    | 8, _, he => cases he
    | 9, _, he => cases he
    | 10, _, he => cases he
    | 11, _, he => cases he; exact (hstr.1 0 (by omega)).2.2.2
    | 12, _, he => cases he; exact (hstr.1 1 (by omega)).2.2.2
    | 13, _, he => cases he; exact (hstr.1 2 (by omega)).2.2.2
    | 14, _, he => cases he; exact (hstr.1 3 (by omega)).2.2.2
    | k + 15, _, he => cases he
  · match k, hk, he with
    | 0, _, he => cases he
    | 1, _, he => cases he
    | 2, _, he => cases he
    | 3, _, he => cases he
    | 4, _, he => cases he
    | 5, _, he => cases he
    | 6, _, he => cases he
    | 7, _, he => cases he; exact Or.inr ⟨rfl, 11, by omega, rfl, (hstr.1 0 (by omega)).1, (hstr.1 0 (by omega)).2.2.1, (hstr.1 0 (by omega)).2.1⟩
    | 8, _, he => cases he; exact Or.inr ⟨rfl, 12, by omega, rfl, (hstr.1 1 (by omega)).1, (hstr.1 1 (by omega)).2.2.1, (hstr.1 1 (by omega)).2.1⟩
    | 9, _, he => cases he; exact Or.inr ⟨rfl, 13, by omega, rfl, (hstr.1 2 (by omega)).1, (hstr.1 2 (by omega)).2.2.1, (hstr.1 2 (by omega)).2.1⟩
    | 10, _, he => cases he; exact Or.inr ⟨rfl, 14, by omega, rfl, (hstr.1 3 (by omega)).1, (hstr.1 3 (by omega)).2.2.1, (hstr.1 3 (by omega)).2.1⟩
    | 11, _, he => cases he
    | 12, _, he => cases he
    | 13, _, he => cases he
    | 14, _, he => cases he
    | k + 15, _, he => cases he; exact Or.inl rfl
  · unfold ax_stas at hq
    simp only [List.mem_cons, List.not_mem_nil, or_false] at hq
    rcases hq with rfl | rfl | rfl | rfl | rfl | rfl | rfl | rfl | rfl | rfl
    · exact Z1
    · exact Z2
    · exact hcs
    · exact hvq
    · exact Z3
    · exact Z4
    · exact Z1
    · exact Z2
    · exact Z5
    · exact Z6
  · unfold ax_strs at hq
    simp only [List.mem_cons, List.not_mem_nil, or_false] at hq
    rcases hq with rfl | rfl | rfl | rfl
    · exact vk_R.of (A := #[Value.ref b]) (ax_hasT hts (i := 371) (by decide +kernel)) (hev 0 (by omega))
    · exact vk_R.of (A := #[Value.ref b]) (ax_hasT hts (i := 440) (by decide +kernel)) (hev 1 (by omega))
    · exact vk_R.of (A := #[Value.ref b]) (ax_hasT hts (i := 447) (by decide +kernel)) (hev 2 (by omega))
    · exact vk_R.of (A := #[Value.ref b]) (ax_hasT hts (i := 456) (by decide +kernel)) (hev 3 (by omega))
/-- the law, out of the small machine's run of it -/
theorem ax_whole {p : Program} {e : Env} {s : State} {m : MethodId} {below : List Frame} {meth : Method} {c : Code} (l : Launch) {b L : Nat} {xs : Nat → Int32} (C0 : lw_At p s m meth c b L xs) (hW : ax_W 1000 226 0 [.ref 0, ax_dm, ax_dm, ax_dm] [] 0 (ax_old L xs) (fun v n _ => v = some (.int 1) ∧ n ≤ 1000)) : W p l e room_1 s m #[Value.ref b] below meth c s.heap [] 0 0 (lw_Z below #[Value.ref b] s) (entryFrame m ([Value.ref b] : List Value).toArray 4) := by
  obtain ⟨P, hK, hB, hF, h0⟩ := ax_start C0
  obtain ⟨hx, hb, hr, hml, hown, hts, hX, hbl, hlocks, hgv⟩ := C0
  obtain ⟨g, o, hrun, ho, hn⟩ := hW
  have hf : P.2.2.1.category = 1 := hK.2.2.2.2.2.2.1
  have hRel : ax_Rel P 0 (ax_old L xs) s.heap := by
    refine ⟨fun k q hk => ?_, by rw [hB]; rfl, fun k _ => rfl, fun k _ => (by rw [hF]), fun k t len f he => ?_⟩
    · simp [ax_ws] at hk
    · cases he
  have htr : ([Value.ref b] : List Value) = ([Value.ref 0] : List Value).map (ax_tr P) := by
    show _ = [Value.ref (ax_ad P 0)]
    rw [ax_ad_old (by omega), h0]
  have hS0 : ∀ (H : Heap) (locs : List Loc), va_S (ax_A P) s.heap H locs → ∀ q ∈ locs, s.heap.size ≤ q.base := fun H locs hS q hq => by
    have := hS.2.2 q hq
    rw [← hB]
    exact this
  have hCC : ax_C p s m #[Value.ref b] meth c 226 := ⟨hx, hb, hml, hown, fun w hw => hts w (List.mem_filter.mp hw).1, hr, hlocks, fun hi => by cases hi⟩
  have hl := ax_ent_has (P := P) (z := 226) (as := [Value.ref 0]) hf (by decide)
  rw [← htr] at hl
  rw [lg_entry_eq]
  refine ax_sound g 1000 226 0 [.ref 0, ax_dm, ax_dm, ax_dm] [] 0 (ax_old L xs) o hrun (by omega) o.2.1 (400 * o.2.1) hCC hK hRel va_S.rf hl rfl (by decide) (by decide) (by omega) (by omega) (show o.2.1 ≤ 600000 by omega) (show 400 * o.2.1 ≤ 7302250 by omega) (fun pc ls st i H locs w1 w2 w3 w4 => ?_)
  rw [ho] at w1
  unfold ax_rv at w1
  split at w1
  · split at w1
    · split at w1
      · split at w1
        · cases w1
          refine va_forget (hS0 H locs w4) (W.widen (show o.2.1 ≤ 600000 by omega) (show 400 * o.2.1 ≤ 7302250 by omega) ?_)
          exact lw_ret hx hb hr hlocks w2
        · cases w1
      · cases w1
    · cases w1
  · split at w1
    · split at w1 <;> cases w1
    · cases w1
  · split at w1
    · split at w1 <;> cases w1
    · cases w1
  · split at w1
    · split at w1 <;> cases w1
    · cases w1
  · cases w1
