theorem ax_main (L : Nat) (xs : Nat → Int32) (hL : L ≤ 384) : ax_W 1000 226 0 [.ref 0, ax_dm, ax_dm, ax_dm] [] 0 (ax_old L xs) (fun v n _ => v = some (.int 1) ∧ n ≤ 1000) :=
  st_all (lw_loop hL (fun _ => ⟨rfl, by omega⟩) L 0 (by omega) (by omega) M0 N0 Inv_0)
