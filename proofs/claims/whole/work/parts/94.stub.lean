theorem p6 {M : ax_M} {N : ax_L} (hI : Inv M N) : RPi 87 209 [.ref 20, ax_dm] [.ref 84, ax_dm, ax_dm] M N := sorry
