/-! ===== the two objects as they are made: run ===== -/
def dH : ax_H := fun _ => ax_dead
def o80 : Option ax_R := ax_run 1000 999 80 0 [.ref 20] [] 1 (ax_up dH 20 (.inr (9, ax_news.getD 9 [])))
def h80 : ax_H := match o80 with
  | some o => o.2.2
  | none => dH
theorem e80 : o80.map (fun o => (o.1, o.2.1)) = some (none, 64) := by decide +kernel
def o134 : Option ax_R := ax_run 3000 999 134 0 [.ref 84] [] 65 (ax_up h80 84 (.inr (10, ax_news.getD 10 [])))
def hF : ax_H := match o134 with
  | some o => o.2.2
  | none => dH
theorem e134 : o134.map (fun o => (o.1, o.2.1)) = some (none, 82) := by decide +kernel
