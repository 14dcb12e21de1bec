/-! rows that are written out: places and numbers, 0 elsewhere -/
def rowL : List (Nat × Int) → Row
  | [] => fun _ => 0
  | q :: t => upv (rowL t) q.1 q.2
