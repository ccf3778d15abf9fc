/-! the world in which the law begins -/
def gx_tab : Nat → List Int32
  | 1 => [0, 0, -99, 0, 0, 0, 0, 1]
  | 2 => [9, 9, 99, 99, 9, 5, 9, 54]
  | 3 => [1, 1, 2, 6, 24, 120, 720]
  | 4 => [-1, 0, 0, 2, 1, 3, 0, 6]
  | 5 => [1, 10, 11, 2, 20, 0, 0, 0, 0, 30, 0, 0, 0, 41, 40, 0, 0, 0, 0, 50, 0, 0, 60, 61, 70, 0, 0, 0, 81, 80, 0, 0]
  | _ => []
def gx_w0 (Ls : Nat) (xs : Nat → Int32) : gx_W := ([(30, Ls), (30, 8), (30, 8), (30, 7), (30, 8), (30, 32)], fun _ _ => 0, fun _ _ => none, fun k => if k = 0 then xs else fun j => (gx_tab k).getD j 0, fun _ _ => 0, fun _ _ => none)
abbrev mL_law : gx_M := (x, code, maxLocals, ret)
