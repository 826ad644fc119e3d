/-! ===== the same addresses ===== -/
theorem fst_k {a : Nat} {e e' : va_E} {x y : va_W} (t : x.map Prod.fst = y.map Prod.fst) : ((a, e) :: x).map Prod.fst = ((a, e') :: y).map Prod.fst := by rw [List.map_cons, List.map_cons, t]
theorem fst_c {x y : va_W} {A B : List va_W} (h : x.map Prod.fst = y.map Prod.fst) (t : A.map (List.map Prod.fst) = B.map (List.map Prod.fst)) : (x :: A).map (List.map Prod.fst) = (y :: B).map (List.map Prod.fst) := by rw [List.map_cons, List.map_cons, h, t]
theorem fst_f {A B : List va_W} (h : A.map (List.map Prod.fst) = B.map (List.map Prod.fst)) : A.flatten.map Prod.fst = B.flatten.map Prod.fst := by rw [List.map_flatten, List.map_flatten, h]
