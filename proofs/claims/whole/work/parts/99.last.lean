theorem zz_done : (1:Nat) = 1 := rfl
