theorem zz1 : 1 = 1 := rfl
