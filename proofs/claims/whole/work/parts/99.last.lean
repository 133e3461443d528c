theorem zz_c : x_code 404 = x_code 404 := rfl
