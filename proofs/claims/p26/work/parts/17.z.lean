theorem zz_two : 2 = 2 := rfl
