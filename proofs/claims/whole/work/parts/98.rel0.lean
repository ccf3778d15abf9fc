/-! the world after the constructors: class and reference stand alike -/
set_option maxRecDepth 20000 in
theorem yr_6_0 {Ls : Nat} {xs : Nat → Int32} : w_r (y181 Ls xs) 6 0 = some 37 := rfl
set_option maxRecDepth 20000 in
theorem yr_6_1 {Ls : Nat} {xs : Nat → Int32} : w_r (y181 Ls xs) 6 1 = some 39 := rfl
set_option maxRecDepth 20000 in
theorem yr_6_2 {Ls : Nat} {xs : Nat → Int32} : w_r (y181 Ls xs) 6 2 = some 7 := rfl
set_option maxRecDepth 20000 in
theorem yr_6_3 {Ls : Nat} {xs : Nat → Int32} : w_r (y181 Ls xs) 6 3 = some 9 := rfl
set_option maxRecDepth 20000 in
theorem yr_6_4 {Ls : Nat} {xs : Nat → Int32} : w_r (y181 Ls xs) 6 4 = some 14 := rfl
set_option maxRecDepth 20000 in
theorem yr_6_5 {Ls : Nat} {xs : Nat → Int32} : w_r (y181 Ls xs) 6 5 = some 17 := rfl
set_option maxRecDepth 20000 in
theorem yr_6_6 {Ls : Nat} {xs : Nat → Int32} : w_r (y181 Ls xs) 6 6 = some 20 := rfl
set_option maxRecDepth 20000 in
theorem yr_6_7 {Ls : Nat} {xs : Nat → Int32} : w_r (y181 Ls xs) 6 7 = some 21 := rfl
set_option maxRecDepth 20000 in
theorem yr_6_8 {Ls : Nat} {xs : Nat → Int32} : w_r (y181 Ls xs) 6 8 = some 22 := rfl
set_option maxRecDepth 20000 in
theorem yr_6_9 {Ls : Nat} {xs : Nat → Int32} : w_r (y181 Ls xs) 6 9 = some 23 := rfl
set_option maxRecDepth 20000 in
theorem yr_6_10 {Ls : Nat} {xs : Nat → Int32} : w_r (y181 Ls xs) 6 10 = some 27 := rfl
set_option maxRecDepth 20000 in
theorem yr_7_0 {Ls : Nat} {xs : Nat → Int32} : w_r (y181 Ls xs) 7 0 = some 8 := rfl
set_option maxRecDepth 20000 in
theorem yr_9_0 {Ls : Nat} {xs : Nat → Int32} : w_r (y181 Ls xs) 9 0 = some 10 := rfl
set_option maxRecDepth 20000 in
theorem yr_9_1 {Ls : Nat} {xs : Nat → Int32} : w_r (y181 Ls xs) 9 1 = some 11 := rfl
set_option maxRecDepth 20000 in
theorem yr_9_2 {Ls : Nat} {xs : Nat → Int32} : w_r (y181 Ls xs) 9 2 = some 12 := rfl
set_option maxRecDepth 20000 in
theorem yr_9_3 {Ls : Nat} {xs : Nat → Int32} : w_r (y181 Ls xs) 9 3 = some 13 := rfl
set_option maxRecDepth 20000 in
theorem yr_14_0 {Ls : Nat} {xs : Nat → Int32} : w_r (y181 Ls xs) 14 0 = some 15 := rfl
set_option maxRecDepth 20000 in
theorem yr_14_1 {Ls : Nat} {xs : Nat → Int32} : w_r (y181 Ls xs) 14 1 = some 16 := rfl
set_option maxRecDepth 20000 in
theorem yr_17_0 {Ls : Nat} {xs : Nat → Int32} : w_r (y181 Ls xs) 17 0 = some 18 := rfl
set_option maxRecDepth 20000 in
theorem yr_17_1 {Ls : Nat} {xs : Nat → Int32} : w_r (y181 Ls xs) 17 1 = some 19 := rfl
set_option maxRecDepth 20000 in
theorem yr_27_0 {Ls : Nat} {xs : Nat → Int32} : w_r (y181 Ls xs) 27 0 = some 28 := rfl
set_option maxRecDepth 20000 in
theorem yr_27_1 {Ls : Nat} {xs : Nat → Int32} : w_r (y181 Ls xs) 27 1 = some 29 := rfl
set_option maxRecDepth 20000 in
theorem yr_27_2 {Ls : Nat} {xs : Nat → Int32} : w_r (y181 Ls xs) 27 2 = some 30 := rfl
set_option maxRecDepth 20000 in
theorem yr_27_3 {Ls : Nat} {xs : Nat → Int32} : w_r (y181 Ls xs) 27 3 = some 31 := rfl
set_option maxRecDepth 20000 in
theorem yr_32_0 {Ls : Nat} {xs : Nat → Int32} : w_r (y181 Ls xs) 32 0 = some 33 := rfl
set_option maxRecDepth 20000 in
theorem yr_32_1 {Ls : Nat} {xs : Nat → Int32} : w_r (y181 Ls xs) 32 1 = some 34 := rfl
set_option maxRecDepth 20000 in
theorem yr_32_2 {Ls : Nat} {xs : Nat → Int32} : w_r (y181 Ls xs) 32 2 = some 35 := rfl
set_option maxRecDepth 20000 in
theorem yr_32_3 {Ls : Nat} {xs : Nat → Int32} : w_r (y181 Ls xs) 32 3 = some 36 := rfl
set_option maxRecDepth 20000 in
theorem yr_37_0 {Ls : Nat} {xs : Nat → Int32} : w_r (y181 Ls xs) 37 0 = some 38 := rfl
set_option maxRecDepth 20000 in
theorem yr_37_2 {Ls : Nat} {xs : Nat → Int32} : w_r (y181 Ls xs) 37 2 = some 32 := rfl
set_option maxRecDepth 20000 in
theorem yr_39_0 {Ls : Nat} {xs : Nat → Int32} : w_r (y181 Ls xs) 39 0 = some 43 := rfl
set_option maxRecDepth 20000 in
theorem yr_39_1 {Ls : Nat} {xs : Nat → Int32} : w_r (y181 Ls xs) 39 1 = some 40 := rfl
set_option maxRecDepth 20000 in
theorem yr_39_2 {Ls : Nat} {xs : Nat → Int32} : w_r (y181 Ls xs) 39 2 = some 41 := rfl
set_option maxRecDepth 20000 in
theorem yr_39_3 {Ls : Nat} {xs : Nat → Int32} : w_r (y181 Ls xs) 39 3 = some 42 := rfl
set_option maxRecDepth 20000 in
theorem yr_43_0 {Ls : Nat} {xs : Nat → Int32} : w_r (y181 Ls xs) 43 0 = some 44 := rfl
set_option maxRecDepth 20000 in
theorem yr_43_2 {Ls : Nat} {xs : Nat → Int32} : w_r (y181 Ls xs) 43 2 = some 32 := rfl
set_option maxRecDepth 20000 in
theorem yr_45_0 {Ls : Nat} {xs : Nat → Int32} : w_r (y181 Ls xs) 45 0 = some 46 := rfl
set_option maxRecDepth 20000 in
theorem yr_47_0 {Ls : Nat} {xs : Nat → Int32} : w_r (y181 Ls xs) 47 0 = some 48 := rfl
set_option maxRecDepth 20000 in
theorem yr_49_0 {Ls : Nat} {xs : Nat → Int32} : w_r (y181 Ls xs) 49 0 = some 50 := rfl
set_option maxRecDepth 20000 in
theorem yr_51_0 {Ls : Nat} {xs : Nat → Int32} : w_r (y181 Ls xs) 51 0 = some 52 := rfl
set_option maxRecDepth 20000 in
theorem yr_53_0 {Ls : Nat} {xs : Nat → Int32} : w_r (y181 Ls xs) 53 0 = some 54 := rfl
set_option maxRecDepth 20000 in
theorem yr_55_0 {Ls : Nat} {xs : Nat → Int32} : w_r (y181 Ls xs) 55 0 = some 56 := rfl
set_option maxRecDepth 20000 in
theorem yr_57_2 {Ls : Nat} {xs : Nat → Int32} : w_r (y181 Ls xs) 57 2 = some 58 := rfl
set_option maxRecDepth 20000 in
theorem yr_57_3 {Ls : Nat} {xs : Nat → Int32} : w_r (y181 Ls xs) 57 3 = some 59 := rfl
set_option maxRecDepth 20000 in
theorem yr_57_4 {Ls : Nat} {xs : Nat → Int32} : w_r (y181 Ls xs) 57 4 = some 60 := rfl
set_option maxRecDepth 20000 in
theorem yr_57_5 {Ls : Nat} {xs : Nat → Int32} : w_r (y181 Ls xs) 57 5 = some 61 := rfl
set_option maxRecDepth 20000 in
theorem yr_57_6 {Ls : Nat} {xs : Nat → Int32} : w_r (y181 Ls xs) 57 6 = some 62 := rfl
set_option maxRecDepth 20000 in
theorem yr_57_9 {Ls : Nat} {xs : Nat → Int32} : w_r (y181 Ls xs) 57 9 = some 63 := rfl
set_option maxRecDepth 20000 in
theorem yr_57_10 {Ls : Nat} {xs : Nat → Int32} : w_r (y181 Ls xs) 57 10 = some 64 := rfl
set_option maxRecDepth 20000 in
theorem yr_57_11 {Ls : Nat} {xs : Nat → Int32} : w_r (y181 Ls xs) 57 11 = some 65 := rfl
set_option maxRecDepth 20000 in
theorem yr_57_12 {Ls : Nat} {xs : Nat → Int32} : w_r (y181 Ls xs) 57 12 = some 66 := rfl
set_option maxRecDepth 20000 in
theorem yr_57_13 {Ls : Nat} {xs : Nat → Int32} : w_r (y181 Ls xs) 57 13 = some 67 := rfl
set_option maxRecDepth 20000 in
theorem yr_57_19 {Ls : Nat} {xs : Nat → Int32} : w_r (y181 Ls xs) 57 19 = some 68 := rfl
set_option maxRecDepth 20000 in
theorem yr_57_20 {Ls : Nat} {xs : Nat → Int32} : w_r (y181 Ls xs) 57 20 = some 69 := rfl
set_option maxRecDepth 20000 in
theorem yr_57_21 {Ls : Nat} {xs : Nat → Int32} : w_r (y181 Ls xs) 57 21 = some 70 := rfl
set_option maxRecDepth 20000 in
theorem yr_57_22 {Ls : Nat} {xs : Nat → Int32} : w_r (y181 Ls xs) 57 22 = some 71 := rfl
set_option maxRecDepth 20000 in
theorem yr_57_23 {Ls : Nat} {xs : Nat → Int32} : w_r (y181 Ls xs) 57 23 = some 72 := rfl
set_option maxRecDepth 20000 in
theorem yr_57_24 {Ls : Nat} {xs : Nat → Int32} : w_r (y181 Ls xs) 57 24 = some 73 := rfl
set_option maxRecDepth 20000 in
theorem yr_57_25 {Ls : Nat} {xs : Nat → Int32} : w_r (y181 Ls xs) 57 25 = some 74 := rfl
set_option maxRecDepth 20000 in
theorem yr_57_27 {Ls : Nat} {xs : Nat → Int32} : w_r (y181 Ls xs) 57 27 = some 75 := rfl
set_option maxRecDepth 20000 in
theorem yr_57_28 {Ls : Nat} {xs : Nat → Int32} : w_r (y181 Ls xs) 57 28 = some 76 := rfl
set_option maxRecDepth 20000 in
theorem yr_57_29 {Ls : Nat} {xs : Nat → Int32} : w_r (y181 Ls xs) 57 29 = some 77 := rfl
set_option maxRecDepth 20000 in
theorem yr_57_30 {Ls : Nat} {xs : Nat → Int32} : w_r (y181 Ls xs) 57 30 = some 78 := rfl
set_option maxRecDepth 20000 in
theorem yr_57_32 {Ls : Nat} {xs : Nat → Int32} : w_r (y181 Ls xs) 57 32 = some 79 := rfl
set_option maxRecDepth 20000 in
theorem yr_57_33 {Ls : Nat} {xs : Nat → Int32} : w_r (y181 Ls xs) 57 33 = some 80 := rfl
set_option maxRecDepth 20000 in
theorem yr_57_34 {Ls : Nat} {xs : Nat → Int32} : w_r (y181 Ls xs) 57 34 = some 81 := rfl
set_option maxRecDepth 20000 in
theorem yr_57_36 {Ls : Nat} {xs : Nat → Int32} : w_r (y181 Ls xs) 57 36 = some 82 := rfl
set_option maxRecDepth 20000 in
theorem yr_57_41 {Ls : Nat} {xs : Nat → Int32} : w_r (y181 Ls xs) 57 41 = some 83 := rfl
set_option maxRecDepth 20000 in
theorem yr_57_42 {Ls : Nat} {xs : Nat → Int32} : w_r (y181 Ls xs) 57 42 = some 84 := rfl
set_option maxRecDepth 20000 in
theorem yr_57_44 {Ls : Nat} {xs : Nat → Int32} : w_r (y181 Ls xs) 57 44 = some 85 := rfl
set_option maxRecDepth 20000 in
theorem yr_57_46 {Ls : Nat} {xs : Nat → Int32} : w_r (y181 Ls xs) 57 46 = some 86 := rfl
set_option maxRecDepth 20000 in
theorem yr_57_47 {Ls : Nat} {xs : Nat → Int32} : w_r (y181 Ls xs) 57 47 = some 87 := rfl
set_option maxRecDepth 20000 in
theorem yr_57_48 {Ls : Nat} {xs : Nat → Int32} : w_r (y181 Ls xs) 57 48 = some 88 := rfl
set_option maxRecDepth 20000 in
theorem yr_57_49 {Ls : Nat} {xs : Nat → Int32} : w_r (y181 Ls xs) 57 49 = some 89 := rfl
set_option maxRecDepth 20000 in
theorem yr_57_50 {Ls : Nat} {xs : Nat → Int32} : w_r (y181 Ls xs) 57 50 = some 90 := rfl
set_option maxRecDepth 20000 in
theorem yi_7_1 {Ls : Nat} {xs : Nat → Int32} : w_i (y181 Ls xs) 7 1 = 0 := rfl
set_option maxRecDepth 20000 in
theorem yi_9_4 {Ls : Nat} {xs : Nat → Int32} : w_i (y181 Ls xs) 9 4 = 0 := rfl
set_option maxRecDepth 20000 in
theorem yi_9_5 {Ls : Nat} {xs : Nat → Int32} : w_i (y181 Ls xs) 9 5 = 0 := rfl
set_option maxRecDepth 20000 in
theorem yi_14_2 {Ls : Nat} {xs : Nat → Int32} : w_i (y181 Ls xs) 14 2 = 0 := rfl
set_option maxRecDepth 20000 in
theorem yi_14_3 {Ls : Nat} {xs : Nat → Int32} : w_i (y181 Ls xs) 14 3 = 0 := rfl
set_option maxRecDepth 20000 in
theorem yi_17_2 {Ls : Nat} {xs : Nat → Int32} : w_i (y181 Ls xs) 17 2 = 0 := rfl
set_option maxRecDepth 20000 in
theorem yi_17_3 {Ls : Nat} {xs : Nat → Int32} : w_i (y181 Ls xs) 17 3 = 0 := rfl
set_option maxRecDepth 20000 in
theorem yi_27_4 {Ls : Nat} {xs : Nat → Int32} : w_i (y181 Ls xs) 27 4 = 0 := rfl
set_option maxRecDepth 20000 in
theorem yi_32_4 {Ls : Nat} {xs : Nat → Int32} : w_i (y181 Ls xs) 32 4 = 0 := rfl
set_option maxRecDepth 20000 in
theorem yi_37_1 {Ls : Nat} {xs : Nat → Int32} : w_i (y181 Ls xs) 37 1 = 0 := rfl
set_option maxRecDepth 20000 in
theorem yi_57_1 {Ls : Nat} {xs : Nat → Int32} : w_i (y181 Ls xs) 57 1 = 0 := rfl
set_option maxRecDepth 20000 in
theorem yi_57_7 {Ls : Nat} {xs : Nat → Int32} : w_i (y181 Ls xs) 57 7 = 0 := rfl
set_option maxRecDepth 20000 in
theorem yi_57_8 {Ls : Nat} {xs : Nat → Int32} : w_i (y181 Ls xs) 57 8 = 0 := rfl
set_option maxRecDepth 20000 in
theorem yi_57_14 {Ls : Nat} {xs : Nat → Int32} : w_i (y181 Ls xs) 57 14 = 0 := rfl
set_option maxRecDepth 20000 in
theorem yi_57_26 {Ls : Nat} {xs : Nat → Int32} : w_i (y181 Ls xs) 57 26 = 0 := rfl
set_option maxRecDepth 20000 in
theorem yi_57_38 {Ls : Nat} {xs : Nat → Int32} : w_i (y181 Ls xs) 57 38 = 0 := rfl
set_option maxRecDepth 20000 in
theorem yi_57_39 {Ls : Nat} {xs : Nat → Int32} : w_i (y181 Ls xs) 57 39 = 0 := rfl
set_option maxRecDepth 20000 in
theorem yi_57_40 {Ls : Nat} {xs : Nat → Int32} : w_i (y181 Ls xs) 57 40 = 0 := rfl
set_option maxRecDepth 20000 in
theorem yi_57_43 {Ls : Nat} {xs : Nat → Int32} : w_i (y181 Ls xs) 57 43 = 0 := rfl
set_option maxRecDepth 20000 in
theorem yi_57_45 {Ls : Nat} {xs : Nat → Int32} : w_i (y181 Ls xs) 57 45 = 0 := rfl
set_option maxRecDepth 20000 in
theorem yi_45_1 {Ls : Nat} {xs : Nat → Int32} : w_i (y181 Ls xs) 45 1 = 0 := rfl
set_option maxRecDepth 20000 in
theorem yi_45_4 {Ls : Nat} {xs : Nat → Int32} : w_i (y181 Ls xs) 45 4 = 0 := rfl
set_option maxRecDepth 20000 in
theorem yi_47_1 {Ls : Nat} {xs : Nat → Int32} : w_i (y181 Ls xs) 47 1 = 0 := rfl
set_option maxRecDepth 20000 in
theorem yi_47_4 {Ls : Nat} {xs : Nat → Int32} : w_i (y181 Ls xs) 47 4 = 0 := rfl
set_option maxRecDepth 20000 in
theorem yi_49_1 {Ls : Nat} {xs : Nat → Int32} : w_i (y181 Ls xs) 49 1 = 0 := rfl
set_option maxRecDepth 20000 in
theorem yi_49_4 {Ls : Nat} {xs : Nat → Int32} : w_i (y181 Ls xs) 49 4 = 0 := rfl
set_option maxRecDepth 20000 in
theorem yi_51_1 {Ls : Nat} {xs : Nat → Int32} : w_i (y181 Ls xs) 51 1 = 0 := rfl
set_option maxRecDepth 20000 in
theorem yi_51_4 {Ls : Nat} {xs : Nat → Int32} : w_i (y181 Ls xs) 51 4 = 0 := rfl
set_option maxRecDepth 20000 in
theorem yi_53_1 {Ls : Nat} {xs : Nat → Int32} : w_i (y181 Ls xs) 53 1 = 0 := rfl
set_option maxRecDepth 20000 in
theorem yi_53_4 {Ls : Nat} {xs : Nat → Int32} : w_i (y181 Ls xs) 53 4 = 0 := rfl
set_option maxRecDepth 20000 in
theorem yi_55_1 {Ls : Nat} {xs : Nat → Int32} : w_i (y181 Ls xs) 55 1 = 0 := rfl
set_option maxRecDepth 20000 in
theorem yi_55_4 {Ls : Nat} {xs : Nat → Int32} : w_i (y181 Ls xs) 55 4 = 0 := rfl
set_option maxRecDepth 20000 in
theorem yi_57_37 {Ls : Nat} {xs : Nat → Int32} : w_i (y181 Ls xs) 57 37 = -2 := rfl
set_option maxRecDepth 20000 in
theorem ya_38 {Ls : Nat} {xs : Nat → Int32} : w_a (y181 Ls xs) 38 = va_up (va_up (va_up (fun _ => 0) 24 8) 26 2) 27 4 := rfl
set_option maxRecDepth 20000 in
theorem ya_62 {Ls : Nat} {xs : Nat → Int32} : w_a (y181 Ls xs) 62 = va_up (va_up (va_up (va_up (fun _ => 0) 0 8) 1 0) 2 2) 3 4 := rfl
set_option maxRecDepth 20000 in
theorem ya_21 {Ls : Nat} {xs : Nat → Int32} : w_a (y181 Ls xs) 21 = va_up (fun _ => 0) 4 (-2) := rfl
set_option maxRecDepth 20000 in
theorem ya_16 {Ls : Nat} {xs : Nat → Int32} : w_a (y181 Ls xs) 16 = fun _ => 0 := rfl
set_option maxRecDepth 20000 in
theorem ya_82 {Ls : Nat} {xs : Nat → Int32} : w_a (y181 Ls xs) 82 = fun _ => 0 := rfl
set_option maxRecDepth 20000 in
theorem ya_84 {Ls : Nat} {xs : Nat → Int32} : w_a (y181 Ls xs) 84 = fun _ => 0 := rfl
set_option maxRecDepth 20000 in
theorem ya_87 {Ls : Nat} {xs : Nat → Int32} : w_a (y181 Ls xs) 87 = va_up (va_up (va_up (va_up (va_up (va_up (fun _ => 0) 0 (-1)) 1 (-1)) 2 (-1)) 3 (-1)) 4 (-1)) 5 (-1) := rfl
set_option maxRecDepth 20000 in
theorem ya_1 {Ls : Nat} {xs : Nat → Int32} : w_a (y181 Ls xs) 1 = fun j => (gx_tab 1).getD j 0 := rfl
set_option maxRecDepth 20000 in
theorem ya_2 {Ls : Nat} {xs : Nat → Int32} : w_a (y181 Ls xs) 2 = fun j => (gx_tab 2).getD j 0 := rfl
set_option maxRecDepth 20000 in
theorem ya_3 {Ls : Nat} {xs : Nat → Int32} : w_a (y181 Ls xs) 3 = fun j => (gx_tab 3).getD j 0 := rfl
set_option maxRecDepth 20000 in
theorem ya_4 {Ls : Nat} {xs : Nat → Int32} : w_a (y181 Ls xs) 4 = fun j => (gx_tab 4).getD j 0 := rfl
set_option maxRecDepth 20000 in
theorem ya_5 {Ls : Nat} {xs : Nat → Int32} : w_a (y181 Ls xs) 5 = fun j => (gx_tab 5).getD j 0 := rfl
set_option maxRecDepth 20000 in
theorem yq_20 {Ls : Nat} {xs : Nat → Int32} : w_q (y181 Ls xs) 20 = va_up (va_up (va_up (va_up (va_up (va_up (fun _ => none) 0 (some 45)) 1 (some 47)) 2 (some 49)) 3 (some 51)) 4 (some 53)) 5 (some 55) := rfl
set_option maxRecDepth 20000 in
theorem yq_23 {Ls : Nat} {xs : Nat → Int32} : w_q (y181 Ls xs) 23 = fun j => if j < 3 then some (23 + 1 + j) else none := rfl
set_option maxRecDepth 20000 in
theorem y_0 {Ls : Nat} {xs : Nat → Int32} : w_a (y181 Ls xs) 0 = xs := rfl
