theorem wcI : Cond.arrayClass .int ∈ ztb := zat 108 (by decide +kernel) rfl
theorem wcL : Cond.arrayClass .long ∈ ztb := zat 160 (by decide +kernel) rfl
theorem zoi_i : Cond.instanceMethod Lib.objectInit ∈ ztb := zat 73 (by decide +kernel) rfl
theorem zoi_c : Cond.code Lib.objectInit ⟨#[0xb1]⟩ 1 none ∈ ztb := zat 74 (by decide +kernel) rfl
theorem cl_X5_7 : Cond.classLink RX5 7 RX4 ∈ ztb := zat 75 (by decide +kernel) rfl
theorem cl_X5_26 : Cond.classLink RX5 26 RX1 ∈ ztb := zat 109 (by decide +kernel) rfl
theorem cl_X5_33 : Cond.classLink RX5 33 RX0 ∈ ztb := zat 129 (by decide +kernel) rfl
theorem cl_X5_40 : Cond.classLink RX5 40 RX2 ∈ ztb := zat 161 (by decide +kernel) rfl
theorem cl_X5_61 : Cond.classLink RX5 61 RX3 ∈ ztb := zat 188 (by decide +kernel) rfl
theorem cl_X1_9 : Cond.classLink RX1 9 RX4 ∈ ztb := zat 115 (by decide +kernel) rfl
theorem cl_L_7 : Cond.classLink RL 7 RX5 ∈ ztb := zat 67 (by decide +kernel) rfl
theorem cl_L_10 : Cond.classLink RL 10 RX6 ∈ ztb := zat 807 (by decide +kernel) rfl
theorem in_X4 : Cond.instantiable RX4 6 ∈ ztb := zat 76 (by decide +kernel) rfl
theorem ini_X4 : Cond.initialized RX4 ∈ ztb := zat 53 (by decide +kernel) rfl
theorem im_X4 : Cond.instanceMethod yX4_init ∈ ztb := zat 78 (by decide +kernel) rfl
theorem b_X4_init : zMB yX4_init cX4_init 1 none 0 := ⟨zat 53 (by decide +kernel) rfl, zat 79 (by decide +kernel) rfl, by decide +kernel⟩
theorem zdfX4 : ∀ j, j < 6 → defaultValue (tyX4 j) = vp_V ((zkd 4).map zdv) j := fun j hj => by
  rcases (show j = 0 ∨ j = 1 ∨ j = 2 ∨ j = 3 ∨ j = 4 ∨ j = 5 by omega) with rfl | rfl | rfl | rfl | rfl | rfl <;> rfl
theorem in_X3 : Cond.instantiable RX3 3 ∈ ztb := zat 190 (by decide +kernel) rfl
theorem ini_X3 : Cond.initialized RX3 ∈ ztb := zat 57 (by decide +kernel) rfl
theorem im_X3 : Cond.instanceMethod yX3_init ∈ ztb := zat 192 (by decide +kernel) rfl
theorem b_X3_init : zMB yX3_init cX3_init 1 none 0 := ⟨zat 57 (by decide +kernel) rfl, zat 193 (by decide +kernel) rfl, by decide +kernel⟩
theorem zdfX3 : ∀ j, j < 3 → defaultValue (tyX3 j) = vp_V ((zkd 3).map zdv) j := fun j hj => by
  rcases (show j = 0 ∨ j = 1 ∨ j = 2 by omega) with rfl | rfl | rfl <;> rfl
theorem in_X0 : Cond.instantiable RX0 6 ∈ ztb := zat 130 (by decide +kernel) rfl
theorem ini_X0 : Cond.initialized RX0 ∈ ztb := zat 55 (by decide +kernel) rfl
theorem im_X0 : Cond.instanceMethod yX0_init ∈ ztb := zat 132 (by decide +kernel) rfl
theorem b_X0_init : zMB yX0_init cX0_init 1 none 0 := ⟨zat 55 (by decide +kernel) rfl, zat 133 (by decide +kernel) rfl, by decide +kernel⟩
theorem zdfX0 : ∀ j, j < 6 → defaultValue (tyX0 j) = vp_V ((zkd 0).map zdv) j := fun j hj => by
  rcases (show j = 0 ∨ j = 1 ∨ j = 2 ∨ j = 3 ∨ j = 4 ∨ j = 5 by omega) with rfl | rfl | rfl | rfl | rfl | rfl <;> rfl
theorem in_X2 : Cond.instantiable RX2 6 ∈ ztb := zat 162 (by decide +kernel) rfl
theorem ini_X2 : Cond.initialized RX2 ∈ ztb := zat 56 (by decide +kernel) rfl
theorem im_X2 : Cond.instanceMethod yX2_init ∈ ztb := zat 164 (by decide +kernel) rfl
theorem b_X2_init : zMB yX2_init cX2_init 1 none 0 := ⟨zat 56 (by decide +kernel) rfl, zat 165 (by decide +kernel) rfl, by decide +kernel⟩
theorem zdfX2 : ∀ j, j < 6 → defaultValue (tyX2 j) = vp_V ((zkd 2).map zdv) j := fun j hj => by
  rcases (show j = 0 ∨ j = 1 ∨ j = 2 ∨ j = 3 ∨ j = 4 ∨ j = 5 by omega) with rfl | rfl | rfl | rfl | rfl | rfl <;> rfl
theorem in_X1 : Cond.instantiable RX1 3 ∈ ztb := zat 110 (by decide +kernel) rfl
theorem ini_X1 : Cond.initialized RX1 ∈ ztb := zat 54 (by decide +kernel) rfl
theorem im_X1 : Cond.instanceMethod yX1_init ∈ ztb := zat 112 (by decide +kernel) rfl
theorem b_X1_init : zMB yX1_init cX1_init 2 none 0 := ⟨zat 54 (by decide +kernel) rfl, zat 113 (by decide +kernel) rfl, by decide +kernel⟩
theorem zdfX1 : ∀ j, j < 3 → defaultValue (tyX1 j) = vp_V ((zkd 1).map zdv) j := fun j hj => by
  rcases (show j = 0 ∨ j = 1 ∨ j = 2 by omega) with rfl | rfl | rfl <;> rfl
theorem in_X6 : Cond.instantiable RX6 23 ∈ ztb := zat 808 (by decide +kernel) rfl
theorem ini_X6 : Cond.initialized RX6 ∈ ztb := zat 58 (by decide +kernel) rfl
theorem im_X6 : Cond.instanceMethod yX6_init ∈ ztb := zat 810 (by decide +kernel) rfl
theorem b_X6_init : zMB yX6_init cX6_init 1 none 0 := ⟨zat 58 (by decide +kernel) rfl, zat 811 (by decide +kernel) rfl, by decide +kernel⟩
theorem zdfX6 : ∀ j, j < 23 → defaultValue (tyX6 j) = vp_V ((zkd 6).map zdv) j := fun j hj => by
  rcases (show j = 0 ∨ j = 1 ∨ j = 2 ∨ j = 3 ∨ j = 4 ∨ j = 5 ∨ j = 6 ∨ j = 7 ∨ j = 8 ∨ j = 9 ∨ j = 10 ∨ j = 11 ∨ j = 12 ∨ j = 13 ∨ j = 14 ∨ j = 15 ∨ j = 16 ∨ j = 17 ∨ j = 18 ∨ j = 19 ∨ j = 20 ∨ j = 21 ∨ j = 22 by omega) with rfl | rfl | rfl | rfl | rfl | rfl | rfl | rfl | rfl | rfl | rfl | rfl | rfl | rfl | rfl | rfl | rfl | rfl | rfl | rfl | rfl | rfl | rfl <;> rfl
theorem in_X5 : Cond.instantiable RX5 13 ∈ ztb := zat 68 (by decide +kernel) rfl
theorem ini_X5 : Cond.initialized RX5 ∈ ztb := zat 52 (by decide +kernel) rfl
theorem im_X5 : Cond.instanceMethod yX5_init ∈ ztb := zat 70 (by decide +kernel) rfl
theorem b_X5_init : zMB yX5_init cX5_init 2 none 0 := ⟨zat 52 (by decide +kernel) rfl, zat 71 (by decide +kernel) rfl, by decide +kernel⟩
theorem zdfX5 : ∀ j, j < 13 → defaultValue (tyX5 j) = vp_V ((zkd 5).map zdv) j := fun j hj => by
  rcases (show j = 0 ∨ j = 1 ∨ j = 2 ∨ j = 3 ∨ j = 4 ∨ j = 5 ∨ j = 6 ∨ j = 7 ∨ j = 8 ∨ j = 9 ∨ j = 10 ∨ j = 11 ∨ j = 12 by omega) with rfl | rfl | rfl | rfl | rfl | rfl | rfl | rfl | rfl | rfl | rfl | rfl | rfl <;> rfl
theorem oi_X5_1 : Cond.methodLink RX5 1 Lib.objectInit ∈ ztb := zat 72 (by decide +kernel) rfl
theorem ml_X5_28 : Cond.methodLink RX5 28 yX1_init ∈ ztb := zat 111 (by decide +kernel) rfl
theorem oi_X0_3 : Cond.methodLink RX0 3 Lib.objectInit ∈ ztb := zat 134 (by decide +kernel) rfl
theorem oi_X1_3 : Cond.methodLink RX1 3 Lib.objectInit ∈ ztb := zat 114 (by decide +kernel) rfl
theorem oi_X2_3 : Cond.methodLink RX2 3 Lib.objectInit ∈ ztb := zat 166 (by decide +kernel) rfl
theorem oi_X3_3 : Cond.methodLink RX3 3 Lib.objectInit ∈ ztb := zat 194 (by decide +kernel) rfl
theorem oi_X4_3 : Cond.methodLink RX4 3 Lib.objectInit ∈ ztb := zat 80 (by decide +kernel) rfl
theorem ml_L_9 : Cond.methodLink RL 9 yX5_init ∈ ztb := zat 69 (by decide +kernel) rfl
theorem ml_L_12 : Cond.methodLink RL 12 yX6_init ∈ ztb := zat 809 (by decide +kernel) rfl
theorem oi_X6_17 : Cond.methodLink RX6 17 Lib.objectInit ∈ ztb := zat 812 (by decide +kernel) rfl
theorem pf_X5_10 : zPF RX5 10 5 0 := ⟨RX5, TX5, 13, tyX5, (.object "TraverseClosed$Sides"), rfl, by decide, zinX5, zat 207 (by decide +kernel) rfl, rfl, tyX5_ok, nmX5, rfl, by decide +kernel, fun _ => rfl, fun _ => rfl, rfl⟩
theorem pf_X5_16 : zPF RX5 16 5 1 := ⟨RX5, TX5, 13, tyX5, (.object "TraverseClosed$Sides"), rfl, by decide, zinX5, zat 208 (by decide +kernel) rfl, rfl, tyX5_ok, nmX5, rfl, by decide +kernel, fun _ => rfl, fun _ => rfl, rfl⟩
theorem pf_X5_19 : zPF RX5 19 5 2 := ⟨RX5, TX5, 13, tyX5, (.object "TraverseClosed$Sides"), rfl, by decide, zinX5, zat 209 (by decide +kernel) rfl, rfl, tyX5_ok, nmX5, rfl, by decide +kernel, fun _ => rfl, fun _ => rfl, rfl⟩
theorem pf_X5_29 : zPF RX5 29 5 4 := ⟨RX5, TX5, 13, tyX5, (.object "TraverseClosed$Past"), rfl, by decide, zinX5, zat 211 (by decide +kernel) rfl, rfl, tyX5_ok, nmX5, rfl, by decide +kernel, fun _ => rfl, fun _ => rfl, rfl⟩
theorem pf_X5_36 : zPF RX5 36 5 5 := ⟨RX5, TX5, 13, tyX5, (.object "TraverseClosed$Lay"), rfl, by decide, zinX5, zat 212 (by decide +kernel) rfl, rfl, tyX5_ok, nmX5, rfl, by decide +kernel, fun _ => rfl, fun _ => rfl, rfl⟩
theorem pf_X5_43 : zPF RX5 43 5 6 := ⟨RX5, TX5, 13, tyX5, (.object "TraverseClosed$Reader"), rfl, by decide, zinX5, zat 213 (by decide +kernel) rfl, rfl, tyX5_ok, nmX5, rfl, by decide +kernel, fun _ => rfl, fun _ => rfl, rfl⟩
theorem pf_X5_47 : zPF RX5 47 5 7 := ⟨RX5, TX5, 13, tyX5, (.array .int), rfl, by decide, zinX5, zat 214 (by decide +kernel) rfl, rfl, tyX5_ok, nmX5, rfl, by decide +kernel, fun _ => rfl, fun _ => rfl, rfl⟩
theorem pf_X5_55 : zPF RX5 55 5 9 := ⟨RX5, TX5, 13, tyX5, (.array .int), rfl, by decide, zinX5, zat 216 (by decide +kernel) rfl, rfl, tyX5_ok, nmX5, rfl, by decide +kernel, fun _ => rfl, fun _ => rfl, rfl⟩
theorem pf_X5_63 : zPF RX5 63 5 11 := ⟨RX5, TX5, 13, tyX5, (.array (.object "TraverseClosed$Row")), rfl, by decide, zinX5, zat 218 (by decide +kernel) rfl, rfl, tyX5_ok, nmX5, rfl, by decide +kernel, fun _ => rfl, fun _ => rfl, rfl⟩
theorem pf_X5_67 : zPF RX5 67 5 12 := ⟨RX5, TX5, 13, tyX5, (.array .int), rfl, by decide, zinX5, zat 219 (by decide +kernel) rfl, rfl, tyX5_ok, nmX5, rfl, by decide +kernel, fun _ => rfl, fun _ => rfl, rfl⟩
theorem pf_X0_9 : zPF RX0 9 0 0 := ⟨RX0, TX0, 6, tyX0, (.array .long), rfl, by decide, zinX0, zat 135 (by decide +kernel) rfl, rfl, tyX0_ok, nmX0, rfl, by decide +kernel, fun _ => rfl, fun _ => rfl, rfl⟩
theorem pf_X0_15 : zPF RX0 15 0 1 := ⟨RX0, TX0, 6, tyX0, (.array .long), rfl, by decide, zinX0, zat 137 (by decide +kernel) rfl, rfl, tyX0_ok, nmX0, rfl, by decide +kernel, fun _ => rfl, fun _ => rfl, rfl⟩
theorem pf_X0_18 : zPF RX0 18 0 2 := ⟨RX0, TX0, 6, tyX0, (.array .long), rfl, by decide, zinX0, zat 139 (by decide +kernel) rfl, rfl, tyX0_ok, nmX0, rfl, by decide +kernel, fun _ => rfl, fun _ => rfl, rfl⟩
theorem pf_X0_21 : zPF RX0 21 0 3 := ⟨RX0, TX0, 6, tyX0, (.array .long), rfl, by decide, zinX0, zat 141 (by decide +kernel) rfl, rfl, tyX0_ok, nmX0, rfl, by decide +kernel, fun _ => rfl, fun _ => rfl, rfl⟩
theorem pf_X1_11 : zPF RX1 11 1 0 := ⟨RX1, TX1, 3, tyX1, (.array (.object "TraverseClosed$Sides")), rfl, by decide, zinX1, zat 118 (by decide +kernel) rfl, rfl, tyX1_ok, nmX1, rfl, by decide +kernel, fun _ => rfl, fun _ => rfl, rfl⟩
theorem pf_X2_11 : zPF RX2 11 2 0 := ⟨RX2, TX2, 6, tyX2, (.array .int), rfl, by decide, zinX2, zat 168 (by decide +kernel) rfl, rfl, tyX2_ok, nmX2, rfl, by decide +kernel, fun _ => rfl, fun _ => rfl, rfl⟩
theorem pf_X3_9 : zPF RX3 9 3 0 := ⟨RX3, TX3, 3, tyX3, (.array .long), rfl, by decide, zinX3, zat 195 (by decide +kernel) rfl, rfl, tyX3_ok, nmX3, rfl, by decide +kernel, fun _ => rfl, fun _ => rfl, rfl⟩
theorem pf_X4_9 : zPF RX4 9 4 0 := ⟨RX4, TX4, 6, tyX4, (.array .int), rfl, by decide, zinX4, zat 81 (by decide +kernel) rfl, rfl, tyX4_ok, nmX4, rfl, by decide +kernel, fun _ => rfl, fun _ => rfl, rfl⟩
theorem pf_X4_15 : zPF RX4 15 4 1 := ⟨RX4, TX4, 6, tyX4, (.array .int), rfl, by decide, zinX4, zat 83 (by decide +kernel) rfl, rfl, tyX4_ok, nmX4, rfl, by decide +kernel, fun _ => rfl, fun _ => rfl, rfl⟩
theorem pf_X4_18 : zPF RX4 18 4 2 := ⟨RX4, TX4, 6, tyX4, (.array .int), rfl, by decide, zinX4, zat 85 (by decide +kernel) rfl, rfl, tyX4_ok, nmX4, rfl, by decide +kernel, fun _ => rfl, fun _ => rfl, rfl⟩
theorem pf_X4_21 : zPF RX4 21 4 3 := ⟨RX4, TX4, 6, tyX4, (.array .int), rfl, by decide, zinX4, zat 87 (by decide +kernel) rfl, rfl, tyX4_ok, nmX4, rfl, by decide +kernel, fun _ => rfl, fun _ => rfl, rfl⟩
theorem pf_X4_24 : zPF RX4 24 4 4 := ⟨RX4, TX4, 6, tyX4, (.array .int), rfl, by decide, zinX4, zat 89 (by decide +kernel) rfl, rfl, tyX4_ok, nmX4, rfl, by decide +kernel, fun _ => rfl, fun _ => rfl, rfl⟩
theorem pf_X6_7 : zPF RX6 7 6 1 := ⟨RX6, TX6, 23, tyX6, (.array .int), rfl, by decide, zinX6, zat 813 (by decide +kernel) rfl, rfl, tyX6_ok, nmX6, rfl, by decide +kernel, fun _ => rfl, fun _ => rfl, rfl⟩
theorem pf_X6_23 : zPF RX6 23 6 2 := ⟨RX6, TX6, 23, tyX6, (.array .int), rfl, by decide, zinX6, zat 814 (by decide +kernel) rfl, rfl, tyX6_ok, nmX6, rfl, by decide +kernel, fun _ => rfl, fun _ => rfl, rfl⟩
theorem pf_X6_26 : zPF RX6 26 6 3 := ⟨RX6, TX6, 23, tyX6, (.array .int), rfl, by decide, zinX6, zat 815 (by decide +kernel) rfl, rfl, tyX6_ok, nmX6, rfl, by decide +kernel, fun _ => rfl, fun _ => rfl, rfl⟩
theorem pf_X6_29 : zPF RX6 29 6 5 := ⟨RX6, TX6, 23, tyX6, (.array .int), rfl, by decide, zinX6, zat 817 (by decide +kernel) rfl, rfl, tyX6_ok, nmX6, rfl, by decide +kernel, fun _ => rfl, fun _ => rfl, rfl⟩
theorem pf_X6_32 : zPF RX6 32 6 6 := ⟨RX6, TX6, 23, tyX6, (.array .int), rfl, by decide, zinX6, zat 818 (by decide +kernel) rfl, rfl, tyX6_ok, nmX6, rfl, by decide +kernel, fun _ => rfl, fun _ => rfl, rfl⟩
theorem pf_X6_35 : zPF RX6 35 6 10 := ⟨RX6, TX6, 23, tyX6, (.array .int), rfl, by decide, zinX6, zat 822 (by decide +kernel) rfl, rfl, tyX6_ok, nmX6, rfl, by decide +kernel, fun _ => rfl, fun _ => rfl, rfl⟩
theorem pf_X6_38 : zPF RX6 38 6 11 := ⟨RX6, TX6, 23, tyX6, (.array .int), rfl, by decide, zinX6, zat 823 (by decide +kernel) rfl, rfl, tyX6_ok, nmX6, rfl, by decide +kernel, fun _ => rfl, fun _ => rfl, rfl⟩
theorem pf_X6_41 : zPF RX6 41 6 13 := ⟨RX6, TX6, 23, tyX6, (.array .long), rfl, by decide, zinX6, zat 825 (by decide +kernel) rfl, rfl, tyX6_ok, nmX6, rfl, by decide +kernel, fun _ => rfl, fun _ => rfl, rfl⟩
theorem pf_X6_45 : zPF RX6 45 6 14 := ⟨RX6, TX6, 23, tyX6, (.array .long), rfl, by decide, zinX6, zat 826 (by decide +kernel) rfl, rfl, tyX6_ok, nmX6, rfl, by decide +kernel, fun _ => rfl, fun _ => rfl, rfl⟩
theorem pf_X6_48 : zPF RX6 48 6 15 := ⟨RX6, TX6, 23, tyX6, (.array .int), rfl, by decide, zinX6, zat 827 (by decide +kernel) rfl, rfl, tyX6_ok, nmX6, rfl, by decide +kernel, fun _ => rfl, fun _ => rfl, rfl⟩
theorem pf_X6_51 : zPF RX6 51 6 18 := ⟨RX6, TX6, 23, tyX6, (.array .int), rfl, by decide, zinX6, zat 830 (by decide +kernel) rfl, rfl, tyX6_ok, nmX6, rfl, by decide +kernel, fun _ => rfl, fun _ => rfl, rfl⟩
theorem pf_X6_54 : zPF RX6 54 6 19 := ⟨RX6, TX6, 23, tyX6, (.array .int), rfl, by decide, zinX6, zat 831 (by decide +kernel) rfl, rfl, tyX6_ok, nmX6, rfl, by decide +kernel, fun _ => rfl, fun _ => rfl, rfl⟩
theorem pf_X6_57 : zPF RX6 57 6 20 := ⟨RX6, TX6, 23, tyX6, (.array .long), rfl, by decide, zinX6, zat 832 (by decide +kernel) rfl, rfl, tyX6_ok, nmX6, rfl, by decide +kernel, fun _ => rfl, fun _ => rfl, rfl⟩
theorem pf_X6_60 : zPF RX6 60 6 21 := ⟨RX6, TX6, 23, tyX6, (.array .int), rfl, by decide, zinX6, zat 833 (by decide +kernel) rfl, rfl, tyX6_ok, nmX6, rfl, by decide +kernel, fun _ => rfl, fun _ => rfl, rfl⟩
