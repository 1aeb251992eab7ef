/-! the constructors -/
set_option maxRecDepth 20000 in
theorem oi_i : Cond.instanceMethod Lib.objectInit ∈ gT := gS1 29 rfl rfl
set_option maxRecDepth 20000 in
theorem oi_c : Cond.code Lib.objectInit ⟨#[0xb1]⟩ 1 none ∈ gT := gS1 30 rfl rfl
set_option maxRecDepth 20000 in
theorem ar_boolean : Cond.arrayClass .boolean ∈ gT := gS6 134 rfl rfl
set_option maxRecDepth 20000 in
theorem ar_byte : Cond.arrayClass .byte ∈ gT := gS3 77 rfl rfl
set_option maxRecDepth 20000 in
theorem ar_int : Cond.arrayClass .int ∈ gT := gS1 45 rfl rfl
set_option maxRecDepth 20000 in
theorem ar_long : Cond.arrayClass .long ∈ gT := gS2 64 rfl rfl
set_option maxRecDepth 20000 in
theorem cl_X11_7 : Cond.classLink RX11 7 RX9 ∈ gT := gS1 31 rfl rfl
set_option maxRecDepth 20000 in
theorem cl_X11_16 : Cond.classLink RX11 16 RX5 ∈ gT := gS1 46 rfl rfl
set_option maxRecDepth 20000 in
theorem cl_X11_23 : Cond.classLink RX11 23 RX10 ∈ gT := gS1 87 rfl rfl
set_option maxRecDepth 20000 in
theorem cl_X11_30 : Cond.classLink RX11 30 RX7 ∈ gT := gS1 102 rfl rfl
set_option maxRecDepth 20000 in
theorem cl_X11_37 : Cond.classLink RX11 37 RX6 ∈ gT := gS1 129 rfl rfl
set_option maxRecDepth 20000 in
theorem cl_X11_46 : Cond.classLink RX11 46 RX1 ∈ gT := gS1 154 rfl rfl
set_option maxRecDepth 20000 in
theorem cl_X11_55 : Cond.classLink RX11 55 RX4 ∈ gT := gS2 12 rfl rfl
set_option maxRecDepth 20000 in
theorem cl_X11_64 : Cond.classLink RX11 64 RX0 ∈ gT := gS2 65 rfl rfl
set_option maxRecDepth 20000 in
theorem cl_X1_9 : Cond.classLink RX1 9 RX8 ∈ gT := gS1 160 rfl rfl
set_option maxRecDepth 20000 in
theorem cl_X1_37 : Cond.classLink RX1 37 RX2 ∈ gT := gS1 179 rfl rfl
set_option maxRecDepth 20000 in
theorem cl_X1_46 : Cond.classLink RX1 46 RX3 ∈ gT := gS1 189 rfl rfl
set_option maxRecDepth 20000 in
theorem cl_X3_15 : Cond.classLink RX3 15 "[[I" ∈ gT := gS1 195 rfl rfl
set_option maxRecDepth 20000 in
theorem cl_X6_9 : Cond.classLink RX6 9 RX7 ∈ gT := gS1 135 rfl rfl
set_option maxRecDepth 20000 in
theorem cl_L_7 : Cond.classLink RL 7 RX11 ∈ gT := gS1 23 rfl rfl
set_option maxRecDepth 20000 in
theorem cl_L_10 : Cond.classLink RL 10 RX12 ∈ gT := gS5 205 rfl rfl
set_option maxRecDepth 20000 in
theorem in_X11 : Cond.instantiable RX11 13 ∈ gT := gS1 24 rfl rfl
set_option maxRecDepth 20000 in
theorem in_X0 : Cond.instantiable RX0 8 ∈ gT := gS2 66 rfl rfl
set_option maxRecDepth 20000 in
theorem in_X1 : Cond.instantiable RX1 8 ∈ gT := gS1 155 rfl rfl
set_option maxRecDepth 20000 in
theorem in_X2 : Cond.instantiable RX2 1 ∈ gT := gS1 180 rfl rfl
set_option maxRecDepth 20000 in
theorem in_X3 : Cond.instantiable RX3 7 ∈ gT := gS1 190 rfl rfl
set_option maxRecDepth 20000 in
theorem in_X4 : Cond.instantiable RX4 12 ∈ gT := gS2 13 rfl rfl
set_option maxRecDepth 20000 in
theorem in_X5 : Cond.instantiable RX5 5 ∈ gT := gS1 47 rfl rfl
set_option maxRecDepth 20000 in
theorem in_X6 : Cond.instantiable RX6 5 ∈ gT := gS1 130 rfl rfl
set_option maxRecDepth 20000 in
theorem in_X7 : Cond.instantiable RX7 5 ∈ gT := gS1 103 rfl rfl
set_option maxRecDepth 20000 in
theorem in_X8 : Cond.instantiable RX8 2 ∈ gT := gS1 162 rfl rfl
set_option maxRecDepth 20000 in
theorem in_X9 : Cond.instantiable RX9 2 ∈ gT := gS1 32 rfl rfl
set_option maxRecDepth 20000 in
theorem in_X10 : Cond.instantiable RX10 2 ∈ gT := gS1 88 rfl rfl
set_option maxRecDepth 20000 in
theorem in_X12 : Cond.instantiable RX12 54 ∈ gT := gS5 206 rfl rfl
set_option maxRecDepth 20000 in
theorem ii_X11 : Cond.initialized RX11 ∈ gT := gS1 1 rfl rfl
set_option maxRecDepth 20000 in
theorem ii_X0 : Cond.initialized RX0 ∈ gT := gS1 12 rfl rfl
set_option maxRecDepth 20000 in
theorem ii_X1 : Cond.initialized RX1 ∈ gT := gS1 7 rfl rfl
set_option maxRecDepth 20000 in
theorem ii_X2 : Cond.initialized RX2 ∈ gT := gS1 9 rfl rfl
set_option maxRecDepth 20000 in
theorem ii_X3 : Cond.initialized RX3 ∈ gT := gS1 10 rfl rfl
set_option maxRecDepth 20000 in
theorem ii_X4 : Cond.initialized RX4 ∈ gT := gS1 11 rfl rfl
set_option maxRecDepth 20000 in
theorem ii_X5 : Cond.initialized RX5 ∈ gT := gS1 3 rfl rfl
set_option maxRecDepth 20000 in
theorem ii_X6 : Cond.initialized RX6 ∈ gT := gS1 6 rfl rfl
set_option maxRecDepth 20000 in
theorem ii_X7 : Cond.initialized RX7 ∈ gT := gS1 5 rfl rfl
set_option maxRecDepth 20000 in
theorem ii_X8 : Cond.initialized RX8 ∈ gT := gS1 8 rfl rfl
set_option maxRecDepth 20000 in
theorem ii_X9 : Cond.initialized RX9 ∈ gT := gS1 2 rfl rfl
set_option maxRecDepth 20000 in
theorem ii_X10 : Cond.initialized RX10 ∈ gT := gS1 4 rfl rfl
set_option maxRecDepth 20000 in
theorem ii_X12 : Cond.initialized RX12 ∈ gT := gS1 13 rfl rfl
def bX8 : List Value := [.null, .int 0]
set_option maxRecDepth 20000 in
theorem bl_X8 : ∀ j, j < 2 → defaultValue (tyX8 j) = vp_V bX8 j := by decide +kernel
set_option maxRecDepth 20000 in
theorem dX8_init_0 : decode cX8_init 0 = .ok (.aload_n 0, 1) := by decide +kernel
set_option maxRecDepth 20000 in
theorem dX8_init_1 : decode cX8_init 1 = .ok (.invokespecial 3, 3) := by decide +kernel
set_option maxRecDepth 20000 in
theorem dX8_init_4 : decode cX8_init 4 = .ok (.aload_n 0, 1) := by decide +kernel
set_option maxRecDepth 20000 in
theorem dX8_init_5 : decode cX8_init 5 = .ok (.sipush 768, 3) := by decide +kernel
set_option maxRecDepth 20000 in
theorem dX8_init_8 : decode cX8_init 8 = .ok (.newarray .int, 2) := by decide +kernel
set_option maxRecDepth 20000 in
theorem dX8_init_10 : decode cX8_init 10 = .ok (.putfield 9, 3) := by decide +kernel
set_option maxRecDepth 20000 in
theorem dX8_init_13 : decode cX8_init 13 = .ok (.return_, 1) := by decide +kernel
set_option maxRecDepth 20000 in
theorem oi_X8 : Cond.methodLink RX8 3 Lib.objectInit ∈ gT := gS1 166 rfl rfl
def bX9 : List Value := [.null, .int 0]
set_option maxRecDepth 20000 in
theorem bl_X9 : ∀ j, j < 2 → defaultValue (tyX9 j) = vp_V bX9 j := by decide +kernel
set_option maxRecDepth 20000 in
theorem dX9_init_0 : decode cX9_init 0 = .ok (.aload_n 0, 1) := by decide +kernel
set_option maxRecDepth 20000 in
theorem dX9_init_1 : decode cX9_init 1 = .ok (.invokespecial 3, 3) := by decide +kernel
set_option maxRecDepth 20000 in
theorem dX9_init_4 : decode cX9_init 4 = .ok (.aload_n 0, 1) := by decide +kernel
set_option maxRecDepth 20000 in
theorem dX9_init_5 : decode cX9_init 5 = .ok (.sipush 140, 3) := by decide +kernel
set_option maxRecDepth 20000 in
theorem dX9_init_8 : decode cX9_init 8 = .ok (.newarray .int, 2) := by decide +kernel
set_option maxRecDepth 20000 in
theorem dX9_init_10 : decode cX9_init 10 = .ok (.putfield 9, 3) := by decide +kernel
set_option maxRecDepth 20000 in
theorem dX9_init_13 : decode cX9_init 13 = .ok (.return_, 1) := by decide +kernel
set_option maxRecDepth 20000 in
theorem oi_X9 : Cond.methodLink RX9 3 Lib.objectInit ∈ gT := gS1 36 rfl rfl
def bX10 : List Value := [.null, .int 0]
set_option maxRecDepth 20000 in
theorem bl_X10 : ∀ j, j < 2 → defaultValue (tyX10 j) = vp_V bX10 j := by decide +kernel
set_option maxRecDepth 20000 in
theorem dX10_init_0 : decode cX10_init 0 = .ok (.aload_n 0, 1) := by decide +kernel
set_option maxRecDepth 20000 in
theorem dX10_init_1 : decode cX10_init 1 = .ok (.invokespecial 3, 3) := by decide +kernel
set_option maxRecDepth 20000 in
theorem dX10_init_4 : decode cX10_init 4 = .ok (.aload_n 0, 1) := by decide +kernel
set_option maxRecDepth 20000 in
theorem dX10_init_5 : decode cX10_init 5 = .ok (.sipush 768, 3) := by decide +kernel
set_option maxRecDepth 20000 in
theorem dX10_init_8 : decode cX10_init 8 = .ok (.newarray .int, 2) := by decide +kernel
set_option maxRecDepth 20000 in
theorem dX10_init_10 : decode cX10_init 10 = .ok (.putfield 9, 3) := by decide +kernel
set_option maxRecDepth 20000 in
theorem dX10_init_13 : decode cX10_init 13 = .ok (.return_, 1) := by decide +kernel
set_option maxRecDepth 20000 in
theorem oi_X10 : Cond.methodLink RX10 3 Lib.objectInit ∈ gT := gS1 92 rfl rfl
def bX5 : List Value := [.int 0, .int 0, .int 0, .null, .null]
set_option maxRecDepth 20000 in
theorem bl_X5 : ∀ j, j < 5 → defaultValue (tyX5 j) = vp_V bX5 j := by decide +kernel
set_option maxRecDepth 20000 in
theorem dX5_init_0 : decode cX5_init 0 = .ok (.aload_n 0, 1) := by decide +kernel
set_option maxRecDepth 20000 in
theorem dX5_init_1 : decode cX5_init 1 = .ok (.invokespecial 3, 3) := by decide +kernel
set_option maxRecDepth 20000 in
theorem dX5_init_4 : decode cX5_init 4 = .ok (.aload_n 0, 1) := by decide +kernel
set_option maxRecDepth 20000 in
theorem dX5_init_5 : decode cX5_init 5 = .ok (.iconst 4, 1) := by decide +kernel
set_option maxRecDepth 20000 in
theorem dX5_init_6 : decode cX5_init 6 = .ok (.putfield 9, 3) := by decide +kernel
set_option maxRecDepth 20000 in
theorem dX5_init_9 : decode cX5_init 9 = .ok (.aload_n 0, 1) := by decide +kernel
set_option maxRecDepth 20000 in
theorem dX5_init_10 : decode cX5_init 10 = .ok (.iconst 4, 1) := by decide +kernel
set_option maxRecDepth 20000 in
theorem dX5_init_11 : decode cX5_init 11 = .ok (.putfield 15, 3) := by decide +kernel
set_option maxRecDepth 20000 in
theorem dX5_init_14 : decode cX5_init 14 = .ok (.aload_n 0, 1) := by decide +kernel
set_option maxRecDepth 20000 in
theorem dX5_init_15 : decode cX5_init 15 = .ok (.sipush 256, 3) := by decide +kernel
set_option maxRecDepth 20000 in
theorem dX5_init_18 : decode cX5_init 18 = .ok (.newarray .int, 2) := by decide +kernel
set_option maxRecDepth 20000 in
theorem dX5_init_20 : decode cX5_init 20 = .ok (.putfield 18, 3) := by decide +kernel
set_option maxRecDepth 20000 in
theorem dX5_init_23 : decode cX5_init 23 = .ok (.aload_n 0, 1) := by decide +kernel
set_option maxRecDepth 20000 in
theorem dX5_init_24 : decode cX5_init 24 = .ok (.sipush 256, 3) := by decide +kernel
set_option maxRecDepth 20000 in
theorem dX5_init_27 : decode cX5_init 27 = .ok (.newarray .int, 2) := by decide +kernel
set_option maxRecDepth 20000 in
theorem dX5_init_29 : decode cX5_init 29 = .ok (.putfield 22, 3) := by decide +kernel
set_option maxRecDepth 20000 in
theorem dX5_init_32 : decode cX5_init 32 = .ok (.return_, 1) := by decide +kernel
set_option maxRecDepth 20000 in
theorem oi_X5 : Cond.methodLink RX5 3 Lib.objectInit ∈ gT := gS1 51 rfl rfl
def bX7 : List Value := [.int 0, .int 0, .null, .null, .null]
set_option maxRecDepth 20000 in
theorem bl_X7 : ∀ j, j < 5 → defaultValue (tyX7 j) = vp_V bX7 j := by decide +kernel
set_option maxRecDepth 20000 in
theorem dX7_init_0 : decode cX7_init 0 = .ok (.aload_n 0, 1) := by decide +kernel
set_option maxRecDepth 20000 in
theorem dX7_init_1 : decode cX7_init 1 = .ok (.invokespecial 3, 3) := by decide +kernel
set_option maxRecDepth 20000 in
theorem dX7_init_4 : decode cX7_init 4 = .ok (.aload_n 0, 1) := by decide +kernel
set_option maxRecDepth 20000 in
theorem dX7_init_5 : decode cX7_init 5 = .ok (.bipush 14, 2) := by decide +kernel
set_option maxRecDepth 20000 in
theorem dX7_init_7 : decode cX7_init 7 = .ok (.newarray .int, 2) := by decide +kernel
set_option maxRecDepth 20000 in
theorem dX7_init_9 : decode cX7_init 9 = .ok (.putfield 9, 3) := by decide +kernel
set_option maxRecDepth 20000 in
theorem dX7_init_12 : decode cX7_init 12 = .ok (.aload_n 0, 1) := by decide +kernel
set_option maxRecDepth 20000 in
theorem dX7_init_13 : decode cX7_init 13 = .ok (.bipush 14, 2) := by decide +kernel
set_option maxRecDepth 20000 in
theorem dX7_init_15 : decode cX7_init 15 = .ok (.newarray .int, 2) := by decide +kernel
set_option maxRecDepth 20000 in
theorem dX7_init_17 : decode cX7_init 17 = .ok (.putfield 15, 3) := by decide +kernel
set_option maxRecDepth 20000 in
theorem dX7_init_20 : decode cX7_init 20 = .ok (.aload_n 0, 1) := by decide +kernel
set_option maxRecDepth 20000 in
theorem dX7_init_21 : decode cX7_init 21 = .ok (.bipush 64, 2) := by decide +kernel
set_option maxRecDepth 20000 in
theorem dX7_init_23 : decode cX7_init 23 = .ok (.newarray .int, 2) := by decide +kernel
set_option maxRecDepth 20000 in
theorem dX7_init_25 : decode cX7_init 25 = .ok (.putfield 18, 3) := by decide +kernel
set_option maxRecDepth 20000 in
theorem dX7_init_28 : decode cX7_init 28 = .ok (.return_, 1) := by decide +kernel
set_option maxRecDepth 20000 in
theorem oi_X7 : Cond.methodLink RX7 3 Lib.objectInit ∈ gT := gS1 107 rfl rfl
def bX2 : List Value := [.null]
set_option maxRecDepth 20000 in
theorem bl_X2 : ∀ j, j < 1 → defaultValue (tyX2 j) = vp_V bX2 j := by decide +kernel
set_option maxRecDepth 20000 in
theorem dX2_init_0 : decode cX2_init 0 = .ok (.aload_n 0, 1) := by decide +kernel
set_option maxRecDepth 20000 in
theorem dX2_init_1 : decode cX2_init 1 = .ok (.invokespecial 3, 3) := by decide +kernel
set_option maxRecDepth 20000 in
theorem dX2_init_4 : decode cX2_init 4 = .ok (.aload_n 0, 1) := by decide +kernel
set_option maxRecDepth 20000 in
theorem dX2_init_5 : decode cX2_init 5 = .ok (.aload_n 1, 1) := by decide +kernel
set_option maxRecDepth 20000 in
theorem dX2_init_6 : decode cX2_init 6 = .ok (.putfield 9, 3) := by decide +kernel
set_option maxRecDepth 20000 in
theorem dX2_init_9 : decode cX2_init 9 = .ok (.return_, 1) := by decide +kernel
set_option maxRecDepth 20000 in
theorem oi_X2 : Cond.methodLink RX2 3 Lib.objectInit ∈ gT := gS1 184 rfl rfl
def bX3 : List Value := [.int 0, .int 0, .int 0, .null, .null, .null, .null]
set_option maxRecDepth 20000 in
theorem bl_X3 : ∀ j, j < 7 → defaultValue (tyX3 j) = vp_V bX3 j := by decide +kernel
set_option maxRecDepth 20000 in
theorem dX3_init_0 : decode cX3_init 0 = .ok (.aload_n 0, 1) := by decide +kernel
set_option maxRecDepth 20000 in
theorem dX3_init_1 : decode cX3_init 1 = .ok (.invokespecial 3, 3) := by decide +kernel
set_option maxRecDepth 20000 in
theorem dX3_init_4 : decode cX3_init 4 = .ok (.aload_n 0, 1) := by decide +kernel
set_option maxRecDepth 20000 in
theorem dX3_init_5 : decode cX3_init 5 = .ok (.sipush 256, 3) := by decide +kernel
set_option maxRecDepth 20000 in
theorem dX3_init_8 : decode cX3_init 8 = .ok (.newarray .int, 2) := by decide +kernel
set_option maxRecDepth 20000 in
theorem dX3_init_10 : decode cX3_init 10 = .ok (.putfield 9, 3) := by decide +kernel
set_option maxRecDepth 20000 in
theorem dX3_init_13 : decode cX3_init 13 = .ok (.aload_n 0, 1) := by decide +kernel
set_option maxRecDepth 20000 in
theorem dX3_init_14 : decode cX3_init 14 = .ok (.iconst 4, 1) := by decide +kernel
set_option maxRecDepth 20000 in
theorem dX3_init_15 : decode cX3_init 15 = .ok (.sipush 256, 3) := by decide +kernel
set_option maxRecDepth 20000 in
theorem dX3_init_18 : decode cX3_init 18 = .ok (.multianewarray 15 2, 4) := by decide +kernel
set_option maxRecDepth 20000 in
theorem dX3_init_22 : decode cX3_init 22 = .ok (.putfield 17, 3) := by decide +kernel
set_option maxRecDepth 20000 in
theorem dX3_init_25 : decode cX3_init 25 = .ok (.aload_n 0, 1) := by decide +kernel
set_option maxRecDepth 20000 in
theorem dX3_init_26 : decode cX3_init 26 = .ok (.bipush 9, 2) := by decide +kernel
set_option maxRecDepth 20000 in
theorem dX3_init_28 : decode cX3_init 28 = .ok (.newarray .int, 2) := by decide +kernel
set_option maxRecDepth 20000 in
theorem dX3_init_30 : decode cX3_init 30 = .ok (.putfield 20, 3) := by decide +kernel
set_option maxRecDepth 20000 in
theorem dX3_init_33 : decode cX3_init 33 = .ok (.aload_n 0, 1) := by decide +kernel
set_option maxRecDepth 20000 in
theorem dX3_init_34 : decode cX3_init 34 = .ok (.aload_n 1, 1) := by decide +kernel
set_option maxRecDepth 20000 in
theorem dX3_init_35 : decode cX3_init 35 = .ok (.putfield 23, 3) := by decide +kernel
set_option maxRecDepth 20000 in
theorem dX3_init_38 : decode cX3_init 38 = .ok (.return_, 1) := by decide +kernel
set_option maxRecDepth 20000 in
theorem oi_X3 : Cond.methodLink RX3 3 Lib.objectInit ∈ gT := gS1 194 rfl rfl
def bX4 : List Value := [.int 0, .int 0, .int 0, .int 0, .long 0, .long 0, .long 0, .int 0, .int 0, .null, .null, .null]
set_option maxRecDepth 20000 in
theorem bl_X4 : ∀ j, j < 12 → defaultValue (tyX4 j) = vp_V bX4 j := by decide +kernel
set_option maxRecDepth 20000 in
theorem dX4_init_0 : decode cX4_init 0 = .ok (.aload_n 0, 1) := by decide +kernel
set_option maxRecDepth 20000 in
theorem dX4_init_1 : decode cX4_init 1 = .ok (.invokespecial 3, 3) := by decide +kernel
set_option maxRecDepth 20000 in
theorem dX4_init_4 : decode cX4_init 4 = .ok (.aload_n 0, 1) := by decide +kernel
set_option maxRecDepth 20000 in
theorem dX4_init_5 : decode cX4_init 5 = .ok (.sipush 256, 3) := by decide +kernel
set_option maxRecDepth 20000 in
theorem dX4_init_8 : decode cX4_init 8 = .ok (.newarray .int, 2) := by decide +kernel
set_option maxRecDepth 20000 in
theorem dX4_init_10 : decode cX4_init 10 = .ok (.putfield 9, 3) := by decide +kernel
set_option maxRecDepth 20000 in
theorem dX4_init_13 : decode cX4_init 13 = .ok (.aload_n 0, 1) := by decide +kernel
set_option maxRecDepth 20000 in
theorem dX4_init_14 : decode cX4_init 14 = .ok (.bipush 64, 2) := by decide +kernel
set_option maxRecDepth 20000 in
theorem dX4_init_16 : decode cX4_init 16 = .ok (.newarray .long, 2) := by decide +kernel
set_option maxRecDepth 20000 in
theorem dX4_init_18 : decode cX4_init 18 = .ok (.putfield 15, 3) := by decide +kernel
set_option maxRecDepth 20000 in
theorem dX4_init_21 : decode cX4_init 21 = .ok (.aload_n 0, 1) := by decide +kernel
set_option maxRecDepth 20000 in
theorem dX4_init_22 : decode cX4_init 22 = .ok (.aload_n 1, 1) := by decide +kernel
set_option maxRecDepth 20000 in
theorem dX4_init_23 : decode cX4_init 23 = .ok (.putfield 19, 3) := by decide +kernel
set_option maxRecDepth 20000 in
theorem dX4_init_26 : decode cX4_init 26 = .ok (.return_, 1) := by decide +kernel
set_option maxRecDepth 20000 in
theorem oi_X4 : Cond.methodLink RX4 3 Lib.objectInit ∈ gT := gS2 17 rfl rfl
def bX0 : List Value := [.int 0, .int 0, .int 0, .null, .null, .null, .int 0, .null]
set_option maxRecDepth 20000 in
theorem bl_X0 : ∀ j, j < 8 → defaultValue (tyX0 j) = vp_V bX0 j := by decide +kernel
set_option maxRecDepth 20000 in
theorem dX0_init_0 : decode cX0_init 0 = .ok (.aload_n 0, 1) := by decide +kernel
set_option maxRecDepth 20000 in
theorem dX0_init_1 : decode cX0_init 1 = .ok (.invokespecial 3, 3) := by decide +kernel
set_option maxRecDepth 20000 in
theorem dX0_init_4 : decode cX0_init 4 = .ok (.aload_n 0, 1) := by decide +kernel
set_option maxRecDepth 20000 in
theorem dX0_init_5 : decode cX0_init 5 = .ok (.sipush 256, 3) := by decide +kernel
set_option maxRecDepth 20000 in
theorem dX0_init_8 : decode cX0_init 8 = .ok (.newarray .int, 2) := by decide +kernel
set_option maxRecDepth 20000 in
theorem dX0_init_10 : decode cX0_init 10 = .ok (.putfield 9, 3) := by decide +kernel
set_option maxRecDepth 20000 in
theorem dX0_init_13 : decode cX0_init 13 = .ok (.aload_n 0, 1) := by decide +kernel
set_option maxRecDepth 20000 in
theorem dX0_init_14 : decode cX0_init 14 = .ok (.sipush 256, 3) := by decide +kernel
set_option maxRecDepth 20000 in
theorem dX0_init_17 : decode cX0_init 17 = .ok (.newarray .int, 2) := by decide +kernel
set_option maxRecDepth 20000 in
theorem dX0_init_19 : decode cX0_init 19 = .ok (.putfield 15, 3) := by decide +kernel
set_option maxRecDepth 20000 in
theorem dX0_init_22 : decode cX0_init 22 = .ok (.aload_n 0, 1) := by decide +kernel
set_option maxRecDepth 20000 in
theorem dX0_init_23 : decode cX0_init 23 = .ok (.sipush 256, 3) := by decide +kernel
set_option maxRecDepth 20000 in
theorem dX0_init_26 : decode cX0_init 26 = .ok (.newarray .int, 2) := by decide +kernel
set_option maxRecDepth 20000 in
theorem dX0_init_28 : decode cX0_init 28 = .ok (.putfield 18, 3) := by decide +kernel
set_option maxRecDepth 20000 in
theorem dX0_init_31 : decode cX0_init 31 = .ok (.aload_n 0, 1) := by decide +kernel
set_option maxRecDepth 20000 in
theorem dX0_init_32 : decode cX0_init 32 = .ok (.aload_n 1, 1) := by decide +kernel
set_option maxRecDepth 20000 in
theorem dX0_init_33 : decode cX0_init 33 = .ok (.putfield 21, 3) := by decide +kernel
set_option maxRecDepth 20000 in
theorem dX0_init_36 : decode cX0_init 36 = .ok (.return_, 1) := by decide +kernel
set_option maxRecDepth 20000 in
theorem oi_X0 : Cond.methodLink RX0 3 Lib.objectInit ∈ gT := gS2 70 rfl rfl
def bX6 : List Value := [.null, .null, .int 0, .int 0, .int 0]
set_option maxRecDepth 20000 in
theorem bl_X6 : ∀ j, j < 5 → defaultValue (tyX6 j) = vp_V bX6 j := by decide +kernel
set_option maxRecDepth 20000 in
theorem dX6_init_0 : decode cX6_init 0 = .ok (.aload_n 0, 1) := by decide +kernel
set_option maxRecDepth 20000 in
theorem dX6_init_1 : decode cX6_init 1 = .ok (.invokespecial 3, 3) := by decide +kernel
set_option maxRecDepth 20000 in
theorem dX6_init_4 : decode cX6_init 4 = .ok (.aload_n 0, 1) := by decide +kernel
set_option maxRecDepth 20000 in
theorem dX6_init_5 : decode cX6_init 5 = .ok (.new 9, 3) := by decide +kernel
set_option maxRecDepth 20000 in
theorem dX6_init_8 : decode cX6_init 8 = .ok (.dup, 1) := by decide +kernel
set_option maxRecDepth 20000 in
theorem dX6_init_9 : decode cX6_init 9 = .ok (.invokespecial 11, 3) := by decide +kernel
set_option maxRecDepth 20000 in
theorem dX6_init_12 : decode cX6_init 12 = .ok (.putfield 12, 3) := by decide +kernel
set_option maxRecDepth 20000 in
theorem dX6_init_15 : decode cX6_init 15 = .ok (.aload_n 0, 1) := by decide +kernel
set_option maxRecDepth 20000 in
theorem dX6_init_16 : decode cX6_init 16 = .ok (.aload_n 1, 1) := by decide +kernel
set_option maxRecDepth 20000 in
theorem dX6_init_17 : decode cX6_init 17 = .ok (.putfield 18, 3) := by decide +kernel
set_option maxRecDepth 20000 in
theorem dX6_init_20 : decode cX6_init 20 = .ok (.return_, 1) := by decide +kernel
set_option maxRecDepth 20000 in
theorem oi_X6 : Cond.methodLink RX6 3 Lib.objectInit ∈ gT := gS1 134 rfl rfl
def bX1 : List Value := [.null, .null, .null, .null, .null, .null, .null, .int 0]
set_option maxRecDepth 20000 in
theorem bl_X1 : ∀ j, j < 8 → defaultValue (tyX1 j) = vp_V bX1 j := by decide +kernel
set_option maxRecDepth 20000 in
theorem dX1_init_0 : decode cX1_init 0 = .ok (.aload_n 0, 1) := by decide +kernel
set_option maxRecDepth 20000 in
theorem dX1_init_1 : decode cX1_init 1 = .ok (.invokespecial 3, 3) := by decide +kernel
set_option maxRecDepth 20000 in
theorem dX1_init_4 : decode cX1_init 4 = .ok (.aload_n 0, 1) := by decide +kernel
set_option maxRecDepth 20000 in
theorem dX1_init_5 : decode cX1_init 5 = .ok (.bipush 13, 2) := by decide +kernel
set_option maxRecDepth 20000 in
theorem dX1_init_7 : decode cX1_init 7 = .ok (.anewarray 9, 3) := by decide +kernel
set_option maxRecDepth 20000 in
theorem dX1_init_10 : decode cX1_init 10 = .ok (.putfield 11, 3) := by decide +kernel
set_option maxRecDepth 20000 in
theorem dX1_init_13 : decode cX1_init 13 = .ok (.aload_n 0, 1) := by decide +kernel
set_option maxRecDepth 20000 in
theorem dX1_init_14 : decode cX1_init 14 = .ok (.new 9, 3) := by decide +kernel
set_option maxRecDepth 20000 in
theorem dX1_init_17 : decode cX1_init 17 = .ok (.dup, 1) := by decide +kernel
set_option maxRecDepth 20000 in
theorem dX1_init_18 : decode cX1_init 18 = .ok (.invokespecial 17, 3) := by decide +kernel
set_option maxRecDepth 20000 in
theorem dX1_init_21 : decode cX1_init 21 = .ok (.putfield 18, 3) := by decide +kernel
set_option maxRecDepth 20000 in
theorem dX1_init_24 : decode cX1_init 24 = .ok (.aload_n 0, 1) := by decide +kernel
set_option maxRecDepth 20000 in
theorem dX1_init_25 : decode cX1_init 25 = .ok (.new 9, 3) := by decide +kernel
set_option maxRecDepth 20000 in
theorem dX1_init_28 : decode cX1_init 28 = .ok (.dup, 1) := by decide +kernel
set_option maxRecDepth 20000 in
theorem dX1_init_29 : decode cX1_init 29 = .ok (.invokespecial 17, 3) := by decide +kernel
set_option maxRecDepth 20000 in
theorem dX1_init_32 : decode cX1_init 32 = .ok (.putfield 22, 3) := by decide +kernel
set_option maxRecDepth 20000 in
theorem dX1_init_35 : decode cX1_init 35 = .ok (.aload_n 0, 1) := by decide +kernel
set_option maxRecDepth 20000 in
theorem dX1_init_36 : decode cX1_init 36 = .ok (.iconst (-1), 1) := by decide +kernel
set_option maxRecDepth 20000 in
theorem dX1_init_37 : decode cX1_init 37 = .ok (.putfield 25, 3) := by decide +kernel
set_option maxRecDepth 20000 in
theorem dX1_init_40 : decode cX1_init 40 = .ok (.aload_n 0, 1) := by decide +kernel
set_option maxRecDepth 20000 in
theorem dX1_init_41 : decode cX1_init 41 = .ok (.aload_n 1, 1) := by decide +kernel
set_option maxRecDepth 20000 in
theorem dX1_init_42 : decode cX1_init 42 = .ok (.putfield 29, 3) := by decide +kernel
set_option maxRecDepth 20000 in
theorem dX1_init_45 : decode cX1_init 45 = .ok (.aload_n 0, 1) := by decide +kernel
set_option maxRecDepth 20000 in
theorem dX1_init_46 : decode cX1_init 46 = .ok (.aload_n 2, 1) := by decide +kernel
set_option maxRecDepth 20000 in
theorem dX1_init_47 : decode cX1_init 47 = .ok (.putfield 33, 3) := by decide +kernel
set_option maxRecDepth 20000 in
theorem dX1_init_50 : decode cX1_init 50 = .ok (.aload_n 0, 1) := by decide +kernel
set_option maxRecDepth 20000 in
theorem dX1_init_51 : decode cX1_init 51 = .ok (.new 37, 3) := by decide +kernel
set_option maxRecDepth 20000 in
theorem dX1_init_54 : decode cX1_init 54 = .ok (.dup, 1) := by decide +kernel
set_option maxRecDepth 20000 in
theorem dX1_init_55 : decode cX1_init 55 = .ok (.aload_n 1, 1) := by decide +kernel
set_option maxRecDepth 20000 in
theorem dX1_init_56 : decode cX1_init 56 = .ok (.invokespecial 39, 3) := by decide +kernel
set_option maxRecDepth 20000 in
theorem dX1_init_59 : decode cX1_init 59 = .ok (.putfield 42, 3) := by decide +kernel
set_option maxRecDepth 20000 in
theorem dX1_init_62 : decode cX1_init 62 = .ok (.aload_n 0, 1) := by decide +kernel
set_option maxRecDepth 20000 in
theorem dX1_init_63 : decode cX1_init 63 = .ok (.new 46, 3) := by decide +kernel
set_option maxRecDepth 20000 in
theorem dX1_init_66 : decode cX1_init 66 = .ok (.dup, 1) := by decide +kernel
set_option maxRecDepth 20000 in
theorem dX1_init_67 : decode cX1_init 67 = .ok (.aload_n 1, 1) := by decide +kernel
set_option maxRecDepth 20000 in
theorem dX1_init_68 : decode cX1_init 68 = .ok (.invokespecial 48, 3) := by decide +kernel
set_option maxRecDepth 20000 in
theorem dX1_init_71 : decode cX1_init 71 = .ok (.putfield 49, 3) := by decide +kernel
set_option maxRecDepth 20000 in
theorem dX1_init_74 : decode cX1_init 74 = .ok (.iconst 0, 1) := by decide +kernel
set_option maxRecDepth 20000 in
theorem dX1_init_75 : decode cX1_init 75 = .ok (.istore_n 3, 1) := by decide +kernel
set_option maxRecDepth 20000 in
theorem dX1_init_76 : decode cX1_init 76 = .ok (.iload_n 3, 1) := by decide +kernel
set_option maxRecDepth 20000 in
theorem dX1_init_77 : decode cX1_init 77 = .ok (.bipush 12, 2) := by decide +kernel
set_option maxRecDepth 20000 in
theorem dX1_init_79 : decode cX1_init 79 = .ok (.if_icmp .gt 22, 3) := by decide +kernel
set_option maxRecDepth 20000 in
theorem dX1_init_82 : decode cX1_init 82 = .ok (.aload_n 0, 1) := by decide +kernel
set_option maxRecDepth 20000 in
theorem dX1_init_83 : decode cX1_init 83 = .ok (.getfield 11, 3) := by decide +kernel
set_option maxRecDepth 20000 in
theorem dX1_init_86 : decode cX1_init 86 = .ok (.iload_n 3, 1) := by decide +kernel
set_option maxRecDepth 20000 in
theorem dX1_init_87 : decode cX1_init 87 = .ok (.new 9, 3) := by decide +kernel
set_option maxRecDepth 20000 in
theorem dX1_init_90 : decode cX1_init 90 = .ok (.dup, 1) := by decide +kernel
set_option maxRecDepth 20000 in
theorem dX1_init_91 : decode cX1_init 91 = .ok (.invokespecial 17, 3) := by decide +kernel
set_option maxRecDepth 20000 in
theorem dX1_init_94 : decode cX1_init 94 = .ok (.aastore, 1) := by decide +kernel
set_option maxRecDepth 20000 in
theorem dX1_init_95 : decode cX1_init 95 = .ok (.iinc 3 1, 3) := by decide +kernel
set_option maxRecDepth 20000 in
theorem dX1_init_98 : decode cX1_init 98 = .ok (.goto (-22), 3) := by decide +kernel
set_option maxRecDepth 20000 in
theorem dX1_init_101 : decode cX1_init 101 = .ok (.return_, 1) := by decide +kernel
set_option maxRecDepth 20000 in
theorem oi_X1 : Cond.methodLink RX1 3 Lib.objectInit ∈ gT := gS1 159 rfl rfl
def bX11 : List Value := [.null, .null, .null, .null, .null, .null, .null, .null, .null, .null, .int 0, .int 0, .int 0]
set_option maxRecDepth 20000 in
theorem bl_X11 : ∀ j, j < 13 → defaultValue (tyX11 j) = vp_V bX11 j := by decide +kernel
set_option maxRecDepth 20000 in
theorem dX11_init_0 : decode cX11_init 0 = .ok (.aload_n 0, 1) := by decide +kernel
set_option maxRecDepth 20000 in
theorem dX11_init_1 : decode cX11_init 1 = .ok (.invokespecial 1, 3) := by decide +kernel
set_option maxRecDepth 20000 in
theorem dX11_init_4 : decode cX11_init 4 = .ok (.aload_n 0, 1) := by decide +kernel
set_option maxRecDepth 20000 in
theorem dX11_init_5 : decode cX11_init 5 = .ok (.new 7, 3) := by decide +kernel
set_option maxRecDepth 20000 in
theorem dX11_init_8 : decode cX11_init 8 = .ok (.dup, 1) := by decide +kernel
set_option maxRecDepth 20000 in
theorem dX11_init_9 : decode cX11_init 9 = .ok (.invokespecial 9, 3) := by decide +kernel
set_option maxRecDepth 20000 in
theorem dX11_init_12 : decode cX11_init 12 = .ok (.putfield 10, 3) := by decide +kernel
set_option maxRecDepth 20000 in
theorem dX11_init_15 : decode cX11_init 15 = .ok (.aload_n 0, 1) := by decide +kernel
set_option maxRecDepth 20000 in
theorem dX11_init_16 : decode cX11_init 16 = .ok (.new 16, 3) := by decide +kernel
set_option maxRecDepth 20000 in
theorem dX11_init_19 : decode cX11_init 19 = .ok (.dup, 1) := by decide +kernel
set_option maxRecDepth 20000 in
theorem dX11_init_20 : decode cX11_init 20 = .ok (.invokespecial 18, 3) := by decide +kernel
set_option maxRecDepth 20000 in
theorem dX11_init_23 : decode cX11_init 23 = .ok (.putfield 19, 3) := by decide +kernel
set_option maxRecDepth 20000 in
theorem dX11_init_26 : decode cX11_init 26 = .ok (.aload_n 0, 1) := by decide +kernel
set_option maxRecDepth 20000 in
theorem dX11_init_27 : decode cX11_init 27 = .ok (.new 23, 3) := by decide +kernel
set_option maxRecDepth 20000 in
theorem dX11_init_30 : decode cX11_init 30 = .ok (.dup, 1) := by decide +kernel
set_option maxRecDepth 20000 in
theorem dX11_init_31 : decode cX11_init 31 = .ok (.invokespecial 25, 3) := by decide +kernel
set_option maxRecDepth 20000 in
theorem dX11_init_34 : decode cX11_init 34 = .ok (.putfield 26, 3) := by decide +kernel
set_option maxRecDepth 20000 in
theorem dX11_init_37 : decode cX11_init 37 = .ok (.aload_n 0, 1) := by decide +kernel
set_option maxRecDepth 20000 in
theorem dX11_init_38 : decode cX11_init 38 = .ok (.new 30, 3) := by decide +kernel
set_option maxRecDepth 20000 in
theorem dX11_init_41 : decode cX11_init 41 = .ok (.dup, 1) := by decide +kernel
set_option maxRecDepth 20000 in
theorem dX11_init_42 : decode cX11_init 42 = .ok (.invokespecial 32, 3) := by decide +kernel
set_option maxRecDepth 20000 in
theorem dX11_init_45 : decode cX11_init 45 = .ok (.putfield 33, 3) := by decide +kernel
set_option maxRecDepth 20000 in
theorem dX11_init_48 : decode cX11_init 48 = .ok (.aload_n 0, 1) := by decide +kernel
set_option maxRecDepth 20000 in
theorem dX11_init_49 : decode cX11_init 49 = .ok (.new 37, 3) := by decide +kernel
set_option maxRecDepth 20000 in
theorem dX11_init_52 : decode cX11_init 52 = .ok (.dup, 1) := by decide +kernel
set_option maxRecDepth 20000 in
theorem dX11_init_53 : decode cX11_init 53 = .ok (.aload_n 0, 1) := by decide +kernel
set_option maxRecDepth 20000 in
theorem dX11_init_54 : decode cX11_init 54 = .ok (.getfield 10, 3) := by decide +kernel
set_option maxRecDepth 20000 in
theorem dX11_init_57 : decode cX11_init 57 = .ok (.invokespecial 39, 3) := by decide +kernel
set_option maxRecDepth 20000 in
theorem dX11_init_60 : decode cX11_init 60 = .ok (.putfield 42, 3) := by decide +kernel
set_option maxRecDepth 20000 in
theorem dX11_init_63 : decode cX11_init 63 = .ok (.aload_n 0, 1) := by decide +kernel
set_option maxRecDepth 20000 in
theorem dX11_init_64 : decode cX11_init 64 = .ok (.new 46, 3) := by decide +kernel
set_option maxRecDepth 20000 in
theorem dX11_init_67 : decode cX11_init 67 = .ok (.dup, 1) := by decide +kernel
set_option maxRecDepth 20000 in
theorem dX11_init_68 : decode cX11_init 68 = .ok (.aload_n 0, 1) := by decide +kernel
set_option maxRecDepth 20000 in
theorem dX11_init_69 : decode cX11_init 69 = .ok (.getfield 19, 3) := by decide +kernel
set_option maxRecDepth 20000 in
theorem dX11_init_72 : decode cX11_init 72 = .ok (.aload_n 0, 1) := by decide +kernel
set_option maxRecDepth 20000 in
theorem dX11_init_73 : decode cX11_init 73 = .ok (.getfield 33, 3) := by decide +kernel
set_option maxRecDepth 20000 in
theorem dX11_init_76 : decode cX11_init 76 = .ok (.invokespecial 48, 3) := by decide +kernel
set_option maxRecDepth 20000 in
theorem dX11_init_79 : decode cX11_init 79 = .ok (.putfield 51, 3) := by decide +kernel
set_option maxRecDepth 20000 in
theorem dX11_init_82 : decode cX11_init 82 = .ok (.aload_n 0, 1) := by decide +kernel
set_option maxRecDepth 20000 in
theorem dX11_init_83 : decode cX11_init 83 = .ok (.new 55, 3) := by decide +kernel
set_option maxRecDepth 20000 in
theorem dX11_init_86 : decode cX11_init 86 = .ok (.dup, 1) := by decide +kernel
set_option maxRecDepth 20000 in
theorem dX11_init_87 : decode cX11_init 87 = .ok (.aload_n 0, 1) := by decide +kernel
set_option maxRecDepth 20000 in
theorem dX11_init_88 : decode cX11_init 88 = .ok (.getfield 19, 3) := by decide +kernel
set_option maxRecDepth 20000 in
theorem dX11_init_91 : decode cX11_init 91 = .ok (.invokespecial 57, 3) := by decide +kernel
set_option maxRecDepth 20000 in
theorem dX11_init_94 : decode cX11_init 94 = .ok (.putfield 60, 3) := by decide +kernel
set_option maxRecDepth 20000 in
theorem dX11_init_97 : decode cX11_init 97 = .ok (.aload_n 0, 1) := by decide +kernel
set_option maxRecDepth 20000 in
theorem dX11_init_98 : decode cX11_init 98 = .ok (.new 64, 3) := by decide +kernel
set_option maxRecDepth 20000 in
theorem dX11_init_101 : decode cX11_init 101 = .ok (.dup, 1) := by decide +kernel
set_option maxRecDepth 20000 in
theorem dX11_init_102 : decode cX11_init 102 = .ok (.aload_n 0, 1) := by decide +kernel
set_option maxRecDepth 20000 in
theorem dX11_init_103 : decode cX11_init 103 = .ok (.getfield 19, 3) := by decide +kernel
set_option maxRecDepth 20000 in
theorem dX11_init_106 : decode cX11_init 106 = .ok (.invokespecial 66, 3) := by decide +kernel
set_option maxRecDepth 20000 in
theorem dX11_init_109 : decode cX11_init 109 = .ok (.putfield 67, 3) := by decide +kernel
set_option maxRecDepth 20000 in
theorem dX11_init_112 : decode cX11_init 112 = .ok (.aload_n 0, 1) := by decide +kernel
set_option maxRecDepth 20000 in
theorem dX11_init_113 : decode cX11_init 113 = .ok (.new 16, 3) := by decide +kernel
set_option maxRecDepth 20000 in
theorem dX11_init_116 : decode cX11_init 116 = .ok (.dup, 1) := by decide +kernel
set_option maxRecDepth 20000 in
theorem dX11_init_117 : decode cX11_init 117 = .ok (.invokespecial 18, 3) := by decide +kernel
set_option maxRecDepth 20000 in
theorem dX11_init_120 : decode cX11_init 120 = .ok (.putfield 71, 3) := by decide +kernel
set_option maxRecDepth 20000 in
theorem dX11_init_123 : decode cX11_init 123 = .ok (.aload_n 0, 1) := by decide +kernel
set_option maxRecDepth 20000 in
theorem dX11_init_124 : decode cX11_init 124 = .ok (.new 30, 3) := by decide +kernel
set_option maxRecDepth 20000 in
theorem dX11_init_127 : decode cX11_init 127 = .ok (.dup, 1) := by decide +kernel
set_option maxRecDepth 20000 in
theorem dX11_init_128 : decode cX11_init 128 = .ok (.invokespecial 32, 3) := by decide +kernel
set_option maxRecDepth 20000 in
theorem dX11_init_131 : decode cX11_init 131 = .ok (.putfield 74, 3) := by decide +kernel
set_option maxRecDepth 20000 in
theorem dX11_init_134 : decode cX11_init 134 = .ok (.aload_n 0, 1) := by decide +kernel
set_option maxRecDepth 20000 in
theorem dX11_init_135 : decode cX11_init 135 = .ok (.iconst 1, 1) := by decide +kernel
set_option maxRecDepth 20000 in
theorem dX11_init_136 : decode cX11_init 136 = .ok (.putfield 77, 3) := by decide +kernel
set_option maxRecDepth 20000 in
theorem dX11_init_139 : decode cX11_init 139 = .ok (.aload_n 0, 1) := by decide +kernel
set_option maxRecDepth 20000 in
theorem dX11_init_140 : decode cX11_init 140 = .ok (.iconst 0, 1) := by decide +kernel
set_option maxRecDepth 20000 in
theorem dX11_init_141 : decode cX11_init 141 = .ok (.putfield 81, 3) := by decide +kernel
set_option maxRecDepth 20000 in
theorem dX11_init_144 : decode cX11_init 144 = .ok (.aload_n 0, 1) := by decide +kernel
set_option maxRecDepth 20000 in
theorem dX11_init_145 : decode cX11_init 145 = .ok (.iconst 1, 1) := by decide +kernel
set_option maxRecDepth 20000 in
theorem dX11_init_146 : decode cX11_init 146 = .ok (.putfield 85, 3) := by decide +kernel
set_option maxRecDepth 20000 in
theorem dX11_init_149 : decode cX11_init 149 = .ok (.return_, 1) := by decide +kernel
set_option maxRecDepth 20000 in
theorem oi_X11 : Cond.methodLink RX11 1 Lib.objectInit ∈ gT := gS1 28 rfl rfl
def bX12 : List Value := [.null, .null, .null, .null, .null, .null, .null, .null, .null, .null, .null, .int 0, .int 0, .int 0, .int 0, .int 0, .int 0, .int 0, .int 0, .int 0, .int 0, .int 0, .int 0, .int 0, .null, .int 0, .int 0, .int 0, .int 0, .int 0, .int 0, .int 0, .null, .null, .null, .null, .null, .null, .null, .null, .null, .null, .null, .null, .int 0, .int 0, .int 0, .int 0, .null, .null, .null, .null, .null, .int 0]
set_option maxRecDepth 20000 in
theorem bl_X12 : ∀ j, j < 54 → defaultValue (tyX12 j) = vp_V bX12 j := by decide +kernel
set_option maxRecDepth 20000 in
theorem dX12_init_0 : decode cX12_init 0 = .ok (.aload_n 0, 1) := by decide +kernel
set_option maxRecDepth 20000 in
theorem dX12_init_1 : decode cX12_init 1 = .ok (.invokespecial 1, 3) := by decide +kernel
set_option maxRecDepth 20000 in
theorem dX12_init_4 : decode cX12_init 4 = .ok (.aload_n 0, 1) := by decide +kernel
set_option maxRecDepth 20000 in
theorem dX12_init_5 : decode cX12_init 5 = .ok (.sipush 256, 3) := by decide +kernel
set_option maxRecDepth 20000 in
theorem dX12_init_8 : decode cX12_init 8 = .ok (.newarray .int, 2) := by decide +kernel
set_option maxRecDepth 20000 in
theorem dX12_init_10 : decode cX12_init 10 = .ok (.putfield 7, 3) := by decide +kernel
set_option maxRecDepth 20000 in
theorem dX12_init_13 : decode cX12_init 13 = .ok (.aload_n 0, 1) := by decide +kernel
set_option maxRecDepth 20000 in
theorem dX12_init_14 : decode cX12_init 14 = .ok (.sipush 768, 3) := by decide +kernel
set_option maxRecDepth 20000 in
theorem dX12_init_17 : decode cX12_init 17 = .ok (.newarray .int, 2) := by decide +kernel
set_option maxRecDepth 20000 in
theorem dX12_init_19 : decode cX12_init 19 = .ok (.putfield 13, 3) := by decide +kernel
set_option maxRecDepth 20000 in
theorem dX12_init_22 : decode cX12_init 22 = .ok (.aload_n 0, 1) := by decide +kernel
set_option maxRecDepth 20000 in
theorem dX12_init_23 : decode cX12_init 23 = .ok (.bipush 12, 2) := by decide +kernel
set_option maxRecDepth 20000 in
theorem dX12_init_25 : decode cX12_init 25 = .ok (.newarray .int, 2) := by decide +kernel
set_option maxRecDepth 20000 in
theorem dX12_init_27 : decode cX12_init 27 = .ok (.putfield 16, 3) := by decide +kernel
set_option maxRecDepth 20000 in
theorem dX12_init_30 : decode cX12_init 30 = .ok (.aload_n 0, 1) := by decide +kernel
set_option maxRecDepth 20000 in
theorem dX12_init_31 : decode cX12_init 31 = .ok (.bipush 13, 2) := by decide +kernel
set_option maxRecDepth 20000 in
theorem dX12_init_33 : decode cX12_init 33 = .ok (.newarray .int, 2) := by decide +kernel
set_option maxRecDepth 20000 in
theorem dX12_init_35 : decode cX12_init 35 = .ok (.putfield 19, 3) := by decide +kernel
set_option maxRecDepth 20000 in
theorem dX12_init_38 : decode cX12_init 38 = .ok (.aload_n 0, 1) := by decide +kernel
set_option maxRecDepth 20000 in
theorem dX12_init_39 : decode cX12_init 39 = .ok (.sipush 130, 3) := by decide +kernel
set_option maxRecDepth 20000 in
theorem dX12_init_42 : decode cX12_init 42 = .ok (.newarray .int, 2) := by decide +kernel
set_option maxRecDepth 20000 in
theorem dX12_init_44 : decode cX12_init 44 = .ok (.putfield 22, 3) := by decide +kernel
set_option maxRecDepth 20000 in
theorem dX12_init_47 : decode cX12_init 47 = .ok (.aload_n 0, 1) := by decide +kernel
set_option maxRecDepth 20000 in
theorem dX12_init_48 : decode cX12_init 48 = .ok (.sipush 256, 3) := by decide +kernel
set_option maxRecDepth 20000 in
theorem dX12_init_51 : decode cX12_init 51 = .ok (.newarray .int, 2) := by decide +kernel
set_option maxRecDepth 20000 in
theorem dX12_init_53 : decode cX12_init 53 = .ok (.putfield 25, 3) := by decide +kernel
set_option maxRecDepth 20000 in
theorem dX12_init_56 : decode cX12_init 56 = .ok (.aload_n 0, 1) := by decide +kernel
set_option maxRecDepth 20000 in
theorem dX12_init_57 : decode cX12_init 57 = .ok (.bipush 12, 2) := by decide +kernel
set_option maxRecDepth 20000 in
theorem dX12_init_59 : decode cX12_init 59 = .ok (.newarray .int, 2) := by decide +kernel
set_option maxRecDepth 20000 in
theorem dX12_init_61 : decode cX12_init 61 = .ok (.putfield 28, 3) := by decide +kernel
set_option maxRecDepth 20000 in
theorem dX12_init_64 : decode cX12_init 64 = .ok (.aload_n 0, 1) := by decide +kernel
set_option maxRecDepth 20000 in
theorem dX12_init_65 : decode cX12_init 65 = .ok (.bipush 13, 2) := by decide +kernel
set_option maxRecDepth 20000 in
theorem dX12_init_67 : decode cX12_init 67 = .ok (.newarray .int, 2) := by decide +kernel
set_option maxRecDepth 20000 in
theorem dX12_init_69 : decode cX12_init 69 = .ok (.putfield 31, 3) := by decide +kernel
set_option maxRecDepth 20000 in
theorem dX12_init_72 : decode cX12_init 72 = .ok (.aload_n 0, 1) := by decide +kernel
set_option maxRecDepth 20000 in
theorem dX12_init_73 : decode cX12_init 73 = .ok (.sipush 130, 3) := by decide +kernel
set_option maxRecDepth 20000 in
theorem dX12_init_76 : decode cX12_init 76 = .ok (.newarray .int, 2) := by decide +kernel
set_option maxRecDepth 20000 in
theorem dX12_init_78 : decode cX12_init 78 = .ok (.putfield 34, 3) := by decide +kernel
set_option maxRecDepth 20000 in
theorem dX12_init_81 : decode cX12_init 81 = .ok (.aload_n 0, 1) := by decide +kernel
set_option maxRecDepth 20000 in
theorem dX12_init_82 : decode cX12_init 82 = .ok (.sipush 256, 3) := by decide +kernel
set_option maxRecDepth 20000 in
theorem dX12_init_85 : decode cX12_init 85 = .ok (.newarray .boolean, 2) := by decide +kernel
set_option maxRecDepth 20000 in
theorem dX12_init_87 : decode cX12_init 87 = .ok (.putfield 37, 3) := by decide +kernel
set_option maxRecDepth 20000 in
theorem dX12_init_90 : decode cX12_init 90 = .ok (.aload_n 0, 1) := by decide +kernel
set_option maxRecDepth 20000 in
theorem dX12_init_91 : decode cX12_init 91 = .ok (.sipush 256, 3) := by decide +kernel
set_option maxRecDepth 20000 in
theorem dX12_init_94 : decode cX12_init 94 = .ok (.newarray .boolean, 2) := by decide +kernel
set_option maxRecDepth 20000 in
theorem dX12_init_96 : decode cX12_init 96 = .ok (.putfield 41, 3) := by decide +kernel
set_option maxRecDepth 20000 in
theorem dX12_init_99 : decode cX12_init 99 = .ok (.aload_n 0, 1) := by decide +kernel
set_option maxRecDepth 20000 in
theorem dX12_init_100 : decode cX12_init 100 = .ok (.sipush 140, 3) := by decide +kernel
set_option maxRecDepth 20000 in
theorem dX12_init_103 : decode cX12_init 103 = .ok (.newarray .byte, 2) := by decide +kernel
set_option maxRecDepth 20000 in
theorem dX12_init_105 : decode cX12_init 105 = .ok (.putfield 44, 3) := by decide +kernel
set_option maxRecDepth 20000 in
theorem dX12_init_108 : decode cX12_init 108 = .ok (.aload_n 0, 1) := by decide +kernel
set_option maxRecDepth 20000 in
theorem dX12_init_109 : decode cX12_init 109 = .ok (.bipush 12, 2) := by decide +kernel
set_option maxRecDepth 20000 in
theorem dX12_init_111 : decode cX12_init 111 = .ok (.newarray .int, 2) := by decide +kernel
set_option maxRecDepth 20000 in
theorem dX12_init_113 : decode cX12_init 113 = .ok (.putfield 48, 3) := by decide +kernel
set_option maxRecDepth 20000 in
theorem dX12_init_116 : decode cX12_init 116 = .ok (.aload_n 0, 1) := by decide +kernel
set_option maxRecDepth 20000 in
theorem dX12_init_117 : decode cX12_init 117 = .ok (.bipush 13, 2) := by decide +kernel
set_option maxRecDepth 20000 in
theorem dX12_init_119 : decode cX12_init 119 = .ok (.newarray .int, 2) := by decide +kernel
set_option maxRecDepth 20000 in
theorem dX12_init_121 : decode cX12_init 121 = .ok (.putfield 51, 3) := by decide +kernel
set_option maxRecDepth 20000 in
theorem dX12_init_124 : decode cX12_init 124 = .ok (.aload_n 0, 1) := by decide +kernel
set_option maxRecDepth 20000 in
theorem dX12_init_125 : decode cX12_init 125 = .ok (.sipush 130, 3) := by decide +kernel
set_option maxRecDepth 20000 in
theorem dX12_init_128 : decode cX12_init 128 = .ok (.newarray .int, 2) := by decide +kernel
set_option maxRecDepth 20000 in
theorem dX12_init_130 : decode cX12_init 130 = .ok (.putfield 54, 3) := by decide +kernel
set_option maxRecDepth 20000 in
theorem dX12_init_133 : decode cX12_init 133 = .ok (.aload_n 0, 1) := by decide +kernel
set_option maxRecDepth 20000 in
theorem dX12_init_134 : decode cX12_init 134 = .ok (.bipush 6, 2) := by decide +kernel
set_option maxRecDepth 20000 in
theorem dX12_init_136 : decode cX12_init 136 = .ok (.newarray .int, 2) := by decide +kernel
set_option maxRecDepth 20000 in
theorem dX12_init_138 : decode cX12_init 138 = .ok (.putfield 57, 3) := by decide +kernel
set_option maxRecDepth 20000 in
theorem dX12_init_141 : decode cX12_init 141 = .ok (.aload_n 0, 1) := by decide +kernel
set_option maxRecDepth 20000 in
theorem dX12_init_142 : decode cX12_init 142 = .ok (.sipush 11520, 3) := by decide +kernel
set_option maxRecDepth 20000 in
theorem dX12_init_145 : decode cX12_init 145 = .ok (.newarray .int, 2) := by decide +kernel
set_option maxRecDepth 20000 in
theorem dX12_init_147 : decode cX12_init 147 = .ok (.putfield 60, 3) := by decide +kernel
set_option maxRecDepth 20000 in
theorem dX12_init_150 : decode cX12_init 150 = .ok (.aload_n 0, 1) := by decide +kernel
set_option maxRecDepth 20000 in
theorem dX12_init_151 : decode cX12_init 151 = .ok (.sipush 256, 3) := by decide +kernel
set_option maxRecDepth 20000 in
theorem dX12_init_154 : decode cX12_init 154 = .ok (.newarray .int, 2) := by decide +kernel
set_option maxRecDepth 20000 in
theorem dX12_init_156 : decode cX12_init 156 = .ok (.putfield 63, 3) := by decide +kernel
set_option maxRecDepth 20000 in
theorem dX12_init_159 : decode cX12_init 159 = .ok (.aload_n 0, 1) := by decide +kernel
set_option maxRecDepth 20000 in
theorem dX12_init_160 : decode cX12_init 160 = .ok (.sipush 768, 3) := by decide +kernel
set_option maxRecDepth 20000 in
theorem dX12_init_163 : decode cX12_init 163 = .ok (.newarray .int, 2) := by decide +kernel
set_option maxRecDepth 20000 in
theorem dX12_init_165 : decode cX12_init 165 = .ok (.putfield 66, 3) := by decide +kernel
set_option maxRecDepth 20000 in
theorem dX12_init_168 : decode cX12_init 168 = .ok (.aload_n 0, 1) := by decide +kernel
set_option maxRecDepth 20000 in
theorem dX12_init_169 : decode cX12_init 169 = .ok (.bipush 9, 2) := by decide +kernel
set_option maxRecDepth 20000 in
theorem dX12_init_171 : decode cX12_init 171 = .ok (.newarray .int, 2) := by decide +kernel
set_option maxRecDepth 20000 in
theorem dX12_init_173 : decode cX12_init 173 = .ok (.putfield 69, 3) := by decide +kernel
set_option maxRecDepth 20000 in
theorem dX12_init_176 : decode cX12_init 176 = .ok (.aload_n 0, 1) := by decide +kernel
set_option maxRecDepth 20000 in
theorem dX12_init_177 : decode cX12_init 177 = .ok (.iconst 4, 1) := by decide +kernel
set_option maxRecDepth 20000 in
theorem dX12_init_178 : decode cX12_init 178 = .ok (.newarray .int, 2) := by decide +kernel
set_option maxRecDepth 20000 in
theorem dX12_init_180 : decode cX12_init 180 = .ok (.putfield 72, 3) := by decide +kernel
set_option maxRecDepth 20000 in
theorem dX12_init_183 : decode cX12_init 183 = .ok (.aload_n 0, 1) := by decide +kernel
set_option maxRecDepth 20000 in
theorem dX12_init_184 : decode cX12_init 184 = .ok (.sipush 1024, 3) := by decide +kernel
set_option maxRecDepth 20000 in
theorem dX12_init_187 : decode cX12_init 187 = .ok (.newarray .int, 2) := by decide +kernel
set_option maxRecDepth 20000 in
theorem dX12_init_189 : decode cX12_init 189 = .ok (.putfield 75, 3) := by decide +kernel
set_option maxRecDepth 20000 in
theorem dX12_init_192 : decode cX12_init 192 = .ok (.aload_n 0, 1) := by decide +kernel
set_option maxRecDepth 20000 in
theorem dX12_init_193 : decode cX12_init 193 = .ok (.sipush 130, 3) := by decide +kernel
set_option maxRecDepth 20000 in
theorem dX12_init_196 : decode cX12_init 196 = .ok (.newarray .int, 2) := by decide +kernel
set_option maxRecDepth 20000 in
theorem dX12_init_198 : decode cX12_init 198 = .ok (.putfield 78, 3) := by decide +kernel
set_option maxRecDepth 20000 in
theorem dX12_init_201 : decode cX12_init 201 = .ok (.aload_n 0, 1) := by decide +kernel
set_option maxRecDepth 20000 in
theorem dX12_init_202 : decode cX12_init 202 = .ok (.sipush 256, 3) := by decide +kernel
set_option maxRecDepth 20000 in
theorem dX12_init_205 : decode cX12_init 205 = .ok (.newarray .boolean, 2) := by decide +kernel
set_option maxRecDepth 20000 in
theorem dX12_init_207 : decode cX12_init 207 = .ok (.putfield 81, 3) := by decide +kernel
set_option maxRecDepth 20000 in
theorem dX12_init_210 : decode cX12_init 210 = .ok (.aload_n 0, 1) := by decide +kernel
set_option maxRecDepth 20000 in
theorem dX12_init_211 : decode cX12_init 211 = .ok (.sipush 256, 3) := by decide +kernel
set_option maxRecDepth 20000 in
theorem dX12_init_214 : decode cX12_init 214 = .ok (.newarray .int, 2) := by decide +kernel
set_option maxRecDepth 20000 in
theorem dX12_init_216 : decode cX12_init 216 = .ok (.putfield 84, 3) := by decide +kernel
set_option maxRecDepth 20000 in
theorem dX12_init_219 : decode cX12_init 219 = .ok (.aload_n 0, 1) := by decide +kernel
set_option maxRecDepth 20000 in
theorem dX12_init_220 : decode cX12_init 220 = .ok (.sipush 256, 3) := by decide +kernel
set_option maxRecDepth 20000 in
theorem dX12_init_223 : decode cX12_init 223 = .ok (.newarray .int, 2) := by decide +kernel
set_option maxRecDepth 20000 in
theorem dX12_init_225 : decode cX12_init 225 = .ok (.putfield 87, 3) := by decide +kernel
set_option maxRecDepth 20000 in
theorem dX12_init_228 : decode cX12_init 228 = .ok (.aload_n 0, 1) := by decide +kernel
set_option maxRecDepth 20000 in
theorem dX12_init_229 : decode cX12_init 229 = .ok (.sipush 256, 3) := by decide +kernel
set_option maxRecDepth 20000 in
theorem dX12_init_232 : decode cX12_init 232 = .ok (.newarray .int, 2) := by decide +kernel
set_option maxRecDepth 20000 in
theorem dX12_init_234 : decode cX12_init 234 = .ok (.putfield 90, 3) := by decide +kernel
set_option maxRecDepth 20000 in
theorem dX12_init_237 : decode cX12_init 237 = .ok (.aload_n 0, 1) := by decide +kernel
set_option maxRecDepth 20000 in
theorem dX12_init_238 : decode cX12_init 238 = .ok (.sipush 256, 3) := by decide +kernel
set_option maxRecDepth 20000 in
theorem dX12_init_241 : decode cX12_init 241 = .ok (.newarray .int, 2) := by decide +kernel
set_option maxRecDepth 20000 in
theorem dX12_init_243 : decode cX12_init 243 = .ok (.putfield 93, 3) := by decide +kernel
set_option maxRecDepth 20000 in
theorem dX12_init_246 : decode cX12_init 246 = .ok (.aload_n 0, 1) := by decide +kernel
set_option maxRecDepth 20000 in
theorem dX12_init_247 : decode cX12_init 247 = .ok (.sipush 256, 3) := by decide +kernel
set_option maxRecDepth 20000 in
theorem dX12_init_250 : decode cX12_init 250 = .ok (.newarray .int, 2) := by decide +kernel
set_option maxRecDepth 20000 in
theorem dX12_init_252 : decode cX12_init 252 = .ok (.putfield 96, 3) := by decide +kernel
set_option maxRecDepth 20000 in
theorem dX12_init_255 : decode cX12_init 255 = .ok (.aload_n 0, 1) := by decide +kernel
set_option maxRecDepth 20000 in
theorem dX12_init_256 : decode cX12_init 256 = .ok (.iconst 4, 1) := by decide +kernel
set_option maxRecDepth 20000 in
theorem dX12_init_257 : decode cX12_init 257 = .ok (.putfield 99, 3) := by decide +kernel
set_option maxRecDepth 20000 in
theorem dX12_init_260 : decode cX12_init 260 = .ok (.aload_n 0, 1) := by decide +kernel
set_option maxRecDepth 20000 in
theorem dX12_init_261 : decode cX12_init 261 = .ok (.iconst 4, 1) := by decide +kernel
set_option maxRecDepth 20000 in
theorem dX12_init_262 : decode cX12_init 262 = .ok (.putfield 103, 3) := by decide +kernel
set_option maxRecDepth 20000 in
theorem dX12_init_265 : decode cX12_init 265 = .ok (.aload_n 0, 1) := by decide +kernel
set_option maxRecDepth 20000 in
theorem dX12_init_266 : decode cX12_init 266 = .ok (.iconst 1, 1) := by decide +kernel
set_option maxRecDepth 20000 in
theorem dX12_init_267 : decode cX12_init 267 = .ok (.putfield 106, 3) := by decide +kernel
set_option maxRecDepth 20000 in
theorem dX12_init_270 : decode cX12_init 270 = .ok (.return_, 1) := by decide +kernel
set_option maxRecDepth 20000 in
theorem oi_X12 : Cond.methodLink RX12 1 Lib.objectInit ∈ gT := gS5 210 rfl rfl
abbrev mX8_init : Mt := (cX8_init, 1, none, RX8, ({ frames := 1, cells := 1, slots := 768, locals := 20 } : Room))
set_option maxRecDepth 20000 in
theorem kc_X8 : Cond.code yX8_init mX8_init.1 mX8_init.2.1 none ∈ gT := gS1 165 rfl rfl
set_option maxRecDepth 20000 in
theorem kn_X8 : yX8_init.cls ≠ "java/lang/invoke/MethodHandle" ∧ yX8_init.cls ≠ "java/lang/invoke/VarHandle" := ⟨by decide +kernel, by decide +kernel⟩
set_option maxRecDepth 20000 in
theorem kp_X8 : (parseMethodDescriptor yX8_init.desc).map (fun d => d.parameters.length) = some 0 := by decide +kernel
set_option maxRecDepth 20000 in
theorem ki_X8 : Cond.instanceMethod yX8_init ∈ gT := gS1 164 rfl rfl
set_option maxRecDepth 20000 in
theorem lk_X1_i17 : zLk RX1 17 yX8_init := Or.inr ⟨"RawPictures", gS1 163 rfl rfl⟩
def wX8 (ca : Nat → ClassId) (b : Nat) : va_W := (b, .inr (8, [.ref (b + 1), .int 0])) :: [(b + 1, zI (ca 0) 768)]
set_option maxHeartbeats 4000000 in
set_option maxRecDepth 100000 in
theorem ok_X8 (l : Launch) (D : va_G) (ca : Nat → ClassId) (b : Nat) : nM l D ca mX8_init yX8_init [] b (.inr (8, bX8)) 1 (wX8 ca b) := by
  refine nM_of (by decide) rfl rfl rfl (Nat.le_of_ble_eq_true rfl) ?_
  intro p e s m args below meth c ls C hin hl hP
  have hb : c.code = cX8_init := C.2.1
  have hS : nS b s.heap s.heap [] := va_S.rf
  have hl : lv_has ls 1 [(0, .ref b)] := hl
  have hP : nP D b 1 [(b, .inr (8, [.null, .int 0]))] s.heap := hP
  refine lv_aload_n C.1 hb dX8_init_0 rfl (lv_at hl 0 rfl) ?_
  refine nw_obj C (pc' := 4) oi_X8 oi_i oi_c hl.1 dX8_init_1 (Nat.le_of_ble_eq_true rfl) (Nat.le_of_ble_eq_true rfl) rfl ?_
  refine lv_aload_n C.1 hb dX8_init_4 rfl (lv_at hl 0 rfl) ?_
  refine lv_sipush (v := 768) C.1 hb dX8_init_5 (by decide) ?_
  refine nw_newa C (atype := .int) (t := 0) (N := 768) (a0 := (768, .inl (fun _ => 0))) (ty := .int) (pc' := 10) rfl ar_int rfl (fun h => h) (fun _ => rfl) (by decide) (by decide) (Nat.le_of_ble_eq_true rfl) (Nat.le_of_ble_eq_true rfl) (Nat.le_of_ble_eq_true rfl) hP hS dX8_init_8 rfl (fun H hP hS => ?_)
  have hP : nP D b 2 ((b, .inr (8, [.null, .int 0])) :: [(b + 1, zI (ca 0) 768)]) H := hP
  refine nw_putF C hin (pc' := 13) fg_X8_9 rfl rfl rfl (ty := .array .int) (by decide +kernel) rfl rfl (Nat.le_of_ble_eq_true rfl) hP hS dX8_init_10 rfl (fun H locs hP hS => ?_)
  have hP : nP D b 2 ((b, .inr (8, [.ref (b + 1), .int 0])) :: [(b + 1, zI (ca 0) 768)]) H := hP
  exact nw_ret C rfl (k := 1) hP hS dX8_init_13
abbrev mX9_init : Mt := (cX9_init, 1, none, RX9, ({ frames := 1, cells := 1, slots := 140, locals := 20 } : Room))
set_option maxRecDepth 20000 in
theorem kc_X9 : Cond.code yX9_init mX9_init.1 mX9_init.2.1 none ∈ gT := gS1 35 rfl rfl
set_option maxRecDepth 20000 in
theorem kn_X9 : yX9_init.cls ≠ "java/lang/invoke/MethodHandle" ∧ yX9_init.cls ≠ "java/lang/invoke/VarHandle" := ⟨by decide +kernel, by decide +kernel⟩
set_option maxRecDepth 20000 in
theorem kp_X9 : (parseMethodDescriptor yX9_init.desc).map (fun d => d.parameters.length) = some 0 := by decide +kernel
set_option maxRecDepth 20000 in
theorem ki_X9 : Cond.instanceMethod yX9_init ∈ gT := gS1 34 rfl rfl
set_option maxRecDepth 20000 in
theorem lk_X11_i9 : zLk RX11 9 yX9_init := Or.inr ⟨"RawPictures", gS1 33 rfl rfl⟩
def wX9 (ca : Nat → ClassId) (b : Nat) : va_W := (b, .inr (9, [.ref (b + 1), .int 0])) :: [(b + 1, zI (ca 0) 140)]
set_option maxHeartbeats 4000000 in
set_option maxRecDepth 100000 in
theorem ok_X9 (l : Launch) (D : va_G) (ca : Nat → ClassId) (b : Nat) : nM l D ca mX9_init yX9_init [] b (.inr (9, bX9)) 1 (wX9 ca b) := by
  refine nM_of (by decide) rfl rfl rfl (Nat.le_of_ble_eq_true rfl) ?_
  intro p e s m args below meth c ls C hin hl hP
  have hb : c.code = cX9_init := C.2.1
  have hS : nS b s.heap s.heap [] := va_S.rf
  have hl : lv_has ls 1 [(0, .ref b)] := hl
  have hP : nP D b 1 [(b, .inr (9, [.null, .int 0]))] s.heap := hP
  refine lv_aload_n C.1 hb dX9_init_0 rfl (lv_at hl 0 rfl) ?_
  refine nw_obj C (pc' := 4) oi_X9 oi_i oi_c hl.1 dX9_init_1 (Nat.le_of_ble_eq_true rfl) (Nat.le_of_ble_eq_true rfl) rfl ?_
  refine lv_aload_n C.1 hb dX9_init_4 rfl (lv_at hl 0 rfl) ?_
  refine lv_sipush (v := 140) C.1 hb dX9_init_5 (by decide) ?_
  refine nw_newa C (atype := .int) (t := 0) (N := 140) (a0 := (140, .inl (fun _ => 0))) (ty := .int) (pc' := 10) rfl ar_int rfl (fun h => h) (fun _ => rfl) (by decide) (by decide) (Nat.le_of_ble_eq_true rfl) (Nat.le_of_ble_eq_true rfl) (Nat.le_of_ble_eq_true rfl) hP hS dX9_init_8 rfl (fun H hP hS => ?_)
  have hP : nP D b 2 ((b, .inr (9, [.null, .int 0])) :: [(b + 1, zI (ca 0) 140)]) H := hP
  refine nw_putF C hin (pc' := 13) fg_X9_9 rfl rfl rfl (ty := .array .int) (by decide +kernel) rfl rfl (Nat.le_of_ble_eq_true rfl) hP hS dX9_init_10 rfl (fun H locs hP hS => ?_)
  have hP : nP D b 2 ((b, .inr (9, [.ref (b + 1), .int 0])) :: [(b + 1, zI (ca 0) 140)]) H := hP
  exact nw_ret C rfl (k := 1) hP hS dX9_init_13
abbrev mX10_init : Mt := (cX10_init, 1, none, RX10, ({ frames := 1, cells := 1, slots := 768, locals := 20 } : Room))
set_option maxRecDepth 20000 in
theorem kc_X10 : Cond.code yX10_init mX10_init.1 mX10_init.2.1 none ∈ gT := gS1 91 rfl rfl
set_option maxRecDepth 20000 in
theorem kn_X10 : yX10_init.cls ≠ "java/lang/invoke/MethodHandle" ∧ yX10_init.cls ≠ "java/lang/invoke/VarHandle" := ⟨by decide +kernel, by decide +kernel⟩
set_option maxRecDepth 20000 in
theorem kp_X10 : (parseMethodDescriptor yX10_init.desc).map (fun d => d.parameters.length) = some 0 := by decide +kernel
set_option maxRecDepth 20000 in
theorem ki_X10 : Cond.instanceMethod yX10_init ∈ gT := gS1 90 rfl rfl
set_option maxRecDepth 20000 in
theorem lk_X11_i25 : zLk RX11 25 yX10_init := Or.inr ⟨"RawPictures", gS1 89 rfl rfl⟩
def wX10 (ca : Nat → ClassId) (b : Nat) : va_W := (b, .inr (10, [.ref (b + 1), .int 0])) :: [(b + 1, zI (ca 0) 768)]
set_option maxHeartbeats 4000000 in
set_option maxRecDepth 100000 in
theorem ok_X10 (l : Launch) (D : va_G) (ca : Nat → ClassId) (b : Nat) : nM l D ca mX10_init yX10_init [] b (.inr (10, bX10)) 1 (wX10 ca b) := by
  refine nM_of (by decide) rfl rfl rfl (Nat.le_of_ble_eq_true rfl) ?_
  intro p e s m args below meth c ls C hin hl hP
  have hb : c.code = cX10_init := C.2.1
  have hS : nS b s.heap s.heap [] := va_S.rf
  have hl : lv_has ls 1 [(0, .ref b)] := hl
  have hP : nP D b 1 [(b, .inr (10, [.null, .int 0]))] s.heap := hP
  refine lv_aload_n C.1 hb dX10_init_0 rfl (lv_at hl 0 rfl) ?_
  refine nw_obj C (pc' := 4) oi_X10 oi_i oi_c hl.1 dX10_init_1 (Nat.le_of_ble_eq_true rfl) (Nat.le_of_ble_eq_true rfl) rfl ?_
  refine lv_aload_n C.1 hb dX10_init_4 rfl (lv_at hl 0 rfl) ?_
  refine lv_sipush (v := 768) C.1 hb dX10_init_5 (by decide) ?_
  refine nw_newa C (atype := .int) (t := 0) (N := 768) (a0 := (768, .inl (fun _ => 0))) (ty := .int) (pc' := 10) rfl ar_int rfl (fun h => h) (fun _ => rfl) (by decide) (by decide) (Nat.le_of_ble_eq_true rfl) (Nat.le_of_ble_eq_true rfl) (Nat.le_of_ble_eq_true rfl) hP hS dX10_init_8 rfl (fun H hP hS => ?_)
  have hP : nP D b 2 ((b, .inr (10, [.null, .int 0])) :: [(b + 1, zI (ca 0) 768)]) H := hP
  refine nw_putF C hin (pc' := 13) fg_X10_9 rfl rfl rfl (ty := .array .int) (by decide +kernel) rfl rfl (Nat.le_of_ble_eq_true rfl) hP hS dX10_init_10 rfl (fun H locs hP hS => ?_)
  have hP : nP D b 2 ((b, .inr (10, [.ref (b + 1), .int 0])) :: [(b + 1, zI (ca 0) 768)]) H := hP
  exact nw_ret C rfl (k := 1) hP hS dX10_init_13
abbrev mX5_init : Mt := (cX5_init, 1, none, RX5, ({ frames := 1, cells := 2, slots := 512, locals := 20 } : Room))
set_option maxRecDepth 20000 in
theorem kc_X5 : Cond.code yX5_init mX5_init.1 mX5_init.2.1 none ∈ gT := gS1 50 rfl rfl
set_option maxRecDepth 20000 in
theorem kn_X5 : yX5_init.cls ≠ "java/lang/invoke/MethodHandle" ∧ yX5_init.cls ≠ "java/lang/invoke/VarHandle" := ⟨by decide +kernel, by decide +kernel⟩
set_option maxRecDepth 20000 in
theorem kp_X5 : (parseMethodDescriptor yX5_init.desc).map (fun d => d.parameters.length) = some 0 := by decide +kernel
set_option maxRecDepth 20000 in
theorem ki_X5 : Cond.instanceMethod yX5_init ∈ gT := gS1 49 rfl rfl
set_option maxRecDepth 20000 in
theorem lk_X11_i18 : zLk RX11 18 yX5_init := Or.inr ⟨"RawPictures", gS1 48 rfl rfl⟩
def wX5 (ca : Nat → ClassId) (b : Nat) : va_W := (b, .inr (5, [.int (Int32.ofInt (4)), .int (Int32.ofInt (4)), .int 0, .ref (b + 1), .ref (b + 2)])) :: [(b + 1, zI (ca 0) 256), (b + 2, zI (ca 0) 256)]
set_option maxHeartbeats 4000000 in
set_option maxRecDepth 100000 in
theorem ok_X5 (l : Launch) (D : va_G) (ca : Nat → ClassId) (b : Nat) : nM l D ca mX5_init yX5_init [] b (.inr (5, bX5)) 2 (wX5 ca b) := by
  refine nM_of (by decide) rfl rfl rfl (Nat.le_of_ble_eq_true rfl) ?_
  intro p e s m args below meth c ls C hin hl hP
  have hb : c.code = cX5_init := C.2.1
  have hS : nS b s.heap s.heap [] := va_S.rf
  have hl : lv_has ls 1 [(0, .ref b)] := hl
  have hP : nP D b 1 [(b, .inr (5, [.int 0, .int 0, .int 0, .null, .null]))] s.heap := hP
  refine lv_aload_n C.1 hb dX5_init_0 rfl (lv_at hl 0 rfl) ?_
  refine nw_obj C (pc' := 4) oi_X5 oi_i oi_c hl.1 dX5_init_1 (Nat.le_of_ble_eq_true rfl) (Nat.le_of_ble_eq_true rfl) rfl ?_
  refine lv_aload_n C.1 hb dX5_init_4 rfl (lv_at hl 0 rfl) ?_
  refine lv_iconst (v := Int32.ofInt (4)) C.1 hb dX5_init_5 rfl ?_
  refine nw_put C (pc' := 9) fp_X5_9 rfl rfl (Nat.le_of_ble_eq_true rfl) hP hS dX5_init_6 rfl (fun H locs hP hS => ?_)
  have hP : nP D b 1 ((b, .inr (5, [.int (Int32.ofInt (4)), .int 0, .int 0, .null, .null])) :: []) H := hP
  refine lv_aload_n C.1 hb dX5_init_9 rfl (lv_at hl 0 rfl) ?_
  refine lv_iconst (v := Int32.ofInt (4)) C.1 hb dX5_init_10 rfl ?_
  refine nw_put C (pc' := 14) fp_X5_15 rfl rfl (Nat.le_of_ble_eq_true rfl) hP hS dX5_init_11 rfl (fun H locs hP hS => ?_)
  have hP : nP D b 1 ((b, .inr (5, [.int (Int32.ofInt (4)), .int (Int32.ofInt (4)), .int 0, .null, .null])) :: []) H := hP
  refine lv_aload_n C.1 hb dX5_init_14 rfl (lv_at hl 0 rfl) ?_
  refine lv_sipush (v := 256) C.1 hb dX5_init_15 (by decide) ?_
  refine nw_newa C (atype := .int) (t := 0) (N := 256) (a0 := (256, .inl (fun _ => 0))) (ty := .int) (pc' := 20) rfl ar_int rfl (fun h => h) (fun _ => rfl) (by decide) (by decide) (Nat.le_of_ble_eq_true rfl) (Nat.le_of_ble_eq_true rfl) (Nat.le_of_ble_eq_true rfl) hP hS dX5_init_18 rfl (fun H hP hS => ?_)
  have hP : nP D b 2 ((b, .inr (5, [.int (Int32.ofInt (4)), .int (Int32.ofInt (4)), .int 0, .null, .null])) :: [(b + 1, zI (ca 0) 256)]) H := hP
  refine nw_putF C hin (pc' := 23) fg_X5_18 rfl rfl rfl (ty := .array .int) (by decide +kernel) rfl rfl (Nat.le_of_ble_eq_true rfl) hP hS dX5_init_20 rfl (fun H locs hP hS => ?_)
  have hP : nP D b 2 ((b, .inr (5, [.int (Int32.ofInt (4)), .int (Int32.ofInt (4)), .int 0, .ref (b + 1), .null])) :: [(b + 1, zI (ca 0) 256)]) H := hP
  refine lv_aload_n C.1 hb dX5_init_23 rfl (lv_at hl 0 rfl) ?_
  refine lv_sipush (v := 256) C.1 hb dX5_init_24 (by decide) ?_
  refine nw_newa C (atype := .int) (t := 0) (N := 256) (a0 := (256, .inl (fun _ => 0))) (ty := .int) (pc' := 29) rfl ar_int rfl (fun h => h) (fun _ => rfl) (by decide) (by decide) (Nat.le_of_ble_eq_true rfl) (Nat.le_of_ble_eq_true rfl) (Nat.le_of_ble_eq_true rfl) hP hS dX5_init_27 rfl (fun H hP hS => ?_)
  have hP : nP D b 3 ((b, .inr (5, [.int (Int32.ofInt (4)), .int (Int32.ofInt (4)), .int 0, .ref (b + 1), .null])) :: [(b + 1, zI (ca 0) 256), (b + 2, zI (ca 0) 256)]) H := hP
  refine nw_putF C hin (pc' := 32) fg_X5_22 rfl rfl rfl (ty := .array .int) (by decide +kernel) rfl rfl (Nat.le_of_ble_eq_true rfl) hP hS dX5_init_29 rfl (fun H locs hP hS => ?_)
  have hP : nP D b 3 ((b, .inr (5, [.int (Int32.ofInt (4)), .int (Int32.ofInt (4)), .int 0, .ref (b + 1), .ref (b + 2)])) :: [(b + 1, zI (ca 0) 256), (b + 2, zI (ca 0) 256)]) H := hP
  exact nw_ret C rfl (k := 2) hP hS dX5_init_32
abbrev mX7_init : Mt := (cX7_init, 1, none, RX7, ({ frames := 1, cells := 3, slots := 92, locals := 20 } : Room))
set_option maxRecDepth 20000 in
theorem kc_X7 : Cond.code yX7_init mX7_init.1 mX7_init.2.1 none ∈ gT := gS1 106 rfl rfl
set_option maxRecDepth 20000 in
theorem kn_X7 : yX7_init.cls ≠ "java/lang/invoke/MethodHandle" ∧ yX7_init.cls ≠ "java/lang/invoke/VarHandle" := ⟨by decide +kernel, by decide +kernel⟩
set_option maxRecDepth 20000 in
theorem kp_X7 : (parseMethodDescriptor yX7_init.desc).map (fun d => d.parameters.length) = some 0 := by decide +kernel
set_option maxRecDepth 20000 in
theorem ki_X7 : Cond.instanceMethod yX7_init ∈ gT := gS1 105 rfl rfl
set_option maxRecDepth 20000 in
theorem lk_X11_i32 : zLk RX11 32 yX7_init := Or.inr ⟨"RawPictures", gS1 104 rfl rfl⟩
set_option maxRecDepth 20000 in
theorem lk_X6_i11 : zLk RX6 11 yX7_init := Or.inr ⟨"RawPictures", gS1 136 rfl rfl⟩
def wX7 (ca : Nat → ClassId) (b : Nat) : va_W := (b, .inr (7, [.int 0, .int 0, .ref (b + 1), .ref (b + 2), .ref (b + 3)])) :: [(b + 1, zI (ca 0) 14), (b + 2, zI (ca 0) 14), (b + 3, zI (ca 0) 64)]
set_option maxHeartbeats 4000000 in
set_option maxRecDepth 100000 in
theorem ok_X7 (l : Launch) (D : va_G) (ca : Nat → ClassId) (b : Nat) : nM l D ca mX7_init yX7_init [] b (.inr (7, bX7)) 3 (wX7 ca b) := by
  refine nM_of (by decide) rfl rfl rfl (Nat.le_of_ble_eq_true rfl) ?_
  intro p e s m args below meth c ls C hin hl hP
  have hb : c.code = cX7_init := C.2.1
  have hS : nS b s.heap s.heap [] := va_S.rf
  have hl : lv_has ls 1 [(0, .ref b)] := hl
  have hP : nP D b 1 [(b, .inr (7, [.int 0, .int 0, .null, .null, .null]))] s.heap := hP
  refine lv_aload_n C.1 hb dX7_init_0 rfl (lv_at hl 0 rfl) ?_
  refine nw_obj C (pc' := 4) oi_X7 oi_i oi_c hl.1 dX7_init_1 (Nat.le_of_ble_eq_true rfl) (Nat.le_of_ble_eq_true rfl) rfl ?_
  refine lv_aload_n C.1 hb dX7_init_4 rfl (lv_at hl 0 rfl) ?_
  refine lv_bipush (v := 14) C.1 hb dX7_init_5 (by decide) ?_
  refine nw_newa C (atype := .int) (t := 0) (N := 14) (a0 := (14, .inl (fun _ => 0))) (ty := .int) (pc' := 9) rfl ar_int rfl (fun h => h) (fun _ => rfl) (by decide) (by decide) (Nat.le_of_ble_eq_true rfl) (Nat.le_of_ble_eq_true rfl) (Nat.le_of_ble_eq_true rfl) hP hS dX7_init_7 rfl (fun H hP hS => ?_)
  have hP : nP D b 2 ((b, .inr (7, [.int 0, .int 0, .null, .null, .null])) :: [(b + 1, zI (ca 0) 14)]) H := hP
  refine nw_putF C hin (pc' := 12) fg_X7_9 rfl rfl rfl (ty := .array .int) (by decide +kernel) rfl rfl (Nat.le_of_ble_eq_true rfl) hP hS dX7_init_9 rfl (fun H locs hP hS => ?_)
  have hP : nP D b 2 ((b, .inr (7, [.int 0, .int 0, .ref (b + 1), .null, .null])) :: [(b + 1, zI (ca 0) 14)]) H := hP
  refine lv_aload_n C.1 hb dX7_init_12 rfl (lv_at hl 0 rfl) ?_
  refine lv_bipush (v := 14) C.1 hb dX7_init_13 (by decide) ?_
  refine nw_newa C (atype := .int) (t := 0) (N := 14) (a0 := (14, .inl (fun _ => 0))) (ty := .int) (pc' := 17) rfl ar_int rfl (fun h => h) (fun _ => rfl) (by decide) (by decide) (Nat.le_of_ble_eq_true rfl) (Nat.le_of_ble_eq_true rfl) (Nat.le_of_ble_eq_true rfl) hP hS dX7_init_15 rfl (fun H hP hS => ?_)
  have hP : nP D b 3 ((b, .inr (7, [.int 0, .int 0, .ref (b + 1), .null, .null])) :: [(b + 1, zI (ca 0) 14), (b + 2, zI (ca 0) 14)]) H := hP
  refine nw_putF C hin (pc' := 20) fg_X7_15 rfl rfl rfl (ty := .array .int) (by decide +kernel) rfl rfl (Nat.le_of_ble_eq_true rfl) hP hS dX7_init_17 rfl (fun H locs hP hS => ?_)
  have hP : nP D b 3 ((b, .inr (7, [.int 0, .int 0, .ref (b + 1), .ref (b + 2), .null])) :: [(b + 1, zI (ca 0) 14), (b + 2, zI (ca 0) 14)]) H := hP
  refine lv_aload_n C.1 hb dX7_init_20 rfl (lv_at hl 0 rfl) ?_
  refine lv_bipush (v := 64) C.1 hb dX7_init_21 (by decide) ?_
  refine nw_newa C (atype := .int) (t := 0) (N := 64) (a0 := (64, .inl (fun _ => 0))) (ty := .int) (pc' := 25) rfl ar_int rfl (fun h => h) (fun _ => rfl) (by decide) (by decide) (Nat.le_of_ble_eq_true rfl) (Nat.le_of_ble_eq_true rfl) (Nat.le_of_ble_eq_true rfl) hP hS dX7_init_23 rfl (fun H hP hS => ?_)
  have hP : nP D b 4 ((b, .inr (7, [.int 0, .int 0, .ref (b + 1), .ref (b + 2), .null])) :: [(b + 1, zI (ca 0) 14), (b + 2, zI (ca 0) 14), (b + 3, zI (ca 0) 64)]) H := hP
  refine nw_putF C hin (pc' := 28) fg_X7_18 rfl rfl rfl (ty := .array .int) (by decide +kernel) rfl rfl (Nat.le_of_ble_eq_true rfl) hP hS dX7_init_25 rfl (fun H locs hP hS => ?_)
  have hP : nP D b 4 ((b, .inr (7, [.int 0, .int 0, .ref (b + 1), .ref (b + 2), .ref (b + 3)])) :: [(b + 1, zI (ca 0) 14), (b + 2, zI (ca 0) 14), (b + 3, zI (ca 0) 64)]) H := hP
  exact nw_ret C rfl (k := 3) hP hS dX7_init_28
abbrev mX2_init : Mt := (cX2_init, 2, none, RX2, ({ frames := 1, cells := 0, slots := 0, locals := 20 } : Room))
set_option maxRecDepth 20000 in
theorem kc_X2 : Cond.code yX2_init mX2_init.1 mX2_init.2.1 none ∈ gT := gS1 183 rfl rfl
set_option maxRecDepth 20000 in
theorem kn_X2 : yX2_init.cls ≠ "java/lang/invoke/MethodHandle" ∧ yX2_init.cls ≠ "java/lang/invoke/VarHandle" := ⟨by decide +kernel, by decide +kernel⟩
set_option maxRecDepth 20000 in
theorem kp_X2 : (parseMethodDescriptor yX2_init.desc).map (fun d => d.parameters.length) = some 1 := by decide +kernel
set_option maxRecDepth 20000 in
theorem ki_X2 : Cond.instanceMethod yX2_init ∈ gT := gS1 182 rfl rfl
set_option maxRecDepth 20000 in
theorem lk_X1_i39 : zLk RX1 39 yX2_init := Or.inl (gS1 181 rfl rfl)
def wX2 (ca : Nat → ClassId) (b : Nat) (a1 : Nat) : va_W := (b, .inr (2, [.ref a1])) :: []
set_option maxHeartbeats 4000000 in
set_option maxRecDepth 100000 in
theorem ok_X2 (l : Launch) (D : va_G) (ca : Nat → ClassId) (b : Nat) (a1 : Nat) : nM l D ca mX2_init yX2_init [.ref a1] b (.inr (2, bX2)) 0 (wX2 ca b a1) := by
  refine nM_of (by decide) rfl rfl rfl (Nat.le_of_ble_eq_true rfl) ?_
  intro p e s m args below meth c ls C hin hl hP
  have hb : c.code = cX2_init := C.2.1
  have hS : nS b s.heap s.heap [] := va_S.rf
  have hl : lv_has ls 2 [(0, .ref b), (1, .ref a1)] := hl
  have hP : nP D b 1 [(b, .inr (2, [.null]))] s.heap := hP
  refine lv_aload_n C.1 hb dX2_init_0 rfl (lv_at hl 0 rfl) ?_
  refine nw_obj C (pc' := 4) oi_X2 oi_i oi_c hl.1 dX2_init_1 (Nat.le_of_ble_eq_true rfl) (Nat.le_of_ble_eq_true rfl) rfl ?_
  refine lv_aload_n C.1 hb dX2_init_4 rfl (lv_at hl 0 rfl) ?_
  refine lv_aload_n C.1 hb dX2_init_5 rfl (lv_at hl 1 rfl) ?_
  refine nw_putF C hin (pc' := 9) fg_X2_9 rfl rfl rfl (ty := .object "RawPictures$Mosaic") (by decide +kernel) rfl rfl (Nat.le_of_ble_eq_true rfl) hP hS dX2_init_6 rfl (fun H locs hP hS => ?_)
  have hP : nP D b 1 ((b, .inr (2, [.ref a1])) :: []) H := hP
  exact nw_ret C rfl (k := 0) hP hS dX2_init_9
abbrev mX3_init : Mt := (cX3_init, 2, none, RX3, ({ frames := 1, cells := 7, slots := 1293, locals := 20 } : Room))
set_option maxRecDepth 20000 in
theorem kc_X3 : Cond.code yX3_init mX3_init.1 mX3_init.2.1 none ∈ gT := gS1 193 rfl rfl
set_option maxRecDepth 20000 in
theorem kn_X3 : yX3_init.cls ≠ "java/lang/invoke/MethodHandle" ∧ yX3_init.cls ≠ "java/lang/invoke/VarHandle" := ⟨by decide +kernel, by decide +kernel⟩
set_option maxRecDepth 20000 in
theorem kp_X3 : (parseMethodDescriptor yX3_init.desc).map (fun d => d.parameters.length) = some 1 := by decide +kernel
set_option maxRecDepth 20000 in
theorem ki_X3 : Cond.instanceMethod yX3_init ∈ gT := gS1 192 rfl rfl
set_option maxRecDepth 20000 in
theorem lk_X1_i48 : zLk RX1 48 yX3_init := Or.inl (gS1 191 rfl rfl)
def wX3 (ca : Nat → ClassId) (b : Nat) (a1 : Nat) : va_W := (b, .inr (3, [.int 0, .int 0, .int 0, .ref (b + 1), .ref (b + 2), .ref (b + 7), .ref a1])) :: (([(b + 1, zI (ca 0) 256)] ++ w5 ca (b + 2)) ++ [(b + 7, zI (ca 0) 9)])
set_option maxHeartbeats 4000000 in
set_option maxRecDepth 100000 in
theorem ok_X3 (l : Launch) (D : va_G) (ca : Nat → ClassId) (b : Nat) (a1 : Nat) : nM l D ca mX3_init yX3_init [.ref a1] b (.inr (3, bX3)) 7 (wX3 ca b a1) := by
  refine nM_of (by decide) rfl rfl rfl (Nat.le_of_ble_eq_true rfl) ?_
  intro p e s m args below meth c ls C hin hl hP
  have hb : c.code = cX3_init := C.2.1
  have hS : nS b s.heap s.heap [] := va_S.rf
  have hl : lv_has ls 2 [(0, .ref b), (1, .ref a1)] := hl
  have hP : nP D b 1 [(b, .inr (3, [.int 0, .int 0, .int 0, .null, .null, .null, .null]))] s.heap := hP
  refine lv_aload_n C.1 hb dX3_init_0 rfl (lv_at hl 0 rfl) ?_
  refine nw_obj C (pc' := 4) oi_X3 oi_i oi_c hl.1 dX3_init_1 (Nat.le_of_ble_eq_true rfl) (Nat.le_of_ble_eq_true rfl) rfl ?_
  refine lv_aload_n C.1 hb dX3_init_4 rfl (lv_at hl 0 rfl) ?_
  refine lv_sipush (v := 256) C.1 hb dX3_init_5 (by decide) ?_
  refine nw_newa C (atype := .int) (t := 0) (N := 256) (a0 := (256, .inl (fun _ => 0))) (ty := .int) (pc' := 10) rfl ar_int rfl (fun h => h) (fun _ => rfl) (by decide) (by decide) (Nat.le_of_ble_eq_true rfl) (Nat.le_of_ble_eq_true rfl) (Nat.le_of_ble_eq_true rfl) hP hS dX3_init_8 rfl (fun H hP hS => ?_)
  have hP : nP D b 2 ((b, .inr (3, [.int 0, .int 0, .int 0, .null, .null, .null, .null])) :: [(b + 1, zI (ca 0) 256)]) H := hP
  refine nw_putF C hin (pc' := 13) fg_X3_9 rfl rfl rfl (ty := .array .int) (by decide +kernel) rfl rfl (Nat.le_of_ble_eq_true rfl) hP hS dX3_init_10 rfl (fun H locs hP hS => ?_)
  have hP : nP D b 2 ((b, .inr (3, [.int 0, .int 0, .int 0, .ref (b + 1), .null, .null, .null])) :: [(b + 1, zI (ca 0) 256)]) H := hP
  refine lv_aload_n C.1 hb dX3_init_13 rfl (lv_at hl 0 rfl) ?_
  refine lv_iconst (v := Int32.ofInt (4)) C.1 hb dX3_init_14 rfl ?_
  refine lv_sipush (v := 256) C.1 hb dX3_init_15 (by decide) ?_
  refine nw_multi C (pc' := 22) cl_X3_15 (Nat.le_of_ble_eq_true rfl) (Nat.le_of_ble_eq_true rfl) hP hS dX3_init_18 rfl (fun H locs hP hS => ?_)
  have hP : nP D b 7 ((b, .inr (3, [.int 0, .int 0, .int 0, .ref (b + 1), .null, .null, .null])) :: ([(b + 1, zI (ca 0) 256)] ++ w5 ca (b + 2))) H := hP
  refine nw_putF C hin (pc' := 25) fg_X3_17 rfl rfl rfl (ty := .array (.array .int)) (by decide +kernel) rfl rfl (Nat.le_of_ble_eq_true rfl) hP hS dX3_init_22 rfl (fun H locs hP hS => ?_)
  have hP : nP D b 7 ((b, .inr (3, [.int 0, .int 0, .int 0, .ref (b + 1), .ref (b + 2), .null, .null])) :: ([(b + 1, zI (ca 0) 256)] ++ w5 ca (b + 2))) H := hP
  refine lv_aload_n C.1 hb dX3_init_25 rfl (lv_at hl 0 rfl) ?_
  refine lv_bipush (v := 9) C.1 hb dX3_init_26 (by decide) ?_
  refine nw_newa C (atype := .int) (t := 0) (N := 9) (a0 := (9, .inl (fun _ => 0))) (ty := .int) (pc' := 30) rfl ar_int rfl (fun h => h) (fun _ => rfl) (by decide) (by decide) (Nat.le_of_ble_eq_true rfl) (Nat.le_of_ble_eq_true rfl) (Nat.le_of_ble_eq_true rfl) hP hS dX3_init_28 rfl (fun H hP hS => ?_)
  have hP : nP D b 8 ((b, .inr (3, [.int 0, .int 0, .int 0, .ref (b + 1), .ref (b + 2), .null, .null])) :: (([(b + 1, zI (ca 0) 256)] ++ w5 ca (b + 2)) ++ [(b + 7, zI (ca 0) 9)])) H := hP
  refine nw_putF C hin (pc' := 33) fg_X3_20 rfl rfl rfl (ty := .array .int) (by decide +kernel) rfl rfl (Nat.le_of_ble_eq_true rfl) hP hS dX3_init_30 rfl (fun H locs hP hS => ?_)
  have hP : nP D b 8 ((b, .inr (3, [.int 0, .int 0, .int 0, .ref (b + 1), .ref (b + 2), .ref (b + 7), .null])) :: (([(b + 1, zI (ca 0) 256)] ++ w5 ca (b + 2)) ++ [(b + 7, zI (ca 0) 9)])) H := hP
  refine lv_aload_n C.1 hb dX3_init_33 rfl (lv_at hl 0 rfl) ?_
  refine lv_aload_n C.1 hb dX3_init_34 rfl (lv_at hl 1 rfl) ?_
  refine nw_putF C hin (pc' := 38) fg_X3_23 rfl rfl rfl (ty := .object "RawPictures$Mosaic") (by decide +kernel) rfl rfl (Nat.le_of_ble_eq_true rfl) hP hS dX3_init_35 rfl (fun H locs hP hS => ?_)
  have hP : nP D b 8 ((b, .inr (3, [.int 0, .int 0, .int 0, .ref (b + 1), .ref (b + 2), .ref (b + 7), .ref a1])) :: (([(b + 1, zI (ca 0) 256)] ++ w5 ca (b + 2)) ++ [(b + 7, zI (ca 0) 9)])) H := hP
  exact nw_ret C rfl (k := 7) hP hS dX3_init_38
abbrev mX4_init : Mt := (cX4_init, 2, none, RX4, ({ frames := 1, cells := 2, slots := 320, locals := 20 } : Room))
set_option maxRecDepth 20000 in
theorem kc_X4 : Cond.code yX4_init mX4_init.1 mX4_init.2.1 none ∈ gT := gS2 16 rfl rfl
set_option maxRecDepth 20000 in
theorem kn_X4 : yX4_init.cls ≠ "java/lang/invoke/MethodHandle" ∧ yX4_init.cls ≠ "java/lang/invoke/VarHandle" := ⟨by decide +kernel, by decide +kernel⟩
set_option maxRecDepth 20000 in
theorem kp_X4 : (parseMethodDescriptor yX4_init.desc).map (fun d => d.parameters.length) = some 1 := by decide +kernel
set_option maxRecDepth 20000 in
theorem ki_X4 : Cond.instanceMethod yX4_init ∈ gT := gS2 15 rfl rfl
set_option maxRecDepth 20000 in
theorem lk_X11_i57 : zLk RX11 57 yX4_init := Or.inl (gS2 14 rfl rfl)
def wX4 (ca : Nat → ClassId) (b : Nat) (a1 : Nat) : va_W := (b, .inr (4, [.int 0, .int 0, .int 0, .int 0, .long 0, .long 0, .long 0, .int 0, .int 0, .ref (b + 1), .ref (b + 2), .ref a1])) :: [(b + 1, zI (ca 0) 256), (b + 2, zJ (ca 3) 64)]
set_option maxHeartbeats 4000000 in
set_option maxRecDepth 100000 in
theorem ok_X4 (l : Launch) (D : va_G) (ca : Nat → ClassId) (b : Nat) (a1 : Nat) : nM l D ca mX4_init yX4_init [.ref a1] b (.inr (4, bX4)) 2 (wX4 ca b a1) := by
  refine nM_of (by decide) rfl rfl rfl (Nat.le_of_ble_eq_true rfl) ?_
  intro p e s m args below meth c ls C hin hl hP
  have hb : c.code = cX4_init := C.2.1
  have hS : nS b s.heap s.heap [] := va_S.rf
  have hl : lv_has ls 2 [(0, .ref b), (1, .ref a1)] := hl
  have hP : nP D b 1 [(b, .inr (4, [.int 0, .int 0, .int 0, .int 0, .long 0, .long 0, .long 0, .int 0, .int 0, .null, .null, .null]))] s.heap := hP
  refine lv_aload_n C.1 hb dX4_init_0 rfl (lv_at hl 0 rfl) ?_
  refine nw_obj C (pc' := 4) oi_X4 oi_i oi_c hl.1 dX4_init_1 (Nat.le_of_ble_eq_true rfl) (Nat.le_of_ble_eq_true rfl) rfl ?_
  refine lv_aload_n C.1 hb dX4_init_4 rfl (lv_at hl 0 rfl) ?_
  refine lv_sipush (v := 256) C.1 hb dX4_init_5 (by decide) ?_
  refine nw_newa C (atype := .int) (t := 0) (N := 256) (a0 := (256, .inl (fun _ => 0))) (ty := .int) (pc' := 10) rfl ar_int rfl (fun h => h) (fun _ => rfl) (by decide) (by decide) (Nat.le_of_ble_eq_true rfl) (Nat.le_of_ble_eq_true rfl) (Nat.le_of_ble_eq_true rfl) hP hS dX4_init_8 rfl (fun H hP hS => ?_)
  have hP : nP D b 2 ((b, .inr (4, [.int 0, .int 0, .int 0, .int 0, .long 0, .long 0, .long 0, .int 0, .int 0, .null, .null, .null])) :: [(b + 1, zI (ca 0) 256)]) H := hP
  refine nw_putF C hin (pc' := 13) fg_X4_9 rfl rfl rfl (ty := .array .int) (by decide +kernel) rfl rfl (Nat.le_of_ble_eq_true rfl) hP hS dX4_init_10 rfl (fun H locs hP hS => ?_)
  have hP : nP D b 2 ((b, .inr (4, [.int 0, .int 0, .int 0, .int 0, .long 0, .long 0, .long 0, .int 0, .int 0, .ref (b + 1), .null, .null])) :: [(b + 1, zI (ca 0) 256)]) H := hP
  refine lv_aload_n C.1 hb dX4_init_13 rfl (lv_at hl 0 rfl) ?_
  refine lv_bipush (v := 64) C.1 hb dX4_init_14 (by decide) ?_
  refine nw_newa C (atype := .long) (t := 3) (N := 64) (a0 := (64, .inr (.inl (fun _ => 0)))) (ty := .long) (pc' := 18) rfl ar_long rfl (fun h => h) (fun _ => rfl) (by decide) (by decide) (Nat.le_of_ble_eq_true rfl) (Nat.le_of_ble_eq_true rfl) (Nat.le_of_ble_eq_true rfl) hP hS dX4_init_16 rfl (fun H hP hS => ?_)
  have hP : nP D b 3 ((b, .inr (4, [.int 0, .int 0, .int 0, .int 0, .long 0, .long 0, .long 0, .int 0, .int 0, .ref (b + 1), .null, .null])) :: [(b + 1, zI (ca 0) 256), (b + 2, zJ (ca 3) 64)]) H := hP
  refine nw_putF C hin (pc' := 21) fg_X4_15 rfl rfl rfl (ty := .array .long) (by decide +kernel) rfl rfl (Nat.le_of_ble_eq_true rfl) hP hS dX4_init_18 rfl (fun H locs hP hS => ?_)
  have hP : nP D b 3 ((b, .inr (4, [.int 0, .int 0, .int 0, .int 0, .long 0, .long 0, .long 0, .int 0, .int 0, .ref (b + 1), .ref (b + 2), .null])) :: [(b + 1, zI (ca 0) 256), (b + 2, zJ (ca 3) 64)]) H := hP
  refine lv_aload_n C.1 hb dX4_init_21 rfl (lv_at hl 0 rfl) ?_
  refine lv_aload_n C.1 hb dX4_init_22 rfl (lv_at hl 1 rfl) ?_
  refine nw_putF C hin (pc' := 26) fg_X4_19 rfl rfl rfl (ty := .object "RawPictures$Mosaic") (by decide +kernel) rfl rfl (Nat.le_of_ble_eq_true rfl) hP hS dX4_init_23 rfl (fun H locs hP hS => ?_)
  have hP : nP D b 3 ((b, .inr (4, [.int 0, .int 0, .int 0, .int 0, .long 0, .long 0, .long 0, .int 0, .int 0, .ref (b + 1), .ref (b + 2), .ref a1])) :: [(b + 1, zI (ca 0) 256), (b + 2, zJ (ca 3) 64)]) H := hP
  exact nw_ret C rfl (k := 2) hP hS dX4_init_26
abbrev mX0_init : Mt := (cX0_init, 2, none, RX0, ({ frames := 1, cells := 3, slots := 768, locals := 20 } : Room))
set_option maxRecDepth 20000 in
theorem kc_X0 : Cond.code yX0_init mX0_init.1 mX0_init.2.1 none ∈ gT := gS2 69 rfl rfl
set_option maxRecDepth 20000 in
theorem kn_X0 : yX0_init.cls ≠ "java/lang/invoke/MethodHandle" ∧ yX0_init.cls ≠ "java/lang/invoke/VarHandle" := ⟨by decide +kernel, by decide +kernel⟩
set_option maxRecDepth 20000 in
theorem kp_X0 : (parseMethodDescriptor yX0_init.desc).map (fun d => d.parameters.length) = some 1 := by decide +kernel
set_option maxRecDepth 20000 in
theorem ki_X0 : Cond.instanceMethod yX0_init ∈ gT := gS2 68 rfl rfl
set_option maxRecDepth 20000 in
theorem lk_X11_i66 : zLk RX11 66 yX0_init := Or.inl (gS2 67 rfl rfl)
def wX0 (ca : Nat → ClassId) (b : Nat) (a1 : Nat) : va_W := (b, .inr (0, [.int 0, .int 0, .int 0, .ref (b + 1), .ref (b + 2), .ref (b + 3), .int 0, .ref a1])) :: [(b + 1, zI (ca 0) 256), (b + 2, zI (ca 0) 256), (b + 3, zI (ca 0) 256)]
set_option maxHeartbeats 4000000 in
set_option maxRecDepth 100000 in
theorem ok_X0 (l : Launch) (D : va_G) (ca : Nat → ClassId) (b : Nat) (a1 : Nat) : nM l D ca mX0_init yX0_init [.ref a1] b (.inr (0, bX0)) 3 (wX0 ca b a1) := by
  refine nM_of (by decide) rfl rfl rfl (Nat.le_of_ble_eq_true rfl) ?_
  intro p e s m args below meth c ls C hin hl hP
  have hb : c.code = cX0_init := C.2.1
  have hS : nS b s.heap s.heap [] := va_S.rf
  have hl : lv_has ls 2 [(0, .ref b), (1, .ref a1)] := hl
  have hP : nP D b 1 [(b, .inr (0, [.int 0, .int 0, .int 0, .null, .null, .null, .int 0, .null]))] s.heap := hP
  refine lv_aload_n C.1 hb dX0_init_0 rfl (lv_at hl 0 rfl) ?_
  refine nw_obj C (pc' := 4) oi_X0 oi_i oi_c hl.1 dX0_init_1 (Nat.le_of_ble_eq_true rfl) (Nat.le_of_ble_eq_true rfl) rfl ?_
  refine lv_aload_n C.1 hb dX0_init_4 rfl (lv_at hl 0 rfl) ?_
  refine lv_sipush (v := 256) C.1 hb dX0_init_5 (by decide) ?_
  refine nw_newa C (atype := .int) (t := 0) (N := 256) (a0 := (256, .inl (fun _ => 0))) (ty := .int) (pc' := 10) rfl ar_int rfl (fun h => h) (fun _ => rfl) (by decide) (by decide) (Nat.le_of_ble_eq_true rfl) (Nat.le_of_ble_eq_true rfl) (Nat.le_of_ble_eq_true rfl) hP hS dX0_init_8 rfl (fun H hP hS => ?_)
  have hP : nP D b 2 ((b, .inr (0, [.int 0, .int 0, .int 0, .null, .null, .null, .int 0, .null])) :: [(b + 1, zI (ca 0) 256)]) H := hP
  refine nw_putF C hin (pc' := 13) fg_X0_9 rfl rfl rfl (ty := .array .int) (by decide +kernel) rfl rfl (Nat.le_of_ble_eq_true rfl) hP hS dX0_init_10 rfl (fun H locs hP hS => ?_)
  have hP : nP D b 2 ((b, .inr (0, [.int 0, .int 0, .int 0, .ref (b + 1), .null, .null, .int 0, .null])) :: [(b + 1, zI (ca 0) 256)]) H := hP
  refine lv_aload_n C.1 hb dX0_init_13 rfl (lv_at hl 0 rfl) ?_
  refine lv_sipush (v := 256) C.1 hb dX0_init_14 (by decide) ?_
  refine nw_newa C (atype := .int) (t := 0) (N := 256) (a0 := (256, .inl (fun _ => 0))) (ty := .int) (pc' := 19) rfl ar_int rfl (fun h => h) (fun _ => rfl) (by decide) (by decide) (Nat.le_of_ble_eq_true rfl) (Nat.le_of_ble_eq_true rfl) (Nat.le_of_ble_eq_true rfl) hP hS dX0_init_17 rfl (fun H hP hS => ?_)
  have hP : nP D b 3 ((b, .inr (0, [.int 0, .int 0, .int 0, .ref (b + 1), .null, .null, .int 0, .null])) :: [(b + 1, zI (ca 0) 256), (b + 2, zI (ca 0) 256)]) H := hP
  refine nw_putF C hin (pc' := 22) fg_X0_15 rfl rfl rfl (ty := .array .int) (by decide +kernel) rfl rfl (Nat.le_of_ble_eq_true rfl) hP hS dX0_init_19 rfl (fun H locs hP hS => ?_)
  have hP : nP D b 3 ((b, .inr (0, [.int 0, .int 0, .int 0, .ref (b + 1), .ref (b + 2), .null, .int 0, .null])) :: [(b + 1, zI (ca 0) 256), (b + 2, zI (ca 0) 256)]) H := hP
  refine lv_aload_n C.1 hb dX0_init_22 rfl (lv_at hl 0 rfl) ?_
  refine lv_sipush (v := 256) C.1 hb dX0_init_23 (by decide) ?_
  refine nw_newa C (atype := .int) (t := 0) (N := 256) (a0 := (256, .inl (fun _ => 0))) (ty := .int) (pc' := 28) rfl ar_int rfl (fun h => h) (fun _ => rfl) (by decide) (by decide) (Nat.le_of_ble_eq_true rfl) (Nat.le_of_ble_eq_true rfl) (Nat.le_of_ble_eq_true rfl) hP hS dX0_init_26 rfl (fun H hP hS => ?_)
  have hP : nP D b 4 ((b, .inr (0, [.int 0, .int 0, .int 0, .ref (b + 1), .ref (b + 2), .null, .int 0, .null])) :: [(b + 1, zI (ca 0) 256), (b + 2, zI (ca 0) 256), (b + 3, zI (ca 0) 256)]) H := hP
  refine nw_putF C hin (pc' := 31) fg_X0_18 rfl rfl rfl (ty := .array .int) (by decide +kernel) rfl rfl (Nat.le_of_ble_eq_true rfl) hP hS dX0_init_28 rfl (fun H locs hP hS => ?_)
  have hP : nP D b 4 ((b, .inr (0, [.int 0, .int 0, .int 0, .ref (b + 1), .ref (b + 2), .ref (b + 3), .int 0, .null])) :: [(b + 1, zI (ca 0) 256), (b + 2, zI (ca 0) 256), (b + 3, zI (ca 0) 256)]) H := hP
  refine lv_aload_n C.1 hb dX0_init_31 rfl (lv_at hl 0 rfl) ?_
  refine lv_aload_n C.1 hb dX0_init_32 rfl (lv_at hl 1 rfl) ?_
  refine nw_putF C hin (pc' := 36) fg_X0_21 rfl rfl rfl (ty := .object "RawPictures$Mosaic") (by decide +kernel) rfl rfl (Nat.le_of_ble_eq_true rfl) hP hS dX0_init_33 rfl (fun H locs hP hS => ?_)
  have hP : nP D b 4 ((b, .inr (0, [.int 0, .int 0, .int 0, .ref (b + 1), .ref (b + 2), .ref (b + 3), .int 0, .ref a1])) :: [(b + 1, zI (ca 0) 256), (b + 2, zI (ca 0) 256), (b + 3, zI (ca 0) 256)]) H := hP
  exact nw_ret C rfl (k := 3) hP hS dX0_init_36
abbrev mX6_init : Mt := (cX6_init, 2, none, RX6, ({ frames := 2, cells := 4, slots := 97, locals := 40 } : Room))
set_option maxRecDepth 20000 in
theorem kc_X6 : Cond.code yX6_init mX6_init.1 mX6_init.2.1 none ∈ gT := gS1 133 rfl rfl
set_option maxRecDepth 20000 in
theorem kn_X6 : yX6_init.cls ≠ "java/lang/invoke/MethodHandle" ∧ yX6_init.cls ≠ "java/lang/invoke/VarHandle" := ⟨by decide +kernel, by decide +kernel⟩
set_option maxRecDepth 20000 in
theorem kp_X6 : (parseMethodDescriptor yX6_init.desc).map (fun d => d.parameters.length) = some 1 := by decide +kernel
set_option maxRecDepth 20000 in
theorem ki_X6 : Cond.instanceMethod yX6_init ∈ gT := gS1 132 rfl rfl
set_option maxRecDepth 20000 in
theorem lk_X11_i39 : zLk RX11 39 yX6_init := Or.inl (gS1 131 rfl rfl)
def wX6 (ca : Nat → ClassId) (b : Nat) (a1 : Nat) : va_W := (b, .inr (6, [.ref (b + 1), .ref a1, .int 0, .int 0, .int 0])) :: wX7 ca (b + 1)
set_option maxHeartbeats 4000000 in
set_option maxRecDepth 100000 in
theorem ok_X6 (l : Launch) (D : va_G) (ca : Nat → ClassId) (b : Nat) (a1 : Nat) : nM l D ca mX6_init yX6_init [.ref a1] b (.inr (6, bX6)) 4 (wX6 ca b a1) := by
  refine nM_of (by decide) rfl rfl rfl (Nat.le_of_ble_eq_true rfl) ?_
  intro p e s m args below meth c ls C hin hl hP
  have hb : c.code = cX6_init := C.2.1
  have hS : nS b s.heap s.heap [] := va_S.rf
  have hl : lv_has ls 2 [(0, .ref b), (1, .ref a1)] := hl
  have hP : nP D b 1 [(b, .inr (6, [.null, .null, .int 0, .int 0, .int 0]))] s.heap := hP
  refine lv_aload_n C.1 hb dX6_init_0 rfl (lv_at hl 0 rfl) ?_
  refine nw_obj C (pc' := 4) oi_X6 oi_i oi_c hl.1 dX6_init_1 (Nat.le_of_ble_eq_true rfl) (Nat.le_of_ble_eq_true rfl) rfl ?_
  refine lv_aload_n C.1 hb dX6_init_4 rfl (lv_at hl 0 rfl) ?_
  refine nw_new C (ci := 7) (N := 5) (fs := bX7) (pc' := 8) rfl gw_X7 tyX7 tyX7_ok cl_X6_9 in_X7 ii_X7 bl_X7 rfl (Nat.le_of_ble_eq_true rfl) (Nat.le_of_ble_eq_true rfl) hP hS dX6_init_5 rfl (fun H hP hS => ?_)
  have hP : nP D b 2 (((b, .inr (6, [.null, .null, .int 0, .int 0, .int 0])) :: []) ++ [(b + 1, .inr (7, bX7))]) H := hP
  refine lv_dup C.1 hb dX6_init_8 rfl ?_
  refine nw_call C (pc' := 12) (n := 1) (As := []) kc_X7 ii_X7 kn_X7 kp_X7 ki_X7 rfl lk_X6_i11 ⟨Nat.le_of_ble_eq_true rfl, Nat.le_of_ble_eq_true rfl⟩ (ok_X7 l D ca (b + 1) ) hP hS (Nat.le_of_ble_eq_true rfl) hl.1 rfl dX6_init_9 rfl ⟨Nat.le_of_ble_eq_true rfl, Nat.le_of_ble_eq_true rfl⟩ (fun H locs hP hS => ?_)
  have hP : nP D b 5 ((b, .inr (6, [.null, .null, .int 0, .int 0, .int 0])) :: wX7 ca (b + 1)) H := hP
  refine nw_putF C hin (pc' := 15) fg_X6_12 rfl rfl rfl (ty := .object "RawPictures$Recipe") (by decide +kernel) rfl rfl (Nat.le_of_ble_eq_true rfl) hP hS dX6_init_12 rfl (fun H locs hP hS => ?_)
  have hP : nP D b 5 ((b, .inr (6, [.ref (b + 1), .null, .int 0, .int 0, .int 0])) :: wX7 ca (b + 1)) H := hP
  refine lv_aload_n C.1 hb dX6_init_15 rfl (lv_at hl 0 rfl) ?_
  refine lv_aload_n C.1 hb dX6_init_16 rfl (lv_at hl 1 rfl) ?_
  refine nw_putF C hin (pc' := 20) fg_X6_18 rfl rfl rfl (ty := .object "RawPictures$Tape") (by decide +kernel) rfl rfl (Nat.le_of_ble_eq_true rfl) hP hS dX6_init_17 rfl (fun H locs hP hS => ?_)
  have hP : nP D b 5 ((b, .inr (6, [.ref (b + 1), .ref a1, .int 0, .int 0, .int 0])) :: wX7 ca (b + 1)) H := hP
  exact nw_ret C rfl (k := 4) hP hS dX6_init_20
abbrev mX1_init : Mt := (cX1_init, 4, none, RX1, ({ frames := 2, cells := 40, slots := 12864, locals := 41 } : Room))
set_option maxRecDepth 20000 in
theorem kc_X1 : Cond.code yX1_init mX1_init.1 mX1_init.2.1 none ∈ gT := gS1 158 rfl rfl
set_option maxRecDepth 20000 in
theorem kn_X1 : yX1_init.cls ≠ "java/lang/invoke/MethodHandle" ∧ yX1_init.cls ≠ "java/lang/invoke/VarHandle" := ⟨by decide +kernel, by decide +kernel⟩
set_option maxRecDepth 20000 in
theorem kp_X1 : (parseMethodDescriptor yX1_init.desc).map (fun d => d.parameters.length) = some 2 := by decide +kernel
set_option maxRecDepth 20000 in
theorem ki_X1 : Cond.instanceMethod yX1_init ∈ gT := gS1 157 rfl rfl
set_option maxRecDepth 20000 in
theorem lk_X11_i48 : zLk RX11 48 yX1_init := Or.inl (gS1 156 rfl rfl)
theorem cl13 {i : Nat} (h : i < 13) : (Int32.ofInt (i : Int)).toNatClampNeg = i := by
  have hr : rng (i : Int) := ⟨by omega, by omega⟩
  have := ti32 hr
  show (Int32.ofInt (i : Int)).toInt.toNat = i
  rw [this]
  rfl
def shF (b i : Nat) : Nat → Option Nat := fun j => if j < i then some (b + (15 + 2 * j)) else none
theorem shF_up (b i : Nat) : va_up (shF b i) i (some (b + (15 + 2 * i))) = shF b (i + 1) := by
  funext j
  unfold va_up shF
  by_cases hj : j = i
  · subst hj
    rw [if_pos rfl, if_pos (by omega)]
  · rw [if_neg hj]
    by_cases h2 : j < i
    · rw [if_pos h2, if_pos (by omega)]
    · rw [if_neg h2, if_neg (by omega)]
def shW (ca : Nat → ClassId) (b : Nat) : Nat → va_W
  | 0 => []
  | i + 1 => shW ca b i ++ wX8 ca (b + (15 + 2 * i))
def r0X1 (ca : Nat → ClassId) (b a1 : Nat) : va_W := (((wX8 ca (b + 2) ++ wX8 ca (b + 4)) ++ wX2 ca (b + 6) (a1)) ++ wX3 ca (b + 7) (a1))
abbrev tX1 (b a1 a2 : Nat) : Nat × va_E := (b, .inr (1, [.ref (b + 6), .ref (b + 7), .ref a1, .ref a2, .ref (b + 1), .ref (b + 2), .ref (b + 4), .int (Int32.ofInt (-1))]))
def wX1 (ca : Nat → ClassId) (b : Nat) (a1 : Nat) (a2 : Nat) : va_W := tX1 b a1 a2 :: (b + 1, zR (ca 4) 13 (shF b 13)) :: (r0X1 ca b a1 ++ shW ca b 13)
set_option maxHeartbeats 4000000 in
set_option maxRecDepth 100000 in
theorem lp_X1 {p : Program} {l : Launch} {e : Env} {s : State} {m : MethodId} {args : Array Value} {below : List Frame} {meth : Method} {c : Code} {D : va_G} {ca : Nat → ClassId} {b a1 a2 : Nat} (C : nCx D ca mX1_init p s m args meth c) : ∀ (d i : Nat), i + d = 13 → ∀ (H : Heap) (locs : List Loc) (ls : Array Slot), lv_has ls 4 [(3, .int (Int32.ofInt (i : Int))), (0, .ref b)] → nP D b (15 + 2 * i) (tX1 b a1 a2 :: (b + 1, zR (ca 4) 13 (shF b i)) :: (r0X1 ca b a1 ++ shW ca b i)) H → nS b s.heap H locs →
    W p l e mX1_init.2.2.2.2 s m args below meth c H locs (14 + 2 * i) (2854 + 770 * i) (MQ below (nQ D b 40 (wX1 ca b a1 a2)) args s mX1_init.2.2.2.2.cells mX1_init.2.2.2.2.slots (fun q => b ≤ q)) (F0 m 76 ls []) := by
  have hb : c.code = cX1_init := C.2.1
  intro d
  induction d with
  | zero =>
    intro i hi H locs ls hl hP hS
    have hi : i = 13 := hi
    subst hi
    refine lv_iload_n C.1 hb dX1_init_76 rfl (lv_at hl 0 rfl) ?_
    refine lv_bipush (v := 12) C.1 hb dX1_init_77 (by decide) ?_
    refine lv_icmp_gt (tgt := 101) C.1 hb dX1_init_79 rfl (fun _ => ?_) (fun q => absurd (by decide) q)
    exact nw_ret C rfl (k := 40) hP hS dX1_init_101
  | succ d ih =>
    intro i hi H locs ls hl hP hS
    have hi13 : i < 13 := by omega
    have ri : rng (i : Int) := ⟨by omega, by omega⟩
    refine lv_iload_n C.1 hb dX1_init_76 rfl (lv_at hl 0 rfl) ?_
    refine lv_bipush (v := Int32.ofInt 12) C.1 hb dX1_init_77 (by decide) ?_
    refine lv_icmp_gt (tgt := 101) C.1 hb dX1_init_79 rfl (fun q => absurd ((lt32 (a := 12) (b := (i : Int)) ⟨by decide, by decide⟩ ri).mp q) (by omega)) (fun _ => ?_)
    refine lv_aload_n C.1 hb dX1_init_82 rfl (lv_at hl 1 rfl) ?_
    refine nw_get C (pc' := 86) fg_X1_11 (v := .ref (b + 1)) rfl hP dX1_init_83 rfl ?_
    refine lv_iload_n C.1 hb dX1_init_86 rfl (lv_at hl 0 rfl) ?_
    refine nw_new C (ci := 8) (N := 2) (fs := bX8) (pc' := 90) rfl gw_X8 tyX8 tyX8_ok cl_X1_9 in_X8 ii_X8 bl_X8 rfl (show 14 + 2 * i + 1 ≤ 40 by omega) (show 2854 + 770 * i + 2 ≤ 12864 by omega) hP hS dX1_init_87 rfl (fun H hP hS => ?_)
    refine lv_dup C.1 hb dX1_init_90 rfl ?_
    refine nw_call C (pc' := 94) (n := 15 + 2 * i) (As := []) kc_X8 ii_X8 kn_X8 kp_X8 ki_X8 rfl lk_X1_i17 ⟨Nat.le_of_ble_eq_true rfl, Nat.le_of_ble_eq_true rfl⟩ (ok_X8 l D ca (b + (15 + 2 * i))) hP hS (Nat.le_of_ble_eq_true rfl) hl.1 rfl dX1_init_91 rfl ⟨show 14 + 2 * i + 1 + 1 ≤ 40 by omega, show 2854 + 770 * i + 2 + 768 ≤ 12864 by omega⟩ (fun H locs hP hS => ?_)
    have hP : nP D b (15 + 2 * i + 1 + 1) (tX1 b a1 a2 :: (b + 1, zR (ca 4) 13 (shF b i)) :: ((r0X1 ca b a1 ++ shW ca b i) ++ wX8 ca (b + (15 + 2 * i)))) H := hP
    refine nw_ast C (N := 13) (v := b + (15 + 2 * i)) (vs := [.ref (b + (15 + 2 * i) + 1), .int 0]) (j := i) (f' := shF b (i + 1)) (pc' := 95) hP (List.mem_append_right _ List.mem_cons_self) hS (cl13 hi13) (vin32 ⟨by omega, by omega⟩ (by decide)) (shF_up b i) dX1_init_94 rfl (fun H locs hP hS => ?_)
    refine lv_iinc (v := Int32.ofInt ((i + 1 : Nat) : Int)) (lv' := [(3, .int (Int32.ofInt ((i + 1 : Nat) : Int))), (0, .ref b)]) C.1 hb dX1_init_95 hl (k := 0) rfl (by rw [← Int32.ofInt_add]; rfl) (by decide) rfl (fun ls hl => ?_)
    refine lv_goto (tgt := 76) C.1 hb dX1_init_98 rfl ?_
    have hP : nP D b (15 + 2 * (i + 1)) (tX1 b a1 a2 :: (b + 1, zR (ca 4) 13 (shF b (i + 1))) :: (r0X1 ca b a1 ++ shW ca b (i + 1))) H := by
      rw [List.append_assoc] at hP
      exact hP
    exact ih (i + 1) (by omega) H locs ls hl hP hS
set_option maxHeartbeats 4000000 in
set_option maxRecDepth 100000 in
theorem ok_X1 (l : Launch) (D : va_G) (ca : Nat → ClassId) (b : Nat) (a1 : Nat) (a2 : Nat) : nM l D ca mX1_init yX1_init [.ref a1, .ref a2] b (.inr (1, bX1)) 40 (wX1 ca b a1 a2) := by
  refine nM_of (by decide) rfl rfl rfl (Nat.le_of_ble_eq_true rfl) ?_
  intro p e s m args below meth c ls C hin hl hP
  have hb : c.code = cX1_init := C.2.1
  have hS : nS b s.heap s.heap [] := va_S.rf
  have hl : lv_has ls 4 [(0, .ref b), (1, .ref a1), (2, .ref a2)] := hl
  have hP : nP D b 1 [(b, .inr (1, [.null, .null, .null, .null, .null, .null, .null, .int 0]))] s.heap := hP
  refine lv_aload_n C.1 hb dX1_init_0 rfl (lv_at hl 0 rfl) ?_
  refine nw_obj C (pc' := 4) oi_X1 oi_i oi_c hl.1 dX1_init_1 (Nat.le_of_ble_eq_true rfl) (Nat.le_of_ble_eq_true rfl) rfl ?_
  refine lv_aload_n C.1 hb dX1_init_4 rfl (lv_at hl 0 rfl) ?_
  refine lv_bipush (v := 13) C.1 hb dX1_init_5 (by decide) ?_
  refine nw_newq C (N := 13) (pc' := 10) cl_X1_9 (by decide) (by decide) (Nat.le_of_ble_eq_true rfl) (Nat.le_of_ble_eq_true rfl) (Nat.le_of_ble_eq_true rfl) hP hS dX1_init_7 rfl (fun H hP hS => ?_)
  have hP : nP D b 2 ((b, .inr (1, [.null, .null, .null, .null, .null, .null, .null, .int 0])) :: [(b + 1, zR (ca 4) 13 (fun _ => none))]) H := hP
  refine nw_putF C hin (pc' := 13) fg_X1_11 rfl rfl rfl (ty := .array (.object "RawPictures$Sheet")) (by decide +kernel) rfl rfl (Nat.le_of_ble_eq_true rfl) hP hS dX1_init_10 rfl (fun H locs hP hS => ?_)
  have hP : nP D b 2 ((b, .inr (1, [.null, .null, .null, .null, .ref (b + 1), .null, .null, .int 0])) :: [(b + 1, zR (ca 4) 13 (fun _ => none))]) H := hP
  refine lv_aload_n C.1 hb dX1_init_13 rfl (lv_at hl 0 rfl) ?_
  refine nw_new C (ci := 8) (N := 2) (fs := bX8) (pc' := 17) rfl gw_X8 tyX8 tyX8_ok cl_X1_9 in_X8 ii_X8 bl_X8 rfl (Nat.le_of_ble_eq_true rfl) (Nat.le_of_ble_eq_true rfl) hP hS dX1_init_14 rfl (fun H hP hS => ?_)
  have hP : nP D b 3 (((b, .inr (1, [.null, .null, .null, .null, .ref (b + 1), .null, .null, .int 0])) :: [(b + 1, zR (ca 4) 13 (fun _ => none))]) ++ [(b + 2, .inr (8, bX8))]) H := hP
  refine lv_dup C.1 hb dX1_init_17 rfl ?_
  refine nw_call C (pc' := 21) (n := 2) (As := []) kc_X8 ii_X8 kn_X8 kp_X8 ki_X8 rfl lk_X1_i17 ⟨Nat.le_of_ble_eq_true rfl, Nat.le_of_ble_eq_true rfl⟩ (ok_X8 l D ca (b + 2) ) hP hS (Nat.le_of_ble_eq_true rfl) hl.1 rfl dX1_init_18 rfl ⟨Nat.le_of_ble_eq_true rfl, Nat.le_of_ble_eq_true rfl⟩ (fun H locs hP hS => ?_)
  have hP : nP D b 4 ((b, .inr (1, [.null, .null, .null, .null, .ref (b + 1), .null, .null, .int 0])) :: ([(b + 1, zR (ca 4) 13 (fun _ => none))] ++ wX8 ca (b + 2))) H := hP
  refine nw_putF C hin (pc' := 24) fg_X1_18 rfl rfl rfl (ty := .object "RawPictures$Sheet") (by decide +kernel) rfl rfl (Nat.le_of_ble_eq_true rfl) hP hS dX1_init_21 rfl (fun H locs hP hS => ?_)
  have hP : nP D b 4 ((b, .inr (1, [.null, .null, .null, .null, .ref (b + 1), .ref (b + 2), .null, .int 0])) :: ([(b + 1, zR (ca 4) 13 (fun _ => none))] ++ wX8 ca (b + 2))) H := hP
  refine lv_aload_n C.1 hb dX1_init_24 rfl (lv_at hl 0 rfl) ?_
  refine nw_new C (ci := 8) (N := 2) (fs := bX8) (pc' := 28) rfl gw_X8 tyX8 tyX8_ok cl_X1_9 in_X8 ii_X8 bl_X8 rfl (Nat.le_of_ble_eq_true rfl) (Nat.le_of_ble_eq_true rfl) hP hS dX1_init_25 rfl (fun H hP hS => ?_)
  have hP : nP D b 5 (((b, .inr (1, [.null, .null, .null, .null, .ref (b + 1), .ref (b + 2), .null, .int 0])) :: ([(b + 1, zR (ca 4) 13 (fun _ => none))] ++ wX8 ca (b + 2))) ++ [(b + 4, .inr (8, bX8))]) H := hP
  refine lv_dup C.1 hb dX1_init_28 rfl ?_
  refine nw_call C (pc' := 32) (n := 4) (As := []) kc_X8 ii_X8 kn_X8 kp_X8 ki_X8 rfl lk_X1_i17 ⟨Nat.le_of_ble_eq_true rfl, Nat.le_of_ble_eq_true rfl⟩ (ok_X8 l D ca (b + 4) ) hP hS (Nat.le_of_ble_eq_true rfl) hl.1 rfl dX1_init_29 rfl ⟨Nat.le_of_ble_eq_true rfl, Nat.le_of_ble_eq_true rfl⟩ (fun H locs hP hS => ?_)
  have hP : nP D b 6 ((b, .inr (1, [.null, .null, .null, .null, .ref (b + 1), .ref (b + 2), .null, .int 0])) :: (([(b + 1, zR (ca 4) 13 (fun _ => none))] ++ wX8 ca (b + 2)) ++ wX8 ca (b + 4))) H := hP
  refine nw_putF C hin (pc' := 35) fg_X1_22 rfl rfl rfl (ty := .object "RawPictures$Sheet") (by decide +kernel) rfl rfl (Nat.le_of_ble_eq_true rfl) hP hS dX1_init_32 rfl (fun H locs hP hS => ?_)
  have hP : nP D b 6 ((b, .inr (1, [.null, .null, .null, .null, .ref (b + 1), .ref (b + 2), .ref (b + 4), .int 0])) :: (([(b + 1, zR (ca 4) 13 (fun _ => none))] ++ wX8 ca (b + 2)) ++ wX8 ca (b + 4))) H := hP
  refine lv_aload_n C.1 hb dX1_init_35 rfl (lv_at hl 0 rfl) ?_
  refine lv_iconst (v := Int32.ofInt (-1)) C.1 hb dX1_init_36 rfl ?_
  refine nw_put C (pc' := 40) fp_X1_25 rfl rfl (Nat.le_of_ble_eq_true rfl) hP hS dX1_init_37 rfl (fun H locs hP hS => ?_)
  have hP : nP D b 6 ((b, .inr (1, [.null, .null, .null, .null, .ref (b + 1), .ref (b + 2), .ref (b + 4), .int (Int32.ofInt (-1))])) :: (([(b + 1, zR (ca 4) 13 (fun _ => none))] ++ wX8 ca (b + 2)) ++ wX8 ca (b + 4))) H := hP
  refine lv_aload_n C.1 hb dX1_init_40 rfl (lv_at hl 0 rfl) ?_
  refine lv_aload_n C.1 hb dX1_init_41 rfl (lv_at hl 1 rfl) ?_
  refine nw_putF C hin (pc' := 45) fg_X1_29 rfl rfl rfl (ty := .object "RawPictures$Mosaic") (by decide +kernel) rfl rfl (Nat.le_of_ble_eq_true rfl) hP hS dX1_init_42 rfl (fun H locs hP hS => ?_)
  have hP : nP D b 6 ((b, .inr (1, [.null, .null, .ref a1, .null, .ref (b + 1), .ref (b + 2), .ref (b + 4), .int (Int32.ofInt (-1))])) :: (([(b + 1, zR (ca 4) 13 (fun _ => none))] ++ wX8 ca (b + 2)) ++ wX8 ca (b + 4))) H := hP
  refine lv_aload_n C.1 hb dX1_init_45 rfl (lv_at hl 0 rfl) ?_
  refine lv_aload_n C.1 hb dX1_init_46 rfl (lv_at hl 2 rfl) ?_
  refine nw_putF C hin (pc' := 50) fg_X1_33 rfl rfl rfl (ty := .object "RawPictures$Recipe") (by decide +kernel) rfl rfl (Nat.le_of_ble_eq_true rfl) hP hS dX1_init_47 rfl (fun H locs hP hS => ?_)
  have hP : nP D b 6 ((b, .inr (1, [.null, .null, .ref a1, .ref a2, .ref (b + 1), .ref (b + 2), .ref (b + 4), .int (Int32.ofInt (-1))])) :: (([(b + 1, zR (ca 4) 13 (fun _ => none))] ++ wX8 ca (b + 2)) ++ wX8 ca (b + 4))) H := hP
  refine lv_aload_n C.1 hb dX1_init_50 rfl (lv_at hl 0 rfl) ?_
  refine nw_new C (ci := 2) (N := 1) (fs := bX2) (pc' := 54) rfl gw_X2 tyX2 tyX2_ok cl_X1_37 in_X2 ii_X2 bl_X2 rfl (Nat.le_of_ble_eq_true rfl) (Nat.le_of_ble_eq_true rfl) hP hS dX1_init_51 rfl (fun H hP hS => ?_)
  have hP : nP D b 7 (((b, .inr (1, [.null, .null, .ref a1, .ref a2, .ref (b + 1), .ref (b + 2), .ref (b + 4), .int (Int32.ofInt (-1))])) :: (([(b + 1, zR (ca 4) 13 (fun _ => none))] ++ wX8 ca (b + 2)) ++ wX8 ca (b + 4))) ++ [(b + 6, .inr (2, bX2))]) H := hP
  refine lv_dup C.1 hb dX1_init_54 rfl ?_
  refine lv_aload_n C.1 hb dX1_init_55 rfl (lv_at hl 1 rfl) ?_
  refine nw_call C (pc' := 59) (n := 6) (As := [.ref a1]) kc_X2 ii_X2 kn_X2 kp_X2 ki_X2 rfl lk_X1_i39 ⟨Nat.le_of_ble_eq_true rfl, Nat.le_of_ble_eq_true rfl⟩ (ok_X2 l D ca (b + 6) (a1)) hP hS (Nat.le_of_ble_eq_true rfl) hl.1 rfl dX1_init_56 rfl ⟨Nat.le_of_ble_eq_true rfl, Nat.le_of_ble_eq_true rfl⟩ (fun H locs hP hS => ?_)
  have hP : nP D b 7 ((b, .inr (1, [.null, .null, .ref a1, .ref a2, .ref (b + 1), .ref (b + 2), .ref (b + 4), .int (Int32.ofInt (-1))])) :: ((([(b + 1, zR (ca 4) 13 (fun _ => none))] ++ wX8 ca (b + 2)) ++ wX8 ca (b + 4)) ++ wX2 ca (b + 6) (a1))) H := hP
  refine nw_putF C hin (pc' := 62) fg_X1_42 rfl rfl rfl (ty := .object "RawPictures$EarlyStages") (by decide +kernel) rfl rfl (Nat.le_of_ble_eq_true rfl) hP hS dX1_init_59 rfl (fun H locs hP hS => ?_)
  have hP : nP D b 7 ((b, .inr (1, [.ref (b + 6), .null, .ref a1, .ref a2, .ref (b + 1), .ref (b + 2), .ref (b + 4), .int (Int32.ofInt (-1))])) :: ((([(b + 1, zR (ca 4) 13 (fun _ => none))] ++ wX8 ca (b + 2)) ++ wX8 ca (b + 4)) ++ wX2 ca (b + 6) (a1))) H := hP
  refine lv_aload_n C.1 hb dX1_init_62 rfl (lv_at hl 0 rfl) ?_
  refine nw_new C (ci := 3) (N := 7) (fs := bX3) (pc' := 66) rfl gw_X3 tyX3 tyX3_ok cl_X1_46 in_X3 ii_X3 bl_X3 rfl (Nat.le_of_ble_eq_true rfl) (Nat.le_of_ble_eq_true rfl) hP hS dX1_init_63 rfl (fun H hP hS => ?_)
  have hP : nP D b 8 (((b, .inr (1, [.ref (b + 6), .null, .ref a1, .ref a2, .ref (b + 1), .ref (b + 2), .ref (b + 4), .int (Int32.ofInt (-1))])) :: ((([(b + 1, zR (ca 4) 13 (fun _ => none))] ++ wX8 ca (b + 2)) ++ wX8 ca (b + 4)) ++ wX2 ca (b + 6) (a1))) ++ [(b + 7, .inr (3, bX3))]) H := hP
  refine lv_dup C.1 hb dX1_init_66 rfl ?_
  refine lv_aload_n C.1 hb dX1_init_67 rfl (lv_at hl 1 rfl) ?_
  refine nw_call C (pc' := 71) (n := 7) (As := [.ref a1]) kc_X3 ii_X3 kn_X3 kp_X3 ki_X3 rfl lk_X1_i48 ⟨Nat.le_of_ble_eq_true rfl, Nat.le_of_ble_eq_true rfl⟩ (ok_X3 l D ca (b + 7) (a1)) hP hS (Nat.le_of_ble_eq_true rfl) hl.1 rfl dX1_init_68 rfl ⟨Nat.le_of_ble_eq_true rfl, Nat.le_of_ble_eq_true rfl⟩ (fun H locs hP hS => ?_)
  have hP : nP D b 15 ((b, .inr (1, [.ref (b + 6), .null, .ref a1, .ref a2, .ref (b + 1), .ref (b + 2), .ref (b + 4), .int (Int32.ofInt (-1))])) :: (((([(b + 1, zR (ca 4) 13 (fun _ => none))] ++ wX8 ca (b + 2)) ++ wX8 ca (b + 4)) ++ wX2 ca (b + 6) (a1)) ++ wX3 ca (b + 7) (a1))) H := hP
  refine nw_putF C hin (pc' := 74) fg_X1_49 rfl rfl rfl (ty := .object "RawPictures$LateStages") (by decide +kernel) rfl rfl (Nat.le_of_ble_eq_true rfl) hP hS dX1_init_71 rfl (fun H locs hP hS => ?_)
  have hP : nP D b 15 ((b, .inr (1, [.ref (b + 6), .ref (b + 7), .ref a1, .ref a2, .ref (b + 1), .ref (b + 2), .ref (b + 4), .int (Int32.ofInt (-1))])) :: (((([(b + 1, zR (ca 4) 13 (fun _ => none))] ++ wX8 ca (b + 2)) ++ wX8 ca (b + 4)) ++ wX2 ca (b + 6) (a1)) ++ wX3 ca (b + 7) (a1))) H := hP
  refine lv_iconst (v := Int32.ofInt ((0 : Nat) : Int)) C.1 hb dX1_init_74 rfl ?_
  refine lv_istore_n (lv' := [(3, .int (Int32.ofInt ((0 : Nat) : Int))), (0, .ref b), (1, .ref a1), (2, .ref a2)]) C.1 hb dX1_init_75 rfl hl (by decide) rfl (fun ls hl => ?_)
  exact lp_X1 C 13 0 rfl H locs ls (lv_sub hl [0, 1] rfl) hP hS
abbrev mX11_init : Mt := (cX11_init, 1, none, RX11, ({ frames := 3, cells := 71, slots := 16222, locals := 64 } : Room))
set_option maxRecDepth 20000 in
theorem kc_X11 : Cond.code yX11_init mX11_init.1 mX11_init.2.1 none ∈ gT := gS1 27 rfl rfl
set_option maxRecDepth 20000 in
theorem kn_X11 : yX11_init.cls ≠ "java/lang/invoke/MethodHandle" ∧ yX11_init.cls ≠ "java/lang/invoke/VarHandle" := ⟨by decide +kernel, by decide +kernel⟩
set_option maxRecDepth 20000 in
theorem kp_X11 : (parseMethodDescriptor yX11_init.desc).map (fun d => d.parameters.length) = some 0 := by decide +kernel
set_option maxRecDepth 20000 in
theorem ki_X11 : Cond.instanceMethod yX11_init ∈ gT := gS1 26 rfl rfl
set_option maxRecDepth 20000 in
theorem lk_L_i9 : zLk RL 9 yX11_init := Or.inl (gS1 25 rfl rfl)
def wX11 (ca : Nat → ClassId) (b : Nat) : va_W := (b, .inr (11, [.ref (b + 1), .ref (b + 3), .ref (b + 6), .ref (b + 8), .ref (b + 12), .ref (b + 17), .ref (b + 58), .ref (b + 61), .ref (b + 65), .ref (b + 68), .int (Int32.ofInt (1)), .int (Int32.ofInt (0)), .int (Int32.ofInt (1))])) :: (((((((((wX9 ca (b + 1) ++ wX5 ca (b + 3)) ++ wX10 ca (b + 6)) ++ wX7 ca (b + 8)) ++ wX6 ca (b + 12) (b + 1)) ++ wX1 ca (b + 17) (b + 3) (b + 8)) ++ wX4 ca (b + 58) (b + 3)) ++ wX0 ca (b + 61) (b + 3)) ++ wX5 ca (b + 65)) ++ wX7 ca (b + 68))
set_option maxHeartbeats 4000000 in
set_option maxRecDepth 100000 in
theorem ok_X11 (l : Launch) (D : va_G) (ca : Nat → ClassId) (b : Nat) : nM l D ca mX11_init yX11_init [] b (.inr (11, bX11)) 71 (wX11 ca b) := by
  refine nM_of (by decide) rfl rfl rfl (Nat.le_of_ble_eq_true rfl) ?_
  intro p e s m args below meth c ls C hin hl hP
  have hb : c.code = cX11_init := C.2.1
  have hS : nS b s.heap s.heap [] := va_S.rf
  have hl : lv_has ls 1 [(0, .ref b)] := hl
  have hP : nP D b 1 [(b, .inr (11, [.null, .null, .null, .null, .null, .null, .null, .null, .null, .null, .int 0, .int 0, .int 0]))] s.heap := hP
  refine lv_aload_n C.1 hb dX11_init_0 rfl (lv_at hl 0 rfl) ?_
  refine nw_obj C (pc' := 4) oi_X11 oi_i oi_c hl.1 dX11_init_1 (Nat.le_of_ble_eq_true rfl) (Nat.le_of_ble_eq_true rfl) rfl ?_
  refine lv_aload_n C.1 hb dX11_init_4 rfl (lv_at hl 0 rfl) ?_
  refine nw_new C (ci := 9) (N := 2) (fs := bX9) (pc' := 8) rfl gw_X9 tyX9 tyX9_ok cl_X11_7 in_X9 ii_X9 bl_X9 rfl (Nat.le_of_ble_eq_true rfl) (Nat.le_of_ble_eq_true rfl) hP hS dX11_init_5 rfl (fun H hP hS => ?_)
  have hP : nP D b 2 (((b, .inr (11, [.null, .null, .null, .null, .null, .null, .null, .null, .null, .null, .int 0, .int 0, .int 0])) :: []) ++ [(b + 1, .inr (9, bX9))]) H := hP
  refine lv_dup C.1 hb dX11_init_8 rfl ?_
  refine nw_call C (pc' := 12) (n := 1) (As := []) kc_X9 ii_X9 kn_X9 kp_X9 ki_X9 rfl lk_X11_i9 ⟨Nat.le_of_ble_eq_true rfl, Nat.le_of_ble_eq_true rfl⟩ (ok_X9 l D ca (b + 1) ) hP hS (Nat.le_of_ble_eq_true rfl) hl.1 rfl dX11_init_9 rfl ⟨Nat.le_of_ble_eq_true rfl, Nat.le_of_ble_eq_true rfl⟩ (fun H locs hP hS => ?_)
  have hP : nP D b 3 ((b, .inr (11, [.null, .null, .null, .null, .null, .null, .null, .null, .null, .null, .int 0, .int 0, .int 0])) :: wX9 ca (b + 1)) H := hP
  refine nw_putF C hin (pc' := 15) fg_X11_10 rfl rfl rfl (ty := .object "RawPictures$Tape") (by decide +kernel) rfl rfl (Nat.le_of_ble_eq_true rfl) hP hS dX11_init_12 rfl (fun H locs hP hS => ?_)
  have hP : nP D b 3 ((b, .inr (11, [.ref (b + 1), .null, .null, .null, .null, .null, .null, .null, .null, .null, .int 0, .int 0, .int 0])) :: wX9 ca (b + 1)) H := hP
  refine lv_aload_n C.1 hb dX11_init_15 rfl (lv_at hl 0 rfl) ?_
  refine nw_new C (ci := 5) (N := 5) (fs := bX5) (pc' := 19) rfl gw_X5 tyX5 tyX5_ok cl_X11_16 in_X5 ii_X5 bl_X5 rfl (Nat.le_of_ble_eq_true rfl) (Nat.le_of_ble_eq_true rfl) hP hS dX11_init_16 rfl (fun H hP hS => ?_)
  have hP : nP D b 4 (((b, .inr (11, [.ref (b + 1), .null, .null, .null, .null, .null, .null, .null, .null, .null, .int 0, .int 0, .int 0])) :: wX9 ca (b + 1)) ++ [(b + 3, .inr (5, bX5))]) H := hP
  refine lv_dup C.1 hb dX11_init_19 rfl ?_
  refine nw_call C (pc' := 23) (n := 3) (As := []) kc_X5 ii_X5 kn_X5 kp_X5 ki_X5 rfl lk_X11_i18 ⟨Nat.le_of_ble_eq_true rfl, Nat.le_of_ble_eq_true rfl⟩ (ok_X5 l D ca (b + 3) ) hP hS (Nat.le_of_ble_eq_true rfl) hl.1 rfl dX11_init_20 rfl ⟨Nat.le_of_ble_eq_true rfl, Nat.le_of_ble_eq_true rfl⟩ (fun H locs hP hS => ?_)
  have hP : nP D b 6 ((b, .inr (11, [.ref (b + 1), .null, .null, .null, .null, .null, .null, .null, .null, .null, .int 0, .int 0, .int 0])) :: (wX9 ca (b + 1) ++ wX5 ca (b + 3))) H := hP
  refine nw_putF C hin (pc' := 26) fg_X11_19 rfl rfl rfl (ty := .object "RawPictures$Mosaic") (by decide +kernel) rfl rfl (Nat.le_of_ble_eq_true rfl) hP hS dX11_init_23 rfl (fun H locs hP hS => ?_)
  have hP : nP D b 6 ((b, .inr (11, [.ref (b + 1), .ref (b + 3), .null, .null, .null, .null, .null, .null, .null, .null, .int 0, .int 0, .int 0])) :: (wX9 ca (b + 1) ++ wX5 ca (b + 3))) H := hP
  refine lv_aload_n C.1 hb dX11_init_26 rfl (lv_at hl 0 rfl) ?_
  refine nw_new C (ci := 10) (N := 2) (fs := bX10) (pc' := 30) rfl gw_X10 tyX10 tyX10_ok cl_X11_23 in_X10 ii_X10 bl_X10 rfl (Nat.le_of_ble_eq_true rfl) (Nat.le_of_ble_eq_true rfl) hP hS dX11_init_27 rfl (fun H hP hS => ?_)
  have hP : nP D b 7 (((b, .inr (11, [.ref (b + 1), .ref (b + 3), .null, .null, .null, .null, .null, .null, .null, .null, .int 0, .int 0, .int 0])) :: (wX9 ca (b + 1) ++ wX5 ca (b + 3))) ++ [(b + 6, .inr (10, bX10))]) H := hP
  refine lv_dup C.1 hb dX11_init_30 rfl ?_
  refine nw_call C (pc' := 34) (n := 6) (As := []) kc_X10 ii_X10 kn_X10 kp_X10 ki_X10 rfl lk_X11_i25 ⟨Nat.le_of_ble_eq_true rfl, Nat.le_of_ble_eq_true rfl⟩ (ok_X10 l D ca (b + 6) ) hP hS (Nat.le_of_ble_eq_true rfl) hl.1 rfl dX11_init_31 rfl ⟨Nat.le_of_ble_eq_true rfl, Nat.le_of_ble_eq_true rfl⟩ (fun H locs hP hS => ?_)
  have hP : nP D b 8 ((b, .inr (11, [.ref (b + 1), .ref (b + 3), .null, .null, .null, .null, .null, .null, .null, .null, .int 0, .int 0, .int 0])) :: ((wX9 ca (b + 1) ++ wX5 ca (b + 3)) ++ wX10 ca (b + 6))) H := hP
  refine nw_putF C hin (pc' := 37) fg_X11_26 rfl rfl rfl (ty := .object "RawPictures$Truth") (by decide +kernel) rfl rfl (Nat.le_of_ble_eq_true rfl) hP hS dX11_init_34 rfl (fun H locs hP hS => ?_)
  have hP : nP D b 8 ((b, .inr (11, [.ref (b + 1), .ref (b + 3), .ref (b + 6), .null, .null, .null, .null, .null, .null, .null, .int 0, .int 0, .int 0])) :: ((wX9 ca (b + 1) ++ wX5 ca (b + 3)) ++ wX10 ca (b + 6))) H := hP
  refine lv_aload_n C.1 hb dX11_init_37 rfl (lv_at hl 0 rfl) ?_
  refine nw_new C (ci := 7) (N := 5) (fs := bX7) (pc' := 41) rfl gw_X7 tyX7 tyX7_ok cl_X11_30 in_X7 ii_X7 bl_X7 rfl (Nat.le_of_ble_eq_true rfl) (Nat.le_of_ble_eq_true rfl) hP hS dX11_init_38 rfl (fun H hP hS => ?_)
  have hP : nP D b 9 (((b, .inr (11, [.ref (b + 1), .ref (b + 3), .ref (b + 6), .null, .null, .null, .null, .null, .null, .null, .int 0, .int 0, .int 0])) :: ((wX9 ca (b + 1) ++ wX5 ca (b + 3)) ++ wX10 ca (b + 6))) ++ [(b + 8, .inr (7, bX7))]) H := hP
  refine lv_dup C.1 hb dX11_init_41 rfl ?_
  refine nw_call C (pc' := 45) (n := 8) (As := []) kc_X7 ii_X7 kn_X7 kp_X7 ki_X7 rfl lk_X11_i32 ⟨Nat.le_of_ble_eq_true rfl, Nat.le_of_ble_eq_true rfl⟩ (ok_X7 l D ca (b + 8) ) hP hS (Nat.le_of_ble_eq_true rfl) hl.1 rfl dX11_init_42 rfl ⟨Nat.le_of_ble_eq_true rfl, Nat.le_of_ble_eq_true rfl⟩ (fun H locs hP hS => ?_)
  have hP : nP D b 12 ((b, .inr (11, [.ref (b + 1), .ref (b + 3), .ref (b + 6), .null, .null, .null, .null, .null, .null, .null, .int 0, .int 0, .int 0])) :: (((wX9 ca (b + 1) ++ wX5 ca (b + 3)) ++ wX10 ca (b + 6)) ++ wX7 ca (b + 8))) H := hP
  refine nw_putF C hin (pc' := 48) fg_X11_33 rfl rfl rfl (ty := .object "RawPictures$Recipe") (by decide +kernel) rfl rfl (Nat.le_of_ble_eq_true rfl) hP hS dX11_init_45 rfl (fun H locs hP hS => ?_)
  have hP : nP D b 12 ((b, .inr (11, [.ref (b + 1), .ref (b + 3), .ref (b + 6), .ref (b + 8), .null, .null, .null, .null, .null, .null, .int 0, .int 0, .int 0])) :: (((wX9 ca (b + 1) ++ wX5 ca (b + 3)) ++ wX10 ca (b + 6)) ++ wX7 ca (b + 8))) H := hP
  refine lv_aload_n C.1 hb dX11_init_48 rfl (lv_at hl 0 rfl) ?_
  refine nw_new C (ci := 6) (N := 5) (fs := bX6) (pc' := 52) rfl gw_X6 tyX6 tyX6_ok cl_X11_37 in_X6 ii_X6 bl_X6 rfl (Nat.le_of_ble_eq_true rfl) (Nat.le_of_ble_eq_true rfl) hP hS dX11_init_49 rfl (fun H hP hS => ?_)
  have hP : nP D b 13 (((b, .inr (11, [.ref (b + 1), .ref (b + 3), .ref (b + 6), .ref (b + 8), .null, .null, .null, .null, .null, .null, .int 0, .int 0, .int 0])) :: (((wX9 ca (b + 1) ++ wX5 ca (b + 3)) ++ wX10 ca (b + 6)) ++ wX7 ca (b + 8))) ++ [(b + 12, .inr (6, bX6))]) H := hP
  refine lv_dup C.1 hb dX11_init_52 rfl ?_
  refine lv_aload_n C.1 hb dX11_init_53 rfl (lv_at hl 0 rfl) ?_
  refine nw_get C (pc' := 57) fg_X11_10 (v := .ref (b + 1)) rfl hP dX11_init_54 rfl ?_
  refine nw_call C (pc' := 60) (n := 12) (As := [.ref (b + 1)]) kc_X6 ii_X6 kn_X6 kp_X6 ki_X6 rfl lk_X11_i39 ⟨Nat.le_of_ble_eq_true rfl, Nat.le_of_ble_eq_true rfl⟩ (ok_X6 l D ca (b + 12) (b + 1)) hP hS (Nat.le_of_ble_eq_true rfl) hl.1 rfl dX11_init_57 rfl ⟨Nat.le_of_ble_eq_true rfl, Nat.le_of_ble_eq_true rfl⟩ (fun H locs hP hS => ?_)
  have hP : nP D b 17 ((b, .inr (11, [.ref (b + 1), .ref (b + 3), .ref (b + 6), .ref (b + 8), .null, .null, .null, .null, .null, .null, .int 0, .int 0, .int 0])) :: ((((wX9 ca (b + 1) ++ wX5 ca (b + 3)) ++ wX10 ca (b + 6)) ++ wX7 ca (b + 8)) ++ wX6 ca (b + 12) (b + 1))) H := hP
  refine nw_putF C hin (pc' := 63) fg_X11_42 rfl rfl rfl (ty := .object "RawPictures$Reader") (by decide +kernel) rfl rfl (Nat.le_of_ble_eq_true rfl) hP hS dX11_init_60 rfl (fun H locs hP hS => ?_)
  have hP : nP D b 17 ((b, .inr (11, [.ref (b + 1), .ref (b + 3), .ref (b + 6), .ref (b + 8), .ref (b + 12), .null, .null, .null, .null, .null, .int 0, .int 0, .int 0])) :: ((((wX9 ca (b + 1) ++ wX5 ca (b + 3)) ++ wX10 ca (b + 6)) ++ wX7 ca (b + 8)) ++ wX6 ca (b + 12) (b + 1))) H := hP
  refine lv_aload_n C.1 hb dX11_init_63 rfl (lv_at hl 0 rfl) ?_
  refine nw_new C (ci := 1) (N := 8) (fs := bX1) (pc' := 67) rfl gw_X1 tyX1 tyX1_ok cl_X11_46 in_X1 ii_X1 bl_X1 rfl (Nat.le_of_ble_eq_true rfl) (Nat.le_of_ble_eq_true rfl) hP hS dX11_init_64 rfl (fun H hP hS => ?_)
  have hP : nP D b 18 (((b, .inr (11, [.ref (b + 1), .ref (b + 3), .ref (b + 6), .ref (b + 8), .ref (b + 12), .null, .null, .null, .null, .null, .int 0, .int 0, .int 0])) :: ((((wX9 ca (b + 1) ++ wX5 ca (b + 3)) ++ wX10 ca (b + 6)) ++ wX7 ca (b + 8)) ++ wX6 ca (b + 12) (b + 1))) ++ [(b + 17, .inr (1, bX1))]) H := hP
  refine lv_dup C.1 hb dX11_init_67 rfl ?_
  refine lv_aload_n C.1 hb dX11_init_68 rfl (lv_at hl 0 rfl) ?_
  refine nw_get C (pc' := 72) fg_X11_19 (v := .ref (b + 3)) rfl hP dX11_init_69 rfl ?_
  refine lv_aload_n C.1 hb dX11_init_72 rfl (lv_at hl 0 rfl) ?_
  refine nw_get C (pc' := 76) fg_X11_33 (v := .ref (b + 8)) rfl hP dX11_init_73 rfl ?_
  refine nw_call C (pc' := 79) (n := 17) (As := [.ref (b + 3), .ref (b + 8)]) kc_X1 ii_X1 kn_X1 kp_X1 ki_X1 rfl lk_X11_i48 ⟨Nat.le_of_ble_eq_true rfl, Nat.le_of_ble_eq_true rfl⟩ (ok_X1 l D ca (b + 17) (b + 3) (b + 8)) hP hS (Nat.le_of_ble_eq_true rfl) hl.1 rfl dX11_init_76 rfl ⟨Nat.le_of_ble_eq_true rfl, Nat.le_of_ble_eq_true rfl⟩ (fun H locs hP hS => ?_)
  have hP : nP D b 58 ((b, .inr (11, [.ref (b + 1), .ref (b + 3), .ref (b + 6), .ref (b + 8), .ref (b + 12), .null, .null, .null, .null, .null, .int 0, .int 0, .int 0])) :: (((((wX9 ca (b + 1) ++ wX5 ca (b + 3)) ++ wX10 ca (b + 6)) ++ wX7 ca (b + 8)) ++ wX6 ca (b + 12) (b + 1)) ++ wX1 ca (b + 17) (b + 3) (b + 8))) H := hP
  refine nw_putF C hin (pc' := 82) fg_X11_51 rfl rfl rfl (ty := .object "RawPictures$Darkroom") (by decide +kernel) rfl rfl (Nat.le_of_ble_eq_true rfl) hP hS dX11_init_79 rfl (fun H locs hP hS => ?_)
  have hP : nP D b 58 ((b, .inr (11, [.ref (b + 1), .ref (b + 3), .ref (b + 6), .ref (b + 8), .ref (b + 12), .ref (b + 17), .null, .null, .null, .null, .int 0, .int 0, .int 0])) :: (((((wX9 ca (b + 1) ++ wX5 ca (b + 3)) ++ wX10 ca (b + 6)) ++ wX7 ca (b + 8)) ++ wX6 ca (b + 12) (b + 1)) ++ wX1 ca (b + 17) (b + 3) (b + 8))) H := hP
  refine lv_aload_n C.1 hb dX11_init_82 rfl (lv_at hl 0 rfl) ?_
  refine nw_new C (ci := 4) (N := 12) (fs := bX4) (pc' := 86) rfl gw_X4 tyX4 tyX4_ok cl_X11_55 in_X4 ii_X4 bl_X4 rfl (Nat.le_of_ble_eq_true rfl) (Nat.le_of_ble_eq_true rfl) hP hS dX11_init_83 rfl (fun H hP hS => ?_)
  have hP : nP D b 59 (((b, .inr (11, [.ref (b + 1), .ref (b + 3), .ref (b + 6), .ref (b + 8), .ref (b + 12), .ref (b + 17), .null, .null, .null, .null, .int 0, .int 0, .int 0])) :: (((((wX9 ca (b + 1) ++ wX5 ca (b + 3)) ++ wX10 ca (b + 6)) ++ wX7 ca (b + 8)) ++ wX6 ca (b + 12) (b + 1)) ++ wX1 ca (b + 17) (b + 3) (b + 8))) ++ [(b + 58, .inr (4, bX4))]) H := hP
  refine lv_dup C.1 hb dX11_init_86 rfl ?_
  refine lv_aload_n C.1 hb dX11_init_87 rfl (lv_at hl 0 rfl) ?_
  refine nw_get C (pc' := 91) fg_X11_19 (v := .ref (b + 3)) rfl hP dX11_init_88 rfl ?_
  refine nw_call C (pc' := 94) (n := 58) (As := [.ref (b + 3)]) kc_X4 ii_X4 kn_X4 kp_X4 ki_X4 rfl lk_X11_i57 ⟨Nat.le_of_ble_eq_true rfl, Nat.le_of_ble_eq_true rfl⟩ (ok_X4 l D ca (b + 58) (b + 3)) hP hS (Nat.le_of_ble_eq_true rfl) hl.1 rfl dX11_init_91 rfl ⟨Nat.le_of_ble_eq_true rfl, Nat.le_of_ble_eq_true rfl⟩ (fun H locs hP hS => ?_)
  have hP : nP D b 61 ((b, .inr (11, [.ref (b + 1), .ref (b + 3), .ref (b + 6), .ref (b + 8), .ref (b + 12), .ref (b + 17), .null, .null, .null, .null, .int 0, .int 0, .int 0])) :: ((((((wX9 ca (b + 1) ++ wX5 ca (b + 3)) ++ wX10 ca (b + 6)) ++ wX7 ca (b + 8)) ++ wX6 ca (b + 12) (b + 1)) ++ wX1 ca (b + 17) (b + 3) (b + 8)) ++ wX4 ca (b + 58) (b + 3))) H := hP
  refine nw_putF C hin (pc' := 97) fg_X11_60 rfl rfl rfl (ty := .object "RawPictures$Meter") (by decide +kernel) rfl rfl (Nat.le_of_ble_eq_true rfl) hP hS dX11_init_94 rfl (fun H locs hP hS => ?_)
  have hP : nP D b 61 ((b, .inr (11, [.ref (b + 1), .ref (b + 3), .ref (b + 6), .ref (b + 8), .ref (b + 12), .ref (b + 17), .ref (b + 58), .null, .null, .null, .int 0, .int 0, .int 0])) :: ((((((wX9 ca (b + 1) ++ wX5 ca (b + 3)) ++ wX10 ca (b + 6)) ++ wX7 ca (b + 8)) ++ wX6 ca (b + 12) (b + 1)) ++ wX1 ca (b + 17) (b + 3) (b + 8)) ++ wX4 ca (b + 58) (b + 3))) H := hP
  refine lv_aload_n C.1 hb dX11_init_97 rfl (lv_at hl 0 rfl) ?_
  refine nw_new C (ci := 0) (N := 8) (fs := bX0) (pc' := 101) rfl gw_X0 tyX0 tyX0_ok cl_X11_64 in_X0 ii_X0 bl_X0 rfl (Nat.le_of_ble_eq_true rfl) (Nat.le_of_ble_eq_true rfl) hP hS dX11_init_98 rfl (fun H hP hS => ?_)
  have hP : nP D b 62 (((b, .inr (11, [.ref (b + 1), .ref (b + 3), .ref (b + 6), .ref (b + 8), .ref (b + 12), .ref (b + 17), .ref (b + 58), .null, .null, .null, .int 0, .int 0, .int 0])) :: ((((((wX9 ca (b + 1) ++ wX5 ca (b + 3)) ++ wX10 ca (b + 6)) ++ wX7 ca (b + 8)) ++ wX6 ca (b + 12) (b + 1)) ++ wX1 ca (b + 17) (b + 3) (b + 8)) ++ wX4 ca (b + 58) (b + 3))) ++ [(b + 61, .inr (0, bX0))]) H := hP
  refine lv_dup C.1 hb dX11_init_101 rfl ?_
  refine lv_aload_n C.1 hb dX11_init_102 rfl (lv_at hl 0 rfl) ?_
  refine nw_get C (pc' := 106) fg_X11_19 (v := .ref (b + 3)) rfl hP dX11_init_103 rfl ?_
  refine nw_call C (pc' := 109) (n := 61) (As := [.ref (b + 3)]) kc_X0 ii_X0 kn_X0 kp_X0 ki_X0 rfl lk_X11_i66 ⟨Nat.le_of_ble_eq_true rfl, Nat.le_of_ble_eq_true rfl⟩ (ok_X0 l D ca (b + 61) (b + 3)) hP hS (Nat.le_of_ble_eq_true rfl) hl.1 rfl dX11_init_106 rfl ⟨Nat.le_of_ble_eq_true rfl, Nat.le_of_ble_eq_true rfl⟩ (fun H locs hP hS => ?_)
  have hP : nP D b 65 ((b, .inr (11, [.ref (b + 1), .ref (b + 3), .ref (b + 6), .ref (b + 8), .ref (b + 12), .ref (b + 17), .ref (b + 58), .null, .null, .null, .int 0, .int 0, .int 0])) :: (((((((wX9 ca (b + 1) ++ wX5 ca (b + 3)) ++ wX10 ca (b + 6)) ++ wX7 ca (b + 8)) ++ wX6 ca (b + 12) (b + 1)) ++ wX1 ca (b + 17) (b + 3) (b + 8)) ++ wX4 ca (b + 58) (b + 3)) ++ wX0 ca (b + 61) (b + 3))) H := hP
  refine nw_putF C hin (pc' := 112) fg_X11_67 rfl rfl rfl (ty := .object "RawPictures$Clumps") (by decide +kernel) rfl rfl (Nat.le_of_ble_eq_true rfl) hP hS dX11_init_109 rfl (fun H locs hP hS => ?_)
  have hP : nP D b 65 ((b, .inr (11, [.ref (b + 1), .ref (b + 3), .ref (b + 6), .ref (b + 8), .ref (b + 12), .ref (b + 17), .ref (b + 58), .ref (b + 61), .null, .null, .int 0, .int 0, .int 0])) :: (((((((wX9 ca (b + 1) ++ wX5 ca (b + 3)) ++ wX10 ca (b + 6)) ++ wX7 ca (b + 8)) ++ wX6 ca (b + 12) (b + 1)) ++ wX1 ca (b + 17) (b + 3) (b + 8)) ++ wX4 ca (b + 58) (b + 3)) ++ wX0 ca (b + 61) (b + 3))) H := hP
  refine lv_aload_n C.1 hb dX11_init_112 rfl (lv_at hl 0 rfl) ?_
  refine nw_new C (ci := 5) (N := 5) (fs := bX5) (pc' := 116) rfl gw_X5 tyX5 tyX5_ok cl_X11_16 in_X5 ii_X5 bl_X5 rfl (Nat.le_of_ble_eq_true rfl) (Nat.le_of_ble_eq_true rfl) hP hS dX11_init_113 rfl (fun H hP hS => ?_)
  have hP : nP D b 66 (((b, .inr (11, [.ref (b + 1), .ref (b + 3), .ref (b + 6), .ref (b + 8), .ref (b + 12), .ref (b + 17), .ref (b + 58), .ref (b + 61), .null, .null, .int 0, .int 0, .int 0])) :: (((((((wX9 ca (b + 1) ++ wX5 ca (b + 3)) ++ wX10 ca (b + 6)) ++ wX7 ca (b + 8)) ++ wX6 ca (b + 12) (b + 1)) ++ wX1 ca (b + 17) (b + 3) (b + 8)) ++ wX4 ca (b + 58) (b + 3)) ++ wX0 ca (b + 61) (b + 3))) ++ [(b + 65, .inr (5, bX5))]) H := hP
  refine lv_dup C.1 hb dX11_init_116 rfl ?_
  refine nw_call C (pc' := 120) (n := 65) (As := []) kc_X5 ii_X5 kn_X5 kp_X5 ki_X5 rfl lk_X11_i18 ⟨Nat.le_of_ble_eq_true rfl, Nat.le_of_ble_eq_true rfl⟩ (ok_X5 l D ca (b + 65) ) hP hS (Nat.le_of_ble_eq_true rfl) hl.1 rfl dX11_init_117 rfl ⟨Nat.le_of_ble_eq_true rfl, Nat.le_of_ble_eq_true rfl⟩ (fun H locs hP hS => ?_)
  have hP : nP D b 68 ((b, .inr (11, [.ref (b + 1), .ref (b + 3), .ref (b + 6), .ref (b + 8), .ref (b + 12), .ref (b + 17), .ref (b + 58), .ref (b + 61), .null, .null, .int 0, .int 0, .int 0])) :: ((((((((wX9 ca (b + 1) ++ wX5 ca (b + 3)) ++ wX10 ca (b + 6)) ++ wX7 ca (b + 8)) ++ wX6 ca (b + 12) (b + 1)) ++ wX1 ca (b + 17) (b + 3) (b + 8)) ++ wX4 ca (b + 58) (b + 3)) ++ wX0 ca (b + 61) (b + 3)) ++ wX5 ca (b + 65))) H := hP
  refine nw_putF C hin (pc' := 123) fg_X11_71 rfl rfl rfl (ty := .object "RawPictures$Mosaic") (by decide +kernel) rfl rfl (Nat.le_of_ble_eq_true rfl) hP hS dX11_init_120 rfl (fun H locs hP hS => ?_)
  have hP : nP D b 68 ((b, .inr (11, [.ref (b + 1), .ref (b + 3), .ref (b + 6), .ref (b + 8), .ref (b + 12), .ref (b + 17), .ref (b + 58), .ref (b + 61), .ref (b + 65), .null, .int 0, .int 0, .int 0])) :: ((((((((wX9 ca (b + 1) ++ wX5 ca (b + 3)) ++ wX10 ca (b + 6)) ++ wX7 ca (b + 8)) ++ wX6 ca (b + 12) (b + 1)) ++ wX1 ca (b + 17) (b + 3) (b + 8)) ++ wX4 ca (b + 58) (b + 3)) ++ wX0 ca (b + 61) (b + 3)) ++ wX5 ca (b + 65))) H := hP
  refine lv_aload_n C.1 hb dX11_init_123 rfl (lv_at hl 0 rfl) ?_
  refine nw_new C (ci := 7) (N := 5) (fs := bX7) (pc' := 127) rfl gw_X7 tyX7 tyX7_ok cl_X11_30 in_X7 ii_X7 bl_X7 rfl (Nat.le_of_ble_eq_true rfl) (Nat.le_of_ble_eq_true rfl) hP hS dX11_init_124 rfl (fun H hP hS => ?_)
  have hP : nP D b 69 (((b, .inr (11, [.ref (b + 1), .ref (b + 3), .ref (b + 6), .ref (b + 8), .ref (b + 12), .ref (b + 17), .ref (b + 58), .ref (b + 61), .ref (b + 65), .null, .int 0, .int 0, .int 0])) :: ((((((((wX9 ca (b + 1) ++ wX5 ca (b + 3)) ++ wX10 ca (b + 6)) ++ wX7 ca (b + 8)) ++ wX6 ca (b + 12) (b + 1)) ++ wX1 ca (b + 17) (b + 3) (b + 8)) ++ wX4 ca (b + 58) (b + 3)) ++ wX0 ca (b + 61) (b + 3)) ++ wX5 ca (b + 65))) ++ [(b + 68, .inr (7, bX7))]) H := hP
  refine lv_dup C.1 hb dX11_init_127 rfl ?_
  refine nw_call C (pc' := 131) (n := 68) (As := []) kc_X7 ii_X7 kn_X7 kp_X7 ki_X7 rfl lk_X11_i32 ⟨Nat.le_of_ble_eq_true rfl, Nat.le_of_ble_eq_true rfl⟩ (ok_X7 l D ca (b + 68) ) hP hS (Nat.le_of_ble_eq_true rfl) hl.1 rfl dX11_init_128 rfl ⟨Nat.le_of_ble_eq_true rfl, Nat.le_of_ble_eq_true rfl⟩ (fun H locs hP hS => ?_)
  have hP : nP D b 72 ((b, .inr (11, [.ref (b + 1), .ref (b + 3), .ref (b + 6), .ref (b + 8), .ref (b + 12), .ref (b + 17), .ref (b + 58), .ref (b + 61), .ref (b + 65), .null, .int 0, .int 0, .int 0])) :: (((((((((wX9 ca (b + 1) ++ wX5 ca (b + 3)) ++ wX10 ca (b + 6)) ++ wX7 ca (b + 8)) ++ wX6 ca (b + 12) (b + 1)) ++ wX1 ca (b + 17) (b + 3) (b + 8)) ++ wX4 ca (b + 58) (b + 3)) ++ wX0 ca (b + 61) (b + 3)) ++ wX5 ca (b + 65)) ++ wX7 ca (b + 68))) H := hP
  refine nw_putF C hin (pc' := 134) fg_X11_74 rfl rfl rfl (ty := .object "RawPictures$Recipe") (by decide +kernel) rfl rfl (Nat.le_of_ble_eq_true rfl) hP hS dX11_init_131 rfl (fun H locs hP hS => ?_)
  have hP : nP D b 72 ((b, .inr (11, [.ref (b + 1), .ref (b + 3), .ref (b + 6), .ref (b + 8), .ref (b + 12), .ref (b + 17), .ref (b + 58), .ref (b + 61), .ref (b + 65), .ref (b + 68), .int 0, .int 0, .int 0])) :: (((((((((wX9 ca (b + 1) ++ wX5 ca (b + 3)) ++ wX10 ca (b + 6)) ++ wX7 ca (b + 8)) ++ wX6 ca (b + 12) (b + 1)) ++ wX1 ca (b + 17) (b + 3) (b + 8)) ++ wX4 ca (b + 58) (b + 3)) ++ wX0 ca (b + 61) (b + 3)) ++ wX5 ca (b + 65)) ++ wX7 ca (b + 68))) H := hP
  refine lv_aload_n C.1 hb dX11_init_134 rfl (lv_at hl 0 rfl) ?_
  refine lv_iconst (v := Int32.ofInt (1)) C.1 hb dX11_init_135 rfl ?_
  refine nw_put C (pc' := 139) fp_X11_77 rfl rfl (Nat.le_of_ble_eq_true rfl) hP hS dX11_init_136 rfl (fun H locs hP hS => ?_)
  have hP : nP D b 72 ((b, .inr (11, [.ref (b + 1), .ref (b + 3), .ref (b + 6), .ref (b + 8), .ref (b + 12), .ref (b + 17), .ref (b + 58), .ref (b + 61), .ref (b + 65), .ref (b + 68), .int (Int32.ofInt (1)), .int 0, .int 0])) :: (((((((((wX9 ca (b + 1) ++ wX5 ca (b + 3)) ++ wX10 ca (b + 6)) ++ wX7 ca (b + 8)) ++ wX6 ca (b + 12) (b + 1)) ++ wX1 ca (b + 17) (b + 3) (b + 8)) ++ wX4 ca (b + 58) (b + 3)) ++ wX0 ca (b + 61) (b + 3)) ++ wX5 ca (b + 65)) ++ wX7 ca (b + 68))) H := hP
  refine lv_aload_n C.1 hb dX11_init_139 rfl (lv_at hl 0 rfl) ?_
  refine lv_iconst (v := Int32.ofInt (0)) C.1 hb dX11_init_140 rfl ?_
  refine nw_put C (pc' := 144) fp_X11_81 rfl rfl (Nat.le_of_ble_eq_true rfl) hP hS dX11_init_141 rfl (fun H locs hP hS => ?_)
  have hP : nP D b 72 ((b, .inr (11, [.ref (b + 1), .ref (b + 3), .ref (b + 6), .ref (b + 8), .ref (b + 12), .ref (b + 17), .ref (b + 58), .ref (b + 61), .ref (b + 65), .ref (b + 68), .int (Int32.ofInt (1)), .int (Int32.ofInt (0)), .int 0])) :: (((((((((wX9 ca (b + 1) ++ wX5 ca (b + 3)) ++ wX10 ca (b + 6)) ++ wX7 ca (b + 8)) ++ wX6 ca (b + 12) (b + 1)) ++ wX1 ca (b + 17) (b + 3) (b + 8)) ++ wX4 ca (b + 58) (b + 3)) ++ wX0 ca (b + 61) (b + 3)) ++ wX5 ca (b + 65)) ++ wX7 ca (b + 68))) H := hP
  refine lv_aload_n C.1 hb dX11_init_144 rfl (lv_at hl 0 rfl) ?_
  refine lv_iconst (v := Int32.ofInt (1)) C.1 hb dX11_init_145 rfl ?_
  refine nw_put C (pc' := 149) fp_X11_85 rfl rfl (Nat.le_of_ble_eq_true rfl) hP hS dX11_init_146 rfl (fun H locs hP hS => ?_)
  have hP : nP D b 72 ((b, .inr (11, [.ref (b + 1), .ref (b + 3), .ref (b + 6), .ref (b + 8), .ref (b + 12), .ref (b + 17), .ref (b + 58), .ref (b + 61), .ref (b + 65), .ref (b + 68), .int (Int32.ofInt (1)), .int (Int32.ofInt (0)), .int (Int32.ofInt (1))])) :: (((((((((wX9 ca (b + 1) ++ wX5 ca (b + 3)) ++ wX10 ca (b + 6)) ++ wX7 ca (b + 8)) ++ wX6 ca (b + 12) (b + 1)) ++ wX1 ca (b + 17) (b + 3) (b + 8)) ++ wX4 ca (b + 58) (b + 3)) ++ wX0 ca (b + 61) (b + 3)) ++ wX5 ca (b + 65)) ++ wX7 ca (b + 68))) H := hP
  exact nw_ret C rfl (k := 71) hP hS dX11_init_149
abbrev mX12_init : Mt := (cX12_init, 1, none, RX12, ({ frames := 1, cells := 29, slots := 17650, locals := 20 } : Room))
set_option maxRecDepth 20000 in
theorem kc_X12 : Cond.code yX12_init mX12_init.1 mX12_init.2.1 none ∈ gT := gS5 209 rfl rfl
set_option maxRecDepth 20000 in
theorem kn_X12 : yX12_init.cls ≠ "java/lang/invoke/MethodHandle" ∧ yX12_init.cls ≠ "java/lang/invoke/VarHandle" := ⟨by decide +kernel, by decide +kernel⟩
set_option maxRecDepth 20000 in
theorem kp_X12 : (parseMethodDescriptor yX12_init.desc).map (fun d => d.parameters.length) = some 0 := by decide +kernel
set_option maxRecDepth 20000 in
theorem ki_X12 : Cond.instanceMethod yX12_init ∈ gT := gS5 208 rfl rfl
set_option maxRecDepth 20000 in
theorem lk_L_i12 : zLk RL 12 yX12_init := Or.inl (gS5 207 rfl rfl)
def wX12 (ca : Nat → ClassId) (b : Nat) : va_W := (b, .inr (12, [.ref (b + 1), .ref (b + 2), .ref (b + 3), .ref (b + 4), .ref (b + 5), .ref (b + 6), .ref (b + 7), .ref (b + 8), .ref (b + 9), .ref (b + 10), .ref (b + 11), .int (Int32.ofInt (4)), .int (Int32.ofInt (4)), .int 0, .int 0, .int (Int32.ofInt (1)), .int 0, .int 0, .int 0, .int 0, .int 0, .int 0, .int 0, .int 0, .ref (b + 12), .int 0, .int 0, .int 0, .int 0, .int 0, .int 0, .int 0, .ref (b + 13), .ref (b + 14), .ref (b + 15), .ref (b + 16), .ref (b + 17), .ref (b + 18), .ref (b + 19), .ref (b + 20), .ref (b + 21), .ref (b + 22), .ref (b + 23), .ref (b + 24), .int 0, .int 0, .int 0, .int 0, .ref (b + 25), .ref (b + 26), .ref (b + 27), .ref (b + 28), .ref (b + 29), .int 0])) :: [(b + 1, zI (ca 0) 256), (b + 2, zI (ca 0) 768), (b + 3, zI (ca 0) 12), (b + 4, zI (ca 0) 13), (b + 5, zI (ca 0) 130), (b + 6, zI (ca 0) 256), (b + 7, zI (ca 0) 12), (b + 8, zI (ca 0) 13), (b + 9, zI (ca 0) 130), (b + 10, zI (ca 1) 256), (b + 11, zI (ca 1) 256), (b + 12, zI (ca 2) 140), (b + 13, zI (ca 0) 12), (b + 14, zI (ca 0) 13), (b + 15, zI (ca 0) 130), (b + 16, zI (ca 0) 6), (b + 17, zI (ca 0) 11520), (b + 18, zI (ca 0) 256), (b + 19, zI (ca 0) 768), (b + 20, zI (ca 0) 9), (b + 21, zI (ca 0) 4), (b + 22, zI (ca 0) 1024), (b + 23, zI (ca 0) 130), (b + 24, zI (ca 1) 256), (b + 25, zI (ca 0) 256), (b + 26, zI (ca 0) 256), (b + 27, zI (ca 0) 256), (b + 28, zI (ca 0) 256), (b + 29, zI (ca 0) 256)]
set_option maxHeartbeats 4000000 in
set_option maxRecDepth 100000 in
theorem ok_X12 (l : Launch) (D : va_G) (ca : Nat → ClassId) (b : Nat) : nM l D ca mX12_init yX12_init [] b (.inr (12, bX12)) 29 (wX12 ca b) := by
  refine nM_of (by decide) rfl rfl rfl (Nat.le_of_ble_eq_true rfl) ?_
  intro p e s m args below meth c ls C hin hl hP
  have hb : c.code = cX12_init := C.2.1
  have hS : nS b s.heap s.heap [] := va_S.rf
  have hl : lv_has ls 1 [(0, .ref b)] := hl
  have hP : nP D b 1 [(b, .inr (12, [.null, .null, .null, .null, .null, .null, .null, .null, .null, .null, .null, .int 0, .int 0, .int 0, .int 0, .int 0, .int 0, .int 0, .int 0, .int 0, .int 0, .int 0, .int 0, .int 0, .null, .int 0, .int 0, .int 0, .int 0, .int 0, .int 0, .int 0, .null, .null, .null, .null, .null, .null, .null, .null, .null, .null, .null, .null, .int 0, .int 0, .int 0, .int 0, .null, .null, .null, .null, .null, .int 0]))] s.heap := hP
  refine lv_aload_n C.1 hb dX12_init_0 rfl (lv_at hl 0 rfl) ?_
  refine nw_obj C (pc' := 4) oi_X12 oi_i oi_c hl.1 dX12_init_1 (Nat.le_of_ble_eq_true rfl) (Nat.le_of_ble_eq_true rfl) rfl ?_
  refine lv_aload_n C.1 hb dX12_init_4 rfl (lv_at hl 0 rfl) ?_
  refine lv_sipush (v := 256) C.1 hb dX12_init_5 (by decide) ?_
  refine nw_newa C (atype := .int) (t := 0) (N := 256) (a0 := (256, .inl (fun _ => 0))) (ty := .int) (pc' := 10) rfl ar_int rfl (fun h => h) (fun _ => rfl) (by decide) (by decide) (Nat.le_of_ble_eq_true rfl) (Nat.le_of_ble_eq_true rfl) (Nat.le_of_ble_eq_true rfl) hP hS dX12_init_8 rfl (fun H hP hS => ?_)
  have hP : nP D b 2 ((b, .inr (12, [.null, .null, .null, .null, .null, .null, .null, .null, .null, .null, .null, .int 0, .int 0, .int 0, .int 0, .int 0, .int 0, .int 0, .int 0, .int 0, .int 0, .int 0, .int 0, .int 0, .null, .int 0, .int 0, .int 0, .int 0, .int 0, .int 0, .int 0, .null, .null, .null, .null, .null, .null, .null, .null, .null, .null, .null, .null, .int 0, .int 0, .int 0, .int 0, .null, .null, .null, .null, .null, .int 0])) :: [(b + 1, zI (ca 0) 256)]) H := hP
  refine nw_putF C hin (pc' := 13) fg_X12_7 rfl rfl rfl (ty := .array .int) (by decide +kernel) rfl rfl (Nat.le_of_ble_eq_true rfl) hP hS dX12_init_10 rfl (fun H locs hP hS => ?_)
  have hP : nP D b 2 ((b, .inr (12, [.ref (b + 1), .null, .null, .null, .null, .null, .null, .null, .null, .null, .null, .int 0, .int 0, .int 0, .int 0, .int 0, .int 0, .int 0, .int 0, .int 0, .int 0, .int 0, .int 0, .int 0, .null, .int 0, .int 0, .int 0, .int 0, .int 0, .int 0, .int 0, .null, .null, .null, .null, .null, .null, .null, .null, .null, .null, .null, .null, .int 0, .int 0, .int 0, .int 0, .null, .null, .null, .null, .null, .int 0])) :: [(b + 1, zI (ca 0) 256)]) H := hP
  refine lv_aload_n C.1 hb dX12_init_13 rfl (lv_at hl 0 rfl) ?_
  refine lv_sipush (v := 768) C.1 hb dX12_init_14 (by decide) ?_
  refine nw_newa C (atype := .int) (t := 0) (N := 768) (a0 := (768, .inl (fun _ => 0))) (ty := .int) (pc' := 19) rfl ar_int rfl (fun h => h) (fun _ => rfl) (by decide) (by decide) (Nat.le_of_ble_eq_true rfl) (Nat.le_of_ble_eq_true rfl) (Nat.le_of_ble_eq_true rfl) hP hS dX12_init_17 rfl (fun H hP hS => ?_)
  have hP : nP D b 3 ((b, .inr (12, [.ref (b + 1), .null, .null, .null, .null, .null, .null, .null, .null, .null, .null, .int 0, .int 0, .int 0, .int 0, .int 0, .int 0, .int 0, .int 0, .int 0, .int 0, .int 0, .int 0, .int 0, .null, .int 0, .int 0, .int 0, .int 0, .int 0, .int 0, .int 0, .null, .null, .null, .null, .null, .null, .null, .null, .null, .null, .null, .null, .int 0, .int 0, .int 0, .int 0, .null, .null, .null, .null, .null, .int 0])) :: [(b + 1, zI (ca 0) 256), (b + 2, zI (ca 0) 768)]) H := hP
  refine nw_putF C hin (pc' := 22) fg_X12_13 rfl rfl rfl (ty := .array .int) (by decide +kernel) rfl rfl (Nat.le_of_ble_eq_true rfl) hP hS dX12_init_19 rfl (fun H locs hP hS => ?_)
  have hP : nP D b 3 ((b, .inr (12, [.ref (b + 1), .ref (b + 2), .null, .null, .null, .null, .null, .null, .null, .null, .null, .int 0, .int 0, .int 0, .int 0, .int 0, .int 0, .int 0, .int 0, .int 0, .int 0, .int 0, .int 0, .int 0, .null, .int 0, .int 0, .int 0, .int 0, .int 0, .int 0, .int 0, .null, .null, .null, .null, .null, .null, .null, .null, .null, .null, .null, .null, .int 0, .int 0, .int 0, .int 0, .null, .null, .null, .null, .null, .int 0])) :: [(b + 1, zI (ca 0) 256), (b + 2, zI (ca 0) 768)]) H := hP
  refine lv_aload_n C.1 hb dX12_init_22 rfl (lv_at hl 0 rfl) ?_
  refine lv_bipush (v := 12) C.1 hb dX12_init_23 (by decide) ?_
  refine nw_newa C (atype := .int) (t := 0) (N := 12) (a0 := (12, .inl (fun _ => 0))) (ty := .int) (pc' := 27) rfl ar_int rfl (fun h => h) (fun _ => rfl) (by decide) (by decide) (Nat.le_of_ble_eq_true rfl) (Nat.le_of_ble_eq_true rfl) (Nat.le_of_ble_eq_true rfl) hP hS dX12_init_25 rfl (fun H hP hS => ?_)
  have hP : nP D b 4 ((b, .inr (12, [.ref (b + 1), .ref (b + 2), .null, .null, .null, .null, .null, .null, .null, .null, .null, .int 0, .int 0, .int 0, .int 0, .int 0, .int 0, .int 0, .int 0, .int 0, .int 0, .int 0, .int 0, .int 0, .null, .int 0, .int 0, .int 0, .int 0, .int 0, .int 0, .int 0, .null, .null, .null, .null, .null, .null, .null, .null, .null, .null, .null, .null, .int 0, .int 0, .int 0, .int 0, .null, .null, .null, .null, .null, .int 0])) :: [(b + 1, zI (ca 0) 256), (b + 2, zI (ca 0) 768), (b + 3, zI (ca 0) 12)]) H := hP
  refine nw_putF C hin (pc' := 30) fg_X12_16 rfl rfl rfl (ty := .array .int) (by decide +kernel) rfl rfl (Nat.le_of_ble_eq_true rfl) hP hS dX12_init_27 rfl (fun H locs hP hS => ?_)
  have hP : nP D b 4 ((b, .inr (12, [.ref (b + 1), .ref (b + 2), .ref (b + 3), .null, .null, .null, .null, .null, .null, .null, .null, .int 0, .int 0, .int 0, .int 0, .int 0, .int 0, .int 0, .int 0, .int 0, .int 0, .int 0, .int 0, .int 0, .null, .int 0, .int 0, .int 0, .int 0, .int 0, .int 0, .int 0, .null, .null, .null, .null, .null, .null, .null, .null, .null, .null, .null, .null, .int 0, .int 0, .int 0, .int 0, .null, .null, .null, .null, .null, .int 0])) :: [(b + 1, zI (ca 0) 256), (b + 2, zI (ca 0) 768), (b + 3, zI (ca 0) 12)]) H := hP
  refine lv_aload_n C.1 hb dX12_init_30 rfl (lv_at hl 0 rfl) ?_
  refine lv_bipush (v := 13) C.1 hb dX12_init_31 (by decide) ?_
  refine nw_newa C (atype := .int) (t := 0) (N := 13) (a0 := (13, .inl (fun _ => 0))) (ty := .int) (pc' := 35) rfl ar_int rfl (fun h => h) (fun _ => rfl) (by decide) (by decide) (Nat.le_of_ble_eq_true rfl) (Nat.le_of_ble_eq_true rfl) (Nat.le_of_ble_eq_true rfl) hP hS dX12_init_33 rfl (fun H hP hS => ?_)
  have hP : nP D b 5 ((b, .inr (12, [.ref (b + 1), .ref (b + 2), .ref (b + 3), .null, .null, .null, .null, .null, .null, .null, .null, .int 0, .int 0, .int 0, .int 0, .int 0, .int 0, .int 0, .int 0, .int 0, .int 0, .int 0, .int 0, .int 0, .null, .int 0, .int 0, .int 0, .int 0, .int 0, .int 0, .int 0, .null, .null, .null, .null, .null, .null, .null, .null, .null, .null, .null, .null, .int 0, .int 0, .int 0, .int 0, .null, .null, .null, .null, .null, .int 0])) :: [(b + 1, zI (ca 0) 256), (b + 2, zI (ca 0) 768), (b + 3, zI (ca 0) 12), (b + 4, zI (ca 0) 13)]) H := hP
  refine nw_putF C hin (pc' := 38) fg_X12_19 rfl rfl rfl (ty := .array .int) (by decide +kernel) rfl rfl (Nat.le_of_ble_eq_true rfl) hP hS dX12_init_35 rfl (fun H locs hP hS => ?_)
  have hP : nP D b 5 ((b, .inr (12, [.ref (b + 1), .ref (b + 2), .ref (b + 3), .ref (b + 4), .null, .null, .null, .null, .null, .null, .null, .int 0, .int 0, .int 0, .int 0, .int 0, .int 0, .int 0, .int 0, .int 0, .int 0, .int 0, .int 0, .int 0, .null, .int 0, .int 0, .int 0, .int 0, .int 0, .int 0, .int 0, .null, .null, .null, .null, .null, .null, .null, .null, .null, .null, .null, .null, .int 0, .int 0, .int 0, .int 0, .null, .null, .null, .null, .null, .int 0])) :: [(b + 1, zI (ca 0) 256), (b + 2, zI (ca 0) 768), (b + 3, zI (ca 0) 12), (b + 4, zI (ca 0) 13)]) H := hP
  refine lv_aload_n C.1 hb dX12_init_38 rfl (lv_at hl 0 rfl) ?_
  refine lv_sipush (v := 130) C.1 hb dX12_init_39 (by decide) ?_
  refine nw_newa C (atype := .int) (t := 0) (N := 130) (a0 := (130, .inl (fun _ => 0))) (ty := .int) (pc' := 44) rfl ar_int rfl (fun h => h) (fun _ => rfl) (by decide) (by decide) (Nat.le_of_ble_eq_true rfl) (Nat.le_of_ble_eq_true rfl) (Nat.le_of_ble_eq_true rfl) hP hS dX12_init_42 rfl (fun H hP hS => ?_)
  have hP : nP D b 6 ((b, .inr (12, [.ref (b + 1), .ref (b + 2), .ref (b + 3), .ref (b + 4), .null, .null, .null, .null, .null, .null, .null, .int 0, .int 0, .int 0, .int 0, .int 0, .int 0, .int 0, .int 0, .int 0, .int 0, .int 0, .int 0, .int 0, .null, .int 0, .int 0, .int 0, .int 0, .int 0, .int 0, .int 0, .null, .null, .null, .null, .null, .null, .null, .null, .null, .null, .null, .null, .int 0, .int 0, .int 0, .int 0, .null, .null, .null, .null, .null, .int 0])) :: [(b + 1, zI (ca 0) 256), (b + 2, zI (ca 0) 768), (b + 3, zI (ca 0) 12), (b + 4, zI (ca 0) 13), (b + 5, zI (ca 0) 130)]) H := hP
  refine nw_putF C hin (pc' := 47) fg_X12_22 rfl rfl rfl (ty := .array .int) (by decide +kernel) rfl rfl (Nat.le_of_ble_eq_true rfl) hP hS dX12_init_44 rfl (fun H locs hP hS => ?_)
  have hP : nP D b 6 ((b, .inr (12, [.ref (b + 1), .ref (b + 2), .ref (b + 3), .ref (b + 4), .ref (b + 5), .null, .null, .null, .null, .null, .null, .int 0, .int 0, .int 0, .int 0, .int 0, .int 0, .int 0, .int 0, .int 0, .int 0, .int 0, .int 0, .int 0, .null, .int 0, .int 0, .int 0, .int 0, .int 0, .int 0, .int 0, .null, .null, .null, .null, .null, .null, .null, .null, .null, .null, .null, .null, .int 0, .int 0, .int 0, .int 0, .null, .null, .null, .null, .null, .int 0])) :: [(b + 1, zI (ca 0) 256), (b + 2, zI (ca 0) 768), (b + 3, zI (ca 0) 12), (b + 4, zI (ca 0) 13), (b + 5, zI (ca 0) 130)]) H := hP
  refine lv_aload_n C.1 hb dX12_init_47 rfl (lv_at hl 0 rfl) ?_
  refine lv_sipush (v := 256) C.1 hb dX12_init_48 (by decide) ?_
  refine nw_newa C (atype := .int) (t := 0) (N := 256) (a0 := (256, .inl (fun _ => 0))) (ty := .int) (pc' := 53) rfl ar_int rfl (fun h => h) (fun _ => rfl) (by decide) (by decide) (Nat.le_of_ble_eq_true rfl) (Nat.le_of_ble_eq_true rfl) (Nat.le_of_ble_eq_true rfl) hP hS dX12_init_51 rfl (fun H hP hS => ?_)
  have hP : nP D b 7 ((b, .inr (12, [.ref (b + 1), .ref (b + 2), .ref (b + 3), .ref (b + 4), .ref (b + 5), .null, .null, .null, .null, .null, .null, .int 0, .int 0, .int 0, .int 0, .int 0, .int 0, .int 0, .int 0, .int 0, .int 0, .int 0, .int 0, .int 0, .null, .int 0, .int 0, .int 0, .int 0, .int 0, .int 0, .int 0, .null, .null, .null, .null, .null, .null, .null, .null, .null, .null, .null, .null, .int 0, .int 0, .int 0, .int 0, .null, .null, .null, .null, .null, .int 0])) :: [(b + 1, zI (ca 0) 256), (b + 2, zI (ca 0) 768), (b + 3, zI (ca 0) 12), (b + 4, zI (ca 0) 13), (b + 5, zI (ca 0) 130), (b + 6, zI (ca 0) 256)]) H := hP
  refine nw_putF C hin (pc' := 56) fg_X12_25 rfl rfl rfl (ty := .array .int) (by decide +kernel) rfl rfl (Nat.le_of_ble_eq_true rfl) hP hS dX12_init_53 rfl (fun H locs hP hS => ?_)
  have hP : nP D b 7 ((b, .inr (12, [.ref (b + 1), .ref (b + 2), .ref (b + 3), .ref (b + 4), .ref (b + 5), .ref (b + 6), .null, .null, .null, .null, .null, .int 0, .int 0, .int 0, .int 0, .int 0, .int 0, .int 0, .int 0, .int 0, .int 0, .int 0, .int 0, .int 0, .null, .int 0, .int 0, .int 0, .int 0, .int 0, .int 0, .int 0, .null, .null, .null, .null, .null, .null, .null, .null, .null, .null, .null, .null, .int 0, .int 0, .int 0, .int 0, .null, .null, .null, .null, .null, .int 0])) :: [(b + 1, zI (ca 0) 256), (b + 2, zI (ca 0) 768), (b + 3, zI (ca 0) 12), (b + 4, zI (ca 0) 13), (b + 5, zI (ca 0) 130), (b + 6, zI (ca 0) 256)]) H := hP
  refine lv_aload_n C.1 hb dX12_init_56 rfl (lv_at hl 0 rfl) ?_
  refine lv_bipush (v := 12) C.1 hb dX12_init_57 (by decide) ?_
  refine nw_newa C (atype := .int) (t := 0) (N := 12) (a0 := (12, .inl (fun _ => 0))) (ty := .int) (pc' := 61) rfl ar_int rfl (fun h => h) (fun _ => rfl) (by decide) (by decide) (Nat.le_of_ble_eq_true rfl) (Nat.le_of_ble_eq_true rfl) (Nat.le_of_ble_eq_true rfl) hP hS dX12_init_59 rfl (fun H hP hS => ?_)
  have hP : nP D b 8 ((b, .inr (12, [.ref (b + 1), .ref (b + 2), .ref (b + 3), .ref (b + 4), .ref (b + 5), .ref (b + 6), .null, .null, .null, .null, .null, .int 0, .int 0, .int 0, .int 0, .int 0, .int 0, .int 0, .int 0, .int 0, .int 0, .int 0, .int 0, .int 0, .null, .int 0, .int 0, .int 0, .int 0, .int 0, .int 0, .int 0, .null, .null, .null, .null, .null, .null, .null, .null, .null, .null, .null, .null, .int 0, .int 0, .int 0, .int 0, .null, .null, .null, .null, .null, .int 0])) :: [(b + 1, zI (ca 0) 256), (b + 2, zI (ca 0) 768), (b + 3, zI (ca 0) 12), (b + 4, zI (ca 0) 13), (b + 5, zI (ca 0) 130), (b + 6, zI (ca 0) 256), (b + 7, zI (ca 0) 12)]) H := hP
  refine nw_putF C hin (pc' := 64) fg_X12_28 rfl rfl rfl (ty := .array .int) (by decide +kernel) rfl rfl (Nat.le_of_ble_eq_true rfl) hP hS dX12_init_61 rfl (fun H locs hP hS => ?_)
  have hP : nP D b 8 ((b, .inr (12, [.ref (b + 1), .ref (b + 2), .ref (b + 3), .ref (b + 4), .ref (b + 5), .ref (b + 6), .ref (b + 7), .null, .null, .null, .null, .int 0, .int 0, .int 0, .int 0, .int 0, .int 0, .int 0, .int 0, .int 0, .int 0, .int 0, .int 0, .int 0, .null, .int 0, .int 0, .int 0, .int 0, .int 0, .int 0, .int 0, .null, .null, .null, .null, .null, .null, .null, .null, .null, .null, .null, .null, .int 0, .int 0, .int 0, .int 0, .null, .null, .null, .null, .null, .int 0])) :: [(b + 1, zI (ca 0) 256), (b + 2, zI (ca 0) 768), (b + 3, zI (ca 0) 12), (b + 4, zI (ca 0) 13), (b + 5, zI (ca 0) 130), (b + 6, zI (ca 0) 256), (b + 7, zI (ca 0) 12)]) H := hP
  refine lv_aload_n C.1 hb dX12_init_64 rfl (lv_at hl 0 rfl) ?_
  refine lv_bipush (v := 13) C.1 hb dX12_init_65 (by decide) ?_
  refine nw_newa C (atype := .int) (t := 0) (N := 13) (a0 := (13, .inl (fun _ => 0))) (ty := .int) (pc' := 69) rfl ar_int rfl (fun h => h) (fun _ => rfl) (by decide) (by decide) (Nat.le_of_ble_eq_true rfl) (Nat.le_of_ble_eq_true rfl) (Nat.le_of_ble_eq_true rfl) hP hS dX12_init_67 rfl (fun H hP hS => ?_)
  have hP : nP D b 9 ((b, .inr (12, [.ref (b + 1), .ref (b + 2), .ref (b + 3), .ref (b + 4), .ref (b + 5), .ref (b + 6), .ref (b + 7), .null, .null, .null, .null, .int 0, .int 0, .int 0, .int 0, .int 0, .int 0, .int 0, .int 0, .int 0, .int 0, .int 0, .int 0, .int 0, .null, .int 0, .int 0, .int 0, .int 0, .int 0, .int 0, .int 0, .null, .null, .null, .null, .null, .null, .null, .null, .null, .null, .null, .null, .int 0, .int 0, .int 0, .int 0, .null, .null, .null, .null, .null, .int 0])) :: [(b + 1, zI (ca 0) 256), (b + 2, zI (ca 0) 768), (b + 3, zI (ca 0) 12), (b + 4, zI (ca 0) 13), (b + 5, zI (ca 0) 130), (b + 6, zI (ca 0) 256), (b + 7, zI (ca 0) 12), (b + 8, zI (ca 0) 13)]) H := hP
  refine nw_putF C hin (pc' := 72) fg_X12_31 rfl rfl rfl (ty := .array .int) (by decide +kernel) rfl rfl (Nat.le_of_ble_eq_true rfl) hP hS dX12_init_69 rfl (fun H locs hP hS => ?_)
  have hP : nP D b 9 ((b, .inr (12, [.ref (b + 1), .ref (b + 2), .ref (b + 3), .ref (b + 4), .ref (b + 5), .ref (b + 6), .ref (b + 7), .ref (b + 8), .null, .null, .null, .int 0, .int 0, .int 0, .int 0, .int 0, .int 0, .int 0, .int 0, .int 0, .int 0, .int 0, .int 0, .int 0, .null, .int 0, .int 0, .int 0, .int 0, .int 0, .int 0, .int 0, .null, .null, .null, .null, .null, .null, .null, .null, .null, .null, .null, .null, .int 0, .int 0, .int 0, .int 0, .null, .null, .null, .null, .null, .int 0])) :: [(b + 1, zI (ca 0) 256), (b + 2, zI (ca 0) 768), (b + 3, zI (ca 0) 12), (b + 4, zI (ca 0) 13), (b + 5, zI (ca 0) 130), (b + 6, zI (ca 0) 256), (b + 7, zI (ca 0) 12), (b + 8, zI (ca 0) 13)]) H := hP
  refine lv_aload_n C.1 hb dX12_init_72 rfl (lv_at hl 0 rfl) ?_
  refine lv_sipush (v := 130) C.1 hb dX12_init_73 (by decide) ?_
  refine nw_newa C (atype := .int) (t := 0) (N := 130) (a0 := (130, .inl (fun _ => 0))) (ty := .int) (pc' := 78) rfl ar_int rfl (fun h => h) (fun _ => rfl) (by decide) (by decide) (Nat.le_of_ble_eq_true rfl) (Nat.le_of_ble_eq_true rfl) (Nat.le_of_ble_eq_true rfl) hP hS dX12_init_76 rfl (fun H hP hS => ?_)
  have hP : nP D b 10 ((b, .inr (12, [.ref (b + 1), .ref (b + 2), .ref (b + 3), .ref (b + 4), .ref (b + 5), .ref (b + 6), .ref (b + 7), .ref (b + 8), .null, .null, .null, .int 0, .int 0, .int 0, .int 0, .int 0, .int 0, .int 0, .int 0, .int 0, .int 0, .int 0, .int 0, .int 0, .null, .int 0, .int 0, .int 0, .int 0, .int 0, .int 0, .int 0, .null, .null, .null, .null, .null, .null, .null, .null, .null, .null, .null, .null, .int 0, .int 0, .int 0, .int 0, .null, .null, .null, .null, .null, .int 0])) :: [(b + 1, zI (ca 0) 256), (b + 2, zI (ca 0) 768), (b + 3, zI (ca 0) 12), (b + 4, zI (ca 0) 13), (b + 5, zI (ca 0) 130), (b + 6, zI (ca 0) 256), (b + 7, zI (ca 0) 12), (b + 8, zI (ca 0) 13), (b + 9, zI (ca 0) 130)]) H := hP
  refine nw_putF C hin (pc' := 81) fg_X12_34 rfl rfl rfl (ty := .array .int) (by decide +kernel) rfl rfl (Nat.le_of_ble_eq_true rfl) hP hS dX12_init_78 rfl (fun H locs hP hS => ?_)
  have hP : nP D b 10 ((b, .inr (12, [.ref (b + 1), .ref (b + 2), .ref (b + 3), .ref (b + 4), .ref (b + 5), .ref (b + 6), .ref (b + 7), .ref (b + 8), .ref (b + 9), .null, .null, .int 0, .int 0, .int 0, .int 0, .int 0, .int 0, .int 0, .int 0, .int 0, .int 0, .int 0, .int 0, .int 0, .null, .int 0, .int 0, .int 0, .int 0, .int 0, .int 0, .int 0, .null, .null, .null, .null, .null, .null, .null, .null, .null, .null, .null, .null, .int 0, .int 0, .int 0, .int 0, .null, .null, .null, .null, .null, .int 0])) :: [(b + 1, zI (ca 0) 256), (b + 2, zI (ca 0) 768), (b + 3, zI (ca 0) 12), (b + 4, zI (ca 0) 13), (b + 5, zI (ca 0) 130), (b + 6, zI (ca 0) 256), (b + 7, zI (ca 0) 12), (b + 8, zI (ca 0) 13), (b + 9, zI (ca 0) 130)]) H := hP
  refine lv_aload_n C.1 hb dX12_init_81 rfl (lv_at hl 0 rfl) ?_
  refine lv_sipush (v := 256) C.1 hb dX12_init_82 (by decide) ?_
  refine nw_newa C (atype := .boolean) (t := 1) (N := 256) (a0 := (256, .inl (fun _ => 0))) (ty := .boolean) (pc' := 87) rfl ar_boolean rfl (fun h => h) (fun _ => rfl) (by decide) (by decide) (Nat.le_of_ble_eq_true rfl) (Nat.le_of_ble_eq_true rfl) (Nat.le_of_ble_eq_true rfl) hP hS dX12_init_85 rfl (fun H hP hS => ?_)
  have hP : nP D b 11 ((b, .inr (12, [.ref (b + 1), .ref (b + 2), .ref (b + 3), .ref (b + 4), .ref (b + 5), .ref (b + 6), .ref (b + 7), .ref (b + 8), .ref (b + 9), .null, .null, .int 0, .int 0, .int 0, .int 0, .int 0, .int 0, .int 0, .int 0, .int 0, .int 0, .int 0, .int 0, .int 0, .null, .int 0, .int 0, .int 0, .int 0, .int 0, .int 0, .int 0, .null, .null, .null, .null, .null, .null, .null, .null, .null, .null, .null, .null, .int 0, .int 0, .int 0, .int 0, .null, .null, .null, .null, .null, .int 0])) :: [(b + 1, zI (ca 0) 256), (b + 2, zI (ca 0) 768), (b + 3, zI (ca 0) 12), (b + 4, zI (ca 0) 13), (b + 5, zI (ca 0) 130), (b + 6, zI (ca 0) 256), (b + 7, zI (ca 0) 12), (b + 8, zI (ca 0) 13), (b + 9, zI (ca 0) 130), (b + 10, zI (ca 1) 256)]) H := hP
  refine nw_putF C hin (pc' := 90) fg_X12_37 rfl rfl rfl (ty := .array .boolean) (by decide +kernel) rfl rfl (Nat.le_of_ble_eq_true rfl) hP hS dX12_init_87 rfl (fun H locs hP hS => ?_)
  have hP : nP D b 11 ((b, .inr (12, [.ref (b + 1), .ref (b + 2), .ref (b + 3), .ref (b + 4), .ref (b + 5), .ref (b + 6), .ref (b + 7), .ref (b + 8), .ref (b + 9), .ref (b + 10), .null, .int 0, .int 0, .int 0, .int 0, .int 0, .int 0, .int 0, .int 0, .int 0, .int 0, .int 0, .int 0, .int 0, .null, .int 0, .int 0, .int 0, .int 0, .int 0, .int 0, .int 0, .null, .null, .null, .null, .null, .null, .null, .null, .null, .null, .null, .null, .int 0, .int 0, .int 0, .int 0, .null, .null, .null, .null, .null, .int 0])) :: [(b + 1, zI (ca 0) 256), (b + 2, zI (ca 0) 768), (b + 3, zI (ca 0) 12), (b + 4, zI (ca 0) 13), (b + 5, zI (ca 0) 130), (b + 6, zI (ca 0) 256), (b + 7, zI (ca 0) 12), (b + 8, zI (ca 0) 13), (b + 9, zI (ca 0) 130), (b + 10, zI (ca 1) 256)]) H := hP
  refine lv_aload_n C.1 hb dX12_init_90 rfl (lv_at hl 0 rfl) ?_
  refine lv_sipush (v := 256) C.1 hb dX12_init_91 (by decide) ?_
  refine nw_newa C (atype := .boolean) (t := 1) (N := 256) (a0 := (256, .inl (fun _ => 0))) (ty := .boolean) (pc' := 96) rfl ar_boolean rfl (fun h => h) (fun _ => rfl) (by decide) (by decide) (Nat.le_of_ble_eq_true rfl) (Nat.le_of_ble_eq_true rfl) (Nat.le_of_ble_eq_true rfl) hP hS dX12_init_94 rfl (fun H hP hS => ?_)
  have hP : nP D b 12 ((b, .inr (12, [.ref (b + 1), .ref (b + 2), .ref (b + 3), .ref (b + 4), .ref (b + 5), .ref (b + 6), .ref (b + 7), .ref (b + 8), .ref (b + 9), .ref (b + 10), .null, .int 0, .int 0, .int 0, .int 0, .int 0, .int 0, .int 0, .int 0, .int 0, .int 0, .int 0, .int 0, .int 0, .null, .int 0, .int 0, .int 0, .int 0, .int 0, .int 0, .int 0, .null, .null, .null, .null, .null, .null, .null, .null, .null, .null, .null, .null, .int 0, .int 0, .int 0, .int 0, .null, .null, .null, .null, .null, .int 0])) :: [(b + 1, zI (ca 0) 256), (b + 2, zI (ca 0) 768), (b + 3, zI (ca 0) 12), (b + 4, zI (ca 0) 13), (b + 5, zI (ca 0) 130), (b + 6, zI (ca 0) 256), (b + 7, zI (ca 0) 12), (b + 8, zI (ca 0) 13), (b + 9, zI (ca 0) 130), (b + 10, zI (ca 1) 256), (b + 11, zI (ca 1) 256)]) H := hP
  refine nw_putF C hin (pc' := 99) fg_X12_41 rfl rfl rfl (ty := .array .boolean) (by decide +kernel) rfl rfl (Nat.le_of_ble_eq_true rfl) hP hS dX12_init_96 rfl (fun H locs hP hS => ?_)
  have hP : nP D b 12 ((b, .inr (12, [.ref (b + 1), .ref (b + 2), .ref (b + 3), .ref (b + 4), .ref (b + 5), .ref (b + 6), .ref (b + 7), .ref (b + 8), .ref (b + 9), .ref (b + 10), .ref (b + 11), .int 0, .int 0, .int 0, .int 0, .int 0, .int 0, .int 0, .int 0, .int 0, .int 0, .int 0, .int 0, .int 0, .null, .int 0, .int 0, .int 0, .int 0, .int 0, .int 0, .int 0, .null, .null, .null, .null, .null, .null, .null, .null, .null, .null, .null, .null, .int 0, .int 0, .int 0, .int 0, .null, .null, .null, .null, .null, .int 0])) :: [(b + 1, zI (ca 0) 256), (b + 2, zI (ca 0) 768), (b + 3, zI (ca 0) 12), (b + 4, zI (ca 0) 13), (b + 5, zI (ca 0) 130), (b + 6, zI (ca 0) 256), (b + 7, zI (ca 0) 12), (b + 8, zI (ca 0) 13), (b + 9, zI (ca 0) 130), (b + 10, zI (ca 1) 256), (b + 11, zI (ca 1) 256)]) H := hP
  refine lv_aload_n C.1 hb dX12_init_99 rfl (lv_at hl 0 rfl) ?_
  refine lv_sipush (v := 140) C.1 hb dX12_init_100 (by decide) ?_
  refine nw_newa C (atype := .byte) (t := 2) (N := 140) (a0 := (140, .inl (fun _ => 0))) (ty := .byte) (pc' := 105) rfl ar_byte rfl (fun h => h) (fun _ => rfl) (by decide) (by decide) (Nat.le_of_ble_eq_true rfl) (Nat.le_of_ble_eq_true rfl) (Nat.le_of_ble_eq_true rfl) hP hS dX12_init_103 rfl (fun H hP hS => ?_)
  have hP : nP D b 13 ((b, .inr (12, [.ref (b + 1), .ref (b + 2), .ref (b + 3), .ref (b + 4), .ref (b + 5), .ref (b + 6), .ref (b + 7), .ref (b + 8), .ref (b + 9), .ref (b + 10), .ref (b + 11), .int 0, .int 0, .int 0, .int 0, .int 0, .int 0, .int 0, .int 0, .int 0, .int 0, .int 0, .int 0, .int 0, .null, .int 0, .int 0, .int 0, .int 0, .int 0, .int 0, .int 0, .null, .null, .null, .null, .null, .null, .null, .null, .null, .null, .null, .null, .int 0, .int 0, .int 0, .int 0, .null, .null, .null, .null, .null, .int 0])) :: [(b + 1, zI (ca 0) 256), (b + 2, zI (ca 0) 768), (b + 3, zI (ca 0) 12), (b + 4, zI (ca 0) 13), (b + 5, zI (ca 0) 130), (b + 6, zI (ca 0) 256), (b + 7, zI (ca 0) 12), (b + 8, zI (ca 0) 13), (b + 9, zI (ca 0) 130), (b + 10, zI (ca 1) 256), (b + 11, zI (ca 1) 256), (b + 12, zI (ca 2) 140)]) H := hP
  refine nw_putF C hin (pc' := 108) fg_X12_44 rfl rfl rfl (ty := .array .byte) (by decide +kernel) rfl rfl (Nat.le_of_ble_eq_true rfl) hP hS dX12_init_105 rfl (fun H locs hP hS => ?_)
  have hP : nP D b 13 ((b, .inr (12, [.ref (b + 1), .ref (b + 2), .ref (b + 3), .ref (b + 4), .ref (b + 5), .ref (b + 6), .ref (b + 7), .ref (b + 8), .ref (b + 9), .ref (b + 10), .ref (b + 11), .int 0, .int 0, .int 0, .int 0, .int 0, .int 0, .int 0, .int 0, .int 0, .int 0, .int 0, .int 0, .int 0, .ref (b + 12), .int 0, .int 0, .int 0, .int 0, .int 0, .int 0, .int 0, .null, .null, .null, .null, .null, .null, .null, .null, .null, .null, .null, .null, .int 0, .int 0, .int 0, .int 0, .null, .null, .null, .null, .null, .int 0])) :: [(b + 1, zI (ca 0) 256), (b + 2, zI (ca 0) 768), (b + 3, zI (ca 0) 12), (b + 4, zI (ca 0) 13), (b + 5, zI (ca 0) 130), (b + 6, zI (ca 0) 256), (b + 7, zI (ca 0) 12), (b + 8, zI (ca 0) 13), (b + 9, zI (ca 0) 130), (b + 10, zI (ca 1) 256), (b + 11, zI (ca 1) 256), (b + 12, zI (ca 2) 140)]) H := hP
  refine lv_aload_n C.1 hb dX12_init_108 rfl (lv_at hl 0 rfl) ?_
  refine lv_bipush (v := 12) C.1 hb dX12_init_109 (by decide) ?_
  refine nw_newa C (atype := .int) (t := 0) (N := 12) (a0 := (12, .inl (fun _ => 0))) (ty := .int) (pc' := 113) rfl ar_int rfl (fun h => h) (fun _ => rfl) (by decide) (by decide) (Nat.le_of_ble_eq_true rfl) (Nat.le_of_ble_eq_true rfl) (Nat.le_of_ble_eq_true rfl) hP hS dX12_init_111 rfl (fun H hP hS => ?_)
  have hP : nP D b 14 ((b, .inr (12, [.ref (b + 1), .ref (b + 2), .ref (b + 3), .ref (b + 4), .ref (b + 5), .ref (b + 6), .ref (b + 7), .ref (b + 8), .ref (b + 9), .ref (b + 10), .ref (b + 11), .int 0, .int 0, .int 0, .int 0, .int 0, .int 0, .int 0, .int 0, .int 0, .int 0, .int 0, .int 0, .int 0, .ref (b + 12), .int 0, .int 0, .int 0, .int 0, .int 0, .int 0, .int 0, .null, .null, .null, .null, .null, .null, .null, .null, .null, .null, .null, .null, .int 0, .int 0, .int 0, .int 0, .null, .null, .null, .null, .null, .int 0])) :: [(b + 1, zI (ca 0) 256), (b + 2, zI (ca 0) 768), (b + 3, zI (ca 0) 12), (b + 4, zI (ca 0) 13), (b + 5, zI (ca 0) 130), (b + 6, zI (ca 0) 256), (b + 7, zI (ca 0) 12), (b + 8, zI (ca 0) 13), (b + 9, zI (ca 0) 130), (b + 10, zI (ca 1) 256), (b + 11, zI (ca 1) 256), (b + 12, zI (ca 2) 140), (b + 13, zI (ca 0) 12)]) H := hP
  refine nw_putF C hin (pc' := 116) fg_X12_48 rfl rfl rfl (ty := .array .int) (by decide +kernel) rfl rfl (Nat.le_of_ble_eq_true rfl) hP hS dX12_init_113 rfl (fun H locs hP hS => ?_)
  have hP : nP D b 14 ((b, .inr (12, [.ref (b + 1), .ref (b + 2), .ref (b + 3), .ref (b + 4), .ref (b + 5), .ref (b + 6), .ref (b + 7), .ref (b + 8), .ref (b + 9), .ref (b + 10), .ref (b + 11), .int 0, .int 0, .int 0, .int 0, .int 0, .int 0, .int 0, .int 0, .int 0, .int 0, .int 0, .int 0, .int 0, .ref (b + 12), .int 0, .int 0, .int 0, .int 0, .int 0, .int 0, .int 0, .ref (b + 13), .null, .null, .null, .null, .null, .null, .null, .null, .null, .null, .null, .int 0, .int 0, .int 0, .int 0, .null, .null, .null, .null, .null, .int 0])) :: [(b + 1, zI (ca 0) 256), (b + 2, zI (ca 0) 768), (b + 3, zI (ca 0) 12), (b + 4, zI (ca 0) 13), (b + 5, zI (ca 0) 130), (b + 6, zI (ca 0) 256), (b + 7, zI (ca 0) 12), (b + 8, zI (ca 0) 13), (b + 9, zI (ca 0) 130), (b + 10, zI (ca 1) 256), (b + 11, zI (ca 1) 256), (b + 12, zI (ca 2) 140), (b + 13, zI (ca 0) 12)]) H := hP
  refine lv_aload_n C.1 hb dX12_init_116 rfl (lv_at hl 0 rfl) ?_
  refine lv_bipush (v := 13) C.1 hb dX12_init_117 (by decide) ?_
  refine nw_newa C (atype := .int) (t := 0) (N := 13) (a0 := (13, .inl (fun _ => 0))) (ty := .int) (pc' := 121) rfl ar_int rfl (fun h => h) (fun _ => rfl) (by decide) (by decide) (Nat.le_of_ble_eq_true rfl) (Nat.le_of_ble_eq_true rfl) (Nat.le_of_ble_eq_true rfl) hP hS dX12_init_119 rfl (fun H hP hS => ?_)
  have hP : nP D b 15 ((b, .inr (12, [.ref (b + 1), .ref (b + 2), .ref (b + 3), .ref (b + 4), .ref (b + 5), .ref (b + 6), .ref (b + 7), .ref (b + 8), .ref (b + 9), .ref (b + 10), .ref (b + 11), .int 0, .int 0, .int 0, .int 0, .int 0, .int 0, .int 0, .int 0, .int 0, .int 0, .int 0, .int 0, .int 0, .ref (b + 12), .int 0, .int 0, .int 0, .int 0, .int 0, .int 0, .int 0, .ref (b + 13), .null, .null, .null, .null, .null, .null, .null, .null, .null, .null, .null, .int 0, .int 0, .int 0, .int 0, .null, .null, .null, .null, .null, .int 0])) :: [(b + 1, zI (ca 0) 256), (b + 2, zI (ca 0) 768), (b + 3, zI (ca 0) 12), (b + 4, zI (ca 0) 13), (b + 5, zI (ca 0) 130), (b + 6, zI (ca 0) 256), (b + 7, zI (ca 0) 12), (b + 8, zI (ca 0) 13), (b + 9, zI (ca 0) 130), (b + 10, zI (ca 1) 256), (b + 11, zI (ca 1) 256), (b + 12, zI (ca 2) 140), (b + 13, zI (ca 0) 12), (b + 14, zI (ca 0) 13)]) H := hP
  refine nw_putF C hin (pc' := 124) fg_X12_51 rfl rfl rfl (ty := .array .int) (by decide +kernel) rfl rfl (Nat.le_of_ble_eq_true rfl) hP hS dX12_init_121 rfl (fun H locs hP hS => ?_)
  have hP : nP D b 15 ((b, .inr (12, [.ref (b + 1), .ref (b + 2), .ref (b + 3), .ref (b + 4), .ref (b + 5), .ref (b + 6), .ref (b + 7), .ref (b + 8), .ref (b + 9), .ref (b + 10), .ref (b + 11), .int 0, .int 0, .int 0, .int 0, .int 0, .int 0, .int 0, .int 0, .int 0, .int 0, .int 0, .int 0, .int 0, .ref (b + 12), .int 0, .int 0, .int 0, .int 0, .int 0, .int 0, .int 0, .ref (b + 13), .ref (b + 14), .null, .null, .null, .null, .null, .null, .null, .null, .null, .null, .int 0, .int 0, .int 0, .int 0, .null, .null, .null, .null, .null, .int 0])) :: [(b + 1, zI (ca 0) 256), (b + 2, zI (ca 0) 768), (b + 3, zI (ca 0) 12), (b + 4, zI (ca 0) 13), (b + 5, zI (ca 0) 130), (b + 6, zI (ca 0) 256), (b + 7, zI (ca 0) 12), (b + 8, zI (ca 0) 13), (b + 9, zI (ca 0) 130), (b + 10, zI (ca 1) 256), (b + 11, zI (ca 1) 256), (b + 12, zI (ca 2) 140), (b + 13, zI (ca 0) 12), (b + 14, zI (ca 0) 13)]) H := hP
  refine lv_aload_n C.1 hb dX12_init_124 rfl (lv_at hl 0 rfl) ?_
  refine lv_sipush (v := 130) C.1 hb dX12_init_125 (by decide) ?_
  refine nw_newa C (atype := .int) (t := 0) (N := 130) (a0 := (130, .inl (fun _ => 0))) (ty := .int) (pc' := 130) rfl ar_int rfl (fun h => h) (fun _ => rfl) (by decide) (by decide) (Nat.le_of_ble_eq_true rfl) (Nat.le_of_ble_eq_true rfl) (Nat.le_of_ble_eq_true rfl) hP hS dX12_init_128 rfl (fun H hP hS => ?_)
  have hP : nP D b 16 ((b, .inr (12, [.ref (b + 1), .ref (b + 2), .ref (b + 3), .ref (b + 4), .ref (b + 5), .ref (b + 6), .ref (b + 7), .ref (b + 8), .ref (b + 9), .ref (b + 10), .ref (b + 11), .int 0, .int 0, .int 0, .int 0, .int 0, .int 0, .int 0, .int 0, .int 0, .int 0, .int 0, .int 0, .int 0, .ref (b + 12), .int 0, .int 0, .int 0, .int 0, .int 0, .int 0, .int 0, .ref (b + 13), .ref (b + 14), .null, .null, .null, .null, .null, .null, .null, .null, .null, .null, .int 0, .int 0, .int 0, .int 0, .null, .null, .null, .null, .null, .int 0])) :: [(b + 1, zI (ca 0) 256), (b + 2, zI (ca 0) 768), (b + 3, zI (ca 0) 12), (b + 4, zI (ca 0) 13), (b + 5, zI (ca 0) 130), (b + 6, zI (ca 0) 256), (b + 7, zI (ca 0) 12), (b + 8, zI (ca 0) 13), (b + 9, zI (ca 0) 130), (b + 10, zI (ca 1) 256), (b + 11, zI (ca 1) 256), (b + 12, zI (ca 2) 140), (b + 13, zI (ca 0) 12), (b + 14, zI (ca 0) 13), (b + 15, zI (ca 0) 130)]) H := hP
  refine nw_putF C hin (pc' := 133) fg_X12_54 rfl rfl rfl (ty := .array .int) (by decide +kernel) rfl rfl (Nat.le_of_ble_eq_true rfl) hP hS dX12_init_130 rfl (fun H locs hP hS => ?_)
  have hP : nP D b 16 ((b, .inr (12, [.ref (b + 1), .ref (b + 2), .ref (b + 3), .ref (b + 4), .ref (b + 5), .ref (b + 6), .ref (b + 7), .ref (b + 8), .ref (b + 9), .ref (b + 10), .ref (b + 11), .int 0, .int 0, .int 0, .int 0, .int 0, .int 0, .int 0, .int 0, .int 0, .int 0, .int 0, .int 0, .int 0, .ref (b + 12), .int 0, .int 0, .int 0, .int 0, .int 0, .int 0, .int 0, .ref (b + 13), .ref (b + 14), .ref (b + 15), .null, .null, .null, .null, .null, .null, .null, .null, .null, .int 0, .int 0, .int 0, .int 0, .null, .null, .null, .null, .null, .int 0])) :: [(b + 1, zI (ca 0) 256), (b + 2, zI (ca 0) 768), (b + 3, zI (ca 0) 12), (b + 4, zI (ca 0) 13), (b + 5, zI (ca 0) 130), (b + 6, zI (ca 0) 256), (b + 7, zI (ca 0) 12), (b + 8, zI (ca 0) 13), (b + 9, zI (ca 0) 130), (b + 10, zI (ca 1) 256), (b + 11, zI (ca 1) 256), (b + 12, zI (ca 2) 140), (b + 13, zI (ca 0) 12), (b + 14, zI (ca 0) 13), (b + 15, zI (ca 0) 130)]) H := hP
  refine lv_aload_n C.1 hb dX12_init_133 rfl (lv_at hl 0 rfl) ?_
  refine lv_bipush (v := 6) C.1 hb dX12_init_134 (by decide) ?_
  refine nw_newa C (atype := .int) (t := 0) (N := 6) (a0 := (6, .inl (fun _ => 0))) (ty := .int) (pc' := 138) rfl ar_int rfl (fun h => h) (fun _ => rfl) (by decide) (by decide) (Nat.le_of_ble_eq_true rfl) (Nat.le_of_ble_eq_true rfl) (Nat.le_of_ble_eq_true rfl) hP hS dX12_init_136 rfl (fun H hP hS => ?_)
  have hP : nP D b 17 ((b, .inr (12, [.ref (b + 1), .ref (b + 2), .ref (b + 3), .ref (b + 4), .ref (b + 5), .ref (b + 6), .ref (b + 7), .ref (b + 8), .ref (b + 9), .ref (b + 10), .ref (b + 11), .int 0, .int 0, .int 0, .int 0, .int 0, .int 0, .int 0, .int 0, .int 0, .int 0, .int 0, .int 0, .int 0, .ref (b + 12), .int 0, .int 0, .int 0, .int 0, .int 0, .int 0, .int 0, .ref (b + 13), .ref (b + 14), .ref (b + 15), .null, .null, .null, .null, .null, .null, .null, .null, .null, .int 0, .int 0, .int 0, .int 0, .null, .null, .null, .null, .null, .int 0])) :: [(b + 1, zI (ca 0) 256), (b + 2, zI (ca 0) 768), (b + 3, zI (ca 0) 12), (b + 4, zI (ca 0) 13), (b + 5, zI (ca 0) 130), (b + 6, zI (ca 0) 256), (b + 7, zI (ca 0) 12), (b + 8, zI (ca 0) 13), (b + 9, zI (ca 0) 130), (b + 10, zI (ca 1) 256), (b + 11, zI (ca 1) 256), (b + 12, zI (ca 2) 140), (b + 13, zI (ca 0) 12), (b + 14, zI (ca 0) 13), (b + 15, zI (ca 0) 130), (b + 16, zI (ca 0) 6)]) H := hP
  refine nw_putF C hin (pc' := 141) fg_X12_57 rfl rfl rfl (ty := .array .int) (by decide +kernel) rfl rfl (Nat.le_of_ble_eq_true rfl) hP hS dX12_init_138 rfl (fun H locs hP hS => ?_)
  have hP : nP D b 17 ((b, .inr (12, [.ref (b + 1), .ref (b + 2), .ref (b + 3), .ref (b + 4), .ref (b + 5), .ref (b + 6), .ref (b + 7), .ref (b + 8), .ref (b + 9), .ref (b + 10), .ref (b + 11), .int 0, .int 0, .int 0, .int 0, .int 0, .int 0, .int 0, .int 0, .int 0, .int 0, .int 0, .int 0, .int 0, .ref (b + 12), .int 0, .int 0, .int 0, .int 0, .int 0, .int 0, .int 0, .ref (b + 13), .ref (b + 14), .ref (b + 15), .ref (b + 16), .null, .null, .null, .null, .null, .null, .null, .null, .int 0, .int 0, .int 0, .int 0, .null, .null, .null, .null, .null, .int 0])) :: [(b + 1, zI (ca 0) 256), (b + 2, zI (ca 0) 768), (b + 3, zI (ca 0) 12), (b + 4, zI (ca 0) 13), (b + 5, zI (ca 0) 130), (b + 6, zI (ca 0) 256), (b + 7, zI (ca 0) 12), (b + 8, zI (ca 0) 13), (b + 9, zI (ca 0) 130), (b + 10, zI (ca 1) 256), (b + 11, zI (ca 1) 256), (b + 12, zI (ca 2) 140), (b + 13, zI (ca 0) 12), (b + 14, zI (ca 0) 13), (b + 15, zI (ca 0) 130), (b + 16, zI (ca 0) 6)]) H := hP
  refine lv_aload_n C.1 hb dX12_init_141 rfl (lv_at hl 0 rfl) ?_
  refine lv_sipush (v := 11520) C.1 hb dX12_init_142 (by decide) ?_
  refine nw_newa C (atype := .int) (t := 0) (N := 11520) (a0 := (11520, .inl (fun _ => 0))) (ty := .int) (pc' := 147) rfl ar_int rfl (fun h => h) (fun _ => rfl) (by decide) (by decide) (Nat.le_of_ble_eq_true rfl) (Nat.le_of_ble_eq_true rfl) (Nat.le_of_ble_eq_true rfl) hP hS dX12_init_145 rfl (fun H hP hS => ?_)
  have hP : nP D b 18 ((b, .inr (12, [.ref (b + 1), .ref (b + 2), .ref (b + 3), .ref (b + 4), .ref (b + 5), .ref (b + 6), .ref (b + 7), .ref (b + 8), .ref (b + 9), .ref (b + 10), .ref (b + 11), .int 0, .int 0, .int 0, .int 0, .int 0, .int 0, .int 0, .int 0, .int 0, .int 0, .int 0, .int 0, .int 0, .ref (b + 12), .int 0, .int 0, .int 0, .int 0, .int 0, .int 0, .int 0, .ref (b + 13), .ref (b + 14), .ref (b + 15), .ref (b + 16), .null, .null, .null, .null, .null, .null, .null, .null, .int 0, .int 0, .int 0, .int 0, .null, .null, .null, .null, .null, .int 0])) :: [(b + 1, zI (ca 0) 256), (b + 2, zI (ca 0) 768), (b + 3, zI (ca 0) 12), (b + 4, zI (ca 0) 13), (b + 5, zI (ca 0) 130), (b + 6, zI (ca 0) 256), (b + 7, zI (ca 0) 12), (b + 8, zI (ca 0) 13), (b + 9, zI (ca 0) 130), (b + 10, zI (ca 1) 256), (b + 11, zI (ca 1) 256), (b + 12, zI (ca 2) 140), (b + 13, zI (ca 0) 12), (b + 14, zI (ca 0) 13), (b + 15, zI (ca 0) 130), (b + 16, zI (ca 0) 6), (b + 17, zI (ca 0) 11520)]) H := hP
  refine nw_putF C hin (pc' := 150) fg_X12_60 rfl rfl rfl (ty := .array .int) (by decide +kernel) rfl rfl (Nat.le_of_ble_eq_true rfl) hP hS dX12_init_147 rfl (fun H locs hP hS => ?_)
  have hP : nP D b 18 ((b, .inr (12, [.ref (b + 1), .ref (b + 2), .ref (b + 3), .ref (b + 4), .ref (b + 5), .ref (b + 6), .ref (b + 7), .ref (b + 8), .ref (b + 9), .ref (b + 10), .ref (b + 11), .int 0, .int 0, .int 0, .int 0, .int 0, .int 0, .int 0, .int 0, .int 0, .int 0, .int 0, .int 0, .int 0, .ref (b + 12), .int 0, .int 0, .int 0, .int 0, .int 0, .int 0, .int 0, .ref (b + 13), .ref (b + 14), .ref (b + 15), .ref (b + 16), .ref (b + 17), .null, .null, .null, .null, .null, .null, .null, .int 0, .int 0, .int 0, .int 0, .null, .null, .null, .null, .null, .int 0])) :: [(b + 1, zI (ca 0) 256), (b + 2, zI (ca 0) 768), (b + 3, zI (ca 0) 12), (b + 4, zI (ca 0) 13), (b + 5, zI (ca 0) 130), (b + 6, zI (ca 0) 256), (b + 7, zI (ca 0) 12), (b + 8, zI (ca 0) 13), (b + 9, zI (ca 0) 130), (b + 10, zI (ca 1) 256), (b + 11, zI (ca 1) 256), (b + 12, zI (ca 2) 140), (b + 13, zI (ca 0) 12), (b + 14, zI (ca 0) 13), (b + 15, zI (ca 0) 130), (b + 16, zI (ca 0) 6), (b + 17, zI (ca 0) 11520)]) H := hP
  refine lv_aload_n C.1 hb dX12_init_150 rfl (lv_at hl 0 rfl) ?_
  refine lv_sipush (v := 256) C.1 hb dX12_init_151 (by decide) ?_
  refine nw_newa C (atype := .int) (t := 0) (N := 256) (a0 := (256, .inl (fun _ => 0))) (ty := .int) (pc' := 156) rfl ar_int rfl (fun h => h) (fun _ => rfl) (by decide) (by decide) (Nat.le_of_ble_eq_true rfl) (Nat.le_of_ble_eq_true rfl) (Nat.le_of_ble_eq_true rfl) hP hS dX12_init_154 rfl (fun H hP hS => ?_)
  have hP : nP D b 19 ((b, .inr (12, [.ref (b + 1), .ref (b + 2), .ref (b + 3), .ref (b + 4), .ref (b + 5), .ref (b + 6), .ref (b + 7), .ref (b + 8), .ref (b + 9), .ref (b + 10), .ref (b + 11), .int 0, .int 0, .int 0, .int 0, .int 0, .int 0, .int 0, .int 0, .int 0, .int 0, .int 0, .int 0, .int 0, .ref (b + 12), .int 0, .int 0, .int 0, .int 0, .int 0, .int 0, .int 0, .ref (b + 13), .ref (b + 14), .ref (b + 15), .ref (b + 16), .ref (b + 17), .null, .null, .null, .null, .null, .null, .null, .int 0, .int 0, .int 0, .int 0, .null, .null, .null, .null, .null, .int 0])) :: [(b + 1, zI (ca 0) 256), (b + 2, zI (ca 0) 768), (b + 3, zI (ca 0) 12), (b + 4, zI (ca 0) 13), (b + 5, zI (ca 0) 130), (b + 6, zI (ca 0) 256), (b + 7, zI (ca 0) 12), (b + 8, zI (ca 0) 13), (b + 9, zI (ca 0) 130), (b + 10, zI (ca 1) 256), (b + 11, zI (ca 1) 256), (b + 12, zI (ca 2) 140), (b + 13, zI (ca 0) 12), (b + 14, zI (ca 0) 13), (b + 15, zI (ca 0) 130), (b + 16, zI (ca 0) 6), (b + 17, zI (ca 0) 11520), (b + 18, zI (ca 0) 256)]) H := hP
  refine nw_putF C hin (pc' := 159) fg_X12_63 rfl rfl rfl (ty := .array .int) (by decide +kernel) rfl rfl (Nat.le_of_ble_eq_true rfl) hP hS dX12_init_156 rfl (fun H locs hP hS => ?_)
  have hP : nP D b 19 ((b, .inr (12, [.ref (b + 1), .ref (b + 2), .ref (b + 3), .ref (b + 4), .ref (b + 5), .ref (b + 6), .ref (b + 7), .ref (b + 8), .ref (b + 9), .ref (b + 10), .ref (b + 11), .int 0, .int 0, .int 0, .int 0, .int 0, .int 0, .int 0, .int 0, .int 0, .int 0, .int 0, .int 0, .int 0, .ref (b + 12), .int 0, .int 0, .int 0, .int 0, .int 0, .int 0, .int 0, .ref (b + 13), .ref (b + 14), .ref (b + 15), .ref (b + 16), .ref (b + 17), .ref (b + 18), .null, .null, .null, .null, .null, .null, .int 0, .int 0, .int 0, .int 0, .null, .null, .null, .null, .null, .int 0])) :: [(b + 1, zI (ca 0) 256), (b + 2, zI (ca 0) 768), (b + 3, zI (ca 0) 12), (b + 4, zI (ca 0) 13), (b + 5, zI (ca 0) 130), (b + 6, zI (ca 0) 256), (b + 7, zI (ca 0) 12), (b + 8, zI (ca 0) 13), (b + 9, zI (ca 0) 130), (b + 10, zI (ca 1) 256), (b + 11, zI (ca 1) 256), (b + 12, zI (ca 2) 140), (b + 13, zI (ca 0) 12), (b + 14, zI (ca 0) 13), (b + 15, zI (ca 0) 130), (b + 16, zI (ca 0) 6), (b + 17, zI (ca 0) 11520), (b + 18, zI (ca 0) 256)]) H := hP
  refine lv_aload_n C.1 hb dX12_init_159 rfl (lv_at hl 0 rfl) ?_
  refine lv_sipush (v := 768) C.1 hb dX12_init_160 (by decide) ?_
  refine nw_newa C (atype := .int) (t := 0) (N := 768) (a0 := (768, .inl (fun _ => 0))) (ty := .int) (pc' := 165) rfl ar_int rfl (fun h => h) (fun _ => rfl) (by decide) (by decide) (Nat.le_of_ble_eq_true rfl) (Nat.le_of_ble_eq_true rfl) (Nat.le_of_ble_eq_true rfl) hP hS dX12_init_163 rfl (fun H hP hS => ?_)
  have hP : nP D b 20 ((b, .inr (12, [.ref (b + 1), .ref (b + 2), .ref (b + 3), .ref (b + 4), .ref (b + 5), .ref (b + 6), .ref (b + 7), .ref (b + 8), .ref (b + 9), .ref (b + 10), .ref (b + 11), .int 0, .int 0, .int 0, .int 0, .int 0, .int 0, .int 0, .int 0, .int 0, .int 0, .int 0, .int 0, .int 0, .ref (b + 12), .int 0, .int 0, .int 0, .int 0, .int 0, .int 0, .int 0, .ref (b + 13), .ref (b + 14), .ref (b + 15), .ref (b + 16), .ref (b + 17), .ref (b + 18), .null, .null, .null, .null, .null, .null, .int 0, .int 0, .int 0, .int 0, .null, .null, .null, .null, .null, .int 0])) :: [(b + 1, zI (ca 0) 256), (b + 2, zI (ca 0) 768), (b + 3, zI (ca 0) 12), (b + 4, zI (ca 0) 13), (b + 5, zI (ca 0) 130), (b + 6, zI (ca 0) 256), (b + 7, zI (ca 0) 12), (b + 8, zI (ca 0) 13), (b + 9, zI (ca 0) 130), (b + 10, zI (ca 1) 256), (b + 11, zI (ca 1) 256), (b + 12, zI (ca 2) 140), (b + 13, zI (ca 0) 12), (b + 14, zI (ca 0) 13), (b + 15, zI (ca 0) 130), (b + 16, zI (ca 0) 6), (b + 17, zI (ca 0) 11520), (b + 18, zI (ca 0) 256), (b + 19, zI (ca 0) 768)]) H := hP
  refine nw_putF C hin (pc' := 168) fg_X12_66 rfl rfl rfl (ty := .array .int) (by decide +kernel) rfl rfl (Nat.le_of_ble_eq_true rfl) hP hS dX12_init_165 rfl (fun H locs hP hS => ?_)
  have hP : nP D b 20 ((b, .inr (12, [.ref (b + 1), .ref (b + 2), .ref (b + 3), .ref (b + 4), .ref (b + 5), .ref (b + 6), .ref (b + 7), .ref (b + 8), .ref (b + 9), .ref (b + 10), .ref (b + 11), .int 0, .int 0, .int 0, .int 0, .int 0, .int 0, .int 0, .int 0, .int 0, .int 0, .int 0, .int 0, .int 0, .ref (b + 12), .int 0, .int 0, .int 0, .int 0, .int 0, .int 0, .int 0, .ref (b + 13), .ref (b + 14), .ref (b + 15), .ref (b + 16), .ref (b + 17), .ref (b + 18), .ref (b + 19), .null, .null, .null, .null, .null, .int 0, .int 0, .int 0, .int 0, .null, .null, .null, .null, .null, .int 0])) :: [(b + 1, zI (ca 0) 256), (b + 2, zI (ca 0) 768), (b + 3, zI (ca 0) 12), (b + 4, zI (ca 0) 13), (b + 5, zI (ca 0) 130), (b + 6, zI (ca 0) 256), (b + 7, zI (ca 0) 12), (b + 8, zI (ca 0) 13), (b + 9, zI (ca 0) 130), (b + 10, zI (ca 1) 256), (b + 11, zI (ca 1) 256), (b + 12, zI (ca 2) 140), (b + 13, zI (ca 0) 12), (b + 14, zI (ca 0) 13), (b + 15, zI (ca 0) 130), (b + 16, zI (ca 0) 6), (b + 17, zI (ca 0) 11520), (b + 18, zI (ca 0) 256), (b + 19, zI (ca 0) 768)]) H := hP
  refine lv_aload_n C.1 hb dX12_init_168 rfl (lv_at hl 0 rfl) ?_
  refine lv_bipush (v := 9) C.1 hb dX12_init_169 (by decide) ?_
  refine nw_newa C (atype := .int) (t := 0) (N := 9) (a0 := (9, .inl (fun _ => 0))) (ty := .int) (pc' := 173) rfl ar_int rfl (fun h => h) (fun _ => rfl) (by decide) (by decide) (Nat.le_of_ble_eq_true rfl) (Nat.le_of_ble_eq_true rfl) (Nat.le_of_ble_eq_true rfl) hP hS dX12_init_171 rfl (fun H hP hS => ?_)
  have hP : nP D b 21 ((b, .inr (12, [.ref (b + 1), .ref (b + 2), .ref (b + 3), .ref (b + 4), .ref (b + 5), .ref (b + 6), .ref (b + 7), .ref (b + 8), .ref (b + 9), .ref (b + 10), .ref (b + 11), .int 0, .int 0, .int 0, .int 0, .int 0, .int 0, .int 0, .int 0, .int 0, .int 0, .int 0, .int 0, .int 0, .ref (b + 12), .int 0, .int 0, .int 0, .int 0, .int 0, .int 0, .int 0, .ref (b + 13), .ref (b + 14), .ref (b + 15), .ref (b + 16), .ref (b + 17), .ref (b + 18), .ref (b + 19), .null, .null, .null, .null, .null, .int 0, .int 0, .int 0, .int 0, .null, .null, .null, .null, .null, .int 0])) :: [(b + 1, zI (ca 0) 256), (b + 2, zI (ca 0) 768), (b + 3, zI (ca 0) 12), (b + 4, zI (ca 0) 13), (b + 5, zI (ca 0) 130), (b + 6, zI (ca 0) 256), (b + 7, zI (ca 0) 12), (b + 8, zI (ca 0) 13), (b + 9, zI (ca 0) 130), (b + 10, zI (ca 1) 256), (b + 11, zI (ca 1) 256), (b + 12, zI (ca 2) 140), (b + 13, zI (ca 0) 12), (b + 14, zI (ca 0) 13), (b + 15, zI (ca 0) 130), (b + 16, zI (ca 0) 6), (b + 17, zI (ca 0) 11520), (b + 18, zI (ca 0) 256), (b + 19, zI (ca 0) 768), (b + 20, zI (ca 0) 9)]) H := hP
  refine nw_putF C hin (pc' := 176) fg_X12_69 rfl rfl rfl (ty := .array .int) (by decide +kernel) rfl rfl (Nat.le_of_ble_eq_true rfl) hP hS dX12_init_173 rfl (fun H locs hP hS => ?_)
  have hP : nP D b 21 ((b, .inr (12, [.ref (b + 1), .ref (b + 2), .ref (b + 3), .ref (b + 4), .ref (b + 5), .ref (b + 6), .ref (b + 7), .ref (b + 8), .ref (b + 9), .ref (b + 10), .ref (b + 11), .int 0, .int 0, .int 0, .int 0, .int 0, .int 0, .int 0, .int 0, .int 0, .int 0, .int 0, .int 0, .int 0, .ref (b + 12), .int 0, .int 0, .int 0, .int 0, .int 0, .int 0, .int 0, .ref (b + 13), .ref (b + 14), .ref (b + 15), .ref (b + 16), .ref (b + 17), .ref (b + 18), .ref (b + 19), .ref (b + 20), .null, .null, .null, .null, .int 0, .int 0, .int 0, .int 0, .null, .null, .null, .null, .null, .int 0])) :: [(b + 1, zI (ca 0) 256), (b + 2, zI (ca 0) 768), (b + 3, zI (ca 0) 12), (b + 4, zI (ca 0) 13), (b + 5, zI (ca 0) 130), (b + 6, zI (ca 0) 256), (b + 7, zI (ca 0) 12), (b + 8, zI (ca 0) 13), (b + 9, zI (ca 0) 130), (b + 10, zI (ca 1) 256), (b + 11, zI (ca 1) 256), (b + 12, zI (ca 2) 140), (b + 13, zI (ca 0) 12), (b + 14, zI (ca 0) 13), (b + 15, zI (ca 0) 130), (b + 16, zI (ca 0) 6), (b + 17, zI (ca 0) 11520), (b + 18, zI (ca 0) 256), (b + 19, zI (ca 0) 768), (b + 20, zI (ca 0) 9)]) H := hP
  refine lv_aload_n C.1 hb dX12_init_176 rfl (lv_at hl 0 rfl) ?_
  refine lv_iconst (v := Int32.ofInt (4)) C.1 hb dX12_init_177 rfl ?_
  refine nw_newa C (atype := .int) (t := 0) (N := 4) (a0 := (4, .inl (fun _ => 0))) (ty := .int) (pc' := 180) rfl ar_int rfl (fun h => h) (fun _ => rfl) (by decide) (by decide) (Nat.le_of_ble_eq_true rfl) (Nat.le_of_ble_eq_true rfl) (Nat.le_of_ble_eq_true rfl) hP hS dX12_init_178 rfl (fun H hP hS => ?_)
  have hP : nP D b 22 ((b, .inr (12, [.ref (b + 1), .ref (b + 2), .ref (b + 3), .ref (b + 4), .ref (b + 5), .ref (b + 6), .ref (b + 7), .ref (b + 8), .ref (b + 9), .ref (b + 10), .ref (b + 11), .int 0, .int 0, .int 0, .int 0, .int 0, .int 0, .int 0, .int 0, .int 0, .int 0, .int 0, .int 0, .int 0, .ref (b + 12), .int 0, .int 0, .int 0, .int 0, .int 0, .int 0, .int 0, .ref (b + 13), .ref (b + 14), .ref (b + 15), .ref (b + 16), .ref (b + 17), .ref (b + 18), .ref (b + 19), .ref (b + 20), .null, .null, .null, .null, .int 0, .int 0, .int 0, .int 0, .null, .null, .null, .null, .null, .int 0])) :: [(b + 1, zI (ca 0) 256), (b + 2, zI (ca 0) 768), (b + 3, zI (ca 0) 12), (b + 4, zI (ca 0) 13), (b + 5, zI (ca 0) 130), (b + 6, zI (ca 0) 256), (b + 7, zI (ca 0) 12), (b + 8, zI (ca 0) 13), (b + 9, zI (ca 0) 130), (b + 10, zI (ca 1) 256), (b + 11, zI (ca 1) 256), (b + 12, zI (ca 2) 140), (b + 13, zI (ca 0) 12), (b + 14, zI (ca 0) 13), (b + 15, zI (ca 0) 130), (b + 16, zI (ca 0) 6), (b + 17, zI (ca 0) 11520), (b + 18, zI (ca 0) 256), (b + 19, zI (ca 0) 768), (b + 20, zI (ca 0) 9), (b + 21, zI (ca 0) 4)]) H := hP
  refine nw_putF C hin (pc' := 183) fg_X12_72 rfl rfl rfl (ty := .array .int) (by decide +kernel) rfl rfl (Nat.le_of_ble_eq_true rfl) hP hS dX12_init_180 rfl (fun H locs hP hS => ?_)
  have hP : nP D b 22 ((b, .inr (12, [.ref (b + 1), .ref (b + 2), .ref (b + 3), .ref (b + 4), .ref (b + 5), .ref (b + 6), .ref (b + 7), .ref (b + 8), .ref (b + 9), .ref (b + 10), .ref (b + 11), .int 0, .int 0, .int 0, .int 0, .int 0, .int 0, .int 0, .int 0, .int 0, .int 0, .int 0, .int 0, .int 0, .ref (b + 12), .int 0, .int 0, .int 0, .int 0, .int 0, .int 0, .int 0, .ref (b + 13), .ref (b + 14), .ref (b + 15), .ref (b + 16), .ref (b + 17), .ref (b + 18), .ref (b + 19), .ref (b + 20), .ref (b + 21), .null, .null, .null, .int 0, .int 0, .int 0, .int 0, .null, .null, .null, .null, .null, .int 0])) :: [(b + 1, zI (ca 0) 256), (b + 2, zI (ca 0) 768), (b + 3, zI (ca 0) 12), (b + 4, zI (ca 0) 13), (b + 5, zI (ca 0) 130), (b + 6, zI (ca 0) 256), (b + 7, zI (ca 0) 12), (b + 8, zI (ca 0) 13), (b + 9, zI (ca 0) 130), (b + 10, zI (ca 1) 256), (b + 11, zI (ca 1) 256), (b + 12, zI (ca 2) 140), (b + 13, zI (ca 0) 12), (b + 14, zI (ca 0) 13), (b + 15, zI (ca 0) 130), (b + 16, zI (ca 0) 6), (b + 17, zI (ca 0) 11520), (b + 18, zI (ca 0) 256), (b + 19, zI (ca 0) 768), (b + 20, zI (ca 0) 9), (b + 21, zI (ca 0) 4)]) H := hP
  refine lv_aload_n C.1 hb dX12_init_183 rfl (lv_at hl 0 rfl) ?_
  refine lv_sipush (v := 1024) C.1 hb dX12_init_184 (by decide) ?_
  refine nw_newa C (atype := .int) (t := 0) (N := 1024) (a0 := (1024, .inl (fun _ => 0))) (ty := .int) (pc' := 189) rfl ar_int rfl (fun h => h) (fun _ => rfl) (by decide) (by decide) (Nat.le_of_ble_eq_true rfl) (Nat.le_of_ble_eq_true rfl) (Nat.le_of_ble_eq_true rfl) hP hS dX12_init_187 rfl (fun H hP hS => ?_)
  have hP : nP D b 23 ((b, .inr (12, [.ref (b + 1), .ref (b + 2), .ref (b + 3), .ref (b + 4), .ref (b + 5), .ref (b + 6), .ref (b + 7), .ref (b + 8), .ref (b + 9), .ref (b + 10), .ref (b + 11), .int 0, .int 0, .int 0, .int 0, .int 0, .int 0, .int 0, .int 0, .int 0, .int 0, .int 0, .int 0, .int 0, .ref (b + 12), .int 0, .int 0, .int 0, .int 0, .int 0, .int 0, .int 0, .ref (b + 13), .ref (b + 14), .ref (b + 15), .ref (b + 16), .ref (b + 17), .ref (b + 18), .ref (b + 19), .ref (b + 20), .ref (b + 21), .null, .null, .null, .int 0, .int 0, .int 0, .int 0, .null, .null, .null, .null, .null, .int 0])) :: [(b + 1, zI (ca 0) 256), (b + 2, zI (ca 0) 768), (b + 3, zI (ca 0) 12), (b + 4, zI (ca 0) 13), (b + 5, zI (ca 0) 130), (b + 6, zI (ca 0) 256), (b + 7, zI (ca 0) 12), (b + 8, zI (ca 0) 13), (b + 9, zI (ca 0) 130), (b + 10, zI (ca 1) 256), (b + 11, zI (ca 1) 256), (b + 12, zI (ca 2) 140), (b + 13, zI (ca 0) 12), (b + 14, zI (ca 0) 13), (b + 15, zI (ca 0) 130), (b + 16, zI (ca 0) 6), (b + 17, zI (ca 0) 11520), (b + 18, zI (ca 0) 256), (b + 19, zI (ca 0) 768), (b + 20, zI (ca 0) 9), (b + 21, zI (ca 0) 4), (b + 22, zI (ca 0) 1024)]) H := hP
  refine nw_putF C hin (pc' := 192) fg_X12_75 rfl rfl rfl (ty := .array .int) (by decide +kernel) rfl rfl (Nat.le_of_ble_eq_true rfl) hP hS dX12_init_189 rfl (fun H locs hP hS => ?_)
  have hP : nP D b 23 ((b, .inr (12, [.ref (b + 1), .ref (b + 2), .ref (b + 3), .ref (b + 4), .ref (b + 5), .ref (b + 6), .ref (b + 7), .ref (b + 8), .ref (b + 9), .ref (b + 10), .ref (b + 11), .int 0, .int 0, .int 0, .int 0, .int 0, .int 0, .int 0, .int 0, .int 0, .int 0, .int 0, .int 0, .int 0, .ref (b + 12), .int 0, .int 0, .int 0, .int 0, .int 0, .int 0, .int 0, .ref (b + 13), .ref (b + 14), .ref (b + 15), .ref (b + 16), .ref (b + 17), .ref (b + 18), .ref (b + 19), .ref (b + 20), .ref (b + 21), .ref (b + 22), .null, .null, .int 0, .int 0, .int 0, .int 0, .null, .null, .null, .null, .null, .int 0])) :: [(b + 1, zI (ca 0) 256), (b + 2, zI (ca 0) 768), (b + 3, zI (ca 0) 12), (b + 4, zI (ca 0) 13), (b + 5, zI (ca 0) 130), (b + 6, zI (ca 0) 256), (b + 7, zI (ca 0) 12), (b + 8, zI (ca 0) 13), (b + 9, zI (ca 0) 130), (b + 10, zI (ca 1) 256), (b + 11, zI (ca 1) 256), (b + 12, zI (ca 2) 140), (b + 13, zI (ca 0) 12), (b + 14, zI (ca 0) 13), (b + 15, zI (ca 0) 130), (b + 16, zI (ca 0) 6), (b + 17, zI (ca 0) 11520), (b + 18, zI (ca 0) 256), (b + 19, zI (ca 0) 768), (b + 20, zI (ca 0) 9), (b + 21, zI (ca 0) 4), (b + 22, zI (ca 0) 1024)]) H := hP
  refine lv_aload_n C.1 hb dX12_init_192 rfl (lv_at hl 0 rfl) ?_
  refine lv_sipush (v := 130) C.1 hb dX12_init_193 (by decide) ?_
  refine nw_newa C (atype := .int) (t := 0) (N := 130) (a0 := (130, .inl (fun _ => 0))) (ty := .int) (pc' := 198) rfl ar_int rfl (fun h => h) (fun _ => rfl) (by decide) (by decide) (Nat.le_of_ble_eq_true rfl) (Nat.le_of_ble_eq_true rfl) (Nat.le_of_ble_eq_true rfl) hP hS dX12_init_196 rfl (fun H hP hS => ?_)
  have hP : nP D b 24 ((b, .inr (12, [.ref (b + 1), .ref (b + 2), .ref (b + 3), .ref (b + 4), .ref (b + 5), .ref (b + 6), .ref (b + 7), .ref (b + 8), .ref (b + 9), .ref (b + 10), .ref (b + 11), .int 0, .int 0, .int 0, .int 0, .int 0, .int 0, .int 0, .int 0, .int 0, .int 0, .int 0, .int 0, .int 0, .ref (b + 12), .int 0, .int 0, .int 0, .int 0, .int 0, .int 0, .int 0, .ref (b + 13), .ref (b + 14), .ref (b + 15), .ref (b + 16), .ref (b + 17), .ref (b + 18), .ref (b + 19), .ref (b + 20), .ref (b + 21), .ref (b + 22), .null, .null, .int 0, .int 0, .int 0, .int 0, .null, .null, .null, .null, .null, .int 0])) :: [(b + 1, zI (ca 0) 256), (b + 2, zI (ca 0) 768), (b + 3, zI (ca 0) 12), (b + 4, zI (ca 0) 13), (b + 5, zI (ca 0) 130), (b + 6, zI (ca 0) 256), (b + 7, zI (ca 0) 12), (b + 8, zI (ca 0) 13), (b + 9, zI (ca 0) 130), (b + 10, zI (ca 1) 256), (b + 11, zI (ca 1) 256), (b + 12, zI (ca 2) 140), (b + 13, zI (ca 0) 12), (b + 14, zI (ca 0) 13), (b + 15, zI (ca 0) 130), (b + 16, zI (ca 0) 6), (b + 17, zI (ca 0) 11520), (b + 18, zI (ca 0) 256), (b + 19, zI (ca 0) 768), (b + 20, zI (ca 0) 9), (b + 21, zI (ca 0) 4), (b + 22, zI (ca 0) 1024), (b + 23, zI (ca 0) 130)]) H := hP
  refine nw_putF C hin (pc' := 201) fg_X12_78 rfl rfl rfl (ty := .array .int) (by decide +kernel) rfl rfl (Nat.le_of_ble_eq_true rfl) hP hS dX12_init_198 rfl (fun H locs hP hS => ?_)
  have hP : nP D b 24 ((b, .inr (12, [.ref (b + 1), .ref (b + 2), .ref (b + 3), .ref (b + 4), .ref (b + 5), .ref (b + 6), .ref (b + 7), .ref (b + 8), .ref (b + 9), .ref (b + 10), .ref (b + 11), .int 0, .int 0, .int 0, .int 0, .int 0, .int 0, .int 0, .int 0, .int 0, .int 0, .int 0, .int 0, .int 0, .ref (b + 12), .int 0, .int 0, .int 0, .int 0, .int 0, .int 0, .int 0, .ref (b + 13), .ref (b + 14), .ref (b + 15), .ref (b + 16), .ref (b + 17), .ref (b + 18), .ref (b + 19), .ref (b + 20), .ref (b + 21), .ref (b + 22), .ref (b + 23), .null, .int 0, .int 0, .int 0, .int 0, .null, .null, .null, .null, .null, .int 0])) :: [(b + 1, zI (ca 0) 256), (b + 2, zI (ca 0) 768), (b + 3, zI (ca 0) 12), (b + 4, zI (ca 0) 13), (b + 5, zI (ca 0) 130), (b + 6, zI (ca 0) 256), (b + 7, zI (ca 0) 12), (b + 8, zI (ca 0) 13), (b + 9, zI (ca 0) 130), (b + 10, zI (ca 1) 256), (b + 11, zI (ca 1) 256), (b + 12, zI (ca 2) 140), (b + 13, zI (ca 0) 12), (b + 14, zI (ca 0) 13), (b + 15, zI (ca 0) 130), (b + 16, zI (ca 0) 6), (b + 17, zI (ca 0) 11520), (b + 18, zI (ca 0) 256), (b + 19, zI (ca 0) 768), (b + 20, zI (ca 0) 9), (b + 21, zI (ca 0) 4), (b + 22, zI (ca 0) 1024), (b + 23, zI (ca 0) 130)]) H := hP
  refine lv_aload_n C.1 hb dX12_init_201 rfl (lv_at hl 0 rfl) ?_
  refine lv_sipush (v := 256) C.1 hb dX12_init_202 (by decide) ?_
  refine nw_newa C (atype := .boolean) (t := 1) (N := 256) (a0 := (256, .inl (fun _ => 0))) (ty := .boolean) (pc' := 207) rfl ar_boolean rfl (fun h => h) (fun _ => rfl) (by decide) (by decide) (Nat.le_of_ble_eq_true rfl) (Nat.le_of_ble_eq_true rfl) (Nat.le_of_ble_eq_true rfl) hP hS dX12_init_205 rfl (fun H hP hS => ?_)
  have hP : nP D b 25 ((b, .inr (12, [.ref (b + 1), .ref (b + 2), .ref (b + 3), .ref (b + 4), .ref (b + 5), .ref (b + 6), .ref (b + 7), .ref (b + 8), .ref (b + 9), .ref (b + 10), .ref (b + 11), .int 0, .int 0, .int 0, .int 0, .int 0, .int 0, .int 0, .int 0, .int 0, .int 0, .int 0, .int 0, .int 0, .ref (b + 12), .int 0, .int 0, .int 0, .int 0, .int 0, .int 0, .int 0, .ref (b + 13), .ref (b + 14), .ref (b + 15), .ref (b + 16), .ref (b + 17), .ref (b + 18), .ref (b + 19), .ref (b + 20), .ref (b + 21), .ref (b + 22), .ref (b + 23), .null, .int 0, .int 0, .int 0, .int 0, .null, .null, .null, .null, .null, .int 0])) :: [(b + 1, zI (ca 0) 256), (b + 2, zI (ca 0) 768), (b + 3, zI (ca 0) 12), (b + 4, zI (ca 0) 13), (b + 5, zI (ca 0) 130), (b + 6, zI (ca 0) 256), (b + 7, zI (ca 0) 12), (b + 8, zI (ca 0) 13), (b + 9, zI (ca 0) 130), (b + 10, zI (ca 1) 256), (b + 11, zI (ca 1) 256), (b + 12, zI (ca 2) 140), (b + 13, zI (ca 0) 12), (b + 14, zI (ca 0) 13), (b + 15, zI (ca 0) 130), (b + 16, zI (ca 0) 6), (b + 17, zI (ca 0) 11520), (b + 18, zI (ca 0) 256), (b + 19, zI (ca 0) 768), (b + 20, zI (ca 0) 9), (b + 21, zI (ca 0) 4), (b + 22, zI (ca 0) 1024), (b + 23, zI (ca 0) 130), (b + 24, zI (ca 1) 256)]) H := hP
  refine nw_putF C hin (pc' := 210) fg_X12_81 rfl rfl rfl (ty := .array .boolean) (by decide +kernel) rfl rfl (Nat.le_of_ble_eq_true rfl) hP hS dX12_init_207 rfl (fun H locs hP hS => ?_)
  have hP : nP D b 25 ((b, .inr (12, [.ref (b + 1), .ref (b + 2), .ref (b + 3), .ref (b + 4), .ref (b + 5), .ref (b + 6), .ref (b + 7), .ref (b + 8), .ref (b + 9), .ref (b + 10), .ref (b + 11), .int 0, .int 0, .int 0, .int 0, .int 0, .int 0, .int 0, .int 0, .int 0, .int 0, .int 0, .int 0, .int 0, .ref (b + 12), .int 0, .int 0, .int 0, .int 0, .int 0, .int 0, .int 0, .ref (b + 13), .ref (b + 14), .ref (b + 15), .ref (b + 16), .ref (b + 17), .ref (b + 18), .ref (b + 19), .ref (b + 20), .ref (b + 21), .ref (b + 22), .ref (b + 23), .ref (b + 24), .int 0, .int 0, .int 0, .int 0, .null, .null, .null, .null, .null, .int 0])) :: [(b + 1, zI (ca 0) 256), (b + 2, zI (ca 0) 768), (b + 3, zI (ca 0) 12), (b + 4, zI (ca 0) 13), (b + 5, zI (ca 0) 130), (b + 6, zI (ca 0) 256), (b + 7, zI (ca 0) 12), (b + 8, zI (ca 0) 13), (b + 9, zI (ca 0) 130), (b + 10, zI (ca 1) 256), (b + 11, zI (ca 1) 256), (b + 12, zI (ca 2) 140), (b + 13, zI (ca 0) 12), (b + 14, zI (ca 0) 13), (b + 15, zI (ca 0) 130), (b + 16, zI (ca 0) 6), (b + 17, zI (ca 0) 11520), (b + 18, zI (ca 0) 256), (b + 19, zI (ca 0) 768), (b + 20, zI (ca 0) 9), (b + 21, zI (ca 0) 4), (b + 22, zI (ca 0) 1024), (b + 23, zI (ca 0) 130), (b + 24, zI (ca 1) 256)]) H := hP
  refine lv_aload_n C.1 hb dX12_init_210 rfl (lv_at hl 0 rfl) ?_
  refine lv_sipush (v := 256) C.1 hb dX12_init_211 (by decide) ?_
  refine nw_newa C (atype := .int) (t := 0) (N := 256) (a0 := (256, .inl (fun _ => 0))) (ty := .int) (pc' := 216) rfl ar_int rfl (fun h => h) (fun _ => rfl) (by decide) (by decide) (Nat.le_of_ble_eq_true rfl) (Nat.le_of_ble_eq_true rfl) (Nat.le_of_ble_eq_true rfl) hP hS dX12_init_214 rfl (fun H hP hS => ?_)
  have hP : nP D b 26 ((b, .inr (12, [.ref (b + 1), .ref (b + 2), .ref (b + 3), .ref (b + 4), .ref (b + 5), .ref (b + 6), .ref (b + 7), .ref (b + 8), .ref (b + 9), .ref (b + 10), .ref (b + 11), .int 0, .int 0, .int 0, .int 0, .int 0, .int 0, .int 0, .int 0, .int 0, .int 0, .int 0, .int 0, .int 0, .ref (b + 12), .int 0, .int 0, .int 0, .int 0, .int 0, .int 0, .int 0, .ref (b + 13), .ref (b + 14), .ref (b + 15), .ref (b + 16), .ref (b + 17), .ref (b + 18), .ref (b + 19), .ref (b + 20), .ref (b + 21), .ref (b + 22), .ref (b + 23), .ref (b + 24), .int 0, .int 0, .int 0, .int 0, .null, .null, .null, .null, .null, .int 0])) :: [(b + 1, zI (ca 0) 256), (b + 2, zI (ca 0) 768), (b + 3, zI (ca 0) 12), (b + 4, zI (ca 0) 13), (b + 5, zI (ca 0) 130), (b + 6, zI (ca 0) 256), (b + 7, zI (ca 0) 12), (b + 8, zI (ca 0) 13), (b + 9, zI (ca 0) 130), (b + 10, zI (ca 1) 256), (b + 11, zI (ca 1) 256), (b + 12, zI (ca 2) 140), (b + 13, zI (ca 0) 12), (b + 14, zI (ca 0) 13), (b + 15, zI (ca 0) 130), (b + 16, zI (ca 0) 6), (b + 17, zI (ca 0) 11520), (b + 18, zI (ca 0) 256), (b + 19, zI (ca 0) 768), (b + 20, zI (ca 0) 9), (b + 21, zI (ca 0) 4), (b + 22, zI (ca 0) 1024), (b + 23, zI (ca 0) 130), (b + 24, zI (ca 1) 256), (b + 25, zI (ca 0) 256)]) H := hP
  refine nw_putF C hin (pc' := 219) fg_X12_84 rfl rfl rfl (ty := .array .int) (by decide +kernel) rfl rfl (Nat.le_of_ble_eq_true rfl) hP hS dX12_init_216 rfl (fun H locs hP hS => ?_)
  have hP : nP D b 26 ((b, .inr (12, [.ref (b + 1), .ref (b + 2), .ref (b + 3), .ref (b + 4), .ref (b + 5), .ref (b + 6), .ref (b + 7), .ref (b + 8), .ref (b + 9), .ref (b + 10), .ref (b + 11), .int 0, .int 0, .int 0, .int 0, .int 0, .int 0, .int 0, .int 0, .int 0, .int 0, .int 0, .int 0, .int 0, .ref (b + 12), .int 0, .int 0, .int 0, .int 0, .int 0, .int 0, .int 0, .ref (b + 13), .ref (b + 14), .ref (b + 15), .ref (b + 16), .ref (b + 17), .ref (b + 18), .ref (b + 19), .ref (b + 20), .ref (b + 21), .ref (b + 22), .ref (b + 23), .ref (b + 24), .int 0, .int 0, .int 0, .int 0, .ref (b + 25), .null, .null, .null, .null, .int 0])) :: [(b + 1, zI (ca 0) 256), (b + 2, zI (ca 0) 768), (b + 3, zI (ca 0) 12), (b + 4, zI (ca 0) 13), (b + 5, zI (ca 0) 130), (b + 6, zI (ca 0) 256), (b + 7, zI (ca 0) 12), (b + 8, zI (ca 0) 13), (b + 9, zI (ca 0) 130), (b + 10, zI (ca 1) 256), (b + 11, zI (ca 1) 256), (b + 12, zI (ca 2) 140), (b + 13, zI (ca 0) 12), (b + 14, zI (ca 0) 13), (b + 15, zI (ca 0) 130), (b + 16, zI (ca 0) 6), (b + 17, zI (ca 0) 11520), (b + 18, zI (ca 0) 256), (b + 19, zI (ca 0) 768), (b + 20, zI (ca 0) 9), (b + 21, zI (ca 0) 4), (b + 22, zI (ca 0) 1024), (b + 23, zI (ca 0) 130), (b + 24, zI (ca 1) 256), (b + 25, zI (ca 0) 256)]) H := hP
  refine lv_aload_n C.1 hb dX12_init_219 rfl (lv_at hl 0 rfl) ?_
  refine lv_sipush (v := 256) C.1 hb dX12_init_220 (by decide) ?_
  refine nw_newa C (atype := .int) (t := 0) (N := 256) (a0 := (256, .inl (fun _ => 0))) (ty := .int) (pc' := 225) rfl ar_int rfl (fun h => h) (fun _ => rfl) (by decide) (by decide) (Nat.le_of_ble_eq_true rfl) (Nat.le_of_ble_eq_true rfl) (Nat.le_of_ble_eq_true rfl) hP hS dX12_init_223 rfl (fun H hP hS => ?_)
  have hP : nP D b 27 ((b, .inr (12, [.ref (b + 1), .ref (b + 2), .ref (b + 3), .ref (b + 4), .ref (b + 5), .ref (b + 6), .ref (b + 7), .ref (b + 8), .ref (b + 9), .ref (b + 10), .ref (b + 11), .int 0, .int 0, .int 0, .int 0, .int 0, .int 0, .int 0, .int 0, .int 0, .int 0, .int 0, .int 0, .int 0, .ref (b + 12), .int 0, .int 0, .int 0, .int 0, .int 0, .int 0, .int 0, .ref (b + 13), .ref (b + 14), .ref (b + 15), .ref (b + 16), .ref (b + 17), .ref (b + 18), .ref (b + 19), .ref (b + 20), .ref (b + 21), .ref (b + 22), .ref (b + 23), .ref (b + 24), .int 0, .int 0, .int 0, .int 0, .ref (b + 25), .null, .null, .null, .null, .int 0])) :: [(b + 1, zI (ca 0) 256), (b + 2, zI (ca 0) 768), (b + 3, zI (ca 0) 12), (b + 4, zI (ca 0) 13), (b + 5, zI (ca 0) 130), (b + 6, zI (ca 0) 256), (b + 7, zI (ca 0) 12), (b + 8, zI (ca 0) 13), (b + 9, zI (ca 0) 130), (b + 10, zI (ca 1) 256), (b + 11, zI (ca 1) 256), (b + 12, zI (ca 2) 140), (b + 13, zI (ca 0) 12), (b + 14, zI (ca 0) 13), (b + 15, zI (ca 0) 130), (b + 16, zI (ca 0) 6), (b + 17, zI (ca 0) 11520), (b + 18, zI (ca 0) 256), (b + 19, zI (ca 0) 768), (b + 20, zI (ca 0) 9), (b + 21, zI (ca 0) 4), (b + 22, zI (ca 0) 1024), (b + 23, zI (ca 0) 130), (b + 24, zI (ca 1) 256), (b + 25, zI (ca 0) 256), (b + 26, zI (ca 0) 256)]) H := hP
  refine nw_putF C hin (pc' := 228) fg_X12_87 rfl rfl rfl (ty := .array .int) (by decide +kernel) rfl rfl (Nat.le_of_ble_eq_true rfl) hP hS dX12_init_225 rfl (fun H locs hP hS => ?_)
  have hP : nP D b 27 ((b, .inr (12, [.ref (b + 1), .ref (b + 2), .ref (b + 3), .ref (b + 4), .ref (b + 5), .ref (b + 6), .ref (b + 7), .ref (b + 8), .ref (b + 9), .ref (b + 10), .ref (b + 11), .int 0, .int 0, .int 0, .int 0, .int 0, .int 0, .int 0, .int 0, .int 0, .int 0, .int 0, .int 0, .int 0, .ref (b + 12), .int 0, .int 0, .int 0, .int 0, .int 0, .int 0, .int 0, .ref (b + 13), .ref (b + 14), .ref (b + 15), .ref (b + 16), .ref (b + 17), .ref (b + 18), .ref (b + 19), .ref (b + 20), .ref (b + 21), .ref (b + 22), .ref (b + 23), .ref (b + 24), .int 0, .int 0, .int 0, .int 0, .ref (b + 25), .ref (b + 26), .null, .null, .null, .int 0])) :: [(b + 1, zI (ca 0) 256), (b + 2, zI (ca 0) 768), (b + 3, zI (ca 0) 12), (b + 4, zI (ca 0) 13), (b + 5, zI (ca 0) 130), (b + 6, zI (ca 0) 256), (b + 7, zI (ca 0) 12), (b + 8, zI (ca 0) 13), (b + 9, zI (ca 0) 130), (b + 10, zI (ca 1) 256), (b + 11, zI (ca 1) 256), (b + 12, zI (ca 2) 140), (b + 13, zI (ca 0) 12), (b + 14, zI (ca 0) 13), (b + 15, zI (ca 0) 130), (b + 16, zI (ca 0) 6), (b + 17, zI (ca 0) 11520), (b + 18, zI (ca 0) 256), (b + 19, zI (ca 0) 768), (b + 20, zI (ca 0) 9), (b + 21, zI (ca 0) 4), (b + 22, zI (ca 0) 1024), (b + 23, zI (ca 0) 130), (b + 24, zI (ca 1) 256), (b + 25, zI (ca 0) 256), (b + 26, zI (ca 0) 256)]) H := hP
  refine lv_aload_n C.1 hb dX12_init_228 rfl (lv_at hl 0 rfl) ?_
  refine lv_sipush (v := 256) C.1 hb dX12_init_229 (by decide) ?_
  refine nw_newa C (atype := .int) (t := 0) (N := 256) (a0 := (256, .inl (fun _ => 0))) (ty := .int) (pc' := 234) rfl ar_int rfl (fun h => h) (fun _ => rfl) (by decide) (by decide) (Nat.le_of_ble_eq_true rfl) (Nat.le_of_ble_eq_true rfl) (Nat.le_of_ble_eq_true rfl) hP hS dX12_init_232 rfl (fun H hP hS => ?_)
  have hP : nP D b 28 ((b, .inr (12, [.ref (b + 1), .ref (b + 2), .ref (b + 3), .ref (b + 4), .ref (b + 5), .ref (b + 6), .ref (b + 7), .ref (b + 8), .ref (b + 9), .ref (b + 10), .ref (b + 11), .int 0, .int 0, .int 0, .int 0, .int 0, .int 0, .int 0, .int 0, .int 0, .int 0, .int 0, .int 0, .int 0, .ref (b + 12), .int 0, .int 0, .int 0, .int 0, .int 0, .int 0, .int 0, .ref (b + 13), .ref (b + 14), .ref (b + 15), .ref (b + 16), .ref (b + 17), .ref (b + 18), .ref (b + 19), .ref (b + 20), .ref (b + 21), .ref (b + 22), .ref (b + 23), .ref (b + 24), .int 0, .int 0, .int 0, .int 0, .ref (b + 25), .ref (b + 26), .null, .null, .null, .int 0])) :: [(b + 1, zI (ca 0) 256), (b + 2, zI (ca 0) 768), (b + 3, zI (ca 0) 12), (b + 4, zI (ca 0) 13), (b + 5, zI (ca 0) 130), (b + 6, zI (ca 0) 256), (b + 7, zI (ca 0) 12), (b + 8, zI (ca 0) 13), (b + 9, zI (ca 0) 130), (b + 10, zI (ca 1) 256), (b + 11, zI (ca 1) 256), (b + 12, zI (ca 2) 140), (b + 13, zI (ca 0) 12), (b + 14, zI (ca 0) 13), (b + 15, zI (ca 0) 130), (b + 16, zI (ca 0) 6), (b + 17, zI (ca 0) 11520), (b + 18, zI (ca 0) 256), (b + 19, zI (ca 0) 768), (b + 20, zI (ca 0) 9), (b + 21, zI (ca 0) 4), (b + 22, zI (ca 0) 1024), (b + 23, zI (ca 0) 130), (b + 24, zI (ca 1) 256), (b + 25, zI (ca 0) 256), (b + 26, zI (ca 0) 256), (b + 27, zI (ca 0) 256)]) H := hP
  refine nw_putF C hin (pc' := 237) fg_X12_90 rfl rfl rfl (ty := .array .int) (by decide +kernel) rfl rfl (Nat.le_of_ble_eq_true rfl) hP hS dX12_init_234 rfl (fun H locs hP hS => ?_)
  have hP : nP D b 28 ((b, .inr (12, [.ref (b + 1), .ref (b + 2), .ref (b + 3), .ref (b + 4), .ref (b + 5), .ref (b + 6), .ref (b + 7), .ref (b + 8), .ref (b + 9), .ref (b + 10), .ref (b + 11), .int 0, .int 0, .int 0, .int 0, .int 0, .int 0, .int 0, .int 0, .int 0, .int 0, .int 0, .int 0, .int 0, .ref (b + 12), .int 0, .int 0, .int 0, .int 0, .int 0, .int 0, .int 0, .ref (b + 13), .ref (b + 14), .ref (b + 15), .ref (b + 16), .ref (b + 17), .ref (b + 18), .ref (b + 19), .ref (b + 20), .ref (b + 21), .ref (b + 22), .ref (b + 23), .ref (b + 24), .int 0, .int 0, .int 0, .int 0, .ref (b + 25), .ref (b + 26), .ref (b + 27), .null, .null, .int 0])) :: [(b + 1, zI (ca 0) 256), (b + 2, zI (ca 0) 768), (b + 3, zI (ca 0) 12), (b + 4, zI (ca 0) 13), (b + 5, zI (ca 0) 130), (b + 6, zI (ca 0) 256), (b + 7, zI (ca 0) 12), (b + 8, zI (ca 0) 13), (b + 9, zI (ca 0) 130), (b + 10, zI (ca 1) 256), (b + 11, zI (ca 1) 256), (b + 12, zI (ca 2) 140), (b + 13, zI (ca 0) 12), (b + 14, zI (ca 0) 13), (b + 15, zI (ca 0) 130), (b + 16, zI (ca 0) 6), (b + 17, zI (ca 0) 11520), (b + 18, zI (ca 0) 256), (b + 19, zI (ca 0) 768), (b + 20, zI (ca 0) 9), (b + 21, zI (ca 0) 4), (b + 22, zI (ca 0) 1024), (b + 23, zI (ca 0) 130), (b + 24, zI (ca 1) 256), (b + 25, zI (ca 0) 256), (b + 26, zI (ca 0) 256), (b + 27, zI (ca 0) 256)]) H := hP
  refine lv_aload_n C.1 hb dX12_init_237 rfl (lv_at hl 0 rfl) ?_
  refine lv_sipush (v := 256) C.1 hb dX12_init_238 (by decide) ?_
  refine nw_newa C (atype := .int) (t := 0) (N := 256) (a0 := (256, .inl (fun _ => 0))) (ty := .int) (pc' := 243) rfl ar_int rfl (fun h => h) (fun _ => rfl) (by decide) (by decide) (Nat.le_of_ble_eq_true rfl) (Nat.le_of_ble_eq_true rfl) (Nat.le_of_ble_eq_true rfl) hP hS dX12_init_241 rfl (fun H hP hS => ?_)
  have hP : nP D b 29 ((b, .inr (12, [.ref (b + 1), .ref (b + 2), .ref (b + 3), .ref (b + 4), .ref (b + 5), .ref (b + 6), .ref (b + 7), .ref (b + 8), .ref (b + 9), .ref (b + 10), .ref (b + 11), .int 0, .int 0, .int 0, .int 0, .int 0, .int 0, .int 0, .int 0, .int 0, .int 0, .int 0, .int 0, .int 0, .ref (b + 12), .int 0, .int 0, .int 0, .int 0, .int 0, .int 0, .int 0, .ref (b + 13), .ref (b + 14), .ref (b + 15), .ref (b + 16), .ref (b + 17), .ref (b + 18), .ref (b + 19), .ref (b + 20), .ref (b + 21), .ref (b + 22), .ref (b + 23), .ref (b + 24), .int 0, .int 0, .int 0, .int 0, .ref (b + 25), .ref (b + 26), .ref (b + 27), .null, .null, .int 0])) :: [(b + 1, zI (ca 0) 256), (b + 2, zI (ca 0) 768), (b + 3, zI (ca 0) 12), (b + 4, zI (ca 0) 13), (b + 5, zI (ca 0) 130), (b + 6, zI (ca 0) 256), (b + 7, zI (ca 0) 12), (b + 8, zI (ca 0) 13), (b + 9, zI (ca 0) 130), (b + 10, zI (ca 1) 256), (b + 11, zI (ca 1) 256), (b + 12, zI (ca 2) 140), (b + 13, zI (ca 0) 12), (b + 14, zI (ca 0) 13), (b + 15, zI (ca 0) 130), (b + 16, zI (ca 0) 6), (b + 17, zI (ca 0) 11520), (b + 18, zI (ca 0) 256), (b + 19, zI (ca 0) 768), (b + 20, zI (ca 0) 9), (b + 21, zI (ca 0) 4), (b + 22, zI (ca 0) 1024), (b + 23, zI (ca 0) 130), (b + 24, zI (ca 1) 256), (b + 25, zI (ca 0) 256), (b + 26, zI (ca 0) 256), (b + 27, zI (ca 0) 256), (b + 28, zI (ca 0) 256)]) H := hP
  refine nw_putF C hin (pc' := 246) fg_X12_93 rfl rfl rfl (ty := .array .int) (by decide +kernel) rfl rfl (Nat.le_of_ble_eq_true rfl) hP hS dX12_init_243 rfl (fun H locs hP hS => ?_)
  have hP : nP D b 29 ((b, .inr (12, [.ref (b + 1), .ref (b + 2), .ref (b + 3), .ref (b + 4), .ref (b + 5), .ref (b + 6), .ref (b + 7), .ref (b + 8), .ref (b + 9), .ref (b + 10), .ref (b + 11), .int 0, .int 0, .int 0, .int 0, .int 0, .int 0, .int 0, .int 0, .int 0, .int 0, .int 0, .int 0, .int 0, .ref (b + 12), .int 0, .int 0, .int 0, .int 0, .int 0, .int 0, .int 0, .ref (b + 13), .ref (b + 14), .ref (b + 15), .ref (b + 16), .ref (b + 17), .ref (b + 18), .ref (b + 19), .ref (b + 20), .ref (b + 21), .ref (b + 22), .ref (b + 23), .ref (b + 24), .int 0, .int 0, .int 0, .int 0, .ref (b + 25), .ref (b + 26), .ref (b + 27), .ref (b + 28), .null, .int 0])) :: [(b + 1, zI (ca 0) 256), (b + 2, zI (ca 0) 768), (b + 3, zI (ca 0) 12), (b + 4, zI (ca 0) 13), (b + 5, zI (ca 0) 130), (b + 6, zI (ca 0) 256), (b + 7, zI (ca 0) 12), (b + 8, zI (ca 0) 13), (b + 9, zI (ca 0) 130), (b + 10, zI (ca 1) 256), (b + 11, zI (ca 1) 256), (b + 12, zI (ca 2) 140), (b + 13, zI (ca 0) 12), (b + 14, zI (ca 0) 13), (b + 15, zI (ca 0) 130), (b + 16, zI (ca 0) 6), (b + 17, zI (ca 0) 11520), (b + 18, zI (ca 0) 256), (b + 19, zI (ca 0) 768), (b + 20, zI (ca 0) 9), (b + 21, zI (ca 0) 4), (b + 22, zI (ca 0) 1024), (b + 23, zI (ca 0) 130), (b + 24, zI (ca 1) 256), (b + 25, zI (ca 0) 256), (b + 26, zI (ca 0) 256), (b + 27, zI (ca 0) 256), (b + 28, zI (ca 0) 256)]) H := hP
  refine lv_aload_n C.1 hb dX12_init_246 rfl (lv_at hl 0 rfl) ?_
  refine lv_sipush (v := 256) C.1 hb dX12_init_247 (by decide) ?_
  refine nw_newa C (atype := .int) (t := 0) (N := 256) (a0 := (256, .inl (fun _ => 0))) (ty := .int) (pc' := 252) rfl ar_int rfl (fun h => h) (fun _ => rfl) (by decide) (by decide) (Nat.le_of_ble_eq_true rfl) (Nat.le_of_ble_eq_true rfl) (Nat.le_of_ble_eq_true rfl) hP hS dX12_init_250 rfl (fun H hP hS => ?_)
  have hP : nP D b 30 ((b, .inr (12, [.ref (b + 1), .ref (b + 2), .ref (b + 3), .ref (b + 4), .ref (b + 5), .ref (b + 6), .ref (b + 7), .ref (b + 8), .ref (b + 9), .ref (b + 10), .ref (b + 11), .int 0, .int 0, .int 0, .int 0, .int 0, .int 0, .int 0, .int 0, .int 0, .int 0, .int 0, .int 0, .int 0, .ref (b + 12), .int 0, .int 0, .int 0, .int 0, .int 0, .int 0, .int 0, .ref (b + 13), .ref (b + 14), .ref (b + 15), .ref (b + 16), .ref (b + 17), .ref (b + 18), .ref (b + 19), .ref (b + 20), .ref (b + 21), .ref (b + 22), .ref (b + 23), .ref (b + 24), .int 0, .int 0, .int 0, .int 0, .ref (b + 25), .ref (b + 26), .ref (b + 27), .ref (b + 28), .null, .int 0])) :: [(b + 1, zI (ca 0) 256), (b + 2, zI (ca 0) 768), (b + 3, zI (ca 0) 12), (b + 4, zI (ca 0) 13), (b + 5, zI (ca 0) 130), (b + 6, zI (ca 0) 256), (b + 7, zI (ca 0) 12), (b + 8, zI (ca 0) 13), (b + 9, zI (ca 0) 130), (b + 10, zI (ca 1) 256), (b + 11, zI (ca 1) 256), (b + 12, zI (ca 2) 140), (b + 13, zI (ca 0) 12), (b + 14, zI (ca 0) 13), (b + 15, zI (ca 0) 130), (b + 16, zI (ca 0) 6), (b + 17, zI (ca 0) 11520), (b + 18, zI (ca 0) 256), (b + 19, zI (ca 0) 768), (b + 20, zI (ca 0) 9), (b + 21, zI (ca 0) 4), (b + 22, zI (ca 0) 1024), (b + 23, zI (ca 0) 130), (b + 24, zI (ca 1) 256), (b + 25, zI (ca 0) 256), (b + 26, zI (ca 0) 256), (b + 27, zI (ca 0) 256), (b + 28, zI (ca 0) 256), (b + 29, zI (ca 0) 256)]) H := hP
  refine nw_putF C hin (pc' := 255) fg_X12_96 rfl rfl rfl (ty := .array .int) (by decide +kernel) rfl rfl (Nat.le_of_ble_eq_true rfl) hP hS dX12_init_252 rfl (fun H locs hP hS => ?_)
  have hP : nP D b 30 ((b, .inr (12, [.ref (b + 1), .ref (b + 2), .ref (b + 3), .ref (b + 4), .ref (b + 5), .ref (b + 6), .ref (b + 7), .ref (b + 8), .ref (b + 9), .ref (b + 10), .ref (b + 11), .int 0, .int 0, .int 0, .int 0, .int 0, .int 0, .int 0, .int 0, .int 0, .int 0, .int 0, .int 0, .int 0, .ref (b + 12), .int 0, .int 0, .int 0, .int 0, .int 0, .int 0, .int 0, .ref (b + 13), .ref (b + 14), .ref (b + 15), .ref (b + 16), .ref (b + 17), .ref (b + 18), .ref (b + 19), .ref (b + 20), .ref (b + 21), .ref (b + 22), .ref (b + 23), .ref (b + 24), .int 0, .int 0, .int 0, .int 0, .ref (b + 25), .ref (b + 26), .ref (b + 27), .ref (b + 28), .ref (b + 29), .int 0])) :: [(b + 1, zI (ca 0) 256), (b + 2, zI (ca 0) 768), (b + 3, zI (ca 0) 12), (b + 4, zI (ca 0) 13), (b + 5, zI (ca 0) 130), (b + 6, zI (ca 0) 256), (b + 7, zI (ca 0) 12), (b + 8, zI (ca 0) 13), (b + 9, zI (ca 0) 130), (b + 10, zI (ca 1) 256), (b + 11, zI (ca 1) 256), (b + 12, zI (ca 2) 140), (b + 13, zI (ca 0) 12), (b + 14, zI (ca 0) 13), (b + 15, zI (ca 0) 130), (b + 16, zI (ca 0) 6), (b + 17, zI (ca 0) 11520), (b + 18, zI (ca 0) 256), (b + 19, zI (ca 0) 768), (b + 20, zI (ca 0) 9), (b + 21, zI (ca 0) 4), (b + 22, zI (ca 0) 1024), (b + 23, zI (ca 0) 130), (b + 24, zI (ca 1) 256), (b + 25, zI (ca 0) 256), (b + 26, zI (ca 0) 256), (b + 27, zI (ca 0) 256), (b + 28, zI (ca 0) 256), (b + 29, zI (ca 0) 256)]) H := hP
  refine lv_aload_n C.1 hb dX12_init_255 rfl (lv_at hl 0 rfl) ?_
  refine lv_iconst (v := Int32.ofInt (4)) C.1 hb dX12_init_256 rfl ?_
  refine nw_put C (pc' := 260) fp_X12_99 rfl rfl (Nat.le_of_ble_eq_true rfl) hP hS dX12_init_257 rfl (fun H locs hP hS => ?_)
  have hP : nP D b 30 ((b, .inr (12, [.ref (b + 1), .ref (b + 2), .ref (b + 3), .ref (b + 4), .ref (b + 5), .ref (b + 6), .ref (b + 7), .ref (b + 8), .ref (b + 9), .ref (b + 10), .ref (b + 11), .int (Int32.ofInt (4)), .int 0, .int 0, .int 0, .int 0, .int 0, .int 0, .int 0, .int 0, .int 0, .int 0, .int 0, .int 0, .ref (b + 12), .int 0, .int 0, .int 0, .int 0, .int 0, .int 0, .int 0, .ref (b + 13), .ref (b + 14), .ref (b + 15), .ref (b + 16), .ref (b + 17), .ref (b + 18), .ref (b + 19), .ref (b + 20), .ref (b + 21), .ref (b + 22), .ref (b + 23), .ref (b + 24), .int 0, .int 0, .int 0, .int 0, .ref (b + 25), .ref (b + 26), .ref (b + 27), .ref (b + 28), .ref (b + 29), .int 0])) :: [(b + 1, zI (ca 0) 256), (b + 2, zI (ca 0) 768), (b + 3, zI (ca 0) 12), (b + 4, zI (ca 0) 13), (b + 5, zI (ca 0) 130), (b + 6, zI (ca 0) 256), (b + 7, zI (ca 0) 12), (b + 8, zI (ca 0) 13), (b + 9, zI (ca 0) 130), (b + 10, zI (ca 1) 256), (b + 11, zI (ca 1) 256), (b + 12, zI (ca 2) 140), (b + 13, zI (ca 0) 12), (b + 14, zI (ca 0) 13), (b + 15, zI (ca 0) 130), (b + 16, zI (ca 0) 6), (b + 17, zI (ca 0) 11520), (b + 18, zI (ca 0) 256), (b + 19, zI (ca 0) 768), (b + 20, zI (ca 0) 9), (b + 21, zI (ca 0) 4), (b + 22, zI (ca 0) 1024), (b + 23, zI (ca 0) 130), (b + 24, zI (ca 1) 256), (b + 25, zI (ca 0) 256), (b + 26, zI (ca 0) 256), (b + 27, zI (ca 0) 256), (b + 28, zI (ca 0) 256), (b + 29, zI (ca 0) 256)]) H := hP
  refine lv_aload_n C.1 hb dX12_init_260 rfl (lv_at hl 0 rfl) ?_
  refine lv_iconst (v := Int32.ofInt (4)) C.1 hb dX12_init_261 rfl ?_
  refine nw_put C (pc' := 265) fp_X12_103 rfl rfl (Nat.le_of_ble_eq_true rfl) hP hS dX12_init_262 rfl (fun H locs hP hS => ?_)
  have hP : nP D b 30 ((b, .inr (12, [.ref (b + 1), .ref (b + 2), .ref (b + 3), .ref (b + 4), .ref (b + 5), .ref (b + 6), .ref (b + 7), .ref (b + 8), .ref (b + 9), .ref (b + 10), .ref (b + 11), .int (Int32.ofInt (4)), .int (Int32.ofInt (4)), .int 0, .int 0, .int 0, .int 0, .int 0, .int 0, .int 0, .int 0, .int 0, .int 0, .int 0, .ref (b + 12), .int 0, .int 0, .int 0, .int 0, .int 0, .int 0, .int 0, .ref (b + 13), .ref (b + 14), .ref (b + 15), .ref (b + 16), .ref (b + 17), .ref (b + 18), .ref (b + 19), .ref (b + 20), .ref (b + 21), .ref (b + 22), .ref (b + 23), .ref (b + 24), .int 0, .int 0, .int 0, .int 0, .ref (b + 25), .ref (b + 26), .ref (b + 27), .ref (b + 28), .ref (b + 29), .int 0])) :: [(b + 1, zI (ca 0) 256), (b + 2, zI (ca 0) 768), (b + 3, zI (ca 0) 12), (b + 4, zI (ca 0) 13), (b + 5, zI (ca 0) 130), (b + 6, zI (ca 0) 256), (b + 7, zI (ca 0) 12), (b + 8, zI (ca 0) 13), (b + 9, zI (ca 0) 130), (b + 10, zI (ca 1) 256), (b + 11, zI (ca 1) 256), (b + 12, zI (ca 2) 140), (b + 13, zI (ca 0) 12), (b + 14, zI (ca 0) 13), (b + 15, zI (ca 0) 130), (b + 16, zI (ca 0) 6), (b + 17, zI (ca 0) 11520), (b + 18, zI (ca 0) 256), (b + 19, zI (ca 0) 768), (b + 20, zI (ca 0) 9), (b + 21, zI (ca 0) 4), (b + 22, zI (ca 0) 1024), (b + 23, zI (ca 0) 130), (b + 24, zI (ca 1) 256), (b + 25, zI (ca 0) 256), (b + 26, zI (ca 0) 256), (b + 27, zI (ca 0) 256), (b + 28, zI (ca 0) 256), (b + 29, zI (ca 0) 256)]) H := hP
  refine lv_aload_n C.1 hb dX12_init_265 rfl (lv_at hl 0 rfl) ?_
  refine lv_iconst (v := Int32.ofInt (1)) C.1 hb dX12_init_266 rfl ?_
  refine nw_put C (pc' := 270) fp_X12_106 rfl rfl (Nat.le_of_ble_eq_true rfl) hP hS dX12_init_267 rfl (fun H locs hP hS => ?_)
  have hP : nP D b 30 ((b, .inr (12, [.ref (b + 1), .ref (b + 2), .ref (b + 3), .ref (b + 4), .ref (b + 5), .ref (b + 6), .ref (b + 7), .ref (b + 8), .ref (b + 9), .ref (b + 10), .ref (b + 11), .int (Int32.ofInt (4)), .int (Int32.ofInt (4)), .int 0, .int 0, .int (Int32.ofInt (1)), .int 0, .int 0, .int 0, .int 0, .int 0, .int 0, .int 0, .int 0, .ref (b + 12), .int 0, .int 0, .int 0, .int 0, .int 0, .int 0, .int 0, .ref (b + 13), .ref (b + 14), .ref (b + 15), .ref (b + 16), .ref (b + 17), .ref (b + 18), .ref (b + 19), .ref (b + 20), .ref (b + 21), .ref (b + 22), .ref (b + 23), .ref (b + 24), .int 0, .int 0, .int 0, .int 0, .ref (b + 25), .ref (b + 26), .ref (b + 27), .ref (b + 28), .ref (b + 29), .int 0])) :: [(b + 1, zI (ca 0) 256), (b + 2, zI (ca 0) 768), (b + 3, zI (ca 0) 12), (b + 4, zI (ca 0) 13), (b + 5, zI (ca 0) 130), (b + 6, zI (ca 0) 256), (b + 7, zI (ca 0) 12), (b + 8, zI (ca 0) 13), (b + 9, zI (ca 0) 130), (b + 10, zI (ca 1) 256), (b + 11, zI (ca 1) 256), (b + 12, zI (ca 2) 140), (b + 13, zI (ca 0) 12), (b + 14, zI (ca 0) 13), (b + 15, zI (ca 0) 130), (b + 16, zI (ca 0) 6), (b + 17, zI (ca 0) 11520), (b + 18, zI (ca 0) 256), (b + 19, zI (ca 0) 768), (b + 20, zI (ca 0) 9), (b + 21, zI (ca 0) 4), (b + 22, zI (ca 0) 1024), (b + 23, zI (ca 0) 130), (b + 24, zI (ca 1) 256), (b + 25, zI (ca 0) 256), (b + 26, zI (ca 0) 256), (b + 27, zI (ca 0) 256), (b + 28, zI (ca 0) 256), (b + 29, zI (ca 0) 256)]) H := hP
  exact nw_ret C rfl (k := 29) hP hS dX12_init_270
