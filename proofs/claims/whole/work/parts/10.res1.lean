set_option maxRecDepth 20000 in
theorem wl_X11_3 : Cond.methodLink RX11 3 objectInit ∈ BIG := okB (by decide +kernel)
set_option maxRecDepth 20000 in
theorem wl_X11_11 : Cond.classLink RX11 11 "HomeByFour$Sheet" ∈ BIG := okB (by decide +kernel)
set_option maxRecDepth 20000 in
theorem nr_X11_11 : NR RX11 11 5 [.null, .int 0, .int 0] := ⟨_, _, _, tyX5, rfl, okB (by decide +kernel), okB (by decide +kernel), okB (by decide +kernel), tyX5_ok, by decide +kernel, by decide, rfl⟩
set_option maxRecDepth 20000 in
theorem fg_X11_13_11 : FG RX11 13 11 0 := ⟨_, _, _, "HomeByFour", rfl, by decide, okB (by decide +kernel), Or.inl rfl⟩
set_option maxRecDepth 20000 in
theorem fr_X11_13_11 : FR RX11 13 11 0 (.array (.object "HomeByFour$Sheet")) true := ⟨_, _, _, "HomeByFour", rfl, by decide, okB (by decide +kernel), Or.inl rfl, by decide +kernel, rfl, fun _ => rfl⟩
set_option maxRecDepth 20000 in
theorem ck_X5_init : CK mX5_init := ⟨okB (by decide +kernel), okB (by decide +kernel), by decide, by decide +kernel, by decide +kernel⟩
set_option maxRecDepth 20000 in
theorem ci_X11_17 : CI RX11 17 0 mX5_init := ⟨ck_X5_init, Or.inl (okB (by decide +kernel)), okB (by decide +kernel), rfl, rfl, by decide +kernel⟩
set_option maxRecDepth 20000 in
theorem nr_X11_18 : NR RX11 18 2 [.null, .null, .null, .int 0, .int 0, .int 0, .int 0, .int 0, .int 0] := ⟨_, _, _, tyX2, rfl, okB (by decide +kernel), okB (by decide +kernel), okB (by decide +kernel), tyX2_ok, by decide +kernel, by decide, rfl⟩
set_option maxRecDepth 20000 in
theorem ck_X2_init : CK mX2_init := ⟨okB (by decide +kernel), okB (by decide +kernel), by decide, by decide +kernel, by decide +kernel⟩
set_option maxRecDepth 20000 in
theorem ci_X11_20 : CI RX11 20 0 mX2_init := ⟨ck_X2_init, Or.inl (okB (by decide +kernel)), okB (by decide +kernel), rfl, rfl, by decide +kernel⟩
set_option maxRecDepth 20000 in
theorem fg_X11_21_11 : FG RX11 21 11 1 := ⟨_, _, _, "HomeByFour", rfl, by decide, okB (by decide +kernel), Or.inl rfl⟩
set_option maxRecDepth 20000 in
theorem fr_X11_21_11 : FR RX11 21 11 1 (.object "HomeByFour$Net") true := ⟨_, _, _, "HomeByFour", rfl, by decide, okB (by decide +kernel), Or.inl rfl, by decide +kernel, rfl, fun _ => rfl⟩
set_option maxRecDepth 20000 in
theorem nr_X11_25 : NR RX11 25 10 [.int 0, .int 0, .int 0, .int 0, .int 0, .long 0] := ⟨_, _, _, tyX10, rfl, okB (by decide +kernel), okB (by decide +kernel), okB (by decide +kernel), tyX10_ok, by decide +kernel, by decide, rfl⟩
set_option maxRecDepth 20000 in
theorem ck_X10_init : CK mX10_init := ⟨okB (by decide +kernel), okB (by decide +kernel), by decide, by decide +kernel, by decide +kernel⟩
set_option maxRecDepth 20000 in
theorem ci_X11_27 : CI RX11 27 0 mX10_init := ⟨ck_X10_init, Or.inr ⟨"HomeByFour", by decide +kernel⟩, okB (by decide +kernel), rfl, rfl, by decide +kernel⟩
set_option maxRecDepth 20000 in
theorem fg_X11_28_11 : FG RX11 28 11 2 := ⟨_, _, _, "HomeByFour", rfl, by decide, okB (by decide +kernel), Or.inl rfl⟩
set_option maxRecDepth 20000 in
theorem fr_X11_28_11 : FR RX11 28 11 2 (.object "HomeByFour$Walk") true := ⟨_, _, _, "HomeByFour", rfl, by decide, okB (by decide +kernel), Or.inl rfl, by decide +kernel, rfl, fun _ => rfl⟩
set_option maxRecDepth 20000 in
theorem nr_X11_32 : NR RX11 32 4 [.null, .null, .null, .int 0, .int 0, .int 0, .null, .int 0, .int 0, .int 0, .int 0, .int 0, .int 0] := ⟨_, _, _, tyX4, rfl, okB (by decide +kernel), okB (by decide +kernel), okB (by decide +kernel), tyX4_ok, by decide +kernel, by decide, rfl⟩
set_option maxRecDepth 20000 in
theorem ck_X4_init : CK mX4_init := ⟨okB (by decide +kernel), okB (by decide +kernel), by decide, by decide +kernel, by decide +kernel⟩
set_option maxRecDepth 20000 in
theorem ci_X11_34 : CI RX11 34 0 mX4_init := ⟨ck_X4_init, Or.inl (okB (by decide +kernel)), okB (by decide +kernel), rfl, rfl, by decide +kernel⟩
set_option maxRecDepth 20000 in
theorem fg_X11_35_11 : FG RX11 35 11 3 := ⟨_, _, _, "HomeByFour", rfl, by decide, okB (by decide +kernel), Or.inl rfl⟩
set_option maxRecDepth 20000 in
theorem fr_X11_35_11 : FR RX11 35 11 3 (.object "HomeByFour$Search") true := ⟨_, _, _, "HomeByFour", rfl, by decide, okB (by decide +kernel), Or.inl rfl, by decide +kernel, rfl, fun _ => rfl⟩
set_option maxRecDepth 20000 in
theorem nr_X11_39 : NR RX11 39 3 [.null] := ⟨_, _, _, tyX3, rfl, okB (by decide +kernel), okB (by decide +kernel), okB (by decide +kernel), tyX3_ok, by decide +kernel, by decide, rfl⟩
set_option maxRecDepth 20000 in
theorem ck_X3_init : CK mX3_init := ⟨okB (by decide +kernel), okB (by decide +kernel), by decide, by decide +kernel, by decide +kernel⟩
set_option maxRecDepth 20000 in
theorem ci_X11_41 : CI RX11 41 0 mX3_init := ⟨ck_X3_init, Or.inl (okB (by decide +kernel)), okB (by decide +kernel), rfl, rfl, by decide +kernel⟩
set_option maxRecDepth 20000 in
theorem fg_X11_42_11 : FG RX11 42 11 4 := ⟨_, _, _, "HomeByFour", rfl, by decide, okB (by decide +kernel), Or.inl rfl⟩
set_option maxRecDepth 20000 in
theorem fr_X11_42_11 : FR RX11 42 11 4 (.object "HomeByFour$Quickest") true := ⟨_, _, _, "HomeByFour", rfl, by decide, okB (by decide +kernel), Or.inl rfl, by decide +kernel, rfl, fun _ => rfl⟩
set_option maxRecDepth 20000 in
theorem nr_X11_46 : NR RX11 46 0 [.null, .null] := ⟨_, _, _, tyX0, rfl, okB (by decide +kernel), okB (by decide +kernel), okB (by decide +kernel), tyX0_ok, by decide +kernel, by decide, rfl⟩
set_option maxRecDepth 20000 in
theorem ck_X0_init : CK mX0_init := ⟨okB (by decide +kernel), okB (by decide +kernel), by decide, by decide +kernel, by decide +kernel⟩
set_option maxRecDepth 20000 in
theorem ci_X11_48 : CI RX11 48 0 mX0_init := ⟨ck_X0_init, Or.inl (okB (by decide +kernel)), okB (by decide +kernel), rfl, rfl, by decide +kernel⟩
set_option maxRecDepth 20000 in
theorem fg_X11_49_11 : FG RX11 49 11 5 := ⟨_, _, _, "HomeByFour", rfl, by decide, okB (by decide +kernel), Or.inl rfl⟩
set_option maxRecDepth 20000 in
theorem fr_X11_49_11 : FR RX11 49 11 5 (.object "HomeByFour$Dawdling") true := ⟨_, _, _, "HomeByFour", rfl, by decide, okB (by decide +kernel), Or.inl rfl, by decide +kernel, rfl, fun _ => rfl⟩
set_option maxRecDepth 20000 in
theorem nr_X11_53 : NR RX11 53 9 [.int 0] := ⟨_, _, _, tyX9, rfl, okB (by decide +kernel), okB (by decide +kernel), okB (by decide +kernel), tyX9_ok, by decide +kernel, by decide, rfl⟩
set_option maxRecDepth 20000 in
theorem ck_X9_init : CK mX9_init := ⟨okB (by decide +kernel), okB (by decide +kernel), by decide, by decide +kernel, by decide +kernel⟩
set_option maxRecDepth 20000 in
theorem ci_X11_55 : CI RX11 55 0 mX9_init := ⟨ck_X9_init, Or.inr ⟨"HomeByFour", by decide +kernel⟩, okB (by decide +kernel), rfl, rfl, by decide +kernel⟩
set_option maxRecDepth 20000 in
theorem fg_X11_56_11 : FG RX11 56 11 6 := ⟨_, _, _, "HomeByFour", rfl, by decide, okB (by decide +kernel), Or.inl rfl⟩
set_option maxRecDepth 20000 in
theorem fr_X11_56_11 : FR RX11 56 11 6 (.object "HomeByFour$Trace") true := ⟨_, _, _, "HomeByFour", rfl, by decide, okB (by decide +kernel), Or.inl rfl, by decide +kernel, rfl, fun _ => rfl⟩
set_option maxRecDepth 20000 in
theorem fg_X11_60_11 : FG RX11 60 11 7 := ⟨_, _, _, "HomeByFour", rfl, by decide, okB (by decide +kernel), Or.inl rfl⟩
set_option maxRecDepth 20000 in
theorem fr_X11_60_11 : FR RX11 60 11 7 (.int) false := ⟨_, _, _, "HomeByFour", rfl, by decide, okB (by decide +kernel), Or.inl rfl, by decide +kernel, rfl, fun h => absurd h (by decide)⟩
set_option maxRecDepth 20000 in
theorem ck_X11_sheetAt : CK mX11_sheetAt := ⟨okB (by decide +kernel), okB (by decide +kernel), by decide, by decide +kernel, by decide +kernel⟩
set_option maxRecDepth 20000 in
theorem cv_X11_64 : CV RX11 64 11 1 mX11_sheetAt := ⟨ck_X11_sheetAt, _, _, _, rfl, rfl, okB (by decide +kernel), okB (by decide +kernel), okB (by decide +kernel), by decide +kernel⟩
set_option maxRecDepth 20000 in
theorem ck_X11_refused : CK mX11_refused := ⟨okB (by decide +kernel), okB (by decide +kernel), by decide, by decide +kernel, by decide +kernel⟩
set_option maxRecDepth 20000 in
theorem cv_X11_68 : CV RX11 68 11 1 mX11_refused := ⟨ck_X11_refused, _, _, _, rfl, rfl, okB (by decide +kernel), okB (by decide +kernel), okB (by decide +kernel), by decide +kernel⟩
set_option maxRecDepth 20000 in
theorem ck_X11_isWithin : CK mX11_isWithin := ⟨okB (by decide +kernel), okB (by decide +kernel), by decide, by decide +kernel, by decide +kernel⟩
set_option maxRecDepth 20000 in
theorem cs_X11_72 : CS RX11 72 3 mX11_isWithin := ⟨ck_X11_isWithin, Or.inl (okB (by decide +kernel)), okB (by decide +kernel), by decide +kernel⟩
set_option maxRecDepth 20000 in
theorem ck_X5_faultOfCells : CK mX5_faultOfCells := ⟨okB (by decide +kernel), okB (by decide +kernel), by decide, by decide +kernel, by decide +kernel⟩
set_option maxRecDepth 20000 in
theorem cv_X11_76 : CV RX11 76 5 3 mX5_faultOfCells := ⟨ck_X5_faultOfCells, _, _, _, rfl, rfl, okB (by decide +kernel), okB (by decide +kernel), okB (by decide +kernel), by decide +kernel⟩
set_option maxRecDepth 20000 in
theorem ck_X11_failed : CK mX11_failed := ⟨okB (by decide +kernel), okB (by decide +kernel), by decide, by decide +kernel, by decide +kernel⟩
set_option maxRecDepth 20000 in
theorem cv_X11_80 : CV RX11 80 11 1 mX11_failed := ⟨ck_X11_failed, _, _, _, rfl, rfl, okB (by decide +kernel), okB (by decide +kernel), okB (by decide +kernel), by decide +kernel⟩
set_option maxRecDepth 20000 in
theorem nr_X11_83 : NR RX11 83 8 [.null, .int 0, .int 0] := ⟨_, _, _, tyX8, rfl, okB (by decide +kernel), okB (by decide +kernel), okB (by decide +kernel), tyX8_ok, by decide +kernel, by decide, rfl⟩
set_option maxRecDepth 20000 in
theorem ck_X8_init : CK mX8_init := ⟨okB (by decide +kernel), okB (by decide +kernel), by decide, by decide +kernel, by decide +kernel⟩
set_option maxRecDepth 20000 in
theorem ci_X11_85 : CI RX11 85 3 mX8_init := ⟨ck_X8_init, Or.inl (okB (by decide +kernel)), okB (by decide +kernel), rfl, rfl, by decide +kernel⟩
set_option maxRecDepth 20000 in
theorem ck_X8_firstFault : CK mX8_firstFault := ⟨okB (by decide +kernel), okB (by decide +kernel), by decide, by decide +kernel, by decide +kernel⟩
set_option maxRecDepth 20000 in
theorem cv_X11_88 : CV RX11 88 8 0 mX8_firstFault := ⟨ck_X8_firstFault, _, _, _, rfl, rfl, okB (by decide +kernel), okB (by decide +kernel), okB (by decide +kernel), by decide +kernel⟩
set_option maxRecDepth 20000 in
theorem ck_X2_takeOver : CK mX2_takeOver := ⟨okB (by decide +kernel), okB (by decide +kernel), by decide, by decide +kernel, by decide +kernel⟩
set_option maxRecDepth 20000 in
theorem cv_X11_92 : CV RX11 92 2 1 mX2_takeOver := ⟨ck_X2_takeOver, _, _, _, rfl, rfl, okB (by decide +kernel), okB (by decide +kernel), okB (by decide +kernel), by decide +kernel⟩
set_option maxRecDepth 20000 in
theorem fg_X11_96_2 : FG RX11 96 2 4 := ⟨_, _, _, "HomeByFour$Net", rfl, by decide, okB (by decide +kernel), Or.inl rfl⟩
set_option maxRecDepth 20000 in
theorem ck_X2_stretchAt : CK mX2_stretchAt := ⟨okB (by decide +kernel), okB (by decide +kernel), by decide, by decide +kernel, by decide +kernel⟩
set_option maxRecDepth 20000 in
theorem cv_X11_99 : CV RX11 99 2 1 mX2_stretchAt := ⟨ck_X2_stretchAt, _, _, _, rfl, rfl, okB (by decide +kernel), okB (by decide +kernel), okB (by decide +kernel), by decide +kernel⟩
set_option maxRecDepth 20000 in
theorem ck_X1_kind : CK mX1_kind := ⟨okB (by decide +kernel), okB (by decide +kernel), by decide, by decide +kernel, by decide +kernel⟩
set_option maxRecDepth 20000 in
theorem co_X11_103_1 : CO RX11 103 1 0 mX1_kind := ⟨ck_X1_kind, _, _, _, "HomeByFour$Stretch", (⟨"HomeByFour$Stretch", "kind", "()I"⟩ : MethodName), cX7_kind, 1, (some .int), rfl, okB (by decide +kernel), okB (by decide +kernel), okB (by decide +kernel), okB (by decide +kernel), okB (by decide +kernel), okB (by decide +kernel), ⟨by decide +kernel, by decide +kernel⟩, by decide +kernel⟩
set_option maxRecDepth 20000 in
theorem ck_X6_kind : CK mX6_kind := ⟨okB (by decide +kernel), okB (by decide +kernel), by decide, by decide +kernel, by decide +kernel⟩
set_option maxRecDepth 20000 in
theorem co_X11_103_6 : CO RX11 103 6 0 mX6_kind := ⟨ck_X6_kind, _, _, _, "HomeByFour$Stretch", (⟨"HomeByFour$Stretch", "kind", "()I"⟩ : MethodName), cX7_kind, 1, (some .int), rfl, okB (by decide +kernel), okB (by decide +kernel), okB (by decide +kernel), okB (by decide +kernel), okB (by decide +kernel), okB (by decide +kernel), ⟨by decide +kernel, by decide +kernel⟩, by decide +kernel⟩
set_option maxRecDepth 20000 in
theorem ck_X7_kind : CK mX7_kind := ⟨okB (by decide +kernel), okB (by decide +kernel), by decide, by decide +kernel, by decide +kernel⟩
set_option maxRecDepth 20000 in
theorem co_X11_103_7 : CO RX11 103 7 0 mX7_kind := ⟨ck_X7_kind, _, _, _, "HomeByFour$Stretch", (⟨"HomeByFour$Stretch", "kind", "()I"⟩ : MethodName), cX7_kind, 1, (some .int), rfl, okB (by decide +kernel), okB (by decide +kernel), okB (by decide +kernel), okB (by decide +kernel), okB (by decide +kernel), okB (by decide +kernel), ⟨by decide +kernel, by decide +kernel⟩, by decide +kernel⟩
set_option maxRecDepth 20000 in
theorem fg_X11_108_1 : FG RX11 108 1 1 := ⟨_, _, _, "HomeByFour$Stretch", rfl, by decide, okB (by decide +kernel), Or.inl rfl⟩
set_option maxRecDepth 20000 in
theorem fg_X11_108_6 : FG RX11 108 6 1 := ⟨_, _, _, "HomeByFour$Stretch", rfl, by decide, okB (by decide +kernel), Or.inl rfl⟩
set_option maxRecDepth 20000 in
theorem fg_X11_108_7 : FG RX11 108 7 1 := ⟨_, _, _, "HomeByFour$Stretch", rfl, by decide, okB (by decide +kernel), Or.inl rfl⟩
set_option maxRecDepth 20000 in
theorem fg_X11_111_1 : FG RX11 111 1 2 := ⟨_, _, _, "HomeByFour$Stretch", rfl, by decide, okB (by decide +kernel), Or.inl rfl⟩
set_option maxRecDepth 20000 in
theorem fg_X11_111_6 : FG RX11 111 6 2 := ⟨_, _, _, "HomeByFour$Stretch", rfl, by decide, okB (by decide +kernel), Or.inl rfl⟩
set_option maxRecDepth 20000 in
theorem fg_X11_111_7 : FG RX11 111 7 2 := ⟨_, _, _, "HomeByFour$Stretch", rfl, by decide, okB (by decide +kernel), Or.inl rfl⟩
set_option maxRecDepth 20000 in
theorem fg_X11_114_1 : FG RX11 114 1 3 := ⟨_, _, _, "HomeByFour$Stretch", rfl, by decide, okB (by decide +kernel), Or.inl rfl⟩
set_option maxRecDepth 20000 in
theorem fg_X11_114_6 : FG RX11 114 6 3 := ⟨_, _, _, "HomeByFour$Stretch", rfl, by decide, okB (by decide +kernel), Or.inl rfl⟩
set_option maxRecDepth 20000 in
theorem fg_X11_114_7 : FG RX11 114 7 3 := ⟨_, _, _, "HomeByFour$Stretch", rfl, by decide, okB (by decide +kernel), Or.inl rfl⟩
set_option maxRecDepth 20000 in
theorem fg_X11_117_1 : FG RX11 117 1 4 := ⟨_, _, _, "HomeByFour$Stretch", rfl, by decide, okB (by decide +kernel), Or.inl rfl⟩
set_option maxRecDepth 20000 in
theorem fg_X11_117_6 : FG RX11 117 6 4 := ⟨_, _, _, "HomeByFour$Stretch", rfl, by decide, okB (by decide +kernel), Or.inl rfl⟩
set_option maxRecDepth 20000 in
theorem fg_X11_117_7 : FG RX11 117 7 4 := ⟨_, _, _, "HomeByFour$Stretch", rfl, by decide, okB (by decide +kernel), Or.inl rfl⟩
set_option maxRecDepth 20000 in
theorem fg_X11_120_1 : FG RX11 120 1 5 := ⟨_, _, _, "HomeByFour$Stretch", rfl, by decide, okB (by decide +kernel), Or.inl rfl⟩
set_option maxRecDepth 20000 in
theorem fg_X11_120_6 : FG RX11 120 6 5 := ⟨_, _, _, "HomeByFour$Stretch", rfl, by decide, okB (by decide +kernel), Or.inl rfl⟩
set_option maxRecDepth 20000 in
theorem fg_X11_120_7 : FG RX11 120 7 5 := ⟨_, _, _, "HomeByFour$Stretch", rfl, by decide, okB (by decide +kernel), Or.inl rfl⟩
set_option maxRecDepth 20000 in
theorem fg_X11_123_1 : FG RX11 123 1 6 := ⟨_, _, _, "HomeByFour$Stretch", rfl, by decide, okB (by decide +kernel), Or.inl rfl⟩
set_option maxRecDepth 20000 in
theorem fg_X11_123_6 : FG RX11 123 6 6 := ⟨_, _, _, "HomeByFour$Stretch", rfl, by decide, okB (by decide +kernel), Or.inl rfl⟩
set_option maxRecDepth 20000 in
theorem fg_X11_123_7 : FG RX11 123 7 6 := ⟨_, _, _, "HomeByFour$Stretch", rfl, by decide, okB (by decide +kernel), Or.inl rfl⟩
set_option maxRecDepth 20000 in
theorem fg_X11_126_1 : FG RX11 126 1 8 := ⟨_, _, _, "HomeByFour$Stretch", rfl, by decide, okB (by decide +kernel), Or.inl rfl⟩
set_option maxRecDepth 20000 in
theorem fg_X11_126_6 : FG RX11 126 6 8 := ⟨_, _, _, "HomeByFour$Stretch", rfl, by decide, okB (by decide +kernel), Or.inl rfl⟩
set_option maxRecDepth 20000 in
theorem fg_X11_126_7 : FG RX11 126 7 8 := ⟨_, _, _, "HomeByFour$Stretch", rfl, by decide, okB (by decide +kernel), Or.inl rfl⟩
set_option maxRecDepth 20000 in
theorem fr_X11_126_1 : FR RX11 126 1 8 (.boolean) false := ⟨_, _, _, "HomeByFour$Stretch", rfl, by decide, okB (by decide +kernel), Or.inl rfl, by decide +kernel, rfl, fun h => absurd h (by decide)⟩
set_option maxRecDepth 20000 in
theorem fr_X11_126_6 : FR RX11 126 6 8 (.boolean) false := ⟨_, _, _, "HomeByFour$Stretch", rfl, by decide, okB (by decide +kernel), Or.inl rfl, by decide +kernel, rfl, fun h => absurd h (by decide)⟩
set_option maxRecDepth 20000 in
theorem fr_X11_126_7 : FR RX11 126 7 8 (.boolean) false := ⟨_, _, _, "HomeByFour$Stretch", rfl, by decide, okB (by decide +kernel), Or.inl rfl, by decide +kernel, rfl, fun h => absurd h (by decide)⟩
set_option maxRecDepth 20000 in
theorem ck_X2_isNone : CK mX2_isNone := ⟨okB (by decide +kernel), okB (by decide +kernel), by decide, by decide +kernel, by decide +kernel⟩
set_option maxRecDepth 20000 in
theorem cv_X11_130 : CV RX11 130 2 0 mX2_isNone := ⟨ck_X2_isNone, _, _, _, rfl, rfl, okB (by decide +kernel), okB (by decide +kernel), okB (by decide +kernel), by decide +kernel⟩
set_option maxRecDepth 20000 in
theorem fg_X11_134_2 : FG RX11 134 2 5 := ⟨_, _, _, "HomeByFour$Net", rfl, by decide, okB (by decide +kernel), Or.inl rfl⟩
set_option maxRecDepth 20000 in
theorem fr_X11_134_2 : FR RX11 134 2 5 (.int) false := ⟨_, _, _, "HomeByFour$Net", rfl, by decide, okB (by decide +kernel), Or.inl rfl, by decide +kernel, rfl, fun h => absurd h (by decide)⟩
set_option maxRecDepth 20000 in
theorem fg_X11_137_2 : FG RX11 137 2 6 := ⟨_, _, _, "HomeByFour$Net", rfl, by decide, okB (by decide +kernel), Or.inl rfl⟩
set_option maxRecDepth 20000 in
theorem fr_X11_137_2 : FR RX11 137 2 6 (.int) false := ⟨_, _, _, "HomeByFour$Net", rfl, by decide, okB (by decide +kernel), Or.inl rfl, by decide +kernel, rfl, fun h => absurd h (by decide)⟩
set_option maxRecDepth 20000 in
theorem ck_X2_hasPlace : CK mX2_hasPlace := ⟨okB (by decide +kernel), okB (by decide +kernel), by decide, by decide +kernel, by decide +kernel⟩
set_option maxRecDepth 20000 in
theorem cv_X11_140 : CV RX11 140 2 1 mX2_hasPlace := ⟨ck_X2_hasPlace, _, _, _, rfl, rfl, okB (by decide +kernel), okB (by decide +kernel), okB (by decide +kernel), by decide +kernel⟩
set_option maxRecDepth 20000 in
theorem fg_X11_144_2 : FG RX11 144 2 7 := ⟨_, _, _, "HomeByFour$Net", rfl, by decide, okB (by decide +kernel), Or.inl rfl⟩
set_option maxRecDepth 20000 in
theorem ck_X2_befriend : CK mX2_befriend := ⟨okB (by decide +kernel), okB (by decide +kernel), by decide, by decide +kernel, by decide +kernel⟩
set_option maxRecDepth 20000 in
theorem cv_X11_147 : CV RX11 147 2 1 mX2_befriend := ⟨ck_X2_befriend, _, _, _, rfl, rfl, okB (by decide +kernel), okB (by decide +kernel), okB (by decide +kernel), by decide +kernel⟩
set_option maxRecDepth 20000 in
theorem ck_X11_followTold : CK mX11_followTold := ⟨okB (by decide +kernel), okB (by decide +kernel), by decide, by decide +kernel, by decide +kernel⟩
set_option maxRecDepth 20000 in
theorem cv_X11_151 : CV RX11 151 11 5 mX11_followTold := ⟨ck_X11_followTold, _, _, _, rfl, rfl, okB (by decide +kernel), okB (by decide +kernel), okB (by decide +kernel), by decide +kernel⟩
set_option maxRecDepth 20000 in
theorem fg_X11_155_10 : FG RX11 155 10 0 := ⟨_, _, _, "HomeByFour$Walk", rfl, by decide, okB (by decide +kernel), Or.inl rfl⟩
set_option maxRecDepth 20000 in
theorem fg_X11_158_10 : FG RX11 158 10 2 := ⟨_, _, _, "HomeByFour$Walk", rfl, by decide, okB (by decide +kernel), Or.inl rfl⟩
set_option maxRecDepth 20000 in
theorem fg_X11_159_10 : FG RX11 159 10 3 := ⟨_, _, _, "HomeByFour$Walk", rfl, by decide, okB (by decide +kernel), Or.inl rfl⟩
set_option maxRecDepth 20000 in
theorem wl_X11_160 : Cond.constant RX11 160 (100000) ∈ BIG := okB (by decide +kernel)
set_option maxRecDepth 20000 in
theorem ck_X2_joyOf : CK mX2_joyOf := ⟨okB (by decide +kernel), okB (by decide +kernel), by decide, by decide +kernel, by decide +kernel⟩
set_option maxRecDepth 20000 in
theorem cv_X11_161 : CV RX11 161 2 1 mX2_joyOf := ⟨ck_X2_joyOf, _, _, _, rfl, rfl, okB (by decide +kernel), okB (by decide +kernel), okB (by decide +kernel), by decide +kernel⟩
set_option maxRecDepth 20000 in
theorem wl_X11_165 : Cond.constantLong RX11 165 (-9223372036854775808) ∈ BIG := okB (by decide +kernel)
set_option maxRecDepth 20000 in
theorem fg_X11_167_10 : FG RX11 167 10 5 := ⟨_, _, _, "HomeByFour$Walk", rfl, by decide, okB (by decide +kernel), Or.inl rfl⟩
set_option maxRecDepth 20000 in
theorem wl_X11_171 : Cond.constantLong RX11 171 (10) ∈ BIG := okB (by decide +kernel)
set_option maxRecDepth 20000 in
theorem fg_X11_173_10 : FG RX11 173 10 1 := ⟨_, _, _, "HomeByFour$Walk", rfl, by decide, okB (by decide +kernel), Or.inl rfl⟩
set_option maxRecDepth 20000 in
theorem ck_X11_powerOf : CK mX11_powerOf := ⟨okB (by decide +kernel), okB (by decide +kernel), by decide, by decide +kernel, by decide +kernel⟩
set_option maxRecDepth 20000 in
theorem cs_X11_176 : CS RX11 176 2 mX11_powerOf := ⟨ck_X11_powerOf, Or.inl (okB (by decide +kernel)), okB (by decide +kernel), by decide +kernel⟩
set_option maxRecDepth 20000 in
theorem ck_X11_inLeastTerms : CK mX11_inLeastTerms := ⟨okB (by decide +kernel), okB (by decide +kernel), by decide, by decide +kernel, by decide +kernel⟩
set_option maxRecDepth 20000 in
theorem cs_X11_180 : CS RX11 180 3 mX11_inLeastTerms := ⟨ck_X11_inLeastTerms, Or.inl (okB (by decide +kernel)), okB (by decide +kernel), by decide +kernel⟩
set_option maxRecDepth 20000 in
theorem ck_X3_leastMinutes : CK mX3_leastMinutes := ⟨okB (by decide +kernel), okB (by decide +kernel), by decide, by decide +kernel, by decide +kernel⟩
set_option maxRecDepth 20000 in
theorem cv_X11_184 : CV RX11 184 3 3 mX3_leastMinutes := ⟨ck_X3_leastMinutes, _, _, _, rfl, rfl, okB (by decide +kernel), okB (by decide +kernel), okB (by decide +kernel), by decide +kernel⟩
set_option maxRecDepth 20000 in
theorem ck_X2_home : CK mX2_home := ⟨okB (by decide +kernel), okB (by decide +kernel), by decide, by decide +kernel, by decide +kernel⟩
set_option maxRecDepth 20000 in
theorem cv_X11_188 : CV RX11 188 2 0 mX2_home := ⟨ck_X2_home, _, _, _, rfl, rfl, okB (by decide +kernel), okB (by decide +kernel), okB (by decide +kernel), by decide +kernel⟩
set_option maxRecDepth 20000 in
theorem ck_X11_refusalOfSearch : CK mX11_refusalOfSearch := ⟨okB (by decide +kernel), okB (by decide +kernel), by decide, by decide +kernel, by decide +kernel⟩
set_option maxRecDepth 20000 in
theorem cv_X11_191 : CV RX11 191 11 2 mX11_refusalOfSearch := ⟨ck_X11_refusalOfSearch, _, _, _, rfl, rfl, okB (by decide +kernel), okB (by decide +kernel), okB (by decide +kernel), by decide +kernel⟩
set_option maxRecDepth 20000 in
theorem ck_X4_look : CK mX4_look := ⟨okB (by decide +kernel), okB (by decide +kernel), by decide, by decide +kernel, by decide +kernel⟩
set_option maxRecDepth 20000 in
theorem cv_X11_195 : CV RX11 195 4 4 mX4_look := ⟨ck_X4_look, _, _, _, rfl, rfl, okB (by decide +kernel), okB (by decide +kernel), okB (by decide +kernel), by decide +kernel⟩
set_option maxRecDepth 20000 in
theorem ck_X11_joyFound : CK mX11_joyFound := ⟨okB (by decide +kernel), okB (by decide +kernel), by decide, by decide +kernel, by decide +kernel⟩
set_option maxRecDepth 20000 in
theorem cv_X11_199 : CV RX11 199 11 0 mX11_joyFound := ⟨ck_X11_joyFound, _, _, _, rfl, rfl, okB (by decide +kernel), okB (by decide +kernel), okB (by decide +kernel), by decide +kernel⟩
set_option maxRecDepth 20000 in
theorem ck_X4_stretchFound : CK mX4_stretchFound := ⟨okB (by decide +kernel), okB (by decide +kernel), by decide, by decide +kernel, by decide +kernel⟩
set_option maxRecDepth 20000 in
theorem cv_X11_202 : CV RX11 202 4 1 mX4_stretchFound := ⟨ck_X4_stretchFound, _, _, _, rfl, rfl, okB (by decide +kernel), okB (by decide +kernel), okB (by decide +kernel), by decide +kernel⟩
set_option maxRecDepth 20000 in
theorem fg_X11_205_4 : FG RX11 205 4 4 := ⟨_, _, _, "HomeByFour$Search", rfl, by decide, okB (by decide +kernel), Or.inl rfl⟩
set_option maxRecDepth 20000 in
theorem fg_X11_208_4 : FG RX11 208 4 5 := ⟨_, _, _, "HomeByFour$Search", rfl, by decide, okB (by decide +kernel), Or.inl rfl⟩
set_option maxRecDepth 20000 in
theorem fg_X11_211_2 : FG RX11 211 2 8 := ⟨_, _, _, "HomeByFour$Net", rfl, by decide, okB (by decide +kernel), Or.inl rfl⟩
set_option maxRecDepth 20000 in
theorem fr_X11_211_2 : FR RX11 211 2 8 (.int) false := ⟨_, _, _, "HomeByFour$Net", rfl, by decide, okB (by decide +kernel), Or.inl rfl, by decide +kernel, rfl, fun h => absurd h (by decide)⟩
set_option maxRecDepth 20000 in
theorem ck_X2_addReading : CK mX2_addReading := ⟨okB (by decide +kernel), okB (by decide +kernel), by decide, by decide +kernel, by decide +kernel⟩
set_option maxRecDepth 20000 in
theorem cv_X11_214 : CV RX11 214 2 2 mX2_addReading := ⟨ck_X2_addReading, _, _, _, rfl, rfl, okB (by decide +kernel), okB (by decide +kernel), okB (by decide +kernel), by decide +kernel⟩
set_option maxRecDepth 20000 in
theorem ck_X0_partsAt : CK mX0_partsAt := ⟨okB (by decide +kernel), okB (by decide +kernel), by decide, by decide +kernel, by decide +kernel⟩
set_option maxRecDepth 20000 in
theorem cv_X11_218 : CV RX11 218 0 3 mX0_partsAt := ⟨ck_X0_partsAt, _, _, _, rfl, rfl, okB (by decide +kernel), okB (by decide +kernel), okB (by decide +kernel), by decide +kernel⟩
set_option maxRecDepth 20000 in
theorem wl_X11_222 : Cond.constantLong RX11 222 (2520) ∈ BIG := okB (by decide +kernel)
set_option maxRecDepth 20000 in
theorem ck_X5_begin : CK mX5_begin := ⟨okB (by decide +kernel), okB (by decide +kernel), by decide, by decide +kernel, by decide +kernel⟩
set_option maxRecDepth 20000 in
theorem cv_X11_224 : CV RX11 224 5 2 mX5_begin := ⟨ck_X5_begin, _, _, _, rfl, rfl, okB (by decide +kernel), okB (by decide +kernel), okB (by decide +kernel), by decide +kernel⟩
set_option maxRecDepth 20000 in
theorem ck_X5_hasNothing : CK mX5_hasNothing := ⟨okB (by decide +kernel), okB (by decide +kernel), by decide, by decide +kernel, by decide +kernel⟩
set_option maxRecDepth 20000 in
theorem cv_X11_228 : CV RX11 228 5 0 mX5_hasNothing := ⟨ck_X5_hasNothing, _, _, _, rfl, rfl, okB (by decide +kernel), okB (by decide +kernel), okB (by decide +kernel), by decide +kernel⟩
set_option maxRecDepth 20000 in
theorem ck_X5_drop : CK mX5_drop := ⟨okB (by decide +kernel), okB (by decide +kernel), by decide, by decide +kernel, by decide +kernel⟩
set_option maxRecDepth 20000 in
theorem cv_X11_231 : CV RX11 231 5 0 mX5_drop := ⟨ck_X5_drop, _, _, _, rfl, rfl, okB (by decide +kernel), okB (by decide +kernel), okB (by decide +kernel), by decide +kernel⟩
set_option maxRecDepth 20000 in
theorem ck_X5_hasCell : CK mX5_hasCell := ⟨okB (by decide +kernel), okB (by decide +kernel), by decide, by decide +kernel, by decide +kernel⟩
set_option maxRecDepth 20000 in
theorem cv_X11_234 : CV RX11 234 5 1 mX5_hasCell := ⟨ck_X5_hasCell, _, _, _, rfl, rfl, okB (by decide +kernel), okB (by decide +kernel), okB (by decide +kernel), by decide +kernel⟩
set_option maxRecDepth 20000 in
theorem ck_X5_write : CK mX5_write := ⟨okB (by decide +kernel), okB (by decide +kernel), by decide, by decide +kernel, by decide +kernel⟩
set_option maxRecDepth 20000 in
theorem cv_X11_237 : CV RX11 237 5 2 mX5_write := ⟨ck_X5_write, _, _, _, rfl, rfl, okB (by decide +kernel), okB (by decide +kernel), okB (by decide +kernel), by decide +kernel⟩
set_option maxRecDepth 20000 in
theorem ck_X5_faultOfRow : CK mX5_faultOfRow := ⟨okB (by decide +kernel), okB (by decide +kernel), by decide, by decide +kernel, by decide +kernel⟩
set_option maxRecDepth 20000 in
theorem cv_X11_240 : CV RX11 240 5 1 mX5_faultOfRow := ⟨ck_X5_faultOfRow, _, _, _, rfl, rfl, okB (by decide +kernel), okB (by decide +kernel), okB (by decide +kernel), by decide +kernel⟩
set_option maxRecDepth 20000 in
theorem ck_X5_read : CK mX5_read := ⟨okB (by decide +kernel), okB (by decide +kernel), by decide, by decide +kernel, by decide +kernel⟩
set_option maxRecDepth 20000 in
theorem cv_X11_243 : CV RX11 243 5 1 mX5_read := ⟨ck_X5_read, _, _, _, rfl, rfl, okB (by decide +kernel), okB (by decide +kernel), okB (by decide +kernel), by decide +kernel⟩
set_option maxRecDepth 20000 in
theorem fg_X11_246_5 : FG RX11 246 5 1 := ⟨_, _, _, "HomeByFour$Sheet", rfl, by decide, okB (by decide +kernel), Or.inl rfl⟩
set_option maxRecDepth 20000 in
theorem ck_X5_hasCells : CK mX5_hasCells := ⟨okB (by decide +kernel), okB (by decide +kernel), by decide, by decide +kernel, by decide +kernel⟩
set_option maxRecDepth 20000 in
theorem cv_X11_249 : CV RX11 249 5 2 mX5_hasCells := ⟨ck_X5_hasCells, _, _, _, rfl, rfl, okB (by decide +kernel), okB (by decide +kernel), okB (by decide +kernel), by decide +kernel⟩
set_option maxRecDepth 20000 in
theorem fg_X11_253_5 : FG RX11 253 5 0 := ⟨_, _, _, "HomeByFour$Sheet", rfl, by decide, okB (by decide +kernel), Or.inl rfl⟩
set_option maxRecDepth 20000 in
theorem wl_X11_257 : Cond.methodLink RX11 257 arraycopyName ∈ BIG := okB (by decide +kernel)
set_option maxRecDepth 20000 in
theorem ck_X1_toldWith : CK mX1_toldWith := ⟨okB (by decide +kernel), okB (by decide +kernel), by decide, by decide +kernel, by decide +kernel⟩
set_option maxRecDepth 20000 in
theorem co_X11_263_1 : CO RX11 263 1 1 mX1_toldWith := ⟨ck_X1_toldWith, _, _, _, "HomeByFour$Stretch", (⟨"HomeByFour$Stretch", "toldWith", "(LHomeByFour$Trace;)I"⟩ : MethodName), cX7_toldWith, 2, (some .int), rfl, okB (by decide +kernel), okB (by decide +kernel), okB (by decide +kernel), okB (by decide +kernel), okB (by decide +kernel), okB (by decide +kernel), ⟨by decide +kernel, by decide +kernel⟩, by decide +kernel⟩
set_option maxRecDepth 20000 in
theorem ck_X6_toldWith : CK mX6_toldWith := ⟨okB (by decide +kernel), okB (by decide +kernel), by decide, by decide +kernel, by decide +kernel⟩
set_option maxRecDepth 20000 in
theorem co_X11_263_6 : CO RX11 263 6 1 mX6_toldWith := ⟨ck_X6_toldWith, _, _, _, "HomeByFour$Stretch", (⟨"HomeByFour$Stretch", "toldWith", "(LHomeByFour$Trace;)I"⟩ : MethodName), cX7_toldWith, 2, (some .int), rfl, okB (by decide +kernel), okB (by decide +kernel), okB (by decide +kernel), okB (by decide +kernel), okB (by decide +kernel), okB (by decide +kernel), ⟨by decide +kernel, by decide +kernel⟩, by decide +kernel⟩
set_option maxRecDepth 20000 in
theorem ck_X7_toldWith : CK mX7_toldWith := ⟨okB (by decide +kernel), okB (by decide +kernel), by decide, by decide +kernel, by decide +kernel⟩
set_option maxRecDepth 20000 in
theorem co_X11_263_7 : CO RX11 263 7 1 mX7_toldWith := ⟨ck_X7_toldWith, _, _, _, "HomeByFour$Stretch", (⟨"HomeByFour$Stretch", "toldWith", "(LHomeByFour$Trace;)I"⟩ : MethodName), cX7_toldWith, 2, (some .int), rfl, okB (by decide +kernel), okB (by decide +kernel), okB (by decide +kernel), okB (by decide +kernel), okB (by decide +kernel), okB (by decide +kernel), ⟨by decide +kernel, by decide +kernel⟩, by decide +kernel⟩
set_option maxRecDepth 20000 in
theorem ck_X7_sungWith : CK mX7_sungWith := ⟨okB (by decide +kernel), okB (by decide +kernel), by decide, by decide +kernel, by decide +kernel⟩
set_option maxRecDepth 20000 in
theorem co_X11_267_1 : CO RX11 267 1 1 mX7_sungWith := ⟨ck_X7_sungWith, _, _, _, "HomeByFour$Stretch", (⟨"HomeByFour$Stretch", "sungWith", "(LHomeByFour$Trace;)I"⟩ : MethodName), cX7_sungWith, 2, (some .int), rfl, okB (by decide +kernel), okB (by decide +kernel), okB (by decide +kernel), okB (by decide +kernel), okB (by decide +kernel), okB (by decide +kernel), ⟨by decide +kernel, by decide +kernel⟩, by decide +kernel⟩
set_option maxRecDepth 20000 in
theorem ck_X6_sungWith : CK mX6_sungWith := ⟨okB (by decide +kernel), okB (by decide +kernel), by decide, by decide +kernel, by decide +kernel⟩
set_option maxRecDepth 20000 in
theorem co_X11_267_6 : CO RX11 267 6 1 mX6_sungWith := ⟨ck_X6_sungWith, _, _, _, "HomeByFour$Stretch", (⟨"HomeByFour$Stretch", "sungWith", "(LHomeByFour$Trace;)I"⟩ : MethodName), cX7_sungWith, 2, (some .int), rfl, okB (by decide +kernel), okB (by decide +kernel), okB (by decide +kernel), okB (by decide +kernel), okB (by decide +kernel), okB (by decide +kernel), ⟨by decide +kernel, by decide +kernel⟩, by decide +kernel⟩
set_option maxRecDepth 20000 in
theorem co_X11_267_7 : CO RX11 267 7 1 mX7_sungWith := ⟨ck_X7_sungWith, _, _, _, "HomeByFour$Stretch", (⟨"HomeByFour$Stretch", "sungWith", "(LHomeByFour$Trace;)I"⟩ : MethodName), cX7_sungWith, 2, (some .int), rfl, okB (by decide +kernel), okB (by decide +kernel), okB (by decide +kernel), okB (by decide +kernel), okB (by decide +kernel), okB (by decide +kernel), ⟨by decide +kernel, by decide +kernel⟩, by decide +kernel⟩
set_option maxRecDepth 20000 in
theorem ir_X11_270_1 : IR RX11 270 1 1 := ⟨_, _, _, "HomeByFour$Muddy", rfl, okB (by decide +kernel), Or.inl ⟨rfl, Or.inl rfl⟩⟩
set_option maxRecDepth 20000 in
theorem ir_X11_270_6 : IR RX11 270 6 1 := ⟨_, _, _, "HomeByFour$Muddy", rfl, okB (by decide +kernel), Or.inl ⟨rfl, Or.inr (by decide +kernel)⟩⟩
set_option maxRecDepth 20000 in
theorem ir_X11_270_7 : IR RX11 270 7 0 := ⟨_, _, _, "HomeByFour$Muddy", rfl, okB (by decide +kernel), Or.inr ⟨rfl, by decide +kernel⟩⟩
set_option maxRecDepth 20000 in
theorem ir_X11_272_1 : IR RX11 272 1 0 := ⟨_, _, _, "HomeByFour$Steep", rfl, okB (by decide +kernel), Or.inr ⟨rfl, by decide +kernel⟩⟩
set_option maxRecDepth 20000 in
theorem ir_X11_272_6 : IR RX11 272 6 1 := ⟨_, _, _, "HomeByFour$Steep", rfl, okB (by decide +kernel), Or.inl ⟨rfl, Or.inl rfl⟩⟩
set_option maxRecDepth 20000 in
theorem ir_X11_272_7 : IR RX11 272 7 0 := ⟨_, _, _, "HomeByFour$Steep", rfl, okB (by decide +kernel), Or.inr ⟨rfl, by decide +kernel⟩⟩
set_option maxRecDepth 20000 in
theorem fg_X11_274_9 : FG RX11 274 9 0 := ⟨_, _, _, "HomeByFour$Trace", rfl, by decide, okB (by decide +kernel), Or.inl rfl⟩
set_option maxRecDepth 20000 in
theorem fg_X11_277_2 : FG RX11 277 2 3 := ⟨_, _, _, "HomeByFour$Net", rfl, by decide, okB (by decide +kernel), Or.inl rfl⟩
set_option maxRecDepth 20000 in
theorem ck_X11_areStretches : CK mX11_areStretches := ⟨okB (by decide +kernel), okB (by decide +kernel), by decide, by decide +kernel, by decide +kernel⟩
set_option maxRecDepth 20000 in
theorem cv_X11_280 : CV RX11 280 11 3 mX11_areStretches := ⟨ck_X11_areStretches, _, _, _, rfl, rfl, okB (by decide +kernel), okB (by decide +kernel), okB (by decide +kernel), by decide +kernel⟩
set_option maxRecDepth 20000 in
theorem ck_X11_followCells : CK mX11_followCells := ⟨okB (by decide +kernel), okB (by decide +kernel), by decide, by decide +kernel, by decide +kernel⟩
set_option maxRecDepth 20000 in
theorem cv_X11_284 : CV RX11 284 11 3 mX11_followCells := ⟨ck_X11_followCells, _, _, _, rfl, rfl, okB (by decide +kernel), okB (by decide +kernel), okB (by decide +kernel), by decide +kernel⟩
set_option maxRecDepth 20000 in
theorem ck_X10_begin : CK mX10_begin := ⟨okB (by decide +kernel), okB (by decide +kernel), by decide, by decide +kernel, by decide +kernel⟩
set_option maxRecDepth 20000 in
theorem cv_X11_288 : CV RX11 288 10 0 mX10_begin := ⟨ck_X10_begin, _, _, _, rfl, rfl, okB (by decide +kernel), okB (by decide +kernel), okB (by decide +kernel), by decide +kernel⟩
set_option maxRecDepth 20000 in
theorem ck_X7_leadsFrom : CK mX7_leadsFrom := ⟨okB (by decide +kernel), okB (by decide +kernel), by decide, by decide +kernel, by decide +kernel⟩
set_option maxRecDepth 20000 in
theorem co_X11_290_1 : CO RX11 290 1 1 mX7_leadsFrom := ⟨ck_X7_leadsFrom, _, _, _, "HomeByFour$Stretch", (⟨"HomeByFour$Stretch", "leadsFrom", "(I)Z"⟩ : MethodName), cX7_leadsFrom, 2, (some .boolean), rfl, okB (by decide +kernel), okB (by decide +kernel), okB (by decide +kernel), okB (by decide +kernel), okB (by decide +kernel), okB (by decide +kernel), ⟨by decide +kernel, by decide +kernel⟩, by decide +kernel⟩
set_option maxRecDepth 20000 in
theorem co_X11_290_6 : CO RX11 290 6 1 mX7_leadsFrom := ⟨ck_X7_leadsFrom, _, _, _, "HomeByFour$Stretch", (⟨"HomeByFour$Stretch", "leadsFrom", "(I)Z"⟩ : MethodName), cX7_leadsFrom, 2, (some .boolean), rfl, okB (by decide +kernel), okB (by decide +kernel), okB (by decide +kernel), okB (by decide +kernel), okB (by decide +kernel), okB (by decide +kernel), ⟨by decide +kernel, by decide +kernel⟩, by decide +kernel⟩
set_option maxRecDepth 20000 in
theorem co_X11_290_7 : CO RX11 290 7 1 mX7_leadsFrom := ⟨ck_X7_leadsFrom, _, _, _, "HomeByFour$Stretch", (⟨"HomeByFour$Stretch", "leadsFrom", "(I)Z"⟩ : MethodName), cX7_leadsFrom, 2, (some .boolean), rfl, okB (by decide +kernel), okB (by decide +kernel), okB (by decide +kernel), okB (by decide +kernel), okB (by decide +kernel), okB (by decide +kernel), ⟨by decide +kernel, by decide +kernel⟩, by decide +kernel⟩
set_option maxRecDepth 20000 in
theorem ck_X10_follow : CK mX10_follow := ⟨okB (by decide +kernel), okB (by decide +kernel), by decide, by decide +kernel, by decide +kernel⟩
set_option maxRecDepth 20000 in
theorem cv_X11_293 : CV RX11 293 10 2 mX10_follow := ⟨ck_X10_follow, _, _, _, rfl, rfl, okB (by decide +kernel), okB (by decide +kernel), okB (by decide +kernel), by decide +kernel⟩
set_option maxRecDepth 20000 in
theorem ck_X11_commonDivisor : CK mX11_commonDivisor := ⟨okB (by decide +kernel), okB (by decide +kernel), by decide, by decide +kernel, by decide +kernel⟩
set_option maxRecDepth 20000 in
theorem cs_X11_297 : CS RX11 297 2 mX11_commonDivisor := ⟨ck_X11_commonDivisor, Or.inl (okB (by decide +kernel)), okB (by decide +kernel), by decide +kernel⟩
set_option maxRecDepth 20000 in
theorem wl_X0_3 : Cond.methodLink RX0 3 objectInit ∈ BIG := okB (by decide +kernel)
set_option maxRecDepth 20000 in
theorem fg_X0_9_0 : FG RX0 9 0 0 := ⟨_, _, _, "HomeByFour$Dawdling", rfl, by decide, okB (by decide +kernel), Or.inl rfl⟩
set_option maxRecDepth 20000 in
theorem fr_X0_9_0 : FR RX0 9 0 0 (.array (.long)) true := ⟨_, _, _, "HomeByFour$Dawdling", rfl, by decide, okB (by decide +kernel), Or.inl rfl, by decide +kernel, rfl, fun _ => rfl⟩
set_option maxRecDepth 20000 in
theorem fg_X0_15_0 : FG RX0 15 0 1 := ⟨_, _, _, "HomeByFour$Dawdling", rfl, by decide, okB (by decide +kernel), Or.inl rfl⟩
set_option maxRecDepth 20000 in
theorem fr_X0_15_0 : FR RX0 15 0 1 (.array (.long)) true := ⟨_, _, _, "HomeByFour$Dawdling", rfl, by decide, okB (by decide +kernel), Or.inl rfl, by decide +kernel, rfl, fun _ => rfl⟩
set_option maxRecDepth 20000 in
theorem ck_J7_fill_d0a16 : CK mJ7_fill_d0a16 := ⟨okB (by decide +kernel), okB (by decide +kernel), by decide, by decide +kernel, by decide +kernel⟩
set_option maxRecDepth 20000 in
theorem cs_X0_18 : CS RX0 18 2 mJ7_fill_d0a16 := ⟨ck_J7_fill_d0a16, Or.inl (okB (by decide +kernel)), okB (by decide +kernel), by decide +kernel⟩
set_option maxRecDepth 20000 in
theorem fg_X0_24_2 : FG RX0 24 2 3 := ⟨_, _, _, "HomeByFour$Net", rfl, by decide, okB (by decide +kernel), Or.inl rfl⟩
set_option maxRecDepth 20000 in
theorem ck_X0_share : CK mX0_share := ⟨okB (by decide +kernel), okB (by decide +kernel), by decide, by decide +kernel, by decide +kernel⟩
set_option maxRecDepth 20000 in
theorem cv_X0_30 : CV RX0 30 0 2 mX0_share := ⟨ck_X0_share, _, _, _, rfl, rfl, okB (by decide +kernel), okB (by decide +kernel), okB (by decide +kernel), by decide +kernel⟩
set_option maxRecDepth 20000 in
theorem wl_X0_34 : Cond.methodLink RX0 34 arraycopyName ∈ BIG := okB (by decide +kernel)
set_option maxRecDepth 20000 in
theorem cs_X0_40 : CS RX0 40 3 mX11_isWithin := ⟨ck_X11_isWithin, Or.inr ⟨"HomeByFour", by decide +kernel⟩, okB (by decide +kernel), by decide +kernel⟩
set_option maxRecDepth 20000 in
theorem ck_X0_waysFrom : CK mX0_waysFrom := ⟨okB (by decide +kernel), okB (by decide +kernel), by decide, by decide +kernel, by decide +kernel⟩
set_option maxRecDepth 20000 in
theorem cv_X0_44 : CV RX0 44 0 2 mX0_waysFrom := ⟨ck_X0_waysFrom, _, _, _, rfl, rfl, okB (by decide +kernel), okB (by decide +kernel), okB (by decide +kernel), by decide +kernel⟩
set_option maxRecDepth 20000 in
theorem wl_X0_48 : Cond.constantLong RX0 48 (2520) ∈ BIG := okB (by decide +kernel)
set_option maxRecDepth 20000 in
theorem ck_X0_add : CK mX0_add := ⟨okB (by decide +kernel), okB (by decide +kernel), by decide, by decide +kernel, by decide +kernel⟩
set_option maxRecDepth 20000 in
theorem cv_X0_50 : CV RX0 50 0 2 mX0_add := ⟨ck_X0_add, _, _, _, rfl, rfl, okB (by decide +kernel), okB (by decide +kernel), okB (by decide +kernel), by decide +kernel⟩
set_option maxRecDepth 20000 in
theorem fg_X0_54_2 : FG RX0 54 2 4 := ⟨_, _, _, "HomeByFour$Net", rfl, by decide, okB (by decide +kernel), Or.inl rfl⟩
set_option maxRecDepth 20000 in
theorem cv_X0_57 : CV RX0 57 2 1 mX2_stretchAt := ⟨ck_X2_stretchAt, _, _, _, rfl, rfl, okB (by decide +kernel), okB (by decide +kernel), okB (by decide +kernel), by decide +kernel⟩
set_option maxRecDepth 20000 in
theorem co_X0_61_1 : CO RX0 61 1 1 mX7_leadsFrom := ⟨ck_X7_leadsFrom, _, _, _, "HomeByFour$Stretch", (⟨"HomeByFour$Stretch", "leadsFrom", "(I)Z"⟩ : MethodName), cX7_leadsFrom, 2, (some .boolean), rfl, okB (by decide +kernel), okB (by decide +kernel), okB (by decide +kernel), okB (by decide +kernel), okB (by decide +kernel), okB (by decide +kernel), ⟨by decide +kernel, by decide +kernel⟩, by decide +kernel⟩
set_option maxRecDepth 20000 in
theorem co_X0_61_6 : CO RX0 61 6 1 mX7_leadsFrom := ⟨ck_X7_leadsFrom, _, _, _, "HomeByFour$Stretch", (⟨"HomeByFour$Stretch", "leadsFrom", "(I)Z"⟩ : MethodName), cX7_leadsFrom, 2, (some .boolean), rfl, okB (by decide +kernel), okB (by decide +kernel), okB (by decide +kernel), okB (by decide +kernel), okB (by decide +kernel), okB (by decide +kernel), ⟨by decide +kernel, by decide +kernel⟩, by decide +kernel⟩
set_option maxRecDepth 20000 in
theorem co_X0_61_7 : CO RX0 61 7 1 mX7_leadsFrom := ⟨ck_X7_leadsFrom, _, _, _, "HomeByFour$Stretch", (⟨"HomeByFour$Stretch", "leadsFrom", "(I)Z"⟩ : MethodName), cX7_leadsFrom, 2, (some .boolean), rfl, okB (by decide +kernel), okB (by decide +kernel), okB (by decide +kernel), okB (by decide +kernel), okB (by decide +kernel), okB (by decide +kernel), ⟨by decide +kernel, by decide +kernel⟩, by decide +kernel⟩
set_option maxRecDepth 20000 in
theorem ck_X7_otherEnd : CK mX7_otherEnd := ⟨okB (by decide +kernel), okB (by decide +kernel), by decide, by decide +kernel, by decide +kernel⟩
set_option maxRecDepth 20000 in
theorem co_X0_67_1 : CO RX0 67 1 1 mX7_otherEnd := ⟨ck_X7_otherEnd, _, _, _, "HomeByFour$Stretch", (⟨"HomeByFour$Stretch", "otherEnd", "(I)I"⟩ : MethodName), cX7_otherEnd, 2, (some .int), rfl, okB (by decide +kernel), okB (by decide +kernel), okB (by decide +kernel), okB (by decide +kernel), okB (by decide +kernel), okB (by decide +kernel), ⟨by decide +kernel, by decide +kernel⟩, by decide +kernel⟩
set_option maxRecDepth 20000 in
theorem co_X0_67_6 : CO RX0 67 6 1 mX7_otherEnd := ⟨ck_X7_otherEnd, _, _, _, "HomeByFour$Stretch", (⟨"HomeByFour$Stretch", "otherEnd", "(I)I"⟩ : MethodName), cX7_otherEnd, 2, (some .int), rfl, okB (by decide +kernel), okB (by decide +kernel), okB (by decide +kernel), okB (by decide +kernel), okB (by decide +kernel), okB (by decide +kernel), ⟨by decide +kernel, by decide +kernel⟩, by decide +kernel⟩
set_option maxRecDepth 20000 in
theorem co_X0_67_7 : CO RX0 67 7 1 mX7_otherEnd := ⟨ck_X7_otherEnd, _, _, _, "HomeByFour$Stretch", (⟨"HomeByFour$Stretch", "otherEnd", "(I)I"⟩ : MethodName), cX7_otherEnd, 2, (some .int), rfl, okB (by decide +kernel), okB (by decide +kernel), okB (by decide +kernel), okB (by decide +kernel), okB (by decide +kernel), okB (by decide +kernel), ⟨by decide +kernel, by decide +kernel⟩, by decide +kernel⟩
set_option maxRecDepth 20000 in
theorem ck_X7_init : CK mX7_init := ⟨okB (by decide +kernel), okB (by decide +kernel), by decide, by decide +kernel, by decide +kernel⟩
set_option maxRecDepth 20000 in
theorem ci_X1_1 : CI RX1 1 6 mX7_init := ⟨ck_X7_init, Or.inl (okB (by decide +kernel)), okB (by decide +kernel), rfl, rfl, by decide +kernel⟩
set_option maxRecDepth 20000 in
theorem fg_X1_7_1 : FG RX1 7 1 3 := ⟨_, _, _, "HomeByFour$Muddy", rfl, by decide, okB (by decide +kernel), Or.inr (okB (by decide +kernel))⟩
set_option maxRecDepth 20000 in
theorem fg_X1_7_6 : FG RX1 7 6 3 := ⟨_, _, _, "HomeByFour$Muddy", rfl, by decide, okB (by decide +kernel), Or.inr (okB (by decide +kernel))⟩
set_option maxRecDepth 20000 in
theorem fg_X1_7_7 : FG RX1 7 7 3 := ⟨_, _, _, "HomeByFour$Muddy", rfl, by decide, okB (by decide +kernel), Or.inr (okB (by decide +kernel))⟩
set_option maxRecDepth 20000 in
theorem ck_X9_leave : CK mX9_leave := ⟨okB (by decide +kernel), okB (by decide +kernel), by decide, by decide +kernel, by decide +kernel⟩
set_option maxRecDepth 20000 in
theorem cv_X1_13 : CV RX1 13 9 1 mX9_leave := ⟨ck_X9_leave, _, _, _, rfl, rfl, okB (by decide +kernel), okB (by decide +kernel), okB (by decide +kernel), by decide +kernel⟩
set_option maxRecDepth 20000 in
theorem cu_X1_19 : CU RX1 19 1 mX7_toldWith := ⟨ck_X7_toldWith, okB (by decide +kernel), okB (by decide +kernel), okB (by decide +kernel), okB (by decide +kernel), by decide +kernel, by decide +kernel⟩
set_option maxRecDepth 20000 in
theorem wl_X2_3 : Cond.methodLink RX2 3 objectInit ∈ BIG := okB (by decide +kernel)
set_option maxRecDepth 20000 in
theorem wl_X2_9 : Cond.classLink RX2 9 "HomeByFour$Stretch" ∈ BIG := okB (by decide +kernel)
set_option maxRecDepth 20000 in
theorem fg_X2_11_2 : FG RX2 11 2 0 := ⟨_, _, _, "HomeByFour$Net", rfl, by decide, okB (by decide +kernel), Or.inl rfl⟩
set_option maxRecDepth 20000 in
theorem fr_X2_11_2 : FR RX2 11 2 0 (.array (.object "HomeByFour$Stretch")) true := ⟨_, _, _, "HomeByFour$Net", rfl, by decide, okB (by decide +kernel), Or.inl rfl, by decide +kernel, rfl, fun _ => rfl⟩
set_option maxRecDepth 20000 in
theorem fg_X2_17_2 : FG RX2 17 2 1 := ⟨_, _, _, "HomeByFour$Net", rfl, by decide, okB (by decide +kernel), Or.inl rfl⟩
set_option maxRecDepth 20000 in
theorem fr_X2_17_2 : FR RX2 17 2 1 (.array (.int)) true := ⟨_, _, _, "HomeByFour$Net", rfl, by decide, okB (by decide +kernel), Or.inl rfl, by decide +kernel, rfl, fun _ => rfl⟩
set_option maxRecDepth 20000 in
theorem fg_X2_21_2 : FG RX2 21 2 2 := ⟨_, _, _, "HomeByFour$Net", rfl, by decide, okB (by decide +kernel), Or.inl rfl⟩
set_option maxRecDepth 20000 in
theorem fr_X2_21_2 : FR RX2 21 2 2 (.array (.boolean)) true := ⟨_, _, _, "HomeByFour$Net", rfl, by decide, okB (by decide +kernel), Or.inl rfl, by decide +kernel, rfl, fun _ => rfl⟩
set_option maxRecDepth 20000 in
theorem fg_X2_25_2 : FG RX2 25 2 7 := ⟨_, _, _, "HomeByFour$Net", rfl, by decide, okB (by decide +kernel), Or.inl rfl⟩
set_option maxRecDepth 20000 in
theorem fr_X2_25_2 : FR RX2 25 2 7 (.int) false := ⟨_, _, _, "HomeByFour$Net", rfl, by decide, okB (by decide +kernel), Or.inl rfl, by decide +kernel, rfl, fun h => absurd h (by decide)⟩
set_option maxRecDepth 20000 in
theorem ck_X8_places : CK mX8_places := ⟨okB (by decide +kernel), okB (by decide +kernel), by decide, by decide +kernel, by decide +kernel⟩
set_option maxRecDepth 20000 in
theorem cv_X2_29 : CV RX2 29 8 0 mX8_places := ⟨ck_X8_places, _, _, _, rfl, rfl, okB (by decide +kernel), okB (by decide +kernel), okB (by decide +kernel), by decide +kernel⟩
set_option maxRecDepth 20000 in
theorem fg_X2_35_2 : FG RX2 35 2 3 := ⟨_, _, _, "HomeByFour$Net", rfl, by decide, okB (by decide +kernel), Or.inl rfl⟩
set_option maxRecDepth 20000 in
theorem fr_X2_35_2 : FR RX2 35 2 3 (.int) false := ⟨_, _, _, "HomeByFour$Net", rfl, by decide, okB (by decide +kernel), Or.inl rfl, by decide +kernel, rfl, fun h => absurd h (by decide)⟩
set_option maxRecDepth 20000 in
theorem ck_X8_stretches : CK mX8_stretches := ⟨okB (by decide +kernel), okB (by decide +kernel), by decide, by decide +kernel, by decide +kernel⟩
set_option maxRecDepth 20000 in
theorem cv_X2_37 : CV RX2 37 8 0 mX8_stretches := ⟨ck_X8_stretches, _, _, _, rfl, rfl, okB (by decide +kernel), okB (by decide +kernel), okB (by decide +kernel), by decide +kernel⟩
set_option maxRecDepth 20000 in
theorem ck_J9_min_7cf53 : CK mJ9_min_7cf53 := ⟨okB (by decide +kernel), okB (by decide +kernel), by decide, by decide +kernel, by decide +kernel⟩
set_option maxRecDepth 20000 in
theorem cs_X2_39 : CS RX2 39 2 mJ9_min_7cf53 := ⟨ck_J9_min_7cf53, Or.inl (okB (by decide +kernel)), okB (by decide +kernel), by decide +kernel⟩
set_option maxRecDepth 20000 in
theorem fg_X2_45_2 : FG RX2 45 2 4 := ⟨_, _, _, "HomeByFour$Net", rfl, by decide, okB (by decide +kernel), Or.inl rfl⟩
set_option maxRecDepth 20000 in
theorem fr_X2_45_2 : FR RX2 45 2 4 (.int) false := ⟨_, _, _, "HomeByFour$Net", rfl, by decide, okB (by decide +kernel), Or.inl rfl, by decide +kernel, rfl, fun h => absurd h (by decide)⟩
set_option maxRecDepth 20000 in
theorem ck_X8_makeStretch : CK mX8_makeStretch := ⟨okB (by decide +kernel), okB (by decide +kernel), by decide, by decide +kernel, by decide +kernel⟩
set_option maxRecDepth 20000 in
theorem cv_X2_48 : CV RX2 48 8 1 mX8_makeStretch := ⟨ck_X8_makeStretch, _, _, _, rfl, rfl, okB (by decide +kernel), okB (by decide +kernel), okB (by decide +kernel), by decide +kernel⟩
set_option maxRecDepth 20000 in
theorem fg_X2_52_2 : FG RX2 52 2 5 := ⟨_, _, _, "HomeByFour$Net", rfl, by decide, okB (by decide +kernel), Or.inl rfl⟩
set_option maxRecDepth 20000 in
theorem fr_X2_52_2 : FR RX2 52 2 5 (.int) false := ⟨_, _, _, "HomeByFour$Net", rfl, by decide, okB (by decide +kernel), Or.inl rfl, by decide +kernel, rfl, fun h => absurd h (by decide)⟩
set_option maxRecDepth 20000 in
theorem fg_X2_55_2 : FG RX2 55 2 6 := ⟨_, _, _, "HomeByFour$Net", rfl, by decide, okB (by decide +kernel), Or.inl rfl⟩
set_option maxRecDepth 20000 in
theorem fr_X2_55_2 : FR RX2 55 2 6 (.int) false := ⟨_, _, _, "HomeByFour$Net", rfl, by decide, okB (by decide +kernel), Or.inl rfl, by decide +kernel, rfl, fun h => absurd h (by decide)⟩
set_option maxRecDepth 20000 in
theorem fg_X2_58_2 : FG RX2 58 2 8 := ⟨_, _, _, "HomeByFour$Net", rfl, by decide, okB (by decide +kernel), Or.inl rfl⟩
set_option maxRecDepth 20000 in
theorem fr_X2_58_2 : FR RX2 58 2 8 (.int) false := ⟨_, _, _, "HomeByFour$Net", rfl, by decide, okB (by decide +kernel), Or.inl rfl, by decide +kernel, rfl, fun h => absurd h (by decide)⟩
set_option maxRecDepth 20000 in
theorem cv_X2_61 : CV RX2 61 2 1 mX2_befriend := ⟨ck_X2_befriend, _, _, _, rfl, rfl, okB (by decide +kernel), okB (by decide +kernel), okB (by decide +kernel), by decide +kernel⟩
set_option maxRecDepth 20000 in
theorem cv_X2_65 : CV RX2 65 2 1 mX2_stretchAt := ⟨ck_X2_stretchAt, _, _, _, rfl, rfl, okB (by decide +kernel), okB (by decide +kernel), okB (by decide +kernel), by decide +kernel⟩
set_option maxRecDepth 20000 in
theorem ck_X7_shareWith : CK mX7_shareWith := ⟨okB (by decide +kernel), okB (by decide +kernel), by decide, by decide +kernel, by decide +kernel⟩
set_option maxRecDepth 20000 in
theorem co_X2_68_1 : CO RX2 68 1 1 mX7_shareWith := ⟨ck_X7_shareWith, _, _, _, "HomeByFour$Stretch", (⟨"HomeByFour$Stretch", "shareWith", "(I)V"⟩ : MethodName), cX7_shareWith, 3, none, rfl, okB (by decide +kernel), okB (by decide +kernel), okB (by decide +kernel), okB (by decide +kernel), okB (by decide +kernel), okB (by decide +kernel), ⟨by decide +kernel, by decide +kernel⟩, by decide +kernel⟩
set_option maxRecDepth 20000 in
theorem co_X2_68_6 : CO RX2 68 6 1 mX7_shareWith := ⟨ck_X7_shareWith, _, _, _, "HomeByFour$Stretch", (⟨"HomeByFour$Stretch", "shareWith", "(I)V"⟩ : MethodName), cX7_shareWith, 3, none, rfl, okB (by decide +kernel), okB (by decide +kernel), okB (by decide +kernel), okB (by decide +kernel), okB (by decide +kernel), okB (by decide +kernel), ⟨by decide +kernel, by decide +kernel⟩, by decide +kernel⟩
set_option maxRecDepth 20000 in
theorem co_X2_68_7 : CO RX2 68 7 1 mX7_shareWith := ⟨ck_X7_shareWith, _, _, _, "HomeByFour$Stretch", (⟨"HomeByFour$Stretch", "shareWith", "(I)V"⟩ : MethodName), cX7_shareWith, 3, none, rfl, okB (by decide +kernel), okB (by decide +kernel), okB (by decide +kernel), okB (by decide +kernel), okB (by decide +kernel), okB (by decide +kernel), ⟨by decide +kernel, by decide +kernel⟩, by decide +kernel⟩
set_option maxRecDepth 20000 in
theorem ir_X2_71_1 : IR RX2 71 1 1 := ⟨_, _, _, "HomeByFour$Muddy", rfl, okB (by decide +kernel), Or.inl ⟨rfl, Or.inl rfl⟩⟩
set_option maxRecDepth 20000 in
theorem ir_X2_71_6 : IR RX2 71 6 1 := ⟨_, _, _, "HomeByFour$Muddy", rfl, okB (by decide +kernel), Or.inl ⟨rfl, Or.inr (by decide +kernel)⟩⟩
set_option maxRecDepth 20000 in
theorem ir_X2_71_7 : IR RX2 71 7 0 := ⟨_, _, _, "HomeByFour$Muddy", rfl, okB (by decide +kernel), Or.inr ⟨rfl, by decide +kernel⟩⟩
set_option maxRecDepth 20000 in
theorem fg_X2_73_10 : FG RX2 73 10 2 := ⟨_, _, _, "HomeByFour$Walk", rfl, by decide, okB (by decide +kernel), Or.inl rfl⟩
set_option maxRecDepth 20000 in
theorem fg_X2_78_10 : FG RX2 78 10 3 := ⟨_, _, _, "HomeByFour$Walk", rfl, by decide, okB (by decide +kernel), Or.inl rfl⟩
set_option maxRecDepth 20000 in
theorem ck_X2_costOf : CK mX2_costOf := ⟨okB (by decide +kernel), okB (by decide +kernel), by decide, by decide +kernel, by decide +kernel⟩
set_option maxRecDepth 20000 in
theorem cv_X2_81 : CV RX2 81 2 1 mX2_costOf := ⟨ck_X2_costOf, _, _, _, rfl, rfl, okB (by decide +kernel), okB (by decide +kernel), okB (by decide +kernel), by decide +kernel⟩
set_option maxRecDepth 20000 in
theorem wl_X3_3 : Cond.methodLink RX3 3 objectInit ∈ BIG := okB (by decide +kernel)
set_option maxRecDepth 20000 in
theorem fg_X3_9_3 : FG RX3 9 3 0 := ⟨_, _, _, "HomeByFour$Quickest", rfl, by decide, okB (by decide +kernel), Or.inl rfl⟩
set_option maxRecDepth 20000 in
theorem fr_X3_9_3 : FR RX3 9 3 0 (.array (.int)) true := ⟨_, _, _, "HomeByFour$Quickest", rfl, by decide, okB (by decide +kernel), Or.inl rfl, by decide +kernel, rfl, fun _ => rfl⟩
set_option maxRecDepth 20000 in
theorem cv_X3_15 : CV RX3 15 2 1 mX2_hasPlace := ⟨ck_X2_hasPlace, _, _, _, rfl, rfl, okB (by decide +kernel), okB (by decide +kernel), okB (by decide +kernel), by decide +kernel⟩
set_option maxRecDepth 20000 in
theorem wl_X3_21 : Cond.constant RX3 21 (1000000) ∈ BIG := okB (by decide +kernel)
set_option maxRecDepth 20000 in
theorem ck_J7_fill_53178 : CK mJ7_fill_53178 := ⟨okB (by decide +kernel), okB (by decide +kernel), by decide, by decide +kernel, by decide +kernel⟩
set_option maxRecDepth 20000 in
theorem cs_X3_22 : CS RX3 22 2 mJ7_fill_53178 := ⟨ck_J7_fill_53178, Or.inl (okB (by decide +kernel)), okB (by decide +kernel), by decide +kernel⟩
set_option maxRecDepth 20000 in
theorem fg_X3_28_2 : FG RX3 28 2 3 := ⟨_, _, _, "HomeByFour$Net", rfl, by decide, okB (by decide +kernel), Or.inl rfl⟩
set_option maxRecDepth 20000 in
theorem ck_X3_shorten : CK mX3_shorten := ⟨okB (by decide +kernel), okB (by decide +kernel), by decide, by decide +kernel, by decide +kernel⟩
set_option maxRecDepth 20000 in
theorem cv_X3_32 : CV RX3 32 3 1 mX3_shorten := ⟨ck_X3_shorten, _, _, _, rfl, rfl, okB (by decide +kernel), okB (by decide +kernel), okB (by decide +kernel), by decide +kernel⟩
set_option maxRecDepth 20000 in
theorem fg_X3_36_2 : FG RX3 36 2 4 := ⟨_, _, _, "HomeByFour$Net", rfl, by decide, okB (by decide +kernel), Or.inl rfl⟩
set_option maxRecDepth 20000 in
theorem cv_X3_39 : CV RX3 39 2 1 mX2_stretchAt := ⟨ck_X2_stretchAt, _, _, _, rfl, rfl, okB (by decide +kernel), okB (by decide +kernel), okB (by decide +kernel), by decide +kernel⟩
set_option maxRecDepth 20000 in
theorem fg_X3_43_1 : FG RX3 43 1 8 := ⟨_, _, _, "HomeByFour$Stretch", rfl, by decide, okB (by decide +kernel), Or.inl rfl⟩
set_option maxRecDepth 20000 in
theorem fg_X3_43_6 : FG RX3 43 6 8 := ⟨_, _, _, "HomeByFour$Stretch", rfl, by decide, okB (by decide +kernel), Or.inl rfl⟩
set_option maxRecDepth 20000 in
theorem fg_X3_43_7 : FG RX3 43 7 8 := ⟨_, _, _, "HomeByFour$Stretch", rfl, by decide, okB (by decide +kernel), Or.inl rfl⟩
set_option maxRecDepth 20000 in
theorem fg_X3_49_1 : FG RX3 49 1 2 := ⟨_, _, _, "HomeByFour$Stretch", rfl, by decide, okB (by decide +kernel), Or.inl rfl⟩
set_option maxRecDepth 20000 in
theorem fg_X3_49_6 : FG RX3 49 6 2 := ⟨_, _, _, "HomeByFour$Stretch", rfl, by decide, okB (by decide +kernel), Or.inl rfl⟩
set_option maxRecDepth 20000 in
theorem fg_X3_49_7 : FG RX3 49 7 2 := ⟨_, _, _, "HomeByFour$Stretch", rfl, by decide, okB (by decide +kernel), Or.inl rfl⟩
set_option maxRecDepth 20000 in
theorem fg_X3_52_1 : FG RX3 52 1 1 := ⟨_, _, _, "HomeByFour$Stretch", rfl, by decide, okB (by decide +kernel), Or.inl rfl⟩
set_option maxRecDepth 20000 in
theorem fg_X3_52_6 : FG RX3 52 6 1 := ⟨_, _, _, "HomeByFour$Stretch", rfl, by decide, okB (by decide +kernel), Or.inl rfl⟩
set_option maxRecDepth 20000 in
theorem fg_X3_52_7 : FG RX3 52 7 1 := ⟨_, _, _, "HomeByFour$Stretch", rfl, by decide, okB (by decide +kernel), Or.inl rfl⟩
set_option maxRecDepth 20000 in
theorem fg_X3_55_1 : FG RX3 55 1 6 := ⟨_, _, _, "HomeByFour$Stretch", rfl, by decide, okB (by decide +kernel), Or.inl rfl⟩
set_option maxRecDepth 20000 in
theorem fg_X3_55_6 : FG RX3 55 6 6 := ⟨_, _, _, "HomeByFour$Stretch", rfl, by decide, okB (by decide +kernel), Or.inl rfl⟩
set_option maxRecDepth 20000 in
theorem fg_X3_55_7 : FG RX3 55 7 6 := ⟨_, _, _, "HomeByFour$Stretch", rfl, by decide, okB (by decide +kernel), Or.inl rfl⟩
set_option maxRecDepth 20000 in
theorem ck_X3_shortenTo : CK mX3_shortenTo := ⟨okB (by decide +kernel), okB (by decide +kernel), by decide, by decide +kernel, by decide +kernel⟩
set_option maxRecDepth 20000 in
theorem cv_X3_58 : CV RX3 58 3 3 mX3_shortenTo := ⟨ck_X3_shortenTo, _, _, _, rfl, rfl, okB (by decide +kernel), okB (by decide +kernel), okB (by decide +kernel), by decide +kernel⟩
set_option maxRecDepth 20000 in
theorem cs_X3_62 : CS RX3 62 3 mX11_isWithin := ⟨ck_X11_isWithin, Or.inr ⟨"HomeByFour", by decide +kernel⟩, okB (by decide +kernel), by decide +kernel⟩
set_option maxRecDepth 20000 in
theorem cs_X3_66 : CS RX3 66 2 mJ9_min_7cf53 := ⟨ck_J9_min_7cf53, Or.inl (okB (by decide +kernel)), okB (by decide +kernel), by decide +kernel⟩
set_option maxRecDepth 20000 in
theorem wl_X4_3 : Cond.methodLink RX4 3 objectInit ∈ BIG := okB (by decide +kernel)
set_option maxRecDepth 20000 in
theorem wl_X4_9 : Cond.classLink RX4 9 "HomeByFour$Walk" ∈ BIG := okB (by decide +kernel)
set_option maxRecDepth 20000 in
theorem nr_X4_9 : NR RX4 9 10 [.int 0, .int 0, .int 0, .int 0, .int 0, .long 0] := ⟨_, _, _, tyX10, rfl, okB (by decide +kernel), okB (by decide +kernel), okB (by decide +kernel), tyX10_ok, by decide +kernel, by decide, rfl⟩
set_option maxRecDepth 20000 in
theorem fg_X4_11_4 : FG RX4 11 4 0 := ⟨_, _, _, "HomeByFour$Search", rfl, by decide, okB (by decide +kernel), Or.inl rfl⟩
set_option maxRecDepth 20000 in
theorem fr_X4_11_4 : FR RX4 11 4 0 (.array (.object "HomeByFour$Walk")) true := ⟨_, _, _, "HomeByFour$Search", rfl, by decide, okB (by decide +kernel), Or.inl rfl, by decide +kernel, rfl, fun _ => rfl⟩
set_option maxRecDepth 20000 in
theorem ci_X4_17 : CI RX4 17 0 mX10_init := ⟨ck_X10_init, Or.inr ⟨"HomeByFour", by decide +kernel⟩, okB (by decide +kernel), rfl, rfl, by decide +kernel⟩
set_option maxRecDepth 20000 in
theorem fg_X4_18_4 : FG RX4 18 4 1 := ⟨_, _, _, "HomeByFour$Search", rfl, by decide, okB (by decide +kernel), Or.inl rfl⟩
set_option maxRecDepth 20000 in
theorem fr_X4_18_4 : FR RX4 18 4 1 (.array (.int)) true := ⟨_, _, _, "HomeByFour$Search", rfl, by decide, okB (by decide +kernel), Or.inl rfl, by decide +kernel, rfl, fun _ => rfl⟩
set_option maxRecDepth 20000 in
theorem fg_X4_22_4 : FG RX4 22 4 2 := ⟨_, _, _, "HomeByFour$Search", rfl, by decide, okB (by decide +kernel), Or.inl rfl⟩
set_option maxRecDepth 20000 in
theorem fr_X4_22_4 : FR RX4 22 4 2 (.array (.int)) true := ⟨_, _, _, "HomeByFour$Search", rfl, by decide, okB (by decide +kernel), Or.inl rfl, by decide +kernel, rfl, fun _ => rfl⟩
set_option maxRecDepth 20000 in
theorem fg_X4_25_4 : FG RX4 25 4 6 := ⟨_, _, _, "HomeByFour$Search", rfl, by decide, okB (by decide +kernel), Or.inl rfl⟩
set_option maxRecDepth 20000 in
theorem fr_X4_25_4 : FR RX4 25 4 6 (.object "HomeByFour$Net") false := ⟨_, _, _, "HomeByFour$Search", rfl, by decide, okB (by decide +kernel), Or.inl rfl, by decide +kernel, rfl, fun h => absurd h (by decide)⟩
set_option maxRecDepth 20000 in
theorem fg_X4_29_4 : FG RX4 29 4 7 := ⟨_, _, _, "HomeByFour$Search", rfl, by decide, okB (by decide +kernel), Or.inl rfl⟩
set_option maxRecDepth 20000 in
theorem fr_X4_29_4 : FR RX4 29 4 7 (.int) false := ⟨_, _, _, "HomeByFour$Search", rfl, by decide, okB (by decide +kernel), Or.inl rfl, by decide +kernel, rfl, fun h => absurd h (by decide)⟩
set_option maxRecDepth 20000 in
theorem cs_X4_33 : CS RX4 33 2 mJ9_min_7cf53 := ⟨ck_J9_min_7cf53, Or.inl (okB (by decide +kernel)), okB (by decide +kernel), by decide +kernel⟩
set_option maxRecDepth 20000 in
theorem fg_X4_39_4 : FG RX4 39 4 8 := ⟨_, _, _, "HomeByFour$Search", rfl, by decide, okB (by decide +kernel), Or.inl rfl⟩
set_option maxRecDepth 20000 in
theorem fr_X4_39_4 : FR RX4 39 4 8 (.int) false := ⟨_, _, _, "HomeByFour$Search", rfl, by decide, okB (by decide +kernel), Or.inl rfl, by decide +kernel, rfl, fun h => absurd h (by decide)⟩
set_option maxRecDepth 20000 in
theorem fg_X4_42_4 : FG RX4 42 4 9 := ⟨_, _, _, "HomeByFour$Search", rfl, by decide, okB (by decide +kernel), Or.inl rfl⟩
set_option maxRecDepth 20000 in
theorem fr_X4_42_4 : FR RX4 42 4 9 (.int) false := ⟨_, _, _, "HomeByFour$Search", rfl, by decide, okB (by decide +kernel), Or.inl rfl, by decide +kernel, rfl, fun h => absurd h (by decide)⟩
set_option maxRecDepth 20000 in
theorem ck_X2_readSet : CK mX2_readSet := ⟨okB (by decide +kernel), okB (by decide +kernel), by decide, by decide +kernel, by decide +kernel⟩
set_option maxRecDepth 20000 in
theorem cv_X4_45 : CV RX4 45 2 1 mX2_readSet := ⟨ck_X2_readSet, _, _, _, rfl, rfl, okB (by decide +kernel), okB (by decide +kernel), okB (by decide +kernel), by decide +kernel⟩
set_option maxRecDepth 20000 in
theorem fg_X4_51_4 : FG RX4 51 4 10 := ⟨_, _, _, "HomeByFour$Search", rfl, by decide, okB (by decide +kernel), Or.inl rfl⟩
set_option maxRecDepth 20000 in
theorem fr_X4_51_4 : FR RX4 51 4 10 (.int) false := ⟨_, _, _, "HomeByFour$Search", rfl, by decide, okB (by decide +kernel), Or.inl rfl, by decide +kernel, rfl, fun h => absurd h (by decide)⟩
set_option maxRecDepth 20000 in
theorem fg_X4_54_4 : FG RX4 54 4 11 := ⟨_, _, _, "HomeByFour$Search", rfl, by decide, okB (by decide +kernel), Or.inl rfl⟩
set_option maxRecDepth 20000 in
theorem fr_X4_54_4 : FR RX4 54 4 11 (.int) false := ⟨_, _, _, "HomeByFour$Search", rfl, by decide, okB (by decide +kernel), Or.inl rfl, by decide +kernel, rfl, fun h => absurd h (by decide)⟩
set_option maxRecDepth 20000 in
theorem ck_X2_muddySet : CK mX2_muddySet := ⟨okB (by decide +kernel), okB (by decide +kernel), by decide, by decide +kernel, by decide +kernel⟩
set_option maxRecDepth 20000 in
theorem cv_X4_57 : CV RX4 57 2 0 mX2_muddySet := ⟨ck_X2_muddySet, _, _, _, rfl, rfl, okB (by decide +kernel), okB (by decide +kernel), okB (by decide +kernel), by decide +kernel⟩
set_option maxRecDepth 20000 in
theorem fg_X4_61_4 : FG RX4 61 4 12 := ⟨_, _, _, "HomeByFour$Search", rfl, by decide, okB (by decide +kernel), Or.inl rfl⟩
set_option maxRecDepth 20000 in
theorem fr_X4_61_4 : FR RX4 61 4 12 (.int) false := ⟨_, _, _, "HomeByFour$Search", rfl, by decide, okB (by decide +kernel), Or.inl rfl, by decide +kernel, rfl, fun h => absurd h (by decide)⟩
set_option maxRecDepth 20000 in
theorem fg_X4_64_4 : FG RX4 64 4 4 := ⟨_, _, _, "HomeByFour$Search", rfl, by decide, okB (by decide +kernel), Or.inl rfl⟩
set_option maxRecDepth 20000 in
theorem fr_X4_64_4 : FR RX4 64 4 4 (.int) false := ⟨_, _, _, "HomeByFour$Search", rfl, by decide, okB (by decide +kernel), Or.inl rfl, by decide +kernel, rfl, fun h => absurd h (by decide)⟩
set_option maxRecDepth 20000 in
theorem fg_X4_67_4 : FG RX4 67 4 5 := ⟨_, _, _, "HomeByFour$Search", rfl, by decide, okB (by decide +kernel), Or.inl rfl⟩
set_option maxRecDepth 20000 in
theorem fr_X4_67_4 : FR RX4 67 4 5 (.int) false := ⟨_, _, _, "HomeByFour$Search", rfl, by decide, okB (by decide +kernel), Or.inl rfl, by decide +kernel, rfl, fun h => absurd h (by decide)⟩
set_option maxRecDepth 20000 in
theorem fg_X4_70_4 : FG RX4 70 4 3 := ⟨_, _, _, "HomeByFour$Search", rfl, by decide, okB (by decide +kernel), Or.inl rfl⟩
set_option maxRecDepth 20000 in
theorem fr_X4_70_4 : FR RX4 70 4 3 (.int) false := ⟨_, _, _, "HomeByFour$Search", rfl, by decide, okB (by decide +kernel), Or.inl rfl, by decide +kernel, rfl, fun h => absurd h (by decide)⟩
set_option maxRecDepth 20000 in
theorem cv_X4_73 : CV RX4 73 10 0 mX10_begin := ⟨ck_X10_begin, _, _, _, rfl, rfl, okB (by decide +kernel), okB (by decide +kernel), okB (by decide +kernel), by decide +kernel⟩
set_option maxRecDepth 20000 in
theorem ck_X4_goOn : CK mX4_goOn := ⟨okB (by decide +kernel), okB (by decide +kernel), by decide, by decide +kernel, by decide +kernel⟩
set_option maxRecDepth 20000 in
theorem cv_X4_76 : CV RX4 76 4 1 mX4_goOn := ⟨ck_X4_goOn, _, _, _, rfl, rfl, okB (by decide +kernel), okB (by decide +kernel), okB (by decide +kernel), by decide +kernel⟩
set_option maxRecDepth 20000 in
theorem fg_X4_80_2 : FG RX4 80 2 4 := ⟨_, _, _, "HomeByFour$Net", rfl, by decide, okB (by decide +kernel), Or.inl rfl⟩
set_option maxRecDepth 20000 in
theorem cv_X4_83 : CV RX4 83 2 1 mX2_stretchAt := ⟨ck_X2_stretchAt, _, _, _, rfl, rfl, okB (by decide +kernel), okB (by decide +kernel), okB (by decide +kernel), by decide +kernel⟩
set_option maxRecDepth 20000 in
theorem fg_X4_87_10 : FG RX4 87 10 0 := ⟨_, _, _, "HomeByFour$Walk", rfl, by decide, okB (by decide +kernel), Or.inl rfl⟩
set_option maxRecDepth 20000 in
theorem co_X4_90_1 : CO RX4 90 1 1 mX7_leadsFrom := ⟨ck_X7_leadsFrom, _, _, _, "HomeByFour$Stretch", (⟨"HomeByFour$Stretch", "leadsFrom", "(I)Z"⟩ : MethodName), cX7_leadsFrom, 2, (some .boolean), rfl, okB (by decide +kernel), okB (by decide +kernel), okB (by decide +kernel), okB (by decide +kernel), okB (by decide +kernel), okB (by decide +kernel), ⟨by decide +kernel, by decide +kernel⟩, by decide +kernel⟩
set_option maxRecDepth 20000 in
theorem co_X4_90_6 : CO RX4 90 6 1 mX7_leadsFrom := ⟨ck_X7_leadsFrom, _, _, _, "HomeByFour$Stretch", (⟨"HomeByFour$Stretch", "leadsFrom", "(I)Z"⟩ : MethodName), cX7_leadsFrom, 2, (some .boolean), rfl, okB (by decide +kernel), okB (by decide +kernel), okB (by decide +kernel), okB (by decide +kernel), okB (by decide +kernel), okB (by decide +kernel), ⟨by decide +kernel, by decide +kernel⟩, by decide +kernel⟩
set_option maxRecDepth 20000 in
theorem co_X4_90_7 : CO RX4 90 7 1 mX7_leadsFrom := ⟨ck_X7_leadsFrom, _, _, _, "HomeByFour$Stretch", (⟨"HomeByFour$Stretch", "leadsFrom", "(I)Z"⟩ : MethodName), cX7_leadsFrom, 2, (some .boolean), rfl, okB (by decide +kernel), okB (by decide +kernel), okB (by decide +kernel), okB (by decide +kernel), okB (by decide +kernel), okB (by decide +kernel), ⟨by decide +kernel, by decide +kernel⟩, by decide +kernel⟩
set_option maxRecDepth 20000 in
theorem cv_X4_96 : CV RX4 96 10 2 mX10_follow := ⟨ck_X10_follow, _, _, _, rfl, rfl, okB (by decide +kernel), okB (by decide +kernel), okB (by decide +kernel), by decide +kernel⟩
set_option maxRecDepth 20000 in
theorem cv_X4_100 : CV RX4 100 2 0 mX2_home := ⟨ck_X2_home, _, _, _, rfl, rfl, okB (by decide +kernel), okB (by decide +kernel), okB (by decide +kernel), by decide +kernel⟩
set_option maxRecDepth 20000 in
theorem ck_X4_weigh : CK mX4_weigh := ⟨okB (by decide +kernel), okB (by decide +kernel), by decide, by decide +kernel, by decide +kernel⟩
set_option maxRecDepth 20000 in
theorem cv_X4_103 : CV RX4 103 4 1 mX4_weigh := ⟨ck_X4_weigh, _, _, _, rfl, rfl, okB (by decide +kernel), okB (by decide +kernel), okB (by decide +kernel), by decide +kernel⟩
set_option maxRecDepth 20000 in
theorem ck_X4_isTrail : CK mX4_isTrail := ⟨okB (by decide +kernel), okB (by decide +kernel), by decide, by decide +kernel, by decide +kernel⟩
set_option maxRecDepth 20000 in
theorem cv_X4_107 : CV RX4 107 4 1 mX4_isTrail := ⟨ck_X4_isTrail, _, _, _, rfl, rfl, okB (by decide +kernel), okB (by decide +kernel), okB (by decide +kernel), by decide +kernel⟩
set_option maxRecDepth 20000 in
theorem ck_X4_scoreOf : CK mX4_scoreOf := ⟨okB (by decide +kernel), okB (by decide +kernel), by decide, by decide +kernel, by decide +kernel⟩
set_option maxRecDepth 20000 in
theorem cv_X4_111 : CV RX4 111 4 1 mX4_scoreOf := ⟨ck_X4_scoreOf, _, _, _, rfl, rfl, okB (by decide +kernel), okB (by decide +kernel), okB (by decide +kernel), by decide +kernel⟩
set_option maxRecDepth 20000 in
theorem fg_X4_115_10 : FG RX4 115 10 1 := ⟨_, _, _, "HomeByFour$Walk", rfl, by decide, okB (by decide +kernel), Or.inl rfl⟩
set_option maxRecDepth 20000 in
theorem wl_X4_118 : Cond.methodLink RX4 118 arraycopyName ∈ BIG := okB (by decide +kernel)
set_option maxRecDepth 20000 in
theorem fg_X4_124_10 : FG RX4 124 10 4 := ⟨_, _, _, "HomeByFour$Walk", rfl, by decide, okB (by decide +kernel), Or.inl rfl⟩
set_option maxRecDepth 20000 in
theorem fg_X4_127_10 : FG RX4 127 10 2 := ⟨_, _, _, "HomeByFour$Walk", rfl, by decide, okB (by decide +kernel), Or.inl rfl⟩
set_option maxRecDepth 20000 in
theorem cv_X4_128 : CV RX4 128 2 1 mX2_joyOf := ⟨ck_X2_joyOf, _, _, _, rfl, rfl, okB (by decide +kernel), okB (by decide +kernel), okB (by decide +kernel), by decide +kernel⟩
set_option maxRecDepth 20000 in
theorem fg_X4_131_10 : FG RX4 131 10 5 := ⟨_, _, _, "HomeByFour$Walk", rfl, by decide, okB (by decide +kernel), Or.inl rfl⟩
set_option maxRecDepth 20000 in
theorem wl_X4_135 : Cond.constantLong RX4 135 (10) ∈ BIG := okB (by decide +kernel)
set_option maxRecDepth 20000 in
theorem cs_X4_137 : CS RX4 137 2 mX11_powerOf := ⟨ck_X11_powerOf, Or.inr ⟨"HomeByFour", by decide +kernel⟩, okB (by decide +kernel), by decide +kernel⟩
set_option maxRecDepth 20000 in
theorem wl_X5_3 : Cond.methodLink RX5 3 objectInit ∈ BIG := okB (by decide +kernel)
set_option maxRecDepth 20000 in
theorem fg_X5_9_5 : FG RX5 9 5 0 := ⟨_, _, _, "HomeByFour$Sheet", rfl, by decide, okB (by decide +kernel), Or.inl rfl⟩
set_option maxRecDepth 20000 in
theorem fr_X5_9_5 : FR RX5 9 5 0 (.array (.int)) true := ⟨_, _, _, "HomeByFour$Sheet", rfl, by decide, okB (by decide +kernel), Or.inl rfl, by decide +kernel, rfl, fun _ => rfl⟩
set_option maxRecDepth 20000 in
theorem fg_X5_15_5 : FG RX5 15 5 1 := ⟨_, _, _, "HomeByFour$Sheet", rfl, by decide, okB (by decide +kernel), Or.inl rfl⟩
set_option maxRecDepth 20000 in
theorem fr_X5_15_5 : FR RX5 15 5 1 (.int) false := ⟨_, _, _, "HomeByFour$Sheet", rfl, by decide, okB (by decide +kernel), Or.inl rfl, by decide +kernel, rfl, fun h => absurd h (by decide)⟩
set_option maxRecDepth 20000 in
theorem fg_X5_19_5 : FG RX5 19 5 2 := ⟨_, _, _, "HomeByFour$Sheet", rfl, by decide, okB (by decide +kernel), Or.inl rfl⟩
set_option maxRecDepth 20000 in
theorem fr_X5_19_5 : FR RX5 19 5 2 (.int) false := ⟨_, _, _, "HomeByFour$Sheet", rfl, by decide, okB (by decide +kernel), Or.inl rfl, by decide +kernel, rfl, fun h => absurd h (by decide)⟩
set_option maxRecDepth 20000 in
theorem cs_X5_22 : CS RX5 22 2 mJ7_fill_53178 := ⟨ck_J7_fill_53178, Or.inl (okB (by decide +kernel)), okB (by decide +kernel), by decide +kernel⟩
set_option maxRecDepth 20000 in
theorem cv_X5_28 : CV RX5 28 5 1 mX5_hasCell := ⟨ck_X5_hasCell, _, _, _, rfl, rfl, okB (by decide +kernel), okB (by decide +kernel), okB (by decide +kernel), by decide +kernel⟩
set_option maxRecDepth 20000 in
theorem cv_X5_32 : CV RX5 32 5 0 mX5_hasNothing := ⟨ck_X5_hasNothing, _, _, _, rfl, rfl, okB (by decide +kernel), okB (by decide +kernel), okB (by decide +kernel), by decide +kernel⟩
set_option maxRecDepth 20000 in
theorem cv_X5_36 : CV RX5 36 5 1 mX5_faultOfRow := ⟨ck_X5_faultOfRow, _, _, _, rfl, rfl, okB (by decide +kernel), okB (by decide +kernel), okB (by decide +kernel), by decide +kernel⟩
set_option maxRecDepth 20000 in
theorem cv_X5_40 : CV RX5 40 5 2 mX5_hasCells := ⟨ck_X5_hasCells, _, _, _, rfl, rfl, okB (by decide +kernel), okB (by decide +kernel), okB (by decide +kernel), by decide +kernel⟩
set_option maxRecDepth 20000 in
theorem ck_X1_init : CK mX1_init := ⟨okB (by decide +kernel), okB (by decide +kernel), by decide, by decide +kernel, by decide +kernel⟩
set_option maxRecDepth 20000 in
theorem ci_X6_1 : CI RX6 1 6 mX1_init := ⟨ck_X1_init, Or.inl (okB (by decide +kernel)), okB (by decide +kernel), rfl, rfl, by decide +kernel⟩
set_option maxRecDepth 20000 in
theorem ck_X1_minutesAlone : CK mX1_minutesAlone := ⟨okB (by decide +kernel), okB (by decide +kernel), by decide, by decide +kernel, by decide +kernel⟩
set_option maxRecDepth 20000 in
theorem cu_X6_7 : CU RX6 7 0 mX1_minutesAlone := ⟨ck_X1_minutesAlone, okB (by decide +kernel), okB (by decide +kernel), okB (by decide +kernel), okB (by decide +kernel), by decide +kernel, by decide +kernel⟩
set_option maxRecDepth 20000 in
theorem cv_X6_11 : CV RX6 11 9 1 mX9_leave := ⟨ck_X9_leave, _, _, _, rfl, rfl, okB (by decide +kernel), okB (by decide +kernel), okB (by decide +kernel), by decide +kernel⟩
set_option maxRecDepth 20000 in
theorem cu_X6_17 : CU RX6 17 1 mX1_toldWith := ⟨ck_X1_toldWith, okB (by decide +kernel), okB (by decide +kernel), okB (by decide +kernel), okB (by decide +kernel), by decide +kernel, by decide +kernel⟩
set_option maxRecDepth 20000 in
theorem ck_X7_toldAsStretch : CK mX7_toldAsStretch := ⟨okB (by decide +kernel), okB (by decide +kernel), by decide, by decide +kernel, by decide +kernel⟩
set_option maxRecDepth 20000 in
theorem co_X6_21_6 : CO RX6 21 6 1 mX7_toldAsStretch := ⟨ck_X7_toldAsStretch, _, _, _, "HomeByFour$Stretch", (⟨"HomeByFour$Steep", "toldAsStretch", "(LHomeByFour$Trace;)I"⟩ : MethodName), cX7_toldAsStretch, 2, (some .int), rfl, okB (by decide +kernel), okB (by decide +kernel), okB (by decide +kernel), okB (by decide +kernel), okB (by decide +kernel), okB (by decide +kernel), ⟨by decide +kernel, by decide +kernel⟩, by decide +kernel⟩
set_option maxRecDepth 20000 in
theorem wl_X7_1 : Cond.methodLink RX7 1 objectInit ∈ BIG := okB (by decide +kernel)
set_option maxRecDepth 20000 in
theorem fg_X7_7_1 : FG RX7 7 1 0 := ⟨_, _, _, "HomeByFour$Stretch", rfl, by decide, okB (by decide +kernel), Or.inl rfl⟩
set_option maxRecDepth 20000 in
theorem fg_X7_7_6 : FG RX7 7 6 0 := ⟨_, _, _, "HomeByFour$Stretch", rfl, by decide, okB (by decide +kernel), Or.inl rfl⟩
set_option maxRecDepth 20000 in
theorem fg_X7_7_7 : FG RX7 7 7 0 := ⟨_, _, _, "HomeByFour$Stretch", rfl, by decide, okB (by decide +kernel), Or.inl rfl⟩
set_option maxRecDepth 20000 in
theorem fr_X7_7_1 : FR RX7 7 1 0 (.int) true := ⟨_, _, _, "HomeByFour$Stretch", rfl, by decide, okB (by decide +kernel), Or.inl rfl, by decide +kernel, rfl, fun _ => rfl⟩
set_option maxRecDepth 20000 in
theorem fr_X7_7_6 : FR RX7 7 6 0 (.int) true := ⟨_, _, _, "HomeByFour$Stretch", rfl, by decide, okB (by decide +kernel), Or.inl rfl, by decide +kernel, rfl, fun _ => rfl⟩
set_option maxRecDepth 20000 in
theorem fr_X7_7_7 : FR RX7 7 7 0 (.int) true := ⟨_, _, _, "HomeByFour$Stretch", rfl, by decide, okB (by decide +kernel), Or.inl rfl, by decide +kernel, rfl, fun _ => rfl⟩
set_option maxRecDepth 20000 in
theorem fg_X7_13_1 : FG RX7 13 1 1 := ⟨_, _, _, "HomeByFour$Stretch", rfl, by decide, okB (by decide +kernel), Or.inl rfl⟩
set_option maxRecDepth 20000 in
theorem fg_X7_13_6 : FG RX7 13 6 1 := ⟨_, _, _, "HomeByFour$Stretch", rfl, by decide, okB (by decide +kernel), Or.inl rfl⟩
set_option maxRecDepth 20000 in
theorem fg_X7_13_7 : FG RX7 13 7 1 := ⟨_, _, _, "HomeByFour$Stretch", rfl, by decide, okB (by decide +kernel), Or.inl rfl⟩
set_option maxRecDepth 20000 in
theorem fr_X7_13_1 : FR RX7 13 1 1 (.int) true := ⟨_, _, _, "HomeByFour$Stretch", rfl, by decide, okB (by decide +kernel), Or.inl rfl, by decide +kernel, rfl, fun _ => rfl⟩
set_option maxRecDepth 20000 in
theorem fr_X7_13_6 : FR RX7 13 6 1 (.int) true := ⟨_, _, _, "HomeByFour$Stretch", rfl, by decide, okB (by decide +kernel), Or.inl rfl, by decide +kernel, rfl, fun _ => rfl⟩
set_option maxRecDepth 20000 in
theorem fr_X7_13_7 : FR RX7 13 7 1 (.int) true := ⟨_, _, _, "HomeByFour$Stretch", rfl, by decide, okB (by decide +kernel), Or.inl rfl, by decide +kernel, rfl, fun _ => rfl⟩
set_option maxRecDepth 20000 in
theorem fg_X7_16_1 : FG RX7 16 1 2 := ⟨_, _, _, "HomeByFour$Stretch", rfl, by decide, okB (by decide +kernel), Or.inl rfl⟩
set_option maxRecDepth 20000 in
theorem fg_X7_16_6 : FG RX7 16 6 2 := ⟨_, _, _, "HomeByFour$Stretch", rfl, by decide, okB (by decide +kernel), Or.inl rfl⟩
set_option maxRecDepth 20000 in
theorem fg_X7_16_7 : FG RX7 16 7 2 := ⟨_, _, _, "HomeByFour$Stretch", rfl, by decide, okB (by decide +kernel), Or.inl rfl⟩
set_option maxRecDepth 20000 in
theorem fr_X7_16_1 : FR RX7 16 1 2 (.int) true := ⟨_, _, _, "HomeByFour$Stretch", rfl, by decide, okB (by decide +kernel), Or.inl rfl, by decide +kernel, rfl, fun _ => rfl⟩
set_option maxRecDepth 20000 in
theorem fr_X7_16_6 : FR RX7 16 6 2 (.int) true := ⟨_, _, _, "HomeByFour$Stretch", rfl, by decide, okB (by decide +kernel), Or.inl rfl, by decide +kernel, rfl, fun _ => rfl⟩
set_option maxRecDepth 20000 in
theorem fr_X7_16_7 : FR RX7 16 7 2 (.int) true := ⟨_, _, _, "HomeByFour$Stretch", rfl, by decide, okB (by decide +kernel), Or.inl rfl, by decide +kernel, rfl, fun _ => rfl⟩
set_option maxRecDepth 20000 in
theorem fg_X7_19_1 : FG RX7 19 1 3 := ⟨_, _, _, "HomeByFour$Stretch", rfl, by decide, okB (by decide +kernel), Or.inl rfl⟩
set_option maxRecDepth 20000 in
theorem fg_X7_19_6 : FG RX7 19 6 3 := ⟨_, _, _, "HomeByFour$Stretch", rfl, by decide, okB (by decide +kernel), Or.inl rfl⟩
