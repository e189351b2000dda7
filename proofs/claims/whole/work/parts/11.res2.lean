set_option maxRecDepth 20000 in
theorem fg_X7_19_7 : FG RX7 19 7 3 := ⟨_, _, _, "HomeByFour$Stretch", rfl, by decide, okB (by decide +kernel), Or.inl rfl⟩
set_option maxRecDepth 20000 in
theorem fr_X7_19_1 : FR RX7 19 1 3 (.int) true := ⟨_, _, _, "HomeByFour$Stretch", rfl, by decide, okB (by decide +kernel), Or.inl rfl, by decide +kernel, rfl, fun _ => rfl⟩
set_option maxRecDepth 20000 in
theorem fr_X7_19_6 : FR RX7 19 6 3 (.int) true := ⟨_, _, _, "HomeByFour$Stretch", rfl, by decide, okB (by decide +kernel), Or.inl rfl, by decide +kernel, rfl, fun _ => rfl⟩
set_option maxRecDepth 20000 in
theorem fr_X7_19_7 : FR RX7 19 7 3 (.int) true := ⟨_, _, _, "HomeByFour$Stretch", rfl, by decide, okB (by decide +kernel), Or.inl rfl, by decide +kernel, rfl, fun _ => rfl⟩
set_option maxRecDepth 20000 in
theorem fr_X7_22_1 : FR RX7 22 1 4 (.int) true := ⟨_, _, _, "HomeByFour$Stretch", rfl, by decide, okB (by decide +kernel), Or.inl rfl, by decide +kernel, rfl, fun _ => rfl⟩
set_option maxRecDepth 20000 in
theorem fr_X7_22_6 : FR RX7 22 6 4 (.int) true := ⟨_, _, _, "HomeByFour$Stretch", rfl, by decide, okB (by decide +kernel), Or.inl rfl, by decide +kernel, rfl, fun _ => rfl⟩
set_option maxRecDepth 20000 in
theorem fr_X7_22_7 : FR RX7 22 7 4 (.int) true := ⟨_, _, _, "HomeByFour$Stretch", rfl, by decide, okB (by decide +kernel), Or.inl rfl, by decide +kernel, rfl, fun _ => rfl⟩
set_option maxRecDepth 20000 in
theorem fg_X7_25_1 : FG RX7 25 1 5 := ⟨_, _, _, "HomeByFour$Stretch", rfl, by decide, okB (by decide +kernel), Or.inl rfl⟩
set_option maxRecDepth 20000 in
theorem fg_X7_25_6 : FG RX7 25 6 5 := ⟨_, _, _, "HomeByFour$Stretch", rfl, by decide, okB (by decide +kernel), Or.inl rfl⟩
set_option maxRecDepth 20000 in
theorem fg_X7_25_7 : FG RX7 25 7 5 := ⟨_, _, _, "HomeByFour$Stretch", rfl, by decide, okB (by decide +kernel), Or.inl rfl⟩
set_option maxRecDepth 20000 in
theorem fr_X7_25_1 : FR RX7 25 1 5 (.int) true := ⟨_, _, _, "HomeByFour$Stretch", rfl, by decide, okB (by decide +kernel), Or.inl rfl, by decide +kernel, rfl, fun _ => rfl⟩
set_option maxRecDepth 20000 in
theorem fr_X7_25_6 : FR RX7 25 6 5 (.int) true := ⟨_, _, _, "HomeByFour$Stretch", rfl, by decide, okB (by decide +kernel), Or.inl rfl, by decide +kernel, rfl, fun _ => rfl⟩
set_option maxRecDepth 20000 in
theorem fr_X7_25_7 : FR RX7 25 7 5 (.int) true := ⟨_, _, _, "HomeByFour$Stretch", rfl, by decide, okB (by decide +kernel), Or.inl rfl, by decide +kernel, rfl, fun _ => rfl⟩
set_option maxRecDepth 20000 in
theorem fr_X7_28_1 : FR RX7 28 1 6 (.int) false := ⟨_, _, _, "HomeByFour$Stretch", rfl, by decide, okB (by decide +kernel), Or.inl rfl, by decide +kernel, rfl, fun h => absurd h (by decide)⟩
set_option maxRecDepth 20000 in
theorem fr_X7_28_6 : FR RX7 28 6 6 (.int) false := ⟨_, _, _, "HomeByFour$Stretch", rfl, by decide, okB (by decide +kernel), Or.inl rfl, by decide +kernel, rfl, fun h => absurd h (by decide)⟩
set_option maxRecDepth 20000 in
theorem fr_X7_28_7 : FR RX7 28 7 6 (.int) false := ⟨_, _, _, "HomeByFour$Stretch", rfl, by decide, okB (by decide +kernel), Or.inl rfl, by decide +kernel, rfl, fun h => absurd h (by decide)⟩
set_option maxRecDepth 20000 in
theorem fr_X7_31_1 : FR RX7 31 1 7 (.int) false := ⟨_, _, _, "HomeByFour$Stretch", rfl, by decide, okB (by decide +kernel), Or.inl rfl, by decide +kernel, rfl, fun h => absurd h (by decide)⟩
set_option maxRecDepth 20000 in
theorem fr_X7_31_6 : FR RX7 31 6 7 (.int) false := ⟨_, _, _, "HomeByFour$Stretch", rfl, by decide, okB (by decide +kernel), Or.inl rfl, by decide +kernel, rfl, fun h => absurd h (by decide)⟩
set_option maxRecDepth 20000 in
theorem fr_X7_31_7 : FR RX7 31 7 7 (.int) false := ⟨_, _, _, "HomeByFour$Stretch", rfl, by decide, okB (by decide +kernel), Or.inl rfl, by decide +kernel, rfl, fun h => absurd h (by decide)⟩
set_option maxRecDepth 20000 in
theorem fg_X7_34_1 : FG RX7 34 1 8 := ⟨_, _, _, "HomeByFour$Stretch", rfl, by decide, okB (by decide +kernel), Or.inl rfl⟩
set_option maxRecDepth 20000 in
theorem fg_X7_34_6 : FG RX7 34 6 8 := ⟨_, _, _, "HomeByFour$Stretch", rfl, by decide, okB (by decide +kernel), Or.inl rfl⟩
set_option maxRecDepth 20000 in
theorem fg_X7_34_7 : FG RX7 34 7 8 := ⟨_, _, _, "HomeByFour$Stretch", rfl, by decide, okB (by decide +kernel), Or.inl rfl⟩
set_option maxRecDepth 20000 in
theorem fr_X7_34_1 : FR RX7 34 1 8 (.boolean) false := ⟨_, _, _, "HomeByFour$Stretch", rfl, by decide, okB (by decide +kernel), Or.inl rfl, by decide +kernel, rfl, fun h => absurd h (by decide)⟩
set_option maxRecDepth 20000 in
theorem fr_X7_34_6 : FR RX7 34 6 8 (.boolean) false := ⟨_, _, _, "HomeByFour$Stretch", rfl, by decide, okB (by decide +kernel), Or.inl rfl, by decide +kernel, rfl, fun h => absurd h (by decide)⟩
set_option maxRecDepth 20000 in
theorem fr_X7_34_7 : FR RX7 34 7 8 (.boolean) false := ⟨_, _, _, "HomeByFour$Stretch", rfl, by decide, okB (by decide +kernel), Or.inl rfl, by decide +kernel, rfl, fun h => absurd h (by decide)⟩
set_option maxRecDepth 20000 in
theorem co_X7_38_1 : CO RX7 38 1 0 mX1_minutesAlone := ⟨ck_X1_minutesAlone, _, _, _, "HomeByFour$Stretch", (⟨"HomeByFour$Stretch", "minutesAlone", "()I"⟩ : MethodName), cX7_minutesAlone, 1, (some .int), rfl, okB (by decide +kernel), okB (by decide +kernel), okB (by decide +kernel), okB (by decide +kernel), okB (by decide +kernel), okB (by decide +kernel), ⟨by decide +kernel, by decide +kernel⟩, by decide +kernel⟩
set_option maxRecDepth 20000 in
theorem ck_X6_minutesAlone : CK mX6_minutesAlone := ⟨okB (by decide +kernel), okB (by decide +kernel), by decide, by decide +kernel, by decide +kernel⟩
set_option maxRecDepth 20000 in
theorem co_X7_38_6 : CO RX7 38 6 0 mX6_minutesAlone := ⟨ck_X6_minutesAlone, _, _, _, "HomeByFour$Stretch", (⟨"HomeByFour$Stretch", "minutesAlone", "()I"⟩ : MethodName), cX7_minutesAlone, 1, (some .int), rfl, okB (by decide +kernel), okB (by decide +kernel), okB (by decide +kernel), okB (by decide +kernel), okB (by decide +kernel), okB (by decide +kernel), ⟨by decide +kernel, by decide +kernel⟩, by decide +kernel⟩
set_option maxRecDepth 20000 in
theorem ck_X7_minutesAlone : CK mX7_minutesAlone := ⟨okB (by decide +kernel), okB (by decide +kernel), by decide, by decide +kernel, by decide +kernel⟩
set_option maxRecDepth 20000 in
theorem co_X7_38_7 : CO RX7 38 7 0 mX7_minutesAlone := ⟨ck_X7_minutesAlone, _, _, _, "HomeByFour$Stretch", (⟨"HomeByFour$Stretch", "minutesAlone", "()I"⟩ : MethodName), cX7_minutesAlone, 1, (some .int), rfl, okB (by decide +kernel), okB (by decide +kernel), okB (by decide +kernel), okB (by decide +kernel), okB (by decide +kernel), okB (by decide +kernel), ⟨by decide +kernel, by decide +kernel⟩, by decide +kernel⟩
set_option maxRecDepth 20000 in
theorem co_X7_42_1 : CO RX7 42 1 1 mX7_toldAsStretch := ⟨ck_X7_toldAsStretch, _, _, _, "HomeByFour$Stretch", (⟨"HomeByFour$Stretch", "toldAsStretch", "(LHomeByFour$Trace;)I"⟩ : MethodName), cX7_toldAsStretch, 2, (some .int), rfl, okB (by decide +kernel), okB (by decide +kernel), okB (by decide +kernel), okB (by decide +kernel), okB (by decide +kernel), okB (by decide +kernel), ⟨by decide +kernel, by decide +kernel⟩, by decide +kernel⟩
set_option maxRecDepth 20000 in
theorem co_X7_42_6 : CO RX7 42 6 1 mX7_toldAsStretch := ⟨ck_X7_toldAsStretch, _, _, _, "HomeByFour$Stretch", (⟨"HomeByFour$Stretch", "toldAsStretch", "(LHomeByFour$Trace;)I"⟩ : MethodName), cX7_toldAsStretch, 2, (some .int), rfl, okB (by decide +kernel), okB (by decide +kernel), okB (by decide +kernel), okB (by decide +kernel), okB (by decide +kernel), okB (by decide +kernel), ⟨by decide +kernel, by decide +kernel⟩, by decide +kernel⟩
set_option maxRecDepth 20000 in
theorem co_X7_42_7 : CO RX7 42 7 1 mX7_toldAsStretch := ⟨ck_X7_toldAsStretch, _, _, _, "HomeByFour$Stretch", (⟨"HomeByFour$Stretch", "toldAsStretch", "(LHomeByFour$Trace;)I"⟩ : MethodName), cX7_toldAsStretch, 2, (some .int), rfl, okB (by decide +kernel), okB (by decide +kernel), okB (by decide +kernel), okB (by decide +kernel), okB (by decide +kernel), okB (by decide +kernel), ⟨by decide +kernel, by decide +kernel⟩, by decide +kernel⟩
set_option maxRecDepth 20000 in
theorem cv_X7_46 : CV RX7 46 9 1 mX9_leave := ⟨ck_X9_leave, _, _, _, rfl, rfl, okB (by decide +kernel), okB (by decide +kernel), okB (by decide +kernel), by decide +kernel⟩
set_option maxRecDepth 20000 in
theorem wl_X8_3 : Cond.methodLink RX8 3 objectInit ∈ BIG := okB (by decide +kernel)
set_option maxRecDepth 20000 in
theorem fg_X8_9_8 : FG RX8 9 8 0 := ⟨_, _, _, "HomeByFour$Text", rfl, by decide, okB (by decide +kernel), Or.inl rfl⟩
set_option maxRecDepth 20000 in
theorem fr_X8_9_8 : FR RX8 9 8 0 (.object "HomeByFour$Sheet") true := ⟨_, _, _, "HomeByFour$Text", rfl, by decide, okB (by decide +kernel), Or.inl rfl, by decide +kernel, rfl, fun _ => rfl⟩
set_option maxRecDepth 20000 in
theorem fg_X8_15_8 : FG RX8 15 8 1 := ⟨_, _, _, "HomeByFour$Text", rfl, by decide, okB (by decide +kernel), Or.inl rfl⟩
set_option maxRecDepth 20000 in
theorem fr_X8_15_8 : FR RX8 15 8 1 (.int) true := ⟨_, _, _, "HomeByFour$Text", rfl, by decide, okB (by decide +kernel), Or.inl rfl, by decide +kernel, rfl, fun _ => rfl⟩
set_option maxRecDepth 20000 in
theorem fg_X8_19_8 : FG RX8 19 8 2 := ⟨_, _, _, "HomeByFour$Text", rfl, by decide, okB (by decide +kernel), Or.inl rfl⟩
set_option maxRecDepth 20000 in
theorem fr_X8_19_8 : FR RX8 19 8 2 (.int) true := ⟨_, _, _, "HomeByFour$Text", rfl, by decide, okB (by decide +kernel), Or.inl rfl, by decide +kernel, rfl, fun _ => rfl⟩
set_option maxRecDepth 20000 in
theorem ck_X8_goesOnAt : CK mX8_goesOnAt := ⟨okB (by decide +kernel), okB (by decide +kernel), by decide, by decide +kernel, by decide +kernel⟩
set_option maxRecDepth 20000 in
theorem cv_X8_22 : CV RX8 22 8 1 mX8_goesOnAt := ⟨ck_X8_goesOnAt, _, _, _, rfl, rfl, okB (by decide +kernel), okB (by decide +kernel), okB (by decide +kernel), by decide +kernel⟩
set_option maxRecDepth 20000 in
theorem ck_X8_codeAt : CK mX8_codeAt := ⟨okB (by decide +kernel), okB (by decide +kernel), by decide, by decide +kernel, by decide +kernel⟩
set_option maxRecDepth 20000 in
theorem cv_X8_26 : CV RX8 26 8 1 mX8_codeAt := ⟨ck_X8_codeAt, _, _, _, rfl, rfl, okB (by decide +kernel), okB (by decide +kernel), okB (by decide +kernel), by decide +kernel⟩
set_option maxRecDepth 20000 in
theorem ck_X8_isDigitAt : CK mX8_isDigitAt := ⟨okB (by decide +kernel), okB (by decide +kernel), by decide, by decide +kernel, by decide +kernel⟩
set_option maxRecDepth 20000 in
theorem cv_X8_30 : CV RX8 30 8 3 mX8_isDigitAt := ⟨ck_X8_isDigitAt, _, _, _, rfl, rfl, okB (by decide +kernel), okB (by decide +kernel), okB (by decide +kernel), by decide +kernel⟩
set_option maxRecDepth 20000 in
theorem ck_X8_isKindAt : CK mX8_isKindAt := ⟨okB (by decide +kernel), okB (by decide +kernel), by decide, by decide +kernel, by decide +kernel⟩
set_option maxRecDepth 20000 in
theorem cv_X8_34 : CV RX8 34 8 1 mX8_isKindAt := ⟨ck_X8_isKindAt, _, _, _, rfl, rfl, okB (by decide +kernel), okB (by decide +kernel), okB (by decide +kernel), by decide +kernel⟩
set_option maxRecDepth 20000 in
theorem cv_X8_37 : CV RX8 37 8 0 mX8_places := ⟨ck_X8_places, _, _, _, rfl, rfl, okB (by decide +kernel), okB (by decide +kernel), okB (by decide +kernel), by decide +kernel⟩
set_option maxRecDepth 20000 in
theorem ck_X8_digitAt : CK mX8_digitAt := ⟨okB (by decide +kernel), okB (by decide +kernel), by decide, by decide +kernel, by decide +kernel⟩
set_option maxRecDepth 20000 in
theorem cv_X8_41 : CV RX8 41 8 1 mX8_digitAt := ⟨ck_X8_digitAt, _, _, _, rfl, rfl, okB (by decide +kernel), okB (by decide +kernel), okB (by decide +kernel), by decide +kernel⟩
set_option maxRecDepth 20000 in
theorem nr_X8_44 : NR RX8 44 1 [.int 0, .int 0, .int 0, .int 0, .int 0, .int 0, .int 0, .int 0, .int 0] := ⟨_, _, _, tyX1, rfl, okB (by decide +kernel), okB (by decide +kernel), okB (by decide +kernel), tyX1_ok, by decide +kernel, by decide, rfl⟩
set_option maxRecDepth 20000 in
theorem ci_X8_46 : CI RX8 46 6 mX1_init := ⟨ck_X1_init, Or.inl (okB (by decide +kernel)), okB (by decide +kernel), rfl, rfl, by decide +kernel⟩
set_option maxRecDepth 20000 in
theorem nr_X8_49 : NR RX8 49 6 [.int 0, .int 0, .int 0, .int 0, .int 0, .int 0, .int 0, .int 0, .int 0] := ⟨_, _, _, tyX6, rfl, okB (by decide +kernel), okB (by decide +kernel), okB (by decide +kernel), tyX6_ok, by decide +kernel, by decide, rfl⟩
set_option maxRecDepth 20000 in
theorem ck_X6_init : CK mX6_init := ⟨okB (by decide +kernel), okB (by decide +kernel), by decide, by decide +kernel, by decide +kernel⟩
set_option maxRecDepth 20000 in
theorem ci_X8_51 : CI RX8 51 6 mX6_init := ⟨ck_X6_init, Or.inl (okB (by decide +kernel)), okB (by decide +kernel), rfl, rfl, by decide +kernel⟩
set_option maxRecDepth 20000 in
theorem nr_X8_52 : NR RX8 52 7 [.int 0, .int 0, .int 0, .int 0, .int 0, .int 0, .int 0, .int 0, .int 0] := ⟨_, _, _, tyX7, rfl, okB (by decide +kernel), okB (by decide +kernel), okB (by decide +kernel), tyX7_ok, by decide +kernel, by decide, rfl⟩
set_option maxRecDepth 20000 in
theorem ci_X8_54 : CI RX8 54 6 mX7_init := ⟨ck_X7_init, Or.inl (okB (by decide +kernel)), okB (by decide +kernel), rfl, rfl, by decide +kernel⟩
set_option maxRecDepth 20000 in
theorem cv_X8_55 : CV RX8 55 5 1 mX5_read := ⟨ck_X5_read, _, _, _, rfl, rfl, okB (by decide +kernel), okB (by decide +kernel), okB (by decide +kernel), by decide +kernel⟩
set_option maxRecDepth 20000 in
theorem cs_X8_60 : CS RX8 60 3 mX11_isWithin := ⟨ck_X11_isWithin, Or.inr ⟨"HomeByFour", by decide +kernel⟩, okB (by decide +kernel), by decide +kernel⟩
set_option maxRecDepth 20000 in
theorem wl_X9_1 : Cond.methodLink RX9 1 objectInit ∈ BIG := okB (by decide +kernel)
set_option maxRecDepth 20000 in
theorem fg_X9_7_9 : FG RX9 7 9 0 := ⟨_, _, _, "HomeByFour$Trace", rfl, by decide, okB (by decide +kernel), Or.inl rfl⟩
set_option maxRecDepth 20000 in
theorem fr_X9_7_9 : FR RX9 7 9 0 (.int) false := ⟨_, _, _, "HomeByFour$Trace", rfl, by decide, okB (by decide +kernel), Or.inl rfl, by decide +kernel, rfl, fun h => absurd h (by decide)⟩
set_option maxRecDepth 20000 in
theorem wl_X10_3 : Cond.methodLink RX10 3 objectInit ∈ BIG := okB (by decide +kernel)
set_option maxRecDepth 20000 in
theorem fg_X10_9_10 : FG RX10 9 10 0 := ⟨_, _, _, "HomeByFour$Walk", rfl, by decide, okB (by decide +kernel), Or.inl rfl⟩
set_option maxRecDepth 20000 in
theorem fr_X10_9_10 : FR RX10 9 10 0 (.int) false := ⟨_, _, _, "HomeByFour$Walk", rfl, by decide, okB (by decide +kernel), Or.inl rfl, by decide +kernel, rfl, fun h => absurd h (by decide)⟩
set_option maxRecDepth 20000 in
theorem fg_X10_15_10 : FG RX10 15 10 1 := ⟨_, _, _, "HomeByFour$Walk", rfl, by decide, okB (by decide +kernel), Or.inl rfl⟩
set_option maxRecDepth 20000 in
theorem fr_X10_15_10 : FR RX10 15 10 1 (.int) false := ⟨_, _, _, "HomeByFour$Walk", rfl, by decide, okB (by decide +kernel), Or.inl rfl, by decide +kernel, rfl, fun h => absurd h (by decide)⟩
set_option maxRecDepth 20000 in
theorem fg_X10_18_10 : FG RX10 18 10 2 := ⟨_, _, _, "HomeByFour$Walk", rfl, by decide, okB (by decide +kernel), Or.inl rfl⟩
set_option maxRecDepth 20000 in
theorem fr_X10_18_10 : FR RX10 18 10 2 (.int) false := ⟨_, _, _, "HomeByFour$Walk", rfl, by decide, okB (by decide +kernel), Or.inl rfl, by decide +kernel, rfl, fun h => absurd h (by decide)⟩
set_option maxRecDepth 20000 in
theorem fg_X10_21_10 : FG RX10 21 10 3 := ⟨_, _, _, "HomeByFour$Walk", rfl, by decide, okB (by decide +kernel), Or.inl rfl⟩
set_option maxRecDepth 20000 in
theorem fr_X10_21_10 : FR RX10 21 10 3 (.int) false := ⟨_, _, _, "HomeByFour$Walk", rfl, by decide, okB (by decide +kernel), Or.inl rfl, by decide +kernel, rfl, fun h => absurd h (by decide)⟩
set_option maxRecDepth 20000 in
theorem fg_X10_24_10 : FG RX10 24 10 4 := ⟨_, _, _, "HomeByFour$Walk", rfl, by decide, okB (by decide +kernel), Or.inl rfl⟩
set_option maxRecDepth 20000 in
theorem fr_X10_24_10 : FR RX10 24 10 4 (.int) false := ⟨_, _, _, "HomeByFour$Walk", rfl, by decide, okB (by decide +kernel), Or.inl rfl, by decide +kernel, rfl, fun h => absurd h (by decide)⟩
set_option maxRecDepth 20000 in
theorem fg_X10_27_10 : FG RX10 27 10 5 := ⟨_, _, _, "HomeByFour$Walk", rfl, by decide, okB (by decide +kernel), Or.inl rfl⟩
set_option maxRecDepth 20000 in
theorem fr_X10_27_10 : FR RX10 27 10 5 (.long) false := ⟨_, _, _, "HomeByFour$Walk", rfl, by decide, okB (by decide +kernel), Or.inl rfl, by decide +kernel, rfl, fun h => absurd h (by decide)⟩
set_option maxRecDepth 20000 in
theorem fg_X10_31_1 : FG RX10 31 1 0 := ⟨_, _, _, "HomeByFour$Stretch", rfl, by decide, okB (by decide +kernel), Or.inl rfl⟩
set_option maxRecDepth 20000 in
theorem fg_X10_31_6 : FG RX10 31 6 0 := ⟨_, _, _, "HomeByFour$Stretch", rfl, by decide, okB (by decide +kernel), Or.inl rfl⟩
set_option maxRecDepth 20000 in
theorem fg_X10_31_7 : FG RX10 31 7 0 := ⟨_, _, _, "HomeByFour$Stretch", rfl, by decide, okB (by decide +kernel), Or.inl rfl⟩
set_option maxRecDepth 20000 in
theorem co_X10_36_1 : CO RX10 36 1 1 mX7_otherEnd := ⟨ck_X7_otherEnd, _, _, _, "HomeByFour$Stretch", (⟨"HomeByFour$Stretch", "otherEnd", "(I)I"⟩ : MethodName), cX7_otherEnd, 2, (some .int), rfl, okB (by decide +kernel), okB (by decide +kernel), okB (by decide +kernel), okB (by decide +kernel), okB (by decide +kernel), okB (by decide +kernel), ⟨by decide +kernel, by decide +kernel⟩, by decide +kernel⟩
set_option maxRecDepth 20000 in
theorem co_X10_36_6 : CO RX10 36 6 1 mX7_otherEnd := ⟨ck_X7_otherEnd, _, _, _, "HomeByFour$Stretch", (⟨"HomeByFour$Stretch", "otherEnd", "(I)I"⟩ : MethodName), cX7_otherEnd, 2, (some .int), rfl, okB (by decide +kernel), okB (by decide +kernel), okB (by decide +kernel), okB (by decide +kernel), okB (by decide +kernel), okB (by decide +kernel), ⟨by decide +kernel, by decide +kernel⟩, by decide +kernel⟩
set_option maxRecDepth 20000 in
theorem co_X10_36_7 : CO RX10 36 7 1 mX7_otherEnd := ⟨ck_X7_otherEnd, _, _, _, "HomeByFour$Stretch", (⟨"HomeByFour$Stretch", "otherEnd", "(I)I"⟩ : MethodName), cX7_otherEnd, 2, (some .int), rfl, okB (by decide +kernel), okB (by decide +kernel), okB (by decide +kernel), okB (by decide +kernel), okB (by decide +kernel), okB (by decide +kernel), ⟨by decide +kernel, by decide +kernel⟩, by decide +kernel⟩
set_option maxRecDepth 20000 in
theorem fg_X10_40_1 : FG RX10 40 1 6 := ⟨_, _, _, "HomeByFour$Stretch", rfl, by decide, okB (by decide +kernel), Or.inl rfl⟩
set_option maxRecDepth 20000 in
theorem fg_X10_40_6 : FG RX10 40 6 6 := ⟨_, _, _, "HomeByFour$Stretch", rfl, by decide, okB (by decide +kernel), Or.inl rfl⟩
set_option maxRecDepth 20000 in
theorem fg_X10_40_7 : FG RX10 40 7 6 := ⟨_, _, _, "HomeByFour$Stretch", rfl, by decide, okB (by decide +kernel), Or.inl rfl⟩
set_option maxRecDepth 20000 in
theorem fg_X10_41_1 : FG RX10 41 1 4 := ⟨_, _, _, "HomeByFour$Stretch", rfl, by decide, okB (by decide +kernel), Or.inl rfl⟩
set_option maxRecDepth 20000 in
theorem fg_X10_41_6 : FG RX10 41 6 4 := ⟨_, _, _, "HomeByFour$Stretch", rfl, by decide, okB (by decide +kernel), Or.inl rfl⟩
set_option maxRecDepth 20000 in
theorem fg_X10_41_7 : FG RX10 41 7 4 := ⟨_, _, _, "HomeByFour$Stretch", rfl, by decide, okB (by decide +kernel), Or.inl rfl⟩
set_option maxRecDepth 20000 in
theorem fg_X10_42_1 : FG RX10 42 1 7 := ⟨_, _, _, "HomeByFour$Stretch", rfl, by decide, okB (by decide +kernel), Or.inl rfl⟩
set_option maxRecDepth 20000 in
theorem fg_X10_42_6 : FG RX10 42 6 7 := ⟨_, _, _, "HomeByFour$Stretch", rfl, by decide, okB (by decide +kernel), Or.inl rfl⟩
set_option maxRecDepth 20000 in
theorem fg_X10_42_7 : FG RX10 42 7 7 := ⟨_, _, _, "HomeByFour$Stretch", rfl, by decide, okB (by decide +kernel), Or.inl rfl⟩
set_option maxRecDepth 20000 in
theorem nr_L_7 : NR RL 7 11 [.null, .null, .null, .null, .null, .null, .null, .int 0] := ⟨_, _, _, tyX11, rfl, okB (by decide +kernel), okB (by decide +kernel), okB (by decide +kernel), tyX11_ok, by decide +kernel, by decide, rfl⟩
set_option maxRecDepth 20000 in
theorem ck_X11_init : CK mX11_init := ⟨okB (by decide +kernel), okB (by decide +kernel), by decide, by decide +kernel, by decide +kernel⟩
set_option maxRecDepth 20000 in
theorem ci_L_9 : CI RL 9 0 mX11_init := ⟨ck_X11_init, Or.inl (okB (by decide +kernel)), okB (by decide +kernel), rfl, rfl, by decide +kernel⟩
set_option maxRecDepth 20000 in
theorem nr_L_10 : NR RL 10 12 [.int 0, .int 0, .int 0, .null, .null, .null, .null, .null, .null, .int 0, .int 0, .int 0, .int 0, .int 0, .int 0, .int 0, .null, .null, .null, .null, .null, .null, .null, .int 0, .null, .null, .int 0, .null, .int 0, .long 0, .int 0, .null, .null, .null, .null, .null, .null, .null, .null, .int 0] := ⟨_, _, _, tyX12, rfl, okB (by decide +kernel), okB (by decide +kernel), okB (by decide +kernel), tyX12_ok, by decide +kernel, by decide, rfl⟩
set_option maxRecDepth 20000 in
theorem ck_X12_init : CK mX12_init := ⟨okB (by decide +kernel), okB (by decide +kernel), by decide, by decide +kernel, by decide +kernel⟩
set_option maxRecDepth 20000 in
theorem ci_L_12 : CI RL 12 0 mX12_init := ⟨ck_X12_init, Or.inl (okB (by decide +kernel)), okB (by decide +kernel), rfl, rfl, by decide +kernel⟩
set_option maxRecDepth 20000 in
theorem ck_X11_net : CK mX11_net := ⟨okB (by decide +kernel), okB (by decide +kernel), by decide, by decide +kernel, by decide +kernel⟩
set_option maxRecDepth 20000 in
theorem cv_L_13 : CV RL 13 11 4 mX11_net := ⟨ck_X11_net, _, _, _, rfl, rfl, okB (by decide +kernel), okB (by decide +kernel), okB (by decide +kernel), by decide +kernel⟩
set_option maxRecDepth 20000 in
theorem ck_X12_net : CK mX12_net := ⟨okB (by decide +kernel), okB (by decide +kernel), by decide, by decide +kernel, by decide +kernel⟩
set_option maxRecDepth 20000 in
theorem cv_L_17 : CV RL 17 12 4 mX12_net := ⟨ck_X12_net, _, _, _, rfl, rfl, okB (by decide +kernel), okB (by decide +kernel), okB (by decide +kernel), by decide +kernel⟩
set_option maxRecDepth 20000 in
theorem ck_X11_ofStretch : CK mX11_ofStretch := ⟨okB (by decide +kernel), okB (by decide +kernel), by decide, by decide +kernel, by decide +kernel⟩
set_option maxRecDepth 20000 in
theorem cv_L_18 : CV RL 18 11 2 mX11_ofStretch := ⟨ck_X11_ofStretch, _, _, _, rfl, rfl, okB (by decide +kernel), okB (by decide +kernel), okB (by decide +kernel), by decide +kernel⟩
set_option maxRecDepth 20000 in
theorem ck_X12_ofStretch : CK mX12_ofStretch := ⟨okB (by decide +kernel), okB (by decide +kernel), by decide, by decide +kernel, by decide +kernel⟩
set_option maxRecDepth 20000 in
theorem cv_L_22 : CV RL 22 12 2 mX12_ofStretch := ⟨ck_X12_ofStretch, _, _, _, rfl, rfl, okB (by decide +kernel), okB (by decide +kernel), okB (by decide +kernel), by decide +kernel⟩
set_option maxRecDepth 20000 in
theorem ck_X11_due : CK mX11_due := ⟨okB (by decide +kernel), okB (by decide +kernel), by decide, by decide +kernel, by decide +kernel⟩
set_option maxRecDepth 20000 in
theorem cv_L_23 : CV RL 23 11 1 mX11_due := ⟨ck_X11_due, _, _, _, rfl, rfl, okB (by decide +kernel), okB (by decide +kernel), okB (by decide +kernel), by decide +kernel⟩
set_option maxRecDepth 20000 in
theorem ck_X12_due : CK mX12_due := ⟨okB (by decide +kernel), okB (by decide +kernel), by decide, by decide +kernel, by decide +kernel⟩
set_option maxRecDepth 20000 in
theorem cv_L_27 : CV RL 27 12 1 mX12_due := ⟨ck_X12_due, _, _, _, rfl, rfl, okB (by decide +kernel), okB (by decide +kernel), okB (by decide +kernel), by decide +kernel⟩
set_option maxRecDepth 20000 in
theorem ck_X11_law : CK mX11_law := ⟨okB (by decide +kernel), okB (by decide +kernel), by decide, by decide +kernel, by decide +kernel⟩
set_option maxRecDepth 20000 in
theorem cv_L_28 : CV RL 28 11 1 mX11_law := ⟨ck_X11_law, _, _, _, rfl, rfl, okB (by decide +kernel), okB (by decide +kernel), okB (by decide +kernel), by decide +kernel⟩
set_option maxRecDepth 20000 in
theorem ck_X12_law : CK mX12_law := ⟨okB (by decide +kernel), okB (by decide +kernel), by decide, by decide +kernel, by decide +kernel⟩
set_option maxRecDepth 20000 in
theorem cv_L_31 : CV RL 31 12 1 mX12_law := ⟨ck_X12_law, _, _, _, rfl, rfl, okB (by decide +kernel), okB (by decide +kernel), okB (by decide +kernel), by decide +kernel⟩
set_option maxRecDepth 20000 in
theorem ck_X11_friend : CK mX11_friend := ⟨okB (by decide +kernel), okB (by decide +kernel), by decide, by decide +kernel, by decide +kernel⟩
set_option maxRecDepth 20000 in
theorem cv_L_32 : CV RL 32 11 1 mX11_friend := ⟨ck_X11_friend, _, _, _, rfl, rfl, okB (by decide +kernel), okB (by decide +kernel), okB (by decide +kernel), by decide +kernel⟩
set_option maxRecDepth 20000 in
theorem ck_X12_friend : CK mX12_friend := ⟨okB (by decide +kernel), okB (by decide +kernel), by decide, by decide +kernel, by decide +kernel⟩
set_option maxRecDepth 20000 in
theorem cv_L_35 : CV RL 35 12 1 mX12_friend := ⟨ck_X12_friend, _, _, _, rfl, rfl, okB (by decide +kernel), okB (by decide +kernel), okB (by decide +kernel), by decide +kernel⟩
set_option maxRecDepth 20000 in
theorem ck_X11_close : CK mX11_close := ⟨okB (by decide +kernel), okB (by decide +kernel), by decide, by decide +kernel, by decide +kernel⟩
set_option maxRecDepth 20000 in
theorem cv_L_36 : CV RL 36 11 2 mX11_close := ⟨ck_X11_close, _, _, _, rfl, rfl, okB (by decide +kernel), okB (by decide +kernel), okB (by decide +kernel), by decide +kernel⟩
set_option maxRecDepth 20000 in
theorem ck_X12_close : CK mX12_close := ⟨okB (by decide +kernel), okB (by decide +kernel), by decide, by decide +kernel, by decide +kernel⟩
set_option maxRecDepth 20000 in
theorem cv_L_40 : CV RL 40 12 2 mX12_close := ⟨ck_X12_close, _, _, _, rfl, rfl, okB (by decide +kernel), okB (by decide +kernel), okB (by decide +kernel), by decide +kernel⟩
set_option maxRecDepth 20000 in
theorem ck_X11_walk : CK mX11_walk := ⟨okB (by decide +kernel), okB (by decide +kernel), by decide, by decide +kernel, by decide +kernel⟩
set_option maxRecDepth 20000 in
theorem cv_L_41 : CV RL 41 11 5 mX11_walk := ⟨ck_X11_walk, _, _, _, rfl, rfl, okB (by decide +kernel), okB (by decide +kernel), okB (by decide +kernel), by decide +kernel⟩
set_option maxRecDepth 20000 in
theorem ck_X12_walk : CK mX12_walk := ⟨okB (by decide +kernel), okB (by decide +kernel), by decide, by decide +kernel, by decide +kernel⟩
set_option maxRecDepth 20000 in
theorem cv_L_45 : CV RL 45 12 5 mX12_walk := ⟨ck_X12_walk, _, _, _, rfl, rfl, okB (by decide +kernel), okB (by decide +kernel), okB (by decide +kernel), by decide +kernel⟩
set_option maxRecDepth 20000 in
theorem ck_X11_safe : CK mX11_safe := ⟨okB (by decide +kernel), okB (by decide +kernel), by decide, by decide +kernel, by decide +kernel⟩
set_option maxRecDepth 20000 in
theorem cv_L_46 : CV RL 46 11 5 mX11_safe := ⟨ck_X11_safe, _, _, _, rfl, rfl, okB (by decide +kernel), okB (by decide +kernel), okB (by decide +kernel), by decide +kernel⟩
set_option maxRecDepth 20000 in
theorem ck_X12_safe : CK mX12_safe := ⟨okB (by decide +kernel), okB (by decide +kernel), by decide, by decide +kernel, by decide +kernel⟩
set_option maxRecDepth 20000 in
theorem cv_L_50 : CV RL 50 12 5 mX12_safe := ⟨ck_X12_safe, _, _, _, rfl, rfl, okB (by decide +kernel), okB (by decide +kernel), okB (by decide +kernel), by decide +kernel⟩
set_option maxRecDepth 20000 in
theorem ck_X11_quickest : CK mX11_quickest := ⟨okB (by decide +kernel), okB (by decide +kernel), by decide, by decide +kernel, by decide +kernel⟩
set_option maxRecDepth 20000 in
theorem cv_L_51 : CV RL 51 11 1 mX11_quickest := ⟨ck_X11_quickest, _, _, _, rfl, rfl, okB (by decide +kernel), okB (by decide +kernel), okB (by decide +kernel), by decide +kernel⟩
set_option maxRecDepth 20000 in
theorem ck_X12_quickest : CK mX12_quickest := ⟨okB (by decide +kernel), okB (by decide +kernel), by decide, by decide +kernel, by decide +kernel⟩
set_option maxRecDepth 20000 in
theorem cv_L_54 : CV RL 54 12 1 mX12_quickest := ⟨ck_X12_quickest, _, _, _, rfl, rfl, okB (by decide +kernel), okB (by decide +kernel), okB (by decide +kernel), by decide +kernel⟩
set_option maxRecDepth 20000 in
theorem ck_X11_via : CK mX11_via := ⟨okB (by decide +kernel), okB (by decide +kernel), by decide, by decide +kernel, by decide +kernel⟩
set_option maxRecDepth 20000 in
theorem cv_L_55 : CV RL 55 11 1 mX11_via := ⟨ck_X11_via, _, _, _, rfl, rfl, okB (by decide +kernel), okB (by decide +kernel), okB (by decide +kernel), by decide +kernel⟩
set_option maxRecDepth 20000 in
theorem ck_X12_via : CK mX12_via := ⟨okB (by decide +kernel), okB (by decide +kernel), by decide, by decide +kernel, by decide +kernel⟩
set_option maxRecDepth 20000 in
theorem cv_L_58 : CV RL 58 12 1 mX12_via := ⟨ck_X12_via, _, _, _, rfl, rfl, okB (by decide +kernel), okB (by decide +kernel), okB (by decide +kernel), by decide +kernel⟩
set_option maxRecDepth 20000 in
theorem ck_X11_best : CK mX11_best := ⟨okB (by decide +kernel), okB (by decide +kernel), by decide, by decide +kernel, by decide +kernel⟩
set_option maxRecDepth 20000 in
theorem cv_L_59 : CV RL 59 11 2 mX11_best := ⟨ck_X11_best, _, _, _, rfl, rfl, okB (by decide +kernel), okB (by decide +kernel), okB (by decide +kernel), by decide +kernel⟩
set_option maxRecDepth 20000 in
theorem ck_X12_best : CK mX12_best := ⟨okB (by decide +kernel), okB (by decide +kernel), by decide, by decide +kernel, by decide +kernel⟩
set_option maxRecDepth 20000 in
theorem cv_L_62 : CV RL 62 12 2 mX12_best := ⟨ck_X12_best, _, _, _, rfl, rfl, okB (by decide +kernel), okB (by decide +kernel), okB (by decide +kernel), by decide +kernel⟩
set_option maxRecDepth 20000 in
theorem ck_X11_safest : CK mX11_safest := ⟨okB (by decide +kernel), okB (by decide +kernel), by decide, by decide +kernel, by decide +kernel⟩
set_option maxRecDepth 20000 in
theorem cv_L_63 : CV RL 63 11 2 mX11_safest := ⟨ck_X11_safest, _, _, _, rfl, rfl, okB (by decide +kernel), okB (by decide +kernel), okB (by decide +kernel), by decide +kernel⟩
set_option maxRecDepth 20000 in
theorem ck_X12_safest : CK mX12_safest := ⟨okB (by decide +kernel), okB (by decide +kernel), by decide, by decide +kernel, by decide +kernel⟩
set_option maxRecDepth 20000 in
theorem cv_L_66 : CV RL 66 12 2 mX12_safest := ⟨ck_X12_safest, _, _, _, rfl, rfl, okB (by decide +kernel), okB (by decide +kernel), okB (by decide +kernel), by decide +kernel⟩
set_option maxRecDepth 20000 in
theorem ck_X11_worth : CK mX11_worth := ⟨okB (by decide +kernel), okB (by decide +kernel), by decide, by decide +kernel, by decide +kernel⟩
set_option maxRecDepth 20000 in
theorem cv_L_67 : CV RL 67 11 1 mX11_worth := ⟨ck_X11_worth, _, _, _, rfl, rfl, okB (by decide +kernel), okB (by decide +kernel), okB (by decide +kernel), by decide +kernel⟩
set_option maxRecDepth 20000 in
theorem ck_X12_worth : CK mX12_worth := ⟨okB (by decide +kernel), okB (by decide +kernel), by decide, by decide +kernel, by decide +kernel⟩
set_option maxRecDepth 20000 in
theorem cv_L_70 : CV RL 70 12 1 mX12_worth := ⟨ck_X12_worth, _, _, _, rfl, rfl, okB (by decide +kernel), okB (by decide +kernel), okB (by decide +kernel), by decide +kernel⟩
set_option maxRecDepth 20000 in
theorem ck_X11_reading : CK mX11_reading := ⟨okB (by decide +kernel), okB (by decide +kernel), by decide, by decide +kernel, by decide +kernel⟩
set_option maxRecDepth 20000 in
theorem cv_L_71 : CV RL 71 11 2 mX11_reading := ⟨ck_X11_reading, _, _, _, rfl, rfl, okB (by decide +kernel), okB (by decide +kernel), okB (by decide +kernel), by decide +kernel⟩
set_option maxRecDepth 20000 in
theorem ck_X12_reading : CK mX12_reading := ⟨okB (by decide +kernel), okB (by decide +kernel), by decide, by decide +kernel, by decide +kernel⟩
set_option maxRecDepth 20000 in
theorem cv_L_74 : CV RL 74 12 2 mX12_reading := ⟨ck_X12_reading, _, _, _, rfl, rfl, okB (by decide +kernel), okB (by decide +kernel), okB (by decide +kernel), by decide +kernel⟩
set_option maxRecDepth 20000 in
theorem ck_X11_back : CK mX11_back := ⟨okB (by decide +kernel), okB (by decide +kernel), by decide, by decide +kernel, by decide +kernel⟩
set_option maxRecDepth 20000 in
theorem cv_L_75 : CV RL 75 11 1 mX11_back := ⟨ck_X11_back, _, _, _, rfl, rfl, okB (by decide +kernel), okB (by decide +kernel), okB (by decide +kernel), by decide +kernel⟩
set_option maxRecDepth 20000 in
theorem ck_X12_back : CK mX12_back := ⟨okB (by decide +kernel), okB (by decide +kernel), by decide, by decide +kernel, by decide +kernel⟩
set_option maxRecDepth 20000 in
theorem cv_L_78 : CV RL 78 12 1 mX12_back := ⟨ck_X12_back, _, _, _, rfl, rfl, okB (by decide +kernel), okB (by decide +kernel), okB (by decide +kernel), by decide +kernel⟩
set_option maxRecDepth 20000 in
theorem ck_X11_trails : CK mX11_trails := ⟨okB (by decide +kernel), okB (by decide +kernel), by decide, by decide +kernel, by decide +kernel⟩
set_option maxRecDepth 20000 in
theorem cv_L_79 : CV RL 79 11 3 mX11_trails := ⟨ck_X11_trails, _, _, _, rfl, rfl, okB (by decide +kernel), okB (by decide +kernel), okB (by decide +kernel), by decide +kernel⟩
set_option maxRecDepth 20000 in
theorem ck_X12_trails : CK mX12_trails := ⟨okB (by decide +kernel), okB (by decide +kernel), by decide, by decide +kernel, by decide +kernel⟩
set_option maxRecDepth 20000 in
theorem cv_L_83 : CV RL 83 12 3 mX12_trails := ⟨ck_X12_trails, _, _, _, rfl, rfl, okB (by decide +kernel), okB (by decide +kernel), okB (by decide +kernel), by decide +kernel⟩
set_option maxRecDepth 20000 in
theorem ck_X11_dawdle : CK mX11_dawdle := ⟨okB (by decide +kernel), okB (by decide +kernel), by decide, by decide +kernel, by decide +kernel⟩
set_option maxRecDepth 20000 in
theorem cv_L_84 : CV RL 84 11 3 mX11_dawdle := ⟨ck_X11_dawdle, _, _, _, rfl, rfl, okB (by decide +kernel), okB (by decide +kernel), okB (by decide +kernel), by decide +kernel⟩
set_option maxRecDepth 20000 in
theorem ck_X12_dawdle : CK mX12_dawdle := ⟨okB (by decide +kernel), okB (by decide +kernel), by decide, by decide +kernel, by decide +kernel⟩
set_option maxRecDepth 20000 in
theorem cv_L_88 : CV RL 88 12 3 mX12_dawdle := ⟨ck_X12_dawdle, _, _, _, rfl, rfl, okB (by decide +kernel), okB (by decide +kernel), okB (by decide +kernel), by decide +kernel⟩
set_option maxRecDepth 20000 in
theorem ck_X11_sheet : CK mX11_sheet := ⟨okB (by decide +kernel), okB (by decide +kernel), by decide, by decide +kernel, by decide +kernel⟩
set_option maxRecDepth 20000 in
theorem cv_L_89 : CV RL 89 11 3 mX11_sheet := ⟨ck_X11_sheet, _, _, _, rfl, rfl, okB (by decide +kernel), okB (by decide +kernel), okB (by decide +kernel), by decide +kernel⟩
set_option maxRecDepth 20000 in
theorem ck_X12_sheet : CK mX12_sheet := ⟨okB (by decide +kernel), okB (by decide +kernel), by decide, by decide +kernel, by decide +kernel⟩
set_option maxRecDepth 20000 in
theorem cv_L_92 : CV RL 92 12 3 mX12_sheet := ⟨ck_X12_sheet, _, _, _, rfl, rfl, okB (by decide +kernel), okB (by decide +kernel), okB (by decide +kernel), by decide +kernel⟩
set_option maxRecDepth 20000 in
theorem ck_X11_lose : CK mX11_lose := ⟨okB (by decide +kernel), okB (by decide +kernel), by decide, by decide +kernel, by decide +kernel⟩
set_option maxRecDepth 20000 in
theorem cv_L_93 : CV RL 93 11 1 mX11_lose := ⟨ck_X11_lose, _, _, _, rfl, rfl, okB (by decide +kernel), okB (by decide +kernel), okB (by decide +kernel), by decide +kernel⟩
set_option maxRecDepth 20000 in
theorem ck_X12_lose : CK mX12_lose := ⟨okB (by decide +kernel), okB (by decide +kernel), by decide, by decide +kernel, by decide +kernel⟩
set_option maxRecDepth 20000 in
theorem cv_L_96 : CV RL 96 12 1 mX12_lose := ⟨ck_X12_lose, _, _, _, rfl, rfl, okB (by decide +kernel), okB (by decide +kernel), okB (by decide +kernel), by decide +kernel⟩
set_option maxRecDepth 20000 in
theorem ck_X11_put : CK mX11_put := ⟨okB (by decide +kernel), okB (by decide +kernel), by decide, by decide +kernel, by decide +kernel⟩
set_option maxRecDepth 20000 in
theorem cv_L_97 : CV RL 97 11 3 mX11_put := ⟨ck_X11_put, _, _, _, rfl, rfl, okB (by decide +kernel), okB (by decide +kernel), okB (by decide +kernel), by decide +kernel⟩
set_option maxRecDepth 20000 in
theorem ck_X12_put : CK mX12_put := ⟨okB (by decide +kernel), okB (by decide +kernel), by decide, by decide +kernel, by decide +kernel⟩
set_option maxRecDepth 20000 in
theorem cv_L_100 : CV RL 100 12 3 mX12_put := ⟨ck_X12_put, _, _, _, rfl, rfl, okB (by decide +kernel), okB (by decide +kernel), okB (by decide +kernel), by decide +kernel⟩
set_option maxRecDepth 20000 in
theorem ck_X11_cell : CK mX11_cell := ⟨okB (by decide +kernel), okB (by decide +kernel), by decide, by decide +kernel, by decide +kernel⟩
set_option maxRecDepth 20000 in
theorem cv_L_101 : CV RL 101 11 3 mX11_cell := ⟨ck_X11_cell, _, _, _, rfl, rfl, okB (by decide +kernel), okB (by decide +kernel), okB (by decide +kernel), by decide +kernel⟩
set_option maxRecDepth 20000 in
theorem ck_X12_cell : CK mX12_cell := ⟨okB (by decide +kernel), okB (by decide +kernel), by decide, by decide +kernel, by decide +kernel⟩
set_option maxRecDepth 20000 in
theorem cv_L_104 : CV RL 104 12 3 mX12_cell := ⟨ck_X12_cell, _, _, _, rfl, rfl, okB (by decide +kernel), okB (by decide +kernel), okB (by decide +kernel), by decide +kernel⟩
set_option maxRecDepth 20000 in
theorem ck_X11_copy : CK mX11_copy := ⟨okB (by decide +kernel), okB (by decide +kernel), by decide, by decide +kernel, by decide +kernel⟩
set_option maxRecDepth 20000 in
theorem cv_L_105 : CV RL 105 11 5 mX11_copy := ⟨ck_X11_copy, _, _, _, rfl, rfl, okB (by decide +kernel), okB (by decide +kernel), okB (by decide +kernel), by decide +kernel⟩
set_option maxRecDepth 20000 in
theorem ck_X12_copy : CK mX12_copy := ⟨okB (by decide +kernel), okB (by decide +kernel), by decide, by decide +kernel, by decide +kernel⟩
set_option maxRecDepth 20000 in
theorem cv_L_108 : CV RL 108 12 5 mX12_copy := ⟨ck_X12_copy, _, _, _, rfl, rfl, okB (by decide +kernel), okB (by decide +kernel), okB (by decide +kernel), by decide +kernel⟩
set_option maxRecDepth 20000 in
theorem ck_X11_tell : CK mX11_tell := ⟨okB (by decide +kernel), okB (by decide +kernel), by decide, by decide +kernel, by decide +kernel⟩
set_option maxRecDepth 20000 in
theorem cv_L_109 : CV RL 109 11 1 mX11_tell := ⟨ck_X11_tell, _, _, _, rfl, rfl, okB (by decide +kernel), okB (by decide +kernel), okB (by decide +kernel), by decide +kernel⟩
set_option maxRecDepth 20000 in
theorem ck_X12_tell : CK mX12_tell := ⟨okB (by decide +kernel), okB (by decide +kernel), by decide, by decide +kernel, by decide +kernel⟩
set_option maxRecDepth 20000 in
theorem cv_L_112 : CV RL 112 12 1 mX12_tell := ⟨ck_X12_tell, _, _, _, rfl, rfl, okB (by decide +kernel), okB (by decide +kernel), okB (by decide +kernel), by decide +kernel⟩
set_option maxRecDepth 20000 in
theorem ck_X11_sing : CK mX11_sing := ⟨okB (by decide +kernel), okB (by decide +kernel), by decide, by decide +kernel, by decide +kernel⟩
set_option maxRecDepth 20000 in
theorem cv_L_113 : CV RL 113 11 1 mX11_sing := ⟨ck_X11_sing, _, _, _, rfl, rfl, okB (by decide +kernel), okB (by decide +kernel), okB (by decide +kernel), by decide +kernel⟩
set_option maxRecDepth 20000 in
theorem ck_X12_sing : CK mX12_sing := ⟨okB (by decide +kernel), okB (by decide +kernel), by decide, by decide +kernel, by decide +kernel⟩
set_option maxRecDepth 20000 in
theorem cv_L_116 : CV RL 116 12 1 mX12_sing := ⟨ck_X12_sing, _, _, _, rfl, rfl, okB (by decide +kernel), okB (by decide +kernel), okB (by decide +kernel), by decide +kernel⟩
set_option maxRecDepth 20000 in
theorem ck_X11_as : CK mX11_as := ⟨okB (by decide +kernel), okB (by decide +kernel), by decide, by decide +kernel, by decide +kernel⟩
set_option maxRecDepth 20000 in
theorem cv_L_117 : CV RL 117 11 2 mX11_as := ⟨ck_X11_as, _, _, _, rfl, rfl, okB (by decide +kernel), okB (by decide +kernel), okB (by decide +kernel), by decide +kernel⟩
set_option maxRecDepth 20000 in
theorem ck_X12_as : CK mX12_as := ⟨okB (by decide +kernel), okB (by decide +kernel), by decide, by decide +kernel, by decide +kernel⟩
set_option maxRecDepth 20000 in
theorem cv_L_120 : CV RL 120 12 2 mX12_as := ⟨ck_X12_as, _, _, _, rfl, rfl, okB (by decide +kernel), okB (by decide +kernel), okB (by decide +kernel), by decide +kernel⟩
set_option maxRecDepth 20000 in
theorem ck_X11_trace : CK mX11_trace := ⟨okB (by decide +kernel), okB (by decide +kernel), by decide, by decide +kernel, by decide +kernel⟩
set_option maxRecDepth 20000 in
theorem cv_L_121 : CV RL 121 11 0 mX11_trace := ⟨ck_X11_trace, _, _, _, rfl, rfl, okB (by decide +kernel), okB (by decide +kernel), okB (by decide +kernel), by decide +kernel⟩
set_option maxRecDepth 20000 in
theorem ck_X12_trace : CK mX12_trace := ⟨okB (by decide +kernel), okB (by decide +kernel), by decide, by decide +kernel, by decide +kernel⟩
set_option maxRecDepth 20000 in
theorem cv_L_125 : CV RL 125 12 0 mX12_trace := ⟨ck_X12_trace, _, _, _, rfl, rfl, okB (by decide +kernel), okB (by decide +kernel), okB (by decide +kernel), by decide +kernel⟩
set_option maxRecDepth 20000 in
theorem ck_X11_fault : CK mX11_fault := ⟨okB (by decide +kernel), okB (by decide +kernel), by decide, by decide +kernel, by decide +kernel⟩
set_option maxRecDepth 20000 in
theorem cv_L_126 : CV RL 126 11 0 mX11_fault := ⟨ck_X11_fault, _, _, _, rfl, rfl, okB (by decide +kernel), okB (by decide +kernel), okB (by decide +kernel), by decide +kernel⟩
set_option maxRecDepth 20000 in
theorem ck_X12_fault : CK mX12_fault := ⟨okB (by decide +kernel), okB (by decide +kernel), by decide, by decide +kernel, by decide +kernel⟩
set_option maxRecDepth 20000 in
theorem cv_L_129 : CV RL 129 12 0 mX12_fault := ⟨ck_X12_fault, _, _, _, rfl, rfl, okB (by decide +kernel), okB (by decide +kernel), okB (by decide +kernel), by decide +kernel⟩
set_option maxRecDepth 20000 in
theorem ck_X11_many : CK mX11_many := ⟨okB (by decide +kernel), okB (by decide +kernel), by decide, by decide +kernel, by decide +kernel⟩
set_option maxRecDepth 20000 in
theorem cv_L_130 : CV RL 130 11 1 mX11_many := ⟨ck_X11_many, _, _, _, rfl, rfl, okB (by decide +kernel), okB (by decide +kernel), okB (by decide +kernel), by decide +kernel⟩
set_option maxRecDepth 20000 in
theorem ck_X12_many : CK mX12_many := ⟨okB (by decide +kernel), okB (by decide +kernel), by decide, by decide +kernel, by decide +kernel⟩
set_option maxRecDepth 20000 in
theorem cv_L_133 : CV RL 133 12 1 mX12_many := ⟨ck_X12_many, _, _, _, rfl, rfl, okB (by decide +kernel), okB (by decide +kernel), okB (by decide +kernel), by decide +kernel⟩
set_option maxRecDepth 20000 in
theorem wl_X12_1 : Cond.methodLink RX12 1 objectInit ∈ BIG := okB (by decide +kernel)
set_option maxRecDepth 20000 in
theorem fg_X12_7_12 : FG RX12 7 12 3 := ⟨_, _, _, "HomeByFourModel", rfl, by decide, okB (by decide +kernel), Or.inl rfl⟩
set_option maxRecDepth 20000 in
theorem fr_X12_7_12 : FR RX12 7 12 3 (.array (.int)) true := ⟨_, _, _, "HomeByFourModel", rfl, by decide, okB (by decide +kernel), Or.inl rfl, by decide +kernel, rfl, fun _ => rfl⟩
set_option maxRecDepth 20000 in
theorem fg_X12_13_12 : FG RX12 13 12 4 := ⟨_, _, _, "HomeByFourModel", rfl, by decide, okB (by decide +kernel), Or.inl rfl⟩
set_option maxRecDepth 20000 in
theorem fr_X12_13_12 : FR RX12 13 12 4 (.array (.int)) true := ⟨_, _, _, "HomeByFourModel", rfl, by decide, okB (by decide +kernel), Or.inl rfl, by decide +kernel, rfl, fun _ => rfl⟩
set_option maxRecDepth 20000 in
theorem fg_X12_16_12 : FG RX12 16 12 5 := ⟨_, _, _, "HomeByFourModel", rfl, by decide, okB (by decide +kernel), Or.inl rfl⟩
set_option maxRecDepth 20000 in
theorem fr_X12_16_12 : FR RX12 16 12 5 (.array (.int)) true := ⟨_, _, _, "HomeByFourModel", rfl, by decide, okB (by decide +kernel), Or.inl rfl, by decide +kernel, rfl, fun _ => rfl⟩
set_option maxRecDepth 20000 in
theorem fg_X12_19_12 : FG RX12 19 12 6 := ⟨_, _, _, "HomeByFourModel", rfl, by decide, okB (by decide +kernel), Or.inl rfl⟩
set_option maxRecDepth 20000 in
theorem fr_X12_19_12 : FR RX12 19 12 6 (.array (.int)) true := ⟨_, _, _, "HomeByFourModel", rfl, by decide, okB (by decide +kernel), Or.inl rfl, by decide +kernel, rfl, fun _ => rfl⟩
set_option maxRecDepth 20000 in
theorem fg_X12_22_12 : FG RX12 22 12 7 := ⟨_, _, _, "HomeByFourModel", rfl, by decide, okB (by decide +kernel), Or.inl rfl⟩
set_option maxRecDepth 20000 in
theorem fr_X12_22_12 : FR RX12 22 12 7 (.array (.int)) true := ⟨_, _, _, "HomeByFourModel", rfl, by decide, okB (by decide +kernel), Or.inl rfl, by decide +kernel, rfl, fun _ => rfl⟩
set_option maxRecDepth 20000 in
theorem fg_X12_25_12 : FG RX12 25 12 8 := ⟨_, _, _, "HomeByFourModel", rfl, by decide, okB (by decide +kernel), Or.inl rfl⟩
set_option maxRecDepth 20000 in
theorem fr_X12_25_12 : FR RX12 25 12 8 (.array (.int)) true := ⟨_, _, _, "HomeByFourModel", rfl, by decide, okB (by decide +kernel), Or.inl rfl, by decide +kernel, rfl, fun _ => rfl⟩
set_option maxRecDepth 20000 in
theorem fg_X12_28_12 : FG RX12 28 12 16 := ⟨_, _, _, "HomeByFourModel", rfl, by decide, okB (by decide +kernel), Or.inl rfl⟩
set_option maxRecDepth 20000 in
theorem fr_X12_28_12 : FR RX12 28 12 16 (.array (.int)) true := ⟨_, _, _, "HomeByFourModel", rfl, by decide, okB (by decide +kernel), Or.inl rfl, by decide +kernel, rfl, fun _ => rfl⟩
set_option maxRecDepth 20000 in
theorem fg_X12_31_12 : FG RX12 31 12 17 := ⟨_, _, _, "HomeByFourModel", rfl, by decide, okB (by decide +kernel), Or.inl rfl⟩
set_option maxRecDepth 20000 in
theorem fr_X12_31_12 : FR RX12 31 12 17 (.array (.int)) true := ⟨_, _, _, "HomeByFourModel", rfl, by decide, okB (by decide +kernel), Or.inl rfl, by decide +kernel, rfl, fun _ => rfl⟩
set_option maxRecDepth 20000 in
theorem fg_X12_34_12 : FG RX12 34 12 18 := ⟨_, _, _, "HomeByFourModel", rfl, by decide, okB (by decide +kernel), Or.inl rfl⟩
set_option maxRecDepth 20000 in
theorem fr_X12_34_12 : FR RX12 34 12 18 (.array (.int)) true := ⟨_, _, _, "HomeByFourModel", rfl, by decide, okB (by decide +kernel), Or.inl rfl, by decide +kernel, rfl, fun _ => rfl⟩
set_option maxRecDepth 20000 in
theorem fg_X12_37_12 : FG RX12 37 12 19 := ⟨_, _, _, "HomeByFourModel", rfl, by decide, okB (by decide +kernel), Or.inl rfl⟩
set_option maxRecDepth 20000 in
theorem fr_X12_37_12 : FR RX12 37 12 19 (.array (.int)) true := ⟨_, _, _, "HomeByFourModel", rfl, by decide, okB (by decide +kernel), Or.inl rfl, by decide +kernel, rfl, fun _ => rfl⟩
set_option maxRecDepth 20000 in
theorem fg_X12_40_12 : FG RX12 40 12 20 := ⟨_, _, _, "HomeByFourModel", rfl, by decide, okB (by decide +kernel), Or.inl rfl⟩
set_option maxRecDepth 20000 in
theorem fr_X12_40_12 : FR RX12 40 12 20 (.array (.int)) true := ⟨_, _, _, "HomeByFourModel", rfl, by decide, okB (by decide +kernel), Or.inl rfl, by decide +kernel, rfl, fun _ => rfl⟩
set_option maxRecDepth 20000 in
theorem fg_X12_43_12 : FG RX12 43 12 21 := ⟨_, _, _, "HomeByFourModel", rfl, by decide, okB (by decide +kernel), Or.inl rfl⟩
set_option maxRecDepth 20000 in
theorem fr_X12_43_12 : FR RX12 43 12 21 (.array (.int)) true := ⟨_, _, _, "HomeByFourModel", rfl, by decide, okB (by decide +kernel), Or.inl rfl, by decide +kernel, rfl, fun _ => rfl⟩
set_option maxRecDepth 20000 in
theorem fg_X12_46_12 : FG RX12 46 12 22 := ⟨_, _, _, "HomeByFourModel", rfl, by decide, okB (by decide +kernel), Or.inl rfl⟩
set_option maxRecDepth 20000 in
theorem fr_X12_46_12 : FR RX12 46 12 22 (.array (.int)) true := ⟨_, _, _, "HomeByFourModel", rfl, by decide, okB (by decide +kernel), Or.inl rfl, by decide +kernel, rfl, fun _ => rfl⟩
set_option maxRecDepth 20000 in
theorem fg_X12_49_12 : FG RX12 49 12 24 := ⟨_, _, _, "HomeByFourModel", rfl, by decide, okB (by decide +kernel), Or.inl rfl⟩
set_option maxRecDepth 20000 in
theorem fr_X12_49_12 : FR RX12 49 12 24 (.array (.int)) true := ⟨_, _, _, "HomeByFourModel", rfl, by decide, okB (by decide +kernel), Or.inl rfl, by decide +kernel, rfl, fun _ => rfl⟩
set_option maxRecDepth 20000 in
theorem fg_X12_52_12 : FG RX12 52 12 25 := ⟨_, _, _, "HomeByFourModel", rfl, by decide, okB (by decide +kernel), Or.inl rfl⟩
set_option maxRecDepth 20000 in
theorem fr_X12_52_12 : FR RX12 52 12 25 (.array (.int)) true := ⟨_, _, _, "HomeByFourModel", rfl, by decide, okB (by decide +kernel), Or.inl rfl, by decide +kernel, rfl, fun _ => rfl⟩
set_option maxRecDepth 20000 in
theorem fg_X12_55_12 : FG RX12 55 12 27 := ⟨_, _, _, "HomeByFourModel", rfl, by decide, okB (by decide +kernel), Or.inl rfl⟩
set_option maxRecDepth 20000 in
theorem fr_X12_55_12 : FR RX12 55 12 27 (.array (.int)) true := ⟨_, _, _, "HomeByFourModel", rfl, by decide, okB (by decide +kernel), Or.inl rfl, by decide +kernel, rfl, fun _ => rfl⟩
set_option maxRecDepth 20000 in
theorem fg_X12_58_12 : FG RX12 58 12 31 := ⟨_, _, _, "HomeByFourModel", rfl, by decide, okB (by decide +kernel), Or.inl rfl⟩
set_option maxRecDepth 20000 in
theorem fr_X12_58_12 : FR RX12 58 12 31 (.array (.int)) true := ⟨_, _, _, "HomeByFourModel", rfl, by decide, okB (by decide +kernel), Or.inl rfl, by decide +kernel, rfl, fun _ => rfl⟩
set_option maxRecDepth 20000 in
theorem fg_X12_61_12 : FG RX12 61 12 32 := ⟨_, _, _, "HomeByFourModel", rfl, by decide, okB (by decide +kernel), Or.inl rfl⟩
set_option maxRecDepth 20000 in
theorem fr_X12_61_12 : FR RX12 61 12 32 (.array (.boolean)) true := ⟨_, _, _, "HomeByFourModel", rfl, by decide, okB (by decide +kernel), Or.inl rfl, by decide +kernel, rfl, fun _ => rfl⟩
set_option maxRecDepth 20000 in
theorem fg_X12_65_12 : FG RX12 65 12 33 := ⟨_, _, _, "HomeByFourModel", rfl, by decide, okB (by decide +kernel), Or.inl rfl⟩
set_option maxRecDepth 20000 in
theorem fr_X12_65_12 : FR RX12 65 12 33 (.array (.long)) true := ⟨_, _, _, "HomeByFourModel", rfl, by decide, okB (by decide +kernel), Or.inl rfl, by decide +kernel, rfl, fun _ => rfl⟩
set_option maxRecDepth 20000 in
theorem fg_X12_69_12 : FG RX12 69 12 34 := ⟨_, _, _, "HomeByFourModel", rfl, by decide, okB (by decide +kernel), Or.inl rfl⟩
set_option maxRecDepth 20000 in
theorem fr_X12_69_12 : FR RX12 69 12 34 (.array (.long)) true := ⟨_, _, _, "HomeByFourModel", rfl, by decide, okB (by decide +kernel), Or.inl rfl, by decide +kernel, rfl, fun _ => rfl⟩
set_option maxRecDepth 20000 in
theorem fg_X12_72_12 : FG RX12 72 12 35 := ⟨_, _, _, "HomeByFourModel", rfl, by decide, okB (by decide +kernel), Or.inl rfl⟩
set_option maxRecDepth 20000 in
theorem fr_X12_72_12 : FR RX12 72 12 35 (.array (.int)) true := ⟨_, _, _, "HomeByFourModel", rfl, by decide, okB (by decide +kernel), Or.inl rfl, by decide +kernel, rfl, fun _ => rfl⟩
set_option maxRecDepth 20000 in
theorem fg_X12_75_12 : FG RX12 75 12 36 := ⟨_, _, _, "HomeByFourModel", rfl, by decide, okB (by decide +kernel), Or.inl rfl⟩
set_option maxRecDepth 20000 in
theorem fr_X12_75_12 : FR RX12 75 12 36 (.array (.int)) true := ⟨_, _, _, "HomeByFourModel", rfl, by decide, okB (by decide +kernel), Or.inl rfl, by decide +kernel, rfl, fun _ => rfl⟩
set_option maxRecDepth 20000 in
theorem fg_X12_78_12 : FG RX12 78 12 37 := ⟨_, _, _, "HomeByFourModel", rfl, by decide, okB (by decide +kernel), Or.inl rfl⟩
set_option maxRecDepth 20000 in
theorem fr_X12_78_12 : FR RX12 78 12 37 (.array (.int)) true := ⟨_, _, _, "HomeByFourModel", rfl, by decide, okB (by decide +kernel), Or.inl rfl, by decide +kernel, rfl, fun _ => rfl⟩
set_option maxRecDepth 20000 in
theorem fg_X12_81_12 : FG RX12 81 12 38 := ⟨_, _, _, "HomeByFourModel", rfl, by decide, okB (by decide +kernel), Or.inl rfl⟩
set_option maxRecDepth 20000 in
theorem fr_X12_81_12 : FR RX12 81 12 38 (.array (.int)) true := ⟨_, _, _, "HomeByFourModel", rfl, by decide, okB (by decide +kernel), Or.inl rfl, by decide +kernel, rfl, fun _ => rfl⟩
set_option maxRecDepth 20000 in
theorem wl_X12_84 : Cond.constantLong RX12 84 (-9223372036854775808) ∈ BIG := okB (by decide +kernel)
set_option maxRecDepth 20000 in
theorem fg_X12_86_12 : FG RX12 86 12 0 := ⟨_, _, _, "HomeByFourModel", rfl, by decide, okB (by decide +kernel), Or.inl rfl⟩
set_option maxRecDepth 20000 in
theorem fr_X12_86_12 : FR RX12 86 12 0 (.int) false := ⟨_, _, _, "HomeByFourModel", rfl, by decide, okB (by decide +kernel), Or.inl rfl, by decide +kernel, rfl, fun h => absurd h (by decide)⟩
set_option maxRecDepth 20000 in
theorem ck_X12_lost : CK mX12_lost := ⟨okB (by decide +kernel), okB (by decide +kernel), by decide, by decide +kernel, by decide +kernel⟩
set_option maxRecDepth 20000 in
theorem cs_X12_90 : CS RX12 90 0 mX12_lost := ⟨ck_X12_lost, Or.inl (okB (by decide +kernel)), okB (by decide +kernel), by decide +kernel⟩
set_option maxRecDepth 20000 in
theorem fg_X12_94_12 : FG RX12 94 12 1 := ⟨_, _, _, "HomeByFourModel", rfl, by decide, okB (by decide +kernel), Or.inl rfl⟩
set_option maxRecDepth 20000 in
theorem fr_X12_94_12 : FR RX12 94 12 1 (.int) false := ⟨_, _, _, "HomeByFourModel", rfl, by decide, okB (by decide +kernel), Or.inl rfl, by decide +kernel, rfl, fun h => absurd h (by decide)⟩
set_option maxRecDepth 20000 in
theorem ck_X12_in : CK mX12_in := ⟨okB (by decide +kernel), okB (by decide +kernel), by decide, by decide +kernel, by decide +kernel⟩
set_option maxRecDepth 20000 in
theorem cs_X12_97 : CS RX12 97 3 mX12_in := ⟨ck_X12_in, Or.inl (okB (by decide +kernel)), okB (by decide +kernel), by decide +kernel⟩
set_option maxRecDepth 20000 in
theorem fg_X12_101_12 : FG RX12 101 12 2 := ⟨_, _, _, "HomeByFourModel", rfl, by decide, okB (by decide +kernel), Or.inl rfl⟩
set_option maxRecDepth 20000 in
theorem fr_X12_101_12 : FR RX12 101 12 2 (.int) false := ⟨_, _, _, "HomeByFourModel", rfl, by decide, okB (by decide +kernel), Or.inl rfl, by decide +kernel, rfl, fun h => absurd h (by decide)⟩
set_option maxRecDepth 20000 in
theorem fg_X12_104_12 : FG RX12 104 12 13 := ⟨_, _, _, "HomeByFourModel", rfl, by decide, okB (by decide +kernel), Or.inl rfl⟩
set_option maxRecDepth 20000 in
theorem fr_X12_104_12 : FR RX12 104 12 13 (.int) false := ⟨_, _, _, "HomeByFourModel", rfl, by decide, okB (by decide +kernel), Or.inl rfl, by decide +kernel, rfl, fun h => absurd h (by decide)⟩
set_option maxRecDepth 20000 in
theorem ck_X12_codeAt : CK mX12_codeAt := ⟨okB (by decide +kernel), okB (by decide +kernel), by decide, by decide +kernel, by decide +kernel⟩
set_option maxRecDepth 20000 in
theorem cv_X12_107 : CV RX12 107 12 2 mX12_codeAt := ⟨ck_X12_codeAt, _, _, _, rfl, rfl, okB (by decide +kernel), okB (by decide +kernel), okB (by decide +kernel), by decide +kernel⟩
set_option maxRecDepth 20000 in
theorem fg_X12_111_12 : FG RX12 111 12 15 := ⟨_, _, _, "HomeByFourModel", rfl, by decide, okB (by decide +kernel), Or.inl rfl⟩
set_option maxRecDepth 20000 in
theorem fr_X12_111_12 : FR RX12 111 12 15 (.int) false := ⟨_, _, _, "HomeByFourModel", rfl, by decide, okB (by decide +kernel), Or.inl rfl, by decide +kernel, rfl, fun h => absurd h (by decide)⟩
set_option maxRecDepth 20000 in
theorem fg_X12_114_12 : FG RX12 114 12 14 := ⟨_, _, _, "HomeByFourModel", rfl, by decide, okB (by decide +kernel), Or.inl rfl⟩
set_option maxRecDepth 20000 in
theorem fr_X12_114_12 : FR RX12 114 12 14 (.int) false := ⟨_, _, _, "HomeByFourModel", rfl, by decide, okB (by decide +kernel), Or.inl rfl, by decide +kernel, rfl, fun h => absurd h (by decide)⟩
set_option maxRecDepth 20000 in
theorem ck_X12_figure : CK mX12_figure := ⟨okB (by decide +kernel), okB (by decide +kernel), by decide, by decide +kernel, by decide +kernel⟩
set_option maxRecDepth 20000 in
theorem cv_X12_117 : CV RX12 117 12 5 mX12_figure := ⟨ck_X12_figure, _, _, _, rfl, rfl, okB (by decide +kernel), okB (by decide +kernel), okB (by decide +kernel), by decide +kernel⟩
set_option maxRecDepth 20000 in
theorem ck_X12_readsStretch : CK mX12_readsStretch := ⟨okB (by decide +kernel), okB (by decide +kernel), by decide, by decide +kernel, by decide +kernel⟩
set_option maxRecDepth 20000 in
theorem cv_X12_121 : CV RX12 121 12 2 mX12_readsStretch := ⟨ck_X12_readsStretch, _, _, _, rfl, rfl, okB (by decide +kernel), okB (by decide +kernel), okB (by decide +kernel), by decide +kernel⟩
set_option maxRecDepth 20000 in
theorem ck_X12_failed : CK mX12_failed := ⟨okB (by decide +kernel), okB (by decide +kernel), by decide, by decide +kernel, by decide +kernel⟩
set_option maxRecDepth 20000 in
theorem cv_X12_125 : CV RX12 125 12 1 mX12_failed := ⟨ck_X12_failed, _, _, _, rfl, rfl, okB (by decide +kernel), okB (by decide +kernel), okB (by decide +kernel), by decide +kernel⟩
set_option maxRecDepth 20000 in
theorem ck_X12_isBeyond : CK mX12_isBeyond := ⟨okB (by decide +kernel), okB (by decide +kernel), by decide, by decide +kernel, by decide +kernel⟩
set_option maxRecDepth 20000 in
theorem cs_X12_129 : CS RX12 129 3 mX12_isBeyond := ⟨ck_X12_isBeyond, Or.inl (okB (by decide +kernel)), okB (by decide +kernel), by decide +kernel⟩
set_option maxRecDepth 20000 in
theorem ck_X12_noSheet : CK mX12_noSheet := ⟨okB (by decide +kernel), okB (by decide +kernel), by decide, by decide +kernel, by decide +kernel⟩
set_option maxRecDepth 20000 in
theorem cs_X12_133 : CS RX12 133 1 mX12_noSheet := ⟨ck_X12_noSheet, Or.inl (okB (by decide +kernel)), okB (by decide +kernel), by decide +kernel⟩
set_option maxRecDepth 20000 in
theorem ck_X12_refused : CK mX12_refused := ⟨okB (by decide +kernel), okB (by decide +kernel), by decide, by decide +kernel, by decide +kernel⟩
set_option maxRecDepth 20000 in
theorem cv_X12_137 : CV RX12 137 12 1 mX12_refused := ⟨ck_X12_refused, _, _, _, rfl, rfl, okB (by decide +kernel), okB (by decide +kernel), okB (by decide +kernel), by decide +kernel⟩
set_option maxRecDepth 20000 in
theorem wl_X12_140 : Cond.constantLong RX12 140 (2) ∈ BIG := okB (by decide +kernel)
set_option maxRecDepth 20000 in
theorem ck_X12_cellsBarred : CK mX12_cellsBarred := ⟨okB (by decide +kernel), okB (by decide +kernel), by decide, by decide +kernel, by decide +kernel⟩
set_option maxRecDepth 20000 in
theorem cv_X12_142 : CV RX12 142 12 4 mX12_cellsBarred := ⟨ck_X12_cellsBarred, _, _, _, rfl, rfl, okB (by decide +kernel), okB (by decide +kernel), okB (by decide +kernel), by decide +kernel⟩
set_option maxRecDepth 20000 in
theorem ck_X12_readsNet : CK mX12_readsNet := ⟨okB (by decide +kernel), okB (by decide +kernel), by decide, by decide +kernel, by decide +kernel⟩
set_option maxRecDepth 20000 in
theorem cv_X12_146 : CV RX12 146 12 2 mX12_readsNet := ⟨ck_X12_readsNet, _, _, _, rfl, rfl, okB (by decide +kernel), okB (by decide +kernel), okB (by decide +kernel), by decide +kernel⟩
set_option maxRecDepth 20000 in
theorem fg_X12_149_12 : FG RX12 149 12 9 := ⟨_, _, _, "HomeByFourModel", rfl, by decide, okB (by decide +kernel), Or.inl rfl⟩
set_option maxRecDepth 20000 in
theorem fr_X12_149_12 : FR RX12 149 12 9 (.int) false := ⟨_, _, _, "HomeByFourModel", rfl, by decide, okB (by decide +kernel), Or.inl rfl, by decide +kernel, rfl, fun h => absurd h (by decide)⟩
set_option maxRecDepth 20000 in
theorem fg_X12_152_12 : FG RX12 152 12 10 := ⟨_, _, _, "HomeByFourModel", rfl, by decide, okB (by decide +kernel), Or.inl rfl⟩
set_option maxRecDepth 20000 in
theorem fr_X12_152_12 : FR RX12 152 12 10 (.int) false := ⟨_, _, _, "HomeByFourModel", rfl, by decide, okB (by decide +kernel), Or.inl rfl, by decide +kernel, rfl, fun h => absurd h (by decide)⟩
set_option maxRecDepth 20000 in
theorem fg_X12_155_12 : FG RX12 155 12 11 := ⟨_, _, _, "HomeByFourModel", rfl, by decide, okB (by decide +kernel), Or.inl rfl⟩
set_option maxRecDepth 20000 in
theorem fr_X12_155_12 : FR RX12 155 12 11 (.int) false := ⟨_, _, _, "HomeByFourModel", rfl, by decide, okB (by decide +kernel), Or.inl rfl, by decide +kernel, rfl, fun h => absurd h (by decide)⟩
set_option maxRecDepth 20000 in
theorem fg_X12_158_12 : FG RX12 158 12 12 := ⟨_, _, _, "HomeByFourModel", rfl, by decide, okB (by decide +kernel), Or.inl rfl⟩
set_option maxRecDepth 20000 in
theorem fr_X12_158_12 : FR RX12 158 12 12 (.int) false := ⟨_, _, _, "HomeByFourModel", rfl, by decide, okB (by decide +kernel), Or.inl rfl, by decide +kernel, rfl, fun h => absurd h (by decide)⟩
set_option maxRecDepth 20000 in
theorem fg_X12_161_12 : FG RX12 161 12 30 := ⟨_, _, _, "HomeByFourModel", rfl, by decide, okB (by decide +kernel), Or.inl rfl⟩
set_option maxRecDepth 20000 in
theorem fr_X12_161_12 : FR RX12 161 12 30 (.int) false := ⟨_, _, _, "HomeByFourModel", rfl, by decide, okB (by decide +kernel), Or.inl rfl, by decide +kernel, rfl, fun h => absurd h (by decide)⟩
set_option maxRecDepth 20000 in
theorem ck_X12_isShared : CK mX12_isShared := ⟨okB (by decide +kernel), okB (by decide +kernel), by decide, by decide +kernel, by decide +kernel⟩
set_option maxRecDepth 20000 in
theorem cv_X12_164 : CV RX12 164 12 1 mX12_isShared := ⟨ck_X12_isShared, _, _, _, rfl, rfl, okB (by decide +kernel), okB (by decide +kernel), okB (by decide +kernel), by decide +kernel⟩
set_option maxRecDepth 20000 in
theorem ck_X12_noStretch : CK mX12_noStretch := ⟨okB (by decide +kernel), okB (by decide +kernel), by decide, by decide +kernel, by decide +kernel⟩
set_option maxRecDepth 20000 in
theorem cv_X12_167 : CV RX12 167 12 1 mX12_noStretch := ⟨ck_X12_noStretch, _, _, _, rfl, rfl, okB (by decide +kernel), okB (by decide +kernel), okB (by decide +kernel), by decide +kernel⟩
set_option maxRecDepth 20000 in
theorem ck_X12_takesOf : CK mX12_takesOf := ⟨okB (by decide +kernel), okB (by decide +kernel), by decide, by decide +kernel, by decide +kernel⟩
set_option maxRecDepth 20000 in
theorem cv_X12_170 : CV RX12 170 12 1 mX12_takesOf := ⟨ck_X12_takesOf, _, _, _, rfl, rfl, okB (by decide +kernel), okB (by decide +kernel), okB (by decide +kernel), by decide +kernel⟩
set_option maxRecDepth 20000 in
theorem ck_X12_isIn : CK mX12_isIn := ⟨okB (by decide +kernel), okB (by decide +kernel), by decide, by decide +kernel, by decide +kernel⟩
set_option maxRecDepth 20000 in
theorem cs_X12_173 : CS RX12 173 2 mX12_isIn := ⟨ck_X12_isIn, Or.inl (okB (by decide +kernel)), okB (by decide +kernel), by decide +kernel⟩
set_option maxRecDepth 20000 in
theorem wl_X12_176 : Cond.constantLong RX12 176 (99) ∈ BIG := okB (by decide +kernel)
set_option maxRecDepth 20000 in
theorem ck_X12_noPlace : CK mX12_noPlace := ⟨okB (by decide +kernel), okB (by decide +kernel), by decide, by decide +kernel, by decide +kernel⟩
set_option maxRecDepth 20000 in
theorem cv_X12_178 : CV RX12 178 12 1 mX12_noPlace := ⟨ck_X12_noPlace, _, _, _, rfl, rfl, okB (by decide +kernel), okB (by decide +kernel), okB (by decide +kernel), by decide +kernel⟩
set_option maxRecDepth 20000 in
theorem ck_X12_goneBy : CK mX12_goneBy := ⟨okB (by decide +kernel), okB (by decide +kernel), by decide, by decide +kernel, by decide +kernel⟩
set_option maxRecDepth 20000 in
theorem cv_X12_181 : CV RX12 181 12 1 mX12_goneBy := ⟨ck_X12_goneBy, _, _, _, rfl, rfl, okB (by decide +kernel), okB (by decide +kernel), okB (by decide +kernel), by decide +kernel⟩
set_option maxRecDepth 20000 in
theorem ck_X12_sightsBy : CK mX12_sightsBy := ⟨okB (by decide +kernel), okB (by decide +kernel), by decide, by decide +kernel, by decide +kernel⟩
set_option maxRecDepth 20000 in
theorem cv_X12_184 : CV RX12 184 12 1 mX12_sightsBy := ⟨ck_X12_sightsBy, _, _, _, rfl, rfl, okB (by decide +kernel), okB (by decide +kernel), okB (by decide +kernel), by decide +kernel⟩
set_option maxRecDepth 20000 in
theorem ck_X12_minutesOf : CK mX12_minutesOf := ⟨okB (by decide +kernel), okB (by decide +kernel), by decide, by decide +kernel, by decide +kernel⟩
set_option maxRecDepth 20000 in
theorem cv_X12_187 : CV RX12 187 12 1 mX12_minutesOf := ⟨ck_X12_minutesOf, _, _, _, rfl, rfl, okB (by decide +kernel), okB (by decide +kernel), okB (by decide +kernel), by decide +kernel⟩
set_option maxRecDepth 20000 in
theorem ck_X12_costOf : CK mX12_costOf := ⟨okB (by decide +kernel), okB (by decide +kernel), by decide, by decide +kernel, by decide +kernel⟩
set_option maxRecDepth 20000 in
theorem cv_X12_190 : CV RX12 190 12 1 mX12_costOf := ⟨ck_X12_costOf, _, _, _, rfl, rfl, okB (by decide +kernel), okB (by decide +kernel), okB (by decide +kernel), by decide +kernel⟩
set_option maxRecDepth 20000 in
theorem ck_X12_safeOf : CK mX12_safeOf := ⟨okB (by decide +kernel), okB (by decide +kernel), by decide, by decide +kernel, by decide +kernel⟩
set_option maxRecDepth 20000 in
theorem cv_X12_193 : CV RX12 193 12 1 mX12_safeOf := ⟨ck_X12_safeOf, _, _, _, rfl, rfl, okB (by decide +kernel), okB (by decide +kernel), okB (by decide +kernel), by decide +kernel⟩
set_option maxRecDepth 20000 in
theorem ck_X12_goesTo : CK mX12_goesTo := ⟨okB (by decide +kernel), okB (by decide +kernel), by decide, by decide +kernel, by decide +kernel⟩
set_option maxRecDepth 20000 in
theorem cv_X12_196 : CV RX12 196 12 2 mX12_goesTo := ⟨ck_X12_goesTo, _, _, _, rfl, rfl, okB (by decide +kernel), okB (by decide +kernel), okB (by decide +kernel), by decide +kernel⟩
set_option maxRecDepth 20000 in
theorem fg_X12_199_12 : FG RX12 199 12 23 := ⟨_, _, _, "HomeByFourModel", rfl, by decide, okB (by decide +kernel), Or.inl rfl⟩
set_option maxRecDepth 20000 in
theorem fr_X12_199_12 : FR RX12 199 12 23 (.int) false := ⟨_, _, _, "HomeByFourModel", rfl, by decide, okB (by decide +kernel), Or.inl rfl, by decide +kernel, rfl, fun h => absurd h (by decide)⟩
set_option maxRecDepth 20000 in
theorem wl_X12_202 : Cond.constantLong RX12 202 (3) ∈ BIG := okB (by decide +kernel)
set_option maxRecDepth 20000 in
theorem ck_X12_readsWalk : CK mX12_readsWalk := ⟨okB (by decide +kernel), okB (by decide +kernel), by decide, by decide +kernel, by decide +kernel⟩
set_option maxRecDepth 20000 in
theorem cv_X12_204 : CV RX12 204 12 2 mX12_readsWalk := ⟨ck_X12_readsWalk, _, _, _, rfl, rfl, okB (by decide +kernel), okB (by decide +kernel), okB (by decide +kernel), by decide +kernel⟩
set_option maxRecDepth 20000 in
theorem ck_X12_joyOf : CK mX12_joyOf := ⟨okB (by decide +kernel), okB (by decide +kernel), by decide, by decide +kernel, by decide +kernel⟩
set_option maxRecDepth 20000 in
theorem cv_X12_207 : CV RX12 207 12 1 mX12_joyOf := ⟨ck_X12_joyOf, _, _, _, rfl, rfl, okB (by decide +kernel), okB (by decide +kernel), okB (by decide +kernel), by decide +kernel⟩
set_option maxRecDepth 20000 in
theorem wl_X12_210 : Cond.constant RX12 210 (100000) ∈ BIG := okB (by decide +kernel)
set_option maxRecDepth 20000 in
theorem ck_X12_refusedLong : CK mX12_refusedLong := ⟨okB (by decide +kernel), okB (by decide +kernel), by decide, by decide +kernel, by decide +kernel⟩
set_option maxRecDepth 20000 in
theorem cv_X12_211 : CV RX12 211 12 0 mX12_refusedLong := ⟨ck_X12_refusedLong, _, _, _, rfl, rfl, okB (by decide +kernel), okB (by decide +kernel), okB (by decide +kernel), by decide +kernel⟩
set_option maxRecDepth 20000 in
theorem wl_X12_214 : Cond.constantLong RX12 214 (10) ∈ BIG := okB (by decide +kernel)
set_option maxRecDepth 20000 in
theorem ck_X12_safeBy : CK mX12_safeBy := ⟨okB (by decide +kernel), okB (by decide +kernel), by decide, by decide +kernel, by decide +kernel⟩
set_option maxRecDepth 20000 in
theorem cv_X12_216 : CV RX12 216 12 1 mX12_safeBy := ⟨ck_X12_safeBy, _, _, _, rfl, rfl, okB (by decide +kernel), okB (by decide +kernel), okB (by decide +kernel), by decide +kernel⟩
set_option maxRecDepth 20000 in
theorem ck_X12_told : CK mX12_told := ⟨okB (by decide +kernel), okB (by decide +kernel), by decide, by decide +kernel, by decide +kernel⟩
set_option maxRecDepth 20000 in
theorem cs_X12_220 : CS RX12 220 3 mX12_told := ⟨ck_X12_told, Or.inl (okB (by decide +kernel)), okB (by decide +kernel), by decide +kernel⟩
set_option maxRecDepth 20000 in
theorem wl_X12_224 : Cond.constant RX12 224 (99999) ∈ BIG := okB (by decide +kernel)
set_option maxRecDepth 20000 in
theorem ck_X12_laySoon : CK mX12_laySoon := ⟨okB (by decide +kernel), okB (by decide +kernel), by decide, by decide +kernel, by decide +kernel⟩
set_option maxRecDepth 20000 in
theorem cv_X12_225 : CV RX12 225 12 1 mX12_laySoon := ⟨ck_X12_laySoon, _, _, _, rfl, rfl, okB (by decide +kernel), okB (by decide +kernel), okB (by decide +kernel), by decide +kernel⟩
set_option maxRecDepth 20000 in
theorem fg_X12_229_12 : FG RX12 229 12 26 := ⟨_, _, _, "HomeByFourModel", rfl, by decide, okB (by decide +kernel), Or.inl rfl⟩
set_option maxRecDepth 20000 in
theorem fr_X12_229_12 : FR RX12 229 12 26 (.int) false := ⟨_, _, _, "HomeByFourModel", rfl, by decide, okB (by decide +kernel), Or.inl rfl, by decide +kernel, rfl, fun h => absurd h (by decide)⟩
set_option maxRecDepth 20000 in
theorem fg_X12_232_12 : FG RX12 232 12 28 := ⟨_, _, _, "HomeByFourModel", rfl, by decide, okB (by decide +kernel), Or.inl rfl⟩
set_option maxRecDepth 20000 in
theorem fr_X12_232_12 : FR RX12 232 12 28 (.int) false := ⟨_, _, _, "HomeByFourModel", rfl, by decide, okB (by decide +kernel), Or.inl rfl, by decide +kernel, rfl, fun h => absurd h (by decide)⟩
set_option maxRecDepth 20000 in
theorem fg_X12_235_12 : FG RX12 235 12 29 := ⟨_, _, _, "HomeByFourModel", rfl, by decide, okB (by decide +kernel), Or.inl rfl⟩
set_option maxRecDepth 20000 in
theorem fr_X12_235_12 : FR RX12 235 12 29 (.long) false := ⟨_, _, _, "HomeByFourModel", rfl, by decide, okB (by decide +kernel), Or.inl rfl, by decide +kernel, rfl, fun h => absurd h (by decide)⟩
set_option maxRecDepth 20000 in
theorem ck_X12_beginRows : CK mX12_beginRows := ⟨okB (by decide +kernel), okB (by decide +kernel), by decide, by decide +kernel, by decide +kernel⟩
set_option maxRecDepth 20000 in
theorem cv_X12_239 : CV RX12 239 12 0 mX12_beginRows := ⟨ck_X12_beginRows, _, _, _, rfl, rfl, okB (by decide +kernel), okB (by decide +kernel), okB (by decide +kernel), by decide +kernel⟩
set_option maxRecDepth 20000 in
theorem ck_X12_nextRow : CK mX12_nextRow := ⟨okB (by decide +kernel), okB (by decide +kernel), by decide, by decide +kernel, by decide +kernel⟩
set_option maxRecDepth 20000 in
theorem cv_X12_242 : CV RX12 242 12 1 mX12_nextRow := ⟨ck_X12_nextRow, _, _, _, rfl, rfl, okB (by decide +kernel), okB (by decide +kernel), okB (by decide +kernel), by decide +kernel⟩
set_option maxRecDepth 20000 in
theorem ck_X12_partsOf : CK mX12_partsOf := ⟨okB (by decide +kernel), okB (by decide +kernel), by decide, by decide +kernel, by decide +kernel⟩
set_option maxRecDepth 20000 in
theorem cv_X12_245 : CV RX12 245 12 1 mX12_partsOf := ⟨ck_X12_partsOf, _, _, _, rfl, rfl, okB (by decide +kernel), okB (by decide +kernel), okB (by decide +kernel), by decide +kernel⟩
set_option maxRecDepth 20000 in
theorem ck_X12_keepRow : CK mX12_keepRow := ⟨okB (by decide +kernel), okB (by decide +kernel), by decide, by decide +kernel, by decide +kernel⟩
set_option maxRecDepth 20000 in
theorem cv_X12_248 : CV RX12 248 12 2 mX12_keepRow := ⟨ck_X12_keepRow, _, _, _, rfl, rfl, okB (by decide +kernel), okB (by decide +kernel), okB (by decide +kernel), by decide +kernel⟩
set_option maxRecDepth 20000 in
theorem wl_X12_252 : Cond.constantLong RX12 252 (5) ∈ BIG := okB (by decide +kernel)
set_option maxRecDepth 20000 in
theorem wl_X12_254 : Cond.constantLong RX12 254 (-1) ∈ BIG := okB (by decide +kernel)
set_option maxRecDepth 20000 in
theorem wl_X12_256 : Cond.constantLong RX12 256 (4) ∈ BIG := okB (by decide +kernel)
set_option maxRecDepth 20000 in
theorem ck_X12_refusedFor : CK mX12_refusedFor := ⟨okB (by decide +kernel), okB (by decide +kernel), by decide, by decide +kernel, by decide +kernel⟩
set_option maxRecDepth 20000 in
theorem cv_X12_258 : CV RX12 258 12 2 mX12_refusedFor := ⟨ck_X12_refusedFor, _, _, _, rfl, rfl, okB (by decide +kernel), okB (by decide +kernel), okB (by decide +kernel), by decide +kernel⟩
set_option maxRecDepth 20000 in
theorem ck_X12_seek : CK mX12_seek := ⟨okB (by decide +kernel), okB (by decide +kernel), by decide, by decide +kernel, by decide +kernel⟩
set_option maxRecDepth 20000 in
theorem cv_X12_261 : CV RX12 261 12 2 mX12_seek := ⟨ck_X12_seek, _, _, _, rfl, rfl, okB (by decide +kernel), okB (by decide +kernel), okB (by decide +kernel), by decide +kernel⟩
set_option maxRecDepth 20000 in
theorem ck_X12_toldBest : CK mX12_toldBest := ⟨okB (by decide +kernel), okB (by decide +kernel), by decide, by decide +kernel, by decide +kernel⟩
set_option maxRecDepth 20000 in
theorem cv_X12_265 : CV RX12 265 12 1 mX12_toldBest := ⟨ck_X12_toldBest, _, _, _, rfl, rfl, okB (by decide +kernel), okB (by decide +kernel), okB (by decide +kernel), by decide +kernel⟩
set_option maxRecDepth 20000 in
theorem wl_X12_268 : Cond.constantLong RX12 268 (200) ∈ BIG := okB (by decide +kernel)
set_option maxRecDepth 20000 in
theorem ck_X12_areSo : CK mX12_areSo := ⟨okB (by decide +kernel), okB (by decide +kernel), by decide, by decide +kernel, by decide +kernel⟩
set_option maxRecDepth 20000 in
theorem cv_X12_270 : CV RX12 270 12 1 mX12_areSo := ⟨ck_X12_areSo, _, _, _, rfl, rfl, okB (by decide +kernel), okB (by decide +kernel), okB (by decide +kernel), by decide +kernel⟩
set_option maxRecDepth 20000 in
theorem ck_X12_openAt : CK mX12_openAt := ⟨okB (by decide +kernel), okB (by decide +kernel), by decide, by decide +kernel, by decide +kernel⟩
set_option maxRecDepth 20000 in
theorem cv_X12_273 : CV RX12 273 12 1 mX12_openAt := ⟨ck_X12_openAt, _, _, _, rfl, rfl, okB (by decide +kernel), okB (by decide +kernel), okB (by decide +kernel), by decide +kernel⟩
set_option maxRecDepth 20000 in
theorem wl_X12_276 : Cond.constantLong RX12 276 (2520) ∈ BIG := okB (by decide +kernel)
set_option maxRecDepth 20000 in
theorem ck_X12_goDawdling : CK mX12_goDawdling := ⟨okB (by decide +kernel), okB (by decide +kernel), by decide, by decide +kernel, by decide +kernel⟩
set_option maxRecDepth 20000 in
theorem cv_X12_278 : CV RX12 278 12 0 mX12_goDawdling := ⟨ck_X12_goDawdling, _, _, _, rfl, rfl, okB (by decide +kernel), okB (by decide +kernel), okB (by decide +kernel), by decide +kernel⟩
set_option maxRecDepth 20000 in
theorem ck_X12_noCell : CK mX12_noCell := ⟨okB (by decide +kernel), okB (by decide +kernel), by decide, by decide +kernel, by decide +kernel⟩
set_option maxRecDepth 20000 in
theorem cv_X12_281 : CV RX12 281 12 2 mX12_noCell := ⟨ck_X12_noCell, _, _, _, rfl, rfl, okB (by decide +kernel), okB (by decide +kernel), okB (by decide +kernel), by decide +kernel⟩
set_option maxRecDepth 20000 in
theorem ck_X12_failedLong : CK mX12_failedLong := ⟨okB (by decide +kernel), okB (by decide +kernel), by decide, by decide +kernel, by decide +kernel⟩
set_option maxRecDepth 20000 in
theorem cv_X12_284 : CV RX12 284 12 1 mX12_failedLong := ⟨ck_X12_failedLong, _, _, _, rfl, rfl, okB (by decide +kernel), okB (by decide +kernel), okB (by decide +kernel), by decide +kernel⟩
set_option maxRecDepth 20000 in
theorem fg_X12_287_12 : FG RX12 287 12 39 := ⟨_, _, _, "HomeByFourModel", rfl, by decide, okB (by decide +kernel), Or.inl rfl⟩
set_option maxRecDepth 20000 in
theorem fr_X12_287_12 : FR RX12 287 12 39 (.int) false := ⟨_, _, _, "HomeByFourModel", rfl, by decide, okB (by decide +kernel), Or.inl rfl, by decide +kernel, rfl, fun h => absurd h (by decide)⟩
set_option maxRecDepth 20000 in
theorem ck_X12_traced : CK mX12_traced := ⟨okB (by decide +kernel), okB (by decide +kernel), by decide, by decide +kernel, by decide +kernel⟩
set_option maxRecDepth 20000 in
theorem cv_X12_290 : CV RX12 290 12 1 mX12_traced := ⟨ck_X12_traced, _, _, _, rfl, rfl, okB (by decide +kernel), okB (by decide +kernel), okB (by decide +kernel), by decide +kernel⟩
set_option maxRecDepth 20000 in
theorem wl_arr_int : Cond.arrayClass .int ∈ BIG := okB (by decide +kernel)
set_option maxRecDepth 20000 in
theorem wl_arr_long : Cond.arrayClass .long ∈ BIG := okB (by decide +kernel)
set_option maxRecDepth 20000 in
theorem wl_arr_boolean : Cond.arrayClass .boolean ∈ BIG := okB (by decide +kernel)
set_option maxRecDepth 20000 in
theorem as_3_5 : AS 3 5 := ⟨_, _, _, "HomeByFour$Sheet", rfl, rfl, Or.inl rfl⟩
set_option maxRecDepth 20000 in
theorem as_4_1 : AS 4 1 := ⟨_, _, _, "HomeByFour$Stretch", rfl, rfl, Or.inr (by decide +kernel)⟩
set_option maxRecDepth 20000 in
theorem as_4_6 : AS 4 6 := ⟨_, _, _, "HomeByFour$Stretch", rfl, rfl, Or.inr (by decide +kernel)⟩
set_option maxRecDepth 20000 in
theorem as_4_7 : AS 4 7 := ⟨_, _, _, "HomeByFour$Stretch", rfl, rfl, Or.inl rfl⟩
set_option maxRecDepth 20000 in
theorem as_5_10 : AS 5 10 := ⟨_, _, _, "HomeByFour$Walk", rfl, rfl, Or.inl rfl⟩
