set_option maxRecDepth 100000 in
theorem am_zk0 : am_zok 0 am_q0 am_w0 = true := by decide +kernel
set_option maxRecDepth 100000 in
theorem am_dk0 : am_dok cX0_init am_w0 := by unfold am_dok; decide +kernel
set_option maxRecDepth 100000 in
theorem am_zk1 : am_zok 1 am_q1 am_w1 = true := by decide +kernel
set_option maxRecDepth 100000 in
theorem am_dk1 : am_dok cX0_clear am_w1 := by unfold am_dok; decide +kernel
set_option maxRecDepth 100000 in
theorem am_zk2 : am_zok 2 am_q2 am_w2 = true := by decide +kernel
set_option maxRecDepth 100000 in
theorem am_dk2 : am_dok cX0_placeMark am_w2 := by unfold am_dok; decide +kernel
set_option maxRecDepth 100000 in
theorem am_zk3 : am_zok 3 am_q3 am_w3 = true := by decide +kernel
set_option maxRecDepth 100000 in
theorem am_dk3 : am_dok cX0_sideMark am_w3 := by unfold am_dok; decide +kernel
set_option maxRecDepth 100000 in
theorem am_zk4 : am_zok 4 am_q4 am_w4 = true := by decide +kernel
set_option maxRecDepth 100000 in
theorem am_dk4 : am_dok cX0_put am_w4 := by unfold am_dok; decide +kernel
set_option maxRecDepth 100000 in
theorem am_zk5 : am_zok 5 am_q5 am_w5 = true := by decide +kernel
set_option maxRecDepth 100000 in
theorem am_dk5 : am_dok cX0_isMarked am_w5 := by unfold am_dok; decide +kernel
set_option maxRecDepth 100000 in
theorem am_zk6 : am_zok 6 am_q6 am_w6 = true := by decide +kernel
set_option maxRecDepth 100000 in
theorem am_dk6 : am_dok cX0_kindOfWrong am_w6 := by unfold am_dok; decide +kernel
set_option maxRecDepth 100000 in
theorem am_zk7 : am_zok 7 am_q7 am_w7 = true := by decide +kernel
set_option maxRecDepth 100000 in
theorem am_dk7 : am_dok cX0_hasTooMany am_w7 := by unfold am_dok; decide +kernel
set_option maxRecDepth 100000 in
theorem am_zk8 : am_zok 8 am_q8 am_w8 = true := by decide +kernel
set_option maxRecDepth 100000 in
theorem am_dk8 : am_dok cX0_isOnAgain am_w8 := by unfold am_dok; decide +kernel
set_option maxRecDepth 100000 in
theorem am_zk9 : am_zok 9 am_q9 am_w9 = true := by decide +kernel
set_option maxRecDepth 100000 in
theorem am_dk9 : am_dok cX0_firstBegin am_w9 := by unfold am_dok; decide +kernel
set_option maxRecDepth 100000 in
theorem am_zk10 : am_zok 10 am_q10 am_w10 = true := by decide +kernel
set_option maxRecDepth 100000 in
theorem am_dk10 : am_dok cX0_freeMinutes am_w10 := by unfold am_dok; decide +kernel
set_option maxRecDepth 100000 in
theorem am_zk11 : am_zok 11 am_q11 am_w11 = true := by decide +kernel
set_option maxRecDepth 100000 in
theorem am_dk11 : am_dok cX1_init am_w11 := by unfold am_dok; decide +kernel
set_option maxRecDepth 100000 in
theorem am_zk12 : am_zok 12 am_q12 am_w12 = true := by decide +kernel
set_option maxRecDepth 100000 in
theorem am_dk12 : am_dok cX1_clear am_w12 := by unfold am_dok; decide +kernel
set_option maxRecDepth 100000 in
theorem am_zk13 : am_zok 13 am_q13 am_w13 = true := by decide +kernel
set_option maxRecDepth 100000 in
theorem am_dk13 : am_dok cX1_keep am_w13 := by unfold am_dok; decide +kernel
set_option maxRecDepth 100000 in
theorem am_zk14 : am_zok 14 am_q14 am_w14 = true := by decide +kernel
set_option maxRecDepth 100000 in
theorem am_dk14 : am_dok cX1_giveBack am_w14 := by unfold am_dok; decide +kernel
set_option maxRecDepth 100000 in
theorem am_zk15 : am_zok 15 am_q15 am_w15 = true := by decide +kernel
set_option maxRecDepth 100000 in
theorem am_dk15 : am_dok cX2_init am_w15 := by unfold am_dok; decide +kernel
set_option maxRecDepth 100000 in
theorem am_zk16 : am_zok 16 am_q16 am_w16 = true := by decide +kernel
set_option maxRecDepth 100000 in
theorem am_dk16 : am_dok cX2_buy am_w16 := by unfold am_dok; decide +kernel
set_option maxRecDepth 100000 in
theorem am_zk17 : am_zok 17 am_q17 am_w17 = true := by decide +kernel
set_option maxRecDepth 100000 in
theorem am_dk17 : am_dok cX2_trace am_w17 := by unfold am_dok; decide +kernel
set_option maxRecDepth 100000 in
theorem am_zk18 : am_zok 18 am_q18 am_w18 = true := by decide +kernel
set_option maxRecDepth 100000 in
theorem am_dk18 : am_dok cX3_init am_w18 := by unfold am_dok; decide +kernel
set_option maxRecDepth 100000 in
theorem am_zk19 : am_zok 19 am_q19 am_w19 = true := by decide +kernel
set_option maxRecDepth 100000 in
theorem am_dk19 : am_dok cX3_setDefaults am_w19 := by unfold am_dok; decide +kernel
set_option maxRecDepth 100000 in
theorem am_zk20 : am_zok 20 am_q20 am_w20 = true := by decide +kernel
set_option maxRecDepth 100000 in
theorem am_dk20 : am_dok cX3_copyFrom am_w20 := by unfold am_dok; decide +kernel
set_option maxRecDepth 100000 in
theorem am_zk21 : am_zok 21 am_q21 am_w21 = true := by decide +kernel
set_option maxRecDepth 100000 in
theorem am_dk21 : am_dok cX3_hasSlice am_w21 := by unfold am_dok; decide +kernel
set_option maxRecDepth 100000 in
theorem am_zk22 : am_zok 22 am_q22 am_w22 = true := by decide +kernel
set_option maxRecDepth 100000 in
theorem am_dk22 : am_dok cX3_isOnce am_w22 := by unfold am_dok; decide +kernel
set_option maxRecDepth 100000 in
theorem am_zk23 : am_zok 23 am_q23 am_w23 = true := by decide +kernel
set_option maxRecDepth 100000 in
theorem am_dk23 : am_dok cX3_nameOfSlice am_w23 := by unfold am_dok; decide +kernel
set_option maxRecDepth 100000 in
theorem am_zk24 : am_zok 24 am_q24 am_w24 = true := by decide +kernel
set_option maxRecDepth 100000 in
theorem am_dk24 : am_dok cX3_sliceNamed am_w24 := by unfold am_dok; decide +kernel
set_option maxRecDepth 100000 in
theorem am_zk25 : am_zok 25 am_q25 am_w25 = true := by decide +kernel
set_option maxRecDepth 100000 in
theorem am_dk25 : am_dok cX3_isGuestsName am_w25 := by unfold am_dok; decide +kernel
set_option maxRecDepth 100000 in
theorem am_zk26 : am_zok 26 am_q26 am_w26 = true := by decide +kernel
set_option maxRecDepth 100000 in
theorem am_dk26 : am_dok cX3_longestSlice am_w26 := by unfold am_dok; decide +kernel
set_option maxRecDepth 100000 in
theorem am_zk27 : am_zok 27 am_q27 am_w27 = true := by decide +kernel
set_option maxRecDepth 100000 in
theorem am_dk27 : am_dok cX3_minutesOfAll am_w27 := by unfold am_dok; decide +kernel
set_option maxRecDepth 100000 in
theorem am_zk28 : am_zok 28 am_q28 am_w28 = true := by decide +kernel
set_option maxRecDepth 100000 in
theorem am_dk28 : am_dok cX3_minutesByPlaces am_w28 := by unfold am_dok; decide +kernel
set_option maxRecDepth 100000 in
theorem am_zk29 : am_zok 29 am_q29 am_w29 = true := by decide +kernel
set_option maxRecDepth 100000 in
theorem am_dk29 : am_dok cX3_read am_w29 := by unfold am_dok; decide +kernel
set_option maxRecDepth 100000 in
theorem am_zk30 : am_zok 30 am_q30 am_w30 = true := by decide +kernel
set_option maxRecDepth 100000 in
theorem am_dk30 : am_dok cX3_readLine am_w30 := by unfold am_dok; decide +kernel
set_option maxRecDepth 100000 in
theorem am_zk31 : am_zok 31 am_q31 am_w31 = true := by decide +kernel
set_option maxRecDepth 100000 in
theorem am_dk31 : am_dok cX3_readSetting am_w31 := by unfold am_dok; decide +kernel
set_option maxRecDepth 100000 in
theorem am_zk32 : am_zok 32 am_q32 am_w32 = true := by decide +kernel
set_option maxRecDepth 100000 in
theorem am_dk32 : am_dok cX3_readBurn am_w32 := by unfold am_dok; decide +kernel
set_option maxRecDepth 100000 in
theorem am_zk33 : am_zok 33 am_q33 am_w33 = true := by decide +kernel
set_option maxRecDepth 100000 in
theorem am_dk33 : am_dok cX3_readSlice am_w33 := by unfold am_dok; decide +kernel
set_option maxRecDepth 100000 in
theorem am_zk34 : am_zok 34 am_q34 am_w34 = true := by decide +kernel
set_option maxRecDepth 100000 in
theorem am_dk34 : am_dok cX3_readGuest am_w34 := by unfold am_dok; decide +kernel
set_option maxRecDepth 100000 in
theorem am_zk35 : am_zok 35 am_q35 am_w35 = true := by decide +kernel
set_option maxRecDepth 100000 in
theorem am_dk35 : am_dok cX3_readSort am_w35 := by unfold am_dok; decide +kernel
set_option maxRecDepth 100000 in
theorem am_zk36 : am_zok 36 am_q36 am_w36 = true := by decide +kernel
set_option maxRecDepth 100000 in
theorem am_dk36 : am_dok cX3_takeNewName am_w36 := by unfold am_dok; decide +kernel
set_option maxRecDepth 100000 in
theorem am_zk37 : am_zok 37 am_q37 am_w37 = true := by decide +kernel
set_option maxRecDepth 100000 in
theorem am_dk37 : am_dok cX4_init am_w37 := by unfold am_dok; decide +kernel
set_option maxRecDepth 100000 in
theorem am_zk38 : am_zok 38 am_q38 am_w38 = true := by decide +kernel
set_option maxRecDepth 100000 in
theorem am_dk38 : am_dok cX4_begin am_w38 := by unfold am_dok; decide +kernel
set_option maxRecDepth 100000 in
theorem am_zk39 : am_zok 39 am_q39 am_w39 = true := by decide +kernel
set_option maxRecDepth 100000 in
theorem am_dk39 : am_dok cX4_cutRow am_w39 := by unfold am_dok; decide +kernel
