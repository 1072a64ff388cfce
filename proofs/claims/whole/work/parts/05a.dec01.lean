set_option maxRecDepth 100000 in
theorem am_zk40 : am_zok 40 am_q40 am_w40 = true := by decide +kernel
set_option maxRecDepth 100000 in
theorem am_dk40 : am_dok cX4_twoMasters am_w40 := by unfold am_dok; decide +kernel
set_option maxRecDepth 100000 in
theorem am_zk41 : am_zok 41 am_q41 am_w41 = true := by decide +kernel
set_option maxRecDepth 100000 in
theorem am_dk41 : am_dok cX4_masterTakes am_w41 := by unfold am_dok; decide +kernel
set_option maxRecDepth 100000 in
theorem am_zk42 : am_zok 42 am_q42 am_w42 = true := by decide +kernel
set_option maxRecDepth 100000 in
theorem am_dk42 : am_dok cX4_oneCook am_w42 := by unfold am_dok; decide +kernel
set_option maxRecDepth 100000 in
theorem am_zk43 : am_zok 43 am_q43 am_w43 = true := by decide +kernel
set_option maxRecDepth 100000 in
theorem am_dk43 : am_dok cX4_letStay am_w43 := by unfold am_dok; decide +kernel
set_option maxRecDepth 100000 in
theorem am_zk44 : am_zok 44 am_q44 am_w44 = true := by decide +kernel
set_option maxRecDepth 100000 in
theorem am_dk44 : am_dok cX4_putOnFree am_w44 := by unfold am_dok; decide +kernel
set_option maxRecDepth 100000 in
theorem am_zk45 : am_zok 45 am_q45 am_w45 = true := by decide +kernel
set_option maxRecDepth 100000 in
theorem am_dk45 : am_dok cX4_leastFree am_w45 := by unfold am_dok; decide +kernel
set_option maxRecDepth 100000 in
theorem am_zk46 : am_zok 46 am_q46 am_w46 = true := by decide +kernel
set_option maxRecDepth 100000 in
theorem am_dk46 : am_dok cX4_cookTakes am_w46 := by unfold am_dok; decide +kernel
set_option maxRecDepth 100000 in
theorem am_zk47 : am_zok 47 am_q47 am_w47 = true := by decide +kernel
set_option maxRecDepth 100000 in
theorem am_dk47 : am_dok cX4_mayGoOn am_w47 := by unfold am_dok; decide +kernel
set_option maxRecDepth 100000 in
theorem am_zk48 : am_zok 48 am_q48 am_w48 = true := by decide +kernel
set_option maxRecDepth 100000 in
theorem am_dk48 : am_dok cX4_liking am_w48 := by unfold am_dok; decide +kernel
set_option maxRecDepth 100000 in
theorem am_zk49 : am_zok 49 am_q49 am_w49 = true := by decide +kernel
set_option maxRecDepth 100000 in
theorem am_dk49 : am_dok cX4_sideToFry am_w49 := by unfold am_dok; decide +kernel
set_option maxRecDepth 100000 in
theorem am_zk50 : am_zok 50 am_q50 am_w50 = true := by decide +kernel
set_option maxRecDepth 100000 in
theorem am_dk50 : am_dok cX4_placeFor am_w50 := by unfold am_dok; decide +kernel
set_option maxRecDepth 100000 in
theorem am_zk51 : am_zok 51 am_q51 am_w51 = true := by decide +kernel
set_option maxRecDepth 100000 in
theorem am_dk51 : am_dok cX4_fry am_w51 := by unfold am_dok; decide +kernel
set_option maxRecDepth 100000 in
theorem am_zk52 : am_zok 52 am_q52 am_w52 = true := by decide +kernel
set_option maxRecDepth 100000 in
theorem am_dk52 : am_dok cX4_drawnMinutes am_w52 := by unfold am_dok; decide +kernel
set_option maxRecDepth 100000 in
theorem am_zk53 : am_zok 53 am_q53 am_w53 = true := by decide +kernel
set_option maxRecDepth 100000 in
theorem am_dk53 : am_dok cX4_nextDraw am_w53 := by unfold am_dok; decide +kernel
set_option maxRecDepth 100000 in
theorem am_zk54 : am_zok 54 am_q54 am_w54 = true := by decide +kernel
set_option maxRecDepth 100000 in
theorem am_dk54 : am_dok cX4_canBeDrawn am_w54 := by unfold am_dok; decide +kernel
set_option maxRecDepth 100000 in
theorem am_zk55 : am_zok 55 am_q55 am_w55 = true := by decide +kernel
set_option maxRecDepth 100000 in
theorem am_dk55 : am_dok cX4_slicesToDraw am_w55 := by unfold am_dok; decide +kernel
set_option maxRecDepth 100000 in
theorem am_zk56 : am_zok 56 am_q56 am_w56 = true := by decide +kernel
set_option maxRecDepth 100000 in
theorem am_dk56 : am_dok cX4_drawnSlice am_w56 := by unfold am_dok; decide +kernel
set_option maxRecDepth 100000 in
theorem am_zk57 : am_zok 57 am_q57 am_w57 = true := by decide +kernel
set_option maxRecDepth 100000 in
theorem am_dk57 : am_dok cX5_init am_w57 := by unfold am_dok; decide +kernel
set_option maxRecDepth 100000 in
theorem am_zk58 : am_zok 58 am_q58 am_w58 = true := by decide +kernel
set_option maxRecDepth 100000 in
theorem am_dk58 : am_dok cX5_clear am_w58 := by unfold am_dok; decide +kernel
set_option maxRecDepth 100000 in
theorem am_zk59 : am_zok 59 am_q59 am_w59 = true := by decide +kernel
set_option maxRecDepth 100000 in
theorem am_dk59 : am_dok cX5_copyFrom am_w59 := by unfold am_dok; decide +kernel
set_option maxRecDepth 100000 in
theorem am_zk60 : am_zok 60 am_q60 am_w60 = true := by decide +kernel
set_option maxRecDepth 100000 in
theorem am_dk60 : am_dok cX5_has am_w60 := by unfold am_dok; decide +kernel
set_option maxRecDepth 100000 in
theorem am_zk61 : am_zok 61 am_q61 am_w61 = true := by decide +kernel
set_option maxRecDepth 100000 in
theorem am_dk61 : am_dok cX5_bitsOf am_w61 := by unfold am_dok; decide +kernel
set_option maxRecDepth 100000 in
theorem am_zk62 : am_zok 62 am_q62 am_w62 = true := by decide +kernel
set_option maxRecDepth 100000 in
theorem am_dk62 : am_dok cX5_sideOf am_w62 := by unfold am_dok; decide +kernel
set_option maxRecDepth 100000 in
theorem am_zk63 : am_zok 63 am_q63 am_w63 = true := by decide +kernel
set_option maxRecDepth 100000 in
theorem am_dk63 : am_dok cX5_placeOf am_w63 := by unfold am_dok; decide +kernel
set_option maxRecDepth 100000 in
theorem am_zk64 : am_zok 64 am_q64 am_w64 = true := by decide +kernel
set_option maxRecDepth 100000 in
theorem am_dk64 : am_dok cX5_minutesOf am_w64 := by unfold am_dok; decide +kernel
set_option maxRecDepth 100000 in
theorem am_zk65 : am_zok 65 am_q65 am_w65 = true := by decide +kernel
set_option maxRecDepth 100000 in
theorem am_dk65 : am_dok cX5_beginOf am_w65 := by unfold am_dok; decide +kernel
set_option maxRecDepth 100000 in
theorem am_zk66 : am_zok 66 am_q66 am_w66 = true := by decide +kernel
set_option maxRecDepth 100000 in
theorem am_dk66 : am_dok cX5_endOf am_w66 := by unfold am_dok; decide +kernel
set_option maxRecDepth 100000 in
theorem am_zk67 : am_zok 67 am_q67 am_w67 = true := by decide +kernel
set_option maxRecDepth 100000 in
theorem am_dk67 : am_dok cX5_append am_w67 := by unfold am_dok; decide +kernel
set_option maxRecDepth 100000 in
theorem am_zk68 : am_zok 68 am_q68 am_w68 = true := by decide +kernel
set_option maxRecDepth 100000 in
theorem am_dk68 : am_dok cX5_lengthen am_w68 := by unfold am_dok; decide +kernel
set_option maxRecDepth 100000 in
theorem am_zk69 : am_zok 69 am_q69 am_w69 = true := by decide +kernel
set_option maxRecDepth 100000 in
theorem am_dk69 : am_dok cX5_moveTo am_w69 := by unfold am_dok; decide +kernel
set_option maxRecDepth 100000 in
theorem am_zk70 : am_zok 70 am_q70 am_w70 = true := by decide +kernel
set_option maxRecDepth 100000 in
theorem am_dk70 : am_dok cX5_takeOut am_w70 := by unfold am_dok; decide +kernel
set_option maxRecDepth 100000 in
theorem am_zk71 : am_zok 71 am_q71 am_w71 = true := by decide +kernel
set_option maxRecDepth 100000 in
theorem am_dk71 : am_dok cX5_lastEnd am_w71 := by unfold am_dok; decide +kernel
set_option maxRecDepth 100000 in
theorem am_zk72 : am_zok 72 am_q72 am_w72 = true := by decide +kernel
set_option maxRecDepth 100000 in
theorem am_dk72 : am_dok cX5_lastEndOf am_w72 := by unfold am_dok; decide +kernel
set_option maxRecDepth 100000 in
theorem am_zk73 : am_zok 73 am_q73 am_w73 = true := by decide +kernel
set_option maxRecDepth 100000 in
theorem am_dk73 : am_dok cX5_goesOf am_w73 := by unfold am_dok; decide +kernel
set_option maxRecDepth 100000 in
theorem am_zk74 : am_zok 74 am_q74 am_w74 = true := by decide +kernel
set_option maxRecDepth 100000 in
theorem am_dk74 : am_dok cX5_minutesOn am_w74 := by unfold am_dok; decide +kernel
set_option maxRecDepth 100000 in
theorem am_zk75 : am_zok 75 am_q75 am_w75 = true := by decide +kernel
set_option maxRecDepth 100000 in
theorem am_dk75 : am_dok cX5_slicesIn am_w75 := by unfold am_dok; decide +kernel
set_option maxRecDepth 100000 in
theorem am_zk76 : am_zok 76 am_q76 am_w76 = true := by decide +kernel
set_option maxRecDepth 100000 in
theorem am_dk76 : am_dok cX5_read am_w76 := by unfold am_dok; decide +kernel
set_option maxRecDepth 100000 in
theorem am_zk77 : am_zok 77 am_q77 am_w77 = true := by decide +kernel
set_option maxRecDepth 100000 in
theorem am_dk77 : am_dok cX5_readLine am_w77 := by unfold am_dok; decide +kernel
set_option maxRecDepth 100000 in
theorem am_zk78 : am_zok 78 am_q78 am_w78 = true := by decide +kernel
set_option maxRecDepth 100000 in
theorem am_dk78 : am_dok cX6_init am_w78 := by unfold am_dok; decide +kernel
set_option maxRecDepth 100000 in
theorem am_zk79 : am_zok 79 am_q79 am_w79 = true := by decide +kernel
set_option maxRecDepth 100000 in
theorem am_dk79 : am_dok cX6_clear am_w79 := by unfold am_dok; decide +kernel
set_option maxRecDepth 100000 in
theorem am_zk80 : am_zok 80 am_q80 am_w80 = true := by decide +kernel
set_option maxRecDepth 100000 in
theorem am_dk80 : am_dok cX6_isEmpty am_w80 := by unfold am_dok; decide +kernel
set_option maxRecDepth 100000 in
theorem am_zk81 : am_zok 81 am_q81 am_w81 = true := by decide +kernel
set_option maxRecDepth 100000 in
theorem am_dk81 : am_dok cX6_copyFrom am_w81 := by unfold am_dok; decide +kernel
set_option maxRecDepth 100000 in
theorem am_zk82 : am_zok 82 am_q82 am_w82 = true := by decide +kernel
set_option maxRecDepth 100000 in
theorem am_dk82 : am_dok cX6_read am_w82 := by unfold am_dok; decide +kernel
set_option maxRecDepth 100000 in
theorem am_zk83 : am_zok 83 am_q83 am_w83 = true := by decide +kernel
set_option maxRecDepth 100000 in
theorem am_dk83 : am_dok cX6_readCond am_w83 := by unfold am_dok; decide +kernel
set_option maxRecDepth 100000 in
theorem am_zk84 : am_zok 84 am_q84 am_w84 = true := by decide +kernel
set_option maxRecDepth 100000 in
theorem am_dk84 : am_dok cX6_readAll am_w84 := by unfold am_dok; decide +kernel
set_option maxRecDepth 100000 in
theorem am_zk85 : am_zok 85 am_q85 am_w85 = true := by decide +kernel
set_option maxRecDepth 100000 in
theorem am_dk85 : am_dok cX6_readOne am_w85 := by unfold am_dok; decide +kernel
set_option maxRecDepth 100000 in
theorem am_zk86 : am_zok 86 am_q86 am_w86 = true := by decide +kernel
set_option maxRecDepth 100000 in
theorem am_dk86 : am_dok cX6_readAfter am_w86 := by unfold am_dok; decide +kernel
