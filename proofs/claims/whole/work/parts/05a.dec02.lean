set_option maxRecDepth 100000 in
theorem am_zk87 : am_zok 87 am_q87 am_w87 = true := by decide +kernel
set_option maxRecDepth 100000 in
theorem am_dk87 : am_dok cX6_readMeasure am_w87 := by unfold am_dok; decide +kernel
set_option maxRecDepth 100000 in
theorem am_zk88 : am_zok 88 am_q88 am_w88 = true := by decide +kernel
set_option maxRecDepth 100000 in
theorem am_dk88 : am_dok cX6_putStep am_w88 := by unfold am_dok; decide +kernel
set_option maxRecDepth 100000 in
theorem am_zk89 : am_zok 89 am_q89 am_w89 = true := by decide +kernel
set_option maxRecDepth 100000 in
theorem am_dk89 : am_dok cX6_slicesMeant am_w89 := by unfold am_dok; decide +kernel
set_option maxRecDepth 100000 in
theorem am_zk90 : am_zok 90 am_q90 am_w90 = true := by decide +kernel
set_option maxRecDepth 100000 in
theorem am_dk90 : am_dok cX6_slicesOfStep am_w90 := by unfold am_dok; decide +kernel
set_option maxRecDepth 100000 in
theorem am_zk91 : am_zok 91 am_q91 am_w91 = true := by decide +kernel
set_option maxRecDepth 100000 in
theorem am_dk91 : am_dok cX6_holds am_w91 := by unfold am_dok; decide +kernel
set_option maxRecDepth 100000 in
theorem am_zk92 : am_zok 92 am_q92 am_w92 = true := by decide +kernel
set_option maxRecDepth 100000 in
theorem am_dk92 : am_dok cX6_compares am_w92 := by unfold am_dok; decide +kernel
set_option maxRecDepth 100000 in
theorem am_zk93 : am_zok 93 am_q93 am_w93 = true := by decide +kernel
set_option maxRecDepth 100000 in
theorem am_dk93 : am_dok cX7_init am_w93 := by unfold am_dok; decide +kernel
set_option maxRecDepth 100000 in
theorem am_zk94 : am_zok 94 am_q94 am_w94 = true := by decide +kernel
set_option maxRecDepth 100000 in
theorem am_dk94 : am_dok cX7_find am_w94 := by unfold am_dok; decide +kernel
set_option maxRecDepth 100000 in
theorem am_zk95 : am_zok 95 am_q95 am_w95 = true := by decide +kernel
set_option maxRecDepth 100000 in
theorem am_dk95 : am_dok cX7_collectEnds am_w95 := by unfold am_dok; decide +kernel
set_option maxRecDepth 100000 in
theorem am_zk96 : am_zok 96 am_q96 am_w96 = true := by decide +kernel
set_option maxRecDepth 100000 in
theorem am_dk96 : am_dok cX7_worthAt am_w96 := by unfold am_dok; decide +kernel
set_option maxRecDepth 100000 in
theorem am_zk97 : am_zok 97 am_q97 am_w97 = true := by decide +kernel
set_option maxRecDepth 100000 in
theorem am_dk97 : am_dok cX7_weigh am_w97 := by unfold am_dok; decide +kernel
set_option maxRecDepth 100000 in
theorem am_zk98 : am_zok 98 am_q98 am_w98 = true := by decide +kernel
set_option maxRecDepth 100000 in
theorem am_dk98 : am_dok cX7_mostFrom am_w98 := by unfold am_dok; decide +kernel
set_option maxRecDepth 100000 in
theorem am_zk99 : am_zok 99 am_q99 am_w99 = true := by decide +kernel
set_option maxRecDepth 100000 in
theorem am_dk99 : am_dok cX7_trace am_w99 := by unfold am_dok; decide +kernel
set_option maxRecDepth 100000 in
theorem am_zk100 : am_zok 100 am_q100 am_w100 = true := by decide +kernel
set_option maxRecDepth 100000 in
theorem am_dk100 : am_dok cX7_leastAsGood am_w100 := by unfold am_dok; decide +kernel
set_option maxRecDepth 100000 in
theorem am_zk101 : am_zok 101 am_q101 am_w101 = true := by decide +kernel
set_option maxRecDepth 100000 in
theorem am_dk101 : am_dok cX8_init am_w101 := by unfold am_dok; decide +kernel
set_option maxRecDepth 100000 in
theorem am_zk102 : am_zok 102 am_q102 am_w102 = true := by decide +kernel
set_option maxRecDepth 100000 in
theorem am_dk102 : am_dok cX8_make am_w102 := by unfold am_dok; decide +kernel
set_option maxRecDepth 100000 in
theorem am_zk103 : am_zok 103 am_q103 am_w103 = true := by decide +kernel
set_option maxRecDepth 100000 in
theorem am_dk103 : am_dok cX8_search am_w103 := by unfold am_dok; decide +kernel
set_option maxRecDepth 100000 in
theorem am_zk104 : am_zok 104 am_q104 am_w104 = true := by decide +kernel
set_option maxRecDepth 100000 in
theorem am_dk104 : am_dok cX8_tryAll am_w104 := by unfold am_dok; decide +kernel
set_option maxRecDepth 100000 in
theorem am_zk105 : am_zok 105 am_q105 am_w105 = true := by decide +kernel
set_option maxRecDepth 100000 in
theorem am_dk105 : am_dok cX8_isInTheWay am_w105 := by unfold am_dok; decide +kernel
set_option maxRecDepth 100000 in
theorem am_zk106 : am_zok 106 am_q106 am_w106 = true := by decide +kernel
set_option maxRecDepth 100000 in
theorem am_dk106 : am_dok cX8_isTooLate am_w106 := by unfold am_dok; decide +kernel
set_option maxRecDepth 100000 in
theorem am_zk107 : am_zok 107 am_q107 am_w107 = true := by decide +kernel
set_option maxRecDepth 100000 in
theorem am_dk107 : am_dok cX8_hasLesserTwin am_w107 := by unfold am_dok; decide +kernel
set_option maxRecDepth 100000 in
theorem am_zk108 : am_zok 108 am_q108 am_w108 = true := by decide +kernel
set_option maxRecDepth 100000 in
theorem am_dk108 : am_dok cX8_couldChange am_w108 := by unfold am_dok; decide +kernel
set_option maxRecDepth 100000 in
theorem am_zk109 : am_zok 109 am_q109 am_w109 = true := by decide +kernel
set_option maxRecDepth 100000 in
theorem am_dk109 : am_dok cX8_occupy am_w109 := by unfold am_dok; decide +kernel
set_option maxRecDepth 100000 in
theorem am_zk110 : am_zok 110 am_q110 am_w110 = true := by decide +kernel
set_option maxRecDepth 100000 in
theorem am_dk110 : am_dok cX8_earliest am_w110 := by unfold am_dok; decide +kernel
set_option maxRecDepth 100000 in
theorem am_zk111 : am_zok 111 am_q111 am_w111 = true := by decide +kernel
set_option maxRecDepth 100000 in
theorem am_dk111 : am_dok cX8_firstRoom am_w111 := by unfold am_dok; decide +kernel
