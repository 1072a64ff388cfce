set_option maxRecDepth 100000 in
theorem am_zk303 : am_zok 303 am_q303 am_w303 = true := by decide +kernel
set_option maxRecDepth 100000 in
theorem am_dk303 : am_dok cX12_brown am_w303 := by unfold am_dok; decide +kernel
set_option maxRecDepth 100000 in
theorem am_zk304 : am_zok 304 am_q304 am_w304 = true := by decide +kernel
set_option maxRecDepth 100000 in
theorem am_dk304 : am_dok cX12_draw am_w304 := by unfold am_dok; decide +kernel
set_option maxRecDepth 100000 in
theorem am_zk305 : am_zok 305 am_q305 am_w305 = true := by decide +kernel
set_option maxRecDepth 100000 in
theorem am_dk305 : am_dok cX12_drawn am_w305 := by unfold am_dok; decide +kernel
set_option maxRecDepth 100000 in
theorem am_zk306 : am_zok 306 am_q306 am_w306 = true := by decide +kernel
set_option maxRecDepth 100000 in
theorem am_dk306 : am_dok cX12_morningBy am_w306 := by unfold am_dok; decide +kernel
set_option maxRecDepth 100000 in
theorem am_zk307 : am_zok 307 am_q307 am_w307 = true := by decide +kernel
set_option maxRecDepth 100000 in
theorem am_dk307 : am_dok cX12_morning am_w307 := by unfold am_dok; decide +kernel
set_option maxRecDepth 100000 in
theorem am_zk308 : am_zok 308 am_q308 am_w308 = true := by decide +kernel
set_option maxRecDepth 100000 in
theorem am_dk308 : am_dok cX12_mornings am_w308 := by unfold am_dok; decide +kernel
set_option maxRecDepth 100000 in
theorem am_zk309 : am_zok 309 am_q309 am_w309 = true := by decide +kernel
set_option maxRecDepth 100000 in
theorem am_dk309 : am_dok cX12_saysOne am_w309 := by unfold am_dok; decide +kernel
set_option maxRecDepth 100000 in
theorem am_zk310 : am_zok 310 am_q310 am_w310 = true := by decide +kernel
set_option maxRecDepth 100000 in
theorem am_dk310 : am_dok cX12_readOr am_w310 := by unfold am_dok; decide +kernel
set_option maxRecDepth 100000 in
theorem am_zk311 : am_zok 311 am_q311 am_w311 = true := by decide +kernel
set_option maxRecDepth 100000 in
theorem am_dk311 : am_dok cX12_readAnd am_w311 := by unfold am_dok; decide +kernel
set_option maxRecDepth 100000 in
theorem am_zk312 : am_zok 312 am_q312 am_w312 = true := by decide +kernel
set_option maxRecDepth 100000 in
theorem am_dk312 : am_dok cX12_oneAtHand am_w312 := by unfold am_dok; decide +kernel
set_option maxRecDepth 100000 in
theorem am_zk313 : am_zok 313 am_q313 am_w313 = true := by decide +kernel
set_option maxRecDepth 100000 in
theorem am_dk313 : am_dok cX12_readOne am_w313 := by unfold am_dok; decide +kernel
set_option maxRecDepth 100000 in
theorem am_zk314 : am_zok 314 am_q314 am_w314 = true := by decide +kernel
set_option maxRecDepth 100000 in
theorem am_dk314 : am_dok cX12_readNot am_w314 := by unfold am_dok; decide +kernel
set_option maxRecDepth 100000 in
theorem am_zk315 : am_zok 315 am_q315 am_w315 = true := by decide +kernel
set_option maxRecDepth 100000 in
theorem am_dk315 : am_dok cX12_readBracket am_w315 := by unfold am_dok; decide +kernel
set_option maxRecDepth 100000 in
theorem am_zk316 : am_zok 316 am_q316 am_w316 = true := by decide +kernel
set_option maxRecDepth 100000 in
theorem am_dk316 : am_dok cX12_readAfter am_w316 := by unfold am_dok; decide +kernel
set_option maxRecDepth 100000 in
theorem am_zk317 : am_zok 317 am_q317 am_w317 = true := by decide +kernel
set_option maxRecDepth 100000 in
theorem am_dk317 : am_dok cX12_readCompare am_w317 := by unfold am_dok; decide +kernel
set_option maxRecDepth 100000 in
theorem am_zk318 : am_zok 318 am_q318 am_w318 = true := by decide +kernel
set_option maxRecDepth 100000 in
theorem am_dk318 : am_dok cX12_sentence am_w318 := by unfold am_dok; decide +kernel
set_option maxRecDepth 100000 in
theorem am_zk319 : am_zok 319 am_q319 am_w319 = true := by decide +kernel
set_option maxRecDepth 100000 in
theorem am_dk319 : am_dok cX12_goesOf am_w319 := by unfold am_dok; decide +kernel
set_option maxRecDepth 100000 in
theorem am_zk320 : am_zok 320 am_q320 am_w320 = true := by decide +kernel
set_option maxRecDepth 100000 in
theorem am_dk320 : am_dok cX12_endOf am_w320 := by unfold am_dok; decide +kernel
set_option maxRecDepth 100000 in
theorem am_zk321 : am_zok 321 am_q321 am_w321 = true := by decide +kernel
set_option maxRecDepth 100000 in
theorem am_dk321 : am_dok cX12_holds am_w321 := by unfold am_dok; decide +kernel
set_option maxRecDepth 100000 in
theorem am_zk322 : am_zok 322 am_q322 am_w322 = true := by decide +kernel
set_option maxRecDepth 100000 in
theorem am_dk322 : am_dok cX12_said am_w322 := by unfold am_dok; decide +kernel
set_option maxRecDepth 100000 in
theorem am_zk323 : am_zok 323 am_q323 am_w323 = true := by decide +kernel
set_option maxRecDepth 100000 in
theorem am_dk323 : am_dok cX12_image am_w323 := by unfold am_dok; decide +kernel
set_option maxRecDepth 100000 in
theorem am_zk324 : am_zok 324 am_q324 am_w324 = true := by decide +kernel
set_option maxRecDepth 100000 in
theorem am_dk324 : am_dok cX12_restore am_w324 := by unfold am_dok; decide +kernel
set_option maxRecDepth 100000 in
theorem am_zk325 : am_zok 325 am_q325 am_w325 = true := by decide +kernel
set_option maxRecDepth 100000 in
theorem am_dk325 : am_dok cX12_count am_w325 := by unfold am_dok; decide +kernel
set_option maxRecDepth 100000 in
theorem am_zk326 : am_zok 326 am_q326 am_w326 = true := by decide +kernel
set_option maxRecDepth 100000 in
theorem am_dk326 : am_dok cJ6_bitCount_0f7a4 am_w326 := by unfold am_dok; decide +kernel
set_option maxRecDepth 100000 in
theorem am_zk327 : am_zok 327 am_q327 am_w327 = true := by decide +kernel
set_option maxRecDepth 100000 in
theorem am_dk327 : am_dok cJ7_fill_d0a16 am_w327 := by unfold am_dok; decide +kernel
set_option maxRecDepth 100000 in
theorem am_zk328 : am_zok 328 am_q328 am_w328 = true := by decide +kernel
set_option maxRecDepth 100000 in
theorem am_dk328 : am_dok cJ7_fill_53178 am_w328 := by unfold am_dok; decide +kernel
set_option maxRecDepth 100000 in
theorem am_zk329 : am_zok 329 am_q329 am_w329 = true := by decide +kernel
set_option maxRecDepth 100000 in
theorem am_dk329 : am_dok cL_slice am_w329 := by unfold am_dok; decide +kernel
set_option maxRecDepth 100000 in
theorem am_zk330 : am_zok 330 am_q330 am_w330 = true := by decide +kernel
set_option maxRecDepth 100000 in
theorem am_dk330 : am_dok cL_guest am_w330 := by unfold am_dok; decide +kernel
set_option maxRecDepth 100000 in
theorem am_zk331 : am_zok 331 am_q331 am_w331 = true := by decide +kernel
set_option maxRecDepth 100000 in
theorem am_dk331 : am_dok cL_sort am_w331 := by unfold am_dok; decide +kernel
set_option maxRecDepth 100000 in
theorem am_zk332 : am_zok 332 am_q332 am_w332 = true := by decide +kernel
set_option maxRecDepth 100000 in
theorem am_dk332 : am_dok cL_left am_w332 := by unfold am_dok; decide +kernel
set_option maxRecDepth 100000 in
theorem am_zk333 : am_zok 333 am_q333 am_w333 = true := by decide +kernel
set_option maxRecDepth 100000 in
theorem am_dk333 : am_dok cL_mean am_w333 := by unfold am_dok; decide +kernel
