set_option maxRecDepth 100000 in
theorem am_zk246 : am_zok 246 am_q246 am_w246 = true := by decide +kernel
set_option maxRecDepth 100000 in
theorem am_dk246 : am_dok cX12_judge am_w246 := by unfold am_dok; decide +kernel
set_option maxRecDepth 100000 in
theorem am_zk247 : am_zok 247 am_q247 am_w247 = true := by decide +kernel
set_option maxRecDepth 100000 in
theorem am_dk247 : am_dok cX12_why am_w247 := by unfold am_dok; decide +kernel
set_option maxRecDepth 100000 in
theorem am_zk248 : am_zok 248 am_q248 am_w248 = true := by decide +kernel
set_option maxRecDepth 100000 in
theorem am_dk248 : am_dok cX12_go am_w248 := by unfold am_dok; decide +kernel
set_option maxRecDepth 100000 in
theorem am_zk249 : am_zok 249 am_q249 am_w249 = true := by decide +kernel
set_option maxRecDepth 100000 in
theorem am_dk249 : am_dok cX12_leftOf am_w249 := by unfold am_dok; decide +kernel
set_option maxRecDepth 100000 in
theorem am_zk250 : am_zok 250 am_q250 am_w250 = true := by decide +kernel
set_option maxRecDepth 100000 in
theorem am_dk250 : am_dok cX12_left am_w250 := by unfold am_dok; decide +kernel
set_option maxRecDepth 100000 in
theorem am_zk251 : am_zok 251 am_q251 am_w251 = true := by decide +kernel
set_option maxRecDepth 100000 in
theorem am_dk251 : am_dok cX12_endsAt am_w251 := by unfold am_dok; decide +kernel
set_option maxRecDepth 100000 in
theorem am_zk252 : am_zok 252 am_q252 am_w252 = true := by decide +kernel
set_option maxRecDepth 100000 in
theorem am_dk252 : am_dok cX12_ends am_w252 := by unfold am_dok; decide +kernel
set_option maxRecDepth 100000 in
theorem am_zk253 : am_zok 253 am_q253 am_w253 = true := by decide +kernel
set_option maxRecDepth 100000 in
theorem am_dk253 : am_dok cX12_isDone am_w253 := by unfold am_dok; decide +kernel
set_option maxRecDepth 100000 in
theorem am_zk254 : am_zok 254 am_q254 am_w254 = true := by decide +kernel
set_option maxRecDepth 100000 in
theorem am_dk254 : am_dok cX12_done am_w254 := by unfold am_dok; decide +kernel
set_option maxRecDepth 100000 in
theorem am_zk255 : am_zok 255 am_q255 am_w255 = true := by decide +kernel
set_option maxRecDepth 100000 in
theorem am_dk255 : am_dok cX12_on am_w255 := by unfold am_dok; decide +kernel
set_option maxRecDepth 100000 in
theorem am_zk256 : am_zok 256 am_q256 am_w256 = true := by decide +kernel
set_option maxRecDepth 100000 in
theorem am_dk256 : am_dok cX12_put am_w256 := by unfold am_dok; decide +kernel
set_option maxRecDepth 100000 in
theorem am_zk257 : am_zok 257 am_q257 am_w257 = true := by decide +kernel
set_option maxRecDepth 100000 in
theorem am_dk257 : am_dok cX12_putNumber am_w257 := by unfold am_dok; decide +kernel
set_option maxRecDepth 100000 in
theorem am_zk258 : am_zok 258 am_q258 am_w258 = true := by decide +kernel
set_option maxRecDepth 100000 in
theorem am_dk258 : am_dok cX12_putName am_w258 := by unfold am_dok; decide +kernel
set_option maxRecDepth 100000 in
theorem am_zk259 : am_zok 259 am_q259 am_w259 = true := by decide +kernel
set_option maxRecDepth 100000 in
theorem am_dk259 : am_dok cX12_write am_w259 := by unfold am_dok; decide +kernel
set_option maxRecDepth 100000 in
theorem am_zk260 : am_zok 260 am_q260 am_w260 = true := by decide +kernel
set_option maxRecDepth 100000 in
theorem am_dk260 : am_dok cX12_byteAt am_w260 := by unfold am_dok; decide +kernel
set_option maxRecDepth 100000 in
theorem am_zk261 : am_zok 261 am_q261 am_w261 = true := by decide +kernel
set_option maxRecDepth 100000 in
theorem am_dk261 : am_dok cX12_allMinutes am_w261 := by unfold am_dok; decide +kernel
set_option maxRecDepth 100000 in
theorem am_zk262 : am_zok 262 am_q262 am_w262 = true := by decide +kernel
set_option maxRecDepth 100000 in
theorem am_dk262 : am_dok cX12_longest am_w262 := by unfold am_dok; decide +kernel
set_option maxRecDepth 100000 in
theorem am_zk263 : am_zok 263 am_q263 am_w263 = true := by decide +kernel
set_option maxRecDepth 100000 in
theorem am_dk263 : am_dok cX12_several am_w263 := by unfold am_dok; decide +kernel
set_option maxRecDepth 100000 in
theorem am_zk264 : am_zok 264 am_q264 am_w264 = true := by decide +kernel
set_option maxRecDepth 100000 in
theorem am_dk264 : am_dok cX12_bound am_w264 := by unfold am_dok; decide +kernel
set_option maxRecDepth 100000 in
theorem am_zk265 : am_zok 265 am_q265 am_w265 = true := by decide +kernel
set_option maxRecDepth 100000 in
theorem am_dk265 : am_dok cX12_canStart am_w265 := by unfold am_dok; decide +kernel
set_option maxRecDepth 100000 in
theorem am_zk266 : am_zok 266 am_q266 am_w266 = true := by decide +kernel
set_option maxRecDepth 100000 in
theorem am_dk266 : am_dok cX12_trySides am_w266 := by unfold am_dok; decide +kernel
set_option maxRecDepth 100000 in
theorem am_zk267 : am_zok 267 am_q267 am_w267 = true := by decide +kernel
set_option maxRecDepth 100000 in
theorem am_dk267 : am_dok cX12_one am_w267 := by unfold am_dok; decide +kernel
set_option maxRecDepth 100000 in
theorem am_zk268 : am_zok 268 am_q268 am_w268 = true := by decide +kernel
set_option maxRecDepth 100000 in
theorem am_dk268 : am_dok cX12_takes am_w268 := by unfold am_dok; decide +kernel
set_option maxRecDepth 100000 in
theorem am_zk269 : am_zok 269 am_q269 am_w269 = true := by decide +kernel
set_option maxRecDepth 100000 in
theorem am_dk269 : am_dok cX12_masters am_w269 := by unfold am_dok; decide +kernel
set_option maxRecDepth 100000 in
theorem am_zk270 : am_zok 270 am_q270 am_w270 = true := by decide +kernel
set_option maxRecDepth 100000 in
theorem am_dk270 : am_dok cX12_hasLeft am_w270 := by unfold am_dok; decide +kernel
set_option maxRecDepth 100000 in
theorem am_zk271 : am_zok 271 am_q271 am_w271 = true := by decide +kernel
set_option maxRecDepth 100000 in
theorem am_dk271 : am_dok cX12_sideOf am_w271 := by unfold am_dok; decide +kernel
set_option maxRecDepth 100000 in
theorem am_zk272 : am_zok 272 am_q272 am_w272 = true := by decide +kernel
set_option maxRecDepth 100000 in
theorem am_dk272 : am_dok cX12_isRested am_w272 := by unfold am_dok; decide +kernel
set_option maxRecDepth 100000 in
theorem am_zk273 : am_zok 273 am_q273 am_w273 = true := by decide +kernel
set_option maxRecDepth 100000 in
theorem am_dk273 : am_dok cX12_likes am_w273 := by unfold am_dok; decide +kernel
set_option maxRecDepth 100000 in
theorem am_zk274 : am_zok 274 am_q274 am_w274 = true := by decide +kernel
set_option maxRecDepth 100000 in
theorem am_dk274 : am_dok cX12_isOn am_w274 := by unfold am_dok; decide +kernel
set_option maxRecDepth 100000 in
theorem am_zk275 : am_zok 275 am_q275 am_w275 = true := by decide +kernel
set_option maxRecDepth 100000 in
theorem am_dk275 : am_dok cX12_takesCook am_w275 := by unfold am_dok; decide +kernel
set_option maxRecDepth 100000 in
theorem am_zk276 : am_zok 276 am_q276 am_w276 = true := by decide +kernel
set_option maxRecDepth 100000 in
theorem am_dk276 : am_dok cX12_placeFor am_w276 := by unfold am_dok; decide +kernel
