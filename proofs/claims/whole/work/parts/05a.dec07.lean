set_option maxRecDepth 100000 in
theorem am_zk277 : am_zok 277 am_q277 am_w277 = true := by decide +kernel
set_option maxRecDepth 100000 in
theorem am_dk277 : am_dok cX12_cookMinute am_w277 := by unfold am_dok; decide +kernel
set_option maxRecDepth 100000 in
theorem am_zk278 : am_zok 278 am_q278 am_w278 = true := by decide +kernel
set_option maxRecDepth 100000 in
theorem am_dk278 : am_dok cX12_tells am_w278 := by unfold am_dok; decide +kernel
set_option maxRecDepth 100000 in
theorem am_zk279 : am_zok 279 am_q279 am_w279 = true := by decide +kernel
set_option maxRecDepth 100000 in
theorem am_dk279 : am_dok cX12_cookAll am_w279 := by unfold am_dok; decide +kernel
set_option maxRecDepth 100000 in
theorem am_zk280 : am_zok 280 am_q280 am_w280 = true := by decide +kernel
set_option maxRecDepth 100000 in
theorem am_dk280 : am_dok cX12_cook am_w280 := by unfold am_dok; decide +kernel
set_option maxRecDepth 100000 in
theorem am_zk281 : am_zok 281 am_q281 am_w281 = true := by decide +kernel
set_option maxRecDepth 100000 in
theorem am_dk281 : am_dok cX12_best am_w281 := by unfold am_dok; decide +kernel
set_option maxRecDepth 100000 in
theorem am_zk282 : am_zok 282 am_q282 am_w282 = true := by decide +kernel
set_option maxRecDepth 100000 in
theorem am_dk282 : am_dok cX12_add am_w282 := by unfold am_dok; decide +kernel
set_option maxRecDepth 100000 in
theorem am_zk283 : am_zok 283 am_q283 am_w283 = true := by decide +kernel
set_option maxRecDepth 100000 in
theorem am_dk283 : am_dok cX12_drop am_w283 := by unfold am_dok; decide +kernel
set_option maxRecDepth 100000 in
theorem am_zk284 : am_zok 284 am_q284 am_w284 = true := by decide +kernel
set_option maxRecDepth 100000 in
theorem am_dk284 : am_dok cX12_later am_w284 := by unfold am_dok; decide +kernel
set_option maxRecDepth 100000 in
theorem am_zk285 : am_zok 285 am_q285 am_w285 = true := by decide +kernel
set_option maxRecDepth 100000 in
theorem am_dk285 : am_dok cX12_earliest am_w285 := by unfold am_dok; decide +kernel
set_option maxRecDepth 100000 in
theorem am_zk286 : am_zok 286 am_q286 am_w286 = true := by decide +kernel
set_option maxRecDepth 100000 in
theorem am_dk286 : am_dok cX12_canBeEarly am_w286 := by unfold am_dok; decide +kernel
set_option maxRecDepth 100000 in
theorem am_zk287 : am_zok 287 am_q287 am_w287 = true := by decide +kernel
set_option maxRecDepth 100000 in
theorem am_dk287 : am_dok cX12_early am_w287 := by unfold am_dok; decide +kernel
set_option maxRecDepth 100000 in
theorem am_zk288 : am_zok 288 am_q288 am_w288 = true := by decide +kernel
set_option maxRecDepth 100000 in
theorem am_dk288 : am_dok cX12_idle am_w288 := by unfold am_dok; decide +kernel
set_option maxRecDepth 100000 in
theorem am_zk289 : am_zok 289 am_q289 am_w289 = true := by decide +kernel
set_option maxRecDepth 100000 in
theorem am_dk289 : am_dok cX12_forgotten am_w289 := by unfold am_dok; decide +kernel
set_option maxRecDepth 100000 in
theorem am_zk290 : am_zok 290 am_q290 am_w290 = true := by decide +kernel
set_option maxRecDepth 100000 in
theorem am_dk290 : am_dok cX12_placesFor am_w290 := by unfold am_dok; decide +kernel
set_option maxRecDepth 100000 in
theorem am_zk291 : am_zok 291 am_q291 am_w291 = true := by decide +kernel
set_option maxRecDepth 100000 in
theorem am_dk291 : am_dok cX12_fewest am_w291 := by unfold am_dok; decide +kernel
set_option maxRecDepth 100000 in
theorem am_zk292 : am_zok 292 am_q292 am_w292 = true := by decide +kernel
set_option maxRecDepth 100000 in
theorem am_dk292 : am_dok cX12_areAlike am_w292 := by unfold am_dok; decide +kernel
set_option maxRecDepth 100000 in
theorem am_zk293 : am_zok 293 am_q293 am_w293 = true := by decide +kernel
set_option maxRecDepth 100000 in
theorem am_dk293 : am_dok cX12_alike am_w293 := by unfold am_dok; decide +kernel
set_option maxRecDepth 100000 in
theorem am_zk294 : am_zok 294 am_q294 am_w294 = true := by decide +kernel
set_option maxRecDepth 100000 in
theorem am_dk294 : am_dok cX12_alikeAt am_w294 := by unfold am_dok; decide +kernel
set_option maxRecDepth 100000 in
theorem am_zk295 : am_zok 295 am_q295 am_w295 = true := by decide +kernel
set_option maxRecDepth 100000 in
theorem am_dk295 : am_dok cX12_worthOf am_w295 := by unfold am_dok; decide +kernel
set_option maxRecDepth 100000 in
theorem am_zk296 : am_zok 296 am_q296 am_w296 = true := by decide +kernel
set_option maxRecDepth 100000 in
theorem am_dk296 : am_dok cX12_worthOfSet am_w296 := by unfold am_dok; decide +kernel
set_option maxRecDepth 100000 in
theorem am_zk297 : am_zok 297 am_q297 am_w297 = true := by decide +kernel
set_option maxRecDepth 100000 in
theorem am_dk297 : am_dok cX12_served am_w297 := by unfold am_dok; decide +kernel
set_option maxRecDepth 100000 in
theorem am_zk298 : am_zok 298 am_q298 am_w298 = true := by decide +kernel
set_option maxRecDepth 100000 in
theorem am_dk298 : am_dok cX12_servedAt am_w298 := by unfold am_dok; decide +kernel
set_option maxRecDepth 100000 in
theorem am_zk299 : am_zok 299 am_q299 am_w299 = true := by decide +kernel
set_option maxRecDepth 100000 in
theorem am_dk299 : am_dok cX12_mean am_w299 := by unfold am_dok; decide +kernel
set_option maxRecDepth 100000 in
theorem am_zk300 : am_zok 300 am_q300 am_w300 = true := by decide +kernel
set_option maxRecDepth 100000 in
theorem am_dk300 : am_dok cX12_hotel am_w300 := by unfold am_dok; decide +kernel
set_option maxRecDepth 100000 in
theorem am_zk301 : am_zok 301 am_q301 am_w301 = true := by decide +kernel
set_option maxRecDepth 100000 in
theorem am_dk301 : am_dok cX12_pans am_w301 := by unfold am_dok; decide +kernel
set_option maxRecDepth 100000 in
theorem am_zk302 : am_zok 302 am_q302 am_w302 = true := by decide +kernel
set_option maxRecDepth 100000 in
theorem am_dk302 : am_dok cX12_mayBe am_w302 := by unfold am_dok; decide +kernel
