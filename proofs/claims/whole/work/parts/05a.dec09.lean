set_option maxRecDepth 100000 in
theorem am_zk334 : am_zok 334 am_q334 am_w334 = true := by decide +kernel
