/-! the classes of the worlds -/
abbrev am_cl : List vw_C := [(RX0, TX0, 2), (RX1, TX1, 3), (RX2, TX2, 3), (RX3, TX3, 18), (RX4, TX4, 8), (RX5, TX5, 2), (RX6, TX6, 6), (RX7, TX7, 7), (RX8, TX8, 13), (RX9, TX9, 4), (RX10, TX10, 13), (RX11, TX11, 18), (RX12, TX12, 62), ("java/util/NoSuchElementException", TX0, 0)]
