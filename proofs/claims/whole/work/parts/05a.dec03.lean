set_option maxRecDepth 100000 in
theorem am_zk112 : am_zok 112 am_q112 am_w112 = true := by decide +kernel
set_option maxRecDepth 100000 in
theorem am_dk112 : am_dok cX8_fill am_w112 := by unfold am_dok; decide +kernel
set_option maxRecDepth 100000 in
theorem am_zk113 : am_zok 113 am_q113 am_w113 = true := by decide +kernel
set_option maxRecDepth 100000 in
theorem am_dk113 : am_dok cX8_leastFree am_w113 := by unfold am_dok; decide +kernel
set_option maxRecDepth 100000 in
theorem am_zk114 : am_zok 114 am_q114 am_w114 = true := by decide +kernel
set_option maxRecDepth 100000 in
theorem am_dk114 : am_dok cX9_init am_w114 := by unfold am_dok; decide +kernel
set_option maxRecDepth 100000 in
theorem am_zk115 : am_zok 115 am_q115 am_w115 = true := by decide +kernel
set_option maxRecDepth 100000 in
theorem am_dk115 : am_dok cX9_copyFrom am_w115 := by unfold am_dok; decide +kernel
set_option maxRecDepth 100000 in
theorem am_zk116 : am_zok 116 am_q116 am_w116 = true := by decide +kernel
set_option maxRecDepth 100000 in
theorem am_dk116 : am_dok cX9_lacking am_w116 := by unfold am_dok; decide +kernel
set_option maxRecDepth 100000 in
theorem am_zk117 : am_zok 117 am_q117 am_w117 = true := by decide +kernel
set_option maxRecDepth 100000 in
theorem am_dk117 : am_dok cX9_doneSlices am_w117 := by unfold am_dok; decide +kernel
set_option maxRecDepth 100000 in
theorem am_zk118 : am_zok 118 am_q118 am_w118 = true := by decide +kernel
set_option maxRecDepth 100000 in
theorem am_dk118 : am_dok cX10_init am_w118 := by unfold am_dok; decide +kernel
set_option maxRecDepth 100000 in
theorem am_zk119 : am_zok 119 am_q119 am_w119 = true := by decide +kernel
set_option maxRecDepth 100000 in
theorem am_dk119 : am_dok cX10_putNumber am_w119 := by unfold am_dok; decide +kernel
set_option maxRecDepth 100000 in
theorem am_zk120 : am_zok 120 am_q120 am_w120 = true := by decide +kernel
set_option maxRecDepth 100000 in
theorem am_dk120 : am_dok cX10_open am_w120 := by unfold am_dok; decide +kernel
set_option maxRecDepth 100000 in
theorem am_zk121 : am_zok 121 am_q121 am_w121 = true := by decide +kernel
set_option maxRecDepth 100000 in
theorem am_dk121 : am_dok cX10_readToken am_w121 := by unfold am_dok; decide +kernel
set_option maxRecDepth 100000 in
theorem am_zk122 : am_zok 122 am_q122 am_w122 = true := by decide +kernel
set_option maxRecDepth 100000 in
theorem am_dk122 : am_dok cX10_isLetterOrDigit am_w122 := by unfold am_dok; decide +kernel
set_option maxRecDepth 100000 in
theorem am_zk123 : am_zok 123 am_q123 am_w123 = true := by decide +kernel
set_option maxRecDepth 100000 in
theorem am_dk123 : am_dok cX10_isSignByte am_w123 := by unfold am_dok; decide +kernel
set_option maxRecDepth 100000 in
theorem am_zk124 : am_zok 124 am_q124 am_w124 = true := by decide +kernel
set_option maxRecDepth 100000 in
theorem am_dk124 : am_dok cX10_putWord am_w124 := by unfold am_dok; decide +kernel
set_option maxRecDepth 100000 in
theorem am_zk125 : am_zok 125 am_q125 am_w125 = true := by decide +kernel
set_option maxRecDepth 100000 in
theorem am_dk125 : am_dok cX10_putToken am_w125 := by unfold am_dok; decide +kernel
set_option maxRecDepth 100000 in
theorem am_zk126 : am_zok 126 am_q126 am_w126 = true := by decide +kernel
set_option maxRecDepth 100000 in
theorem am_dk126 : am_dok cX10_advance am_w126 := by unfold am_dok; decide +kernel
set_option maxRecDepth 100000 in
theorem am_zk127 : am_zok 127 am_q127 am_w127 = true := by decide +kernel
set_option maxRecDepth 100000 in
theorem am_dk127 : am_dok cX10_isSign am_w127 := by unfold am_dok; decide +kernel
set_option maxRecDepth 100000 in
theorem am_zk128 : am_zok 128 am_q128 am_w128 = true := by decide +kernel
set_option maxRecDepth 100000 in
theorem am_dk128 : am_dok cX10_fail am_w128 := by unfold am_dok; decide +kernel
set_option maxRecDepth 100000 in
theorem am_zk129 : am_zok 129 am_q129 am_w129 = true := by decide +kernel
set_option maxRecDepth 100000 in
theorem am_dk129 : am_dok cX10_takeNumber am_w129 := by unfold am_dok; decide +kernel
set_option maxRecDepth 100000 in
theorem am_zk130 : am_zok 130 am_q130 am_w130 = true := by decide +kernel
set_option maxRecDepth 100000 in
theorem am_dk130 : am_dok cX10_takeSign am_w130 := by unfold am_dok; decide +kernel
set_option maxRecDepth 100000 in
theorem am_zk131 : am_zok 131 am_q131 am_w131 = true := by decide +kernel
set_option maxRecDepth 100000 in
theorem am_dk131 : am_dok cX10_findSlice am_w131 := by unfold am_dok; decide +kernel
set_option maxRecDepth 100000 in
theorem am_zk132 : am_zok 132 am_q132 am_w132 = true := by decide +kernel
set_option maxRecDepth 100000 in
theorem am_dk132 : am_dok cX11_init am_w132 := by unfold am_dok; decide +kernel
set_option maxRecDepth 100000 in
theorem am_zk133 : am_zok 133 am_q133 am_w133 = true := by decide +kernel
set_option maxRecDepth 100000 in
theorem am_dk133 : am_dok cX11_feed am_w133 := by unfold am_dok; decide +kernel
set_option maxRecDepth 100000 in
theorem am_zk134 : am_zok 134 am_q134 am_w134 = true := by decide +kernel
set_option maxRecDepth 100000 in
theorem am_dk134 : am_dok cX11_end am_w134 := by unfold am_dok; decide +kernel
set_option maxRecDepth 100000 in
theorem am_zk135 : am_zok 135 am_q135 am_w135 = true := by decide +kernel
set_option maxRecDepth 100000 in
theorem am_dk135 : am_dok cX11_kitchen am_w135 := by unfold am_dok; decide +kernel
set_option maxRecDepth 100000 in
theorem am_zk136 : am_zok 136 am_q136 am_w136 = true := by decide +kernel
set_option maxRecDepth 100000 in
theorem am_dk136 : am_dok cX11_fault am_w136 := by unfold am_dok; decide +kernel
set_option maxRecDepth 100000 in
theorem am_zk137 : am_zok 137 am_q137 am_w137 = true := by decide +kernel
set_option maxRecDepth 100000 in
theorem am_dk137 : am_dok cX11_plan am_w137 := by unfold am_dok; decide +kernel
set_option maxRecDepth 100000 in
theorem am_zk138 : am_zok 138 am_q138 am_w138 = true := by decide +kernel
set_option maxRecDepth 100000 in
theorem am_dk138 : am_dok cX11_sentence am_w138 := by unfold am_dok; decide +kernel
set_option maxRecDepth 100000 in
theorem am_zk139 : am_zok 139 am_q139 am_w139 = true := by decide +kernel
set_option maxRecDepth 100000 in
theorem am_dk139 : am_dok cX11_tellFault am_w139 := by unfold am_dok; decide +kernel
set_option maxRecDepth 100000 in
theorem am_zk140 : am_zok 140 am_q140 am_w140 = true := by decide +kernel
set_option maxRecDepth 100000 in
theorem am_dk140 : am_dok cX11_slice am_w140 := by unfold am_dok; decide +kernel
set_option maxRecDepth 100000 in
theorem am_zk141 : am_zok 141 am_q141 am_w141 = true := by decide +kernel
set_option maxRecDepth 100000 in
theorem am_dk141 : am_dok cX11_guest am_w141 := by unfold am_dok; decide +kernel
set_option maxRecDepth 100000 in
theorem am_zk142 : am_zok 142 am_q142 am_w142 = true := by decide +kernel
set_option maxRecDepth 100000 in
theorem am_dk142 : am_dok cX11_sort am_w142 := by unfold am_dok; decide +kernel
set_option maxRecDepth 100000 in
theorem am_zk143 : am_zok 143 am_q143 am_w143 = true := by decide +kernel
set_option maxRecDepth 100000 in
theorem am_dk143 : am_dok cX11_count am_w143 := by unfold am_dok; decide +kernel
set_option maxRecDepth 100000 in
theorem am_zk144 : am_zok 144 am_q144 am_w144 = true := by decide +kernel
set_option maxRecDepth 100000 in
theorem am_dk144 : am_dok cX11_bound am_w144 := by unfold am_dok; decide +kernel
set_option maxRecDepth 100000 in
theorem am_zk145 : am_zok 145 am_q145 am_w145 = true := by decide +kernel
set_option maxRecDepth 100000 in
theorem am_dk145 : am_dok cX11_judge am_w145 := by unfold am_dok; decide +kernel
set_option maxRecDepth 100000 in
theorem am_zk146 : am_zok 146 am_q146 am_w146 = true := by decide +kernel
set_option maxRecDepth 100000 in
theorem am_dk146 : am_dok cX11_why am_w146 := by unfold am_dok; decide +kernel
set_option maxRecDepth 100000 in
theorem am_zk147 : am_zok 147 am_q147 am_w147 = true := by decide +kernel
set_option maxRecDepth 100000 in
theorem am_dk147 : am_dok cX11_go am_w147 := by unfold am_dok; decide +kernel
set_option maxRecDepth 100000 in
theorem am_zk148 : am_zok 148 am_q148 am_w148 = true := by decide +kernel
set_option maxRecDepth 100000 in
theorem am_dk148 : am_dok cX11_left am_w148 := by unfold am_dok; decide +kernel
set_option maxRecDepth 100000 in
theorem am_zk149 : am_zok 149 am_q149 am_w149 = true := by decide +kernel
set_option maxRecDepth 100000 in
theorem am_dk149 : am_dok cX11_ends am_w149 := by unfold am_dok; decide +kernel
set_option maxRecDepth 100000 in
theorem am_zk150 : am_zok 150 am_q150 am_w150 = true := by decide +kernel
set_option maxRecDepth 100000 in
theorem am_dk150 : am_dok cX11_done am_w150 := by unfold am_dok; decide +kernel
set_option maxRecDepth 100000 in
theorem am_zk151 : am_zok 151 am_q151 am_w151 = true := by decide +kernel
set_option maxRecDepth 100000 in
theorem am_dk151 : am_dok cX11_on am_w151 := by unfold am_dok; decide +kernel
set_option maxRecDepth 100000 in
theorem am_zk152 : am_zok 152 am_q152 am_w152 = true := by decide +kernel
set_option maxRecDepth 100000 in
theorem am_dk152 : am_dok cX11_idle am_w152 := by unfold am_dok; decide +kernel
set_option maxRecDepth 100000 in
theorem am_zk153 : am_zok 153 am_q153 am_w153 = true := by decide +kernel
set_option maxRecDepth 100000 in
theorem am_dk153 : am_dok cX11_forgotten am_w153 := by unfold am_dok; decide +kernel
set_option maxRecDepth 100000 in
theorem am_zk154 : am_zok 154 am_q154 am_w154 = true := by decide +kernel
set_option maxRecDepth 100000 in
theorem am_dk154 : am_dok cX11_write am_w154 := by unfold am_dok; decide +kernel
set_option maxRecDepth 100000 in
theorem am_zk155 : am_zok 155 am_q155 am_w155 = true := by decide +kernel
set_option maxRecDepth 100000 in
theorem am_dk155 : am_dok cX11_writeName am_w155 := by unfold am_dok; decide +kernel
set_option maxRecDepth 100000 in
theorem am_zk156 : am_zok 156 am_q156 am_w156 = true := by decide +kernel
set_option maxRecDepth 100000 in
theorem am_dk156 : am_dok cX11_writeNumber am_w156 := by unfold am_dok; decide +kernel
set_option maxRecDepth 100000 in
theorem am_zk157 : am_zok 157 am_q157 am_w157 = true := by decide +kernel
set_option maxRecDepth 100000 in
theorem am_dk157 : am_dok cX11_writeByte am_w157 := by unfold am_dok; decide +kernel
set_option maxRecDepth 100000 in
theorem am_zk158 : am_zok 158 am_q158 am_w158 = true := by decide +kernel
set_option maxRecDepth 100000 in
theorem am_dk158 : am_dok cX11_byteAt am_w158 := by unfold am_dok; decide +kernel
set_option maxRecDepth 100000 in
theorem am_zk159 : am_zok 159 am_q159 am_w159 = true := by decide +kernel
set_option maxRecDepth 100000 in
theorem am_dk159 : am_dok cX11_several am_w159 := by unfold am_dok; decide +kernel
set_option maxRecDepth 100000 in
theorem am_zk160 : am_zok 160 am_q160 am_w160 = true := by decide +kernel
set_option maxRecDepth 100000 in
theorem am_dk160 : am_dok cX11_one am_w160 := by unfold am_dok; decide +kernel
set_option maxRecDepth 100000 in
theorem am_zk161 : am_zok 161 am_q161 am_w161 = true := by decide +kernel
set_option maxRecDepth 100000 in
theorem am_dk161 : am_dok cX11_masters am_w161 := by unfold am_dok; decide +kernel
