set_option maxRecDepth 100000 in
theorem am_zk162 : am_zok 162 am_q162 am_w162 = true := by decide +kernel
set_option maxRecDepth 100000 in
theorem am_dk162 : am_dok cX11_cook am_w162 := by unfold am_dok; decide +kernel
set_option maxRecDepth 100000 in
theorem am_zk163 : am_zok 163 am_q163 am_w163 = true := by decide +kernel
set_option maxRecDepth 100000 in
theorem am_dk163 : am_dok cX11_best am_w163 := by unfold am_dok; decide +kernel
set_option maxRecDepth 100000 in
theorem am_zk164 : am_zok 164 am_q164 am_w164 = true := by decide +kernel
set_option maxRecDepth 100000 in
theorem am_dk164 : am_dok cX11_adoptSpare am_w164 := by unfold am_dok; decide +kernel
set_option maxRecDepth 100000 in
theorem am_zk165 : am_zok 165 am_q165 am_w165 = true := by decide +kernel
set_option maxRecDepth 100000 in
theorem am_dk165 : am_dok cX11_add am_w165 := by unfold am_dok; decide +kernel
set_option maxRecDepth 100000 in
theorem am_zk166 : am_zok 166 am_q166 am_w166 = true := by decide +kernel
set_option maxRecDepth 100000 in
theorem am_dk166 : am_dok cX11_drop am_w166 := by unfold am_dok; decide +kernel
set_option maxRecDepth 100000 in
theorem am_zk167 : am_zok 167 am_q167 am_w167 = true := by decide +kernel
set_option maxRecDepth 100000 in
theorem am_dk167 : am_dok cX11_later am_w167 := by unfold am_dok; decide +kernel
set_option maxRecDepth 100000 in
theorem am_zk168 : am_zok 168 am_q168 am_w168 = true := by decide +kernel
set_option maxRecDepth 100000 in
theorem am_dk168 : am_dok cX11_early am_w168 := by unfold am_dok; decide +kernel
set_option maxRecDepth 100000 in
theorem am_zk169 : am_zok 169 am_q169 am_w169 = true := by decide +kernel
set_option maxRecDepth 100000 in
theorem am_dk169 : am_dok cX11_undo am_w169 := by unfold am_dok; decide +kernel
set_option maxRecDepth 100000 in
theorem am_zk170 : am_zok 170 am_q170 am_w170 = true := by decide +kernel
set_option maxRecDepth 100000 in
theorem am_dk170 : am_dok cX11_fewest am_w170 := by unfold am_dok; decide +kernel
set_option maxRecDepth 100000 in
theorem am_zk171 : am_zok 171 am_q171 am_w171 = true := by decide +kernel
set_option maxRecDepth 100000 in
theorem am_dk171 : am_dok cX11_fewestPlaces am_w171 := by unfold am_dok; decide +kernel
set_option maxRecDepth 100000 in
theorem am_zk172 : am_zok 172 am_q172 am_w172 = true := by decide +kernel
set_option maxRecDepth 100000 in
theorem am_dk172 : am_dok cX11_alike am_w172 := by unfold am_dok; decide +kernel
set_option maxRecDepth 100000 in
theorem am_zk173 : am_zok 173 am_q173 am_w173 = true := by decide +kernel
set_option maxRecDepth 100000 in
theorem am_dk173 : am_dok cX11_alikeAt am_w173 := by unfold am_dok; decide +kernel
set_option maxRecDepth 100000 in
theorem am_zk174 : am_zok 174 am_q174 am_w174 = true := by decide +kernel
set_option maxRecDepth 100000 in
theorem am_dk174 : am_dok cX11_hotel am_w174 := by unfold am_dok; decide +kernel
set_option maxRecDepth 100000 in
theorem am_zk175 : am_zok 175 am_q175 am_w175 = true := by decide +kernel
set_option maxRecDepth 100000 in
theorem am_dk175 : am_dok cX11_pans am_w175 := by unfold am_dok; decide +kernel
set_option maxRecDepth 100000 in
theorem am_zk176 : am_zok 176 am_q176 am_w176 = true := by decide +kernel
set_option maxRecDepth 100000 in
theorem am_dk176 : am_dok cX11_served am_w176 := by unfold am_dok; decide +kernel
set_option maxRecDepth 100000 in
theorem am_zk177 : am_zok 177 am_q177 am_w177 = true := by decide +kernel
set_option maxRecDepth 100000 in
theorem am_dk177 : am_dok cX11_servedAt am_w177 := by unfold am_dok; decide +kernel
set_option maxRecDepth 100000 in
theorem am_zk178 : am_zok 178 am_q178 am_w178 = true := by decide +kernel
set_option maxRecDepth 100000 in
theorem am_dk178 : am_dok cX11_mean am_w178 := by unfold am_dok; decide +kernel
set_option maxRecDepth 100000 in
theorem am_zk179 : am_zok 179 am_q179 am_w179 = true := by decide +kernel
set_option maxRecDepth 100000 in
theorem am_dk179 : am_dok cX11_greatestShared am_w179 := by unfold am_dok; decide +kernel
set_option maxRecDepth 100000 in
theorem am_zk180 : am_zok 180 am_q180 am_w180 = true := by decide +kernel
set_option maxRecDepth 100000 in
theorem am_dk180 : am_dok cX11_brown am_w180 := by unfold am_dok; decide +kernel
set_option maxRecDepth 100000 in
theorem am_zk181 : am_zok 181 am_q181 am_w181 = true := by decide +kernel
set_option maxRecDepth 100000 in
theorem am_dk181 : am_dok cX11_waysToBrown am_w181 := by unfold am_dok; decide +kernel
set_option maxRecDepth 100000 in
theorem am_zk182 : am_zok 182 am_q182 am_w182 = true := by decide +kernel
set_option maxRecDepth 100000 in
theorem am_dk182 : am_dok cX11_waysOfMinute am_w182 := by unfold am_dok; decide +kernel
set_option maxRecDepth 100000 in
theorem am_zk183 : am_zok 183 am_q183 am_w183 = true := by decide +kernel
set_option maxRecDepth 100000 in
theorem am_dk183 : am_dok cX11_morning am_w183 := by unfold am_dok; decide +kernel
set_option maxRecDepth 100000 in
theorem am_zk184 : am_zok 184 am_q184 am_w184 = true := by decide +kernel
set_option maxRecDepth 100000 in
theorem am_dk184 : am_dok cX11_mornings am_w184 := by unfold am_dok; decide +kernel
set_option maxRecDepth 100000 in
theorem am_zk185 : am_zok 185 am_q185 am_w185 = true := by decide +kernel
set_option maxRecDepth 100000 in
theorem am_dk185 : am_dok cX11_said am_w185 := by unfold am_dok; decide +kernel
set_option maxRecDepth 100000 in
theorem am_zk186 : am_zok 186 am_q186 am_w186 = true := by decide +kernel
set_option maxRecDepth 100000 in
theorem am_dk186 : am_dok cX11_image am_w186 := by unfold am_dok; decide +kernel
set_option maxRecDepth 100000 in
theorem am_zk187 : am_zok 187 am_q187 am_w187 = true := by decide +kernel
set_option maxRecDepth 100000 in
theorem am_dk187 : am_dok cX11_restore am_w187 := by unfold am_dok; decide +kernel
set_option maxRecDepth 100000 in
theorem am_zk188 : am_zok 188 am_q188 am_w188 = true := by decide +kernel
set_option maxRecDepth 100000 in
theorem am_dk188 : am_dok cX12_init am_w188 := by unfold am_dok; decide +kernel
set_option maxRecDepth 100000 in
theorem am_zk189 : am_zok 189 am_q189 am_w189 = true := by decide +kernel
set_option maxRecDepth 100000 in
theorem am_dk189 : am_dok cX12_thrown am_w189 := by unfold am_dok; decide +kernel
set_option maxRecDepth 100000 in
theorem am_zk190 : am_zok 190 am_q190 am_w190 = true := by decide +kernel
set_option maxRecDepth 100000 in
theorem am_dk190 : am_dok cX12_refuse am_w190 := by unfold am_dok; decide +kernel
set_option maxRecDepth 100000 in
theorem am_zk191 : am_zok 191 am_q191 am_w191 = true := by decide +kernel
set_option maxRecDepth 100000 in
theorem am_dk191 : am_dok cX12_refuseLong am_w191 := by unfold am_dok; decide +kernel
set_option maxRecDepth 100000 in
theorem am_zk192 : am_zok 192 am_q192 am_w192 = true := by decide +kernel
set_option maxRecDepth 100000 in
theorem am_dk192 : am_dok cX12_come am_w192 := by unfold am_dok; decide +kernel
set_option maxRecDepth 100000 in
theorem am_zk193 : am_zok 193 am_q193 am_w193 = true := by decide +kernel
set_option maxRecDepth 100000 in
theorem am_dk193 : am_dok cX12_feed am_w193 := by unfold am_dok; decide +kernel
set_option maxRecDepth 100000 in
theorem am_zk194 : am_zok 194 am_q194 am_w194 = true := by decide +kernel
set_option maxRecDepth 100000 in
theorem am_dk194 : am_dok cX12_end am_w194 := by unfold am_dok; decide +kernel
set_option maxRecDepth 100000 in
theorem am_zk195 : am_zok 195 am_q195 am_w195 = true := by decide +kernel
set_option maxRecDepth 100000 in
theorem am_dk195 : am_dok cX12_take am_w195 := by unfold am_dok; decide +kernel
set_option maxRecDepth 100000 in
theorem am_zk196 : am_zok 196 am_q196 am_w196 = true := by decide +kernel
set_option maxRecDepth 100000 in
theorem am_dk196 : am_dok cX12_isIn am_w196 := by unfold am_dok; decide +kernel
set_option maxRecDepth 100000 in
theorem am_zk197 : am_zok 197 am_q197 am_w197 = true := by decide +kernel
set_option maxRecDepth 100000 in
theorem am_dk197 : am_dok cX12_has am_w197 := by unfold am_dok; decide +kernel
set_option maxRecDepth 100000 in
theorem am_zk198 : am_zok 198 am_q198 am_w198 = true := by decide +kernel
set_option maxRecDepth 100000 in
theorem am_dk198 : am_dok cX12_bits am_w198 := by unfold am_dok; decide +kernel
set_option maxRecDepth 100000 in
theorem am_zk199 : am_zok 199 am_q199 am_w199 = true := by decide +kernel
set_option maxRecDepth 100000 in
theorem am_dk199 : am_dok cX12_up am_w199 := by unfold am_dok; decide +kernel
set_option maxRecDepth 100000 in
theorem am_zk200 : am_zok 200 am_q200 am_w200 = true := by decide +kernel
set_option maxRecDepth 100000 in
theorem am_dk200 : am_dok cX12_most am_w200 := by unfold am_dok; decide +kernel
set_option maxRecDepth 100000 in
theorem am_zk201 : am_zok 201 am_q201 am_w201 = true := by decide +kernel
set_option maxRecDepth 100000 in
theorem am_dk201 : am_dok cX12_common am_w201 := by unfold am_dok; decide +kernel
set_option maxRecDepth 100000 in
theorem am_zk202 : am_zok 202 am_q202 am_w202 = true := by decide +kernel
set_option maxRecDepth 100000 in
theorem am_dk202 : am_dok cX12_tapeAt am_w202 := by unfold am_dok; decide +kernel
set_option maxRecDepth 100000 in
theorem am_zk203 : am_zok 203 am_q203 am_w203 = true := by decide +kernel
set_option maxRecDepth 100000 in
theorem am_dk203 : am_dok cX12_isDigit am_w203 := by unfold am_dok; decide +kernel
set_option maxRecDepth 100000 in
theorem am_zk204 : am_zok 204 am_q204 am_w204 = true := by decide +kernel
set_option maxRecDepth 100000 in
theorem am_dk204 : am_dok cX12_isLetter am_w204 := by unfold am_dok; decide +kernel
set_option maxRecDepth 100000 in
theorem am_zk205 : am_zok 205 am_q205 am_w205 = true := by decide +kernel
set_option maxRecDepth 100000 in
theorem am_dk205 : am_dok cX12_next am_w205 := by unfold am_dok; decide +kernel
