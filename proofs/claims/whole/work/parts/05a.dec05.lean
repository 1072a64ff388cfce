set_option maxRecDepth 100000 in
theorem am_zk206 : am_zok 206 am_q206 am_w206 = true := by decide +kernel
set_option maxRecDepth 100000 in
theorem am_dk206 : am_dok cX12_spelt am_w206 := by unfold am_dok; decide +kernel
set_option maxRecDepth 100000 in
theorem am_zk207 : am_zok 207 am_q207 am_w207 = true := by decide +kernel
set_option maxRecDepth 100000 in
theorem am_dk207 : am_dok cX12_wordOf am_w207 := by unfold am_dok; decide +kernel
set_option maxRecDepth 100000 in
theorem am_zk208 : am_zok 208 am_q208 am_w208 = true := by decide +kernel
set_option maxRecDepth 100000 in
theorem am_dk208 : am_dok cX12_isWord am_w208 := by unfold am_dok; decide +kernel
set_option maxRecDepth 100000 in
theorem am_zk209 : am_zok 209 am_q209 am_w209 = true := by decide +kernel
set_option maxRecDepth 100000 in
theorem am_dk209 : am_dok cX12_isSign am_w209 := by unfold am_dok; decide +kernel
set_option maxRecDepth 100000 in
theorem am_zk210 : am_zok 210 am_q210 am_w210 = true := by decide +kernel
set_option maxRecDepth 100000 in
theorem am_dk210 : am_dok cX12_isName am_w210 := by unfold am_dok; decide +kernel
set_option maxRecDepth 100000 in
theorem am_zk211 : am_zok 211 am_q211 am_w211 = true := by decide +kernel
set_option maxRecDepth 100000 in
theorem am_dk211 : am_dok cX12_bad am_w211 := by unfold am_dok; decide +kernel
set_option maxRecDepth 100000 in
theorem am_zk212 : am_zok 212 am_q212 am_w212 = true := by decide +kernel
set_option maxRecDepth 100000 in
theorem am_dk212 : am_dok cX12_readNumber am_w212 := by unfold am_dok; decide +kernel
set_option maxRecDepth 100000 in
theorem am_zk213 : am_zok 213 am_q213 am_w213 = true := by decide +kernel
set_option maxRecDepth 100000 in
theorem am_dk213 : am_dok cX12_readEnd am_w213 := by unfold am_dok; decide +kernel
set_option maxRecDepth 100000 in
theorem am_zk214 : am_zok 214 am_q214 am_w214 = true := by decide +kernel
set_option maxRecDepth 100000 in
theorem am_dk214 : am_dok cX12_begin am_w214 := by unfold am_dok; decide +kernel
set_option maxRecDepth 100000 in
theorem am_zk215 : am_zok 215 am_q215 am_w215 = true := by decide +kernel
set_option maxRecDepth 100000 in
theorem am_dk215 : am_dok cX12_plain am_w215 := by unfold am_dok; decide +kernel
set_option maxRecDepth 100000 in
theorem am_zk216 : am_zok 216 am_q216 am_w216 = true := by decide +kernel
set_option maxRecDepth 100000 in
theorem am_dk216 : am_dok cX12_lay am_w216 := by unfold am_dok; decide +kernel
set_option maxRecDepth 100000 in
theorem am_zk217 : am_zok 217 am_q217 am_w217 = true := by decide +kernel
set_option maxRecDepth 100000 in
theorem am_dk217 : am_dok cX12_findIn am_w217 := by unfold am_dok; decide +kernel
set_option maxRecDepth 100000 in
theorem am_zk218 : am_zok 218 am_q218 am_w218 = true := by decide +kernel
set_option maxRecDepth 100000 in
theorem am_dk218 : am_dok cX12_readOnce am_w218 := by unfold am_dok; decide +kernel
set_option maxRecDepth 100000 in
theorem am_zk219 : am_zok 219 am_q219 am_w219 = true := by decide +kernel
set_option maxRecDepth 100000 in
theorem am_dk219 : am_dok cX12_readNew am_w219 := by unfold am_dok; decide +kernel
set_option maxRecDepth 100000 in
theorem am_zk220 : am_zok 220 am_q220 am_w220 = true := by decide +kernel
set_option maxRecDepth 100000 in
theorem am_dk220 : am_dok cX12_readSlice am_w220 := by unfold am_dok; decide +kernel
set_option maxRecDepth 100000 in
theorem am_zk221 : am_zok 221 am_q221 am_w221 = true := by decide +kernel
set_option maxRecDepth 100000 in
theorem am_dk221 : am_dok cX12_readGuest am_w221 := by unfold am_dok; decide +kernel
set_option maxRecDepth 100000 in
theorem am_zk222 : am_zok 222 am_q222 am_w222 = true := by decide +kernel
set_option maxRecDepth 100000 in
theorem am_dk222 : am_dok cX12_readSort am_w222 := by unfold am_dok; decide +kernel
set_option maxRecDepth 100000 in
theorem am_zk223 : am_zok 223 am_q223 am_w223 = true := by decide +kernel
set_option maxRecDepth 100000 in
theorem am_dk223 : am_dok cX12_readBurn am_w223 := by unfold am_dok; decide +kernel
set_option maxRecDepth 100000 in
theorem am_zk224 : am_zok 224 am_q224 am_w224 = true := by decide +kernel
set_option maxRecDepth 100000 in
theorem am_dk224 : am_dok cX12_readPlain am_w224 := by unfold am_dok; decide +kernel
set_option maxRecDepth 100000 in
theorem am_zk225 : am_zok 225 am_q225 am_w225 = true := by decide +kernel
set_option maxRecDepth 100000 in
theorem am_dk225 : am_dok cX12_readLine am_w225 := by unfold am_dok; decide +kernel
set_option maxRecDepth 100000 in
theorem am_zk226 : am_zok 226 am_q226 am_w226 = true := by decide +kernel
set_option maxRecDepth 100000 in
theorem am_dk226 : am_dok cX12_kitchen am_w226 := by unfold am_dok; decide +kernel
set_option maxRecDepth 100000 in
theorem am_zk227 : am_zok 227 am_q227 am_w227 = true := by decide +kernel
set_option maxRecDepth 100000 in
theorem am_dk227 : am_dok cX12_fault am_w227 := by unfold am_dok; decide +kernel
set_option maxRecDepth 100000 in
theorem am_zk228 : am_zok 228 am_q228 am_w228 = true := by decide +kernel
set_option maxRecDepth 100000 in
theorem am_dk228 : am_dok cX12_slices am_w228 := by unfold am_dok; decide +kernel
set_option maxRecDepth 100000 in
theorem am_zk229 : am_zok 229 am_q229 am_w229 = true := by decide +kernel
set_option maxRecDepth 100000 in
theorem am_dk229 : am_dok cX12_isSlice am_w229 := by unfold am_dok; decide +kernel
set_option maxRecDepth 100000 in
theorem am_zk230 : am_zok 230 am_q230 am_w230 = true := by decide +kernel
set_option maxRecDepth 100000 in
theorem am_dk230 : am_dok cX12_needs am_w230 := by unfold am_dok; decide +kernel
set_option maxRecDepth 100000 in
theorem am_zk231 : am_zok 231 am_q231 am_w231 = true := by decide +kernel
set_option maxRecDepth 100000 in
theorem am_dk231 : am_dok cX12_isOnce am_w231 := by unfold am_dok; decide +kernel
set_option maxRecDepth 100000 in
theorem am_zk232 : am_zok 232 am_q232 am_w232 = true := by decide +kernel
set_option maxRecDepth 100000 in
theorem am_dk232 : am_dok cX12_slice am_w232 := by unfold am_dok; decide +kernel
set_option maxRecDepth 100000 in
theorem am_zk233 : am_zok 233 am_q233 am_w233 = true := by decide +kernel
set_option maxRecDepth 100000 in
theorem am_dk233 : am_dok cX12_guest am_w233 := by unfold am_dok; decide +kernel
set_option maxRecDepth 100000 in
theorem am_zk234 : am_zok 234 am_q234 am_w234 = true := by decide +kernel
set_option maxRecDepth 100000 in
theorem am_dk234 : am_dok cX12_sort am_w234 := by unfold am_dok; decide +kernel
set_option maxRecDepth 100000 in
theorem am_zk235 : am_zok 235 am_q235 am_w235 = true := by decide +kernel
set_option maxRecDepth 100000 in
theorem am_dk235 : am_dok cX12_goes am_w235 := by unfold am_dok; decide +kernel
set_option maxRecDepth 100000 in
theorem am_zk236 : am_zok 236 am_q236 am_w236 = true := by decide +kernel
set_option maxRecDepth 100000 in
theorem am_dk236 : am_dok cX12_go5 am_w236 := by unfold am_dok; decide +kernel
set_option maxRecDepth 100000 in
theorem am_zk237 : am_zok 237 am_q237 am_w237 = true := by decide +kernel
set_option maxRecDepth 100000 in
theorem am_dk237 : am_dok cX12_from am_w237 := by unfold am_dok; decide +kernel
set_option maxRecDepth 100000 in
theorem am_zk238 : am_zok 238 am_q238 am_w238 = true := by decide +kernel
set_option maxRecDepth 100000 in
theorem am_dk238 : am_dok cX12_behind am_w238 := by unfold am_dok; decide +kernel
set_option maxRecDepth 100000 in
theorem am_zk239 : am_zok 239 am_q239 am_w239 = true := by decide +kernel
set_option maxRecDepth 100000 in
theorem am_dk239 : am_dok cX12_lays am_w239 := by unfold am_dok; decide +kernel
set_option maxRecDepth 100000 in
theorem am_zk240 : am_zok 240 am_q240 am_w240 = true := by decide +kernel
set_option maxRecDepth 100000 in
theorem am_dk240 : am_dok cX12_snap am_w240 := by unfold am_dok; decide +kernel
set_option maxRecDepth 100000 in
theorem am_zk241 : am_zok 241 am_q241 am_w241 = true := by decide +kernel
set_option maxRecDepth 100000 in
theorem am_dk241 : am_dok cX12_undo am_w241 := by unfold am_dok; decide +kernel
set_option maxRecDepth 100000 in
theorem am_zk242 : am_zok 242 am_q242 am_w242 = true := by decide +kernel
set_option maxRecDepth 100000 in
theorem am_dk242 : am_dok cX12_readGo am_w242 := by unfold am_dok; decide +kernel
set_option maxRecDepth 100000 in
theorem am_zk243 : am_zok 243 am_q243 am_w243 = true := by decide +kernel
set_option maxRecDepth 100000 in
theorem am_dk243 : am_dok cX12_plan am_w243 := by unfold am_dok; decide +kernel
set_option maxRecDepth 100000 in
theorem am_zk244 : am_zok 244 am_q244 am_w244 = true := by decide +kernel
set_option maxRecDepth 100000 in
theorem am_dk244 : am_dok cX12_overlap am_w244 := by unfold am_dok; decide +kernel
set_option maxRecDepth 100000 in
theorem am_zk245 : am_zok 245 am_q245 am_w245 = true := by decide +kernel
set_option maxRecDepth 100000 in
theorem am_dk245 : am_dok cX12_wrong am_w245 := by unfold am_dok; decide +kernel
