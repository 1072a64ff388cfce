/-! the tables together -/
def am_mw (y : Nat) : Prop := am_ycw y ∈ am_uw ∧ am_ylb y = true
theorem am_mwg0 : ∀ j, j < 16 → am_ycw (0 + j) ∈ am_uw := by
  intro j hj
  match j, hj with
  | 0, _ => exact am_yc0
  | 1, _ => exact am_yc1
  | 2, _ => exact am_yc2
  | 3, _ => exact am_yc3
  | 4, _ => exact am_yc4
  | 5, _ => exact am_yc5
  | 6, _ => exact am_yc6
  | 7, _ => exact am_yc7
  | 8, _ => exact am_yc8
  | 9, _ => exact am_yc9
  | 10, _ => exact am_yc10
  | 11, _ => exact am_yc11
  | 12, _ => exact am_yc12
  | 13, _ => exact am_yc13
  | 14, _ => exact am_yc14
  | 15, _ => exact am_yc15
  | k + 16, h => omega
theorem am_mwg1 : ∀ j, j < 16 → am_ycw (16 + j) ∈ am_uw := by
  intro j hj
  match j, hj with
  | 0, _ => exact am_yc16
  | 1, _ => exact am_yc17
  | 2, _ => exact am_yc18
  | 3, _ => exact am_yc19
  | 4, _ => exact am_yc20
  | 5, _ => exact am_yc21
  | 6, _ => exact am_yc22
  | 7, _ => exact am_yc23
  | 8, _ => exact am_yc24
  | 9, _ => exact am_yc25
  | 10, _ => exact am_yc26
  | 11, _ => exact am_yc27
  | 12, _ => exact am_yc28
  | 13, _ => exact am_yc29
  | 14, _ => exact am_yc30
  | 15, _ => exact am_yc31
  | k + 16, h => omega
theorem am_mwg2 : ∀ j, j < 16 → am_ycw (32 + j) ∈ am_uw := by
  intro j hj
  match j, hj with
  | 0, _ => exact am_yc32
  | 1, _ => exact am_yc33
  | 2, _ => exact am_yc34
  | 3, _ => exact am_yc35
  | 4, _ => exact am_yc36
  | 5, _ => exact am_yc37
  | 6, _ => exact am_yc38
  | 7, _ => exact am_yc39
  | 8, _ => exact am_yc40
  | 9, _ => exact am_yc41
  | 10, _ => exact am_yc42
  | 11, _ => exact am_yc43
  | 12, _ => exact am_yc44
  | 13, _ => exact am_yc45
  | 14, _ => exact am_yc46
  | 15, _ => exact am_yc47
  | k + 16, h => omega
theorem am_mwg3 : ∀ j, j < 16 → am_ycw (48 + j) ∈ am_uw := by
  intro j hj
  match j, hj with
  | 0, _ => exact am_yc48
  | 1, _ => exact am_yc49
  | 2, _ => exact am_yc50
  | 3, _ => exact am_yc51
  | 4, _ => exact am_yc52
  | 5, _ => exact am_yc53
  | 6, _ => exact am_yc54
  | 7, _ => exact am_yc55
  | 8, _ => exact am_yc56
  | 9, _ => exact am_yc57
  | 10, _ => exact am_yc58
  | 11, _ => exact am_yc59
  | 12, _ => exact am_yc60
  | 13, _ => exact am_yc61
  | 14, _ => exact am_yc62
  | 15, _ => exact am_yc63
  | k + 16, h => omega
theorem am_mwg4 : ∀ j, j < 16 → am_ycw (64 + j) ∈ am_uw := by
  intro j hj
  match j, hj with
  | 0, _ => exact am_yc64
  | 1, _ => exact am_yc65
  | 2, _ => exact am_yc66
  | 3, _ => exact am_yc67
  | 4, _ => exact am_yc68
  | 5, _ => exact am_yc69
  | 6, _ => exact am_yc70
  | 7, _ => exact am_yc71
  | 8, _ => exact am_yc72
  | 9, _ => exact am_yc73
  | 10, _ => exact am_yc74
  | 11, _ => exact am_yc75
  | 12, _ => exact am_yc76
  | 13, _ => exact am_yc77
  | 14, _ => exact am_yc78
  | 15, _ => exact am_yc79
  | k + 16, h => omega
theorem am_mwg5 : ∀ j, j < 16 → am_ycw (80 + j) ∈ am_uw := by
  intro j hj
  match j, hj with
  | 0, _ => exact am_yc80
  | 1, _ => exact am_yc81
  | 2, _ => exact am_yc82
  | 3, _ => exact am_yc83
  | 4, _ => exact am_yc84
  | 5, _ => exact am_yc85
  | 6, _ => exact am_yc86
  | 7, _ => exact am_yc87
  | 8, _ => exact am_yc88
  | 9, _ => exact am_yc89
  | 10, _ => exact am_yc90
  | 11, _ => exact am_yc91
  | 12, _ => exact am_yc92
  | 13, _ => exact am_yc93
  | 14, _ => exact am_yc94
  | 15, _ => exact am_yc95
  | k + 16, h => omega
theorem am_mwg6 : ∀ j, j < 16 → am_ycw (96 + j) ∈ am_uw := by
  intro j hj
  match j, hj with
  | 0, _ => exact am_yc96
  | 1, _ => exact am_yc97
  | 2, _ => exact am_yc98
  | 3, _ => exact am_yc99
  | 4, _ => exact am_yc100
  | 5, _ => exact am_yc101
  | 6, _ => exact am_yc102
  | 7, _ => exact am_yc103
  | 8, _ => exact am_yc104
  | 9, _ => exact am_yc105
  | 10, _ => exact am_yc106
  | 11, _ => exact am_yc107
  | 12, _ => exact am_yc108
  | 13, _ => exact am_yc109
  | 14, _ => exact am_yc110
  | 15, _ => exact am_yc111
  | k + 16, h => omega
theorem am_mwg7 : ∀ j, j < 16 → am_ycw (112 + j) ∈ am_uw := by
  intro j hj
  match j, hj with
  | 0, _ => exact am_yc112
  | 1, _ => exact am_yc113
  | 2, _ => exact am_yc114
  | 3, _ => exact am_yc115
  | 4, _ => exact am_yc116
  | 5, _ => exact am_yc117
  | 6, _ => exact am_yc118
  | 7, _ => exact am_yc119
  | 8, _ => exact am_yc120
  | 9, _ => exact am_yc121
  | 10, _ => exact am_yc122
  | 11, _ => exact am_yc123
  | 12, _ => exact am_yc124
  | 13, _ => exact am_yc125
  | 14, _ => exact am_yc126
  | 15, _ => exact am_yc127
  | k + 16, h => omega
theorem am_mwg8 : ∀ j, j < 16 → am_ycw (128 + j) ∈ am_uw := by
  intro j hj
  match j, hj with
  | 0, _ => exact am_yc128
  | 1, _ => exact am_yc129
  | 2, _ => exact am_yc130
  | 3, _ => exact am_yc131
  | 4, _ => exact am_yc132
  | 5, _ => exact am_yc133
  | 6, _ => exact am_yc134
  | 7, _ => exact am_yc135
  | 8, _ => exact am_yc136
  | 9, _ => exact am_yc137
  | 10, _ => exact am_yc138
  | 11, _ => exact am_yc139
  | 12, _ => exact am_yc140
  | 13, _ => exact am_yc141
  | 14, _ => exact am_yc142
  | 15, _ => exact am_yc143
  | k + 16, h => omega
theorem am_mwg9 : ∀ j, j < 16 → am_ycw (144 + j) ∈ am_uw := by
  intro j hj
  match j, hj with
  | 0, _ => exact am_yc144
  | 1, _ => exact am_yc145
  | 2, _ => exact am_yc146
  | 3, _ => exact am_yc147
  | 4, _ => exact am_yc148
  | 5, _ => exact am_yc149
  | 6, _ => exact am_yc150
  | 7, _ => exact am_yc151
  | 8, _ => exact am_yc152
  | 9, _ => exact am_yc153
  | 10, _ => exact am_yc154
  | 11, _ => exact am_yc155
  | 12, _ => exact am_yc156
  | 13, _ => exact am_yc157
  | 14, _ => exact am_yc158
  | 15, _ => exact am_yc159
  | k + 16, h => omega
theorem am_mwg10 : ∀ j, j < 16 → am_ycw (160 + j) ∈ am_uw := by
  intro j hj
  match j, hj with
  | 0, _ => exact am_yc160
  | 1, _ => exact am_yc161
  | 2, _ => exact am_yc162
  | 3, _ => exact am_yc163
  | 4, _ => exact am_yc164
  | 5, _ => exact am_yc165
  | 6, _ => exact am_yc166
  | 7, _ => exact am_yc167
  | 8, _ => exact am_yc168
  | 9, _ => exact am_yc169
  | 10, _ => exact am_yc170
  | 11, _ => exact am_yc171
  | 12, _ => exact am_yc172
  | 13, _ => exact am_yc173
  | 14, _ => exact am_yc174
  | 15, _ => exact am_yc175
  | k + 16, h => omega
theorem am_mwg11 : ∀ j, j < 16 → am_ycw (176 + j) ∈ am_uw := by
  intro j hj
  match j, hj with
  | 0, _ => exact am_yc176
  | 1, _ => exact am_yc177
  | 2, _ => exact am_yc178
  | 3, _ => exact am_yc179
  | 4, _ => exact am_yc180
  | 5, _ => exact am_yc181
  | 6, _ => exact am_yc182
  | 7, _ => exact am_yc183
  | 8, _ => exact am_yc184
  | 9, _ => exact am_yc185
  | 10, _ => exact am_yc186
  | 11, _ => exact am_yc187
  | 12, _ => exact am_yc188
  | 13, _ => exact am_yc189
  | 14, _ => exact am_yc190
  | 15, _ => exact am_yc191
  | k + 16, h => omega
theorem am_mwg12 : ∀ j, j < 16 → am_ycw (192 + j) ∈ am_uw := by
  intro j hj
  match j, hj with
  | 0, _ => exact am_yc192
  | 1, _ => exact am_yc193
  | 2, _ => exact am_yc194
  | 3, _ => exact am_yc195
  | 4, _ => exact am_yc196
  | 5, _ => exact am_yc197
  | 6, _ => exact am_yc198
  | 7, _ => exact am_yc199
  | 8, _ => exact am_yc200
  | 9, _ => exact am_yc201
  | 10, _ => exact am_yc202
  | 11, _ => exact am_yc203
  | 12, _ => exact am_yc204
  | 13, _ => exact am_yc205
  | 14, _ => exact am_yc206
  | 15, _ => exact am_yc207
  | k + 16, h => omega
theorem am_mwg13 : ∀ j, j < 16 → am_ycw (208 + j) ∈ am_uw := by
  intro j hj
  match j, hj with
  | 0, _ => exact am_yc208
  | 1, _ => exact am_yc209
  | 2, _ => exact am_yc210
  | 3, _ => exact am_yc211
  | 4, _ => exact am_yc212
  | 5, _ => exact am_yc213
  | 6, _ => exact am_yc214
  | 7, _ => exact am_yc215
  | 8, _ => exact am_yc216
  | 9, _ => exact am_yc217
  | 10, _ => exact am_yc218
  | 11, _ => exact am_yc219
  | 12, _ => exact am_yc220
  | 13, _ => exact am_yc221
  | 14, _ => exact am_yc222
  | 15, _ => exact am_yc223
  | k + 16, h => omega
theorem am_mwg14 : ∀ j, j < 16 → am_ycw (224 + j) ∈ am_uw := by
  intro j hj
  match j, hj with
  | 0, _ => exact am_yc224
  | 1, _ => exact am_yc225
  | 2, _ => exact am_yc226
  | 3, _ => exact am_yc227
  | 4, _ => exact am_yc228
  | 5, _ => exact am_yc229
  | 6, _ => exact am_yc230
  | 7, _ => exact am_yc231
  | 8, _ => exact am_yc232
  | 9, _ => exact am_yc233
  | 10, _ => exact am_yc234
  | 11, _ => exact am_yc235
  | 12, _ => exact am_yc236
  | 13, _ => exact am_yc237
  | 14, _ => exact am_yc238
  | 15, _ => exact am_yc239
  | k + 16, h => omega
theorem am_mwg15 : ∀ j, j < 16 → am_ycw (240 + j) ∈ am_uw := by
  intro j hj
  match j, hj with
  | 0, _ => exact am_yc240
  | 1, _ => exact am_yc241
  | 2, _ => exact am_yc242
  | 3, _ => exact am_yc243
  | 4, _ => exact am_yc244
  | 5, _ => exact am_yc245
  | 6, _ => exact am_yc246
  | 7, _ => exact am_yc247
  | 8, _ => exact am_yc248
  | 9, _ => exact am_yc249
  | 10, _ => exact am_yc250
  | 11, _ => exact am_yc251
  | 12, _ => exact am_yc252
  | 13, _ => exact am_yc253
  | 14, _ => exact am_yc254
  | 15, _ => exact am_yc255
  | k + 16, h => omega
theorem am_mwg16 : ∀ j, j < 16 → am_ycw (256 + j) ∈ am_uw := by
  intro j hj
  match j, hj with
  | 0, _ => exact am_yc256
  | 1, _ => exact am_yc257
  | 2, _ => exact am_yc258
  | 3, _ => exact am_yc259
  | 4, _ => exact am_yc260
  | 5, _ => exact am_yc261
  | 6, _ => exact am_yc262
  | 7, _ => exact am_yc263
  | 8, _ => exact am_yc264
  | 9, _ => exact am_yc265
  | 10, _ => exact am_yc266
  | 11, _ => exact am_yc267
  | 12, _ => exact am_yc268
  | 13, _ => exact am_yc269
  | 14, _ => exact am_yc270
  | 15, _ => exact am_yc271
  | k + 16, h => omega
theorem am_mwg17 : ∀ j, j < 16 → am_ycw (272 + j) ∈ am_uw := by
  intro j hj
  match j, hj with
  | 0, _ => exact am_yc272
  | 1, _ => exact am_yc273
  | 2, _ => exact am_yc274
  | 3, _ => exact am_yc275
  | 4, _ => exact am_yc276
  | 5, _ => exact am_yc277
  | 6, _ => exact am_yc278
  | 7, _ => exact am_yc279
  | 8, _ => exact am_yc280
  | 9, _ => exact am_yc281
  | 10, _ => exact am_yc282
  | 11, _ => exact am_yc283
  | 12, _ => exact am_yc284
  | 13, _ => exact am_yc285
  | 14, _ => exact am_yc286
  | 15, _ => exact am_yc287
  | k + 16, h => omega
theorem am_mwg18 : ∀ j, j < 16 → am_ycw (288 + j) ∈ am_uw := by
  intro j hj
  match j, hj with
  | 0, _ => exact am_yc288
  | 1, _ => exact am_yc289
  | 2, _ => exact am_yc290
  | 3, _ => exact am_yc291
  | 4, _ => exact am_yc292
  | 5, _ => exact am_yc293
  | 6, _ => exact am_yc294
  | 7, _ => exact am_yc295
  | 8, _ => exact am_yc296
  | 9, _ => exact am_yc297
  | 10, _ => exact am_yc298
  | 11, _ => exact am_yc299
  | 12, _ => exact am_yc300
  | 13, _ => exact am_yc301
  | 14, _ => exact am_yc302
  | 15, _ => exact am_yc303
  | k + 16, h => omega
theorem am_mwg19 : ∀ j, j < 16 → am_ycw (304 + j) ∈ am_uw := by
  intro j hj
  match j, hj with
  | 0, _ => exact am_yc304
  | 1, _ => exact am_yc305
  | 2, _ => exact am_yc306
  | 3, _ => exact am_yc307
  | 4, _ => exact am_yc308
  | 5, _ => exact am_yc309
  | 6, _ => exact am_yc310
  | 7, _ => exact am_yc311
  | 8, _ => exact am_yc312
  | 9, _ => exact am_yc313
  | 10, _ => exact am_yc314
  | 11, _ => exact am_yc315
  | 12, _ => exact am_yc316
  | 13, _ => exact am_yc317
  | 14, _ => exact am_yc318
  | 15, _ => exact am_yc319
  | k + 16, h => omega
theorem am_mwg20 : ∀ j, j < 9 → am_ycw (320 + j) ∈ am_uw := by
  intro j hj
  match j, hj with
  | 0, _ => exact am_yc320
  | 1, _ => exact am_yc321
  | 2, _ => exact am_yc322
  | 3, _ => exact am_yc323
  | 4, _ => exact am_yc324
  | 5, _ => exact am_yc325
  | 6, _ => exact am_yc326
  | 7, _ => exact am_yc327
  | 8, _ => exact am_yc328
  | k + 9, h => omega
theorem am_tkg0 : ∀ j, j < 16 → am_zok (0 + j) (am_tab (0 + j)) (am_wab (0 + j)) = true ∧ am_dok (am_code (0 + j)) (am_wab (0 + j)) := by
  intro j hj
  match j, hj with
  | 0, _ => exact ⟨am_zk0, am_dk0⟩
  | 1, _ => exact ⟨am_zk1, am_dk1⟩
  | 2, _ => exact ⟨am_zk2, am_dk2⟩
  | 3, _ => exact ⟨am_zk3, am_dk3⟩
  | 4, _ => exact ⟨am_zk4, am_dk4⟩
  | 5, _ => exact ⟨am_zk5, am_dk5⟩
  | 6, _ => exact ⟨am_zk6, am_dk6⟩
  | 7, _ => exact ⟨am_zk7, am_dk7⟩
  | 8, _ => exact ⟨am_zk8, am_dk8⟩
  | 9, _ => exact ⟨am_zk9, am_dk9⟩
  | 10, _ => exact ⟨am_zk10, am_dk10⟩
  | 11, _ => exact ⟨am_zk11, am_dk11⟩
  | 12, _ => exact ⟨am_zk12, am_dk12⟩
  | 13, _ => exact ⟨am_zk13, am_dk13⟩
  | 14, _ => exact ⟨am_zk14, am_dk14⟩
  | 15, _ => exact ⟨am_zk15, am_dk15⟩
  | k + 16, h => omega
theorem am_tkg1 : ∀ j, j < 16 → am_zok (16 + j) (am_tab (16 + j)) (am_wab (16 + j)) = true ∧ am_dok (am_code (16 + j)) (am_wab (16 + j)) := by
  intro j hj
  match j, hj with
  | 0, _ => exact ⟨am_zk16, am_dk16⟩
  | 1, _ => exact ⟨am_zk17, am_dk17⟩
  | 2, _ => exact ⟨am_zk18, am_dk18⟩
  | 3, _ => exact ⟨am_zk19, am_dk19⟩
  | 4, _ => exact ⟨am_zk20, am_dk20⟩
  | 5, _ => exact ⟨am_zk21, am_dk21⟩
  | 6, _ => exact ⟨am_zk22, am_dk22⟩
  | 7, _ => exact ⟨am_zk23, am_dk23⟩
  | 8, _ => exact ⟨am_zk24, am_dk24⟩
  | 9, _ => exact ⟨am_zk25, am_dk25⟩
  | 10, _ => exact ⟨am_zk26, am_dk26⟩
  | 11, _ => exact ⟨am_zk27, am_dk27⟩
  | 12, _ => exact ⟨am_zk28, am_dk28⟩
  | 13, _ => exact ⟨am_zk29, am_dk29⟩
  | 14, _ => exact ⟨am_zk30, am_dk30⟩
  | 15, _ => exact ⟨am_zk31, am_dk31⟩
  | k + 16, h => omega
theorem am_tkg2 : ∀ j, j < 16 → am_zok (32 + j) (am_tab (32 + j)) (am_wab (32 + j)) = true ∧ am_dok (am_code (32 + j)) (am_wab (32 + j)) := by
  intro j hj
  match j, hj with
  | 0, _ => exact ⟨am_zk32, am_dk32⟩
  | 1, _ => exact ⟨am_zk33, am_dk33⟩
  | 2, _ => exact ⟨am_zk34, am_dk34⟩
  | 3, _ => exact ⟨am_zk35, am_dk35⟩
  | 4, _ => exact ⟨am_zk36, am_dk36⟩
  | 5, _ => exact ⟨am_zk37, am_dk37⟩
  | 6, _ => exact ⟨am_zk38, am_dk38⟩
  | 7, _ => exact ⟨am_zk39, am_dk39⟩
  | 8, _ => exact ⟨am_zk40, am_dk40⟩
  | 9, _ => exact ⟨am_zk41, am_dk41⟩
  | 10, _ => exact ⟨am_zk42, am_dk42⟩
  | 11, _ => exact ⟨am_zk43, am_dk43⟩
  | 12, _ => exact ⟨am_zk44, am_dk44⟩
  | 13, _ => exact ⟨am_zk45, am_dk45⟩
  | 14, _ => exact ⟨am_zk46, am_dk46⟩
  | 15, _ => exact ⟨am_zk47, am_dk47⟩
  | k + 16, h => omega
theorem am_tkg3 : ∀ j, j < 16 → am_zok (48 + j) (am_tab (48 + j)) (am_wab (48 + j)) = true ∧ am_dok (am_code (48 + j)) (am_wab (48 + j)) := by
  intro j hj
  match j, hj with
  | 0, _ => exact ⟨am_zk48, am_dk48⟩
  | 1, _ => exact ⟨am_zk49, am_dk49⟩
  | 2, _ => exact ⟨am_zk50, am_dk50⟩
  | 3, _ => exact ⟨am_zk51, am_dk51⟩
  | 4, _ => exact ⟨am_zk52, am_dk52⟩
  | 5, _ => exact ⟨am_zk53, am_dk53⟩
  | 6, _ => exact ⟨am_zk54, am_dk54⟩
  | 7, _ => exact ⟨am_zk55, am_dk55⟩
  | 8, _ => exact ⟨am_zk56, am_dk56⟩
  | 9, _ => exact ⟨am_zk57, am_dk57⟩
  | 10, _ => exact ⟨am_zk58, am_dk58⟩
  | 11, _ => exact ⟨am_zk59, am_dk59⟩
  | 12, _ => exact ⟨am_zk60, am_dk60⟩
  | 13, _ => exact ⟨am_zk61, am_dk61⟩
  | 14, _ => exact ⟨am_zk62, am_dk62⟩
  | 15, _ => exact ⟨am_zk63, am_dk63⟩
  | k + 16, h => omega
theorem am_tkg4 : ∀ j, j < 16 → am_zok (64 + j) (am_tab (64 + j)) (am_wab (64 + j)) = true ∧ am_dok (am_code (64 + j)) (am_wab (64 + j)) := by
  intro j hj
  match j, hj with
  | 0, _ => exact ⟨am_zk64, am_dk64⟩
  | 1, _ => exact ⟨am_zk65, am_dk65⟩
  | 2, _ => exact ⟨am_zk66, am_dk66⟩
  | 3, _ => exact ⟨am_zk67, am_dk67⟩
  | 4, _ => exact ⟨am_zk68, am_dk68⟩
  | 5, _ => exact ⟨am_zk69, am_dk69⟩
  | 6, _ => exact ⟨am_zk70, am_dk70⟩
  | 7, _ => exact ⟨am_zk71, am_dk71⟩
  | 8, _ => exact ⟨am_zk72, am_dk72⟩
  | 9, _ => exact ⟨am_zk73, am_dk73⟩
  | 10, _ => exact ⟨am_zk74, am_dk74⟩
  | 11, _ => exact ⟨am_zk75, am_dk75⟩
  | 12, _ => exact ⟨am_zk76, am_dk76⟩
  | 13, _ => exact ⟨am_zk77, am_dk77⟩
  | 14, _ => exact ⟨am_zk78, am_dk78⟩
  | 15, _ => exact ⟨am_zk79, am_dk79⟩
  | k + 16, h => omega
theorem am_tkg5 : ∀ j, j < 16 → am_zok (80 + j) (am_tab (80 + j)) (am_wab (80 + j)) = true ∧ am_dok (am_code (80 + j)) (am_wab (80 + j)) := by
  intro j hj
  match j, hj with
  | 0, _ => exact ⟨am_zk80, am_dk80⟩
  | 1, _ => exact ⟨am_zk81, am_dk81⟩
  | 2, _ => exact ⟨am_zk82, am_dk82⟩
  | 3, _ => exact ⟨am_zk83, am_dk83⟩
  | 4, _ => exact ⟨am_zk84, am_dk84⟩
  | 5, _ => exact ⟨am_zk85, am_dk85⟩
  | 6, _ => exact ⟨am_zk86, am_dk86⟩
  | 7, _ => exact ⟨am_zk87, am_dk87⟩
  | 8, _ => exact ⟨am_zk88, am_dk88⟩
  | 9, _ => exact ⟨am_zk89, am_dk89⟩
  | 10, _ => exact ⟨am_zk90, am_dk90⟩
  | 11, _ => exact ⟨am_zk91, am_dk91⟩
  | 12, _ => exact ⟨am_zk92, am_dk92⟩
  | 13, _ => exact ⟨am_zk93, am_dk93⟩
  | 14, _ => exact ⟨am_zk94, am_dk94⟩
  | 15, _ => exact ⟨am_zk95, am_dk95⟩
  | k + 16, h => omega
theorem am_tkg6 : ∀ j, j < 16 → am_zok (96 + j) (am_tab (96 + j)) (am_wab (96 + j)) = true ∧ am_dok (am_code (96 + j)) (am_wab (96 + j)) := by
  intro j hj
  match j, hj with
  | 0, _ => exact ⟨am_zk96, am_dk96⟩
  | 1, _ => exact ⟨am_zk97, am_dk97⟩
  | 2, _ => exact ⟨am_zk98, am_dk98⟩
  | 3, _ => exact ⟨am_zk99, am_dk99⟩
  | 4, _ => exact ⟨am_zk100, am_dk100⟩
  | 5, _ => exact ⟨am_zk101, am_dk101⟩
  | 6, _ => exact ⟨am_zk102, am_dk102⟩
  | 7, _ => exact ⟨am_zk103, am_dk103⟩
  | 8, _ => exact ⟨am_zk104, am_dk104⟩
  | 9, _ => exact ⟨am_zk105, am_dk105⟩
  | 10, _ => exact ⟨am_zk106, am_dk106⟩
  | 11, _ => exact ⟨am_zk107, am_dk107⟩
  | 12, _ => exact ⟨am_zk108, am_dk108⟩
  | 13, _ => exact ⟨am_zk109, am_dk109⟩
  | 14, _ => exact ⟨am_zk110, am_dk110⟩
  | 15, _ => exact ⟨am_zk111, am_dk111⟩
  | k + 16, h => omega
theorem am_tkg7 : ∀ j, j < 16 → am_zok (112 + j) (am_tab (112 + j)) (am_wab (112 + j)) = true ∧ am_dok (am_code (112 + j)) (am_wab (112 + j)) := by
  intro j hj
  match j, hj with
  | 0, _ => exact ⟨am_zk112, am_dk112⟩
  | 1, _ => exact ⟨am_zk113, am_dk113⟩
  | 2, _ => exact ⟨am_zk114, am_dk114⟩
  | 3, _ => exact ⟨am_zk115, am_dk115⟩
  | 4, _ => exact ⟨am_zk116, am_dk116⟩
  | 5, _ => exact ⟨am_zk117, am_dk117⟩
  | 6, _ => exact ⟨am_zk118, am_dk118⟩
  | 7, _ => exact ⟨am_zk119, am_dk119⟩
  | 8, _ => exact ⟨am_zk120, am_dk120⟩
  | 9, _ => exact ⟨am_zk121, am_dk121⟩
  | 10, _ => exact ⟨am_zk122, am_dk122⟩
  | 11, _ => exact ⟨am_zk123, am_dk123⟩
  | 12, _ => exact ⟨am_zk124, am_dk124⟩
  | 13, _ => exact ⟨am_zk125, am_dk125⟩
  | 14, _ => exact ⟨am_zk126, am_dk126⟩
  | 15, _ => exact ⟨am_zk127, am_dk127⟩
  | k + 16, h => omega
theorem am_tkg8 : ∀ j, j < 16 → am_zok (128 + j) (am_tab (128 + j)) (am_wab (128 + j)) = true ∧ am_dok (am_code (128 + j)) (am_wab (128 + j)) := by
  intro j hj
  match j, hj with
  | 0, _ => exact ⟨am_zk128, am_dk128⟩
  | 1, _ => exact ⟨am_zk129, am_dk129⟩
  | 2, _ => exact ⟨am_zk130, am_dk130⟩
  | 3, _ => exact ⟨am_zk131, am_dk131⟩
  | 4, _ => exact ⟨am_zk132, am_dk132⟩
  | 5, _ => exact ⟨am_zk133, am_dk133⟩
  | 6, _ => exact ⟨am_zk134, am_dk134⟩
  | 7, _ => exact ⟨am_zk135, am_dk135⟩
  | 8, _ => exact ⟨am_zk136, am_dk136⟩
  | 9, _ => exact ⟨am_zk137, am_dk137⟩
  | 10, _ => exact ⟨am_zk138, am_dk138⟩
  | 11, _ => exact ⟨am_zk139, am_dk139⟩
  | 12, _ => exact ⟨am_zk140, am_dk140⟩
  | 13, _ => exact ⟨am_zk141, am_dk141⟩
  | 14, _ => exact ⟨am_zk142, am_dk142⟩
  | 15, _ => exact ⟨am_zk143, am_dk143⟩
  | k + 16, h => omega
theorem am_tkg9 : ∀ j, j < 16 → am_zok (144 + j) (am_tab (144 + j)) (am_wab (144 + j)) = true ∧ am_dok (am_code (144 + j)) (am_wab (144 + j)) := by
  intro j hj
  match j, hj with
  | 0, _ => exact ⟨am_zk144, am_dk144⟩
  | 1, _ => exact ⟨am_zk145, am_dk145⟩
  | 2, _ => exact ⟨am_zk146, am_dk146⟩
  | 3, _ => exact ⟨am_zk147, am_dk147⟩
  | 4, _ => exact ⟨am_zk148, am_dk148⟩
  | 5, _ => exact ⟨am_zk149, am_dk149⟩
  | 6, _ => exact ⟨am_zk150, am_dk150⟩
  | 7, _ => exact ⟨am_zk151, am_dk151⟩
  | 8, _ => exact ⟨am_zk152, am_dk152⟩
  | 9, _ => exact ⟨am_zk153, am_dk153⟩
  | 10, _ => exact ⟨am_zk154, am_dk154⟩
  | 11, _ => exact ⟨am_zk155, am_dk155⟩
  | 12, _ => exact ⟨am_zk156, am_dk156⟩
  | 13, _ => exact ⟨am_zk157, am_dk157⟩
  | 14, _ => exact ⟨am_zk158, am_dk158⟩
  | 15, _ => exact ⟨am_zk159, am_dk159⟩
  | k + 16, h => omega
theorem am_tkg10 : ∀ j, j < 16 → am_zok (160 + j) (am_tab (160 + j)) (am_wab (160 + j)) = true ∧ am_dok (am_code (160 + j)) (am_wab (160 + j)) := by
  intro j hj
  match j, hj with
  | 0, _ => exact ⟨am_zk160, am_dk160⟩
  | 1, _ => exact ⟨am_zk161, am_dk161⟩
  | 2, _ => exact ⟨am_zk162, am_dk162⟩
  | 3, _ => exact ⟨am_zk163, am_dk163⟩
  | 4, _ => exact ⟨am_zk164, am_dk164⟩
  | 5, _ => exact ⟨am_zk165, am_dk165⟩
  | 6, _ => exact ⟨am_zk166, am_dk166⟩
  | 7, _ => exact ⟨am_zk167, am_dk167⟩
  | 8, _ => exact ⟨am_zk168, am_dk168⟩
  | 9, _ => exact ⟨am_zk169, am_dk169⟩
  | 10, _ => exact ⟨am_zk170, am_dk170⟩
  | 11, _ => exact ⟨am_zk171, am_dk171⟩
  | 12, _ => exact ⟨am_zk172, am_dk172⟩
  | 13, _ => exact ⟨am_zk173, am_dk173⟩
  | 14, _ => exact ⟨am_zk174, am_dk174⟩
  | 15, _ => exact ⟨am_zk175, am_dk175⟩
  | k + 16, h => omega
theorem am_tkg11 : ∀ j, j < 16 → am_zok (176 + j) (am_tab (176 + j)) (am_wab (176 + j)) = true ∧ am_dok (am_code (176 + j)) (am_wab (176 + j)) := by
  intro j hj
  match j, hj with
  | 0, _ => exact ⟨am_zk176, am_dk176⟩
  | 1, _ => exact ⟨am_zk177, am_dk177⟩
  | 2, _ => exact ⟨am_zk178, am_dk178⟩
  | 3, _ => exact ⟨am_zk179, am_dk179⟩
  | 4, _ => exact ⟨am_zk180, am_dk180⟩
  | 5, _ => exact ⟨am_zk181, am_dk181⟩
  | 6, _ => exact ⟨am_zk182, am_dk182⟩
  | 7, _ => exact ⟨am_zk183, am_dk183⟩
  | 8, _ => exact ⟨am_zk184, am_dk184⟩
  | 9, _ => exact ⟨am_zk185, am_dk185⟩
  | 10, _ => exact ⟨am_zk186, am_dk186⟩
  | 11, _ => exact ⟨am_zk187, am_dk187⟩
  | 12, _ => exact ⟨am_zk188, am_dk188⟩
  | 13, _ => exact ⟨am_zk189, am_dk189⟩
  | 14, _ => exact ⟨am_zk190, am_dk190⟩
  | 15, _ => exact ⟨am_zk191, am_dk191⟩
  | k + 16, h => omega
theorem am_tkg12 : ∀ j, j < 16 → am_zok (192 + j) (am_tab (192 + j)) (am_wab (192 + j)) = true ∧ am_dok (am_code (192 + j)) (am_wab (192 + j)) := by
  intro j hj
  match j, hj with
  | 0, _ => exact ⟨am_zk192, am_dk192⟩
  | 1, _ => exact ⟨am_zk193, am_dk193⟩
  | 2, _ => exact ⟨am_zk194, am_dk194⟩
  | 3, _ => exact ⟨am_zk195, am_dk195⟩
  | 4, _ => exact ⟨am_zk196, am_dk196⟩
  | 5, _ => exact ⟨am_zk197, am_dk197⟩
  | 6, _ => exact ⟨am_zk198, am_dk198⟩
  | 7, _ => exact ⟨am_zk199, am_dk199⟩
  | 8, _ => exact ⟨am_zk200, am_dk200⟩
  | 9, _ => exact ⟨am_zk201, am_dk201⟩
  | 10, _ => exact ⟨am_zk202, am_dk202⟩
  | 11, _ => exact ⟨am_zk203, am_dk203⟩
  | 12, _ => exact ⟨am_zk204, am_dk204⟩
  | 13, _ => exact ⟨am_zk205, am_dk205⟩
  | 14, _ => exact ⟨am_zk206, am_dk206⟩
  | 15, _ => exact ⟨am_zk207, am_dk207⟩
  | k + 16, h => omega
theorem am_tkg13 : ∀ j, j < 16 → am_zok (208 + j) (am_tab (208 + j)) (am_wab (208 + j)) = true ∧ am_dok (am_code (208 + j)) (am_wab (208 + j)) := by
  intro j hj
  match j, hj with
  | 0, _ => exact ⟨am_zk208, am_dk208⟩
  | 1, _ => exact ⟨am_zk209, am_dk209⟩
  | 2, _ => exact ⟨am_zk210, am_dk210⟩
  | 3, _ => exact ⟨am_zk211, am_dk211⟩
  | 4, _ => exact ⟨am_zk212, am_dk212⟩
  | 5, _ => exact ⟨am_zk213, am_dk213⟩
  | 6, _ => exact ⟨am_zk214, am_dk214⟩
  | 7, _ => exact ⟨am_zk215, am_dk215⟩
  | 8, _ => exact ⟨am_zk216, am_dk216⟩
  | 9, _ => exact ⟨am_zk217, am_dk217⟩
  | 10, _ => exact ⟨am_zk218, am_dk218⟩
  | 11, _ => exact ⟨am_zk219, am_dk219⟩
  | 12, _ => exact ⟨am_zk220, am_dk220⟩
  | 13, _ => exact ⟨am_zk221, am_dk221⟩
  | 14, _ => exact ⟨am_zk222, am_dk222⟩
  | 15, _ => exact ⟨am_zk223, am_dk223⟩
  | k + 16, h => omega
theorem am_tkg14 : ∀ j, j < 16 → am_zok (224 + j) (am_tab (224 + j)) (am_wab (224 + j)) = true ∧ am_dok (am_code (224 + j)) (am_wab (224 + j)) := by
  intro j hj
  match j, hj with
  | 0, _ => exact ⟨am_zk224, am_dk224⟩
  | 1, _ => exact ⟨am_zk225, am_dk225⟩
  | 2, _ => exact ⟨am_zk226, am_dk226⟩
  | 3, _ => exact ⟨am_zk227, am_dk227⟩
  | 4, _ => exact ⟨am_zk228, am_dk228⟩
  | 5, _ => exact ⟨am_zk229, am_dk229⟩
  | 6, _ => exact ⟨am_zk230, am_dk230⟩
  | 7, _ => exact ⟨am_zk231, am_dk231⟩
  | 8, _ => exact ⟨am_zk232, am_dk232⟩
  | 9, _ => exact ⟨am_zk233, am_dk233⟩
  | 10, _ => exact ⟨am_zk234, am_dk234⟩
  | 11, _ => exact ⟨am_zk235, am_dk235⟩
  | 12, _ => exact ⟨am_zk236, am_dk236⟩
  | 13, _ => exact ⟨am_zk237, am_dk237⟩
  | 14, _ => exact ⟨am_zk238, am_dk238⟩
  | 15, _ => exact ⟨am_zk239, am_dk239⟩
  | k + 16, h => omega
theorem am_tkg15 : ∀ j, j < 16 → am_zok (240 + j) (am_tab (240 + j)) (am_wab (240 + j)) = true ∧ am_dok (am_code (240 + j)) (am_wab (240 + j)) := by
  intro j hj
  match j, hj with
  | 0, _ => exact ⟨am_zk240, am_dk240⟩
  | 1, _ => exact ⟨am_zk241, am_dk241⟩
  | 2, _ => exact ⟨am_zk242, am_dk242⟩
  | 3, _ => exact ⟨am_zk243, am_dk243⟩
  | 4, _ => exact ⟨am_zk244, am_dk244⟩
  | 5, _ => exact ⟨am_zk245, am_dk245⟩
  | 6, _ => exact ⟨am_zk246, am_dk246⟩
  | 7, _ => exact ⟨am_zk247, am_dk247⟩
  | 8, _ => exact ⟨am_zk248, am_dk248⟩
  | 9, _ => exact ⟨am_zk249, am_dk249⟩
  | 10, _ => exact ⟨am_zk250, am_dk250⟩
  | 11, _ => exact ⟨am_zk251, am_dk251⟩
  | 12, _ => exact ⟨am_zk252, am_dk252⟩
  | 13, _ => exact ⟨am_zk253, am_dk253⟩
  | 14, _ => exact ⟨am_zk254, am_dk254⟩
  | 15, _ => exact ⟨am_zk255, am_dk255⟩
  | k + 16, h => omega
theorem am_tkg16 : ∀ j, j < 16 → am_zok (256 + j) (am_tab (256 + j)) (am_wab (256 + j)) = true ∧ am_dok (am_code (256 + j)) (am_wab (256 + j)) := by
  intro j hj
  match j, hj with
  | 0, _ => exact ⟨am_zk256, am_dk256⟩
  | 1, _ => exact ⟨am_zk257, am_dk257⟩
  | 2, _ => exact ⟨am_zk258, am_dk258⟩
  | 3, _ => exact ⟨am_zk259, am_dk259⟩
  | 4, _ => exact ⟨am_zk260, am_dk260⟩
  | 5, _ => exact ⟨am_zk261, am_dk261⟩
  | 6, _ => exact ⟨am_zk262, am_dk262⟩
  | 7, _ => exact ⟨am_zk263, am_dk263⟩
  | 8, _ => exact ⟨am_zk264, am_dk264⟩
  | 9, _ => exact ⟨am_zk265, am_dk265⟩
  | 10, _ => exact ⟨am_zk266, am_dk266⟩
  | 11, _ => exact ⟨am_zk267, am_dk267⟩
  | 12, _ => exact ⟨am_zk268, am_dk268⟩
  | 13, _ => exact ⟨am_zk269, am_dk269⟩
  | 14, _ => exact ⟨am_zk270, am_dk270⟩
  | 15, _ => exact ⟨am_zk271, am_dk271⟩
  | k + 16, h => omega
theorem am_tkg17 : ∀ j, j < 16 → am_zok (272 + j) (am_tab (272 + j)) (am_wab (272 + j)) = true ∧ am_dok (am_code (272 + j)) (am_wab (272 + j)) := by
  intro j hj
  match j, hj with
  | 0, _ => exact ⟨am_zk272, am_dk272⟩
  | 1, _ => exact ⟨am_zk273, am_dk273⟩
  | 2, _ => exact ⟨am_zk274, am_dk274⟩
  | 3, _ => exact ⟨am_zk275, am_dk275⟩
  | 4, _ => exact ⟨am_zk276, am_dk276⟩
  | 5, _ => exact ⟨am_zk277, am_dk277⟩
  | 6, _ => exact ⟨am_zk278, am_dk278⟩
  | 7, _ => exact ⟨am_zk279, am_dk279⟩
  | 8, _ => exact ⟨am_zk280, am_dk280⟩
  | 9, _ => exact ⟨am_zk281, am_dk281⟩
  | 10, _ => exact ⟨am_zk282, am_dk282⟩
  | 11, _ => exact ⟨am_zk283, am_dk283⟩
  | 12, _ => exact ⟨am_zk284, am_dk284⟩
  | 13, _ => exact ⟨am_zk285, am_dk285⟩
  | 14, _ => exact ⟨am_zk286, am_dk286⟩
  | 15, _ => exact ⟨am_zk287, am_dk287⟩
  | k + 16, h => omega
theorem am_tkg18 : ∀ j, j < 16 → am_zok (288 + j) (am_tab (288 + j)) (am_wab (288 + j)) = true ∧ am_dok (am_code (288 + j)) (am_wab (288 + j)) := by
  intro j hj
  match j, hj with
  | 0, _ => exact ⟨am_zk288, am_dk288⟩
  | 1, _ => exact ⟨am_zk289, am_dk289⟩
  | 2, _ => exact ⟨am_zk290, am_dk290⟩
  | 3, _ => exact ⟨am_zk291, am_dk291⟩
  | 4, _ => exact ⟨am_zk292, am_dk292⟩
  | 5, _ => exact ⟨am_zk293, am_dk293⟩
  | 6, _ => exact ⟨am_zk294, am_dk294⟩
  | 7, _ => exact ⟨am_zk295, am_dk295⟩
  | 8, _ => exact ⟨am_zk296, am_dk296⟩
  | 9, _ => exact ⟨am_zk297, am_dk297⟩
  | 10, _ => exact ⟨am_zk298, am_dk298⟩
  | 11, _ => exact ⟨am_zk299, am_dk299⟩
  | 12, _ => exact ⟨am_zk300, am_dk300⟩
  | 13, _ => exact ⟨am_zk301, am_dk301⟩
  | 14, _ => exact ⟨am_zk302, am_dk302⟩
  | 15, _ => exact ⟨am_zk303, am_dk303⟩
  | k + 16, h => omega
theorem am_tkg19 : ∀ j, j < 16 → am_zok (304 + j) (am_tab (304 + j)) (am_wab (304 + j)) = true ∧ am_dok (am_code (304 + j)) (am_wab (304 + j)) := by
  intro j hj
  match j, hj with
  | 0, _ => exact ⟨am_zk304, am_dk304⟩
  | 1, _ => exact ⟨am_zk305, am_dk305⟩
  | 2, _ => exact ⟨am_zk306, am_dk306⟩
  | 3, _ => exact ⟨am_zk307, am_dk307⟩
  | 4, _ => exact ⟨am_zk308, am_dk308⟩
  | 5, _ => exact ⟨am_zk309, am_dk309⟩
  | 6, _ => exact ⟨am_zk310, am_dk310⟩
  | 7, _ => exact ⟨am_zk311, am_dk311⟩
  | 8, _ => exact ⟨am_zk312, am_dk312⟩
  | 9, _ => exact ⟨am_zk313, am_dk313⟩
  | 10, _ => exact ⟨am_zk314, am_dk314⟩
  | 11, _ => exact ⟨am_zk315, am_dk315⟩
  | 12, _ => exact ⟨am_zk316, am_dk316⟩
  | 13, _ => exact ⟨am_zk317, am_dk317⟩
  | 14, _ => exact ⟨am_zk318, am_dk318⟩
  | 15, _ => exact ⟨am_zk319, am_dk319⟩
  | k + 16, h => omega
theorem am_tkg20 : ∀ j, j < 15 → am_zok (320 + j) (am_tab (320 + j)) (am_wab (320 + j)) = true ∧ am_dok (am_code (320 + j)) (am_wab (320 + j)) := by
  intro j hj
  match j, hj with
  | 0, _ => exact ⟨am_zk320, am_dk320⟩
  | 1, _ => exact ⟨am_zk321, am_dk321⟩
  | 2, _ => exact ⟨am_zk322, am_dk322⟩
  | 3, _ => exact ⟨am_zk323, am_dk323⟩
  | 4, _ => exact ⟨am_zk324, am_dk324⟩
  | 5, _ => exact ⟨am_zk325, am_dk325⟩
  | 6, _ => exact ⟨am_zk326, am_dk326⟩
  | 7, _ => exact ⟨am_zk327, am_dk327⟩
  | 8, _ => exact ⟨am_zk328, am_dk328⟩
  | 9, _ => exact ⟨am_zk329, am_dk329⟩
  | 10, _ => exact ⟨am_zk330, am_dk330⟩
  | 11, _ => exact ⟨am_zk331, am_dk331⟩
  | 12, _ => exact ⟨am_zk332, am_dk332⟩
  | 13, _ => exact ⟨am_zk333, am_dk333⟩
  | 14, _ => exact ⟨am_zk334, am_dk334⟩
  | k + 15, h => omega
theorem am_mwc : ∀ y, y < 329 → am_ycw y ∈ am_uw := by
  intro y hy
  by_cases h0 : y < 16
  · obtain ⟨j, rfl⟩ : ∃ j, y = 0 + j := ⟨y - 0, by omega⟩
    exact am_mwg0 j (by omega)
  by_cases h1 : y < 32
  · obtain ⟨j, rfl⟩ : ∃ j, y = 16 + j := ⟨y - 16, by omega⟩
    exact am_mwg1 j (by omega)
  by_cases h2 : y < 48
  · obtain ⟨j, rfl⟩ : ∃ j, y = 32 + j := ⟨y - 32, by omega⟩
    exact am_mwg2 j (by omega)
  by_cases h3 : y < 64
  · obtain ⟨j, rfl⟩ : ∃ j, y = 48 + j := ⟨y - 48, by omega⟩
    exact am_mwg3 j (by omega)
  by_cases h4 : y < 80
  · obtain ⟨j, rfl⟩ : ∃ j, y = 64 + j := ⟨y - 64, by omega⟩
    exact am_mwg4 j (by omega)
  by_cases h5 : y < 96
  · obtain ⟨j, rfl⟩ : ∃ j, y = 80 + j := ⟨y - 80, by omega⟩
    exact am_mwg5 j (by omega)
  by_cases h6 : y < 112
  · obtain ⟨j, rfl⟩ : ∃ j, y = 96 + j := ⟨y - 96, by omega⟩
    exact am_mwg6 j (by omega)
  by_cases h7 : y < 128
  · obtain ⟨j, rfl⟩ : ∃ j, y = 112 + j := ⟨y - 112, by omega⟩
    exact am_mwg7 j (by omega)
  by_cases h8 : y < 144
  · obtain ⟨j, rfl⟩ : ∃ j, y = 128 + j := ⟨y - 128, by omega⟩
    exact am_mwg8 j (by omega)
  by_cases h9 : y < 160
  · obtain ⟨j, rfl⟩ : ∃ j, y = 144 + j := ⟨y - 144, by omega⟩
    exact am_mwg9 j (by omega)
  by_cases h10 : y < 176
  · obtain ⟨j, rfl⟩ : ∃ j, y = 160 + j := ⟨y - 160, by omega⟩
    exact am_mwg10 j (by omega)
  by_cases h11 : y < 192
  · obtain ⟨j, rfl⟩ : ∃ j, y = 176 + j := ⟨y - 176, by omega⟩
    exact am_mwg11 j (by omega)
  by_cases h12 : y < 208
  · obtain ⟨j, rfl⟩ : ∃ j, y = 192 + j := ⟨y - 192, by omega⟩
    exact am_mwg12 j (by omega)
  by_cases h13 : y < 224
  · obtain ⟨j, rfl⟩ : ∃ j, y = 208 + j := ⟨y - 208, by omega⟩
    exact am_mwg13 j (by omega)
  by_cases h14 : y < 240
  · obtain ⟨j, rfl⟩ : ∃ j, y = 224 + j := ⟨y - 224, by omega⟩
    exact am_mwg14 j (by omega)
  by_cases h15 : y < 256
  · obtain ⟨j, rfl⟩ : ∃ j, y = 240 + j := ⟨y - 240, by omega⟩
    exact am_mwg15 j (by omega)
  by_cases h16 : y < 272
  · obtain ⟨j, rfl⟩ : ∃ j, y = 256 + j := ⟨y - 256, by omega⟩
    exact am_mwg16 j (by omega)
  by_cases h17 : y < 288
  · obtain ⟨j, rfl⟩ : ∃ j, y = 272 + j := ⟨y - 272, by omega⟩
    exact am_mwg17 j (by omega)
  by_cases h18 : y < 304
  · obtain ⟨j, rfl⟩ : ∃ j, y = 288 + j := ⟨y - 288, by omega⟩
    exact am_mwg18 j (by omega)
  by_cases h19 : y < 320
  · obtain ⟨j, rfl⟩ : ∃ j, y = 304 + j := ⟨y - 304, by omega⟩
    exact am_mwg19 j (by omega)
  by_cases h20 : y < 329
  · obtain ⟨j, rfl⟩ : ∃ j, y = 320 + j := ⟨y - 320, by omega⟩
    exact am_mwg20 j (by omega)
  omega
theorem am_tk : ∀ y, y < 335 → am_zok y (am_tab y) (am_wab y) = true ∧ am_dok (am_code y) (am_wab y) := by
  intro y hy
  by_cases h0 : y < 16
  · obtain ⟨j, rfl⟩ : ∃ j, y = 0 + j := ⟨y - 0, by omega⟩
    exact am_tkg0 j (by omega)
  by_cases h1 : y < 32
  · obtain ⟨j, rfl⟩ : ∃ j, y = 16 + j := ⟨y - 16, by omega⟩
    exact am_tkg1 j (by omega)
  by_cases h2 : y < 48
  · obtain ⟨j, rfl⟩ : ∃ j, y = 32 + j := ⟨y - 32, by omega⟩
    exact am_tkg2 j (by omega)
  by_cases h3 : y < 64
  · obtain ⟨j, rfl⟩ : ∃ j, y = 48 + j := ⟨y - 48, by omega⟩
    exact am_tkg3 j (by omega)
  by_cases h4 : y < 80
  · obtain ⟨j, rfl⟩ : ∃ j, y = 64 + j := ⟨y - 64, by omega⟩
    exact am_tkg4 j (by omega)
  by_cases h5 : y < 96
  · obtain ⟨j, rfl⟩ : ∃ j, y = 80 + j := ⟨y - 80, by omega⟩
    exact am_tkg5 j (by omega)
  by_cases h6 : y < 112
  · obtain ⟨j, rfl⟩ : ∃ j, y = 96 + j := ⟨y - 96, by omega⟩
    exact am_tkg6 j (by omega)
  by_cases h7 : y < 128
  · obtain ⟨j, rfl⟩ : ∃ j, y = 112 + j := ⟨y - 112, by omega⟩
    exact am_tkg7 j (by omega)
  by_cases h8 : y < 144
  · obtain ⟨j, rfl⟩ : ∃ j, y = 128 + j := ⟨y - 128, by omega⟩
    exact am_tkg8 j (by omega)
  by_cases h9 : y < 160
  · obtain ⟨j, rfl⟩ : ∃ j, y = 144 + j := ⟨y - 144, by omega⟩
    exact am_tkg9 j (by omega)
  by_cases h10 : y < 176
  · obtain ⟨j, rfl⟩ : ∃ j, y = 160 + j := ⟨y - 160, by omega⟩
    exact am_tkg10 j (by omega)
  by_cases h11 : y < 192
  · obtain ⟨j, rfl⟩ : ∃ j, y = 176 + j := ⟨y - 176, by omega⟩
    exact am_tkg11 j (by omega)
  by_cases h12 : y < 208
  · obtain ⟨j, rfl⟩ : ∃ j, y = 192 + j := ⟨y - 192, by omega⟩
    exact am_tkg12 j (by omega)
  by_cases h13 : y < 224
  · obtain ⟨j, rfl⟩ : ∃ j, y = 208 + j := ⟨y - 208, by omega⟩
    exact am_tkg13 j (by omega)
  by_cases h14 : y < 240
  · obtain ⟨j, rfl⟩ : ∃ j, y = 224 + j := ⟨y - 224, by omega⟩
    exact am_tkg14 j (by omega)
  by_cases h15 : y < 256
  · obtain ⟨j, rfl⟩ : ∃ j, y = 240 + j := ⟨y - 240, by omega⟩
    exact am_tkg15 j (by omega)
  by_cases h16 : y < 272
  · obtain ⟨j, rfl⟩ : ∃ j, y = 256 + j := ⟨y - 256, by omega⟩
    exact am_tkg16 j (by omega)
  by_cases h17 : y < 288
  · obtain ⟨j, rfl⟩ : ∃ j, y = 272 + j := ⟨y - 272, by omega⟩
    exact am_tkg17 j (by omega)
  by_cases h18 : y < 304
  · obtain ⟨j, rfl⟩ : ∃ j, y = 288 + j := ⟨y - 288, by omega⟩
    exact am_tkg18 j (by omega)
  by_cases h19 : y < 320
  · obtain ⟨j, rfl⟩ : ∃ j, y = 304 + j := ⟨y - 304, by omega⟩
    exact am_tkg19 j (by omega)
  by_cases h20 : y < 335
  · obtain ⟨j, rfl⟩ : ∃ j, y = 320 + j := ⟨y - 320, by omega⟩
    exact am_tkg20 j (by omega)
  omega
theorem am_ylb_all : ∀ y, y < 329 → am_ylb y = true := by
  intro y hy
  by_cases h0 : y < 48
  · exact List.all_eq_true.mp am_YL_ok0 y (List.mem_range'.mpr ⟨y - 0, by omega, by omega⟩)
  by_cases h1 : y < 96
  · exact List.all_eq_true.mp am_YL_ok1 y (List.mem_range'.mpr ⟨y - 48, by omega, by omega⟩)
  by_cases h2 : y < 144
  · exact List.all_eq_true.mp am_YL_ok2 y (List.mem_range'.mpr ⟨y - 96, by omega, by omega⟩)
  by_cases h3 : y < 192
  · exact List.all_eq_true.mp am_YL_ok3 y (List.mem_range'.mpr ⟨y - 144, by omega, by omega⟩)
  by_cases h4 : y < 240
  · exact List.all_eq_true.mp am_YL_ok4 y (List.mem_range'.mpr ⟨y - 192, by omega, by omega⟩)
  by_cases h5 : y < 288
  · exact List.all_eq_true.mp am_YL_ok5 y (List.mem_range'.mpr ⟨y - 240, by omega, by omega⟩)
  by_cases h6 : y < 329
  · exact List.all_eq_true.mp am_YL_ok6 y (List.mem_range'.mpr ⟨y - 288, by omega, by omega⟩)
  omega
theorem am_mw_all (y : Nat) (hy : y < 329) : am_mw y := ⟨am_mwc y hy, am_ylb_all y hy⟩
theorem am_find_mem : ∀ (l : List (Nat × Nat × Nat × Nat × Instr)) (pc nx ta tb : Nat) (i : Instr), am_find l pc = some (nx, ta, tb, i) → (pc, nx, ta, tb, i) ∈ l
  | [], pc, nx, ta, tb, i, h => by cases h
  | (a, n, x, y, j) :: r, pc, nx, ta, tb, i, h => by
    unfold am_find at h
    cases hb : Nat.beq a pc with
    | true =>
      rw [hb] at h
      simp only [cond_true] at h
      cases h
      rw [Nat.eq_of_beq_eq_true hb]
      exact List.mem_cons_self
    | false =>
      rw [hb] at h
      simp only [cond_false] at h
      exact List.mem_cons_of_mem _ (am_find_mem r pc nx ta tb i h)
theorem am_zok_get (mi : Nat) : ∀ (l : List (Nat × Nat × Nat × Nat × Instr)) (l2 : List (Nat × Instr × Nat)), am_zok mi l l2 = true → ∀ pc nx ta tb i, (pc, nx, ta, tb, i) ∈ l → ∃ raw len, (pc, raw, len) ∈ l2 ∧ am_rn mi pc raw len nx ta tb i = true
  | [], [], h, pc, nx, ta, tb, i, hm => by cases hm
  | [], _ :: _, h, pc, nx, ta, tb, i, hm => by cases hm
  | _ :: _, [], h, pc, nx, ta, tb, i, hm => by cases h
  | (a, n, x, y, j) :: r, (a2, raw, len) :: r2, h, pc, nx, ta, tb, i, hm => by
    unfold am_zok at h
    simp only [Bool.and_eq_true] at h
    obtain ⟨⟨h1, h2⟩, h3⟩ := h
    rcases List.mem_cons.mp hm with e | hm
    · cases e
      exact ⟨raw, len, by rw [Nat.eq_of_beq_eq_true h1]; exact List.mem_cons_self, h2⟩
    · obtain ⟨raw', len', q1, q2⟩ := am_zok_get mi r r2 h3 pc nx ta tb i hm
      exact ⟨raw', len', List.mem_cons_of_mem _ q1, q2⟩
set_option maxRecDepth 100000 in
theorem am_CL_lt : am_CL.all (fun q => Nat.blt q.2.2.1 334) = true ∧ am_NL.all (fun q => Nat.blt q.2.2.1 334) = true := by decide +kernel
theorem am_any_lt {l : List (Nat × Nat × Nat × Nat)} (hl : l.all (fun q => Nat.blt q.2.2.1 334) = true) {ow ix k : Nat} (h : am_any4 l ow ix k = true) : k < 334 := by
  obtain ⟨q, hq, h2⟩ := List.any_eq_true.mp h
  simp only [Bool.and_eq_true] at h2
  have h3 := List.all_eq_true.mp hl q hq
  rw [Nat.eq_of_beq_eq_true h2.2] at h3
  exact Nat.le_of_ble_eq_true h3
