theorem f_X7_9 : CkF RX7 9 7 0 "I" false false := ⟨(RX7, TX7, 6), rfl, by decide, ⟨rfl, rfl, rfl⟩, rfl, Or.inl (tb_g 161 (by decide +kernel) rfl)⟩
theorem f_X0_45 : CkF RX0 45 7 0 "I" false false := ⟨(RX7, TX7, 6), rfl, by decide, ⟨rfl, rfl, rfl⟩, rfl, Or.inr ⟨"RiverSteamers", tb_n 162 (by decide +kernel) rfl⟩⟩
theorem f_X7_15 : CkF RX7 15 7 1 "I" false false := ⟨(RX7, TX7, 6), rfl, by decide, ⟨rfl, rfl, rfl⟩, rfl, Or.inl (tb_g 163 (by decide +kernel) rfl)⟩
theorem f_X0_19 : CkF RX0 19 7 1 "I" false false := ⟨(RX7, TX7, 6), rfl, by decide, ⟨rfl, rfl, rfl⟩, rfl, Or.inr ⟨"RiverSteamers", tb_n 164 (by decide +kernel) rfl⟩⟩
theorem f_X11_89 : CkF RX11 89 7 1 "I" false false := ⟨(RX7, TX7, 6), rfl, by decide, ⟨rfl, rfl, rfl⟩, rfl, Or.inr ⟨"RiverSteamers", tb_n 165 (by decide +kernel) rfl⟩⟩
theorem f_X4_129 : CkF RX4 129 7 1 "I" false false := ⟨(RX7, TX7, 6), rfl, by decide, ⟨rfl, rfl, rfl⟩, rfl, Or.inr ⟨"RiverSteamers", tb_n 166 (by decide +kernel) rfl⟩⟩
theorem f_X7_18 : CkF RX7 18 7 2 "I" false false := ⟨(RX7, TX7, 6), rfl, by decide, ⟨rfl, rfl, rfl⟩, rfl, Or.inl (tb_g 167 (by decide +kernel) rfl)⟩
theorem f_X0_48 : CkF RX0 48 7 2 "I" false false := ⟨(RX7, TX7, 6), rfl, by decide, ⟨rfl, rfl, rfl⟩, rfl, Or.inr ⟨"RiverSteamers", tb_n 168 (by decide +kernel) rfl⟩⟩
theorem f_X4_153 : CkF RX4 153 7 2 "I" false false := ⟨(RX7, TX7, 6), rfl, by decide, ⟨rfl, rfl, rfl⟩, rfl, Or.inr ⟨"RiverSteamers", tb_n 169 (by decide +kernel) rfl⟩⟩
theorem f_X11_244 : CkF RX11 244 7 2 "I" false false := ⟨(RX7, TX7, 6), rfl, by decide, ⟨rfl, rfl, rfl⟩, rfl, Or.inr ⟨"RiverSteamers", tb_n 170 (by decide +kernel) rfl⟩⟩
theorem f_X7_21 : CkF RX7 21 7 3 "I" false false := ⟨(RX7, TX7, 6), rfl, by decide, ⟨rfl, rfl, rfl⟩, rfl, Or.inl (tb_g 171 (by decide +kernel) rfl)⟩
theorem f_X0_42 : CkF RX0 42 7 3 "I" false false := ⟨(RX7, TX7, 6), rfl, by decide, ⟨rfl, rfl, rfl⟩, rfl, Or.inr ⟨"RiverSteamers", tb_n 172 (by decide +kernel) rfl⟩⟩
theorem f_X4_132 : CkF RX4 132 7 3 "I" false false := ⟨(RX7, TX7, 6), rfl, by decide, ⟨rfl, rfl, rfl⟩, rfl, Or.inr ⟨"RiverSteamers", tb_n 173 (by decide +kernel) rfl⟩⟩
theorem f_X11_247 : CkF RX11 247 7 3 "I" false false := ⟨(RX7, TX7, 6), rfl, by decide, ⟨rfl, rfl, rfl⟩, rfl, Or.inr ⟨"RiverSteamers", tb_n 174 (by decide +kernel) rfl⟩⟩
theorem f_X7_24 : CkF RX7 24 7 4 "Z" false false := ⟨(RX7, TX7, 6), rfl, by decide, ⟨rfl, rfl, rfl⟩, rfl, Or.inl (tb_g 175 (by decide +kernel) rfl)⟩
theorem f_X11_103 : CkF RX11 103 7 4 "Z" false false := ⟨(RX7, TX7, 6), rfl, by decide, ⟨rfl, rfl, rfl⟩, rfl, Or.inr ⟨"RiverSteamers", tb_n 176 (by decide +kernel) rfl⟩⟩
theorem f_X4_146 : CkF RX4 146 7 4 "Z" false false := ⟨(RX7, TX7, 6), rfl, by decide, ⟨rfl, rfl, rfl⟩, rfl, Or.inr ⟨"RiverSteamers", tb_n 177 (by decide +kernel) rfl⟩⟩
theorem f_X7_28 : CkF RX7 28 7 5 "[I" true true := ⟨(RX7, TX7, 6), rfl, by decide, ⟨rfl, rfl, rfl⟩, rfl, Or.inl (tb_g 178 (by decide +kernel) rfl)⟩
theorem f_X11_96 : CkF RX11 96 7 5 "[I" true true := ⟨(RX7, TX7, 6), rfl, by decide, ⟨rfl, rfl, rfl⟩, rfl, Or.inr ⟨"RiverSteamers", tb_n 179 (by decide +kernel) rfl⟩⟩
theorem f_X10_9 : CkF RX10 9 10 0 "[I" true true := ⟨(RX10, TX10, 2), rfl, by decide, ⟨rfl, rfl, rfl⟩, rfl, Or.inl (tb_g 207 (by decide +kernel) rfl)⟩
theorem f_X4_179 : CkF RX4 179 10 0 "[I" true true := ⟨(RX10, TX10, 2), rfl, by decide, ⟨rfl, rfl, rfl⟩, rfl, Or.inr ⟨"RiverSteamers", tb_n 208 (by decide +kernel) rfl⟩⟩
theorem f_X10_15 : CkF RX10 15 10 1 "[I" true true := ⟨(RX10, TX10, 2), rfl, by decide, ⟨rfl, rfl, rfl⟩, rfl, Or.inl (tb_g 209 (by decide +kernel) rfl)⟩
theorem f_X3_7 : CkF RX3 7 3 0 "I" false false := ⟨(RX3, TX3, 2), rfl, by decide, ⟨rfl, rfl, rfl⟩, rfl, Or.inl (tb_g 215 (by decide +kernel) rfl)⟩
theorem f_X9_40 : CkF RX9 40 3 0 "I" false false := ⟨(RX3, TX3, 2), rfl, by decide, ⟨rfl, rfl, rfl⟩, rfl, Or.inr ⟨"RiverSteamers", tb_n 216 (by decide +kernel) rfl⟩⟩
theorem f_X11_204 : CkF RX11 204 3 0 "I" false false := ⟨(RX3, TX3, 2), rfl, by decide, ⟨rfl, rfl, rfl⟩, rfl, Or.inr ⟨"RiverSteamers", tb_n 217 (by decide +kernel) rfl⟩⟩
theorem f_X3_16 : CkF RX3 16 3 1 "LRiverSteamers$Words;" true true := ⟨(RX3, TX3, 2), rfl, by decide, ⟨rfl, rfl, rfl⟩, rfl, Or.inl (tb_g 218 (by decide +kernel) rfl)⟩
theorem f_X4_215 : CkF RX4 215 3 1 "LRiverSteamers$Words;" true true := ⟨(RX3, TX3, 2), rfl, by decide, ⟨rfl, rfl, rfl⟩, rfl, Or.inr ⟨"RiverSteamers", tb_n 219 (by decide +kernel) rfl⟩⟩
theorem f_X11_272 : CkF RX11 272 3 1 "LRiverSteamers$Words;" true true := ⟨(RX3, TX3, 2), rfl, by decide, ⟨rfl, rfl, rfl⟩, rfl, Or.inr ⟨"RiverSteamers", tb_n 220 (by decide +kernel) rfl⟩⟩
theorem f_X2_9 : CkF RX2 9 2 0 "I" false false := ⟨(RX2, TX2, 10), rfl, by decide, ⟨rfl, rfl, rfl⟩, rfl, Or.inl (tb_g 233 (by decide +kernel) rfl)⟩
theorem f_X2_15 : CkF RX2 15 2 1 "I" false false := ⟨(RX2, TX2, 10), rfl, by decide, ⟨rfl, rfl, rfl⟩, rfl, Or.inl (tb_g 234 (by decide +kernel) rfl)⟩
theorem f_X11_153 : CkF RX11 153 2 1 "I" false false := ⟨(RX2, TX2, 10), rfl, by decide, ⟨rfl, rfl, rfl⟩, rfl, Or.inr ⟨"RiverSteamers", tb_n 235 (by decide +kernel) rfl⟩⟩
theorem f_X2_18 : CkF RX2 18 2 2 "I" false false := ⟨(RX2, TX2, 10), rfl, by decide, ⟨rfl, rfl, rfl⟩, rfl, Or.inl (tb_g 236 (by decide +kernel) rfl)⟩
theorem f_X11_212 : CkF RX11 212 2 2 "I" false false := ⟨(RX2, TX2, 10), rfl, by decide, ⟨rfl, rfl, rfl⟩, rfl, Or.inr ⟨"RiverSteamers", tb_n 237 (by decide +kernel) rfl⟩⟩
theorem f_X2_21 : CkF RX2 21 2 3 "I" false false := ⟨(RX2, TX2, 10), rfl, by decide, ⟨rfl, rfl, rfl⟩, rfl, Or.inl (tb_g 238 (by decide +kernel) rfl)⟩
theorem f_X4_185 : CkF RX4 185 2 3 "I" false false := ⟨(RX2, TX2, 10), rfl, by decide, ⟨rfl, rfl, rfl⟩, rfl, Or.inr ⟨"RiverSteamers", tb_n 239 (by decide +kernel) rfl⟩⟩
theorem f_X11_209 : CkF RX11 209 2 3 "I" false false := ⟨(RX2, TX2, 10), rfl, by decide, ⟨rfl, rfl, rfl⟩, rfl, Or.inr ⟨"RiverSteamers", tb_n 240 (by decide +kernel) rfl⟩⟩
theorem f_X2_24 : CkF RX2 24 2 4 "I" false false := ⟨(RX2, TX2, 10), rfl, by decide, ⟨rfl, rfl, rfl⟩, rfl, Or.inl (tb_g 241 (by decide +kernel) rfl)⟩
theorem f_X11_147 : CkF RX11 147 2 4 "I" false false := ⟨(RX2, TX2, 10), rfl, by decide, ⟨rfl, rfl, rfl⟩, rfl, Or.inr ⟨"RiverSteamers", tb_n 242 (by decide +kernel) rfl⟩⟩
theorem f_X2_27 : CkF RX2 27 2 5 "I" false false := ⟨(RX2, TX2, 10), rfl, by decide, ⟨rfl, rfl, rfl⟩, rfl, Or.inl (tb_g 243 (by decide +kernel) rfl)⟩
theorem f_X11_142 : CkF RX11 142 2 5 "I" false false := ⟨(RX2, TX2, 10), rfl, by decide, ⟨rfl, rfl, rfl⟩, rfl, Or.inr ⟨"RiverSteamers", tb_n 244 (by decide +kernel) rfl⟩⟩
theorem f_X4_160 : CkF RX4 160 2 5 "I" false false := ⟨(RX2, TX2, 10), rfl, by decide, ⟨rfl, rfl, rfl⟩, rfl, Or.inr ⟨"RiverSteamers", tb_n 245 (by decide +kernel) rfl⟩⟩
theorem f_X2_30 : CkF RX2 30 2 6 "I" false false := ⟨(RX2, TX2, 10), rfl, by decide, ⟨rfl, rfl, rfl⟩, rfl, Or.inl (tb_g 246 (by decide +kernel) rfl)⟩
theorem f_X11_146 : CkF RX11 146 2 6 "I" false false := ⟨(RX2, TX2, 10), rfl, by decide, ⟨rfl, rfl, rfl⟩, rfl, Or.inr ⟨"RiverSteamers", tb_n 247 (by decide +kernel) rfl⟩⟩
theorem f_X4_199 : CkF RX4 199 2 6 "I" false false := ⟨(RX2, TX2, 10), rfl, by decide, ⟨rfl, rfl, rfl⟩, rfl, Or.inr ⟨"RiverSteamers", tb_n 248 (by decide +kernel) rfl⟩⟩
theorem f_X2_33 : CkF RX2 33 2 7 "I" false false := ⟨(RX2, TX2, 10), rfl, by decide, ⟨rfl, rfl, rfl⟩, rfl, Or.inl (tb_g 249 (by decide +kernel) rfl)⟩
theorem f_X11_187 : CkF RX11 187 2 7 "I" false false := ⟨(RX2, TX2, 10), rfl, by decide, ⟨rfl, rfl, rfl⟩, rfl, Or.inr ⟨"RiverSteamers", tb_n 250 (by decide +kernel) rfl⟩⟩
theorem f_X4_202 : CkF RX4 202 2 7 "I" false false := ⟨(RX2, TX2, 10), rfl, by decide, ⟨rfl, rfl, rfl⟩, rfl, Or.inr ⟨"RiverSteamers", tb_n 251 (by decide +kernel) rfl⟩⟩
theorem f_X2_36 : CkF RX2 36 2 8 "I" false false := ⟨(RX2, TX2, 10), rfl, by decide, ⟨rfl, rfl, rfl⟩, rfl, Or.inl (tb_g 252 (by decide +kernel) rfl)⟩
theorem f_X4_205 : CkF RX4 205 2 8 "I" false false := ⟨(RX2, TX2, 10), rfl, by decide, ⟨rfl, rfl, rfl⟩, rfl, Or.inr ⟨"RiverSteamers", tb_n 253 (by decide +kernel) rfl⟩⟩
theorem f_X11_260 : CkF RX11 260 2 8 "I" false false := ⟨(RX2, TX2, 10), rfl, by decide, ⟨rfl, rfl, rfl⟩, rfl, Or.inr ⟨"RiverSteamers", tb_n 254 (by decide +kernel) rfl⟩⟩
theorem f_X2_42 : CkF RX2 42 2 9 "LRiverSteamers$Words;" true true := ⟨(RX2, TX2, 10), rfl, by decide, ⟨rfl, rfl, rfl⟩, rfl, Or.inl (tb_g 255 (by decide +kernel) rfl)⟩
theorem f_X4_170 : CkF RX4 170 2 9 "LRiverSteamers$Words;" true true := ⟨(RX2, TX2, 10), rfl, by decide, ⟨rfl, rfl, rfl⟩, rfl, Or.inr ⟨"RiverSteamers", tb_n 256 (by decide +kernel) rfl⟩⟩
theorem f_X11_263 : CkF RX11 263 2 9 "LRiverSteamers$Words;" true true := ⟨(RX2, TX2, 10), rfl, by decide, ⟨rfl, rfl, rfl⟩, rfl, Or.inr ⟨"RiverSteamers", tb_n 257 (by decide +kernel) rfl⟩⟩
theorem f_X1_9 : CkF RX1 9 1 0 "I" false false := ⟨(RX1, TX1, 5), rfl, by decide, ⟨rfl, rfl, rfl⟩, rfl, Or.inl (tb_g 284 (by decide +kernel) rfl)⟩
theorem f_X11_164 : CkF RX11 164 1 0 "I" false false := ⟨(RX1, TX1, 5), rfl, by decide, ⟨rfl, rfl, rfl⟩, rfl, Or.inr ⟨"RiverSteamers", tb_n 285 (by decide +kernel) rfl⟩⟩
theorem f_X1_15 : CkF RX1 15 1 1 "I" false false := ⟨(RX1, TX1, 5), rfl, by decide, ⟨rfl, rfl, rfl⟩, rfl, Or.inl (tb_g 286 (by decide +kernel) rfl)⟩
theorem f_X11_150 : CkF RX11 150 1 1 "I" false false := ⟨(RX1, TX1, 5), rfl, by decide, ⟨rfl, rfl, rfl⟩, rfl, Or.inr ⟨"RiverSteamers", tb_n 287 (by decide +kernel) rfl⟩⟩
theorem f_X1_18 : CkF RX1 18 1 2 "I" false false := ⟨(RX1, TX1, 5), rfl, by decide, ⟨rfl, rfl, rfl⟩, rfl, Or.inl (tb_g 288 (by decide +kernel) rfl)⟩
theorem f_X11_170 : CkF RX11 170 1 2 "I" false false := ⟨(RX1, TX1, 5), rfl, by decide, ⟨rfl, rfl, rfl⟩, rfl, Or.inr ⟨"RiverSteamers", tb_n 289 (by decide +kernel) rfl⟩⟩
theorem f_X1_21 : CkF RX1 21 1 3 "I" false false := ⟨(RX1, TX1, 5), rfl, by decide, ⟨rfl, rfl, rfl⟩, rfl, Or.inl (tb_g 290 (by decide +kernel) rfl)⟩
theorem f_X11_139 : CkF RX11 139 1 3 "I" false false := ⟨(RX1, TX1, 5), rfl, by decide, ⟨rfl, rfl, rfl⟩, rfl, Or.inr ⟨"RiverSteamers", tb_n 291 (by decide +kernel) rfl⟩⟩
theorem f_X4_220 : CkF RX4 220 1 3 "I" false false := ⟨(RX1, TX1, 5), rfl, by decide, ⟨rfl, rfl, rfl⟩, rfl, Or.inr ⟨"RiverSteamers", tb_n 292 (by decide +kernel) rfl⟩⟩
theorem f_X1_24 : CkF RX1 24 1 4 "I" false false := ⟨(RX1, TX1, 5), rfl, by decide, ⟨rfl, rfl, rfl⟩, rfl, Or.inl (tb_g 293 (by decide +kernel) rfl)⟩
theorem f_X11_143 : CkF RX11 143 1 4 "I" false false := ⟨(RX1, TX1, 5), rfl, by decide, ⟨rfl, rfl, rfl⟩, rfl, Or.inr ⟨"RiverSteamers", tb_n 294 (by decide +kernel) rfl⟩⟩
theorem f_X4_221 : CkF RX4 221 1 4 "I" false false := ⟨(RX1, TX1, 5), rfl, by decide, ⟨rfl, rfl, rfl⟩, rfl, Or.inr ⟨"RiverSteamers", tb_n 295 (by decide +kernel) rfl⟩⟩
theorem f_X8_7 : CkF RX8 7 8 0 "I" false false := ⟨(RX8, TX8, 3), rfl, by decide, ⟨rfl, rfl, rfl⟩, rfl, Or.inl (tb_g 312 (by decide +kernel) rfl)⟩
theorem f_X8_13 : CkF RX8 13 8 1 "I" false false := ⟨(RX8, TX8, 3), rfl, by decide, ⟨rfl, rfl, rfl⟩, rfl, Or.inl (tb_g 313 (by decide +kernel) rfl)⟩
theorem f_X8_16 : CkF RX8 16 8 2 "I" false false := ⟨(RX8, TX8, 3), rfl, by decide, ⟨rfl, rfl, rfl⟩, rfl, Or.inl (tb_g 314 (by decide +kernel) rfl)⟩
theorem f_X4_233 : CkF RX4 233 8 2 "I" false false := ⟨(RX8, TX8, 3), rfl, by decide, ⟨rfl, rfl, rfl⟩, rfl, Or.inr ⟨"RiverSteamers", tb_n 315 (by decide +kernel) rfl⟩⟩
theorem f_X5_7 : CkF RX5 7 5 0 "I" false false := ⟨(RX5, TX5, 4), rfl, by decide, ⟨rfl, rfl, rfl⟩, rfl, Or.inl (tb_g 328 (by decide +kernel) rfl)⟩
theorem f_X11_304 : CkF RX11 304 5 0 "I" false false := ⟨(RX5, TX5, 4), rfl, by decide, ⟨rfl, rfl, rfl⟩, rfl, Or.inr ⟨"RiverSteamers", tb_n 329 (by decide +kernel) rfl⟩⟩
theorem f_X5_13 : CkF RX5 13 5 1 "I" false false := ⟨(RX5, TX5, 4), rfl, by decide, ⟨rfl, rfl, rfl⟩, rfl, Or.inl (tb_g 330 (by decide +kernel) rfl)⟩
theorem f_X11_305 : CkF RX11 305 5 1 "I" false false := ⟨(RX5, TX5, 4), rfl, by decide, ⟨rfl, rfl, rfl⟩, rfl, Or.inr ⟨"RiverSteamers", tb_n 331 (by decide +kernel) rfl⟩⟩
theorem f_X5_16 : CkF RX5 16 5 2 "I" false false := ⟨(RX5, TX5, 4), rfl, by decide, ⟨rfl, rfl, rfl⟩, rfl, Or.inl (tb_g 332 (by decide +kernel) rfl)⟩
theorem f_X5_19 : CkF RX5 19 5 3 "I" false false := ⟨(RX5, TX5, 4), rfl, by decide, ⟨rfl, rfl, rfl⟩, rfl, Or.inl (tb_g 333 (by decide +kernel) rfl)⟩
theorem f_X4_9 : CkF RX4 9 4 0 "I" false false := ⟨(RX4, TX4, 16), rfl, by decide, ⟨rfl, rfl, rfl⟩, rfl, Or.inl (tb_g 343 (by decide +kernel) rfl)⟩
theorem f_X11_194 : CkF RX11 194 4 0 "I" false false := ⟨(RX4, TX4, 16), rfl, by decide, ⟨rfl, rfl, rfl⟩, rfl, Or.inr ⟨"RiverSteamers", tb_n 344 (by decide +kernel) rfl⟩⟩
theorem f_X4_15 : CkF RX4 15 4 1 "I" false false := ⟨(RX4, TX4, 16), rfl, by decide, ⟨rfl, rfl, rfl⟩, rfl, Or.inl (tb_g 345 (by decide +kernel) rfl)⟩
theorem f_X11_59 : CkF RX11 59 4 1 "I" false false := ⟨(RX4, TX4, 16), rfl, by decide, ⟨rfl, rfl, rfl⟩, rfl, Or.inr ⟨"RiverSteamers", tb_n 346 (by decide +kernel) rfl⟩⟩
theorem f_X4_18 : CkF RX4 18 4 2 "I" false false := ⟨(RX4, TX4, 16), rfl, by decide, ⟨rfl, rfl, rfl⟩, rfl, Or.inl (tb_g 347 (by decide +kernel) rfl)⟩
theorem f_X11_110 : CkF RX11 110 4 2 "I" false false := ⟨(RX4, TX4, 16), rfl, by decide, ⟨rfl, rfl, rfl⟩, rfl, Or.inr ⟨"RiverSteamers", tb_n 348 (by decide +kernel) rfl⟩⟩
theorem f_X4_21 : CkF RX4 21 4 3 "I" false false := ⟨(RX4, TX4, 16), rfl, by decide, ⟨rfl, rfl, rfl⟩, rfl, Or.inl (tb_g 349 (by decide +kernel) rfl)⟩
theorem f_X11_123 : CkF RX11 123 4 3 "I" false false := ⟨(RX4, TX4, 16), rfl, by decide, ⟨rfl, rfl, rfl⟩, rfl, Or.inr ⟨"RiverSteamers", tb_n 350 (by decide +kernel) rfl⟩⟩
theorem f_X4_24 : CkF RX4 24 4 4 "I" false false := ⟨(RX4, TX4, 16), rfl, by decide, ⟨rfl, rfl, rfl⟩, rfl, Or.inl (tb_g 351 (by decide +kernel) rfl)⟩
theorem f_X11_215 : CkF RX11 215 4 4 "I" false false := ⟨(RX4, TX4, 16), rfl, by decide, ⟨rfl, rfl, rfl⟩, rfl, Or.inr ⟨"RiverSteamers", tb_n 352 (by decide +kernel) rfl⟩⟩
theorem f_X4_27 : CkF RX4 27 4 5 "I" false false := ⟨(RX4, TX4, 16), rfl, by decide, ⟨rfl, rfl, rfl⟩, rfl, Or.inl (tb_g 353 (by decide +kernel) rfl)⟩
theorem f_X11_227 : CkF RX11 227 4 5 "I" false false := ⟨(RX4, TX4, 16), rfl, by decide, ⟨rfl, rfl, rfl⟩, rfl, Or.inr ⟨"RiverSteamers", tb_n 354 (by decide +kernel) rfl⟩⟩
theorem f_X4_30 : CkF RX4 30 4 6 "I" false false := ⟨(RX4, TX4, 16), rfl, by decide, ⟨rfl, rfl, rfl⟩, rfl, Or.inl (tb_g 355 (by decide +kernel) rfl)⟩
theorem f_X11_83 : CkF RX11 83 4 6 "I" false false := ⟨(RX4, TX4, 16), rfl, by decide, ⟨rfl, rfl, rfl⟩, rfl, Or.inr ⟨"RiverSteamers", tb_n 356 (by decide +kernel) rfl⟩⟩
theorem f_X4_33 : CkF RX4 33 4 7 "I" false false := ⟨(RX4, TX4, 16), rfl, by decide, ⟨rfl, rfl, rfl⟩, rfl, Or.inl (tb_g 357 (by decide +kernel) rfl)⟩
theorem f_X11_167 : CkF RX11 167 4 7 "I" false false := ⟨(RX4, TX4, 16), rfl, by decide, ⟨rfl, rfl, rfl⟩, rfl, Or.inr ⟨"RiverSteamers", tb_n 358 (by decide +kernel) rfl⟩⟩
theorem f_X4_36 : CkF RX4 36 4 8 "[I" true true := ⟨(RX4, TX4, 16), rfl, by decide, ⟨rfl, rfl, rfl⟩, rfl, Or.inl (tb_g 359 (by decide +kernel) rfl)⟩
theorem f_X4_40 : CkF RX4 40 4 9 "[Z" true true := ⟨(RX4, TX4, 16), rfl, by decide, ⟨rfl, rfl, rfl⟩, rfl, Or.inl (tb_g 360 (by decide +kernel) rfl)⟩
theorem f_X11_99 : CkF RX11 99 4 9 "[Z" true true := ⟨(RX4, TX4, 16), rfl, by decide, ⟨rfl, rfl, rfl⟩, rfl, Or.inr ⟨"RiverSteamers", tb_n 361 (by decide +kernel) rfl⟩⟩
theorem f_X4_46 : CkF RX4 46 4 10 "[LRiverSteamers$Stretch;" true true := ⟨(RX4, TX4, 16), rfl, by decide, ⟨rfl, rfl, rfl⟩, rfl, Or.inl (tb_g 362 (by decide +kernel) rfl)⟩
theorem f_X11_62 : CkF RX11 62 4 10 "[LRiverSteamers$Stretch;" true true := ⟨(RX4, TX4, 16), rfl, by decide, ⟨rfl, rfl, rfl⟩, rfl, Or.inr ⟨"RiverSteamers", tb_n 363 (by decide +kernel) rfl⟩⟩
theorem f_X4_52 : CkF RX4 52 4 11 "[LRiverSteamers$Landing;" true true := ⟨(RX4, TX4, 16), rfl, by decide, ⟨rfl, rfl, rfl⟩, rfl, Or.inl (tb_g 364 (by decide +kernel) rfl)⟩
theorem f_X9_34 : CkF RX9 34 4 11 "[LRiverSteamers$Landing;" true true := ⟨(RX4, TX4, 16), rfl, by decide, ⟨rfl, rfl, rfl⟩, rfl, Or.inr ⟨"RiverSteamers", tb_n 365 (by decide +kernel) rfl⟩⟩
theorem f_X11_200 : CkF RX11 200 4 11 "[LRiverSteamers$Landing;" true true := ⟨(RX4, TX4, 16), rfl, by decide, ⟨rfl, rfl, rfl⟩, rfl, Or.inr ⟨"RiverSteamers", tb_n 366 (by decide +kernel) rfl⟩⟩
theorem f_X4_58 : CkF RX4 58 4 12 "[LRiverSteamers$Boat;" true true := ⟨(RX4, TX4, 16), rfl, by decide, ⟨rfl, rfl, rfl⟩, rfl, Or.inl (tb_g 367 (by decide +kernel) rfl)⟩
theorem f_X11_113 : CkF RX11 113 4 12 "[LRiverSteamers$Boat;" true true := ⟨(RX4, TX4, 16), rfl, by decide, ⟨rfl, rfl, rfl⟩, rfl, Or.inr ⟨"RiverSteamers", tb_n 368 (by decide +kernel) rfl⟩⟩
theorem f_X4_64 : CkF RX4 64 4 13 "[LRiverSteamers$Bale;" true true := ⟨(RX4, TX4, 16), rfl, by decide, ⟨rfl, rfl, rfl⟩, rfl, Or.inl (tb_g 369 (by decide +kernel) rfl)⟩
theorem f_X11_126 : CkF RX11 126 4 13 "[LRiverSteamers$Bale;" true true := ⟨(RX4, TX4, 16), rfl, by decide, ⟨rfl, rfl, rfl⟩, rfl, Or.inr ⟨"RiverSteamers", tb_n 370 (by decide +kernel) rfl⟩⟩
theorem f_X4_70 : CkF RX4 70 4 14 "[LRiverSteamers$Trip;" true true := ⟨(RX4, TX4, 16), rfl, by decide, ⟨rfl, rfl, rfl⟩, rfl, Or.inl (tb_g 371 (by decide +kernel) rfl)⟩
theorem f_X11_218 : CkF RX11 218 4 14 "[LRiverSteamers$Trip;" true true := ⟨(RX4, TX4, 16), rfl, by decide, ⟨rfl, rfl, rfl⟩, rfl, Or.inr ⟨"RiverSteamers", tb_n 372 (by decide +kernel) rfl⟩⟩
theorem f_X4_76 : CkF RX4 76 4 15 "[LRiverSteamers$Rule;" true true := ⟨(RX4, TX4, 16), rfl, by decide, ⟨rfl, rfl, rfl⟩, rfl, Or.inl (tb_g 373 (by decide +kernel) rfl)⟩
theorem f_X11_230 : CkF RX11 230 4 15 "[LRiverSteamers$Rule;" true true := ⟨(RX4, TX4, 16), rfl, by decide, ⟨rfl, rfl, rfl⟩, rfl, Or.inr ⟨"RiverSteamers", tb_n 374 (by decide +kernel) rfl⟩⟩
theorem f_X0_9 : CkF RX0 9 0 0 "I" false false := ⟨(RX0, TX0, 2), rfl, by decide, ⟨rfl, rfl, rfl⟩, rfl, Or.inl (tb_g 416 (by decide +kernel) rfl)⟩
theorem f_X11_316 : CkF RX11 316 0 0 "I" false false := ⟨(RX0, TX0, 2), rfl, by decide, ⟨rfl, rfl, rfl⟩, rfl, Or.inr ⟨"RiverSteamers", tb_n 417 (by decide +kernel) rfl⟩⟩
theorem f_X0_15 : CkF RX0 15 0 1 "[I" true true := ⟨(RX0, TX0, 2), rfl, by decide, ⟨rfl, rfl, rfl⟩, rfl, Or.inl (tb_g 418 (by decide +kernel) rfl)⟩
theorem f_X11_322 : CkF RX11 322 0 1 "[I" true true := ⟨(RX0, TX0, 2), rfl, by decide, ⟨rfl, rfl, rfl⟩, rfl, Or.inr ⟨"RiverSteamers", tb_n 419 (by decide +kernel) rfl⟩⟩
theorem f_X9_9 : CkF RX9 9 9 0 "I" false false := ⟨(RX9, TX9, 5), rfl, by decide, ⟨rfl, rfl, rfl⟩, rfl, Or.inl (tb_g 431 (by decide +kernel) rfl)⟩
theorem f_X9_15 : CkF RX9 15 9 1 "I" false false := ⟨(RX9, TX9, 5), rfl, by decide, ⟨rfl, rfl, rfl⟩, rfl, Or.inl (tb_g 432 (by decide +kernel) rfl)⟩
theorem f_X9_18 : CkF RX9 18 9 2 "[I" true true := ⟨(RX9, TX9, 5), rfl, by decide, ⟨rfl, rfl, rfl⟩, rfl, Or.inl (tb_g 433 (by decide +kernel) rfl)⟩
theorem f_X9_22 : CkF RX9 22 9 3 "[I" true true := ⟨(RX9, TX9, 5), rfl, by decide, ⟨rfl, rfl, rfl⟩, rfl, Or.inl (tb_g 434 (by decide +kernel) rfl)⟩
theorem f_X9_25 : CkF RX9 25 9 4 "[I" true true := ⟨(RX9, TX9, 5), rfl, by decide, ⟨rfl, rfl, rfl⟩, rfl, Or.inl (tb_g 435 (by decide +kernel) rfl)⟩
theorem f_X6_9 : CkF RX6 9 6 0 "I" false false := ⟨(RX6, TX6, 3), rfl, by decide, ⟨rfl, rfl, rfl⟩, rfl, Or.inl (tb_g 452 (by decide +kernel) rfl)⟩
theorem f_X6_15 : CkF RX6 15 6 1 "I" false false := ⟨(RX6, TX6, 3), rfl, by decide, ⟨rfl, rfl, rfl⟩, rfl, Or.inl (tb_g 453 (by decide +kernel) rfl)⟩
theorem f_X11_375 : CkF RX11 375 6 1 "I" false false := ⟨(RX6, TX6, 3), rfl, by decide, ⟨rfl, rfl, rfl⟩, rfl, Or.inr ⟨"RiverSteamers", tb_n 454 (by decide +kernel) rfl⟩⟩
theorem f_X6_18 : CkF RX6 18 6 2 "[I" true true := ⟨(RX6, TX6, 3), rfl, by decide, ⟨rfl, rfl, rfl⟩, rfl, Or.inl (tb_g 455 (by decide +kernel) rfl)⟩
theorem f_X11_342 : CkF RX11 342 6 2 "[I" true true := ⟨(RX6, TX6, 3), rfl, by decide, ⟨rfl, rfl, rfl⟩, rfl, Or.inr ⟨"RiverSteamers", tb_n 456 (by decide +kernel) rfl⟩⟩
theorem f_X11_10 : CkF RX11 10 11 0 "LRiverSteamers$River;" true true := ⟨(RX11, TX11, 8), rfl, by decide, ⟨rfl, rfl, rfl⟩, rfl, Or.inl (tb_g 464 (by decide +kernel) rfl)⟩
theorem f_X11_16 : CkF RX11 16 11 1 "LRiverSteamers$River;" true false := ⟨(RX11, TX11, 8), rfl, by decide, ⟨rfl, rfl, rfl⟩, rfl, Or.inl (tb_g 465 (by decide +kernel) rfl)⟩
theorem f_X11_19 : CkF RX11 19 11 2 "I" false false := ⟨(RX11, TX11, 8), rfl, by decide, ⟨rfl, rfl, rfl⟩, rfl, Or.inl (tb_g 466 (by decide +kernel) rfl)⟩
theorem f_X11_23 : CkF RX11 23 11 3 "I" false false := ⟨(RX11, TX11, 8), rfl, by decide, ⟨rfl, rfl, rfl⟩, rfl, Or.inl (tb_g 467 (by decide +kernel) rfl)⟩
theorem f_X11_28 : CkF RX11 28 11 4 "[LRiverSteamers$Sheet;" true true := ⟨(RX11, TX11, 8), rfl, by decide, ⟨rfl, rfl, rfl⟩, rfl, Or.inl (tb_g 468 (by decide +kernel) rfl)⟩
theorem f_X11_35 : CkF RX11 35 11 5 "LRiverSteamers$Acts;" true true := ⟨(RX11, TX11, 8), rfl, by decide, ⟨rfl, rfl, rfl⟩, rfl, Or.inl (tb_g 469 (by decide +kernel) rfl)⟩
theorem f_X11_42 : CkF RX11 42 11 6 "LRiverSteamers$Wooding;" true true := ⟨(RX11, TX11, 8), rfl, by decide, ⟨rfl, rfl, rfl⟩, rfl, Or.inl (tb_g 470 (by decide +kernel) rfl)⟩
theorem f_X11_46 : CkF RX11 46 11 7 "[I" true true := ⟨(RX11, TX11, 8), rfl, by decide, ⟨rfl, rfl, rfl⟩, rfl, Or.inl (tb_g 471 (by decide +kernel) rfl)⟩
theorem f_X11_366 : Cond.fieldLink RX11 366 "RiverSteamers" "KIND_ABOVE" "[I" ∈ TBg := tb_g 532 (by decide +kernel) rfl
theorem f_X0_28 : Cond.fieldLink RX0 28 "RiverSteamers$Acts" "BODIES" "[I" ∈ TBg := tb_g 925 (by decide +kernel) rfl
theorem f_X0_31 : Cond.fieldLinkNest RX0 31 "RiverSteamers" "KIND_ABOVE" "[I" "RiverSteamers" ∈ TBn := tb_n 927 (by decide +kernel) rfl
theorem f_X12_167 : CkF RX12 167 12 0 "I" false false := ⟨(RX12, TX12, 64), rfl, by decide, ⟨rfl, rfl, rfl⟩, rfl, Or.inl (tb_g 1015 (by decide +kernel) rfl)⟩
theorem f_X12_184 : CkF RX12 184 12 1 "I" false false := ⟨(RX12, TX12, 64), rfl, by decide, ⟨rfl, rfl, rfl⟩, rfl, Or.inl (tb_g 1016 (by decide +kernel) rfl)⟩
theorem f_X12_171 : CkF RX12 171 12 2 "I" false false := ⟨(RX12, TX12, 64), rfl, by decide, ⟨rfl, rfl, rfl⟩, rfl, Or.inl (tb_g 1017 (by decide +kernel) rfl)⟩
theorem f_X12_7 : CkF RX12 7 12 3 "[I" true true := ⟨(RX12, TX12, 64), rfl, by decide, ⟨rfl, rfl, rfl⟩, rfl, Or.inl (tb_g 1018 (by decide +kernel) rfl)⟩
theorem f_X12_13 : CkF RX12 13 12 4 "[I" true true := ⟨(RX12, TX12, 64), rfl, by decide, ⟨rfl, rfl, rfl⟩, rfl, Or.inl (tb_g 1019 (by decide +kernel) rfl)⟩
theorem f_X12_16 : CkF RX12 16 12 5 "[I" true true := ⟨(RX12, TX12, 64), rfl, by decide, ⟨rfl, rfl, rfl⟩, rfl, Or.inl (tb_g 1020 (by decide +kernel) rfl)⟩
theorem f_X12_19 : CkF RX12 19 12 6 "[Z" true true := ⟨(RX12, TX12, 64), rfl, by decide, ⟨rfl, rfl, rfl⟩, rfl, Or.inl (tb_g 1021 (by decide +kernel) rfl)⟩
theorem f_X12_23 : CkF RX12 23 12 7 "[I" true true := ⟨(RX12, TX12, 64), rfl, by decide, ⟨rfl, rfl, rfl⟩, rfl, Or.inl (tb_g 1022 (by decide +kernel) rfl)⟩
theorem f_X12_26 : CkF RX12 26 12 8 "[Z" true true := ⟨(RX12, TX12, 64), rfl, by decide, ⟨rfl, rfl, rfl⟩, rfl, Or.inl (tb_g 1023 (by decide +kernel) rfl)⟩
theorem f_X12_29 : CkF RX12 29 12 9 "[I" true true := ⟨(RX12, TX12, 64), rfl, by decide, ⟨rfl, rfl, rfl⟩, rfl, Or.inl (tb_g 1024 (by decide +kernel) rfl)⟩
theorem f_X12_32 : CkF RX12 32 12 10 "[Z" true true := ⟨(RX12, TX12, 64), rfl, by decide, ⟨rfl, rfl, rfl⟩, rfl, Or.inl (tb_g 1025 (by decide +kernel) rfl)⟩
theorem f_X12_35 : CkF RX12 35 12 11 "[Z" true true := ⟨(RX12, TX12, 64), rfl, by decide, ⟨rfl, rfl, rfl⟩, rfl, Or.inl (tb_g 1026 (by decide +kernel) rfl)⟩
theorem f_X12_178 : CkF RX12 178 12 12 "I" false false := ⟨(RX12, TX12, 64), rfl, by decide, ⟨rfl, rfl, rfl⟩, rfl, Or.inl (tb_g 1027 (by decide +kernel) rfl)⟩
theorem f_X12_38 : CkF RX12 38 12 13 "[I" true true := ⟨(RX12, TX12, 64), rfl, by decide, ⟨rfl, rfl, rfl⟩, rfl, Or.inl (tb_g 1028 (by decide +kernel) rfl)⟩
theorem f_X12_41 : CkF RX12 41 12 14 "[I" true true := ⟨(RX12, TX12, 64), rfl, by decide, ⟨rfl, rfl, rfl⟩, rfl, Or.inl (tb_g 1029 (by decide +kernel) rfl)⟩
theorem f_X12_44 : CkF RX12 44 12 15 "[I" true true := ⟨(RX12, TX12, 64), rfl, by decide, ⟨rfl, rfl, rfl⟩, rfl, Or.inl (tb_g 1030 (by decide +kernel) rfl)⟩
theorem f_X12_47 : CkF RX12 47 12 16 "[I" true true := ⟨(RX12, TX12, 64), rfl, by decide, ⟨rfl, rfl, rfl⟩, rfl, Or.inl (tb_g 1031 (by decide +kernel) rfl)⟩
theorem f_X12_50 : CkF RX12 50 12 17 "[I" true true := ⟨(RX12, TX12, 64), rfl, by decide, ⟨rfl, rfl, rfl⟩, rfl, Or.inl (tb_g 1032 (by decide +kernel) rfl)⟩
theorem f_X12_53 : CkF RX12 53 12 18 "[I" true true := ⟨(RX12, TX12, 64), rfl, by decide, ⟨rfl, rfl, rfl⟩, rfl, Or.inl (tb_g 1033 (by decide +kernel) rfl)⟩
theorem f_X12_56 : CkF RX12 56 12 19 "[I" true true := ⟨(RX12, TX12, 64), rfl, by decide, ⟨rfl, rfl, rfl⟩, rfl, Or.inl (tb_g 1034 (by decide +kernel) rfl)⟩
theorem f_X12_59 : CkF RX12 59 12 20 "[I" true true := ⟨(RX12, TX12, 64), rfl, by decide, ⟨rfl, rfl, rfl⟩, rfl, Or.inl (tb_g 1035 (by decide +kernel) rfl)⟩
theorem f_X12_62 : CkF RX12 62 12 21 "[I" true true := ⟨(RX12, TX12, 64), rfl, by decide, ⟨rfl, rfl, rfl⟩, rfl, Or.inl (tb_g 1036 (by decide +kernel) rfl)⟩
theorem f_X12_65 : CkF RX12 65 12 22 "[I" true true := ⟨(RX12, TX12, 64), rfl, by decide, ⟨rfl, rfl, rfl⟩, rfl, Or.inl (tb_g 1037 (by decide +kernel) rfl)⟩
theorem f_X12_68 : CkF RX12 68 12 23 "[I" true true := ⟨(RX12, TX12, 64), rfl, by decide, ⟨rfl, rfl, rfl⟩, rfl, Or.inl (tb_g 1038 (by decide +kernel) rfl)⟩
theorem f_X12_181 : CkF RX12 181 12 24 "I" false false := ⟨(RX12, TX12, 64), rfl, by decide, ⟨rfl, rfl, rfl⟩, rfl, Or.inl (tb_g 1039 (by decide +kernel) rfl)⟩
theorem f_X12_71 : CkF RX12 71 12 25 "[I" true true := ⟨(RX12, TX12, 64), rfl, by decide, ⟨rfl, rfl, rfl⟩, rfl, Or.inl (tb_g 1040 (by decide +kernel) rfl)⟩
theorem f_X12_74 : CkF RX12 74 12 26 "[I" true true := ⟨(RX12, TX12, 64), rfl, by decide, ⟨rfl, rfl, rfl⟩, rfl, Or.inl (tb_g 1041 (by decide +kernel) rfl)⟩
theorem f_X12_77 : CkF RX12 77 12 27 "[I" true true := ⟨(RX12, TX12, 64), rfl, by decide, ⟨rfl, rfl, rfl⟩, rfl, Or.inl (tb_g 1042 (by decide +kernel) rfl)⟩
theorem f_X12_80 : CkF RX12 80 12 28 "[I" true true := ⟨(RX12, TX12, 64), rfl, by decide, ⟨rfl, rfl, rfl⟩, rfl, Or.inl (tb_g 1043 (by decide +kernel) rfl)⟩
theorem f_X12_83 : CkF RX12 83 12 29 "[I" true true := ⟨(RX12, TX12, 64), rfl, by decide, ⟨rfl, rfl, rfl⟩, rfl, Or.inl (tb_g 1044 (by decide +kernel) rfl)⟩
theorem f_X12_244 : CkF RX12 244 12 30 "I" false false := ⟨(RX12, TX12, 64), rfl, by decide, ⟨rfl, rfl, rfl⟩, rfl, Or.inl (tb_g 1045 (by decide +kernel) rfl)⟩
theorem f_X12_287 : CkF RX12 287 12 31 "I" false false := ⟨(RX12, TX12, 64), rfl, by decide, ⟨rfl, rfl, rfl⟩, rfl, Or.inl (tb_g 1046 (by decide +kernel) rfl)⟩
theorem f_X12_86 : CkF RX12 86 12 32 "[I" true true := ⟨(RX12, TX12, 64), rfl, by decide, ⟨rfl, rfl, rfl⟩, rfl, Or.inl (tb_g 1047 (by decide +kernel) rfl)⟩
theorem f_X12_89 : CkF RX12 89 12 33 "[I" true true := ⟨(RX12, TX12, 64), rfl, by decide, ⟨rfl, rfl, rfl⟩, rfl, Or.inl (tb_g 1048 (by decide +kernel) rfl)⟩
theorem f_X12_92 : CkF RX12 92 12 34 "[I" true true := ⟨(RX12, TX12, 64), rfl, by decide, ⟨rfl, rfl, rfl⟩, rfl, Or.inl (tb_g 1049 (by decide +kernel) rfl)⟩
theorem f_X12_296 : CkF RX12 296 12 35 "I" false false := ⟨(RX12, TX12, 64), rfl, by decide, ⟨rfl, rfl, rfl⟩, rfl, Or.inl (tb_g 1050 (by decide +kernel) rfl)⟩
theorem f_X12_95 : CkF RX12 95 12 36 "[I" true true := ⟨(RX12, TX12, 64), rfl, by decide, ⟨rfl, rfl, rfl⟩, rfl, Or.inl (tb_g 1051 (by decide +kernel) rfl)⟩
theorem f_X12_98 : CkF RX12 98 12 37 "[I" true true := ⟨(RX12, TX12, 64), rfl, by decide, ⟨rfl, rfl, rfl⟩, rfl, Or.inl (tb_g 1052 (by decide +kernel) rfl)⟩
theorem f_X12_101 : CkF RX12 101 12 38 "[I" true true := ⟨(RX12, TX12, 64), rfl, by decide, ⟨rfl, rfl, rfl⟩, rfl, Or.inl (tb_g 1053 (by decide +kernel) rfl)⟩
theorem f_X12_104 : CkF RX12 104 12 39 "[I" true true := ⟨(RX12, TX12, 64), rfl, by decide, ⟨rfl, rfl, rfl⟩, rfl, Or.inl (tb_g 1054 (by decide +kernel) rfl)⟩
theorem f_X12_107 : CkF RX12 107 12 40 "[I" true true := ⟨(RX12, TX12, 64), rfl, by decide, ⟨rfl, rfl, rfl⟩, rfl, Or.inl (tb_g 1055 (by decide +kernel) rfl)⟩
theorem f_X12_110 : CkF RX12 110 12 41 "[I" true true := ⟨(RX12, TX12, 64), rfl, by decide, ⟨rfl, rfl, rfl⟩, rfl, Or.inl (tb_g 1056 (by decide +kernel) rfl)⟩
theorem f_X12_113 : CkF RX12 113 12 42 "[I" true true := ⟨(RX12, TX12, 64), rfl, by decide, ⟨rfl, rfl, rfl⟩, rfl, Or.inl (tb_g 1057 (by decide +kernel) rfl)⟩
theorem f_X12_274 : CkF RX12 274 12 43 "I" false false := ⟨(RX12, TX12, 64), rfl, by decide, ⟨rfl, rfl, rfl⟩, rfl, Or.inl (tb_g 1058 (by decide +kernel) rfl)⟩
theorem f_X12_307 : CkF RX12 307 12 44 "Z" false false := ⟨(RX12, TX12, 64), rfl, by decide, ⟨rfl, rfl, rfl⟩, rfl, Or.inl (tb_g 1059 (by decide +kernel) rfl)⟩
theorem f_X12_311 : CkF RX12 311 12 45 "I" false false := ⟨(RX12, TX12, 64), rfl, by decide, ⟨rfl, rfl, rfl⟩, rfl, Or.inl (tb_g 1060 (by decide +kernel) rfl)⟩
theorem f_X12_116 : CkF RX12 116 12 46 "[I" true true := ⟨(RX12, TX12, 64), rfl, by decide, ⟨rfl, rfl, rfl⟩, rfl, Or.inl (tb_g 1061 (by decide +kernel) rfl)⟩
theorem f_X12_119 : CkF RX12 119 12 47 "[Z" true true := ⟨(RX12, TX12, 64), rfl, by decide, ⟨rfl, rfl, rfl⟩, rfl, Or.inl (tb_g 1062 (by decide +kernel) rfl)⟩
theorem f_X12_122 : CkF RX12 122 12 48 "[I" true true := ⟨(RX12, TX12, 64), rfl, by decide, ⟨rfl, rfl, rfl⟩, rfl, Or.inl (tb_g 1063 (by decide +kernel) rfl)⟩
theorem f_X12_125 : CkF RX12 125 12 49 "[Z" true true := ⟨(RX12, TX12, 64), rfl, by decide, ⟨rfl, rfl, rfl⟩, rfl, Or.inl (tb_g 1064 (by decide +kernel) rfl)⟩
theorem f_X12_128 : CkF RX12 128 12 50 "[I" true true := ⟨(RX12, TX12, 64), rfl, by decide, ⟨rfl, rfl, rfl⟩, rfl, Or.inl (tb_g 1065 (by decide +kernel) rfl)⟩
theorem f_X12_131 : CkF RX12 131 12 51 "[Z" true true := ⟨(RX12, TX12, 64), rfl, by decide, ⟨rfl, rfl, rfl⟩, rfl, Or.inl (tb_g 1066 (by decide +kernel) rfl)⟩
theorem f_X12_134 : CkF RX12 134 12 52 "[Z" true true := ⟨(RX12, TX12, 64), rfl, by decide, ⟨rfl, rfl, rfl⟩, rfl, Or.inl (tb_g 1067 (by decide +kernel) rfl)⟩
theorem f_X12_137 : CkF RX12 137 12 53 "[I" true true := ⟨(RX12, TX12, 64), rfl, by decide, ⟨rfl, rfl, rfl⟩, rfl, Or.inl (tb_g 1068 (by decide +kernel) rfl)⟩
theorem f_X12_140 : CkF RX12 140 12 54 "[I" true true := ⟨(RX12, TX12, 64), rfl, by decide, ⟨rfl, rfl, rfl⟩, rfl, Or.inl (tb_g 1069 (by decide +kernel) rfl)⟩
theorem f_X12_143 : CkF RX12 143 12 55 "[I" true true := ⟨(RX12, TX12, 64), rfl, by decide, ⟨rfl, rfl, rfl⟩, rfl, Or.inl (tb_g 1070 (by decide +kernel) rfl)⟩
theorem f_X12_146 : CkF RX12 146 12 56 "[I" true true := ⟨(RX12, TX12, 64), rfl, by decide, ⟨rfl, rfl, rfl⟩, rfl, Or.inl (tb_g 1071 (by decide +kernel) rfl)⟩
theorem f_X12_149 : CkF RX12 149 12 57 "[I" true true := ⟨(RX12, TX12, 64), rfl, by decide, ⟨rfl, rfl, rfl⟩, rfl, Or.inl (tb_g 1072 (by decide +kernel) rfl)⟩
theorem f_X12_152 : CkF RX12 152 12 58 "[I" true true := ⟨(RX12, TX12, 64), rfl, by decide, ⟨rfl, rfl, rfl⟩, rfl, Or.inl (tb_g 1073 (by decide +kernel) rfl)⟩
theorem f_X12_317 : CkF RX12 317 12 59 "I" false false := ⟨(RX12, TX12, 64), rfl, by decide, ⟨rfl, rfl, rfl⟩, rfl, Or.inl (tb_g 1074 (by decide +kernel) rfl)⟩
theorem f_X12_155 : CkF RX12 155 12 60 "[I" true true := ⟨(RX12, TX12, 64), rfl, by decide, ⟨rfl, rfl, rfl⟩, rfl, Or.inl (tb_g 1075 (by decide +kernel) rfl)⟩
theorem f_X12_158 : CkF RX12 158 12 61 "[I" true true := ⟨(RX12, TX12, 64), rfl, by decide, ⟨rfl, rfl, rfl⟩, rfl, Or.inl (tb_g 1076 (by decide +kernel) rfl)⟩
theorem f_X12_161 : CkF RX12 161 12 62 "[I" true true := ⟨(RX12, TX12, 64), rfl, by decide, ⟨rfl, rfl, rfl⟩, rfl, Or.inl (tb_g 1077 (by decide +kernel) rfl)⟩
theorem f_X12_164 : CkF RX12 164 12 63 "[Z" true true := ⟨(RX12, TX12, 64), rfl, by decide, ⟨rfl, rfl, rfl⟩, rfl, Or.inl (tb_g 1078 (by decide +kernel) rfl)⟩
theorem k_X11_init : Cond.instanceMethod mX11_init.1 ∈ TBg := tb_g 130 (by decide +kernel) rfl
set_option maxRecDepth 20000 in
theorem q_X11_init : Cond.code mX11_init.1 mX11_init.2.1 mX11_init.2.2.1 mX11_init.2.2.2 ∈ TBg ∧ Cond.initialized mX11_init.1.cls ∈ TBg ∧ (mX11_init.1.cls ≠ "java/lang/invoke/MethodHandle" ∧ mX11_init.1.cls ≠ "java/lang/invoke/VarHandle" ∧ (parseMethodDescriptor mX11_init.1.desc).map (fun d => d.parameters.length) = some 0) := ⟨tb_g 131 rfl rfl, tb_g 110 (by decide +kernel) rfl, by decide +kernel⟩
theorem c_L_9 : CkM RL 9 mX11_init 0 := ⟨q_X11_init.1, q_X11_init.2.1, q_X11_init.2.2, Or.inl (tb_g 129 (by decide +kernel) rfl)⟩
set_option maxRecDepth 20000 in
theorem c_X11_1 : Cond.methodLink RX11 1 Lib.objectInit ∈ TBg ∧ Cond.instanceMethod Lib.objectInit ∈ TBg ∧ Cond.code Lib.objectInit ⟨#[0xb1]⟩ 1 none ∈ TBg := ⟨tb_g 132 (by decide +kernel) rfl, tb_g 133 (by decide +kernel) rfl, tb_g 134 rfl rfl⟩
theorem k_X4_init : Cond.instanceMethod mX4_init.1 ∈ TBg := tb_g 138 (by decide +kernel) rfl
set_option maxRecDepth 20000 in
theorem q_X4_init : Cond.code mX4_init.1 mX4_init.2.1 mX4_init.2.2.1 mX4_init.2.2.2 ∈ TBg ∧ Cond.initialized mX4_init.1.cls ∈ TBg ∧ (mX4_init.1.cls ≠ "java/lang/invoke/MethodHandle" ∧ mX4_init.1.cls ≠ "java/lang/invoke/VarHandle" ∧ (parseMethodDescriptor mX4_init.1.desc).map (fun d => d.parameters.length) = some 0) := ⟨tb_g 139 rfl rfl, tb_g 111 (by decide +kernel) rfl, by decide +kernel⟩
theorem c_X11_9 : CkM RX11 9 mX4_init 0 := ⟨q_X4_init.1, q_X4_init.2.1, q_X4_init.2.2, Or.inr ⟨"RiverSteamers", tb_n 137 (by decide +kernel) rfl⟩⟩
set_option maxRecDepth 20000 in
theorem c_X4_3 : Cond.methodLink RX4 3 Lib.objectInit ∈ TBg ∧ Cond.instanceMethod Lib.objectInit ∈ TBg ∧ Cond.code Lib.objectInit ⟨#[0xb1]⟩ 1 none ∈ TBg := ⟨tb_g 140 (by decide +kernel) rfl, tb_g 133 (by decide +kernel) rfl, tb_g 134 rfl rfl⟩
theorem k_J_fill : Cond.static mJ_fill.1 ∈ TBg := tb_g 154 (by decide +kernel) rfl
set_option maxRecDepth 20000 in
theorem q_J_fill : Cond.code mJ_fill.1 mJ_fill.2.1 mJ_fill.2.2.1 mJ_fill.2.2.2 ∈ TBg ∧ Cond.initialized mJ_fill.1.cls ∈ TBg ∧ (mJ_fill.1.cls ≠ "java/lang/invoke/MethodHandle" ∧ mJ_fill.1.cls ≠ "java/lang/invoke/VarHandle" ∧ (parseMethodDescriptor mJ_fill.1.desc).map (fun d => d.parameters.length) = some 2) := ⟨tb_g 155 rfl rfl, tb_g 112 (by decide +kernel) rfl, by decide +kernel⟩
theorem c_X4_80 : CkM RX4 80 mJ_fill 2 := ⟨q_J_fill.1, q_J_fill.2.1, q_J_fill.2.2, Or.inl (tb_g 153 (by decide +kernel) rfl)⟩
theorem k_X7_init : Cond.instanceMethod mX7_init.1 ∈ TBg := tb_g 158 (by decide +kernel) rfl
set_option maxRecDepth 20000 in
theorem q_X7_init : Cond.code mX7_init.1 mX7_init.2.1 mX7_init.2.2.1 mX7_init.2.2.2 ∈ TBg ∧ Cond.initialized mX7_init.1.cls ∈ TBg ∧ (mX7_init.1.cls ≠ "java/lang/invoke/MethodHandle" ∧ mX7_init.1.cls ≠ "java/lang/invoke/VarHandle" ∧ (parseMethodDescriptor mX7_init.1.desc).map (fun d => d.parameters.length) = some 0) := ⟨tb_g 159 rfl rfl, tb_g 113 (by decide +kernel) rfl, by decide +kernel⟩
theorem c_X4_86 : CkM RX4 86 mX7_init 0 := ⟨q_X7_init.1, q_X7_init.2.1, q_X7_init.2.2, Or.inr ⟨"RiverSteamers", tb_n 157 (by decide +kernel) rfl⟩⟩
set_option maxRecDepth 20000 in
theorem c_X7_3 : Cond.methodLink RX7 3 Lib.objectInit ∈ TBg ∧ Cond.instanceMethod Lib.objectInit ∈ TBg ∧ Cond.code Lib.objectInit ⟨#[0xb1]⟩ 1 none ∈ TBg := ⟨tb_g 160 (by decide +kernel) rfl, tb_g 133 (by decide +kernel) rfl, tb_g 134 rfl rfl⟩
theorem k_X3_init : Cond.instanceMethod mX3_init.1 ∈ TBg := tb_g 197 (by decide +kernel) rfl
set_option maxRecDepth 20000 in
theorem q_X3_init : Cond.code mX3_init.1 mX3_init.2.1 mX3_init.2.2.1 mX3_init.2.2.2 ∈ TBg ∧ Cond.initialized mX3_init.1.cls ∈ TBg ∧ (mX3_init.1.cls ≠ "java/lang/invoke/MethodHandle" ∧ mX3_init.1.cls ≠ "java/lang/invoke/VarHandle" ∧ (parseMethodDescriptor mX3_init.1.desc).map (fun d => d.parameters.length) = some 0) := ⟨tb_g 198 rfl rfl, tb_g 114 (by decide +kernel) rfl, by decide +kernel⟩
theorem c_X4_87 : CkM RX4 87 mX3_init 0 := ⟨q_X3_init.1, q_X3_init.2.1, q_X3_init.2.2, Or.inr ⟨"RiverSteamers", tb_n 196 (by decide +kernel) rfl⟩⟩
set_option maxRecDepth 20000 in
theorem c_X3_1 : Cond.methodLink RX3 1 Lib.objectInit ∈ TBg ∧ Cond.instanceMethod Lib.objectInit ∈ TBg ∧ Cond.code Lib.objectInit ⟨#[0xb1]⟩ 1 none ∈ TBg := ⟨tb_g 199 (by decide +kernel) rfl, tb_g 133 (by decide +kernel) rfl, tb_g 134 rfl rfl⟩
theorem k_X10_init : Cond.instanceMethod mX10_init.1 ∈ TBg := tb_g 203 (by decide +kernel) rfl
set_option maxRecDepth 20000 in
theorem q_X10_init : Cond.code mX10_init.1 mX10_init.2.1 mX10_init.2.2.1 mX10_init.2.2.2 ∈ TBg ∧ Cond.initialized mX10_init.1.cls ∈ TBg ∧ (mX10_init.1.cls ≠ "java/lang/invoke/MethodHandle" ∧ mX10_init.1.cls ≠ "java/lang/invoke/VarHandle" ∧ (parseMethodDescriptor mX10_init.1.desc).map (fun d => d.parameters.length) = some 0) := ⟨tb_g 204 rfl rfl, tb_g 115 (by decide +kernel) rfl, by decide +kernel⟩
theorem c_X3_15 : CkM RX3 15 mX10_init 0 := ⟨q_X10_init.1, q_X10_init.2.1, q_X10_init.2.2, Or.inr ⟨"RiverSteamers", tb_n 202 (by decide +kernel) rfl⟩⟩
set_option maxRecDepth 20000 in
theorem c_X10_3 : Cond.methodLink RX10 3 Lib.objectInit ∈ TBg ∧ Cond.instanceMethod Lib.objectInit ∈ TBg ∧ Cond.code Lib.objectInit ⟨#[0xb1]⟩ 1 none ∈ TBg := ⟨tb_g 205 (by decide +kernel) rfl, tb_g 133 (by decide +kernel) rfl, tb_g 134 rfl rfl⟩
theorem c_X10_18 : CkM RX10 18 mJ_fill 2 := ⟨q_J_fill.1, q_J_fill.2.1, q_J_fill.2.2, Or.inl (tb_g 206 (by decide +kernel) rfl)⟩
theorem k_X2_init : Cond.instanceMethod mX2_init.1 ∈ TBg := tb_g 228 (by decide +kernel) rfl
set_option maxRecDepth 20000 in
theorem q_X2_init : Cond.code mX2_init.1 mX2_init.2.1 mX2_init.2.2.1 mX2_init.2.2.2 ∈ TBg ∧ Cond.initialized mX2_init.1.cls ∈ TBg ∧ (mX2_init.1.cls ≠ "java/lang/invoke/MethodHandle" ∧ mX2_init.1.cls ≠ "java/lang/invoke/VarHandle" ∧ (parseMethodDescriptor mX2_init.1.desc).map (fun d => d.parameters.length) = some 0) := ⟨tb_g 229 rfl rfl, tb_g 116 (by decide +kernel) rfl, by decide +kernel⟩
theorem c_X4_88 : CkM RX4 88 mX2_init 0 := ⟨q_X2_init.1, q_X2_init.2.1, q_X2_init.2.2, Or.inr ⟨"RiverSteamers", tb_n 227 (by decide +kernel) rfl⟩⟩
set_option maxRecDepth 20000 in
theorem c_X2_3 : Cond.methodLink RX2 3 Lib.objectInit ∈ TBg ∧ Cond.instanceMethod Lib.objectInit ∈ TBg ∧ Cond.code Lib.objectInit ⟨#[0xb1]⟩ 1 none ∈ TBg := ⟨tb_g 230 (by decide +kernel) rfl, tb_g 133 (by decide +kernel) rfl, tb_g 134 rfl rfl⟩
theorem c_X2_41 : CkM RX2 41 mX10_init 0 := ⟨q_X10_init.1, q_X10_init.2.1, q_X10_init.2.2, Or.inr ⟨"RiverSteamers", tb_n 232 (by decide +kernel) rfl⟩⟩
theorem k_X1_init : Cond.instanceMethod mX1_init.1 ∈ TBg := tb_g 281 (by decide +kernel) rfl
set_option maxRecDepth 20000 in
theorem q_X1_init : Cond.code mX1_init.1 mX1_init.2.1 mX1_init.2.2.1 mX1_init.2.2.2 ∈ TBg ∧ Cond.initialized mX1_init.1.cls ∈ TBg ∧ (mX1_init.1.cls ≠ "java/lang/invoke/MethodHandle" ∧ mX1_init.1.cls ≠ "java/lang/invoke/VarHandle" ∧ (parseMethodDescriptor mX1_init.1.desc).map (fun d => d.parameters.length) = some 0) := ⟨tb_g 282 rfl rfl, tb_g 117 (by decide +kernel) rfl, by decide +kernel⟩
theorem c_X4_89 : CkM RX4 89 mX1_init 0 := ⟨q_X1_init.1, q_X1_init.2.1, q_X1_init.2.2, Or.inr ⟨"RiverSteamers", tb_n 280 (by decide +kernel) rfl⟩⟩
set_option maxRecDepth 20000 in
theorem c_X1_3 : Cond.methodLink RX1 3 Lib.objectInit ∈ TBg ∧ Cond.instanceMethod Lib.objectInit ∈ TBg ∧ Cond.code Lib.objectInit ⟨#[0xb1]⟩ 1 none ∈ TBg := ⟨tb_g 283 (by decide +kernel) rfl, tb_g 133 (by decide +kernel) rfl, tb_g 134 rfl rfl⟩
theorem k_X8_init : Cond.instanceMethod mX8_init.1 ∈ TBg := tb_g 309 (by decide +kernel) rfl
set_option maxRecDepth 20000 in
theorem q_X8_init : Cond.code mX8_init.1 mX8_init.2.1 mX8_init.2.2.1 mX8_init.2.2.2 ∈ TBg ∧ Cond.initialized mX8_init.1.cls ∈ TBg ∧ (mX8_init.1.cls ≠ "java/lang/invoke/MethodHandle" ∧ mX8_init.1.cls ≠ "java/lang/invoke/VarHandle" ∧ (parseMethodDescriptor mX8_init.1.desc).map (fun d => d.parameters.length) = some 0) := ⟨tb_g 310 rfl rfl, tb_g 118 (by decide +kernel) rfl, by decide +kernel⟩
theorem c_X4_90 : CkM RX4 90 mX8_init 0 := ⟨q_X8_init.1, q_X8_init.2.1, q_X8_init.2.2, Or.inr ⟨"RiverSteamers", tb_n 308 (by decide +kernel) rfl⟩⟩
set_option maxRecDepth 20000 in
theorem c_X8_1 : Cond.methodLink RX8 1 Lib.objectInit ∈ TBg ∧ Cond.instanceMethod Lib.objectInit ∈ TBg ∧ Cond.code Lib.objectInit ⟨#[0xb1]⟩ 1 none ∈ TBg := ⟨tb_g 311 (by decide +kernel) rfl, tb_g 133 (by decide +kernel) rfl, tb_g 134 rfl rfl⟩
theorem k_X5_init : Cond.instanceMethod mX5_init.1 ∈ TBg := tb_g 325 (by decide +kernel) rfl
set_option maxRecDepth 20000 in
theorem q_X5_init : Cond.code mX5_init.1 mX5_init.2.1 mX5_init.2.2.1 mX5_init.2.2.2 ∈ TBg ∧ Cond.initialized mX5_init.1.cls ∈ TBg ∧ (mX5_init.1.cls ≠ "java/lang/invoke/MethodHandle" ∧ mX5_init.1.cls ≠ "java/lang/invoke/VarHandle" ∧ (parseMethodDescriptor mX5_init.1.desc).map (fun d => d.parameters.length) = some 0) := ⟨tb_g 326 rfl rfl, tb_g 119 (by decide +kernel) rfl, by decide +kernel⟩
theorem c_X4_91 : CkM RX4 91 mX5_init 0 := ⟨q_X5_init.1, q_X5_init.2.1, q_X5_init.2.2, Or.inr ⟨"RiverSteamers", tb_n 324 (by decide +kernel) rfl⟩⟩
set_option maxRecDepth 20000 in
theorem c_X5_1 : Cond.methodLink RX5 1 Lib.objectInit ∈ TBg ∧ Cond.instanceMethod Lib.objectInit ∈ TBg ∧ Cond.code Lib.objectInit ⟨#[0xb1]⟩ 1 none ∈ TBg := ⟨tb_g 327 (by decide +kernel) rfl, tb_g 133 (by decide +kernel) rfl, tb_g 134 rfl rfl⟩
theorem k_X0_init : Cond.instanceMethod mX0_init.1 ∈ TBg := tb_g 413 (by decide +kernel) rfl
set_option maxRecDepth 20000 in
theorem q_X0_init : Cond.code mX0_init.1 mX0_init.2.1 mX0_init.2.2.1 mX0_init.2.2.2 ∈ TBg ∧ Cond.initialized mX0_init.1.cls ∈ TBg ∧ (mX0_init.1.cls ≠ "java/lang/invoke/MethodHandle" ∧ mX0_init.1.cls ≠ "java/lang/invoke/VarHandle" ∧ (parseMethodDescriptor mX0_init.1.desc).map (fun d => d.parameters.length) = some 0) := ⟨tb_g 414 rfl rfl, tb_g 120 (by decide +kernel) rfl, by decide +kernel⟩
theorem c_X11_34 : CkM RX11 34 mX0_init 0 := ⟨q_X0_init.1, q_X0_init.2.1, q_X0_init.2.2, Or.inr ⟨"RiverSteamers", tb_n 412 (by decide +kernel) rfl⟩⟩
set_option maxRecDepth 20000 in
theorem c_X0_3 : Cond.methodLink RX0 3 Lib.objectInit ∈ TBg ∧ Cond.instanceMethod Lib.objectInit ∈ TBg ∧ Cond.code Lib.objectInit ⟨#[0xb1]⟩ 1 none ∈ TBg := ⟨tb_g 415 (by decide +kernel) rfl, tb_g 133 (by decide +kernel) rfl, tb_g 134 rfl rfl⟩
theorem k_X9_init : Cond.instanceMethod mX9_init.1 ∈ TBg := tb_g 428 (by decide +kernel) rfl
set_option maxRecDepth 20000 in
theorem q_X9_init : Cond.code mX9_init.1 mX9_init.2.1 mX9_init.2.2.1 mX9_init.2.2.2 ∈ TBg ∧ Cond.initialized mX9_init.1.cls ∈ TBg ∧ (mX9_init.1.cls ≠ "java/lang/invoke/MethodHandle" ∧ mX9_init.1.cls ≠ "java/lang/invoke/VarHandle" ∧ (parseMethodDescriptor mX9_init.1.desc).map (fun d => d.parameters.length) = some 0) := ⟨tb_g 429 rfl rfl, tb_g 121 (by decide +kernel) rfl, by decide +kernel⟩
theorem c_X11_41 : CkM RX11 41 mX9_init 0 := ⟨q_X9_init.1, q_X9_init.2.1, q_X9_init.2.2, Or.inr ⟨"RiverSteamers", tb_n 427 (by decide +kernel) rfl⟩⟩
set_option maxRecDepth 20000 in
theorem c_X9_3 : Cond.methodLink RX9 3 Lib.objectInit ∈ TBg ∧ Cond.instanceMethod Lib.objectInit ∈ TBg ∧ Cond.code Lib.objectInit ⟨#[0xb1]⟩ 1 none ∈ TBg := ⟨tb_g 430 (by decide +kernel) rfl, tb_g 133 (by decide +kernel) rfl, tb_g 134 rfl rfl⟩
theorem k_X6_init : Cond.instanceMethod mX6_init.1 ∈ TBg := tb_g 449 (by decide +kernel) rfl
set_option maxRecDepth 20000 in
theorem q_X6_init : Cond.code mX6_init.1 mX6_init.2.1 mX6_init.2.2.1 mX6_init.2.2.2 ∈ TBg ∧ Cond.initialized mX6_init.1.cls ∈ TBg ∧ (mX6_init.1.cls ≠ "java/lang/invoke/MethodHandle" ∧ mX6_init.1.cls ≠ "java/lang/invoke/VarHandle" ∧ (parseMethodDescriptor mX6_init.1.desc).map (fun d => d.parameters.length) = some 0) := ⟨tb_g 450 rfl rfl, tb_g 122 (by decide +kernel) rfl, by decide +kernel⟩
theorem c_X11_50 : CkM RX11 50 mX6_init 0 := ⟨q_X6_init.1, q_X6_init.2.1, q_X6_init.2.2, Or.inr ⟨"RiverSteamers", tb_n 448 (by decide +kernel) rfl⟩⟩
set_option maxRecDepth 20000 in
theorem c_X6_3 : Cond.methodLink RX6 3 Lib.objectInit ∈ TBg ∧ Cond.instanceMethod Lib.objectInit ∈ TBg ∧ Cond.code Lib.objectInit ⟨#[0xb1]⟩ 1 none ∈ TBg := ⟨tb_g 451 (by decide +kernel) rfl, tb_g 133 (by decide +kernel) rfl, tb_g 134 rfl rfl⟩
theorem k_X11_stretch : Cond.instanceMethod mX11_stretch.1 ∈ TBg ∧ Cond.selects mX11_stretch.1.cls mX11_stretch.1 mX11_stretch.1 ∈ TBg := ⟨tb_g 490 (by decide +kernel) rfl, tb_g 491 (by decide +kernel) rfl⟩
set_option maxRecDepth 20000 in
theorem q_X11_stretch : Cond.code mX11_stretch.1 mX11_stretch.2.1 mX11_stretch.2.2.1 mX11_stretch.2.2.2 ∈ TBg ∧ Cond.initialized mX11_stretch.1.cls ∈ TBg ∧ (mX11_stretch.1.cls ≠ "java/lang/invoke/MethodHandle" ∧ mX11_stretch.1.cls ≠ "java/lang/invoke/VarHandle" ∧ (parseMethodDescriptor mX11_stretch.1.desc).map (fun d => d.parameters.length) = some 3) := ⟨tb_g 492 rfl rfl, tb_g 110 (by decide +kernel) rfl, by decide +kernel⟩
theorem c_L_13 : CkM RL 13 mX11_stretch 3 := ⟨q_X11_stretch.1, q_X11_stretch.2.1, q_X11_stretch.2.2, Or.inl (tb_g 489 (by decide +kernel) rfl)⟩
theorem k_X11_isWithin : Cond.static mX11_isWithin.1 ∈ TBg := tb_g 494 (by decide +kernel) rfl
set_option maxRecDepth 20000 in
theorem q_X11_isWithin : Cond.code mX11_isWithin.1 mX11_isWithin.2.1 mX11_isWithin.2.2.1 mX11_isWithin.2.2.2 ∈ TBg ∧ Cond.initialized mX11_isWithin.1.cls ∈ TBg ∧ (mX11_isWithin.1.cls ≠ "java/lang/invoke/MethodHandle" ∧ mX11_isWithin.1.cls ≠ "java/lang/invoke/VarHandle" ∧ (parseMethodDescriptor mX11_isWithin.1.desc).map (fun d => d.parameters.length) = some 3) := ⟨tb_g 495 rfl rfl, tb_g 110 (by decide +kernel) rfl, by decide +kernel⟩
theorem c_X11_51 : CkM RX11 51 mX11_isWithin 3 := ⟨q_X11_isWithin.1, q_X11_isWithin.2.1, q_X11_isWithin.2.2, Or.inl (tb_g 493 (by decide +kernel) rfl)⟩
theorem k_X11_refused : Cond.instanceMethod mX11_refused.1 ∈ TBg ∧ Cond.selects mX11_refused.1.cls mX11_refused.1 mX11_refused.1 ∈ TBg := ⟨tb_g 498 (by decide +kernel) rfl, tb_g 0 (by decide +kernel) rfl⟩
set_option maxRecDepth 20000 in
theorem q_X11_refused : Cond.code mX11_refused.1 mX11_refused.2.1 mX11_refused.2.2.1 mX11_refused.2.2.2 ∈ TBg ∧ Cond.initialized mX11_refused.1.cls ∈ TBg ∧ (mX11_refused.1.cls ≠ "java/lang/invoke/MethodHandle" ∧ mX11_refused.1.cls ≠ "java/lang/invoke/VarHandle" ∧ (parseMethodDescriptor mX11_refused.1.desc).map (fun d => d.parameters.length) = some 1) := ⟨tb_g 499 rfl rfl, tb_g 110 (by decide +kernel) rfl, by decide +kernel⟩
theorem c_X11_55 : CkM RX11 55 mX11_refused 1 := ⟨q_X11_refused.1, q_X11_refused.2.1, q_X11_refused.2.2, Or.inl (tb_g 496 (by decide +kernel) rfl)⟩
theorem k_X7_begin : Cond.instanceMethod mX7_begin.1 ∈ TBg ∧ Cond.selects mX7_begin.1.cls mX7_begin.1 mX7_begin.1 ∈ TBg := ⟨tb_g 502 (by decide +kernel) rfl, tb_g 1 (by decide +kernel) rfl⟩
set_option maxRecDepth 20000 in
theorem q_X7_begin : Cond.code mX7_begin.1 mX7_begin.2.1 mX7_begin.2.2.1 mX7_begin.2.2.2 ∈ TBg ∧ Cond.initialized mX7_begin.1.cls ∈ TBg ∧ (mX7_begin.1.cls ≠ "java/lang/invoke/MethodHandle" ∧ mX7_begin.1.cls ≠ "java/lang/invoke/VarHandle" ∧ (parseMethodDescriptor mX7_begin.1.desc).map (fun d => d.parameters.length) = some 4) := ⟨tb_g 503 rfl rfl, tb_g 113 (by decide +kernel) rfl, by decide +kernel⟩
theorem c_X11_66 : CkM RX11 66 mX7_begin 4 := ⟨q_X7_begin.1, q_X7_begin.2.1, q_X7_begin.2.2, Or.inr ⟨"RiverSteamers", tb_n 500 (by decide +kernel) rfl⟩⟩
theorem c_X7_32 : CkM RX7 32 mJ_fill 2 := ⟨q_J_fill.1, q_J_fill.2.1, q_J_fill.2.2, Or.inl (tb_g 504 (by decide +kernel) rfl)⟩
theorem k_X11_done : Cond.instanceMethod mX11_done.1 ∈ TBg ∧ Cond.selects mX11_done.1.cls mX11_done.1 mX11_done.1 ∈ TBg := ⟨tb_g 507 (by decide +kernel) rfl, tb_g 2 (by decide +kernel) rfl⟩
set_option maxRecDepth 20000 in
theorem q_X11_done : Cond.code mX11_done.1 mX11_done.2.1 mX11_done.2.2.1 mX11_done.2.2.2 ∈ TBg ∧ Cond.initialized mX11_done.1.cls ∈ TBg ∧ (mX11_done.1.cls ≠ "java/lang/invoke/MethodHandle" ∧ mX11_done.1.cls ≠ "java/lang/invoke/VarHandle" ∧ (parseMethodDescriptor mX11_done.1.desc).map (fun d => d.parameters.length) = some 1) := ⟨tb_g 508 rfl rfl, tb_g 110 (by decide +kernel) rfl, by decide +kernel⟩
theorem c_X11_72 : CkM RX11 72 mX11_done 1 := ⟨q_X11_done.1, q_X11_done.2.1, q_X11_done.2.2, Or.inl (tb_g 505 (by decide +kernel) rfl)⟩
theorem k_X11_gauge : Cond.instanceMethod mX11_gauge.1 ∈ TBg ∧ Cond.selects mX11_gauge.1.cls mX11_gauge.1 mX11_gauge.1 ∈ TBg := ⟨tb_g 510 (by decide +kernel) rfl, tb_g 511 (by decide +kernel) rfl⟩
set_option maxRecDepth 20000 in
theorem q_X11_gauge : Cond.code mX11_gauge.1 mX11_gauge.2.1 mX11_gauge.2.2.1 mX11_gauge.2.2.2 ∈ TBg ∧ Cond.initialized mX11_gauge.1.cls ∈ TBg ∧ (mX11_gauge.1.cls ≠ "java/lang/invoke/MethodHandle" ∧ mX11_gauge.1.cls ≠ "java/lang/invoke/VarHandle" ∧ (parseMethodDescriptor mX11_gauge.1.desc).map (fun d => d.parameters.length) = some 2) := ⟨tb_g 512 rfl rfl, tb_g 110 (by decide +kernel) rfl, by decide +kernel⟩
theorem c_L_18 : CkM RL 18 mX11_gauge 2 := ⟨q_X11_gauge.1, q_X11_gauge.2.1, q_X11_gauge.2.2, Or.inl (tb_g 509 (by decide +kernel) rfl)⟩
theorem k_X11_isDay : Cond.static mX11_isDay.1 ∈ TBg := tb_g 514 (by decide +kernel) rfl
set_option maxRecDepth 20000 in
theorem q_X11_isDay : Cond.code mX11_isDay.1 mX11_isDay.2.1 mX11_isDay.2.2.1 mX11_isDay.2.2.2 ∈ TBg ∧ Cond.initialized mX11_isDay.1.cls ∈ TBg ∧ (mX11_isDay.1.cls ≠ "java/lang/invoke/MethodHandle" ∧ mX11_isDay.1.cls ≠ "java/lang/invoke/VarHandle" ∧ (parseMethodDescriptor mX11_isDay.1.desc).map (fun d => d.parameters.length) = some 1) := ⟨tb_g 515 rfl rfl, tb_g 110 (by decide +kernel) rfl, by decide +kernel⟩
theorem c_X11_75 : CkM RX11 75 mX11_isDay 1 := ⟨q_X11_isDay.1, q_X11_isDay.2.1, q_X11_isDay.2.2, Or.inl (tb_g 513 (by decide +kernel) rfl)⟩
theorem k_X4_tellHeight : Cond.instanceMethod mX4_tellHeight.1 ∈ TBg ∧ Cond.selects mX4_tellHeight.1.cls mX4_tellHeight.1 mX4_tellHeight.1 ∈ TBg := ⟨tb_g 518 (by decide +kernel) rfl, tb_g 3 (by decide +kernel) rfl⟩
set_option maxRecDepth 20000 in
theorem q_X4_tellHeight : Cond.code mX4_tellHeight.1 mX4_tellHeight.2.1 mX4_tellHeight.2.2.1 mX4_tellHeight.2.2.2 ∈ TBg ∧ Cond.initialized mX4_tellHeight.1.cls ∈ TBg ∧ (mX4_tellHeight.1.cls ≠ "java/lang/invoke/MethodHandle" ∧ mX4_tellHeight.1.cls ≠ "java/lang/invoke/VarHandle" ∧ (parseMethodDescriptor mX4_tellHeight.1.desc).map (fun d => d.parameters.length) = some 2) := ⟨tb_g 519 rfl rfl, tb_g 111 (by decide +kernel) rfl, by decide +kernel⟩
theorem c_X11_79 : CkM RX11 79 mX4_tellHeight 2 := ⟨q_X4_tellHeight.1, q_X4_tellHeight.2.1, q_X4_tellHeight.2.2, Or.inr ⟨"RiverSteamers", tb_n 516 (by decide +kernel) rfl⟩⟩
theorem k_X11_shift : Cond.instanceMethod mX11_shift.1 ∈ TBg ∧ Cond.selects mX11_shift.1.cls mX11_shift.1 mX11_shift.1 ∈ TBg := ⟨tb_g 521 (by decide +kernel) rfl, tb_g 522 (by decide +kernel) rfl⟩
set_option maxRecDepth 20000 in
theorem q_X11_shift : Cond.code mX11_shift.1 mX11_shift.2.1 mX11_shift.2.2.1 mX11_shift.2.2.2 ∈ TBg ∧ Cond.initialized mX11_shift.1.cls ∈ TBg ∧ (mX11_shift.1.cls ≠ "java/lang/invoke/MethodHandle" ∧ mX11_shift.1.cls ≠ "java/lang/invoke/VarHandle" ∧ (parseMethodDescriptor mX11_shift.1.desc).map (fun d => d.parameters.length) = some 3) := ⟨tb_g 523 rfl rfl, tb_g 110 (by decide +kernel) rfl, by decide +kernel⟩
theorem c_L_23 : CkM RL 23 mX11_shift 3 := ⟨q_X11_shift.1, q_X11_shift.2.1, q_X11_shift.2.2, Or.inl (tb_g 520 (by decide +kernel) rfl)⟩
theorem k_X4_isStretch : Cond.instanceMethod mX4_isStretch.1 ∈ TBg ∧ Cond.selects mX4_isStretch.1.cls mX4_isStretch.1 mX4_isStretch.1 ∈ TBg := ⟨tb_g 526 (by decide +kernel) rfl, tb_g 4 (by decide +kernel) rfl⟩
set_option maxRecDepth 20000 in
theorem q_X4_isStretch : Cond.code mX4_isStretch.1 mX4_isStretch.2.1 mX4_isStretch.2.2.1 mX4_isStretch.2.2.2 ∈ TBg ∧ Cond.initialized mX4_isStretch.1.cls ∈ TBg ∧ (mX4_isStretch.1.cls ≠ "java/lang/invoke/MethodHandle" ∧ mX4_isStretch.1.cls ≠ "java/lang/invoke/VarHandle" ∧ (parseMethodDescriptor mX4_isStretch.1.desc).map (fun d => d.parameters.length) = some 1) := ⟨tb_g 527 rfl rfl, tb_g 111 (by decide +kernel) rfl, by decide +kernel⟩
theorem c_X11_86 : CkM RX11 86 mX4_isStretch 1 := ⟨q_X4_isStretch.1, q_X4_isStretch.2.1, q_X4_isStretch.2.2, Or.inr ⟨"RiverSteamers", tb_n 524 (by decide +kernel) rfl⟩⟩
theorem c_X4_121 : CkM RX4 121 mX11_isWithin 3 := ⟨q_X11_isWithin.1, q_X11_isWithin.2.1, q_X11_isWithin.2.2, Or.inr ⟨"RiverSteamers", tb_n 528 (by decide +kernel) rfl⟩⟩
theorem k_X11_isUnder : Cond.static mX11_isUnder.1 ∈ TBg := tb_g 530 (by decide +kernel) rfl
set_option maxRecDepth 20000 in
theorem q_X11_isUnder : Cond.code mX11_isUnder.1 mX11_isUnder.2.1 mX11_isUnder.2.2.1 mX11_isUnder.2.2.2 ∈ TBg ∧ Cond.initialized mX11_isUnder.1.cls ∈ TBg ∧ (mX11_isUnder.1.cls ≠ "java/lang/invoke/MethodHandle" ∧ mX11_isUnder.1.cls ≠ "java/lang/invoke/VarHandle" ∧ (parseMethodDescriptor mX11_isUnder.1.desc).map (fun d => d.parameters.length) = some 2) := ⟨tb_g 531 rfl rfl, tb_g 110 (by decide +kernel) rfl, by decide +kernel⟩
theorem c_X11_92 : CkM RX11 92 mX11_isUnder 2 := ⟨q_X11_isUnder.1, q_X11_isUnder.2.1, q_X11_isUnder.2.2, Or.inl (tb_g 529 (by decide +kernel) rfl)⟩
theorem k_X11_cold : Cond.instanceMethod mX11_cold.1 ∈ TBg ∧ Cond.selects mX11_cold.1.cls mX11_cold.1 mX11_cold.1 ∈ TBg := ⟨tb_g 535 (by decide +kernel) rfl, tb_g 536 (by decide +kernel) rfl⟩
set_option maxRecDepth 20000 in
theorem q_X11_cold : Cond.code mX11_cold.1 mX11_cold.2.1 mX11_cold.2.2.1 mX11_cold.2.2.2 ∈ TBg ∧ Cond.initialized mX11_cold.1.cls ∈ TBg ∧ (mX11_cold.1.cls ≠ "java/lang/invoke/MethodHandle" ∧ mX11_cold.1.cls ≠ "java/lang/invoke/VarHandle" ∧ (parseMethodDescriptor mX11_cold.1.desc).map (fun d => d.parameters.length) = some 2) := ⟨tb_g 537 rfl rfl, tb_g 110 (by decide +kernel) rfl, by decide +kernel⟩
theorem c_L_27 : CkM RL 27 mX11_cold 2 := ⟨q_X11_cold.1, q_X11_cold.2.1, q_X11_cold.2.2, Or.inl (tb_g 534 (by decide +kernel) rfl)⟩
theorem k_X11_light : Cond.instanceMethod mX11_light.1 ∈ TBg ∧ Cond.selects mX11_light.1.cls mX11_light.1 mX11_light.1 ∈ TBg := ⟨tb_g 539 (by decide +kernel) rfl, tb_g 540 (by decide +kernel) rfl⟩
set_option maxRecDepth 20000 in
theorem q_X11_light : Cond.code mX11_light.1 mX11_light.2.1 mX11_light.2.2.1 mX11_light.2.2.2 ∈ TBg ∧ Cond.initialized mX11_light.1.cls ∈ TBg ∧ (mX11_light.1.cls ≠ "java/lang/invoke/MethodHandle" ∧ mX11_light.1.cls ≠ "java/lang/invoke/VarHandle" ∧ (parseMethodDescriptor mX11_light.1.desc).map (fun d => d.parameters.length) = some 2) := ⟨tb_g 541 rfl rfl, tb_g 110 (by decide +kernel) rfl, by decide +kernel⟩
theorem c_L_32 : CkM RL 32 mX11_light 2 := ⟨q_X11_light.1, q_X11_light.2.1, q_X11_light.2.2, Or.inl (tb_g 538 (by decide +kernel) rfl)⟩
theorem k_X11_boat : Cond.instanceMethod mX11_boat.1 ∈ TBg ∧ Cond.selects mX11_boat.1.cls mX11_boat.1 mX11_boat.1 ∈ TBg := ⟨tb_g 543 (by decide +kernel) rfl, tb_g 544 (by decide +kernel) rfl⟩
set_option maxRecDepth 20000 in
theorem q_X11_boat : Cond.code mX11_boat.1 mX11_boat.2.1 mX11_boat.2.2.1 mX11_boat.2.2.2 ∈ TBg ∧ Cond.initialized mX11_boat.1.cls ∈ TBg ∧ (mX11_boat.1.cls ≠ "java/lang/invoke/MethodHandle" ∧ mX11_boat.1.cls ≠ "java/lang/invoke/VarHandle" ∧ (parseMethodDescriptor mX11_boat.1.desc).map (fun d => d.parameters.length) = some 4) := ⟨tb_g 545 rfl rfl, tb_g 110 (by decide +kernel) rfl, by decide +kernel⟩
theorem c_L_36 : CkM RL 36 mX11_boat 4 := ⟨q_X11_boat.1, q_X11_boat.2.1, q_X11_boat.2.2, Or.inl (tb_g 542 (by decide +kernel) rfl)⟩
theorem k_X4_isLanding : Cond.instanceMethod mX4_isLanding.1 ∈ TBg ∧ Cond.selects mX4_isLanding.1.cls mX4_isLanding.1 mX4_isLanding.1 ∈ TBg := ⟨tb_g 548 (by decide +kernel) rfl, tb_g 5 (by decide +kernel) rfl⟩
set_option maxRecDepth 20000 in
theorem q_X4_isLanding : Cond.code mX4_isLanding.1 mX4_isLanding.2.1 mX4_isLanding.2.2.1 mX4_isLanding.2.2.2 ∈ TBg ∧ Cond.initialized mX4_isLanding.1.cls ∈ TBg ∧ (mX4_isLanding.1.cls ≠ "java/lang/invoke/MethodHandle" ∧ mX4_isLanding.1.cls ≠ "java/lang/invoke/VarHandle" ∧ (parseMethodDescriptor mX4_isLanding.1.desc).map (fun d => d.parameters.length) = some 1) := ⟨tb_g 549 rfl rfl, tb_g 111 (by decide +kernel) rfl, by decide +kernel⟩
theorem c_X11_107 : CkM RX11 107 mX4_isLanding 1 := ⟨q_X4_isLanding.1, q_X4_isLanding.2.1, q_X4_isLanding.2.2, Or.inr ⟨"RiverSteamers", tb_n 546 (by decide +kernel) rfl⟩⟩
theorem k_X2_begin : Cond.instanceMethod mX2_begin.1 ∈ TBg ∧ Cond.selects mX2_begin.1.cls mX2_begin.1 mX2_begin.1 ∈ TBg := ⟨tb_g 552 (by decide +kernel) rfl, tb_g 6 (by decide +kernel) rfl⟩
set_option maxRecDepth 20000 in
theorem q_X2_begin : Cond.code mX2_begin.1 mX2_begin.2.1 mX2_begin.2.2.1 mX2_begin.2.2.2 ∈ TBg ∧ Cond.initialized mX2_begin.1.cls ∈ TBg ∧ (mX2_begin.1.cls ≠ "java/lang/invoke/MethodHandle" ∧ mX2_begin.1.cls ≠ "java/lang/invoke/VarHandle" ∧ (parseMethodDescriptor mX2_begin.1.desc).map (fun d => d.parameters.length) = some 4) := ⟨tb_g 553 rfl rfl, tb_g 116 (by decide +kernel) rfl, by decide +kernel⟩
theorem c_X11_117 : CkM RX11 117 mX2_begin 4 := ⟨q_X2_begin.1, q_X2_begin.2.1, q_X2_begin.2.2, Or.inr ⟨"RiverSteamers", tb_n 550 (by decide +kernel) rfl⟩⟩
theorem k_X10_forgetAll : Cond.instanceMethod mX10_forgetAll.1 ∈ TBg ∧ Cond.selects mX10_forgetAll.1.cls mX10_forgetAll.1 mX10_forgetAll.1 ∈ TBg := ⟨tb_g 556 (by decide +kernel) rfl, tb_g 7 (by decide +kernel) rfl⟩
set_option maxRecDepth 20000 in
theorem q_X10_forgetAll : Cond.code mX10_forgetAll.1 mX10_forgetAll.2.1 mX10_forgetAll.2.2.1 mX10_forgetAll.2.2.2 ∈ TBg ∧ Cond.initialized mX10_forgetAll.1.cls ∈ TBg ∧ (mX10_forgetAll.1.cls ≠ "java/lang/invoke/MethodHandle" ∧ mX10_forgetAll.1.cls ≠ "java/lang/invoke/VarHandle" ∧ (parseMethodDescriptor mX10_forgetAll.1.desc).map (fun d => d.parameters.length) = some 0) := ⟨tb_g 557 rfl rfl, tb_g 115 (by decide +kernel) rfl, by decide +kernel⟩
theorem c_X2_46 : CkM RX2 46 mX10_forgetAll 0 := ⟨q_X10_forgetAll.1, q_X10_forgetAll.2.1, q_X10_forgetAll.2.2, Or.inr ⟨"RiverSteamers", tb_n 554 (by decide +kernel) rfl⟩⟩
theorem k_X11_bale : Cond.instanceMethod mX11_bale.1 ∈ TBg ∧ Cond.selects mX11_bale.1.cls mX11_bale.1 mX11_bale.1 ∈ TBg := ⟨tb_g 559 (by decide +kernel) rfl, tb_g 560 (by decide +kernel) rfl⟩
set_option maxRecDepth 20000 in
theorem q_X11_bale : Cond.code mX11_bale.1 mX11_bale.2.1 mX11_bale.2.2.1 mX11_bale.2.2.2 ∈ TBg ∧ Cond.initialized mX11_bale.1.cls ∈ TBg ∧ (mX11_bale.1.cls ≠ "java/lang/invoke/MethodHandle" ∧ mX11_bale.1.cls ≠ "java/lang/invoke/VarHandle" ∧ (parseMethodDescriptor mX11_bale.1.desc).map (fun d => d.parameters.length) = some 4) := ⟨tb_g 561 rfl rfl, tb_g 110 (by decide +kernel) rfl, by decide +kernel⟩
theorem c_L_41 : CkM RL 41 mX11_bale 4 := ⟨q_X11_bale.1, q_X11_bale.2.1, q_X11_bale.2.2, Or.inl (tb_g 558 (by decide +kernel) rfl)⟩
theorem k_X4_isWay : Cond.instanceMethod mX4_isWay.1 ∈ TBg ∧ Cond.selects mX4_isWay.1.cls mX4_isWay.1 mX4_isWay.1 ∈ TBg := ⟨tb_g 564 (by decide +kernel) rfl, tb_g 8 (by decide +kernel) rfl⟩
set_option maxRecDepth 20000 in
theorem q_X4_isWay : Cond.code mX4_isWay.1 mX4_isWay.2.1 mX4_isWay.2.2.1 mX4_isWay.2.2.2 ∈ TBg ∧ Cond.initialized mX4_isWay.1.cls ∈ TBg ∧ (mX4_isWay.1.cls ≠ "java/lang/invoke/MethodHandle" ∧ mX4_isWay.1.cls ≠ "java/lang/invoke/VarHandle" ∧ (parseMethodDescriptor mX4_isWay.1.desc).map (fun d => d.parameters.length) = some 2) := ⟨tb_g 565 rfl rfl, tb_g 111 (by decide +kernel) rfl, by decide +kernel⟩
theorem c_X11_120 : CkM RX11 120 mX4_isWay 2 := ⟨q_X4_isWay.1, q_X4_isWay.2.1, q_X4_isWay.2.2, Or.inr ⟨"RiverSteamers", tb_n 562 (by decide +kernel) rfl⟩⟩
theorem c_X4_125 : CkM RX4 125 mX4_isLanding 1 := ⟨q_X4_isLanding.1, q_X4_isLanding.2.1, q_X4_isLanding.2.2, Or.inl (tb_g 566 (by decide +kernel) rfl)⟩
theorem k_X1_begin : Cond.instanceMethod mX1_begin.1 ∈ TBg ∧ Cond.selects mX1_begin.1.cls mX1_begin.1 mX1_begin.1 ∈ TBg := ⟨tb_g 569 (by decide +kernel) rfl, tb_g 9 (by decide +kernel) rfl⟩
set_option maxRecDepth 20000 in
theorem q_X1_begin : Cond.code mX1_begin.1 mX1_begin.2.1 mX1_begin.2.2.1 mX1_begin.2.2.2 ∈ TBg ∧ Cond.initialized mX1_begin.1.cls ∈ TBg ∧ (mX1_begin.1.cls ≠ "java/lang/invoke/MethodHandle" ∧ mX1_begin.1.cls ≠ "java/lang/invoke/VarHandle" ∧ (parseMethodDescriptor mX1_begin.1.desc).map (fun d => d.parameters.length) = some 4) := ⟨tb_g 570 rfl rfl, tb_g 117 (by decide +kernel) rfl, by decide +kernel⟩
theorem c_X11_130 : CkM RX11 130 mX1_begin 4 := ⟨q_X1_begin.1, q_X1_begin.2.1, q_X1_begin.2.2, Or.inr ⟨"RiverSteamers", tb_n 567 (by decide +kernel) rfl⟩⟩
theorem k_X11_lade : Cond.instanceMethod mX11_lade.1 ∈ TBg ∧ Cond.selects mX11_lade.1.cls mX11_lade.1 mX11_lade.1 ∈ TBg := ⟨tb_g 572 (by decide +kernel) rfl, tb_g 573 (by decide +kernel) rfl⟩
set_option maxRecDepth 20000 in
theorem q_X11_lade : Cond.code mX11_lade.1 mX11_lade.2.1 mX11_lade.2.2.1 mX11_lade.2.2.2 ∈ TBg ∧ Cond.initialized mX11_lade.1.cls ∈ TBg ∧ (mX11_lade.1.cls ≠ "java/lang/invoke/MethodHandle" ∧ mX11_lade.1.cls ≠ "java/lang/invoke/VarHandle" ∧ (parseMethodDescriptor mX11_lade.1.desc).map (fun d => d.parameters.length) = some 2) := ⟨tb_g 574 rfl rfl, tb_g 110 (by decide +kernel) rfl, by decide +kernel⟩
theorem c_L_45 : CkM RL 45 mX11_lade 2 := ⟨q_X11_lade.1, q_X11_lade.2.1, q_X11_lade.2.2, Or.inl (tb_g 571 (by decide +kernel) rfl)⟩
theorem k_X4_isBale : Cond.instanceMethod mX4_isBale.1 ∈ TBg ∧ Cond.selects mX4_isBale.1.cls mX4_isBale.1 mX4_isBale.1 ∈ TBg := ⟨tb_g 577 (by decide +kernel) rfl, tb_g 10 (by decide +kernel) rfl⟩
set_option maxRecDepth 20000 in
theorem q_X4_isBale : Cond.code mX4_isBale.1 mX4_isBale.2.1 mX4_isBale.2.2.1 mX4_isBale.2.2.2 ∈ TBg ∧ Cond.initialized mX4_isBale.1.cls ∈ TBg ∧ (mX4_isBale.1.cls ≠ "java/lang/invoke/MethodHandle" ∧ mX4_isBale.1.cls ≠ "java/lang/invoke/VarHandle" ∧ (parseMethodDescriptor mX4_isBale.1.desc).map (fun d => d.parameters.length) = some 1) := ⟨tb_g 578 rfl rfl, tb_g 111 (by decide +kernel) rfl, by decide +kernel⟩
theorem c_X11_133 : CkM RX11 133 mX4_isBale 1 := ⟨q_X4_isBale.1, q_X4_isBale.2.1, q_X4_isBale.2.2, Or.inr ⟨"RiverSteamers", tb_n 575 (by decide +kernel) rfl⟩⟩
theorem k_X4_isBoat : Cond.instanceMethod mX4_isBoat.1 ∈ TBg ∧ Cond.selects mX4_isBoat.1.cls mX4_isBoat.1 mX4_isBoat.1 ∈ TBg := ⟨tb_g 581 (by decide +kernel) rfl, tb_g 11 (by decide +kernel) rfl⟩
set_option maxRecDepth 20000 in
theorem q_X4_isBoat : Cond.code mX4_isBoat.1 mX4_isBoat.2.1 mX4_isBoat.2.2.1 mX4_isBoat.2.2.2 ∈ TBg ∧ Cond.initialized mX4_isBoat.1.cls ∈ TBg ∧ (mX4_isBoat.1.cls ≠ "java/lang/invoke/MethodHandle" ∧ mX4_isBoat.1.cls ≠ "java/lang/invoke/VarHandle" ∧ (parseMethodDescriptor mX4_isBoat.1.desc).map (fun d => d.parameters.length) = some 1) := ⟨tb_g 582 rfl rfl, tb_g 111 (by decide +kernel) rfl, by decide +kernel⟩
theorem c_X11_136 : CkM RX11 136 mX4_isBoat 1 := ⟨q_X4_isBoat.1, q_X4_isBoat.2.1, q_X4_isBoat.2.2, Or.inr ⟨"RiverSteamers", tb_n 579 (by decide +kernel) rfl⟩⟩
theorem k_X2_draught : Cond.instanceMethod mX2_draught.1 ∈ TBg ∧ Cond.selects mX2_draught.1.cls mX2_draught.1 mX2_draught.1 ∈ TBg := ⟨tb_g 585 (by decide +kernel) rfl, tb_g 12 (by decide +kernel) rfl⟩
set_option maxRecDepth 20000 in
theorem q_X2_draught : Cond.code mX2_draught.1 mX2_draught.2.1 mX2_draught.2.2.1 mX2_draught.2.2.2 ∈ TBg ∧ Cond.initialized mX2_draught.1.cls ∈ TBg ∧ (mX2_draught.1.cls ≠ "java/lang/invoke/MethodHandle" ∧ mX2_draught.1.cls ≠ "java/lang/invoke/VarHandle" ∧ (parseMethodDescriptor mX2_draught.1.desc).map (fun d => d.parameters.length) = some 0) := ⟨tb_g 586 rfl rfl, tb_g 116 (by decide +kernel) rfl, by decide +kernel⟩
theorem c_X11_156 : CkM RX11 156 mX2_draught 0 := ⟨q_X2_draught.1, q_X2_draught.2.1, q_X2_draught.2.2, Or.inr ⟨"RiverSteamers", tb_n 583 (by decide +kernel) rfl⟩⟩
theorem k_X2_draughtWith : Cond.instanceMethod mX2_draughtWith.1 ∈ TBg ∧ Cond.selects mX2_draughtWith.1.cls mX2_draughtWith.1 mX2_draughtWith.1 ∈ TBg := ⟨tb_g 589 (by decide +kernel) rfl, tb_g 13 (by decide +kernel) rfl⟩
set_option maxRecDepth 20000 in
theorem q_X2_draughtWith : Cond.code mX2_draughtWith.1 mX2_draughtWith.2.1 mX2_draughtWith.2.2.1 mX2_draughtWith.2.2.2 ∈ TBg ∧ Cond.initialized mX2_draughtWith.1.cls ∈ TBg ∧ (mX2_draughtWith.1.cls ≠ "java/lang/invoke/MethodHandle" ∧ mX2_draughtWith.1.cls ≠ "java/lang/invoke/VarHandle" ∧ (parseMethodDescriptor mX2_draughtWith.1.desc).map (fun d => d.parameters.length) = some 1) := ⟨tb_g 590 rfl rfl, tb_g 116 (by decide +kernel) rfl, by decide +kernel⟩
theorem c_X2_53 : CkM RX2 53 mX2_draughtWith 1 := ⟨q_X2_draughtWith.1, q_X2_draughtWith.2.1, q_X2_draughtWith.2.2, Or.inl (tb_g 587 (by decide +kernel) rfl)⟩
theorem k_X11_land : Cond.instanceMethod mX11_land.1 ∈ TBg ∧ Cond.selects mX11_land.1.cls mX11_land.1 mX11_land.1 ∈ TBg := ⟨tb_g 592 (by decide +kernel) rfl, tb_g 593 (by decide +kernel) rfl⟩
set_option maxRecDepth 20000 in
theorem q_X11_land : Cond.code mX11_land.1 mX11_land.2.1 mX11_land.2.2.1 mX11_land.2.2.2 ∈ TBg ∧ Cond.initialized mX11_land.1.cls ∈ TBg ∧ (mX11_land.1.cls ≠ "java/lang/invoke/MethodHandle" ∧ mX11_land.1.cls ≠ "java/lang/invoke/VarHandle" ∧ (parseMethodDescriptor mX11_land.1.desc).map (fun d => d.parameters.length) = some 1) := ⟨tb_g 594 rfl rfl, tb_g 110 (by decide +kernel) rfl, by decide +kernel⟩
theorem c_L_49 : CkM RL 49 mX11_land 1 := ⟨q_X11_land.1, q_X11_land.2.1, q_X11_land.2.2, Or.inl (tb_g 591 (by decide +kernel) rfl)⟩
theorem k_X4_carrierOf : Cond.instanceMethod mX4_carrierOf.1 ∈ TBg ∧ Cond.selects mX4_carrierOf.1.cls mX4_carrierOf.1 mX4_carrierOf.1 ∈ TBg := ⟨tb_g 597 (by decide +kernel) rfl, tb_g 14 (by decide +kernel) rfl⟩
set_option maxRecDepth 20000 in
theorem q_X4_carrierOf : Cond.code mX4_carrierOf.1 mX4_carrierOf.2.1 mX4_carrierOf.2.2.1 mX4_carrierOf.2.2.2 ∈ TBg ∧ Cond.initialized mX4_carrierOf.1.cls ∈ TBg ∧ (mX4_carrierOf.1.cls ≠ "java/lang/invoke/MethodHandle" ∧ mX4_carrierOf.1.cls ≠ "java/lang/invoke/VarHandle" ∧ (parseMethodDescriptor mX4_carrierOf.1.desc).map (fun d => d.parameters.length) = some 1) := ⟨tb_g 598 rfl rfl, tb_g 111 (by decide +kernel) rfl, by decide +kernel⟩
theorem c_X11_160 : CkM RX11 160 mX4_carrierOf 1 := ⟨q_X4_carrierOf.1, q_X4_carrierOf.2.1, q_X4_carrierOf.2.2, Or.inr ⟨"RiverSteamers", tb_n 595 (by decide +kernel) rfl⟩⟩
theorem c_X4_222 : CkM RX4 222 mX4_isBoat 1 := ⟨q_X4_isBoat.1, q_X4_isBoat.2.1, q_X4_isBoat.2.2, Or.inl (tb_g 599 (by decide +kernel) rfl)⟩
theorem k_X11_lose : Cond.instanceMethod mX11_lose.1 ∈ TBg ∧ Cond.selects mX11_lose.1.cls mX11_lose.1 mX11_lose.1 ∈ TBg := ⟨tb_g 601 (by decide +kernel) rfl, tb_g 602 (by decide +kernel) rfl⟩
set_option maxRecDepth 20000 in
theorem q_X11_lose : Cond.code mX11_lose.1 mX11_lose.2.1 mX11_lose.2.2.1 mX11_lose.2.2.2 ∈ TBg ∧ Cond.initialized mX11_lose.1.cls ∈ TBg ∧ (mX11_lose.1.cls ≠ "java/lang/invoke/MethodHandle" ∧ mX11_lose.1.cls ≠ "java/lang/invoke/VarHandle" ∧ (parseMethodDescriptor mX11_lose.1.desc).map (fun d => d.parameters.length) = some 1) := ⟨tb_g 603 rfl rfl, tb_g 110 (by decide +kernel) rfl, by decide +kernel⟩
theorem c_L_54 : CkM RL 54 mX11_lose 1 := ⟨q_X11_lose.1, q_X11_lose.2.1, q_X11_lose.2.2, Or.inl (tb_g 600 (by decide +kernel) rfl)⟩
theorem k_X11_leave : Cond.instanceMethod mX11_leave.1 ∈ TBg ∧ Cond.selects mX11_leave.1.cls mX11_leave.1 mX11_leave.1 ∈ TBg := ⟨tb_g 605 (by decide +kernel) rfl, tb_g 606 (by decide +kernel) rfl⟩
set_option maxRecDepth 20000 in
theorem q_X11_leave : Cond.code mX11_leave.1 mX11_leave.2.1 mX11_leave.2.2.1 mX11_leave.2.2.2 ∈ TBg ∧ Cond.initialized mX11_leave.1.cls ∈ TBg ∧ (mX11_leave.1.cls ≠ "java/lang/invoke/MethodHandle" ∧ mX11_leave.1.cls ≠ "java/lang/invoke/VarHandle" ∧ (parseMethodDescriptor mX11_leave.1.desc).map (fun d => d.parameters.length) = some 2) := ⟨tb_g 607 rfl rfl, tb_g 110 (by decide +kernel) rfl, by decide +kernel⟩
theorem c_L_58 : CkM RL 58 mX11_leave 2 := ⟨q_X11_leave.1, q_X11_leave.2.1, q_X11_leave.2.2, Or.inl (tb_g 604 (by decide +kernel) rfl)⟩
theorem k_X4_whyNot : Cond.instanceMethod mX4_whyNot.1 ∈ TBg ∧ Cond.selects mX4_whyNot.1.cls mX4_whyNot.1 mX4_whyNot.1 ∈ TBg := ⟨tb_g 610 (by decide +kernel) rfl, tb_g 15 (by decide +kernel) rfl⟩
set_option maxRecDepth 20000 in
theorem q_X4_whyNot : Cond.code mX4_whyNot.1 mX4_whyNot.2.1 mX4_whyNot.2.2.1 mX4_whyNot.2.2.2 ∈ TBg ∧ Cond.initialized mX4_whyNot.1.cls ∈ TBg ∧ (mX4_whyNot.1.cls ≠ "java/lang/invoke/MethodHandle" ∧ mX4_whyNot.1.cls ≠ "java/lang/invoke/VarHandle" ∧ (parseMethodDescriptor mX4_whyNot.1.desc).map (fun d => d.parameters.length) = some 2) := ⟨tb_g 611 rfl rfl, tb_g 111 (by decide +kernel) rfl, by decide +kernel⟩
theorem c_X11_173 : CkM RX11 173 mX4_whyNot 2 := ⟨q_X4_whyNot.1, q_X4_whyNot.2.1, q_X4_whyNot.2.2, Or.inr ⟨"RiverSteamers", tb_n 608 (by decide +kernel) rfl⟩⟩
theorem k_X2_stretchToward : Cond.instanceMethod mX2_stretchToward.1 ∈ TBg ∧ Cond.selects mX2_stretchToward.1.cls mX2_stretchToward.1 mX2_stretchToward.1 ∈ TBg := ⟨tb_g 614 (by decide +kernel) rfl, tb_g 16 (by decide +kernel) rfl⟩
set_option maxRecDepth 20000 in
theorem q_X2_stretchToward : Cond.code mX2_stretchToward.1 mX2_stretchToward.2.1 mX2_stretchToward.2.2.1 mX2_stretchToward.2.2.2 ∈ TBg ∧ Cond.initialized mX2_stretchToward.1.cls ∈ TBg ∧ (mX2_stretchToward.1.cls ≠ "java/lang/invoke/MethodHandle" ∧ mX2_stretchToward.1.cls ≠ "java/lang/invoke/VarHandle" ∧ (parseMethodDescriptor mX2_stretchToward.1.desc).map (fun d => d.parameters.length) = some 1) := ⟨tb_g 615 rfl rfl, tb_g 116 (by decide +kernel) rfl, by decide +kernel⟩
theorem c_X4_163 : CkM RX4 163 mX2_stretchToward 1 := ⟨q_X2_stretchToward.1, q_X2_stretchToward.2.1, q_X2_stretchToward.2.2, Or.inr ⟨"RiverSteamers", tb_n 612 (by decide +kernel) rfl⟩⟩
theorem c_X4_167 : CkM RX4 167 mX4_isStretch 1 := ⟨q_X4_isStretch.1, q_X4_isStretch.2.1, q_X4_isStretch.2.2, Or.inl (tb_g 616 (by decide +kernel) rfl)⟩
theorem k_X10_isKnown : Cond.instanceMethod mX10_isKnown.1 ∈ TBg ∧ Cond.selects mX10_isKnown.1.cls mX10_isKnown.1 mX10_isKnown.1 ∈ TBg := ⟨tb_g 619 (by decide +kernel) rfl, tb_g 17 (by decide +kernel) rfl⟩
set_option maxRecDepth 20000 in
theorem q_X10_isKnown : Cond.code mX10_isKnown.1 mX10_isKnown.2.1 mX10_isKnown.2.2.1 mX10_isKnown.2.2.2 ∈ TBg ∧ Cond.initialized mX10_isKnown.1.cls ∈ TBg ∧ (mX10_isKnown.1.cls ≠ "java/lang/invoke/MethodHandle" ∧ mX10_isKnown.1.cls ≠ "java/lang/invoke/VarHandle" ∧ (parseMethodDescriptor mX10_isKnown.1.desc).map (fun d => d.parameters.length) = some 1) := ⟨tb_g 620 rfl rfl, tb_g 115 (by decide +kernel) rfl, by decide +kernel⟩
theorem c_X4_174 : CkM RX4 174 mX10_isKnown 1 := ⟨q_X10_isKnown.1, q_X10_isKnown.2.1, q_X10_isKnown.2.2, Or.inr ⟨"RiverSteamers", tb_n 617 (by decide +kernel) rfl⟩⟩
theorem c_X4_182 : CkM RX4 182 mX2_draught 0 := ⟨q_X2_draught.1, q_X2_draught.2.1, q_X2_draught.2.2, Or.inr ⟨"RiverSteamers", tb_n 621 (by decide +kernel) rfl⟩⟩
theorem k_X4_longNow : Cond.instanceMethod mX4_longNow.1 ∈ TBg ∧ Cond.selects mX4_longNow.1.cls mX4_longNow.1 mX4_longNow.1 ∈ TBg := ⟨tb_g 624 (by decide +kernel) rfl, tb_g 18 (by decide +kernel) rfl⟩
set_option maxRecDepth 20000 in
theorem q_X4_longNow : Cond.code mX4_longNow.1 mX4_longNow.2.1 mX4_longNow.2.2.1 mX4_longNow.2.2.2 ∈ TBg ∧ Cond.initialized mX4_longNow.1.cls ∈ TBg ∧ (mX4_longNow.1.cls ≠ "java/lang/invoke/MethodHandle" ∧ mX4_longNow.1.cls ≠ "java/lang/invoke/VarHandle" ∧ (parseMethodDescriptor mX4_longNow.1.desc).map (fun d => d.parameters.length) = some 1) := ⟨tb_g 625 rfl rfl, tb_g 111 (by decide +kernel) rfl, by decide +kernel⟩
theorem c_X4_188 : CkM RX4 188 mX4_longNow 1 := ⟨q_X4_longNow.1, q_X4_longNow.2.1, q_X4_longNow.2.2, Or.inl (tb_g 622 (by decide +kernel) rfl)⟩
theorem k_X4_isNight : Cond.instanceMethod mX4_isNight.1 ∈ TBg ∧ Cond.selects mX4_isNight.1.cls mX4_isNight.1 mX4_isNight.1 ∈ TBg := ⟨tb_g 628 (by decide +kernel) rfl, tb_g 19 (by decide +kernel) rfl⟩
set_option maxRecDepth 20000 in
theorem q_X4_isNight : Cond.code mX4_isNight.1 mX4_isNight.2.1 mX4_isNight.2.2.1 mX4_isNight.2.2.2 ∈ TBg ∧ Cond.initialized mX4_isNight.1.cls ∈ TBg ∧ (mX4_isNight.1.cls ≠ "java/lang/invoke/MethodHandle" ∧ mX4_isNight.1.cls ≠ "java/lang/invoke/VarHandle" ∧ (parseMethodDescriptor mX4_isNight.1.desc).map (fun d => d.parameters.length) = some 0) := ⟨tb_g 629 rfl rfl, tb_g 111 (by decide +kernel) rfl, by decide +kernel⟩
theorem c_X4_142 : CkM RX4 142 mX4_isNight 0 := ⟨q_X4_isNight.1, q_X4_isNight.2.1, q_X4_isNight.2.2, Or.inl (tb_g 626 (by decide +kernel) rfl)⟩
theorem k_X4_longByDaylight : Cond.instanceMethod mX4_longByDaylight.1 ∈ TBg ∧ Cond.selects mX4_longByDaylight.1.cls mX4_longByDaylight.1 mX4_longByDaylight.1 ∈ TBg := ⟨tb_g 632 (by decide +kernel) rfl, tb_g 20 (by decide +kernel) rfl⟩
set_option maxRecDepth 20000 in
theorem q_X4_longByDaylight : Cond.code mX4_longByDaylight.1 mX4_longByDaylight.2.1 mX4_longByDaylight.2.2.1 mX4_longByDaylight.2.2.2 ∈ TBg ∧ Cond.initialized mX4_longByDaylight.1.cls ∈ TBg ∧ (mX4_longByDaylight.1.cls ≠ "java/lang/invoke/MethodHandle" ∧ mX4_longByDaylight.1.cls ≠ "java/lang/invoke/VarHandle" ∧ (parseMethodDescriptor mX4_longByDaylight.1.desc).map (fun d => d.parameters.length) = some 1) := ⟨tb_g 633 rfl rfl, tb_g 111 (by decide +kernel) rfl, by decide +kernel⟩
theorem c_X4_150 : CkM RX4 150 mX4_longByDaylight 1 := ⟨q_X4_longByDaylight.1, q_X4_longByDaylight.2.1, q_X4_longByDaylight.2.2, Or.inl (tb_g 630 (by decide +kernel) rfl)⟩
theorem k_X4_today : Cond.instanceMethod mX4_today.1 ∈ TBg ∧ Cond.selects mX4_today.1.cls mX4_today.1 mX4_today.1 ∈ TBg := ⟨tb_g 636 (by decide +kernel) rfl, tb_g 21 (by decide +kernel) rfl⟩
set_option maxRecDepth 20000 in
theorem q_X4_today : Cond.code mX4_today.1 mX4_today.2.1 mX4_today.2.2.1 mX4_today.2.2.2 ∈ TBg ∧ Cond.initialized mX4_today.1.cls ∈ TBg ∧ (mX4_today.1.cls ≠ "java/lang/invoke/MethodHandle" ∧ mX4_today.1.cls ≠ "java/lang/invoke/VarHandle" ∧ (parseMethodDescriptor mX4_today.1.desc).map (fun d => d.parameters.length) = some 0) := ⟨tb_g 637 rfl rfl, tb_g 111 (by decide +kernel) rfl, by decide +kernel⟩
theorem c_X4_156 : CkM RX4 156 mX4_today 0 := ⟨q_X4_today.1, q_X4_today.2.1, q_X4_today.2.2, Or.inl (tb_g 634 (by decide +kernel) rfl)⟩
theorem k_X4_heightOn : Cond.instanceMethod mX4_heightOn.1 ∈ TBg ∧ Cond.selects mX4_heightOn.1.cls mX4_heightOn.1 mX4_heightOn.1 ∈ TBg := ⟨tb_g 640 (by decide +kernel) rfl, tb_g 22 (by decide +kernel) rfl⟩
set_option maxRecDepth 20000 in
theorem q_X4_heightOn : Cond.code mX4_heightOn.1 mX4_heightOn.2.1 mX4_heightOn.2.2.1 mX4_heightOn.2.2.2 ∈ TBg ∧ Cond.initialized mX4_heightOn.1.cls ∈ TBg ∧ (mX4_heightOn.1.cls ≠ "java/lang/invoke/MethodHandle" ∧ mX4_heightOn.1.cls ≠ "java/lang/invoke/VarHandle" ∧ (parseMethodDescriptor mX4_heightOn.1.desc).map (fun d => d.parameters.length) = some 1) := ⟨tb_g 641 rfl rfl, tb_g 111 (by decide +kernel) rfl, by decide +kernel⟩
theorem c_X4_135 : CkM RX4 135 mX4_heightOn 1 := ⟨q_X4_heightOn.1, q_X4_heightOn.2.1, q_X4_heightOn.2.2, Or.inl (tb_g 638 (by decide +kernel) rfl)⟩
theorem k_X4_setOut : Cond.instanceMethod mX4_setOut.1 ∈ TBg ∧ Cond.selects mX4_setOut.1.cls mX4_setOut.1 mX4_setOut.1 ∈ TBg := ⟨tb_g 644 (by decide +kernel) rfl, tb_g 23 (by decide +kernel) rfl⟩
set_option maxRecDepth 20000 in
theorem q_X4_setOut : Cond.code mX4_setOut.1 mX4_setOut.2.1 mX4_setOut.2.2.1 mX4_setOut.2.2.2 ∈ TBg ∧ Cond.initialized mX4_setOut.1.cls ∈ TBg ∧ (mX4_setOut.1.cls ≠ "java/lang/invoke/MethodHandle" ∧ mX4_setOut.1.cls ≠ "java/lang/invoke/VarHandle" ∧ (parseMethodDescriptor mX4_setOut.1.desc).map (fun d => d.parameters.length) = some 2) := ⟨tb_g 645 rfl rfl, tb_g 111 (by decide +kernel) rfl, by decide +kernel⟩
theorem c_X11_177 : CkM RX11 177 mX4_setOut 2 := ⟨q_X4_setOut.1, q_X4_setOut.2.1, q_X4_setOut.2.2, Or.inr ⟨"RiverSteamers", tb_n 642 (by decide +kernel) rfl⟩⟩
theorem k_X4_waterOn : Cond.instanceMethod mX4_waterOn.1 ∈ TBg ∧ Cond.selects mX4_waterOn.1.cls mX4_waterOn.1 mX4_waterOn.1 ∈ TBg := ⟨tb_g 648 (by decide +kernel) rfl, tb_g 24 (by decide +kernel) rfl⟩
set_option maxRecDepth 20000 in
theorem q_X4_waterOn : Cond.code mX4_waterOn.1 mX4_waterOn.2.1 mX4_waterOn.2.2.1 mX4_waterOn.2.2.2 ∈ TBg ∧ Cond.initialized mX4_waterOn.1.cls ∈ TBg ∧ (mX4_waterOn.1.cls ≠ "java/lang/invoke/MethodHandle" ∧ mX4_waterOn.1.cls ≠ "java/lang/invoke/VarHandle" ∧ (parseMethodDescriptor mX4_waterOn.1.desc).map (fun d => d.parameters.length) = some 2) := ⟨tb_g 649 rfl rfl, tb_g 111 (by decide +kernel) rfl, by decide +kernel⟩
theorem c_X4_191 : CkM RX4 191 mX4_waterOn 2 := ⟨q_X4_waterOn.1, q_X4_waterOn.2.1, q_X4_waterOn.2.2, Or.inl (tb_g 646 (by decide +kernel) rfl)⟩
theorem k_X7_shiftOn : Cond.instanceMethod mX7_shiftOn.1 ∈ TBg ∧ Cond.selects mX7_shiftOn.1.cls mX7_shiftOn.1 mX7_shiftOn.1 ∈ TBg := ⟨tb_g 652 (by decide +kernel) rfl, tb_g 25 (by decide +kernel) rfl⟩
set_option maxRecDepth 20000 in
theorem q_X7_shiftOn : Cond.code mX7_shiftOn.1 mX7_shiftOn.2.1 mX7_shiftOn.2.2.1 mX7_shiftOn.2.2.2 ∈ TBg ∧ Cond.initialized mX7_shiftOn.1.cls ∈ TBg ∧ (mX7_shiftOn.1.cls ≠ "java/lang/invoke/MethodHandle" ∧ mX7_shiftOn.1.cls ≠ "java/lang/invoke/VarHandle" ∧ (parseMethodDescriptor mX7_shiftOn.1.desc).map (fun d => d.parameters.length) = some 1) := ⟨tb_g 653 rfl rfl, tb_g 113 (by decide +kernel) rfl, by decide +kernel⟩
theorem c_X4_139 : CkM RX4 139 mX7_shiftOn 1 := ⟨q_X7_shiftOn.1, q_X7_shiftOn.2.1, q_X7_shiftOn.2.2, Or.inr ⟨"RiverSteamers", tb_n 650 (by decide +kernel) rfl⟩⟩
theorem k_X10_learn : Cond.instanceMethod mX10_learn.1 ∈ TBg ∧ Cond.selects mX10_learn.1.cls mX10_learn.1 mX10_learn.1 ∈ TBg := ⟨tb_g 656 (by decide +kernel) rfl, tb_g 26 (by decide +kernel) rfl⟩
set_option maxRecDepth 20000 in
theorem q_X10_learn : Cond.code mX10_learn.1 mX10_learn.2.1 mX10_learn.2.2.1 mX10_learn.2.2.2 ∈ TBg ∧ Cond.initialized mX10_learn.1.cls ∈ TBg ∧ (mX10_learn.1.cls ≠ "java/lang/invoke/MethodHandle" ∧ mX10_learn.1.cls ≠ "java/lang/invoke/VarHandle" ∧ (parseMethodDescriptor mX10_learn.1.desc).map (fun d => d.parameters.length) = some 3) := ⟨tb_g 657 rfl rfl, tb_g 115 (by decide +kernel) rfl, by decide +kernel⟩
theorem c_X4_195 : CkM RX4 195 mX10_learn 3 := ⟨q_X10_learn.1, q_X10_learn.2.1, q_X10_learn.2.2, Or.inr ⟨"RiverSteamers", tb_n 654 (by decide +kernel) rfl⟩⟩
theorem k_X11_off : Cond.instanceMethod mX11_off.1 ∈ TBg ∧ Cond.selects mX11_off.1.cls mX11_off.1 mX11_off.1 ∈ TBg := ⟨tb_g 659 (by decide +kernel) rfl, tb_g 660 (by decide +kernel) rfl⟩
set_option maxRecDepth 20000 in
theorem q_X11_off : Cond.code mX11_off.1 mX11_off.2.1 mX11_off.2.2.1 mX11_off.2.2.2 ∈ TBg ∧ Cond.initialized mX11_off.1.cls ∈ TBg ∧ (mX11_off.1.cls ≠ "java/lang/invoke/MethodHandle" ∧ mX11_off.1.cls ≠ "java/lang/invoke/VarHandle" ∧ (parseMethodDescriptor mX11_off.1.desc).map (fun d => d.parameters.length) = some 1) := ⟨tb_g 661 rfl rfl, tb_g 110 (by decide +kernel) rfl, by decide +kernel⟩
theorem c_L_62 : CkM RL 62 mX11_off 1 := ⟨q_X11_off.1, q_X11_off.2.1, q_X11_off.2.2, Or.inl (tb_g 658 (by decide +kernel) rfl)⟩
theorem c_X11_180 : CkM RX11 180 mX4_today 0 := ⟨q_X4_today.1, q_X4_today.2.1, q_X4_today.2.2, Or.inr ⟨"RiverSteamers", tb_n 662 (by decide +kernel) rfl⟩⟩
theorem c_X11_183 : CkM RX11 183 mX4_waterOn 2 := ⟨q_X4_waterOn.1, q_X4_waterOn.2.1, q_X4_waterOn.2.2, Or.inr ⟨"RiverSteamers", tb_n 663 (by decide +kernel) rfl⟩⟩
theorem k_X4_comeTo : Cond.instanceMethod mX4_comeTo.1 ∈ TBg ∧ Cond.selects mX4_comeTo.1.cls mX4_comeTo.1 mX4_comeTo.1 ∈ TBg := ⟨tb_g 666 (by decide +kernel) rfl, tb_g 27 (by decide +kernel) rfl⟩
set_option maxRecDepth 20000 in
theorem q_X4_comeTo : Cond.code mX4_comeTo.1 mX4_comeTo.2.1 mX4_comeTo.2.2.1 mX4_comeTo.2.2.2 ∈ TBg ∧ Cond.initialized mX4_comeTo.1.cls ∈ TBg ∧ (mX4_comeTo.1.cls ≠ "java/lang/invoke/MethodHandle" ∧ mX4_comeTo.1.cls ≠ "java/lang/invoke/VarHandle" ∧ (parseMethodDescriptor mX4_comeTo.1.desc).map (fun d => d.parameters.length) = some 2) := ⟨tb_g 667 rfl rfl, tb_g 111 (by decide +kernel) rfl, by decide +kernel⟩
theorem c_X11_190 : CkM RX11 190 mX4_comeTo 2 := ⟨q_X4_comeTo.1, q_X4_comeTo.2.1, q_X4_comeTo.2.2, Or.inr ⟨"RiverSteamers", tb_n 664 (by decide +kernel) rfl⟩⟩
theorem k_X10_exchange : Cond.instanceMethod mX10_exchange.1 ∈ TBg ∧ Cond.selects mX10_exchange.1.cls mX10_exchange.1 mX10_exchange.1 ∈ TBg := ⟨tb_g 670 (by decide +kernel) rfl, tb_g 28 (by decide +kernel) rfl⟩
set_option maxRecDepth 20000 in
theorem q_X10_exchange : Cond.code mX10_exchange.1 mX10_exchange.2.1 mX10_exchange.2.2.1 mX10_exchange.2.2.2 ∈ TBg ∧ Cond.initialized mX10_exchange.1.cls ∈ TBg ∧ (mX10_exchange.1.cls ≠ "java/lang/invoke/MethodHandle" ∧ mX10_exchange.1.cls ≠ "java/lang/invoke/VarHandle" ∧ (parseMethodDescriptor mX10_exchange.1.desc).map (fun d => d.parameters.length) = some 1) := ⟨tb_g 671 rfl rfl, tb_g 115 (by decide +kernel) rfl, by decide +kernel⟩
theorem c_X4_216 : CkM RX4 216 mX10_exchange 1 := ⟨q_X10_exchange.1, q_X10_exchange.2.1, q_X10_exchange.2.2, Or.inr ⟨"RiverSteamers", tb_n 668 (by decide +kernel) rfl⟩⟩
theorem c_X10_30 : CkM RX10 30 mX10_learn 3 := ⟨q_X10_learn.1, q_X10_learn.2.1, q_X10_learn.2.2, Or.inl (tb_g 672 (by decide +kernel) rfl)⟩
theorem k_X11_go : Cond.instanceMethod mX11_go.1 ∈ TBg ∧ Cond.selects mX11_go.1.cls mX11_go.1 mX11_go.1 ∈ TBg := ⟨tb_g 674 (by decide +kernel) rfl, tb_g 675 (by decide +kernel) rfl⟩
set_option maxRecDepth 20000 in
theorem q_X11_go : Cond.code mX11_go.1 mX11_go.2.1 mX11_go.2.2.1 mX11_go.2.2.2 ∈ TBg ∧ Cond.initialized mX11_go.1.cls ∈ TBg ∧ (mX11_go.1.cls ≠ "java/lang/invoke/MethodHandle" ∧ mX11_go.1.cls ≠ "java/lang/invoke/VarHandle" ∧ (parseMethodDescriptor mX11_go.1.desc).map (fun d => d.parameters.length) = some 1) := ⟨tb_g 676 rfl rfl, tb_g 110 (by decide +kernel) rfl, by decide +kernel⟩
theorem c_L_66 : CkM RL 66 mX11_go 1 := ⟨q_X11_go.1, q_X11_go.2.1, q_X11_go.2.2, Or.inl (tb_g 673 (by decide +kernel) rfl)⟩
theorem k_X4_goOneQuarter : Cond.instanceMethod mX4_goOneQuarter.1 ∈ TBg ∧ Cond.selects mX4_goOneQuarter.1.cls mX4_goOneQuarter.1 mX4_goOneQuarter.1 ∈ TBg := ⟨tb_g 679 (by decide +kernel) rfl, tb_g 29 (by decide +kernel) rfl⟩
set_option maxRecDepth 20000 in
theorem q_X4_goOneQuarter : Cond.code mX4_goOneQuarter.1 mX4_goOneQuarter.2.1 mX4_goOneQuarter.2.2.1 mX4_goOneQuarter.2.2.2 ∈ TBg ∧ Cond.initialized mX4_goOneQuarter.1.cls ∈ TBg ∧ (mX4_goOneQuarter.1.cls ≠ "java/lang/invoke/MethodHandle" ∧ mX4_goOneQuarter.1.cls ≠ "java/lang/invoke/VarHandle" ∧ (parseMethodDescriptor mX4_goOneQuarter.1.desc).map (fun d => d.parameters.length) = some 0) := ⟨tb_g 680 rfl rfl, tb_g 111 (by decide +kernel) rfl, by decide +kernel⟩
theorem c_X11_197 : CkM RX11 197 mX4_goOneQuarter 0 := ⟨q_X4_goOneQuarter.1, q_X4_goOneQuarter.2.1, q_X4_goOneQuarter.2.2, Or.inr ⟨"RiverSteamers", tb_n 677 (by decide +kernel) rfl⟩⟩
theorem k_X2_isUnderWay : Cond.instanceMethod mX2_isUnderWay.1 ∈ TBg ∧ Cond.selects mX2_isUnderWay.1.cls mX2_isUnderWay.1 mX2_isUnderWay.1 ∈ TBg := ⟨tb_g 683 (by decide +kernel) rfl, tb_g 30 (by decide +kernel) rfl⟩
set_option maxRecDepth 20000 in
theorem q_X2_isUnderWay : Cond.code mX2_isUnderWay.1 mX2_isUnderWay.2.1 mX2_isUnderWay.2.2.1 mX2_isUnderWay.2.2.2 ∈ TBg ∧ Cond.initialized mX2_isUnderWay.1.cls ∈ TBg ∧ (mX2_isUnderWay.1.cls ≠ "java/lang/invoke/MethodHandle" ∧ mX2_isUnderWay.1.cls ≠ "java/lang/invoke/VarHandle" ∧ (parseMethodDescriptor mX2_isUnderWay.1.desc).map (fun d => d.parameters.length) = some 0) := ⟨tb_g 684 rfl rfl, tb_g 116 (by decide +kernel) rfl, by decide +kernel⟩
theorem c_X4_208 : CkM RX4 208 mX2_isUnderWay 0 := ⟨q_X2_isUnderWay.1, q_X2_isUnderWay.2.1, q_X2_isUnderWay.2.2, Or.inr ⟨"RiverSteamers", tb_n 681 (by decide +kernel) rfl⟩⟩
theorem c_X4_211 : CkM RX4 211 mX4_comeTo 2 := ⟨q_X4_comeTo.1, q_X4_comeTo.2.1, q_X4_comeTo.2.2, Or.inl (tb_g 685 (by decide +kernel) rfl)⟩
theorem k_X11_yard : Cond.instanceMethod mX11_yard.1 ∈ TBg ∧ Cond.selects mX11_yard.1.cls mX11_yard.1 mX11_yard.1 ∈ TBg := ⟨tb_g 687 (by decide +kernel) rfl, tb_g 688 (by decide +kernel) rfl⟩
set_option maxRecDepth 20000 in
theorem q_X11_yard : Cond.code mX11_yard.1 mX11_yard.2.1 mX11_yard.2.2.1 mX11_yard.2.2.2 ∈ TBg ∧ Cond.initialized mX11_yard.1.cls ∈ TBg ∧ (mX11_yard.1.cls ≠ "java/lang/invoke/MethodHandle" ∧ mX11_yard.1.cls ≠ "java/lang/invoke/VarHandle" ∧ (parseMethodDescriptor mX11_yard.1.desc).map (fun d => d.parameters.length) = some 2) := ⟨tb_g 689 rfl rfl, tb_g 110 (by decide +kernel) rfl, by decide +kernel⟩
theorem c_L_70 : CkM RL 70 mX11_yard 2 := ⟨q_X11_yard.1, q_X11_yard.2.1, q_X11_yard.2.2, Or.inl (tb_g 686 (by decide +kernel) rfl)⟩
theorem k_X11_wood : Cond.instanceMethod mX11_wood.1 ∈ TBg ∧ Cond.selects mX11_wood.1.cls mX11_wood.1 mX11_wood.1 ∈ TBg := ⟨tb_g 691 (by decide +kernel) rfl, tb_g 692 (by decide +kernel) rfl⟩
set_option maxRecDepth 20000 in
theorem q_X11_wood : Cond.code mX11_wood.1 mX11_wood.2.1 mX11_wood.2.2.1 mX11_wood.2.2.2 ∈ TBg ∧ Cond.initialized mX11_wood.1.cls ∈ TBg ∧ (mX11_wood.1.cls ≠ "java/lang/invoke/MethodHandle" ∧ mX11_wood.1.cls ≠ "java/lang/invoke/VarHandle" ∧ (parseMethodDescriptor mX11_wood.1.desc).map (fun d => d.parameters.length) = some 2) := ⟨tb_g 693 rfl rfl, tb_g 110 (by decide +kernel) rfl, by decide +kernel⟩
theorem c_L_74 : CkM RL 74 mX11_wood 2 := ⟨q_X11_wood.1, q_X11_wood.2.1, q_X11_wood.2.2, Or.inl (tb_g 690 (by decide +kernel) rfl)⟩
theorem k_X11_trip : Cond.instanceMethod mX11_trip.1 ∈ TBg ∧ Cond.selects mX11_trip.1.cls mX11_trip.1 mX11_trip.1 ∈ TBg := ⟨tb_g 695 (by decide +kernel) rfl, tb_g 696 (by decide +kernel) rfl⟩
set_option maxRecDepth 20000 in
theorem q_X11_trip : Cond.code mX11_trip.1 mX11_trip.2.1 mX11_trip.2.2.1 mX11_trip.2.2.2 ∈ TBg ∧ Cond.initialized mX11_trip.1.cls ∈ TBg ∧ (mX11_trip.1.cls ≠ "java/lang/invoke/MethodHandle" ∧ mX11_trip.1.cls ≠ "java/lang/invoke/VarHandle" ∧ (parseMethodDescriptor mX11_trip.1.desc).map (fun d => d.parameters.length) = some 3) := ⟨tb_g 697 rfl rfl, tb_g 110 (by decide +kernel) rfl, by decide +kernel⟩
theorem c_L_78 : CkM RL 78 mX11_trip 3 := ⟨q_X11_trip.1, q_X11_trip.2.1, q_X11_trip.2.2, Or.inl (tb_g 694 (by decide +kernel) rfl)⟩
theorem k_X8_begin : Cond.instanceMethod mX8_begin.1 ∈ TBg ∧ Cond.selects mX8_begin.1.cls mX8_begin.1 mX8_begin.1 ∈ TBg := ⟨tb_g 700 (by decide +kernel) rfl, tb_g 31 (by decide +kernel) rfl⟩
set_option maxRecDepth 20000 in
theorem q_X8_begin : Cond.code mX8_begin.1 mX8_begin.2.1 mX8_begin.2.2.1 mX8_begin.2.2.2 ∈ TBg ∧ Cond.initialized mX8_begin.1.cls ∈ TBg ∧ (mX8_begin.1.cls ≠ "java/lang/invoke/MethodHandle" ∧ mX8_begin.1.cls ≠ "java/lang/invoke/VarHandle" ∧ (parseMethodDescriptor mX8_begin.1.desc).map (fun d => d.parameters.length) = some 3) := ⟨tb_g 701 rfl rfl, tb_g 118 (by decide +kernel) rfl, by decide +kernel⟩
theorem c_X11_222 : CkM RX11 222 mX8_begin 3 := ⟨q_X8_begin.1, q_X8_begin.2.1, q_X8_begin.2.2, Or.inr ⟨"RiverSteamers", tb_n 698 (by decide +kernel) rfl⟩⟩
theorem k_X11_rule : Cond.instanceMethod mX11_rule.1 ∈ TBg ∧ Cond.selects mX11_rule.1.cls mX11_rule.1 mX11_rule.1 ∈ TBg := ⟨tb_g 703 (by decide +kernel) rfl, tb_g 704 (by decide +kernel) rfl⟩
set_option maxRecDepth 20000 in
theorem q_X11_rule : Cond.code mX11_rule.1 mX11_rule.2.1 mX11_rule.2.2.1 mX11_rule.2.2.2 ∈ TBg ∧ Cond.initialized mX11_rule.1.cls ∈ TBg ∧ (mX11_rule.1.cls ≠ "java/lang/invoke/MethodHandle" ∧ mX11_rule.1.cls ≠ "java/lang/invoke/VarHandle" ∧ (parseMethodDescriptor mX11_rule.1.desc).map (fun d => d.parameters.length) = some 3) := ⟨tb_g 705 rfl rfl, tb_g 110 (by decide +kernel) rfl, by decide +kernel⟩
theorem c_L_82 : CkM RL 82 mX11_rule 3 := ⟨q_X11_rule.1, q_X11_rule.2.1, q_X11_rule.2.2, Or.inl (tb_g 702 (by decide +kernel) rfl)⟩
theorem k_X5_begin : Cond.instanceMethod mX5_begin.1 ∈ TBg ∧ Cond.selects mX5_begin.1.cls mX5_begin.1 mX5_begin.1 ∈ TBg := ⟨tb_g 708 (by decide +kernel) rfl, tb_g 32 (by decide +kernel) rfl⟩
set_option maxRecDepth 20000 in
theorem q_X5_begin : Cond.code mX5_begin.1 mX5_begin.2.1 mX5_begin.2.2.1 mX5_begin.2.2.2 ∈ TBg ∧ Cond.initialized mX5_begin.1.cls ∈ TBg ∧ (mX5_begin.1.cls ≠ "java/lang/invoke/MethodHandle" ∧ mX5_begin.1.cls ≠ "java/lang/invoke/VarHandle" ∧ (parseMethodDescriptor mX5_begin.1.desc).map (fun d => d.parameters.length) = some 4) := ⟨tb_g 709 rfl rfl, tb_g 119 (by decide +kernel) rfl, by decide +kernel⟩
theorem c_X11_234 : CkM RX11 234 mX5_begin 4 := ⟨q_X5_begin.1, q_X5_begin.2.1, q_X5_begin.2.2, Or.inr ⟨"RiverSteamers", tb_n 706 (by decide +kernel) rfl⟩⟩
theorem k_X11_image : Cond.instanceMethod mX11_image.1 ∈ TBg ∧ Cond.selects mX11_image.1.cls mX11_image.1 mX11_image.1 ∈ TBg := ⟨tb_g 711 (by decide +kernel) rfl, tb_g 712 (by decide +kernel) rfl⟩
set_option maxRecDepth 20000 in
theorem q_X11_image : Cond.code mX11_image.1 mX11_image.2.1 mX11_image.2.2.1 mX11_image.2.2.2 ∈ TBg ∧ Cond.initialized mX11_image.1.cls ∈ TBg ∧ (mX11_image.1.cls ≠ "java/lang/invoke/MethodHandle" ∧ mX11_image.1.cls ≠ "java/lang/invoke/VarHandle" ∧ (parseMethodDescriptor mX11_image.1.desc).map (fun d => d.parameters.length) = some 0) := ⟨tb_g 713 rfl rfl, tb_g 110 (by decide +kernel) rfl, by decide +kernel⟩
theorem c_L_86 : CkM RL 86 mX11_image 0 := ⟨q_X11_image.1, q_X11_image.2.1, q_X11_image.2.2, Or.inl (tb_g 710 (by decide +kernel) rfl)⟩
theorem k_X4_copyFrom : Cond.instanceMethod mX4_copyFrom.1 ∈ TBg ∧ Cond.selects mX4_copyFrom.1.cls mX4_copyFrom.1 mX4_copyFrom.1 ∈ TBg := ⟨tb_g 716 (by decide +kernel) rfl, tb_g 33 (by decide +kernel) rfl⟩
set_option maxRecDepth 20000 in
theorem q_X4_copyFrom : Cond.code mX4_copyFrom.1 mX4_copyFrom.2.1 mX4_copyFrom.2.2.1 mX4_copyFrom.2.2.2 ∈ TBg ∧ Cond.initialized mX4_copyFrom.1.cls ∈ TBg ∧ (mX4_copyFrom.1.cls ≠ "java/lang/invoke/MethodHandle" ∧ mX4_copyFrom.1.cls ≠ "java/lang/invoke/VarHandle" ∧ (parseMethodDescriptor mX4_copyFrom.1.desc).map (fun d => d.parameters.length) = some 1) := ⟨tb_g 717 rfl rfl, tb_g 111 (by decide +kernel) rfl, by decide +kernel⟩
theorem c_X11_237 : CkM RX11 237 mX4_copyFrom 1 := ⟨q_X4_copyFrom.1, q_X4_copyFrom.2.1, q_X4_copyFrom.2.2, Or.inr ⟨"RiverSteamers", tb_n 714 (by decide +kernel) rfl⟩⟩
theorem k_X4_copyThings : Cond.instanceMethod mX4_copyThings.1 ∈ TBg ∧ Cond.selects mX4_copyThings.1.cls mX4_copyThings.1 mX4_copyThings.1 ∈ TBg := ⟨tb_g 723 (by decide +kernel) rfl, tb_g 34 (by decide +kernel) rfl⟩
set_option maxRecDepth 20000 in
theorem q_X4_copyThings : Cond.code mX4_copyThings.1 mX4_copyThings.2.1 mX4_copyThings.2.2.1 mX4_copyThings.2.2.2 ∈ TBg ∧ Cond.initialized mX4_copyThings.1.cls ∈ TBg ∧ (mX4_copyThings.1.cls ≠ "java/lang/invoke/MethodHandle" ∧ mX4_copyThings.1.cls ≠ "java/lang/invoke/VarHandle" ∧ (parseMethodDescriptor mX4_copyThings.1.desc).map (fun d => d.parameters.length) = some 1) := ⟨tb_g 724 rfl rfl, tb_g 111 (by decide +kernel) rfl, by decide +kernel⟩
theorem c_X4_98 : CkM RX4 98 mX4_copyThings 1 := ⟨q_X4_copyThings.1, q_X4_copyThings.2.1, q_X4_copyThings.2.2, Or.inl (tb_g 721 (by decide +kernel) rfl)⟩
theorem k_X7_copyFrom : Cond.instanceMethod mX7_copyFrom.1 ∈ TBg ∧ Cond.selects mX7_copyFrom.1.cls mX7_copyFrom.1 mX7_copyFrom.1 ∈ TBg := ⟨tb_g 727 (by decide +kernel) rfl, tb_g 35 (by decide +kernel) rfl⟩
set_option maxRecDepth 20000 in
theorem q_X7_copyFrom : Cond.code mX7_copyFrom.1 mX7_copyFrom.2.1 mX7_copyFrom.2.2.1 mX7_copyFrom.2.2.2 ∈ TBg ∧ Cond.initialized mX7_copyFrom.1.cls ∈ TBg ∧ (mX7_copyFrom.1.cls ≠ "java/lang/invoke/MethodHandle" ∧ mX7_copyFrom.1.cls ≠ "java/lang/invoke/VarHandle" ∧ (parseMethodDescriptor mX7_copyFrom.1.desc).map (fun d => d.parameters.length) = some 1) := ⟨tb_g 728 rfl rfl, tb_g 113 (by decide +kernel) rfl, by decide +kernel⟩
theorem c_X4_102 : CkM RX4 102 mX7_copyFrom 1 := ⟨q_X7_copyFrom.1, q_X7_copyFrom.2.1, q_X7_copyFrom.2.2, Or.inr ⟨"RiverSteamers", tb_n 725 (by decide +kernel) rfl⟩⟩
theorem k_X3_copyFrom : Cond.instanceMethod mX3_copyFrom.1 ∈ TBg ∧ Cond.selects mX3_copyFrom.1.cls mX3_copyFrom.1 mX3_copyFrom.1 ∈ TBg := ⟨tb_g 732 (by decide +kernel) rfl, tb_g 36 (by decide +kernel) rfl⟩
set_option maxRecDepth 20000 in
theorem q_X3_copyFrom : Cond.code mX3_copyFrom.1 mX3_copyFrom.2.1 mX3_copyFrom.2.2.1 mX3_copyFrom.2.2.2 ∈ TBg ∧ Cond.initialized mX3_copyFrom.1.cls ∈ TBg ∧ (mX3_copyFrom.1.cls ≠ "java/lang/invoke/MethodHandle" ∧ mX3_copyFrom.1.cls ≠ "java/lang/invoke/VarHandle" ∧ (parseMethodDescriptor mX3_copyFrom.1.desc).map (fun d => d.parameters.length) = some 1) := ⟨tb_g 733 rfl rfl, tb_g 114 (by decide +kernel) rfl, by decide +kernel⟩
theorem c_X4_106 : CkM RX4 106 mX3_copyFrom 1 := ⟨q_X3_copyFrom.1, q_X3_copyFrom.2.1, q_X3_copyFrom.2.2, Or.inr ⟨"RiverSteamers", tb_n 730 (by decide +kernel) rfl⟩⟩
theorem k_X10_copyFrom : Cond.instanceMethod mX10_copyFrom.1 ∈ TBg ∧ Cond.selects mX10_copyFrom.1.cls mX10_copyFrom.1 mX10_copyFrom.1 ∈ TBg := ⟨tb_g 736 (by decide +kernel) rfl, tb_g 37 (by decide +kernel) rfl⟩
set_option maxRecDepth 20000 in
theorem q_X10_copyFrom : Cond.code mX10_copyFrom.1 mX10_copyFrom.2.1 mX10_copyFrom.2.2.1 mX10_copyFrom.2.2.2 ∈ TBg ∧ Cond.initialized mX10_copyFrom.1.cls ∈ TBg ∧ (mX10_copyFrom.1.cls ≠ "java/lang/invoke/MethodHandle" ∧ mX10_copyFrom.1.cls ≠ "java/lang/invoke/VarHandle" ∧ (parseMethodDescriptor mX10_copyFrom.1.desc).map (fun d => d.parameters.length) = some 1) := ⟨tb_g 737 rfl rfl, tb_g 115 (by decide +kernel) rfl, by decide +kernel⟩
theorem c_X3_20 : CkM RX3 20 mX10_copyFrom 1 := ⟨q_X10_copyFrom.1, q_X10_copyFrom.2.1, q_X10_copyFrom.2.2, Or.inr ⟨"RiverSteamers", tb_n 734 (by decide +kernel) rfl⟩⟩
theorem k_X2_copyFrom : Cond.instanceMethod mX2_copyFrom.1 ∈ TBg ∧ Cond.selects mX2_copyFrom.1.cls mX2_copyFrom.1 mX2_copyFrom.1 ∈ TBg := ⟨tb_g 741 (by decide +kernel) rfl, tb_g 38 (by decide +kernel) rfl⟩
set_option maxRecDepth 20000 in
theorem q_X2_copyFrom : Cond.code mX2_copyFrom.1 mX2_copyFrom.2.1 mX2_copyFrom.2.2.1 mX2_copyFrom.2.2.2 ∈ TBg ∧ Cond.initialized mX2_copyFrom.1.cls ∈ TBg ∧ (mX2_copyFrom.1.cls ≠ "java/lang/invoke/MethodHandle" ∧ mX2_copyFrom.1.cls ≠ "java/lang/invoke/VarHandle" ∧ (parseMethodDescriptor mX2_copyFrom.1.desc).map (fun d => d.parameters.length) = some 1) := ⟨tb_g 742 rfl rfl, tb_g 116 (by decide +kernel) rfl, by decide +kernel⟩
theorem c_X4_109 : CkM RX4 109 mX2_copyFrom 1 := ⟨q_X2_copyFrom.1, q_X2_copyFrom.2.1, q_X2_copyFrom.2.2, Or.inr ⟨"RiverSteamers", tb_n 739 (by decide +kernel) rfl⟩⟩
theorem c_X2_49 : CkM RX2 49 mX10_copyFrom 1 := ⟨q_X10_copyFrom.1, q_X10_copyFrom.2.1, q_X10_copyFrom.2.2, Or.inr ⟨"RiverSteamers", tb_n 743 (by decide +kernel) rfl⟩⟩
theorem k_X1_copyFrom : Cond.instanceMethod mX1_copyFrom.1 ∈ TBg ∧ Cond.selects mX1_copyFrom.1.cls mX1_copyFrom.1 mX1_copyFrom.1 ∈ TBg := ⟨tb_g 746 (by decide +kernel) rfl, tb_g 39 (by decide +kernel) rfl⟩
set_option maxRecDepth 20000 in
theorem q_X1_copyFrom : Cond.code mX1_copyFrom.1 mX1_copyFrom.2.1 mX1_copyFrom.2.2.1 mX1_copyFrom.2.2.2 ∈ TBg ∧ Cond.initialized mX1_copyFrom.1.cls ∈ TBg ∧ (mX1_copyFrom.1.cls ≠ "java/lang/invoke/MethodHandle" ∧ mX1_copyFrom.1.cls ≠ "java/lang/invoke/VarHandle" ∧ (parseMethodDescriptor mX1_copyFrom.1.desc).map (fun d => d.parameters.length) = some 1) := ⟨tb_g 747 rfl rfl, tb_g 117 (by decide +kernel) rfl, by decide +kernel⟩
theorem c_X4_112 : CkM RX4 112 mX1_copyFrom 1 := ⟨q_X1_copyFrom.1, q_X1_copyFrom.2.1, q_X1_copyFrom.2.2, Or.inr ⟨"RiverSteamers", tb_n 744 (by decide +kernel) rfl⟩⟩
theorem k_X8_copyFrom : Cond.instanceMethod mX8_copyFrom.1 ∈ TBg ∧ Cond.selects mX8_copyFrom.1.cls mX8_copyFrom.1 mX8_copyFrom.1 ∈ TBg := ⟨tb_g 750 (by decide +kernel) rfl, tb_g 40 (by decide +kernel) rfl⟩
set_option maxRecDepth 20000 in
theorem q_X8_copyFrom : Cond.code mX8_copyFrom.1 mX8_copyFrom.2.1 mX8_copyFrom.2.2.1 mX8_copyFrom.2.2.2 ∈ TBg ∧ Cond.initialized mX8_copyFrom.1.cls ∈ TBg ∧ (mX8_copyFrom.1.cls ≠ "java/lang/invoke/MethodHandle" ∧ mX8_copyFrom.1.cls ≠ "java/lang/invoke/VarHandle" ∧ (parseMethodDescriptor mX8_copyFrom.1.desc).map (fun d => d.parameters.length) = some 1) := ⟨tb_g 751 rfl rfl, tb_g 118 (by decide +kernel) rfl, by decide +kernel⟩
theorem c_X4_115 : CkM RX4 115 mX8_copyFrom 1 := ⟨q_X8_copyFrom.1, q_X8_copyFrom.2.1, q_X8_copyFrom.2.2, Or.inr ⟨"RiverSteamers", tb_n 748 (by decide +kernel) rfl⟩⟩
theorem c_X8_19 : CkM RX8 19 mX8_begin 3 := ⟨q_X8_begin.1, q_X8_begin.2.1, q_X8_begin.2.2, Or.inl (tb_g 752 (by decide +kernel) rfl)⟩
theorem k_X5_copyFrom : Cond.instanceMethod mX5_copyFrom.1 ∈ TBg ∧ Cond.selects mX5_copyFrom.1.cls mX5_copyFrom.1 mX5_copyFrom.1 ∈ TBg := ⟨tb_g 755 (by decide +kernel) rfl, tb_g 41 (by decide +kernel) rfl⟩
set_option maxRecDepth 20000 in
theorem q_X5_copyFrom : Cond.code mX5_copyFrom.1 mX5_copyFrom.2.1 mX5_copyFrom.2.2.1 mX5_copyFrom.2.2.2 ∈ TBg ∧ Cond.initialized mX5_copyFrom.1.cls ∈ TBg ∧ (mX5_copyFrom.1.cls ≠ "java/lang/invoke/MethodHandle" ∧ mX5_copyFrom.1.cls ≠ "java/lang/invoke/VarHandle" ∧ (parseMethodDescriptor mX5_copyFrom.1.desc).map (fun d => d.parameters.length) = some 1) := ⟨tb_g 756 rfl rfl, tb_g 119 (by decide +kernel) rfl, by decide +kernel⟩
theorem c_X4_118 : CkM RX4 118 mX5_copyFrom 1 := ⟨q_X5_copyFrom.1, q_X5_copyFrom.2.1, q_X5_copyFrom.2.2, Or.inr ⟨"RiverSteamers", tb_n 753 (by decide +kernel) rfl⟩⟩
theorem c_X5_22 : CkM RX5 22 mX5_begin 4 := ⟨q_X5_begin.1, q_X5_begin.2.1, q_X5_begin.2.2, Or.inl (tb_g 757 (by decide +kernel) rfl)⟩
theorem k_X11_back : Cond.instanceMethod mX11_back.1 ∈ TBg ∧ Cond.selects mX11_back.1.cls mX11_back.1 mX11_back.1 ∈ TBg := ⟨tb_g 759 (by decide +kernel) rfl, tb_g 760 (by decide +kernel) rfl⟩
set_option maxRecDepth 20000 in
theorem q_X11_back : Cond.code mX11_back.1 mX11_back.2.1 mX11_back.2.2.1 mX11_back.2.2.2 ∈ TBg ∧ Cond.initialized mX11_back.1.cls ∈ TBg ∧ (mX11_back.1.cls ≠ "java/lang/invoke/MethodHandle" ∧ mX11_back.1.cls ≠ "java/lang/invoke/VarHandle" ∧ (parseMethodDescriptor mX11_back.1.desc).map (fun d => d.parameters.length) = some 0) := ⟨tb_g 761 rfl rfl, tb_g 110 (by decide +kernel) rfl, by decide +kernel⟩
theorem c_L_91 : CkM RL 91 mX11_back 0 := ⟨q_X11_back.1, q_X11_back.2.1, q_X11_back.2.2, Or.inl (tb_g 758 (by decide +kernel) rfl)⟩
theorem k_X11_height : Cond.instanceMethod mX11_height.1 ∈ TBg ∧ Cond.selects mX11_height.1.cls mX11_height.1 mX11_height.1 ∈ TBg := ⟨tb_g 763 (by decide +kernel) rfl, tb_g 764 (by decide +kernel) rfl⟩
set_option maxRecDepth 20000 in
theorem q_X11_height : Cond.code mX11_height.1 mX11_height.2.1 mX11_height.2.2.1 mX11_height.2.2.2 ∈ TBg ∧ Cond.initialized mX11_height.1.cls ∈ TBg ∧ (mX11_height.1.cls ≠ "java/lang/invoke/MethodHandle" ∧ mX11_height.1.cls ≠ "java/lang/invoke/VarHandle" ∧ (parseMethodDescriptor mX11_height.1.desc).map (fun d => d.parameters.length) = some 1) := ⟨tb_g 765 rfl rfl, tb_g 110 (by decide +kernel) rfl, by decide +kernel⟩
theorem c_L_95 : CkM RL 95 mX11_height 1 := ⟨q_X11_height.1, q_X11_height.2.1, q_X11_height.2.2, Or.inl (tb_g 762 (by decide +kernel) rfl)⟩
theorem c_X11_241 : CkM RX11 241 mX4_heightOn 1 := ⟨q_X4_heightOn.1, q_X4_heightOn.2.1, q_X4_heightOn.2.2, Or.inr ⟨"RiverSteamers", tb_n 766 (by decide +kernel) rfl⟩⟩
theorem k_X11_stretchTold : Cond.instanceMethod mX11_stretchTold.1 ∈ TBg ∧ Cond.selects mX11_stretchTold.1.cls mX11_stretchTold.1 mX11_stretchTold.1 ∈ TBg := ⟨tb_g 768 (by decide +kernel) rfl, tb_g 769 (by decide +kernel) rfl⟩
set_option maxRecDepth 20000 in
theorem q_X11_stretchTold : Cond.code mX11_stretchTold.1 mX11_stretchTold.2.1 mX11_stretchTold.2.2.1 mX11_stretchTold.2.2.2 ∈ TBg ∧ Cond.initialized mX11_stretchTold.1.cls ∈ TBg ∧ (mX11_stretchTold.1.cls ≠ "java/lang/invoke/MethodHandle" ∧ mX11_stretchTold.1.cls ≠ "java/lang/invoke/VarHandle" ∧ (parseMethodDescriptor mX11_stretchTold.1.desc).map (fun d => d.parameters.length) = some 2) := ⟨tb_g 770 rfl rfl, tb_g 110 (by decide +kernel) rfl, by decide +kernel⟩
theorem c_L_99 : CkM RL 99 mX11_stretchTold 2 := ⟨q_X11_stretchTold.1, q_X11_stretchTold.2.1, q_X11_stretchTold.2.2, Or.inl (tb_g 767 (by decide +kernel) rfl)⟩
theorem c_X11_250 : CkM RX11 250 mX7_shiftOn 1 := ⟨q_X7_shiftOn.1, q_X7_shiftOn.2.1, q_X7_shiftOn.2.2, Or.inr ⟨"RiverSteamers", tb_n 771 (by decide +kernel) rfl⟩⟩
theorem c_X11_253 : CkM RX11 253 mX4_longNow 1 := ⟨q_X4_longNow.1, q_X4_longNow.2.1, q_X4_longNow.2.2, Or.inr ⟨"RiverSteamers", tb_n 772 (by decide +kernel) rfl⟩⟩
theorem k_X11_water : Cond.instanceMethod mX11_water.1 ∈ TBg ∧ Cond.selects mX11_water.1.cls mX11_water.1 mX11_water.1 ∈ TBg := ⟨tb_g 774 (by decide +kernel) rfl, tb_g 775 (by decide +kernel) rfl⟩
set_option maxRecDepth 20000 in
theorem q_X11_water : Cond.code mX11_water.1 mX11_water.2.1 mX11_water.2.2.1 mX11_water.2.2.2 ∈ TBg ∧ Cond.initialized mX11_water.1.cls ∈ TBg ∧ (mX11_water.1.cls ≠ "java/lang/invoke/MethodHandle" ∧ mX11_water.1.cls ≠ "java/lang/invoke/VarHandle" ∧ (parseMethodDescriptor mX11_water.1.desc).map (fun d => d.parameters.length) = some 2) := ⟨tb_g 776 rfl rfl, tb_g 110 (by decide +kernel) rfl, by decide +kernel⟩
theorem c_L_103 : CkM RL 103 mX11_water 2 := ⟨q_X11_water.1, q_X11_water.2.1, q_X11_water.2.2, Or.inl (tb_g 773 (by decide +kernel) rfl)⟩
theorem k_X11_boatTold : Cond.instanceMethod mX11_boatTold.1 ∈ TBg ∧ Cond.selects mX11_boatTold.1.cls mX11_boatTold.1 mX11_boatTold.1 ∈ TBg := ⟨tb_g 778 (by decide +kernel) rfl, tb_g 779 (by decide +kernel) rfl⟩
set_option maxRecDepth 20000 in
theorem q_X11_boatTold : Cond.code mX11_boatTold.1 mX11_boatTold.2.1 mX11_boatTold.2.2.1 mX11_boatTold.2.2.2 ∈ TBg ∧ Cond.initialized mX11_boatTold.1.cls ∈ TBg ∧ (mX11_boatTold.1.cls ≠ "java/lang/invoke/MethodHandle" ∧ mX11_boatTold.1.cls ≠ "java/lang/invoke/VarHandle" ∧ (parseMethodDescriptor mX11_boatTold.1.desc).map (fun d => d.parameters.length) = some 2) := ⟨tb_g 780 rfl rfl, tb_g 110 (by decide +kernel) rfl, by decide +kernel⟩
theorem c_L_107 : CkM RL 107 mX11_boatTold 2 := ⟨q_X11_boatTold.1, q_X11_boatTold.2.1, q_X11_boatTold.2.2, Or.inl (tb_g 777 (by decide +kernel) rfl)⟩
theorem c_X11_256 : CkM RX11 256 mX2_isUnderWay 0 := ⟨q_X2_isUnderWay.1, q_X2_isUnderWay.2.1, q_X2_isUnderWay.2.2, Or.inr ⟨"RiverSteamers", tb_n 781 (by decide +kernel) rfl⟩⟩
theorem k_X11_baleTold : Cond.instanceMethod mX11_baleTold.1 ∈ TBg ∧ Cond.selects mX11_baleTold.1.cls mX11_baleTold.1 mX11_baleTold.1 ∈ TBg := ⟨tb_g 783 (by decide +kernel) rfl, tb_g 784 (by decide +kernel) rfl⟩
set_option maxRecDepth 20000 in
theorem q_X11_baleTold : Cond.code mX11_baleTold.1 mX11_baleTold.2.1 mX11_baleTold.2.2.1 mX11_baleTold.2.2.2 ∈ TBg ∧ Cond.initialized mX11_baleTold.1.cls ∈ TBg ∧ (mX11_baleTold.1.cls ≠ "java/lang/invoke/MethodHandle" ∧ mX11_baleTold.1.cls ≠ "java/lang/invoke/VarHandle" ∧ (parseMethodDescriptor mX11_baleTold.1.desc).map (fun d => d.parameters.length) = some 2) := ⟨tb_g 785 rfl rfl, tb_g 110 (by decide +kernel) rfl, by decide +kernel⟩
theorem c_L_111 : CkM RL 111 mX11_baleTold 2 := ⟨q_X11_baleTold.1, q_X11_baleTold.2.1, q_X11_baleTold.2.2, Or.inl (tb_g 782 (by decide +kernel) rfl)⟩
theorem k_X11_why : Cond.instanceMethod mX11_why.1 ∈ TBg ∧ Cond.selects mX11_why.1.cls mX11_why.1 mX11_why.1 ∈ TBg := ⟨tb_g 787 (by decide +kernel) rfl, tb_g 788 (by decide +kernel) rfl⟩
set_option maxRecDepth 20000 in
theorem q_X11_why : Cond.code mX11_why.1 mX11_why.2.1 mX11_why.2.2.1 mX11_why.2.2.2 ∈ TBg ∧ Cond.initialized mX11_why.1.cls ∈ TBg ∧ (mX11_why.1.cls ≠ "java/lang/invoke/MethodHandle" ∧ mX11_why.1.cls ≠ "java/lang/invoke/VarHandle" ∧ (parseMethodDescriptor mX11_why.1.desc).map (fun d => d.parameters.length) = some 2) := ⟨tb_g 789 rfl rfl, tb_g 110 (by decide +kernel) rfl, by decide +kernel⟩
theorem c_L_115 : CkM RL 115 mX11_why 2 := ⟨q_X11_why.1, q_X11_why.2.1, q_X11_why.2.2, Or.inl (tb_g 786 (by decide +kernel) rfl)⟩
theorem k_X11_knows : Cond.instanceMethod mX11_knows.1 ∈ TBg ∧ Cond.selects mX11_knows.1.cls mX11_knows.1 mX11_knows.1 ∈ TBg := ⟨tb_g 791 (by decide +kernel) rfl, tb_g 792 (by decide +kernel) rfl⟩
set_option maxRecDepth 20000 in
theorem q_X11_knows : Cond.code mX11_knows.1 mX11_knows.2.1 mX11_knows.2.2.1 mX11_knows.2.2.2 ∈ TBg ∧ Cond.initialized mX11_knows.1.cls ∈ TBg ∧ (mX11_knows.1.cls ≠ "java/lang/invoke/MethodHandle" ∧ mX11_knows.1.cls ≠ "java/lang/invoke/VarHandle" ∧ (parseMethodDescriptor mX11_knows.1.desc).map (fun d => d.parameters.length) = some 3) := ⟨tb_g 793 rfl rfl, tb_g 110 (by decide +kernel) rfl, by decide +kernel⟩
theorem c_L_119 : CkM RL 119 mX11_knows 3 := ⟨q_X11_knows.1, q_X11_knows.2.1, q_X11_knows.2.2, Or.inl (tb_g 790 (by decide +kernel) rfl)⟩
theorem k_X10_toldOf : Cond.instanceMethod mX10_toldOf.1 ∈ TBg ∧ Cond.selects mX10_toldOf.1.cls mX10_toldOf.1 mX10_toldOf.1 ∈ TBg := ⟨tb_g 796 (by decide +kernel) rfl, tb_g 42 (by decide +kernel) rfl⟩
set_option maxRecDepth 20000 in
theorem q_X10_toldOf : Cond.code mX10_toldOf.1 mX10_toldOf.2.1 mX10_toldOf.2.2.1 mX10_toldOf.2.2.2 ∈ TBg ∧ Cond.initialized mX10_toldOf.1.cls ∈ TBg ∧ (mX10_toldOf.1.cls ≠ "java/lang/invoke/MethodHandle" ∧ mX10_toldOf.1.cls ≠ "java/lang/invoke/VarHandle" ∧ (parseMethodDescriptor mX10_toldOf.1.desc).map (fun d => d.parameters.length) = some 2) := ⟨tb_g 797 rfl rfl, tb_g 115 (by decide +kernel) rfl, by decide +kernel⟩
theorem c_X11_267 : CkM RX11 267 mX10_toldOf 2 := ⟨q_X10_toldOf.1, q_X10_toldOf.2.1, q_X10_toldOf.2.2, Or.inr ⟨"RiverSteamers", tb_n 794 (by decide +kernel) rfl⟩⟩
theorem c_X10_34 : CkM RX10 34 mX10_isKnown 1 := ⟨q_X10_isKnown.1, q_X10_isKnown.2.1, q_X10_isKnown.2.2, Or.inl (tb_g 798 (by decide +kernel) rfl)⟩
theorem c_X10_38 : CkM RX10 38 mX11_isWithin 3 := ⟨q_X11_isWithin.1, q_X11_isWithin.2.1, q_X11_isWithin.2.2, Or.inr ⟨"RiverSteamers", tb_n 799 (by decide +kernel) rfl⟩⟩
theorem k_X11_box : Cond.instanceMethod mX11_box.1 ∈ TBg ∧ Cond.selects mX11_box.1.cls mX11_box.1 mX11_box.1 ∈ TBg := ⟨tb_g 801 (by decide +kernel) rfl, tb_g 802 (by decide +kernel) rfl⟩
set_option maxRecDepth 20000 in
theorem q_X11_box : Cond.code mX11_box.1 mX11_box.2.1 mX11_box.2.2.1 mX11_box.2.2.2 ∈ TBg ∧ Cond.initialized mX11_box.1.cls ∈ TBg ∧ (mX11_box.1.cls ≠ "java/lang/invoke/MethodHandle" ∧ mX11_box.1.cls ≠ "java/lang/invoke/VarHandle" ∧ (parseMethodDescriptor mX11_box.1.desc).map (fun d => d.parameters.length) = some 3) := ⟨tb_g 803 rfl rfl, tb_g 110 (by decide +kernel) rfl, by decide +kernel⟩
theorem c_L_123 : CkM RL 123 mX11_box 3 := ⟨q_X11_box.1, q_X11_box.2.1, q_X11_box.2.2, Or.inl (tb_g 800 (by decide +kernel) rfl)⟩
theorem k_X11_lading : Cond.instanceMethod mX11_lading.1 ∈ TBg ∧ Cond.selects mX11_lading.1.cls mX11_lading.1 mX11_lading.1 ∈ TBg := ⟨tb_g 805 (by decide +kernel) rfl, tb_g 806 (by decide +kernel) rfl⟩
set_option maxRecDepth 20000 in
theorem q_X11_lading : Cond.code mX11_lading.1 mX11_lading.2.1 mX11_lading.2.2.1 mX11_lading.2.2.2 ∈ TBg ∧ Cond.initialized mX11_lading.1.cls ∈ TBg ∧ (mX11_lading.1.cls ≠ "java/lang/invoke/MethodHandle" ∧ mX11_lading.1.cls ≠ "java/lang/invoke/VarHandle" ∧ (parseMethodDescriptor mX11_lading.1.desc).map (fun d => d.parameters.length) = some 2) := ⟨tb_g 807 rfl rfl, tb_g 110 (by decide +kernel) rfl, by decide +kernel⟩
theorem c_L_127 : CkM RL 127 mX11_lading 2 := ⟨q_X11_lading.1, q_X11_lading.2.1, q_X11_lading.2.2, Or.inl (tb_g 804 (by decide +kernel) rfl)⟩
theorem k_X11_listBalesAt : Cond.instanceMethod mX11_listBalesAt.1 ∈ TBg ∧ Cond.selects mX11_listBalesAt.1.cls mX11_listBalesAt.1 mX11_listBalesAt.1 ∈ TBg := ⟨tb_g 810 (by decide +kernel) rfl, tb_g 43 (by decide +kernel) rfl⟩
set_option maxRecDepth 20000 in
theorem q_X11_listBalesAt : Cond.code mX11_listBalesAt.1 mX11_listBalesAt.2.1 mX11_listBalesAt.2.2.1 mX11_listBalesAt.2.2.2 ∈ TBg ∧ Cond.initialized mX11_listBalesAt.1.cls ∈ TBg ∧ (mX11_listBalesAt.1.cls ≠ "java/lang/invoke/MethodHandle" ∧ mX11_listBalesAt.1.cls ≠ "java/lang/invoke/VarHandle" ∧ (parseMethodDescriptor mX11_listBalesAt.1.desc).map (fun d => d.parameters.length) = some 1) := ⟨tb_g 811 rfl rfl, tb_g 110 (by decide +kernel) rfl, by decide +kernel⟩
theorem c_X11_273 : CkM RX11 273 mX11_listBalesAt 1 := ⟨q_X11_listBalesAt.1, q_X11_listBalesAt.2.1, q_X11_listBalesAt.2.2, Or.inl (tb_g 808 (by decide +kernel) rfl)⟩
theorem k_X11_bestSet : Cond.instanceMethod mX11_bestSet.1 ∈ TBg ∧ Cond.selects mX11_bestSet.1.cls mX11_bestSet.1 mX11_bestSet.1 ∈ TBg := ⟨tb_g 814 (by decide +kernel) rfl, tb_g 44 (by decide +kernel) rfl⟩
set_option maxRecDepth 20000 in
theorem q_X11_bestSet : Cond.code mX11_bestSet.1 mX11_bestSet.2.1 mX11_bestSet.2.2.1 mX11_bestSet.2.2.2 ∈ TBg ∧ Cond.initialized mX11_bestSet.1.cls ∈ TBg ∧ (mX11_bestSet.1.cls ≠ "java/lang/invoke/MethodHandle" ∧ mX11_bestSet.1.cls ≠ "java/lang/invoke/VarHandle" ∧ (parseMethodDescriptor mX11_bestSet.1.desc).map (fun d => d.parameters.length) = some 3) := ⟨tb_g 815 rfl rfl, tb_g 110 (by decide +kernel) rfl, by decide +kernel⟩
theorem c_X11_276 : CkM RX11 276 mX11_bestSet 3 := ⟨q_X11_bestSet.1, q_X11_bestSet.2.1, q_X11_bestSet.2.2, Or.inl (tb_g 812 (by decide +kernel) rfl)⟩
theorem k_X2_canTake : Cond.instanceMethod mX2_canTake.1 ∈ TBg ∧ Cond.selects mX2_canTake.1.cls mX2_canTake.1 mX2_canTake.1 ∈ TBg := ⟨tb_g 818 (by decide +kernel) rfl, tb_g 45 (by decide +kernel) rfl⟩
set_option maxRecDepth 20000 in
theorem q_X2_canTake : Cond.code mX2_canTake.1 mX2_canTake.2.1 mX2_canTake.2.2.1 mX2_canTake.2.2.2 ∈ TBg ∧ Cond.initialized mX2_canTake.1.cls ∈ TBg ∧ (mX2_canTake.1.cls ≠ "java/lang/invoke/MethodHandle" ∧ mX2_canTake.1.cls ≠ "java/lang/invoke/VarHandle" ∧ (parseMethodDescriptor mX2_canTake.1.desc).map (fun d => d.parameters.length) = some 2) := ⟨tb_g 819 rfl rfl, tb_g 116 (by decide +kernel) rfl, by decide +kernel⟩
theorem c_X11_369 : CkM RX11 369 mX2_canTake 2 := ⟨q_X2_canTake.1, q_X2_canTake.2.1, q_X2_canTake.2.2, Or.inr ⟨"RiverSteamers", tb_n 816 (by decide +kernel) rfl⟩⟩
theorem k_X11_wooding : Cond.instanceMethod mX11_wooding.1 ∈ TBg ∧ Cond.selects mX11_wooding.1.cls mX11_wooding.1 mX11_wooding.1 ∈ TBg := ⟨tb_g 821 (by decide +kernel) rfl, tb_g 822 (by decide +kernel) rfl⟩
set_option maxRecDepth 20000 in
theorem q_X11_wooding : Cond.code mX11_wooding.1 mX11_wooding.2.1 mX11_wooding.2.2.1 mX11_wooding.2.2.2 ∈ TBg ∧ Cond.initialized mX11_wooding.1.cls ∈ TBg ∧ (mX11_wooding.1.cls ≠ "java/lang/invoke/MethodHandle" ∧ mX11_wooding.1.cls ≠ "java/lang/invoke/VarHandle" ∧ (parseMethodDescriptor mX11_wooding.1.desc).map (fun d => d.parameters.length) = some 3) := ⟨tb_g 823 rfl rfl, tb_g 110 (by decide +kernel) rfl, by decide +kernel⟩
theorem c_L_131 : CkM RL 131 mX11_wooding 3 := ⟨q_X11_wooding.1, q_X11_wooding.2.1, q_X11_wooding.2.2, Or.inl (tb_g 820 (by decide +kernel) rfl)⟩
theorem k_X9_workOut : Cond.instanceMethod mX9_workOut.1 ∈ TBg ∧ Cond.selects mX9_workOut.1.cls mX9_workOut.1 mX9_workOut.1 ∈ TBg := ⟨tb_g 826 (by decide +kernel) rfl, tb_g 46 (by decide +kernel) rfl⟩
set_option maxRecDepth 20000 in
theorem q_X9_workOut : Cond.code mX9_workOut.1 mX9_workOut.2.1 mX9_workOut.2.2.1 mX9_workOut.2.2.2 ∈ TBg ∧ Cond.initialized mX9_workOut.1.cls ∈ TBg ∧ (mX9_workOut.1.cls ≠ "java/lang/invoke/MethodHandle" ∧ mX9_workOut.1.cls ≠ "java/lang/invoke/VarHandle" ∧ (parseMethodDescriptor mX9_workOut.1.desc).map (fun d => d.parameters.length) = some 4) := ⟨tb_g 827 rfl rfl, tb_g 121 (by decide +kernel) rfl, by decide +kernel⟩
theorem c_X11_280 : CkM RX11 280 mX9_workOut 4 := ⟨q_X9_workOut.1, q_X9_workOut.2.1, q_X9_workOut.2.2, Or.inr ⟨"RiverSteamers", tb_n 824 (by decide +kernel) rfl⟩⟩
theorem k_J_abs : Cond.static mJ_abs.1 ∈ TBg := tb_g 829 (by decide +kernel) rfl
set_option maxRecDepth 20000 in
theorem q_J_abs : Cond.code mJ_abs.1 mJ_abs.2.1 mJ_abs.2.2.1 mJ_abs.2.2.2 ∈ TBg ∧ Cond.initialized mJ_abs.1.cls ∈ TBg ∧ (mJ_abs.1.cls ≠ "java/lang/invoke/MethodHandle" ∧ mJ_abs.1.cls ≠ "java/lang/invoke/VarHandle" ∧ (parseMethodDescriptor mJ_abs.1.desc).map (fun d => d.parameters.length) = some 1) := ⟨tb_g 830 rfl rfl, tb_g 125 (by decide +kernel) rfl, by decide +kernel⟩
theorem c_X9_28 : CkM RX9 28 mJ_abs 1 := ⟨q_J_abs.1, q_J_abs.2.1, q_J_abs.2.2, Or.inl (tb_g 828 (by decide +kernel) rfl)⟩
theorem c_X9_45 : CkM RX9 45 mX4_longByDaylight 1 := ⟨q_X4_longByDaylight.1, q_X4_longByDaylight.2.1, q_X4_longByDaylight.2.2, Or.inr ⟨"RiverSteamers", tb_n 831 (by decide +kernel) rfl⟩⟩
theorem k_X9_workOutStep : Cond.instanceMethod mX9_workOutStep.1 ∈ TBg ∧ Cond.selects mX9_workOutStep.1.cls mX9_workOutStep.1 mX9_workOutStep.1 ∈ TBg := ⟨tb_g 834 (by decide +kernel) rfl, tb_g 47 (by decide +kernel) rfl⟩
set_option maxRecDepth 20000 in
theorem q_X9_workOutStep : Cond.code mX9_workOutStep.1 mX9_workOutStep.2.1 mX9_workOutStep.2.2.1 mX9_workOutStep.2.2.2 ∈ TBg ∧ Cond.initialized mX9_workOutStep.1.cls ∈ TBg ∧ (mX9_workOutStep.1.cls ≠ "java/lang/invoke/MethodHandle" ∧ mX9_workOutStep.1.cls ≠ "java/lang/invoke/VarHandle" ∧ (parseMethodDescriptor mX9_workOutStep.1.desc).map (fun d => d.parameters.length) = some 1) := ⟨tb_g 835 rfl rfl, tb_g 121 (by decide +kernel) rfl, by decide +kernel⟩
theorem c_X9_48 : CkM RX9 48 mX9_workOutStep 1 := ⟨q_X9_workOutStep.1, q_X9_workOutStep.2.1, q_X9_workOutStep.2.2, Or.inl (tb_g 832 (by decide +kernel) rfl)⟩
theorem k_X9_costOnward : Cond.instanceMethod mX9_costOnward.1 ∈ TBg ∧ Cond.selects mX9_costOnward.1.cls mX9_costOnward.1 mX9_costOnward.1 ∈ TBg := ⟨tb_g 839 (by decide +kernel) rfl, tb_g 48 (by decide +kernel) rfl⟩
set_option maxRecDepth 20000 in
theorem q_X9_costOnward : Cond.code mX9_costOnward.1 mX9_costOnward.2.1 mX9_costOnward.2.2.1 mX9_costOnward.2.2.2 ∈ TBg ∧ Cond.initialized mX9_costOnward.1.cls ∈ TBg ∧ (mX9_costOnward.1.cls ≠ "java/lang/invoke/MethodHandle" ∧ mX9_costOnward.1.cls ≠ "java/lang/invoke/VarHandle" ∧ (parseMethodDescriptor mX9_costOnward.1.desc).map (fun d => d.parameters.length) = some 2) := ⟨tb_g 840 rfl rfl, tb_g 121 (by decide +kernel) rfl, by decide +kernel⟩
theorem c_X9_53 : CkM RX9 53 mX9_costOnward 2 := ⟨q_X9_costOnward.1, q_X9_costOnward.2.1, q_X9_costOnward.2.2, Or.inl (tb_g 837 (by decide +kernel) rfl)⟩
theorem k_J_min : Cond.static mJ_min.1 ∈ TBg := tb_g 842 (by decide +kernel) rfl
set_option maxRecDepth 20000 in
theorem q_J_min : Cond.code mJ_min.1 mJ_min.2.1 mJ_min.2.2.1 mJ_min.2.2.2 ∈ TBg ∧ Cond.initialized mJ_min.1.cls ∈ TBg ∧ (mJ_min.1.cls ≠ "java/lang/invoke/MethodHandle" ∧ mJ_min.1.cls ≠ "java/lang/invoke/VarHandle" ∧ (parseMethodDescriptor mJ_min.1.desc).map (fun d => d.parameters.length) = some 2) := ⟨tb_g 843 rfl rfl, tb_g 125 (by decide +kernel) rfl, by decide +kernel⟩
theorem c_X9_57 : CkM RX9 57 mJ_min 2 := ⟨q_J_min.1, q_J_min.2.1, q_J_min.2.2, Or.inl (tb_g 841 (by decide +kernel) rfl)⟩
theorem k_X9_leastCost : Cond.instanceMethod mX9_leastCost.1 ∈ TBg ∧ Cond.selects mX9_leastCost.1.cls mX9_leastCost.1 mX9_leastCost.1 ∈ TBg := ⟨tb_g 846 (by decide +kernel) rfl, tb_g 49 (by decide +kernel) rfl⟩
set_option maxRecDepth 20000 in
theorem q_X9_leastCost : Cond.code mX9_leastCost.1 mX9_leastCost.2.1 mX9_leastCost.2.2.1 mX9_leastCost.2.2.2 ∈ TBg ∧ Cond.initialized mX9_leastCost.1.cls ∈ TBg ∧ (mX9_leastCost.1.cls ≠ "java/lang/invoke/MethodHandle" ∧ mX9_leastCost.1.cls ≠ "java/lang/invoke/VarHandle" ∧ (parseMethodDescriptor mX9_leastCost.1.desc).map (fun d => d.parameters.length) = some 0) := ⟨tb_g 847 rfl rfl, tb_g 121 (by decide +kernel) rfl, by decide +kernel⟩
theorem c_X11_284 : CkM RX11 284 mX9_leastCost 0 := ⟨q_X9_leastCost.1, q_X9_leastCost.2.1, q_X9_leastCost.2.2, Or.inr ⟨"RiverSteamers", tb_n 844 (by decide +kernel) rfl⟩⟩
theorem k_X11_bought : Cond.instanceMethod mX11_bought.1 ∈ TBg ∧ Cond.selects mX11_bought.1.cls mX11_bought.1 mX11_bought.1 ∈ TBg := ⟨tb_g 849 (by decide +kernel) rfl, tb_g 850 (by decide +kernel) rfl⟩
set_option maxRecDepth 20000 in
theorem q_X11_bought : Cond.code mX11_bought.1 mX11_bought.2.1 mX11_bought.2.2.1 mX11_bought.2.2.2 ∈ TBg ∧ Cond.initialized mX11_bought.1.cls ∈ TBg ∧ (mX11_bought.1.cls ≠ "java/lang/invoke/MethodHandle" ∧ mX11_bought.1.cls ≠ "java/lang/invoke/VarHandle" ∧ (parseMethodDescriptor mX11_bought.1.desc).map (fun d => d.parameters.length) = some 4) := ⟨tb_g 851 rfl rfl, tb_g 110 (by decide +kernel) rfl, by decide +kernel⟩
theorem c_L_135 : CkM RL 135 mX11_bought 4 := ⟨q_X11_bought.1, q_X11_bought.2.1, q_X11_bought.2.2, Or.inl (tb_g 848 (by decide +kernel) rfl)⟩
theorem k_X9_cordsAt : Cond.instanceMethod mX9_cordsAt.1 ∈ TBg ∧ Cond.selects mX9_cordsAt.1.cls mX9_cordsAt.1 mX9_cordsAt.1 ∈ TBg := ⟨tb_g 854 (by decide +kernel) rfl, tb_g 50 (by decide +kernel) rfl⟩
set_option maxRecDepth 20000 in
theorem q_X9_cordsAt : Cond.code mX9_cordsAt.1 mX9_cordsAt.2.1 mX9_cordsAt.2.2.1 mX9_cordsAt.2.2.2 ∈ TBg ∧ Cond.initialized mX9_cordsAt.1.cls ∈ TBg ∧ (mX9_cordsAt.1.cls ≠ "java/lang/invoke/MethodHandle" ∧ mX9_cordsAt.1.cls ≠ "java/lang/invoke/VarHandle" ∧ (parseMethodDescriptor mX9_cordsAt.1.desc).map (fun d => d.parameters.length) = some 1) := ⟨tb_g 855 rfl rfl, tb_g 121 (by decide +kernel) rfl, by decide +kernel⟩
theorem c_X11_287 : CkM RX11 287 mX9_cordsAt 1 := ⟨q_X9_cordsAt.1, q_X9_cordsAt.2.1, q_X9_cordsAt.2.2, Or.inr ⟨"RiverSteamers", tb_n 852 (by decide +kernel) rfl⟩⟩
theorem c_X9_60 : CkM RX9 60 mX11_isWithin 3 := ⟨q_X11_isWithin.1, q_X11_isWithin.2.1, q_X11_isWithin.2.2, Or.inr ⟨"RiverSteamers", tb_n 856 (by decide +kernel) rfl⟩⟩
theorem k_X9_cordsFrom : Cond.instanceMethod mX9_cordsFrom.1 ∈ TBg ∧ Cond.selects mX9_cordsFrom.1.cls mX9_cordsFrom.1 mX9_cordsFrom.1 ∈ TBg := ⟨tb_g 859 (by decide +kernel) rfl, tb_g 51 (by decide +kernel) rfl⟩
set_option maxRecDepth 20000 in
theorem q_X9_cordsFrom : Cond.code mX9_cordsFrom.1 mX9_cordsFrom.2.1 mX9_cordsFrom.2.2.1 mX9_cordsFrom.2.2.2 ∈ TBg ∧ Cond.initialized mX9_cordsFrom.1.cls ∈ TBg ∧ (mX9_cordsFrom.1.cls ≠ "java/lang/invoke/MethodHandle" ∧ mX9_cordsFrom.1.cls ≠ "java/lang/invoke/VarHandle" ∧ (parseMethodDescriptor mX9_cordsFrom.1.desc).map (fun d => d.parameters.length) = some 2) := ⟨tb_g 860 rfl rfl, tb_g 121 (by decide +kernel) rfl, by decide +kernel⟩
theorem c_X9_64 : CkM RX9 64 mX9_cordsFrom 2 := ⟨q_X9_cordsFrom.1, q_X9_cordsFrom.2.1, q_X9_cordsFrom.2.2, Or.inl (tb_g 857 (by decide +kernel) rfl)⟩
theorem k_X11_lights : Cond.instanceMethod mX11_lights.1 ∈ TBg ∧ Cond.selects mX11_lights.1.cls mX11_lights.1 mX11_lights.1 ∈ TBg := ⟨tb_g 862 (by decide +kernel) rfl, tb_g 863 (by decide +kernel) rfl⟩
set_option maxRecDepth 20000 in
theorem q_X11_lights : Cond.code mX11_lights.1 mX11_lights.2.1 mX11_lights.2.2.1 mX11_lights.2.2.2 ∈ TBg ∧ Cond.initialized mX11_lights.1.cls ∈ TBg ∧ (mX11_lights.1.cls ≠ "java/lang/invoke/MethodHandle" ∧ mX11_lights.1.cls ≠ "java/lang/invoke/VarHandle" ∧ (parseMethodDescriptor mX11_lights.1.desc).map (fun d => d.parameters.length) = some 0) := ⟨tb_g 864 rfl rfl, tb_g 110 (by decide +kernel) rfl, by decide +kernel⟩
theorem c_L_139 : CkM RL 139 mX11_lights 0 := ⟨q_X11_lights.1, q_X11_lights.2.1, q_X11_lights.2.2, Or.inl (tb_g 861 (by decide +kernel) rfl)⟩
theorem k_X4_darkCrossings : Cond.instanceMethod mX4_darkCrossings.1 ∈ TBg ∧ Cond.selects mX4_darkCrossings.1.cls mX4_darkCrossings.1 mX4_darkCrossings.1 ∈ TBg := ⟨tb_g 867 (by decide +kernel) rfl, tb_g 52 (by decide +kernel) rfl⟩
set_option maxRecDepth 20000 in
theorem q_X4_darkCrossings : Cond.code mX4_darkCrossings.1 mX4_darkCrossings.2.1 mX4_darkCrossings.2.2.1 mX4_darkCrossings.2.2.2 ∈ TBg ∧ Cond.initialized mX4_darkCrossings.1.cls ∈ TBg ∧ (mX4_darkCrossings.1.cls ≠ "java/lang/invoke/MethodHandle" ∧ mX4_darkCrossings.1.cls ≠ "java/lang/invoke/VarHandle" ∧ (parseMethodDescriptor mX4_darkCrossings.1.desc).map (fun d => d.parameters.length) = some 0) := ⟨tb_g 868 rfl rfl, tb_g 111 (by decide +kernel) rfl, by decide +kernel⟩
theorem c_X11_290 : CkM RX11 290 mX4_darkCrossings 0 := ⟨q_X4_darkCrossings.1, q_X4_darkCrossings.2.1, q_X4_darkCrossings.2.2, Or.inr ⟨"RiverSteamers", tb_n 865 (by decide +kernel) rfl⟩⟩
theorem k_J_bitCount : Cond.static mJ_bitCount.1 ∈ TBg := tb_g 870 (by decide +kernel) rfl
set_option maxRecDepth 20000 in
theorem q_J_bitCount : Cond.code mJ_bitCount.1 mJ_bitCount.2.1 mJ_bitCount.2.2.1 mJ_bitCount.2.2.2 ∈ TBg ∧ Cond.initialized mJ_bitCount.1.cls ∈ TBg ∧ (mJ_bitCount.1.cls ≠ "java/lang/invoke/MethodHandle" ∧ mJ_bitCount.1.cls ≠ "java/lang/invoke/VarHandle" ∧ (parseMethodDescriptor mJ_bitCount.1.desc).map (fun d => d.parameters.length) = some 1) := ⟨tb_g 871 rfl rfl, tb_g 126 (by decide +kernel) rfl, by decide +kernel⟩
theorem c_X11_293 : CkM RX11 293 mJ_bitCount 1 := ⟨q_J_bitCount.1, q_J_bitCount.2.1, q_J_bitCount.2.2, Or.inl (tb_g 869 (by decide +kernel) rfl)⟩
theorem k_X4_tripsBear : Cond.instanceMethod mX4_tripsBear.1 ∈ TBg ∧ Cond.selects mX4_tripsBear.1.cls mX4_tripsBear.1 mX4_tripsBear.1 ∈ TBg := ⟨tb_g 877 (by decide +kernel) rfl, tb_g 53 (by decide +kernel) rfl⟩
set_option maxRecDepth 20000 in
theorem q_X4_tripsBear : Cond.code mX4_tripsBear.1 mX4_tripsBear.2.1 mX4_tripsBear.2.2.1 mX4_tripsBear.2.2.2 ∈ TBg ∧ Cond.initialized mX4_tripsBear.1.cls ∈ TBg ∧ (mX4_tripsBear.1.cls ≠ "java/lang/invoke/MethodHandle" ∧ mX4_tripsBear.1.cls ≠ "java/lang/invoke/VarHandle" ∧ (parseMethodDescriptor mX4_tripsBear.1.desc).map (fun d => d.parameters.length) = some 1) := ⟨tb_g 878 rfl rfl, tb_g 111 (by decide +kernel) rfl, by decide +kernel⟩
theorem c_X11_298 : CkM RX11 298 mX4_tripsBear 1 := ⟨q_X4_tripsBear.1, q_X4_tripsBear.2.1, q_X4_tripsBear.2.2, Or.inr ⟨"RiverSteamers", tb_n 875 (by decide +kernel) rfl⟩⟩
theorem k_X8_wayBits : Cond.instanceMethod mX8_wayBits.1 ∈ TBg ∧ Cond.selects mX8_wayBits.1.cls mX8_wayBits.1 mX8_wayBits.1 ∈ TBg := ⟨tb_g 881 (by decide +kernel) rfl, tb_g 54 (by decide +kernel) rfl⟩
set_option maxRecDepth 20000 in
theorem q_X8_wayBits : Cond.code mX8_wayBits.1 mX8_wayBits.2.1 mX8_wayBits.2.2.1 mX8_wayBits.2.2.2 ∈ TBg ∧ Cond.initialized mX8_wayBits.1.cls ∈ TBg ∧ (mX8_wayBits.1.cls ≠ "java/lang/invoke/MethodHandle" ∧ mX8_wayBits.1.cls ≠ "java/lang/invoke/VarHandle" ∧ (parseMethodDescriptor mX8_wayBits.1.desc).map (fun d => d.parameters.length) = some 0) := ⟨tb_g 882 rfl rfl, tb_g 118 (by decide +kernel) rfl, by decide +kernel⟩
theorem c_X4_225 : CkM RX4 225 mX8_wayBits 0 := ⟨q_X8_wayBits.1, q_X8_wayBits.2.1, q_X8_wayBits.2.2, Or.inr ⟨"RiverSteamers", tb_n 879 (by decide +kernel) rfl⟩⟩
theorem k_J_max : Cond.static mJ_max.1 ∈ TBg := tb_g 884 (by decide +kernel) rfl
set_option maxRecDepth 20000 in
theorem q_J_max : Cond.code mJ_max.1 mJ_max.2.1 mJ_max.2.2.1 mJ_max.2.2.2 ∈ TBg ∧ Cond.initialized mJ_max.1.cls ∈ TBg ∧ (mJ_max.1.cls ≠ "java/lang/invoke/MethodHandle" ∧ mJ_max.1.cls ≠ "java/lang/invoke/VarHandle" ∧ (parseMethodDescriptor mJ_max.1.desc).map (fun d => d.parameters.length) = some 2) := ⟨tb_g 885 rfl rfl, tb_g 125 (by decide +kernel) rfl, by decide +kernel⟩
theorem c_X8_23 : CkM RX8 23 mJ_max 2 := ⟨q_J_max.1, q_J_max.2.1, q_J_max.2.2, Or.inl (tb_g 883 (by decide +kernel) rfl)⟩
theorem c_X8_29 : CkM RX8 29 mJ_min 2 := ⟨q_J_min.1, q_J_min.2.1, q_J_min.2.2, Or.inl (tb_g 886 (by decide +kernel) rfl)⟩
theorem c_X4_228 : CkM RX4 228 mJ_bitCount 1 := ⟨q_J_bitCount.1, q_J_bitCount.2.1, q_J_bitCount.2.2, Or.inl (tb_g 887 (by decide +kernel) rfl)⟩
theorem k_X11_gives : Cond.instanceMethod mX11_gives.1 ∈ TBg ∧ Cond.selects mX11_gives.1.cls mX11_gives.1 mX11_gives.1 ∈ TBg := ⟨tb_g 889 (by decide +kernel) rfl, tb_g 890 (by decide +kernel) rfl⟩
set_option maxRecDepth 20000 in
theorem q_X11_gives : Cond.code mX11_gives.1 mX11_gives.2.1 mX11_gives.2.2.1 mX11_gives.2.2.2 ∈ TBg ∧ Cond.initialized mX11_gives.1.cls ∈ TBg ∧ (mX11_gives.1.cls ≠ "java/lang/invoke/MethodHandle" ∧ mX11_gives.1.cls ≠ "java/lang/invoke/VarHandle" ∧ (parseMethodDescriptor mX11_gives.1.desc).map (fun d => d.parameters.length) = some 5) := ⟨tb_g 891 rfl rfl, tb_g 110 (by decide +kernel) rfl, by decide +kernel⟩
theorem c_L_143 : CkM RL 143 mX11_gives 5 := ⟨q_X11_gives.1, q_X11_gives.2.1, q_X11_gives.2.2, Or.inl (tb_g 888 (by decide +kernel) rfl)⟩
theorem k_X5_isInForce : Cond.instanceMethod mX5_isInForce.1 ∈ TBg ∧ Cond.selects mX5_isInForce.1.cls mX5_isInForce.1 mX5_isInForce.1 ∈ TBg := ⟨tb_g 894 (by decide +kernel) rfl, tb_g 55 (by decide +kernel) rfl⟩
set_option maxRecDepth 20000 in
theorem q_X5_isInForce : Cond.code mX5_isInForce.1 mX5_isInForce.2.1 mX5_isInForce.2.2.1 mX5_isInForce.2.2.2 ∈ TBg ∧ Cond.initialized mX5_isInForce.1.cls ∈ TBg ∧ (mX5_isInForce.1.cls ≠ "java/lang/invoke/MethodHandle" ∧ mX5_isInForce.1.cls ≠ "java/lang/invoke/VarHandle" ∧ (parseMethodDescriptor mX5_isInForce.1.desc).map (fun d => d.parameters.length) = some 1) := ⟨tb_g 895 rfl rfl, tb_g 119 (by decide +kernel) rfl, by decide +kernel⟩
theorem c_X11_301 : CkM RX11 301 mX5_isInForce 1 := ⟨q_X5_isInForce.1, q_X5_isInForce.2.1, q_X5_isInForce.2.2, Or.inr ⟨"RiverSteamers", tb_n 892 (by decide +kernel) rfl⟩⟩
theorem c_X5_26 : CkM RX5 26 mX11_isWithin 3 := ⟨q_X11_isWithin.1, q_X11_isWithin.2.1, q_X11_isWithin.2.2, Or.inr ⟨"RiverSteamers", tb_n 896 (by decide +kernel) rfl⟩⟩
theorem k_X11_yieldingBy : Cond.instanceMethod mX11_yieldingBy.1 ∈ TBg ∧ Cond.selects mX11_yieldingBy.1.cls mX11_yieldingBy.1 mX11_yieldingBy.1 ∈ TBg := ⟨tb_g 899 (by decide +kernel) rfl, tb_g 56 (by decide +kernel) rfl⟩
set_option maxRecDepth 20000 in
theorem q_X11_yieldingBy : Cond.code mX11_yieldingBy.1 mX11_yieldingBy.2.1 mX11_yieldingBy.2.2.1 mX11_yieldingBy.2.2.2 ∈ TBg ∧ Cond.initialized mX11_yieldingBy.1.cls ∈ TBg ∧ (mX11_yieldingBy.1.cls ≠ "java/lang/invoke/MethodHandle" ∧ mX11_yieldingBy.1.cls ≠ "java/lang/invoke/VarHandle" ∧ (parseMethodDescriptor mX11_yieldingBy.1.desc).map (fun d => d.parameters.length) = some 5) := ⟨tb_g 900 rfl rfl, tb_g 110 (by decide +kernel) rfl, by decide +kernel⟩
theorem c_X11_306 : CkM RX11 306 mX11_yieldingBy 5 := ⟨q_X11_yieldingBy.1, q_X11_yieldingBy.2.1, q_X11_yieldingBy.2.2, Or.inl (tb_g 897 (by decide +kernel) rfl)⟩
theorem c_X11_372 : CkM RX11 372 mJ_max 2 := ⟨q_J_max.1, q_J_max.2.1, q_J_max.2.2, Or.inl (tb_g 901 (by decide +kernel) rfl)⟩
theorem k_X11_count : Cond.instanceMethod mX11_count.1 ∈ TBg ∧ Cond.selects mX11_count.1.cls mX11_count.1 mX11_count.1 ∈ TBg := ⟨tb_g 903 (by decide +kernel) rfl, tb_g 904 (by decide +kernel) rfl⟩
set_option maxRecDepth 20000 in
theorem q_X11_count : Cond.code mX11_count.1 mX11_count.2.1 mX11_count.2.2.1 mX11_count.2.2.2 ∈ TBg ∧ Cond.initialized mX11_count.1.cls ∈ TBg ∧ (mX11_count.1.cls ≠ "java/lang/invoke/MethodHandle" ∧ mX11_count.1.cls ≠ "java/lang/invoke/VarHandle" ∧ (parseMethodDescriptor mX11_count.1.desc).map (fun d => d.parameters.length) = some 1) := ⟨tb_g 905 rfl rfl, tb_g 110 (by decide +kernel) rfl, by decide +kernel⟩
theorem c_L_148 : CkM RL 148 mX11_count 1 := ⟨q_X11_count.1, q_X11_count.2.1, q_X11_count.2.2, Or.inl (tb_g 902 (by decide +kernel) rfl)⟩
theorem k_X4_boatsAground : Cond.instanceMethod mX4_boatsAground.1 ∈ TBg ∧ Cond.selects mX4_boatsAground.1.cls mX4_boatsAground.1 mX4_boatsAground.1 ∈ TBg := ⟨tb_g 908 (by decide +kernel) rfl, tb_g 57 (by decide +kernel) rfl⟩
set_option maxRecDepth 20000 in
theorem q_X4_boatsAground : Cond.code mX4_boatsAground.1 mX4_boatsAground.2.1 mX4_boatsAground.2.2.1 mX4_boatsAground.2.2.2 ∈ TBg ∧ Cond.initialized mX4_boatsAground.1.cls ∈ TBg ∧ (mX4_boatsAground.1.cls ≠ "java/lang/invoke/MethodHandle" ∧ mX4_boatsAground.1.cls ≠ "java/lang/invoke/VarHandle" ∧ (parseMethodDescriptor mX4_boatsAground.1.desc).map (fun d => d.parameters.length) = some 0) := ⟨tb_g 909 rfl rfl, tb_g 111 (by decide +kernel) rfl, by decide +kernel⟩
theorem c_X11_310 : CkM RX11 310 mX4_boatsAground 0 := ⟨q_X4_boatsAground.1, q_X4_boatsAground.2.1, q_X4_boatsAground.2.2, Or.inr ⟨"RiverSteamers", tb_n 906 (by decide +kernel) rfl⟩⟩
theorem c_X11_313 : CkM RX11 313 mX4_isNight 0 := ⟨q_X4_isNight.1, q_X4_isNight.2.1, q_X4_isNight.2.2, Or.inr ⟨"RiverSteamers", tb_n 910 (by decide +kernel) rfl⟩⟩
theorem k_X11_act : Cond.instanceMethod mX11_act.1 ∈ TBg ∧ Cond.selects mX11_act.1.cls mX11_act.1 mX11_act.1 ∈ TBg := ⟨tb_g 912 (by decide +kernel) rfl, tb_g 913 (by decide +kernel) rfl⟩
set_option maxRecDepth 20000 in
theorem q_X11_act : Cond.code mX11_act.1 mX11_act.2.1 mX11_act.2.2.1 mX11_act.2.2.2 ∈ TBg ∧ Cond.initialized mX11_act.1.cls ∈ TBg ∧ (mX11_act.1.cls ≠ "java/lang/invoke/MethodHandle" ∧ mX11_act.1.cls ≠ "java/lang/invoke/VarHandle" ∧ (parseMethodDescriptor mX11_act.1.desc).map (fun d => d.parameters.length) = some 3) := ⟨tb_g 914 rfl rfl, tb_g 110 (by decide +kernel) rfl, by decide +kernel⟩
theorem c_L_152 : CkM RL 152 mX11_act 3 := ⟨q_X11_act.1, q_X11_act.2.1, q_X11_act.2.2, Or.inl (tb_g 911 (by decide +kernel) rfl)⟩
theorem k_X0_begin : Cond.instanceMethod mX0_begin.1 ∈ TBg ∧ Cond.selects mX0_begin.1.cls mX0_begin.1 mX0_begin.1 ∈ TBg := ⟨tb_g 917 (by decide +kernel) rfl, tb_g 58 (by decide +kernel) rfl⟩
set_option maxRecDepth 20000 in
theorem q_X0_begin : Cond.code mX0_begin.1 mX0_begin.2.1 mX0_begin.2.2.1 mX0_begin.2.2.2 ∈ TBg ∧ Cond.initialized mX0_begin.1.cls ∈ TBg ∧ (mX0_begin.1.cls ≠ "java/lang/invoke/MethodHandle" ∧ mX0_begin.1.cls ≠ "java/lang/invoke/VarHandle" ∧ (parseMethodDescriptor mX0_begin.1.desc).map (fun d => d.parameters.length) = some 3) := ⟨tb_g 918 rfl rfl, tb_g 120 (by decide +kernel) rfl, by decide +kernel⟩
theorem c_X11_319 : CkM RX11 319 mX0_begin 3 := ⟨q_X0_begin.1, q_X0_begin.2.1, q_X0_begin.2.2, Or.inr ⟨"RiverSteamers", tb_n 915 (by decide +kernel) rfl⟩⟩
theorem k_X0_run : Cond.static mX0_run.1 ∈ TBg := tb_g 920 (by decide +kernel) rfl
set_option maxRecDepth 20000 in
theorem q_X0_run : Cond.code mX0_run.1 mX0_run.2.1 mX0_run.2.2.1 mX0_run.2.2.2 ∈ TBg ∧ Cond.initialized mX0_run.1.cls ∈ TBg ∧ (mX0_run.1.cls ≠ "java/lang/invoke/MethodHandle" ∧ mX0_run.1.cls ≠ "java/lang/invoke/VarHandle" ∧ (parseMethodDescriptor mX0_run.1.desc).map (fun d => d.parameters.length) = some 6) := ⟨tb_g 921 rfl rfl, tb_g 120 (by decide +kernel) rfl, by decide +kernel⟩
theorem c_X0_24 : CkM RX0 24 mX0_run 6 := ⟨q_X0_run.1, q_X0_run.2.1, q_X0_run.2.2, Or.inl (tb_g 919 (by decide +kernel) rfl)⟩
theorem k_X0_kindWithBody : Cond.static mX0_kindWithBody.1 ∈ TBg := tb_g 923 (by decide +kernel) rfl
set_option maxRecDepth 20000 in
theorem q_X0_kindWithBody : Cond.code mX0_kindWithBody.1 mX0_kindWithBody.2.1 mX0_kindWithBody.2.2.1 mX0_kindWithBody.2.2.2 ∈ TBg ∧ Cond.initialized mX0_kindWithBody.1.cls ∈ TBg ∧ (mX0_kindWithBody.1.cls ≠ "java/lang/invoke/MethodHandle" ∧ mX0_kindWithBody.1.cls ≠ "java/lang/invoke/VarHandle" ∧ (parseMethodDescriptor mX0_kindWithBody.1.desc).map (fun d => d.parameters.length) = some 2) := ⟨tb_g 924 rfl rfl, tb_g 120 (by decide +kernel) rfl, by decide +kernel⟩
theorem c_X0_34 : CkM RX0 34 mX0_kindWithBody 2 := ⟨q_X0_kindWithBody.1, q_X0_kindWithBody.2.1, q_X0_kindWithBody.2.2, Or.inl (tb_g 922 (by decide +kernel) rfl)⟩
theorem k_X0_note : Cond.instanceMethod mX0_note.1 ∈ TBg ∧ Cond.selects mX0_note.1.cls mX0_note.1 mX0_note.1 ∈ TBg := ⟨tb_g 930 (by decide +kernel) rfl, tb_g 59 (by decide +kernel) rfl⟩
set_option maxRecDepth 20000 in
theorem q_X0_note : Cond.code mX0_note.1 mX0_note.2.1 mX0_note.2.2.1 mX0_note.2.2.2 ∈ TBg ∧ Cond.initialized mX0_note.1.cls ∈ TBg ∧ (mX0_note.1.cls ≠ "java/lang/invoke/MethodHandle" ∧ mX0_note.1.cls ≠ "java/lang/invoke/VarHandle" ∧ (parseMethodDescriptor mX0_note.1.desc).map (fun d => d.parameters.length) = some 1) := ⟨tb_g 931 rfl rfl, tb_g 120 (by decide +kernel) rfl, by decide +kernel⟩
theorem c_X0_38 : CkM RX0 38 mX0_note 1 := ⟨q_X0_note.1, q_X0_note.2.1, q_X0_note.2.2, Or.inl (tb_g 928 (by decide +kernel) rfl)⟩
theorem k_X11_trace : Cond.instanceMethod mX11_trace.1 ∈ TBg ∧ Cond.selects mX11_trace.1.cls mX11_trace.1 mX11_trace.1 ∈ TBg := ⟨tb_g 933 (by decide +kernel) rfl, tb_g 934 (by decide +kernel) rfl⟩
set_option maxRecDepth 20000 in
theorem q_X11_trace : Cond.code mX11_trace.1 mX11_trace.2.1 mX11_trace.2.2.1 mX11_trace.2.2.2 ∈ TBg ∧ Cond.initialized mX11_trace.1.cls ∈ TBg ∧ (mX11_trace.1.cls ≠ "java/lang/invoke/MethodHandle" ∧ mX11_trace.1.cls ≠ "java/lang/invoke/VarHandle" ∧ (parseMethodDescriptor mX11_trace.1.desc).map (fun d => d.parameters.length) = some 1) := ⟨tb_g 935 rfl rfl, tb_g 110 (by decide +kernel) rfl, by decide +kernel⟩
theorem c_L_156 : CkM RL 156 mX11_trace 1 := ⟨q_X11_trace.1, q_X11_trace.2.1, q_X11_trace.2.2, Or.inl (tb_g 932 (by decide +kernel) rfl)⟩
theorem k_X11_sheet : Cond.instanceMethod mX11_sheet.1 ∈ TBg ∧ Cond.selects mX11_sheet.1.cls mX11_sheet.1 mX11_sheet.1 ∈ TBg := ⟨tb_g 937 (by decide +kernel) rfl, tb_g 938 (by decide +kernel) rfl⟩
set_option maxRecDepth 20000 in
theorem q_X11_sheet : Cond.code mX11_sheet.1 mX11_sheet.2.1 mX11_sheet.2.2.1 mX11_sheet.2.2.2 ∈ TBg ∧ Cond.initialized mX11_sheet.1.cls ∈ TBg ∧ (mX11_sheet.1.cls ≠ "java/lang/invoke/MethodHandle" ∧ mX11_sheet.1.cls ≠ "java/lang/invoke/VarHandle" ∧ (parseMethodDescriptor mX11_sheet.1.desc).map (fun d => d.parameters.length) = some 3) := ⟨tb_g 939 rfl rfl, tb_g 110 (by decide +kernel) rfl, by decide +kernel⟩
theorem c_L_160 : CkM RL 160 mX11_sheet 3 := ⟨q_X11_sheet.1, q_X11_sheet.2.1, q_X11_sheet.2.2, Or.inl (tb_g 936 (by decide +kernel) rfl)⟩
theorem k_X11_isSheet : Cond.static mX11_isSheet.1 ∈ TBg := tb_g 941 (by decide +kernel) rfl
set_option maxRecDepth 20000 in
theorem q_X11_isSheet : Cond.code mX11_isSheet.1 mX11_isSheet.2.1 mX11_isSheet.2.2.1 mX11_isSheet.2.2.2 ∈ TBg ∧ Cond.initialized mX11_isSheet.1.cls ∈ TBg ∧ (mX11_isSheet.1.cls ≠ "java/lang/invoke/MethodHandle" ∧ mX11_isSheet.1.cls ≠ "java/lang/invoke/VarHandle" ∧ (parseMethodDescriptor mX11_isSheet.1.desc).map (fun d => d.parameters.length) = some 1) := ⟨tb_g 942 rfl rfl, tb_g 110 (by decide +kernel) rfl, by decide +kernel⟩
theorem c_X11_325 : CkM RX11 325 mX11_isSheet 1 := ⟨q_X11_isSheet.1, q_X11_isSheet.2.1, q_X11_isSheet.2.2, Or.inl (tb_g 940 (by decide +kernel) rfl)⟩
theorem k_X6_begin : Cond.instanceMethod mX6_begin.1 ∈ TBg ∧ Cond.selects mX6_begin.1.cls mX6_begin.1 mX6_begin.1 ∈ TBg := ⟨tb_g 945 (by decide +kernel) rfl, tb_g 60 (by decide +kernel) rfl⟩
set_option maxRecDepth 20000 in
theorem q_X6_begin : Cond.code mX6_begin.1 mX6_begin.2.1 mX6_begin.2.2.1 mX6_begin.2.2.2 ∈ TBg ∧ Cond.initialized mX6_begin.1.cls ∈ TBg ∧ (mX6_begin.1.cls ≠ "java/lang/invoke/MethodHandle" ∧ mX6_begin.1.cls ≠ "java/lang/invoke/VarHandle" ∧ (parseMethodDescriptor mX6_begin.1.desc).map (fun d => d.parameters.length) = some 2) := ⟨tb_g 946 rfl rfl, tb_g 122 (by decide +kernel) rfl, by decide +kernel⟩
theorem c_X11_328 : CkM RX11 328 mX6_begin 2 := ⟨q_X6_begin.1, q_X6_begin.2.1, q_X6_begin.2.2, Or.inr ⟨"RiverSteamers", tb_n 943 (by decide +kernel) rfl⟩⟩
theorem c_X6_22 : CkM RX6 22 mJ_fill 2 := ⟨q_J_fill.1, q_J_fill.2.1, q_J_fill.2.2, Or.inl (tb_g 947 (by decide +kernel) rfl)⟩
theorem k_X11_cell : Cond.instanceMethod mX11_cell.1 ∈ TBg ∧ Cond.selects mX11_cell.1.cls mX11_cell.1 mX11_cell.1 ∈ TBg := ⟨tb_g 949 (by decide +kernel) rfl, tb_g 950 (by decide +kernel) rfl⟩
set_option maxRecDepth 20000 in
theorem q_X11_cell : Cond.code mX11_cell.1 mX11_cell.2.1 mX11_cell.2.2.1 mX11_cell.2.2.2 ∈ TBg ∧ Cond.initialized mX11_cell.1.cls ∈ TBg ∧ (mX11_cell.1.cls ≠ "java/lang/invoke/MethodHandle" ∧ mX11_cell.1.cls ≠ "java/lang/invoke/VarHandle" ∧ (parseMethodDescriptor mX11_cell.1.desc).map (fun d => d.parameters.length) = some 3) := ⟨tb_g 951 rfl rfl, tb_g 110 (by decide +kernel) rfl, by decide +kernel⟩
theorem c_L_164 : CkM RL 164 mX11_cell 3 := ⟨q_X11_cell.1, q_X11_cell.2.1, q_X11_cell.2.2, Or.inl (tb_g 948 (by decide +kernel) rfl)⟩
theorem k_X6_isMissing : Cond.instanceMethod mX6_isMissing.1 ∈ TBg ∧ Cond.selects mX6_isMissing.1.cls mX6_isMissing.1 mX6_isMissing.1 ∈ TBg := ⟨tb_g 954 (by decide +kernel) rfl, tb_g 61 (by decide +kernel) rfl⟩
set_option maxRecDepth 20000 in
theorem q_X6_isMissing : Cond.code mX6_isMissing.1 mX6_isMissing.2.1 mX6_isMissing.2.2.1 mX6_isMissing.2.2.2 ∈ TBg ∧ Cond.initialized mX6_isMissing.1.cls ∈ TBg ∧ (mX6_isMissing.1.cls ≠ "java/lang/invoke/MethodHandle" ∧ mX6_isMissing.1.cls ≠ "java/lang/invoke/VarHandle" ∧ (parseMethodDescriptor mX6_isMissing.1.desc).map (fun d => d.parameters.length) = some 0) := ⟨tb_g 955 rfl rfl, tb_g 122 (by decide +kernel) rfl, by decide +kernel⟩
theorem c_X11_330 : CkM RX11 330 mX6_isMissing 0 := ⟨q_X6_isMissing.1, q_X6_isMissing.2.1, q_X6_isMissing.2.2, Or.inr ⟨"RiverSteamers", tb_n 952 (by decide +kernel) rfl⟩⟩
theorem k_X6_hasPlace : Cond.instanceMethod mX6_hasPlace.1 ∈ TBg ∧ Cond.selects mX6_hasPlace.1.cls mX6_hasPlace.1 mX6_hasPlace.1 ∈ TBg := ⟨tb_g 958 (by decide +kernel) rfl, tb_g 62 (by decide +kernel) rfl⟩
set_option maxRecDepth 20000 in
theorem q_X6_hasPlace : Cond.code mX6_hasPlace.1 mX6_hasPlace.2.1 mX6_hasPlace.2.2.1 mX6_hasPlace.2.2.2 ∈ TBg ∧ Cond.initialized mX6_hasPlace.1.cls ∈ TBg ∧ (mX6_hasPlace.1.cls ≠ "java/lang/invoke/MethodHandle" ∧ mX6_hasPlace.1.cls ≠ "java/lang/invoke/VarHandle" ∧ (parseMethodDescriptor mX6_hasPlace.1.desc).map (fun d => d.parameters.length) = some 1) := ⟨tb_g 959 rfl rfl, tb_g 122 (by decide +kernel) rfl, by decide +kernel⟩
theorem c_X11_333 : CkM RX11 333 mX6_hasPlace 1 := ⟨q_X6_hasPlace.1, q_X6_hasPlace.2.1, q_X6_hasPlace.2.2, Or.inr ⟨"RiverSteamers", tb_n 956 (by decide +kernel) rfl⟩⟩
theorem c_X6_28 : CkM RX6 28 mX11_isWithin 3 := ⟨q_X11_isWithin.1, q_X11_isWithin.2.1, q_X11_isWithin.2.2, Or.inr ⟨"RiverSteamers", tb_n 960 (by decide +kernel) rfl⟩⟩
theorem k_X6_put : Cond.instanceMethod mX6_put.1 ∈ TBg ∧ Cond.selects mX6_put.1.cls mX6_put.1 mX6_put.1 ∈ TBg := ⟨tb_g 963 (by decide +kernel) rfl, tb_g 63 (by decide +kernel) rfl⟩
set_option maxRecDepth 20000 in
theorem q_X6_put : Cond.code mX6_put.1 mX6_put.2.1 mX6_put.2.2.1 mX6_put.2.2.2 ∈ TBg ∧ Cond.initialized mX6_put.1.cls ∈ TBg ∧ (mX6_put.1.cls ≠ "java/lang/invoke/MethodHandle" ∧ mX6_put.1.cls ≠ "java/lang/invoke/VarHandle" ∧ (parseMethodDescriptor mX6_put.1.desc).map (fun d => d.parameters.length) = some 2) := ⟨tb_g 964 rfl rfl, tb_g 122 (by decide +kernel) rfl, by decide +kernel⟩
theorem c_X11_336 : CkM RX11 336 mX6_put 2 := ⟨q_X6_put.1, q_X6_put.2.1, q_X6_put.2.2, Or.inr ⟨"RiverSteamers", tb_n 961 (by decide +kernel) rfl⟩⟩
theorem k_X11_none : Cond.instanceMethod mX11_none.1 ∈ TBg ∧ Cond.selects mX11_none.1.cls mX11_none.1 mX11_none.1 ∈ TBg := ⟨tb_g 966 (by decide +kernel) rfl, tb_g 967 (by decide +kernel) rfl⟩
set_option maxRecDepth 20000 in
theorem q_X11_none : Cond.code mX11_none.1 mX11_none.2.1 mX11_none.2.2.1 mX11_none.2.2.2 ∈ TBg ∧ Cond.initialized mX11_none.1.cls ∈ TBg ∧ (mX11_none.1.cls ≠ "java/lang/invoke/MethodHandle" ∧ mX11_none.1.cls ≠ "java/lang/invoke/VarHandle" ∧ (parseMethodDescriptor mX11_none.1.desc).map (fun d => d.parameters.length) = some 2) := ⟨tb_g 968 rfl rfl, tb_g 110 (by decide +kernel) rfl, by decide +kernel⟩
theorem c_L_168 : CkM RL 168 mX11_none 2 := ⟨q_X11_none.1, q_X11_none.2.1, q_X11_none.2.2, Or.inl (tb_g 965 (by decide +kernel) rfl)⟩
theorem k_X6_faultAs : Cond.instanceMethod mX6_faultAs.1 ∈ TBg ∧ Cond.selects mX6_faultAs.1.cls mX6_faultAs.1 mX6_faultAs.1 ∈ TBg := ⟨tb_g 971 (by decide +kernel) rfl, tb_g 64 (by decide +kernel) rfl⟩
set_option maxRecDepth 20000 in
theorem q_X6_faultAs : Cond.code mX6_faultAs.1 mX6_faultAs.2.1 mX6_faultAs.2.2.1 mX6_faultAs.2.2.2 ∈ TBg ∧ Cond.initialized mX6_faultAs.1.cls ∈ TBg ∧ (mX6_faultAs.1.cls ≠ "java/lang/invoke/MethodHandle" ∧ mX6_faultAs.1.cls ≠ "java/lang/invoke/VarHandle" ∧ (parseMethodDescriptor mX6_faultAs.1.desc).map (fun d => d.parameters.length) = some 1) := ⟨tb_g 972 rfl rfl, tb_g 122 (by decide +kernel) rfl, by decide +kernel⟩
theorem c_X11_339 : CkM RX11 339 mX6_faultAs 1 := ⟨q_X6_faultAs.1, q_X6_faultAs.2.1, q_X6_faultAs.2.2, Or.inr ⟨"RiverSteamers", tb_n 969 (by decide +kernel) rfl⟩⟩
theorem c_X6_32 : CkM RX6 32 mX6_isMissing 0 := ⟨q_X6_isMissing.1, q_X6_isMissing.2.1, q_X6_isMissing.2.2, Or.inl (tb_g 973 (by decide +kernel) rfl)⟩
theorem k_X11_gauges : Cond.instanceMethod mX11_gauges.1 ∈ TBg ∧ Cond.selects mX11_gauges.1.cls mX11_gauges.1 mX11_gauges.1 ∈ TBg := ⟨tb_g 975 (by decide +kernel) rfl, tb_g 976 (by decide +kernel) rfl⟩
set_option maxRecDepth 20000 in
theorem q_X11_gauges : Cond.code mX11_gauges.1 mX11_gauges.2.1 mX11_gauges.2.2.1 mX11_gauges.2.2.2 ∈ TBg ∧ Cond.initialized mX11_gauges.1.cls ∈ TBg ∧ (mX11_gauges.1.cls ≠ "java/lang/invoke/MethodHandle" ∧ mX11_gauges.1.cls ≠ "java/lang/invoke/VarHandle" ∧ (parseMethodDescriptor mX11_gauges.1.desc).map (fun d => d.parameters.length) = some 4) := ⟨tb_g 977 rfl rfl, tb_g 110 (by decide +kernel) rfl, by decide +kernel⟩
theorem c_L_172 : CkM RL 172 mX11_gauges 4 := ⟨q_X11_gauges.1, q_X11_gauges.2.1, q_X11_gauges.2.2, Or.inl (tb_g 974 (by decide +kernel) rfl)⟩
theorem k_X11_tellFromFloat : Cond.instanceMethod mX11_tellFromFloat.1 ∈ TBg ∧ Cond.selects mX11_tellFromFloat.1.cls mX11_tellFromFloat.1 mX11_tellFromFloat.1 ∈ TBg := ⟨tb_g 980 (by decide +kernel) rfl, tb_g 65 (by decide +kernel) rfl⟩
set_option maxRecDepth 20000 in
theorem q_X11_tellFromFloat : Cond.code mX11_tellFromFloat.1 mX11_tellFromFloat.2.1 mX11_tellFromFloat.2.2.1 mX11_tellFromFloat.2.2.2 ∈ TBg ∧ Cond.initialized mX11_tellFromFloat.1.cls ∈ TBg ∧ (mX11_tellFromFloat.1.cls ≠ "java/lang/invoke/MethodHandle" ∧ mX11_tellFromFloat.1.cls ≠ "java/lang/invoke/VarHandle" ∧ (parseMethodDescriptor mX11_tellFromFloat.1.desc).map (fun d => d.parameters.length) = some 2) := ⟨tb_g 981 rfl rfl, tb_g 110 (by decide +kernel) rfl, by decide +kernel⟩
theorem c_X11_345 : CkM RX11 345 mX11_tellFromFloat 2 := ⟨q_X11_tellFromFloat.1, q_X11_tellFromFloat.2.1, q_X11_tellFromFloat.2.2, Or.inl (tb_g 978 (by decide +kernel) rfl)⟩
theorem k_X11_forge : Cond.instanceMethod mX11_forge.1 ∈ TBg ∧ Cond.selects mX11_forge.1.cls mX11_forge.1 mX11_forge.1 ∈ TBg := ⟨tb_g 983 (by decide +kernel) rfl, tb_g 984 (by decide +kernel) rfl⟩
set_option maxRecDepth 20000 in
theorem q_X11_forge : Cond.code mX11_forge.1 mX11_forge.2.1 mX11_forge.2.2.1 mX11_forge.2.2.2 ∈ TBg ∧ Cond.initialized mX11_forge.1.cls ∈ TBg ∧ (mX11_forge.1.cls ≠ "java/lang/invoke/MethodHandle" ∧ mX11_forge.1.cls ≠ "java/lang/invoke/VarHandle" ∧ (parseMethodDescriptor mX11_forge.1.desc).map (fun d => d.parameters.length) = some 3) := ⟨tb_g 985 rfl rfl, tb_g 110 (by decide +kernel) rfl, by decide +kernel⟩
theorem c_L_176 : CkM RL 176 mX11_forge 3 := ⟨q_X11_forge.1, q_X11_forge.2.1, q_X11_forge.2.2, Or.inl (tb_g 982 (by decide +kernel) rfl)⟩
theorem k_J_floorMod : Cond.static mJ_floorMod.1 ∈ TBg := tb_g 987 (by decide +kernel) rfl
set_option maxRecDepth 20000 in
theorem q_J_floorMod : Cond.code mJ_floorMod.1 mJ_floorMod.2.1 mJ_floorMod.2.2.1 mJ_floorMod.2.2.2 ∈ TBg ∧ Cond.initialized mJ_floorMod.1.cls ∈ TBg ∧ (mJ_floorMod.1.cls ≠ "java/lang/invoke/MethodHandle" ∧ mJ_floorMod.1.cls ≠ "java/lang/invoke/VarHandle" ∧ (parseMethodDescriptor mJ_floorMod.1.desc).map (fun d => d.parameters.length) = some 2) := ⟨tb_g 988 rfl rfl, tb_g 125 (by decide +kernel) rfl, by decide +kernel⟩
theorem c_X11_348 : CkM RX11 348 mJ_floorMod 2 := ⟨q_J_floorMod.1, q_J_floorMod.2.1, q_J_floorMod.2.2, Or.inl (tb_g 986 (by decide +kernel) rfl)⟩
theorem k_X11_forgeKind : Cond.instanceMethod mX11_forgeKind.1 ∈ TBg ∧ Cond.selects mX11_forgeKind.1.cls mX11_forgeKind.1 mX11_forgeKind.1 ∈ TBg := ⟨tb_g 991 (by decide +kernel) rfl, tb_g 66 (by decide +kernel) rfl⟩
set_option maxRecDepth 20000 in
theorem q_X11_forgeKind : Cond.code mX11_forgeKind.1 mX11_forgeKind.2.1 mX11_forgeKind.2.2.1 mX11_forgeKind.2.2.2 ∈ TBg ∧ Cond.initialized mX11_forgeKind.1.cls ∈ TBg ∧ (mX11_forgeKind.1.cls ≠ "java/lang/invoke/MethodHandle" ∧ mX11_forgeKind.1.cls ≠ "java/lang/invoke/VarHandle" ∧ (parseMethodDescriptor mX11_forgeKind.1.desc).map (fun d => d.parameters.length) = some 2) := ⟨tb_g 992 rfl rfl, tb_g 110 (by decide +kernel) rfl, by decide +kernel⟩
theorem c_X11_353 : CkM RX11 353 mX11_forgeKind 2 := ⟨q_X11_forgeKind.1, q_X11_forgeKind.2.1, q_X11_forgeKind.2.2, Or.inl (tb_g 989 (by decide +kernel) rfl)⟩
theorem k_X11_forgeShort : Cond.instanceMethod mX11_forgeShort.1 ∈ TBg ∧ Cond.selects mX11_forgeShort.1.cls mX11_forgeShort.1 mX11_forgeShort.1 ∈ TBg := ⟨tb_g 995 (by decide +kernel) rfl, tb_g 67 (by decide +kernel) rfl⟩
set_option maxRecDepth 20000 in
theorem q_X11_forgeShort : Cond.code mX11_forgeShort.1 mX11_forgeShort.2.1 mX11_forgeShort.2.2.1 mX11_forgeShort.2.2.2 ∈ TBg ∧ Cond.initialized mX11_forgeShort.1.cls ∈ TBg ∧ (mX11_forgeShort.1.cls ≠ "java/lang/invoke/MethodHandle" ∧ mX11_forgeShort.1.cls ≠ "java/lang/invoke/VarHandle" ∧ (parseMethodDescriptor mX11_forgeShort.1.desc).map (fun d => d.parameters.length) = some 2) := ⟨tb_g 996 rfl rfl, tb_g 110 (by decide +kernel) rfl, by decide +kernel⟩
theorem c_X11_356 : CkM RX11 356 mX11_forgeShort 2 := ⟨q_X11_forgeShort.1, q_X11_forgeShort.2.1, q_X11_forgeShort.2.2, Or.inl (tb_g 993 (by decide +kernel) rfl)⟩
theorem k_X11_forgeCopy : Cond.instanceMethod mX11_forgeCopy.1 ∈ TBg ∧ Cond.selects mX11_forgeCopy.1.cls mX11_forgeCopy.1 mX11_forgeCopy.1 ∈ TBg := ⟨tb_g 999 (by decide +kernel) rfl, tb_g 68 (by decide +kernel) rfl⟩
set_option maxRecDepth 20000 in
theorem q_X11_forgeCopy : Cond.code mX11_forgeCopy.1 mX11_forgeCopy.2.1 mX11_forgeCopy.2.2.1 mX11_forgeCopy.2.2.2 ∈ TBg ∧ Cond.initialized mX11_forgeCopy.1.cls ∈ TBg ∧ (mX11_forgeCopy.1.cls ≠ "java/lang/invoke/MethodHandle" ∧ mX11_forgeCopy.1.cls ≠ "java/lang/invoke/VarHandle" ∧ (parseMethodDescriptor mX11_forgeCopy.1.desc).map (fun d => d.parameters.length) = some 2) := ⟨tb_g 1000 rfl rfl, tb_g 110 (by decide +kernel) rfl, by decide +kernel⟩
theorem c_X11_360 : CkM RX11 360 mX11_forgeCopy 2 := ⟨q_X11_forgeCopy.1, q_X11_forgeCopy.2.1, q_X11_forgeCopy.2.2, Or.inl (tb_g 997 (by decide +kernel) rfl)⟩
theorem k_X11_forgeRow : Cond.instanceMethod mX11_forgeRow.1 ∈ TBg ∧ Cond.selects mX11_forgeRow.1.cls mX11_forgeRow.1 mX11_forgeRow.1 ∈ TBg := ⟨tb_g 1003 (by decide +kernel) rfl, tb_g 69 (by decide +kernel) rfl⟩
set_option maxRecDepth 20000 in
theorem q_X11_forgeRow : Cond.code mX11_forgeRow.1 mX11_forgeRow.2.1 mX11_forgeRow.2.2.1 mX11_forgeRow.2.2.2 ∈ TBg ∧ Cond.initialized mX11_forgeRow.1.cls ∈ TBg ∧ (mX11_forgeRow.1.cls ≠ "java/lang/invoke/MethodHandle" ∧ mX11_forgeRow.1.cls ≠ "java/lang/invoke/VarHandle" ∧ (parseMethodDescriptor mX11_forgeRow.1.desc).map (fun d => d.parameters.length) = some 1) := ⟨tb_g 1004 rfl rfl, tb_g 110 (by decide +kernel) rfl, by decide +kernel⟩
theorem c_X11_363 : CkM RX11 363 mX11_forgeRow 1 := ⟨q_X11_forgeRow.1, q_X11_forgeRow.2.1, q_X11_forgeRow.2.2, Or.inl (tb_g 1001 (by decide +kernel) rfl)⟩
theorem k_X11_status : Cond.instanceMethod mX11_status.1 ∈ TBg ∧ Cond.selects mX11_status.1.cls mX11_status.1 mX11_status.1 ∈ TBg := ⟨tb_g 1006 (by decide +kernel) rfl, tb_g 1007 (by decide +kernel) rfl⟩
set_option maxRecDepth 20000 in
theorem q_X11_status : Cond.code mX11_status.1 mX11_status.2.1 mX11_status.2.2.1 mX11_status.2.2.2 ∈ TBg ∧ Cond.initialized mX11_status.1.cls ∈ TBg ∧ (mX11_status.1.cls ≠ "java/lang/invoke/MethodHandle" ∧ mX11_status.1.cls ≠ "java/lang/invoke/VarHandle" ∧ (parseMethodDescriptor mX11_status.1.desc).map (fun d => d.parameters.length) = some 0) := ⟨tb_g 1008 rfl rfl, tb_g 110 (by decide +kernel) rfl, by decide +kernel⟩
theorem c_L_180 : CkM RL 180 mX11_status 0 := ⟨q_X11_status.1, q_X11_status.2.1, q_X11_status.2.2, Or.inl (tb_g 1005 (by decide +kernel) rfl)⟩
theorem k_X12_init : Cond.instanceMethod mX12_init.1 ∈ TBg := tb_g 1012 (by decide +kernel) rfl
set_option maxRecDepth 20000 in
theorem q_X12_init : Cond.code mX12_init.1 mX12_init.2.1 mX12_init.2.2.1 mX12_init.2.2.2 ∈ TBg ∧ Cond.initialized mX12_init.1.cls ∈ TBg ∧ (mX12_init.1.cls ≠ "java/lang/invoke/MethodHandle" ∧ mX12_init.1.cls ≠ "java/lang/invoke/VarHandle" ∧ (parseMethodDescriptor mX12_init.1.desc).map (fun d => d.parameters.length) = some 0) := ⟨tb_g 1013 rfl rfl, tb_g 123 (by decide +kernel) rfl, by decide +kernel⟩
theorem c_L_12 : CkM RL 12 mX12_init 0 := ⟨q_X12_init.1, q_X12_init.2.1, q_X12_init.2.2, Or.inl (tb_g 1011 (by decide +kernel) rfl)⟩
set_option maxRecDepth 20000 in
theorem c_X12_1 : Cond.methodLink RX12 1 Lib.objectInit ∈ TBg ∧ Cond.instanceMethod Lib.objectInit ∈ TBg ∧ Cond.code Lib.objectInit ⟨#[0xb1]⟩ 1 none ∈ TBg := ⟨tb_g 1014 (by decide +kernel) rfl, tb_g 133 (by decide +kernel) rfl, tb_g 134 rfl rfl⟩
theorem k_X12_stretch : Cond.instanceMethod mX12_stretch.1 ∈ TBg ∧ Cond.selects mX12_stretch.1.cls mX12_stretch.1 mX12_stretch.1 ∈ TBg := ⟨tb_g 1209 (by decide +kernel) rfl, tb_g 1210 (by decide +kernel) rfl⟩
set_option maxRecDepth 20000 in
theorem q_X12_stretch : Cond.code mX12_stretch.1 mX12_stretch.2.1 mX12_stretch.2.2.1 mX12_stretch.2.2.2 ∈ TBg ∧ Cond.initialized mX12_stretch.1.cls ∈ TBg ∧ (mX12_stretch.1.cls ≠ "java/lang/invoke/MethodHandle" ∧ mX12_stretch.1.cls ≠ "java/lang/invoke/VarHandle" ∧ (parseMethodDescriptor mX12_stretch.1.desc).map (fun d => d.parameters.length) = some 3) := ⟨tb_g 1211 rfl rfl, tb_g 123 (by decide +kernel) rfl, by decide +kernel⟩
theorem c_L_17 : CkM RL 17 mX12_stretch 3 := ⟨q_X12_stretch.1, q_X12_stretch.2.1, q_X12_stretch.2.2, Or.inl (tb_g 1208 (by decide +kernel) rfl)⟩
theorem k_X12_in : Cond.static mX12_in.1 ∈ TBg := tb_g 1213 (by decide +kernel) rfl
set_option maxRecDepth 20000 in
theorem q_X12_in : Cond.code mX12_in.1 mX12_in.2.1 mX12_in.2.2.1 mX12_in.2.2.2 ∈ TBg ∧ Cond.initialized mX12_in.1.cls ∈ TBg ∧ (mX12_in.1.cls ≠ "java/lang/invoke/MethodHandle" ∧ mX12_in.1.cls ≠ "java/lang/invoke/VarHandle" ∧ (parseMethodDescriptor mX12_in.1.desc).map (fun d => d.parameters.length) = some 3) := ⟨tb_g 1214 rfl rfl, tb_g 123 (by decide +kernel) rfl, by decide +kernel⟩
theorem c_X12_174 : CkM RX12 174 mX12_in 3 := ⟨q_X12_in.1, q_X12_in.2.1, q_X12_in.2.2, Or.inl (tb_g 1212 (by decide +kernel) rfl)⟩
theorem k_X12_refused : Cond.instanceMethod mX12_refused.1 ∈ TBg ∧ Cond.selects mX12_refused.1.cls mX12_refused.1 mX12_refused.1 ∈ TBg := ⟨tb_g 1217 (by decide +kernel) rfl, tb_g 70 (by decide +kernel) rfl⟩
set_option maxRecDepth 20000 in
theorem q_X12_refused : Cond.code mX12_refused.1 mX12_refused.2.1 mX12_refused.2.2.1 mX12_refused.2.2.2 ∈ TBg ∧ Cond.initialized mX12_refused.1.cls ∈ TBg ∧ (mX12_refused.1.cls ≠ "java/lang/invoke/MethodHandle" ∧ mX12_refused.1.cls ≠ "java/lang/invoke/VarHandle" ∧ (parseMethodDescriptor mX12_refused.1.desc).map (fun d => d.parameters.length) = some 1) := ⟨tb_g 1218 rfl rfl, tb_g 123 (by decide +kernel) rfl, by decide +kernel⟩
theorem c_X12_187 : CkM RX12 187 mX12_refused 1 := ⟨q_X12_refused.1, q_X12_refused.2.1, q_X12_refused.2.2, Or.inl (tb_g 1215 (by decide +kernel) rfl)⟩
theorem k_X12_done : Cond.instanceMethod mX12_done.1 ∈ TBg ∧ Cond.selects mX12_done.1.cls mX12_done.1 mX12_done.1 ∈ TBg := ⟨tb_g 1221 (by decide +kernel) rfl, tb_g 71 (by decide +kernel) rfl⟩
set_option maxRecDepth 20000 in
theorem q_X12_done : Cond.code mX12_done.1 mX12_done.2.1 mX12_done.2.2.1 mX12_done.2.2.2 ∈ TBg ∧ Cond.initialized mX12_done.1.cls ∈ TBg ∧ (mX12_done.1.cls ≠ "java/lang/invoke/MethodHandle" ∧ mX12_done.1.cls ≠ "java/lang/invoke/VarHandle" ∧ (parseMethodDescriptor mX12_done.1.desc).map (fun d => d.parameters.length) = some 1) := ⟨tb_g 1222 rfl rfl, tb_g 123 (by decide +kernel) rfl, by decide +kernel⟩
theorem c_X12_191 : CkM RX12 191 mX12_done 1 := ⟨q_X12_done.1, q_X12_done.2.1, q_X12_done.2.2, Or.inl (tb_g 1219 (by decide +kernel) rfl)⟩
theorem k_X12_gauge : Cond.instanceMethod mX12_gauge.1 ∈ TBg ∧ Cond.selects mX12_gauge.1.cls mX12_gauge.1 mX12_gauge.1 ∈ TBg := ⟨tb_g 1224 (by decide +kernel) rfl, tb_g 1225 (by decide +kernel) rfl⟩
set_option maxRecDepth 20000 in
theorem q_X12_gauge : Cond.code mX12_gauge.1 mX12_gauge.2.1 mX12_gauge.2.2.1 mX12_gauge.2.2.2 ∈ TBg ∧ Cond.initialized mX12_gauge.1.cls ∈ TBg ∧ (mX12_gauge.1.cls ≠ "java/lang/invoke/MethodHandle" ∧ mX12_gauge.1.cls ≠ "java/lang/invoke/VarHandle" ∧ (parseMethodDescriptor mX12_gauge.1.desc).map (fun d => d.parameters.length) = some 2) := ⟨tb_g 1226 rfl rfl, tb_g 123 (by decide +kernel) rfl, by decide +kernel⟩
theorem c_L_22 : CkM RL 22 mX12_gauge 2 := ⟨q_X12_gauge.1, q_X12_gauge.2.1, q_X12_gauge.2.2, Or.inl (tb_g 1223 (by decide +kernel) rfl)⟩
theorem k_X12_isDay : Cond.static mX12_isDay.1 ∈ TBg := tb_g 1228 (by decide +kernel) rfl
set_option maxRecDepth 20000 in
theorem q_X12_isDay : Cond.code mX12_isDay.1 mX12_isDay.2.1 mX12_isDay.2.2.1 mX12_isDay.2.2.2 ∈ TBg ∧ Cond.initialized mX12_isDay.1.cls ∈ TBg ∧ (mX12_isDay.1.cls ≠ "java/lang/invoke/MethodHandle" ∧ mX12_isDay.1.cls ≠ "java/lang/invoke/VarHandle" ∧ (parseMethodDescriptor mX12_isDay.1.desc).map (fun d => d.parameters.length) = some 1) := ⟨tb_g 1229 rfl rfl, tb_g 123 (by decide +kernel) rfl, by decide +kernel⟩
theorem c_X12_194 : CkM RX12 194 mX12_isDay 1 := ⟨q_X12_isDay.1, q_X12_isDay.2.1, q_X12_isDay.2.2, Or.inl (tb_g 1227 (by decide +kernel) rfl)⟩
theorem k_X12_told : Cond.instanceMethod mX12_told.1 ∈ TBg ∧ Cond.selects mX12_told.1.cls mX12_told.1 mX12_told.1 ∈ TBg := ⟨tb_g 1232 (by decide +kernel) rfl, tb_g 72 (by decide +kernel) rfl⟩
set_option maxRecDepth 20000 in
theorem q_X12_told : Cond.code mX12_told.1 mX12_told.2.1 mX12_told.2.2.1 mX12_told.2.2.2 ∈ TBg ∧ Cond.initialized mX12_told.1.cls ∈ TBg ∧ (mX12_told.1.cls ≠ "java/lang/invoke/MethodHandle" ∧ mX12_told.1.cls ≠ "java/lang/invoke/VarHandle" ∧ (parseMethodDescriptor mX12_told.1.desc).map (fun d => d.parameters.length) = some 0) := ⟨tb_g 1233 rfl rfl, tb_g 123 (by decide +kernel) rfl, by decide +kernel⟩
theorem c_X12_198 : CkM RX12 198 mX12_told 0 := ⟨q_X12_told.1, q_X12_told.2.1, q_X12_told.2.2, Or.inl (tb_g 1230 (by decide +kernel) rfl)⟩
theorem k_X12_shift : Cond.instanceMethod mX12_shift.1 ∈ TBg ∧ Cond.selects mX12_shift.1.cls mX12_shift.1 mX12_shift.1 ∈ TBg := ⟨tb_g 1235 (by decide +kernel) rfl, tb_g 1236 (by decide +kernel) rfl⟩
set_option maxRecDepth 20000 in
theorem q_X12_shift : Cond.code mX12_shift.1 mX12_shift.2.1 mX12_shift.2.2.1 mX12_shift.2.2.2 ∈ TBg ∧ Cond.initialized mX12_shift.1.cls ∈ TBg ∧ (mX12_shift.1.cls ≠ "java/lang/invoke/MethodHandle" ∧ mX12_shift.1.cls ≠ "java/lang/invoke/VarHandle" ∧ (parseMethodDescriptor mX12_shift.1.desc).map (fun d => d.parameters.length) = some 3) := ⟨tb_g 1237 rfl rfl, tb_g 123 (by decide +kernel) rfl, by decide +kernel⟩
theorem c_L_26 : CkM RL 26 mX12_shift 3 := ⟨q_X12_shift.1, q_X12_shift.2.1, q_X12_shift.2.2, Or.inl (tb_g 1234 (by decide +kernel) rfl)⟩
theorem k_X12_isStretch : Cond.instanceMethod mX12_isStretch.1 ∈ TBg ∧ Cond.selects mX12_isStretch.1.cls mX12_isStretch.1 mX12_isStretch.1 ∈ TBg := ⟨tb_g 1240 (by decide +kernel) rfl, tb_g 73 (by decide +kernel) rfl⟩
set_option maxRecDepth 20000 in
theorem q_X12_isStretch : Cond.code mX12_isStretch.1 mX12_isStretch.2.1 mX12_isStretch.2.2.1 mX12_isStretch.2.2.2 ∈ TBg ∧ Cond.initialized mX12_isStretch.1.cls ∈ TBg ∧ (mX12_isStretch.1.cls ≠ "java/lang/invoke/MethodHandle" ∧ mX12_isStretch.1.cls ≠ "java/lang/invoke/VarHandle" ∧ (parseMethodDescriptor mX12_isStretch.1.desc).map (fun d => d.parameters.length) = some 1) := ⟨tb_g 1241 rfl rfl, tb_g 123 (by decide +kernel) rfl, by decide +kernel⟩
theorem c_X12_202 : CkM RX12 202 mX12_isStretch 1 := ⟨q_X12_isStretch.1, q_X12_isStretch.2.1, q_X12_isStretch.2.2, Or.inl (tb_g 1238 (by decide +kernel) rfl)⟩
theorem k_X12_isBar : Cond.instanceMethod mX12_isBar.1 ∈ TBg ∧ Cond.selects mX12_isBar.1.cls mX12_isBar.1 mX12_isBar.1 ∈ TBg := ⟨tb_g 1244 (by decide +kernel) rfl, tb_g 74 (by decide +kernel) rfl⟩
set_option maxRecDepth 20000 in
theorem q_X12_isBar : Cond.code mX12_isBar.1 mX12_isBar.2.1 mX12_isBar.2.2.1 mX12_isBar.2.2.2 ∈ TBg ∧ Cond.initialized mX12_isBar.1.cls ∈ TBg ∧ (mX12_isBar.1.cls ≠ "java/lang/invoke/MethodHandle" ∧ mX12_isBar.1.cls ≠ "java/lang/invoke/VarHandle" ∧ (parseMethodDescriptor mX12_isBar.1.desc).map (fun d => d.parameters.length) = some 1) := ⟨tb_g 1245 rfl rfl, tb_g 123 (by decide +kernel) rfl, by decide +kernel⟩
theorem c_X12_205 : CkM RX12 205 mX12_isBar 1 := ⟨q_X12_isBar.1, q_X12_isBar.2.1, q_X12_isBar.2.2, Or.inl (tb_g 1242 (by decide +kernel) rfl)⟩
theorem k_X12_cold : Cond.instanceMethod mX12_cold.1 ∈ TBg ∧ Cond.selects mX12_cold.1.cls mX12_cold.1 mX12_cold.1 ∈ TBg := ⟨tb_g 1247 (by decide +kernel) rfl, tb_g 1248 (by decide +kernel) rfl⟩
set_option maxRecDepth 20000 in
theorem q_X12_cold : Cond.code mX12_cold.1 mX12_cold.2.1 mX12_cold.2.2.1 mX12_cold.2.2.2 ∈ TBg ∧ Cond.initialized mX12_cold.1.cls ∈ TBg ∧ (mX12_cold.1.cls ≠ "java/lang/invoke/MethodHandle" ∧ mX12_cold.1.cls ≠ "java/lang/invoke/VarHandle" ∧ (parseMethodDescriptor mX12_cold.1.desc).map (fun d => d.parameters.length) = some 2) := ⟨tb_g 1249 rfl rfl, tb_g 123 (by decide +kernel) rfl, by decide +kernel⟩
theorem c_L_31 : CkM RL 31 mX12_cold 2 := ⟨q_X12_cold.1, q_X12_cold.2.1, q_X12_cold.2.2, Or.inl (tb_g 1246 (by decide +kernel) rfl)⟩
theorem k_X12_light : Cond.instanceMethod mX12_light.1 ∈ TBg ∧ Cond.selects mX12_light.1.cls mX12_light.1 mX12_light.1 ∈ TBg := ⟨tb_g 1251 (by decide +kernel) rfl, tb_g 1252 (by decide +kernel) rfl⟩
set_option maxRecDepth 20000 in
theorem q_X12_light : Cond.code mX12_light.1 mX12_light.2.1 mX12_light.2.2.1 mX12_light.2.2.2 ∈ TBg ∧ Cond.initialized mX12_light.1.cls ∈ TBg ∧ (mX12_light.1.cls ≠ "java/lang/invoke/MethodHandle" ∧ mX12_light.1.cls ≠ "java/lang/invoke/VarHandle" ∧ (parseMethodDescriptor mX12_light.1.desc).map (fun d => d.parameters.length) = some 2) := ⟨tb_g 1253 rfl rfl, tb_g 123 (by decide +kernel) rfl, by decide +kernel⟩
theorem c_L_35 : CkM RL 35 mX12_light 2 := ⟨q_X12_light.1, q_X12_light.2.1, q_X12_light.2.2, Or.inl (tb_g 1250 (by decide +kernel) rfl)⟩
theorem k_X12_height : Cond.instanceMethod mX12_height.1 ∈ TBg ∧ Cond.selects mX12_height.1.cls mX12_height.1 mX12_height.1 ∈ TBg := ⟨tb_g 1255 (by decide +kernel) rfl, tb_g 1256 (by decide +kernel) rfl⟩
set_option maxRecDepth 20000 in
theorem q_X12_height : Cond.code mX12_height.1 mX12_height.2.1 mX12_height.2.2.1 mX12_height.2.2.2 ∈ TBg ∧ Cond.initialized mX12_height.1.cls ∈ TBg ∧ (mX12_height.1.cls ≠ "java/lang/invoke/MethodHandle" ∧ mX12_height.1.cls ≠ "java/lang/invoke/VarHandle" ∧ (parseMethodDescriptor mX12_height.1.desc).map (fun d => d.parameters.length) = some 1) := ⟨tb_g 1257 rfl rfl, tb_g 123 (by decide +kernel) rfl, by decide +kernel⟩
theorem c_L_98 : CkM RL 98 mX12_height 1 := ⟨q_X12_height.1, q_X12_height.2.1, q_X12_height.2.2, Or.inl (tb_g 1254 (by decide +kernel) rfl)⟩
theorem k_X12_heightOf : Cond.instanceMethod mX12_heightOf.1 ∈ TBg ∧ Cond.selects mX12_heightOf.1.cls mX12_heightOf.1 mX12_heightOf.1 ∈ TBg := ⟨tb_g 1260 (by decide +kernel) rfl, tb_g 75 (by decide +kernel) rfl⟩
set_option maxRecDepth 20000 in
theorem q_X12_heightOf : Cond.code mX12_heightOf.1 mX12_heightOf.2.1 mX12_heightOf.2.2.1 mX12_heightOf.2.2.2 ∈ TBg ∧ Cond.initialized mX12_heightOf.1.cls ∈ TBg ∧ (mX12_heightOf.1.cls ≠ "java/lang/invoke/MethodHandle" ∧ mX12_heightOf.1.cls ≠ "java/lang/invoke/VarHandle" ∧ (parseMethodDescriptor mX12_heightOf.1.desc).map (fun d => d.parameters.length) = some 1) := ⟨tb_g 1261 rfl rfl, tb_g 123 (by decide +kernel) rfl, by decide +kernel⟩
theorem c_X12_208 : CkM RX12 208 mX12_heightOf 1 := ⟨q_X12_heightOf.1, q_X12_heightOf.2.1, q_X12_heightOf.2.2, Or.inl (tb_g 1258 (by decide +kernel) rfl)⟩
theorem k_X12_water : Cond.instanceMethod mX12_water.1 ∈ TBg ∧ Cond.selects mX12_water.1.cls mX12_water.1 mX12_water.1 ∈ TBg := ⟨tb_g 1263 (by decide +kernel) rfl, tb_g 1264 (by decide +kernel) rfl⟩
set_option maxRecDepth 20000 in
theorem q_X12_water : Cond.code mX12_water.1 mX12_water.2.1 mX12_water.2.2.1 mX12_water.2.2.2 ∈ TBg ∧ Cond.initialized mX12_water.1.cls ∈ TBg ∧ (mX12_water.1.cls ≠ "java/lang/invoke/MethodHandle" ∧ mX12_water.1.cls ≠ "java/lang/invoke/VarHandle" ∧ (parseMethodDescriptor mX12_water.1.desc).map (fun d => d.parameters.length) = some 2) := ⟨tb_g 1265 rfl rfl, tb_g 123 (by decide +kernel) rfl, by decide +kernel⟩
theorem c_L_106 : CkM RL 106 mX12_water 2 := ⟨q_X12_water.1, q_X12_water.2.1, q_X12_water.2.2, Or.inl (tb_g 1262 (by decide +kernel) rfl)⟩
theorem k_X12_waterOf : Cond.instanceMethod mX12_waterOf.1 ∈ TBg ∧ Cond.selects mX12_waterOf.1.cls mX12_waterOf.1 mX12_waterOf.1 ∈ TBg := ⟨tb_g 1268 (by decide +kernel) rfl, tb_g 76 (by decide +kernel) rfl⟩
set_option maxRecDepth 20000 in
theorem q_X12_waterOf : Cond.code mX12_waterOf.1 mX12_waterOf.2.1 mX12_waterOf.2.2.1 mX12_waterOf.2.2.2 ∈ TBg ∧ Cond.initialized mX12_waterOf.1.cls ∈ TBg ∧ (mX12_waterOf.1.cls ≠ "java/lang/invoke/MethodHandle" ∧ mX12_waterOf.1.cls ≠ "java/lang/invoke/VarHandle" ∧ (parseMethodDescriptor mX12_waterOf.1.desc).map (fun d => d.parameters.length) = some 2) := ⟨tb_g 1269 rfl rfl, tb_g 123 (by decide +kernel) rfl, by decide +kernel⟩
theorem c_X12_215 : CkM RX12 215 mX12_waterOf 2 := ⟨q_X12_waterOf.1, q_X12_waterOf.2.1, q_X12_waterOf.2.2, Or.inl (tb_g 1266 (by decide +kernel) rfl)⟩
theorem k_X12_shiftOf : Cond.instanceMethod mX12_shiftOf.1 ∈ TBg ∧ Cond.selects mX12_shiftOf.1.cls mX12_shiftOf.1 mX12_shiftOf.1 ∈ TBg := ⟨tb_g 1272 (by decide +kernel) rfl, tb_g 77 (by decide +kernel) rfl⟩
set_option maxRecDepth 20000 in
theorem q_X12_shiftOf : Cond.code mX12_shiftOf.1 mX12_shiftOf.2.1 mX12_shiftOf.2.2.1 mX12_shiftOf.2.2.2 ∈ TBg ∧ Cond.initialized mX12_shiftOf.1.cls ∈ TBg ∧ (mX12_shiftOf.1.cls ≠ "java/lang/invoke/MethodHandle" ∧ mX12_shiftOf.1.cls ≠ "java/lang/invoke/VarHandle" ∧ (parseMethodDescriptor mX12_shiftOf.1.desc).map (fun d => d.parameters.length) = some 2) := ⟨tb_g 1273 rfl rfl, tb_g 123 (by decide +kernel) rfl, by decide +kernel⟩
theorem c_X12_211 : CkM RX12 211 mX12_shiftOf 2 := ⟨q_X12_shiftOf.1, q_X12_shiftOf.2.1, q_X12_shiftOf.2.2, Or.inl (tb_g 1270 (by decide +kernel) rfl)⟩
theorem k_X12_stretchTold : Cond.instanceMethod mX12_stretchTold.1 ∈ TBg ∧ Cond.selects mX12_stretchTold.1.cls mX12_stretchTold.1 mX12_stretchTold.1 ∈ TBg := ⟨tb_g 1275 (by decide +kernel) rfl, tb_g 1276 (by decide +kernel) rfl⟩
set_option maxRecDepth 20000 in
theorem q_X12_stretchTold : Cond.code mX12_stretchTold.1 mX12_stretchTold.2.1 mX12_stretchTold.2.2.1 mX12_stretchTold.2.2.2 ∈ TBg ∧ Cond.initialized mX12_stretchTold.1.cls ∈ TBg ∧ (mX12_stretchTold.1.cls ≠ "java/lang/invoke/MethodHandle" ∧ mX12_stretchTold.1.cls ≠ "java/lang/invoke/VarHandle" ∧ (parseMethodDescriptor mX12_stretchTold.1.desc).map (fun d => d.parameters.length) = some 2) := ⟨tb_g 1277 rfl rfl, tb_g 123 (by decide +kernel) rfl, by decide +kernel⟩
theorem c_L_102 : CkM RL 102 mX12_stretchTold 2 := ⟨q_X12_stretchTold.1, q_X12_stretchTold.2.1, q_X12_stretchTold.2.2, Or.inl (tb_g 1274 (by decide +kernel) rfl)⟩
theorem k_X12_today : Cond.instanceMethod mX12_today.1 ∈ TBg ∧ Cond.selects mX12_today.1.cls mX12_today.1 mX12_today.1 ∈ TBg := ⟨tb_g 1280 (by decide +kernel) rfl, tb_g 78 (by decide +kernel) rfl⟩
set_option maxRecDepth 20000 in
theorem q_X12_today : Cond.code mX12_today.1 mX12_today.2.1 mX12_today.2.2.1 mX12_today.2.2.2 ∈ TBg ∧ Cond.initialized mX12_today.1.cls ∈ TBg ∧ (mX12_today.1.cls ≠ "java/lang/invoke/MethodHandle" ∧ mX12_today.1.cls ≠ "java/lang/invoke/VarHandle" ∧ (parseMethodDescriptor mX12_today.1.desc).map (fun d => d.parameters.length) = some 0) := ⟨tb_g 1281 rfl rfl, tb_g 123 (by decide +kernel) rfl, by decide +kernel⟩
theorem c_X12_218 : CkM RX12 218 mX12_today 0 := ⟨q_X12_today.1, q_X12_today.2.1, q_X12_today.2.2, Or.inl (tb_g 1278 (by decide +kernel) rfl)⟩
theorem k_X12_isNight : Cond.instanceMethod mX12_isNight.1 ∈ TBg ∧ Cond.selects mX12_isNight.1.cls mX12_isNight.1 mX12_isNight.1 ∈ TBg := ⟨tb_g 1284 (by decide +kernel) rfl, tb_g 79 (by decide +kernel) rfl⟩
set_option maxRecDepth 20000 in
theorem q_X12_isNight : Cond.code mX12_isNight.1 mX12_isNight.2.1 mX12_isNight.2.2.1 mX12_isNight.2.2.2 ∈ TBg ∧ Cond.initialized mX12_isNight.1.cls ∈ TBg ∧ (mX12_isNight.1.cls ≠ "java/lang/invoke/MethodHandle" ∧ mX12_isNight.1.cls ≠ "java/lang/invoke/VarHandle" ∧ (parseMethodDescriptor mX12_isNight.1.desc).map (fun d => d.parameters.length) = some 0) := ⟨tb_g 1285 rfl rfl, tb_g 123 (by decide +kernel) rfl, by decide +kernel⟩
theorem c_X12_221 : CkM RX12 221 mX12_isNight 0 := ⟨q_X12_isNight.1, q_X12_isNight.2.1, q_X12_isNight.2.2, Or.inl (tb_g 1282 (by decide +kernel) rfl)⟩
theorem k_X12_longOf : Cond.instanceMethod mX12_longOf.1 ∈ TBg ∧ Cond.selects mX12_longOf.1.cls mX12_longOf.1 mX12_longOf.1 ∈ TBg := ⟨tb_g 1288 (by decide +kernel) rfl, tb_g 80 (by decide +kernel) rfl⟩
set_option maxRecDepth 20000 in
theorem q_X12_longOf : Cond.code mX12_longOf.1 mX12_longOf.2.1 mX12_longOf.2.2.1 mX12_longOf.2.2.2 ∈ TBg ∧ Cond.initialized mX12_longOf.1.cls ∈ TBg ∧ (mX12_longOf.1.cls ≠ "java/lang/invoke/MethodHandle" ∧ mX12_longOf.1.cls ≠ "java/lang/invoke/VarHandle" ∧ (parseMethodDescriptor mX12_longOf.1.desc).map (fun d => d.parameters.length) = some 2) := ⟨tb_g 1289 rfl rfl, tb_g 123 (by decide +kernel) rfl, by decide +kernel⟩
theorem c_X12_225 : CkM RX12 225 mX12_longOf 2 := ⟨q_X12_longOf.1, q_X12_longOf.2.1, q_X12_longOf.2.2, Or.inl (tb_g 1286 (by decide +kernel) rfl)⟩
theorem k_X12_boat : Cond.instanceMethod mX12_boat.1 ∈ TBg ∧ Cond.selects mX12_boat.1.cls mX12_boat.1 mX12_boat.1 ∈ TBg := ⟨tb_g 1291 (by decide +kernel) rfl, tb_g 1292 (by decide +kernel) rfl⟩
set_option maxRecDepth 20000 in
theorem q_X12_boat : Cond.code mX12_boat.1 mX12_boat.2.1 mX12_boat.2.2.1 mX12_boat.2.2.2 ∈ TBg ∧ Cond.initialized mX12_boat.1.cls ∈ TBg ∧ (mX12_boat.1.cls ≠ "java/lang/invoke/MethodHandle" ∧ mX12_boat.1.cls ≠ "java/lang/invoke/VarHandle" ∧ (parseMethodDescriptor mX12_boat.1.desc).map (fun d => d.parameters.length) = some 4) := ⟨tb_g 1293 rfl rfl, tb_g 123 (by decide +kernel) rfl, by decide +kernel⟩
theorem c_L_40 : CkM RL 40 mX12_boat 4 := ⟨q_X12_boat.1, q_X12_boat.2.1, q_X12_boat.2.2, Or.inl (tb_g 1290 (by decide +kernel) rfl)⟩
theorem k_X12_isLanding : Cond.instanceMethod mX12_isLanding.1 ∈ TBg ∧ Cond.selects mX12_isLanding.1.cls mX12_isLanding.1 mX12_isLanding.1 ∈ TBg := ⟨tb_g 1296 (by decide +kernel) rfl, tb_g 81 (by decide +kernel) rfl⟩
set_option maxRecDepth 20000 in
theorem q_X12_isLanding : Cond.code mX12_isLanding.1 mX12_isLanding.2.1 mX12_isLanding.2.2.1 mX12_isLanding.2.2.2 ∈ TBg ∧ Cond.initialized mX12_isLanding.1.cls ∈ TBg ∧ (mX12_isLanding.1.cls ≠ "java/lang/invoke/MethodHandle" ∧ mX12_isLanding.1.cls ≠ "java/lang/invoke/VarHandle" ∧ (parseMethodDescriptor mX12_isLanding.1.desc).map (fun d => d.parameters.length) = some 1) := ⟨tb_g 1297 rfl rfl, tb_g 123 (by decide +kernel) rfl, by decide +kernel⟩
theorem c_X12_229 : CkM RX12 229 mX12_isLanding 1 := ⟨q_X12_isLanding.1, q_X12_isLanding.2.1, q_X12_isLanding.2.2, Or.inl (tb_g 1294 (by decide +kernel) rfl)⟩
theorem k_X12_bale : Cond.instanceMethod mX12_bale.1 ∈ TBg ∧ Cond.selects mX12_bale.1.cls mX12_bale.1 mX12_bale.1 ∈ TBg := ⟨tb_g 1299 (by decide +kernel) rfl, tb_g 1300 (by decide +kernel) rfl⟩
set_option maxRecDepth 20000 in
theorem q_X12_bale : Cond.code mX12_bale.1 mX12_bale.2.1 mX12_bale.2.2.1 mX12_bale.2.2.2 ∈ TBg ∧ Cond.initialized mX12_bale.1.cls ∈ TBg ∧ (mX12_bale.1.cls ≠ "java/lang/invoke/MethodHandle" ∧ mX12_bale.1.cls ≠ "java/lang/invoke/VarHandle" ∧ (parseMethodDescriptor mX12_bale.1.desc).map (fun d => d.parameters.length) = some 4) := ⟨tb_g 1301 rfl rfl, tb_g 123 (by decide +kernel) rfl, by decide +kernel⟩
theorem c_L_44 : CkM RL 44 mX12_bale 4 := ⟨q_X12_bale.1, q_X12_bale.2.1, q_X12_bale.2.2, Or.inl (tb_g 1298 (by decide +kernel) rfl)⟩
theorem k_X12_lade : Cond.instanceMethod mX12_lade.1 ∈ TBg ∧ Cond.selects mX12_lade.1.cls mX12_lade.1 mX12_lade.1 ∈ TBg := ⟨tb_g 1303 (by decide +kernel) rfl, tb_g 1304 (by decide +kernel) rfl⟩
set_option maxRecDepth 20000 in
theorem q_X12_lade : Cond.code mX12_lade.1 mX12_lade.2.1 mX12_lade.2.2.1 mX12_lade.2.2.2 ∈ TBg ∧ Cond.initialized mX12_lade.1.cls ∈ TBg ∧ (mX12_lade.1.cls ≠ "java/lang/invoke/MethodHandle" ∧ mX12_lade.1.cls ≠ "java/lang/invoke/VarHandle" ∧ (parseMethodDescriptor mX12_lade.1.desc).map (fun d => d.parameters.length) = some 2) := ⟨tb_g 1305 rfl rfl, tb_g 123 (by decide +kernel) rfl, by decide +kernel⟩
theorem c_L_48 : CkM RL 48 mX12_lade 2 := ⟨q_X12_lade.1, q_X12_lade.2.1, q_X12_lade.2.2, Or.inl (tb_g 1302 (by decide +kernel) rfl)⟩
theorem k_X12_isBale : Cond.instanceMethod mX12_isBale.1 ∈ TBg ∧ Cond.selects mX12_isBale.1.cls mX12_isBale.1 mX12_isBale.1 ∈ TBg := ⟨tb_g 1308 (by decide +kernel) rfl, tb_g 82 (by decide +kernel) rfl⟩
set_option maxRecDepth 20000 in
theorem q_X12_isBale : Cond.code mX12_isBale.1 mX12_isBale.2.1 mX12_isBale.2.2.1 mX12_isBale.2.2.2 ∈ TBg ∧ Cond.initialized mX12_isBale.1.cls ∈ TBg ∧ (mX12_isBale.1.cls ≠ "java/lang/invoke/MethodHandle" ∧ mX12_isBale.1.cls ≠ "java/lang/invoke/VarHandle" ∧ (parseMethodDescriptor mX12_isBale.1.desc).map (fun d => d.parameters.length) = some 1) := ⟨tb_g 1309 rfl rfl, tb_g 123 (by decide +kernel) rfl, by decide +kernel⟩
theorem c_X12_235 : CkM RX12 235 mX12_isBale 1 := ⟨q_X12_isBale.1, q_X12_isBale.2.1, q_X12_isBale.2.2, Or.inl (tb_g 1306 (by decide +kernel) rfl)⟩
theorem k_X12_isBoat : Cond.instanceMethod mX12_isBoat.1 ∈ TBg ∧ Cond.selects mX12_isBoat.1.cls mX12_isBoat.1 mX12_isBoat.1 ∈ TBg := ⟨tb_g 1312 (by decide +kernel) rfl, tb_g 83 (by decide +kernel) rfl⟩
set_option maxRecDepth 20000 in
theorem q_X12_isBoat : Cond.code mX12_isBoat.1 mX12_isBoat.2.1 mX12_isBoat.2.2.1 mX12_isBoat.2.2.2 ∈ TBg ∧ Cond.initialized mX12_isBoat.1.cls ∈ TBg ∧ (mX12_isBoat.1.cls ≠ "java/lang/invoke/MethodHandle" ∧ mX12_isBoat.1.cls ≠ "java/lang/invoke/VarHandle" ∧ (parseMethodDescriptor mX12_isBoat.1.desc).map (fun d => d.parameters.length) = some 1) := ⟨tb_g 1313 rfl rfl, tb_g 123 (by decide +kernel) rfl, by decide +kernel⟩
theorem c_X12_238 : CkM RX12 238 mX12_isBoat 1 := ⟨q_X12_isBoat.1, q_X12_isBoat.2.1, q_X12_isBoat.2.2, Or.inl (tb_g 1310 (by decide +kernel) rfl)⟩
theorem k_X12_aboard : Cond.instanceMethod mX12_aboard.1 ∈ TBg ∧ Cond.selects mX12_aboard.1.cls mX12_aboard.1 mX12_aboard.1 ∈ TBg := ⟨tb_g 1316 (by decide +kernel) rfl, tb_g 84 (by decide +kernel) rfl⟩
set_option maxRecDepth 20000 in
theorem q_X12_aboard : Cond.code mX12_aboard.1 mX12_aboard.2.1 mX12_aboard.2.2.1 mX12_aboard.2.2.2 ∈ TBg ∧ Cond.initialized mX12_aboard.1.cls ∈ TBg ∧ (mX12_aboard.1.cls ≠ "java/lang/invoke/MethodHandle" ∧ mX12_aboard.1.cls ≠ "java/lang/invoke/VarHandle" ∧ (parseMethodDescriptor mX12_aboard.1.desc).map (fun d => d.parameters.length) = some 1) := ⟨tb_g 1317 rfl rfl, tb_g 123 (by decide +kernel) rfl, by decide +kernel⟩
theorem c_X12_232 : CkM RX12 232 mX12_aboard 1 := ⟨q_X12_aboard.1, q_X12_aboard.2.1, q_X12_aboard.2.2, Or.inl (tb_g 1314 (by decide +kernel) rfl)⟩
theorem k_X12_draught : Cond.instanceMethod mX12_draught.1 ∈ TBg ∧ Cond.selects mX12_draught.1.cls mX12_draught.1 mX12_draught.1 ∈ TBg := ⟨tb_g 1320 (by decide +kernel) rfl, tb_g 85 (by decide +kernel) rfl⟩
set_option maxRecDepth 20000 in
theorem q_X12_draught : Cond.code mX12_draught.1 mX12_draught.2.1 mX12_draught.2.2.1 mX12_draught.2.2.2 ∈ TBg ∧ Cond.initialized mX12_draught.1.cls ∈ TBg ∧ (mX12_draught.1.cls ≠ "java/lang/invoke/MethodHandle" ∧ mX12_draught.1.cls ≠ "java/lang/invoke/VarHandle" ∧ (parseMethodDescriptor mX12_draught.1.desc).map (fun d => d.parameters.length) = some 1) := ⟨tb_g 1321 rfl rfl, tb_g 123 (by decide +kernel) rfl, by decide +kernel⟩
theorem c_X12_241 : CkM RX12 241 mX12_draught 1 := ⟨q_X12_draught.1, q_X12_draught.2.1, q_X12_draught.2.2, Or.inl (tb_g 1318 (by decide +kernel) rfl)⟩
theorem k_X12_land : Cond.instanceMethod mX12_land.1 ∈ TBg ∧ Cond.selects mX12_land.1.cls mX12_land.1 mX12_land.1 ∈ TBg := ⟨tb_g 1323 (by decide +kernel) rfl, tb_g 1324 (by decide +kernel) rfl⟩
set_option maxRecDepth 20000 in
theorem q_X12_land : Cond.code mX12_land.1 mX12_land.2.1 mX12_land.2.2.1 mX12_land.2.2.2 ∈ TBg ∧ Cond.initialized mX12_land.1.cls ∈ TBg ∧ (mX12_land.1.cls ≠ "java/lang/invoke/MethodHandle" ∧ mX12_land.1.cls ≠ "java/lang/invoke/VarHandle" ∧ (parseMethodDescriptor mX12_land.1.desc).map (fun d => d.parameters.length) = some 1) := ⟨tb_g 1325 rfl rfl, tb_g 123 (by decide +kernel) rfl, by decide +kernel⟩
theorem c_L_53 : CkM RL 53 mX12_land 1 := ⟨q_X12_land.1, q_X12_land.2.1, q_X12_land.2.2, Or.inl (tb_g 1322 (by decide +kernel) rfl)⟩
theorem k_X12_lose : Cond.instanceMethod mX12_lose.1 ∈ TBg ∧ Cond.selects mX12_lose.1.cls mX12_lose.1 mX12_lose.1 ∈ TBg := ⟨tb_g 1327 (by decide +kernel) rfl, tb_g 1328 (by decide +kernel) rfl⟩
set_option maxRecDepth 20000 in
theorem q_X12_lose : Cond.code mX12_lose.1 mX12_lose.2.1 mX12_lose.2.2.1 mX12_lose.2.2.2 ∈ TBg ∧ Cond.initialized mX12_lose.1.cls ∈ TBg ∧ (mX12_lose.1.cls ≠ "java/lang/invoke/MethodHandle" ∧ mX12_lose.1.cls ≠ "java/lang/invoke/VarHandle" ∧ (parseMethodDescriptor mX12_lose.1.desc).map (fun d => d.parameters.length) = some 1) := ⟨tb_g 1329 rfl rfl, tb_g 123 (by decide +kernel) rfl, by decide +kernel⟩
theorem c_L_57 : CkM RL 57 mX12_lose 1 := ⟨q_X12_lose.1, q_X12_lose.2.1, q_X12_lose.2.2, Or.inl (tb_g 1326 (by decide +kernel) rfl)⟩
theorem k_X12_why : Cond.instanceMethod mX12_why.1 ∈ TBg ∧ Cond.selects mX12_why.1.cls mX12_why.1 mX12_why.1 ∈ TBg := ⟨tb_g 1331 (by decide +kernel) rfl, tb_g 1332 (by decide +kernel) rfl⟩
set_option maxRecDepth 20000 in
theorem q_X12_why : Cond.code mX12_why.1 mX12_why.2.1 mX12_why.2.2.1 mX12_why.2.2.2 ∈ TBg ∧ Cond.initialized mX12_why.1.cls ∈ TBg ∧ (mX12_why.1.cls ≠ "java/lang/invoke/MethodHandle" ∧ mX12_why.1.cls ≠ "java/lang/invoke/VarHandle" ∧ (parseMethodDescriptor mX12_why.1.desc).map (fun d => d.parameters.length) = some 2) := ⟨tb_g 1333 rfl rfl, tb_g 123 (by decide +kernel) rfl, by decide +kernel⟩
theorem c_L_118 : CkM RL 118 mX12_why 2 := ⟨q_X12_why.1, q_X12_why.2.1, q_X12_why.2.2, Or.inl (tb_g 1330 (by decide +kernel) rfl)⟩
theorem k_X12_whyNot : Cond.instanceMethod mX12_whyNot.1 ∈ TBg ∧ Cond.selects mX12_whyNot.1.cls mX12_whyNot.1 mX12_whyNot.1 ∈ TBg := ⟨tb_g 1336 (by decide +kernel) rfl, tb_g 86 (by decide +kernel) rfl⟩
set_option maxRecDepth 20000 in
theorem q_X12_whyNot : Cond.code mX12_whyNot.1 mX12_whyNot.2.1 mX12_whyNot.2.2.1 mX12_whyNot.2.2.2 ∈ TBg ∧ Cond.initialized mX12_whyNot.1.cls ∈ TBg ∧ (mX12_whyNot.1.cls ≠ "java/lang/invoke/MethodHandle" ∧ mX12_whyNot.1.cls ≠ "java/lang/invoke/VarHandle" ∧ (parseMethodDescriptor mX12_whyNot.1.desc).map (fun d => d.parameters.length) = some 2) := ⟨tb_g 1337 rfl rfl, tb_g 123 (by decide +kernel) rfl, by decide +kernel⟩
theorem c_X12_254 : CkM RX12 254 mX12_whyNot 2 := ⟨q_X12_whyNot.1, q_X12_whyNot.2.1, q_X12_whyNot.2.2, Or.inl (tb_g 1334 (by decide +kernel) rfl)⟩
theorem k_X12_ahead : Cond.instanceMethod mX12_ahead.1 ∈ TBg ∧ Cond.selects mX12_ahead.1.cls mX12_ahead.1 mX12_ahead.1 ∈ TBg := ⟨tb_g 1340 (by decide +kernel) rfl, tb_g 87 (by decide +kernel) rfl⟩
set_option maxRecDepth 20000 in
theorem q_X12_ahead : Cond.code mX12_ahead.1 mX12_ahead.2.1 mX12_ahead.2.2.1 mX12_ahead.2.2.2 ∈ TBg ∧ Cond.initialized mX12_ahead.1.cls ∈ TBg ∧ (mX12_ahead.1.cls ≠ "java/lang/invoke/MethodHandle" ∧ mX12_ahead.1.cls ≠ "java/lang/invoke/VarHandle" ∧ (parseMethodDescriptor mX12_ahead.1.desc).map (fun d => d.parameters.length) = some 2) := ⟨tb_g 1341 rfl rfl, tb_g 123 (by decide +kernel) rfl, by decide +kernel⟩
theorem c_X12_251 : CkM RX12 251 mX12_ahead 2 := ⟨q_X12_ahead.1, q_X12_ahead.2.1, q_X12_ahead.2.2, Or.inl (tb_g 1338 (by decide +kernel) rfl)⟩
theorem k_X12_leave : Cond.instanceMethod mX12_leave.1 ∈ TBg ∧ Cond.selects mX12_leave.1.cls mX12_leave.1 mX12_leave.1 ∈ TBg := ⟨tb_g 1343 (by decide +kernel) rfl, tb_g 1344 (by decide +kernel) rfl⟩
set_option maxRecDepth 20000 in
theorem q_X12_leave : Cond.code mX12_leave.1 mX12_leave.2.1 mX12_leave.2.2.1 mX12_leave.2.2.2 ∈ TBg ∧ Cond.initialized mX12_leave.1.cls ∈ TBg ∧ (mX12_leave.1.cls ≠ "java/lang/invoke/MethodHandle" ∧ mX12_leave.1.cls ≠ "java/lang/invoke/VarHandle" ∧ (parseMethodDescriptor mX12_leave.1.desc).map (fun d => d.parameters.length) = some 2) := ⟨tb_g 1345 rfl rfl, tb_g 123 (by decide +kernel) rfl, by decide +kernel⟩
theorem c_L_61 : CkM RL 61 mX12_leave 2 := ⟨q_X12_leave.1, q_X12_leave.2.1, q_X12_leave.2.2, Or.inl (tb_g 1342 (by decide +kernel) rfl)⟩
theorem k_X12_off : Cond.instanceMethod mX12_off.1 ∈ TBg ∧ Cond.selects mX12_off.1.cls mX12_off.1 mX12_off.1 ∈ TBg := ⟨tb_g 1347 (by decide +kernel) rfl, tb_g 1348 (by decide +kernel) rfl⟩
set_option maxRecDepth 20000 in
theorem q_X12_off : Cond.code mX12_off.1 mX12_off.2.1 mX12_off.2.2.1 mX12_off.2.2.2 ∈ TBg ∧ Cond.initialized mX12_off.1.cls ∈ TBg ∧ (mX12_off.1.cls ≠ "java/lang/invoke/MethodHandle" ∧ mX12_off.1.cls ≠ "java/lang/invoke/VarHandle" ∧ (parseMethodDescriptor mX12_off.1.desc).map (fun d => d.parameters.length) = some 1) := ⟨tb_g 1349 rfl rfl, tb_g 123 (by decide +kernel) rfl, by decide +kernel⟩
theorem c_L_65 : CkM RL 65 mX12_off 1 := ⟨q_X12_off.1, q_X12_off.2.1, q_X12_off.2.2, Or.inl (tb_g 1346 (by decide +kernel) rfl)⟩
theorem k_X12_comes : Cond.instanceMethod mX12_comes.1 ∈ TBg ∧ Cond.selects mX12_comes.1.cls mX12_comes.1 mX12_comes.1 ∈ TBg := ⟨tb_g 1352 (by decide +kernel) rfl, tb_g 88 (by decide +kernel) rfl⟩
set_option maxRecDepth 20000 in
theorem q_X12_comes : Cond.code mX12_comes.1 mX12_comes.2.1 mX12_comes.2.2.1 mX12_comes.2.2.2 ∈ TBg ∧ Cond.initialized mX12_comes.1.cls ∈ TBg ∧ (mX12_comes.1.cls ≠ "java/lang/invoke/MethodHandle" ∧ mX12_comes.1.cls ≠ "java/lang/invoke/VarHandle" ∧ (parseMethodDescriptor mX12_comes.1.desc).map (fun d => d.parameters.length) = some 2) := ⟨tb_g 1353 rfl rfl, tb_g 123 (by decide +kernel) rfl, by decide +kernel⟩
theorem c_X12_257 : CkM RX12 257 mX12_comes 2 := ⟨q_X12_comes.1, q_X12_comes.2.1, q_X12_comes.2.2, Or.inl (tb_g 1350 (by decide +kernel) rfl)⟩
theorem k_X12_hears : Cond.instanceMethod mX12_hears.1 ∈ TBg ∧ Cond.selects mX12_hears.1.cls mX12_hears.1 mX12_hears.1 ∈ TBg := ⟨tb_g 1356 (by decide +kernel) rfl, tb_g 89 (by decide +kernel) rfl⟩
set_option maxRecDepth 20000 in
theorem q_X12_hears : Cond.code mX12_hears.1 mX12_hears.2.1 mX12_hears.2.2.1 mX12_hears.2.2.2 ∈ TBg ∧ Cond.initialized mX12_hears.1.cls ∈ TBg ∧ (mX12_hears.1.cls ≠ "java/lang/invoke/MethodHandle" ∧ mX12_hears.1.cls ≠ "java/lang/invoke/VarHandle" ∧ (parseMethodDescriptor mX12_hears.1.desc).map (fun d => d.parameters.length) = some 2) := ⟨tb_g 1357 rfl rfl, tb_g 123 (by decide +kernel) rfl, by decide +kernel⟩
theorem c_X12_247 : CkM RX12 247 mX12_hears 2 := ⟨q_X12_hears.1, q_X12_hears.2.1, q_X12_hears.2.2, Or.inl (tb_g 1354 (by decide +kernel) rfl)⟩
theorem k_X12_go : Cond.instanceMethod mX12_go.1 ∈ TBg ∧ Cond.selects mX12_go.1.cls mX12_go.1 mX12_go.1 ∈ TBg := ⟨tb_g 1359 (by decide +kernel) rfl, tb_g 1360 (by decide +kernel) rfl⟩
set_option maxRecDepth 20000 in
theorem q_X12_go : Cond.code mX12_go.1 mX12_go.2.1 mX12_go.2.2.1 mX12_go.2.2.2 ∈ TBg ∧ Cond.initialized mX12_go.1.cls ∈ TBg ∧ (mX12_go.1.cls ≠ "java/lang/invoke/MethodHandle" ∧ mX12_go.1.cls ≠ "java/lang/invoke/VarHandle" ∧ (parseMethodDescriptor mX12_go.1.desc).map (fun d => d.parameters.length) = some 1) := ⟨tb_g 1361 rfl rfl, tb_g 123 (by decide +kernel) rfl, by decide +kernel⟩
theorem c_L_69 : CkM RL 69 mX12_go 1 := ⟨q_X12_go.1, q_X12_go.2.1, q_X12_go.2.2, Or.inl (tb_g 1358 (by decide +kernel) rfl)⟩
theorem k_X12_knows : Cond.instanceMethod mX12_knows.1 ∈ TBg ∧ Cond.selects mX12_knows.1.cls mX12_knows.1 mX12_knows.1 ∈ TBg := ⟨tb_g 1363 (by decide +kernel) rfl, tb_g 1364 (by decide +kernel) rfl⟩
set_option maxRecDepth 20000 in
theorem q_X12_knows : Cond.code mX12_knows.1 mX12_knows.2.1 mX12_knows.2.2.1 mX12_knows.2.2.2 ∈ TBg ∧ Cond.initialized mX12_knows.1.cls ∈ TBg ∧ (mX12_knows.1.cls ≠ "java/lang/invoke/MethodHandle" ∧ mX12_knows.1.cls ≠ "java/lang/invoke/VarHandle" ∧ (parseMethodDescriptor mX12_knows.1.desc).map (fun d => d.parameters.length) = some 3) := ⟨tb_g 1365 rfl rfl, tb_g 123 (by decide +kernel) rfl, by decide +kernel⟩
theorem c_L_122 : CkM RL 122 mX12_knows 3 := ⟨q_X12_knows.1, q_X12_knows.2.1, q_X12_knows.2.2, Or.inl (tb_g 1362 (by decide +kernel) rfl)⟩
theorem k_X12_word : Cond.instanceMethod mX12_word.1 ∈ TBg ∧ Cond.selects mX12_word.1.cls mX12_word.1 mX12_word.1 ∈ TBg := ⟨tb_g 1368 (by decide +kernel) rfl, tb_g 90 (by decide +kernel) rfl⟩
set_option maxRecDepth 20000 in
theorem q_X12_word : Cond.code mX12_word.1 mX12_word.2.1 mX12_word.2.2.1 mX12_word.2.2.2 ∈ TBg ∧ Cond.initialized mX12_word.1.cls ∈ TBg ∧ (mX12_word.1.cls ≠ "java/lang/invoke/MethodHandle" ∧ mX12_word.1.cls ≠ "java/lang/invoke/VarHandle" ∧ (parseMethodDescriptor mX12_word.1.desc).map (fun d => d.parameters.length) = some 2) := ⟨tb_g 1369 rfl rfl, tb_g 123 (by decide +kernel) rfl, by decide +kernel⟩
theorem c_X12_260 : CkM RX12 260 mX12_word 2 := ⟨q_X12_word.1, q_X12_word.2.1, q_X12_word.2.2, Or.inl (tb_g 1366 (by decide +kernel) rfl)⟩
theorem k_X12_box : Cond.instanceMethod mX12_box.1 ∈ TBg ∧ Cond.selects mX12_box.1.cls mX12_box.1 mX12_box.1 ∈ TBg := ⟨tb_g 1371 (by decide +kernel) rfl, tb_g 1372 (by decide +kernel) rfl⟩
set_option maxRecDepth 20000 in
theorem q_X12_box : Cond.code mX12_box.1 mX12_box.2.1 mX12_box.2.2.1 mX12_box.2.2.2 ∈ TBg ∧ Cond.initialized mX12_box.1.cls ∈ TBg ∧ (mX12_box.1.cls ≠ "java/lang/invoke/MethodHandle" ∧ mX12_box.1.cls ≠ "java/lang/invoke/VarHandle" ∧ (parseMethodDescriptor mX12_box.1.desc).map (fun d => d.parameters.length) = some 3) := ⟨tb_g 1373 rfl rfl, tb_g 123 (by decide +kernel) rfl, by decide +kernel⟩
theorem c_L_126 : CkM RL 126 mX12_box 3 := ⟨q_X12_box.1, q_X12_box.2.1, q_X12_box.2.2, Or.inl (tb_g 1370 (by decide +kernel) rfl)⟩
theorem k_X12_boatTold : Cond.instanceMethod mX12_boatTold.1 ∈ TBg ∧ Cond.selects mX12_boatTold.1.cls mX12_boatTold.1 mX12_boatTold.1 ∈ TBg := ⟨tb_g 1375 (by decide +kernel) rfl, tb_g 1376 (by decide +kernel) rfl⟩
set_option maxRecDepth 20000 in
theorem q_X12_boatTold : Cond.code mX12_boatTold.1 mX12_boatTold.2.1 mX12_boatTold.2.2.1 mX12_boatTold.2.2.2 ∈ TBg ∧ Cond.initialized mX12_boatTold.1.cls ∈ TBg ∧ (mX12_boatTold.1.cls ≠ "java/lang/invoke/MethodHandle" ∧ mX12_boatTold.1.cls ≠ "java/lang/invoke/VarHandle" ∧ (parseMethodDescriptor mX12_boatTold.1.desc).map (fun d => d.parameters.length) = some 2) := ⟨tb_g 1377 rfl rfl, tb_g 123 (by decide +kernel) rfl, by decide +kernel⟩
theorem c_L_110 : CkM RL 110 mX12_boatTold 2 := ⟨q_X12_boatTold.1, q_X12_boatTold.2.1, q_X12_boatTold.2.2, Or.inl (tb_g 1374 (by decide +kernel) rfl)⟩
theorem k_X12_baleTold : Cond.instanceMethod mX12_baleTold.1 ∈ TBg ∧ Cond.selects mX12_baleTold.1.cls mX12_baleTold.1 mX12_baleTold.1 ∈ TBg := ⟨tb_g 1379 (by decide +kernel) rfl, tb_g 1380 (by decide +kernel) rfl⟩
set_option maxRecDepth 20000 in
theorem q_X12_baleTold : Cond.code mX12_baleTold.1 mX12_baleTold.2.1 mX12_baleTold.2.2.1 mX12_baleTold.2.2.2 ∈ TBg ∧ Cond.initialized mX12_baleTold.1.cls ∈ TBg ∧ (mX12_baleTold.1.cls ≠ "java/lang/invoke/MethodHandle" ∧ mX12_baleTold.1.cls ≠ "java/lang/invoke/VarHandle" ∧ (parseMethodDescriptor mX12_baleTold.1.desc).map (fun d => d.parameters.length) = some 2) := ⟨tb_g 1381 rfl rfl, tb_g 123 (by decide +kernel) rfl, by decide +kernel⟩
theorem c_L_114 : CkM RL 114 mX12_baleTold 2 := ⟨q_X12_baleTold.1, q_X12_baleTold.2.1, q_X12_baleTold.2.2, Or.inl (tb_g 1378 (by decide +kernel) rfl)⟩
theorem k_X12_lading : Cond.instanceMethod mX12_lading.1 ∈ TBg ∧ Cond.selects mX12_lading.1.cls mX12_lading.1 mX12_lading.1 ∈ TBg := ⟨tb_g 1383 (by decide +kernel) rfl, tb_g 1384 (by decide +kernel) rfl⟩
set_option maxRecDepth 20000 in
theorem q_X12_lading : Cond.code mX12_lading.1 mX12_lading.2.1 mX12_lading.2.2.1 mX12_lading.2.2.2 ∈ TBg ∧ Cond.initialized mX12_lading.1.cls ∈ TBg ∧ (mX12_lading.1.cls ≠ "java/lang/invoke/MethodHandle" ∧ mX12_lading.1.cls ≠ "java/lang/invoke/VarHandle" ∧ (parseMethodDescriptor mX12_lading.1.desc).map (fun d => d.parameters.length) = some 2) := ⟨tb_g 1385 rfl rfl, tb_g 123 (by decide +kernel) rfl, by decide +kernel⟩
theorem c_L_130 : CkM RL 130 mX12_lading 2 := ⟨q_X12_lading.1, q_X12_lading.2.1, q_X12_lading.2.2, Or.inl (tb_g 1382 (by decide +kernel) rfl)⟩
theorem k_X12_sumOf : Cond.instanceMethod mX12_sumOf.1 ∈ TBg ∧ Cond.selects mX12_sumOf.1.cls mX12_sumOf.1 mX12_sumOf.1 ∈ TBg := ⟨tb_g 1388 (by decide +kernel) rfl, tb_g 91 (by decide +kernel) rfl⟩
set_option maxRecDepth 20000 in
theorem q_X12_sumOf : Cond.code mX12_sumOf.1 mX12_sumOf.2.1 mX12_sumOf.2.2.1 mX12_sumOf.2.2.2 ∈ TBg ∧ Cond.initialized mX12_sumOf.1.cls ∈ TBg ∧ (mX12_sumOf.1.cls ≠ "java/lang/invoke/MethodHandle" ∧ mX12_sumOf.1.cls ≠ "java/lang/invoke/VarHandle" ∧ (parseMethodDescriptor mX12_sumOf.1.desc).map (fun d => d.parameters.length) = some 2) := ⟨tb_g 1389 rfl rfl, tb_g 123 (by decide +kernel) rfl, by decide +kernel⟩
theorem c_X12_263 : CkM RX12 263 mX12_sumOf 2 := ⟨q_X12_sumOf.1, q_X12_sumOf.2.1, q_X12_sumOf.2.2, Or.inl (tb_g 1386 (by decide +kernel) rfl)⟩
theorem k_X12_yard : Cond.instanceMethod mX12_yard.1 ∈ TBg ∧ Cond.selects mX12_yard.1.cls mX12_yard.1 mX12_yard.1 ∈ TBg := ⟨tb_g 1391 (by decide +kernel) rfl, tb_g 1392 (by decide +kernel) rfl⟩
set_option maxRecDepth 20000 in
theorem q_X12_yard : Cond.code mX12_yard.1 mX12_yard.2.1 mX12_yard.2.2.1 mX12_yard.2.2.2 ∈ TBg ∧ Cond.initialized mX12_yard.1.cls ∈ TBg ∧ (mX12_yard.1.cls ≠ "java/lang/invoke/MethodHandle" ∧ mX12_yard.1.cls ≠ "java/lang/invoke/VarHandle" ∧ (parseMethodDescriptor mX12_yard.1.desc).map (fun d => d.parameters.length) = some 2) := ⟨tb_g 1393 rfl rfl, tb_g 123 (by decide +kernel) rfl, by decide +kernel⟩
theorem c_L_73 : CkM RL 73 mX12_yard 2 := ⟨q_X12_yard.1, q_X12_yard.2.1, q_X12_yard.2.2, Or.inl (tb_g 1390 (by decide +kernel) rfl)⟩
theorem k_X12_wood : Cond.instanceMethod mX12_wood.1 ∈ TBg ∧ Cond.selects mX12_wood.1.cls mX12_wood.1 mX12_wood.1 ∈ TBg := ⟨tb_g 1395 (by decide +kernel) rfl, tb_g 1396 (by decide +kernel) rfl⟩
set_option maxRecDepth 20000 in
theorem q_X12_wood : Cond.code mX12_wood.1 mX12_wood.2.1 mX12_wood.2.2.1 mX12_wood.2.2.2 ∈ TBg ∧ Cond.initialized mX12_wood.1.cls ∈ TBg ∧ (mX12_wood.1.cls ≠ "java/lang/invoke/MethodHandle" ∧ mX12_wood.1.cls ≠ "java/lang/invoke/VarHandle" ∧ (parseMethodDescriptor mX12_wood.1.desc).map (fun d => d.parameters.length) = some 2) := ⟨tb_g 1397 rfl rfl, tb_g 123 (by decide +kernel) rfl, by decide +kernel⟩
theorem c_L_77 : CkM RL 77 mX12_wood 2 := ⟨q_X12_wood.1, q_X12_wood.2.1, q_X12_wood.2.2, Or.inl (tb_g 1394 (by decide +kernel) rfl)⟩
theorem k_X12_wooding : Cond.instanceMethod mX12_wooding.1 ∈ TBg ∧ Cond.selects mX12_wooding.1.cls mX12_wooding.1 mX12_wooding.1 ∈ TBg := ⟨tb_g 1399 (by decide +kernel) rfl, tb_g 1400 (by decide +kernel) rfl⟩
set_option maxRecDepth 20000 in
theorem q_X12_wooding : Cond.code mX12_wooding.1 mX12_wooding.2.1 mX12_wooding.2.2.1 mX12_wooding.2.2.2 ∈ TBg ∧ Cond.initialized mX12_wooding.1.cls ∈ TBg ∧ (mX12_wooding.1.cls ≠ "java/lang/invoke/MethodHandle" ∧ mX12_wooding.1.cls ≠ "java/lang/invoke/VarHandle" ∧ (parseMethodDescriptor mX12_wooding.1.desc).map (fun d => d.parameters.length) = some 3) := ⟨tb_g 1401 rfl rfl, tb_g 123 (by decide +kernel) rfl, by decide +kernel⟩
theorem c_L_134 : CkM RL 134 mX12_wooding 3 := ⟨q_X12_wooding.1, q_X12_wooding.2.1, q_X12_wooding.2.2, Or.inl (tb_g 1398 (by decide +kernel) rfl)⟩
theorem k_X12_findWood : Cond.instanceMethod mX12_findWood.1 ∈ TBg ∧ Cond.selects mX12_findWood.1.cls mX12_findWood.1 mX12_findWood.1 ∈ TBg := ⟨tb_g 1404 (by decide +kernel) rfl, tb_g 92 (by decide +kernel) rfl⟩
set_option maxRecDepth 20000 in
theorem q_X12_findWood : Cond.code mX12_findWood.1 mX12_findWood.2.1 mX12_findWood.2.2.1 mX12_findWood.2.2.2 ∈ TBg ∧ Cond.initialized mX12_findWood.1.cls ∈ TBg ∧ (mX12_findWood.1.cls ≠ "java/lang/invoke/MethodHandle" ∧ mX12_findWood.1.cls ≠ "java/lang/invoke/VarHandle" ∧ (parseMethodDescriptor mX12_findWood.1.desc).map (fun d => d.parameters.length) = some 3) := ⟨tb_g 1405 rfl rfl, tb_g 123 (by decide +kernel) rfl, by decide +kernel⟩
theorem c_X12_281 : CkM RX12 281 mX12_findWood 3 := ⟨q_X12_findWood.1, q_X12_findWood.2.1, q_X12_findWood.2.2, Or.inl (tb_g 1402 (by decide +kernel) rfl)⟩
theorem k_X12_buysAt : Cond.instanceMethod mX12_buysAt.1 ∈ TBg ∧ Cond.selects mX12_buysAt.1.cls mX12_buysAt.1 mX12_buysAt.1 ∈ TBg := ⟨tb_g 1408 (by decide +kernel) rfl, tb_g 93 (by decide +kernel) rfl⟩
set_option maxRecDepth 20000 in
theorem q_X12_buysAt : Cond.code mX12_buysAt.1 mX12_buysAt.2.1 mX12_buysAt.2.2.1 mX12_buysAt.2.2.2 ∈ TBg ∧ Cond.initialized mX12_buysAt.1.cls ∈ TBg ∧ (mX12_buysAt.1.cls ≠ "java/lang/invoke/MethodHandle" ∧ mX12_buysAt.1.cls ≠ "java/lang/invoke/VarHandle" ∧ (parseMethodDescriptor mX12_buysAt.1.desc).map (fun d => d.parameters.length) = some 5) := ⟨tb_g 1409 rfl rfl, tb_g 123 (by decide +kernel) rfl, by decide +kernel⟩
theorem c_X12_277 : CkM RX12 277 mX12_buysAt 5 := ⟨q_X12_buysAt.1, q_X12_buysAt.2.1, q_X12_buysAt.2.2, Or.inl (tb_g 1406 (by decide +kernel) rfl)⟩
theorem k_X12_landingOf : Cond.static mX12_landingOf.1 ∈ TBg := tb_g 1411 (by decide +kernel) rfl
set_option maxRecDepth 20000 in
theorem q_X12_landingOf : Cond.code mX12_landingOf.1 mX12_landingOf.2.1 mX12_landingOf.2.2.1 mX12_landingOf.2.2.2 ∈ TBg ∧ Cond.initialized mX12_landingOf.1.cls ∈ TBg ∧ (mX12_landingOf.1.cls ≠ "java/lang/invoke/MethodHandle" ∧ mX12_landingOf.1.cls ≠ "java/lang/invoke/VarHandle" ∧ (parseMethodDescriptor mX12_landingOf.1.desc).map (fun d => d.parameters.length) = some 3) := ⟨tb_g 1412 rfl rfl, tb_g 123 (by decide +kernel) rfl, by decide +kernel⟩
theorem c_X12_266 : CkM RX12 266 mX12_landingOf 3 := ⟨q_X12_landingOf.1, q_X12_landingOf.2.1, q_X12_landingOf.2.2, Or.inl (tb_g 1410 (by decide +kernel) rfl)⟩
theorem k_X12_stretchOf : Cond.static mX12_stretchOf.1 ∈ TBg := tb_g 1414 (by decide +kernel) rfl
set_option maxRecDepth 20000 in
theorem q_X12_stretchOf : Cond.code mX12_stretchOf.1 mX12_stretchOf.2.1 mX12_stretchOf.2.2.1 mX12_stretchOf.2.2.2 ∈ TBg ∧ Cond.initialized mX12_stretchOf.1.cls ∈ TBg ∧ (mX12_stretchOf.1.cls ≠ "java/lang/invoke/MethodHandle" ∧ mX12_stretchOf.1.cls ≠ "java/lang/invoke/VarHandle" ∧ (parseMethodDescriptor mX12_stretchOf.1.desc).map (fun d => d.parameters.length) = some 3) := ⟨tb_g 1415 rfl rfl, tb_g 123 (by decide +kernel) rfl, by decide +kernel⟩
theorem c_X12_270 : CkM RX12 270 mX12_stretchOf 3 := ⟨q_X12_stretchOf.1, q_X12_stretchOf.2.1, q_X12_stretchOf.2.2, Or.inl (tb_g 1413 (by decide +kernel) rfl)⟩
theorem k_X12_bought : Cond.instanceMethod mX12_bought.1 ∈ TBg ∧ Cond.selects mX12_bought.1.cls mX12_bought.1 mX12_bought.1 ∈ TBg := ⟨tb_g 1418 (by decide +kernel) rfl, tb_g 1419 (by decide +kernel) rfl⟩
set_option maxRecDepth 20000 in
theorem q_X12_bought : Cond.code mX12_bought.1 mX12_bought.2.1 mX12_bought.2.2.1 mX12_bought.2.2.2 ∈ TBg ∧ Cond.initialized mX12_bought.1.cls ∈ TBg ∧ (mX12_bought.1.cls ≠ "java/lang/invoke/MethodHandle" ∧ mX12_bought.1.cls ≠ "java/lang/invoke/VarHandle" ∧ (parseMethodDescriptor mX12_bought.1.desc).map (fun d => d.parameters.length) = some 4) := ⟨tb_g 1420 rfl rfl, tb_g 123 (by decide +kernel) rfl, by decide +kernel⟩
theorem c_L_138 : CkM RL 138 mX12_bought 4 := ⟨q_X12_bought.1, q_X12_bought.2.1, q_X12_bought.2.2, Or.inl (tb_g 1417 (by decide +kernel) rfl)⟩
theorem c_X12_284 : CkM RX12 284 mX12_wooding 3 := ⟨q_X12_wooding.1, q_X12_wooding.2.1, q_X12_wooding.2.2, Or.inl (tb_g 1421 (by decide +kernel) rfl)⟩
theorem k_X12_trip : Cond.instanceMethod mX12_trip.1 ∈ TBg ∧ Cond.selects mX12_trip.1.cls mX12_trip.1 mX12_trip.1 ∈ TBg := ⟨tb_g 1423 (by decide +kernel) rfl, tb_g 1424 (by decide +kernel) rfl⟩
set_option maxRecDepth 20000 in
theorem q_X12_trip : Cond.code mX12_trip.1 mX12_trip.2.1 mX12_trip.2.2.1 mX12_trip.2.2.2 ∈ TBg ∧ Cond.initialized mX12_trip.1.cls ∈ TBg ∧ (mX12_trip.1.cls ≠ "java/lang/invoke/MethodHandle" ∧ mX12_trip.1.cls ≠ "java/lang/invoke/VarHandle" ∧ (parseMethodDescriptor mX12_trip.1.desc).map (fun d => d.parameters.length) = some 3) := ⟨tb_g 1425 rfl rfl, tb_g 123 (by decide +kernel) rfl, by decide +kernel⟩
theorem c_L_81 : CkM RL 81 mX12_trip 3 := ⟨q_X12_trip.1, q_X12_trip.2.1, q_X12_trip.2.2, Or.inl (tb_g 1422 (by decide +kernel) rfl)⟩
theorem k_X12_lights : Cond.instanceMethod mX12_lights.1 ∈ TBg ∧ Cond.selects mX12_lights.1.cls mX12_lights.1 mX12_lights.1 ∈ TBg := ⟨tb_g 1427 (by decide +kernel) rfl, tb_g 1428 (by decide +kernel) rfl⟩
set_option maxRecDepth 20000 in
theorem q_X12_lights : Cond.code mX12_lights.1 mX12_lights.2.1 mX12_lights.2.2.1 mX12_lights.2.2.2 ∈ TBg ∧ Cond.initialized mX12_lights.1.cls ∈ TBg ∧ (mX12_lights.1.cls ≠ "java/lang/invoke/MethodHandle" ∧ mX12_lights.1.cls ≠ "java/lang/invoke/VarHandle" ∧ (parseMethodDescriptor mX12_lights.1.desc).map (fun d => d.parameters.length) = some 0) := ⟨tb_g 1429 rfl rfl, tb_g 123 (by decide +kernel) rfl, by decide +kernel⟩
theorem c_L_142 : CkM RL 142 mX12_lights 0 := ⟨q_X12_lights.1, q_X12_lights.2.1, q_X12_lights.2.2, Or.inl (tb_g 1426 (by decide +kernel) rfl)⟩
theorem k_X12_many : Cond.static mX12_many.1 ∈ TBg := tb_g 1431 (by decide +kernel) rfl
set_option maxRecDepth 20000 in
theorem q_X12_many : Cond.code mX12_many.1 mX12_many.2.1 mX12_many.2.2.1 mX12_many.2.2.2 ∈ TBg ∧ Cond.initialized mX12_many.1.cls ∈ TBg ∧ (mX12_many.1.cls ≠ "java/lang/invoke/MethodHandle" ∧ mX12_many.1.cls ≠ "java/lang/invoke/VarHandle" ∧ (parseMethodDescriptor mX12_many.1.desc).map (fun d => d.parameters.length) = some 1) := ⟨tb_g 1432 rfl rfl, tb_g 123 (by decide +kernel) rfl, by decide +kernel⟩
theorem c_X12_290 : CkM RX12 290 mX12_many 1 := ⟨q_X12_many.1, q_X12_many.2.1, q_X12_many.2.2, Or.inl (tb_g 1430 (by decide +kernel) rfl)⟩
theorem k_X12_helps : Cond.instanceMethod mX12_helps.1 ∈ TBg ∧ Cond.selects mX12_helps.1.cls mX12_helps.1 mX12_helps.1 ∈ TBg := ⟨tb_g 1435 (by decide +kernel) rfl, tb_g 94 (by decide +kernel) rfl⟩
set_option maxRecDepth 20000 in
theorem q_X12_helps : Cond.code mX12_helps.1 mX12_helps.2.1 mX12_helps.2.2.1 mX12_helps.2.2.2 ∈ TBg ∧ Cond.initialized mX12_helps.1.cls ∈ TBg ∧ (mX12_helps.1.cls ≠ "java/lang/invoke/MethodHandle" ∧ mX12_helps.1.cls ≠ "java/lang/invoke/VarHandle" ∧ (parseMethodDescriptor mX12_helps.1.desc).map (fun d => d.parameters.length) = some 1) := ⟨tb_g 1436 rfl rfl, tb_g 123 (by decide +kernel) rfl, by decide +kernel⟩
theorem c_X12_293 : CkM RX12 293 mX12_helps 1 := ⟨q_X12_helps.1, q_X12_helps.2.1, q_X12_helps.2.2, Or.inl (tb_g 1433 (by decide +kernel) rfl)⟩
theorem k_X12_rule : Cond.instanceMethod mX12_rule.1 ∈ TBg ∧ Cond.selects mX12_rule.1.cls mX12_rule.1 mX12_rule.1 ∈ TBg := ⟨tb_g 1438 (by decide +kernel) rfl, tb_g 1439 (by decide +kernel) rfl⟩
set_option maxRecDepth 20000 in
theorem q_X12_rule : Cond.code mX12_rule.1 mX12_rule.2.1 mX12_rule.2.2.1 mX12_rule.2.2.2 ∈ TBg ∧ Cond.initialized mX12_rule.1.cls ∈ TBg ∧ (mX12_rule.1.cls ≠ "java/lang/invoke/MethodHandle" ∧ mX12_rule.1.cls ≠ "java/lang/invoke/VarHandle" ∧ (parseMethodDescriptor mX12_rule.1.desc).map (fun d => d.parameters.length) = some 3) := ⟨tb_g 1440 rfl rfl, tb_g 123 (by decide +kernel) rfl, by decide +kernel⟩
theorem c_L_85 : CkM RL 85 mX12_rule 3 := ⟨q_X12_rule.1, q_X12_rule.2.1, q_X12_rule.2.2, Or.inl (tb_g 1437 (by decide +kernel) rfl)⟩
theorem k_X12_gives : Cond.instanceMethod mX12_gives.1 ∈ TBg ∧ Cond.selects mX12_gives.1.cls mX12_gives.1 mX12_gives.1 ∈ TBg := ⟨tb_g 1442 (by decide +kernel) rfl, tb_g 1443 (by decide +kernel) rfl⟩
set_option maxRecDepth 20000 in
theorem q_X12_gives : Cond.code mX12_gives.1 mX12_gives.2.1 mX12_gives.2.2.1 mX12_gives.2.2.2 ∈ TBg ∧ Cond.initialized mX12_gives.1.cls ∈ TBg ∧ (mX12_gives.1.cls ≠ "java/lang/invoke/MethodHandle" ∧ mX12_gives.1.cls ≠ "java/lang/invoke/VarHandle" ∧ (parseMethodDescriptor mX12_gives.1.desc).map (fun d => d.parameters.length) = some 5) := ⟨tb_g 1444 rfl rfl, tb_g 123 (by decide +kernel) rfl, by decide +kernel⟩
theorem c_L_147 : CkM RL 147 mX12_gives 5 := ⟨q_X12_gives.1, q_X12_gives.2.1, q_X12_gives.2.2, Or.inl (tb_g 1441 (by decide +kernel) rfl)⟩
theorem k_X12_isUnder : Cond.static mX12_isUnder.1 ∈ TBg := tb_g 1446 (by decide +kernel) rfl
set_option maxRecDepth 20000 in
theorem q_X12_isUnder : Cond.code mX12_isUnder.1 mX12_isUnder.2.1 mX12_isUnder.2.2.1 mX12_isUnder.2.2.2 ∈ TBg ∧ Cond.initialized mX12_isUnder.1.cls ∈ TBg ∧ (mX12_isUnder.1.cls ≠ "java/lang/invoke/MethodHandle" ∧ mX12_isUnder.1.cls ≠ "java/lang/invoke/VarHandle" ∧ (parseMethodDescriptor mX12_isUnder.1.desc).map (fun d => d.parameters.length) = some 2) := ⟨tb_g 1447 rfl rfl, tb_g 123 (by decide +kernel) rfl, by decide +kernel⟩
theorem c_X12_299 : CkM RX12 299 mX12_isUnder 2 := ⟨q_X12_isUnder.1, q_X12_isUnder.2.1, q_X12_isUnder.2.2, Or.inl (tb_g 1445 (by decide +kernel) rfl)⟩
theorem k_X12_tells : Cond.instanceMethod mX12_tells.1 ∈ TBg ∧ Cond.selects mX12_tells.1.cls mX12_tells.1 mX12_tells.1 ∈ TBg := ⟨tb_g 1450 (by decide +kernel) rfl, tb_g 95 (by decide +kernel) rfl⟩
set_option maxRecDepth 20000 in
theorem q_X12_tells : Cond.code mX12_tells.1 mX12_tells.2.1 mX12_tells.2.2.1 mX12_tells.2.2.2 ∈ TBg ∧ Cond.initialized mX12_tells.1.cls ∈ TBg ∧ (mX12_tells.1.cls ≠ "java/lang/invoke/MethodHandle" ∧ mX12_tells.1.cls ≠ "java/lang/invoke/VarHandle" ∧ (parseMethodDescriptor mX12_tells.1.desc).map (fun d => d.parameters.length) = some 5) := ⟨tb_g 1451 rfl rfl, tb_g 123 (by decide +kernel) rfl, by decide +kernel⟩
theorem c_X12_303 : CkM RX12 303 mX12_tells 5 := ⟨q_X12_tells.1, q_X12_tells.2.1, q_X12_tells.2.2, Or.inl (tb_g 1448 (by decide +kernel) rfl)⟩
theorem k_X12_image : Cond.instanceMethod mX12_image.1 ∈ TBg ∧ Cond.selects mX12_image.1.cls mX12_image.1 mX12_image.1 ∈ TBg := ⟨tb_g 1453 (by decide +kernel) rfl, tb_g 1454 (by decide +kernel) rfl⟩
set_option maxRecDepth 20000 in
theorem q_X12_image : Cond.code mX12_image.1 mX12_image.2.1 mX12_image.2.2.1 mX12_image.2.2.2 ∈ TBg ∧ Cond.initialized mX12_image.1.cls ∈ TBg ∧ (mX12_image.1.cls ≠ "java/lang/invoke/MethodHandle" ∧ mX12_image.1.cls ≠ "java/lang/invoke/VarHandle" ∧ (parseMethodDescriptor mX12_image.1.desc).map (fun d => d.parameters.length) = some 0) := ⟨tb_g 1455 rfl rfl, tb_g 123 (by decide +kernel) rfl, by decide +kernel⟩
theorem c_L_90 : CkM RL 90 mX12_image 0 := ⟨q_X12_image.1, q_X12_image.2.1, q_X12_image.2.2, Or.inl (tb_g 1452 (by decide +kernel) rfl)⟩
theorem k_X12_back : Cond.instanceMethod mX12_back.1 ∈ TBg ∧ Cond.selects mX12_back.1.cls mX12_back.1 mX12_back.1 ∈ TBg := ⟨tb_g 1457 (by decide +kernel) rfl, tb_g 1458 (by decide +kernel) rfl⟩
set_option maxRecDepth 20000 in
theorem q_X12_back : Cond.code mX12_back.1 mX12_back.2.1 mX12_back.2.2.1 mX12_back.2.2.2 ∈ TBg ∧ Cond.initialized mX12_back.1.cls ∈ TBg ∧ (mX12_back.1.cls ≠ "java/lang/invoke/MethodHandle" ∧ mX12_back.1.cls ≠ "java/lang/invoke/VarHandle" ∧ (parseMethodDescriptor mX12_back.1.desc).map (fun d => d.parameters.length) = some 0) := ⟨tb_g 1459 rfl rfl, tb_g 123 (by decide +kernel) rfl, by decide +kernel⟩
theorem c_L_94 : CkM RL 94 mX12_back 0 := ⟨q_X12_back.1, q_X12_back.2.1, q_X12_back.2.2, Or.inl (tb_g 1456 (by decide +kernel) rfl)⟩
theorem k_X12_lay : Cond.instanceMethod mX12_lay.1 ∈ TBg ∧ Cond.selects mX12_lay.1.cls mX12_lay.1 mX12_lay.1 ∈ TBg := ⟨tb_g 1462 (by decide +kernel) rfl, tb_g 96 (by decide +kernel) rfl⟩
set_option maxRecDepth 20000 in
theorem q_X12_lay : Cond.code mX12_lay.1 mX12_lay.2.1 mX12_lay.2.2.1 mX12_lay.2.2.2 ∈ TBg ∧ Cond.initialized mX12_lay.1.cls ∈ TBg ∧ (mX12_lay.1.cls ≠ "java/lang/invoke/MethodHandle" ∧ mX12_lay.1.cls ≠ "java/lang/invoke/VarHandle" ∧ (parseMethodDescriptor mX12_lay.1.desc).map (fun d => d.parameters.length) = some 0) := ⟨tb_g 1463 rfl rfl, tb_g 123 (by decide +kernel) rfl, by decide +kernel⟩
theorem c_X12_314 : CkM RX12 314 mX12_lay 0 := ⟨q_X12_lay.1, q_X12_lay.2.1, q_X12_lay.2.2, Or.inl (tb_g 1460 (by decide +kernel) rfl)⟩
theorem k_X12_count : Cond.instanceMethod mX12_count.1 ∈ TBg ∧ Cond.selects mX12_count.1.cls mX12_count.1 mX12_count.1 ∈ TBg := ⟨tb_g 1465 (by decide +kernel) rfl, tb_g 1466 (by decide +kernel) rfl⟩
set_option maxRecDepth 20000 in
theorem q_X12_count : Cond.code mX12_count.1 mX12_count.2.1 mX12_count.2.2.1 mX12_count.2.2.2 ∈ TBg ∧ Cond.initialized mX12_count.1.cls ∈ TBg ∧ (mX12_count.1.cls ≠ "java/lang/invoke/MethodHandle" ∧ mX12_count.1.cls ≠ "java/lang/invoke/VarHandle" ∧ (parseMethodDescriptor mX12_count.1.desc).map (fun d => d.parameters.length) = some 1) := ⟨tb_g 1467 rfl rfl, tb_g 123 (by decide +kernel) rfl, by decide +kernel⟩
theorem c_L_151 : CkM RL 151 mX12_count 1 := ⟨q_X12_count.1, q_X12_count.2.1, q_X12_count.2.2, Or.inl (tb_g 1464 (by decide +kernel) rfl)⟩
theorem k_X12_act : Cond.instanceMethod mX12_act.1 ∈ TBg ∧ Cond.selects mX12_act.1.cls mX12_act.1 mX12_act.1 ∈ TBg := ⟨tb_g 1469 (by decide +kernel) rfl, tb_g 1470 (by decide +kernel) rfl⟩
set_option maxRecDepth 20000 in
theorem q_X12_act : Cond.code mX12_act.1 mX12_act.2.1 mX12_act.2.2.1 mX12_act.2.2.2 ∈ TBg ∧ Cond.initialized mX12_act.1.cls ∈ TBg ∧ (mX12_act.1.cls ≠ "java/lang/invoke/MethodHandle" ∧ mX12_act.1.cls ≠ "java/lang/invoke/VarHandle" ∧ (parseMethodDescriptor mX12_act.1.desc).map (fun d => d.parameters.length) = some 3) := ⟨tb_g 1471 rfl rfl, tb_g 123 (by decide +kernel) rfl, by decide +kernel⟩
theorem c_L_155 : CkM RL 155 mX12_act 3 := ⟨q_X12_act.1, q_X12_act.2.1, q_X12_act.2.2, Or.inl (tb_g 1468 (by decide +kernel) rfl)⟩
theorem k_X12_bearOf : Cond.instanceMethod mX12_bearOf.1 ∈ TBg ∧ Cond.selects mX12_bearOf.1.cls mX12_bearOf.1 mX12_bearOf.1 ∈ TBg := ⟨tb_g 1474 (by decide +kernel) rfl, tb_g 97 (by decide +kernel) rfl⟩
set_option maxRecDepth 20000 in
theorem q_X12_bearOf : Cond.code mX12_bearOf.1 mX12_bearOf.2.1 mX12_bearOf.2.2.1 mX12_bearOf.2.2.2 ∈ TBg ∧ Cond.initialized mX12_bearOf.1.cls ∈ TBg ∧ (mX12_bearOf.1.cls ≠ "java/lang/invoke/MethodHandle" ∧ mX12_bearOf.1.cls ≠ "java/lang/invoke/VarHandle" ∧ (parseMethodDescriptor mX12_bearOf.1.desc).map (fun d => d.parameters.length) = some 2) := ⟨tb_g 1475 rfl rfl, tb_g 123 (by decide +kernel) rfl, by decide +kernel⟩
theorem c_X12_333 : CkM RX12 333 mX12_bearOf 2 := ⟨q_X12_bearOf.1, q_X12_bearOf.2.1, q_X12_bearOf.2.2, Or.inl (tb_g 1472 (by decide +kernel) rfl)⟩
theorem k_X12_ran : Cond.instanceMethod mX12_ran.1 ∈ TBg ∧ Cond.selects mX12_ran.1.cls mX12_ran.1 mX12_ran.1 ∈ TBg := ⟨tb_g 1478 (by decide +kernel) rfl, tb_g 98 (by decide +kernel) rfl⟩
set_option maxRecDepth 20000 in
theorem q_X12_ran : Cond.code mX12_ran.1 mX12_ran.2.1 mX12_ran.2.2.1 mX12_ran.2.2.2 ∈ TBg ∧ Cond.initialized mX12_ran.1.cls ∈ TBg ∧ (mX12_ran.1.cls ≠ "java/lang/invoke/MethodHandle" ∧ mX12_ran.1.cls ≠ "java/lang/invoke/VarHandle" ∧ (parseMethodDescriptor mX12_ran.1.desc).map (fun d => d.parameters.length) = some 1) := ⟨tb_g 1479 rfl rfl, tb_g 123 (by decide +kernel) rfl, by decide +kernel⟩
theorem c_X12_320 : CkM RX12 320 mX12_ran 1 := ⟨q_X12_ran.1, q_X12_ran.2.1, q_X12_ran.2.2, Or.inl (tb_g 1476 (by decide +kernel) rfl)⟩
theorem k_X12_bear20 : Cond.instanceMethod mX12_bear20.1 ∈ TBg ∧ Cond.selects mX12_bear20.1.cls mX12_bear20.1 mX12_bear20.1 ∈ TBg := ⟨tb_g 1482 (by decide +kernel) rfl, tb_g 99 (by decide +kernel) rfl⟩
set_option maxRecDepth 20000 in
theorem q_X12_bear20 : Cond.code mX12_bear20.1 mX12_bear20.2.1 mX12_bear20.2.2.1 mX12_bear20.2.2.2 ∈ TBg ∧ Cond.initialized mX12_bear20.1.cls ∈ TBg ∧ (mX12_bear20.1.cls ≠ "java/lang/invoke/MethodHandle" ∧ mX12_bear20.1.cls ≠ "java/lang/invoke/VarHandle" ∧ (parseMethodDescriptor mX12_bear20.1.desc).map (fun d => d.parameters.length) = some 2) := ⟨tb_g 1483 rfl rfl, tb_g 123 (by decide +kernel) rfl, by decide +kernel⟩
theorem c_X12_327 : CkM RX12 327 mX12_bear20 2 := ⟨q_X12_bear20.1, q_X12_bear20.2.1, q_X12_bear20.2.2, Or.inl (tb_g 1480 (by decide +kernel) rfl)⟩
theorem k_X12_bear10 : Cond.instanceMethod mX12_bear10.1 ∈ TBg ∧ Cond.selects mX12_bear10.1.cls mX12_bear10.1 mX12_bear10.1 ∈ TBg := ⟨tb_g 1486 (by decide +kernel) rfl, tb_g 100 (by decide +kernel) rfl⟩
set_option maxRecDepth 20000 in
theorem q_X12_bear10 : Cond.code mX12_bear10.1 mX12_bear10.2.1 mX12_bear10.2.2.1 mX12_bear10.2.2.2 ∈ TBg ∧ Cond.initialized mX12_bear10.1.cls ∈ TBg ∧ (mX12_bear10.1.cls ≠ "java/lang/invoke/MethodHandle" ∧ mX12_bear10.1.cls ≠ "java/lang/invoke/VarHandle" ∧ (parseMethodDescriptor mX12_bear10.1.desc).map (fun d => d.parameters.length) = some 2) := ⟨tb_g 1487 rfl rfl, tb_g 123 (by decide +kernel) rfl, by decide +kernel⟩
theorem c_X12_324 : CkM RX12 324 mX12_bear10 2 := ⟨q_X12_bear10.1, q_X12_bear10.2.1, q_X12_bear10.2.2, Or.inl (tb_g 1484 (by decide +kernel) rfl)⟩
theorem k_X12_moveOf : Cond.instanceMethod mX12_moveOf.1 ∈ TBg ∧ Cond.selects mX12_moveOf.1.cls mX12_moveOf.1 mX12_moveOf.1 ∈ TBg := ⟨tb_g 1490 (by decide +kernel) rfl, tb_g 101 (by decide +kernel) rfl⟩
set_option maxRecDepth 20000 in
theorem q_X12_moveOf : Cond.code mX12_moveOf.1 mX12_moveOf.2.1 mX12_moveOf.2.2.1 mX12_moveOf.2.2.2 ∈ TBg ∧ Cond.initialized mX12_moveOf.1.cls ∈ TBg ∧ (mX12_moveOf.1.cls ≠ "java/lang/invoke/MethodHandle" ∧ mX12_moveOf.1.cls ≠ "java/lang/invoke/VarHandle" ∧ (parseMethodDescriptor mX12_moveOf.1.desc).map (fun d => d.parameters.length) = some 2) := ⟨tb_g 1491 rfl rfl, tb_g 123 (by decide +kernel) rfl, by decide +kernel⟩
theorem c_X12_342 : CkM RX12 342 mX12_moveOf 2 := ⟨q_X12_moveOf.1, q_X12_moveOf.2.1, q_X12_moveOf.2.2, Or.inl (tb_g 1488 (by decide +kernel) rfl)⟩
theorem k_X12_move11 : Cond.instanceMethod mX12_move11.1 ∈ TBg ∧ Cond.selects mX12_move11.1.cls mX12_move11.1 mX12_move11.1 ∈ TBg := ⟨tb_g 1494 (by decide +kernel) rfl, tb_g 102 (by decide +kernel) rfl⟩
set_option maxRecDepth 20000 in
theorem q_X12_move11 : Cond.code mX12_move11.1 mX12_move11.2.1 mX12_move11.2.2.1 mX12_move11.2.2.2 ∈ TBg ∧ Cond.initialized mX12_move11.1.cls ∈ TBg ∧ (mX12_move11.1.cls ≠ "java/lang/invoke/MethodHandle" ∧ mX12_move11.1.cls ≠ "java/lang/invoke/VarHandle" ∧ (parseMethodDescriptor mX12_move11.1.desc).map (fun d => d.parameters.length) = some 2) := ⟨tb_g 1495 rfl rfl, tb_g 123 (by decide +kernel) rfl, by decide +kernel⟩
theorem c_X12_336 : CkM RX12 336 mX12_move11 2 := ⟨q_X12_move11.1, q_X12_move11.2.1, q_X12_move11.2.2, Or.inl (tb_g 1492 (by decide +kernel) rfl)⟩
theorem k_X12_barOf : Cond.instanceMethod mX12_barOf.1 ∈ TBg ∧ Cond.selects mX12_barOf.1.cls mX12_barOf.1 mX12_barOf.1 ∈ TBg := ⟨tb_g 1498 (by decide +kernel) rfl, tb_g 103 (by decide +kernel) rfl⟩
set_option maxRecDepth 20000 in
theorem q_X12_barOf : Cond.code mX12_barOf.1 mX12_barOf.2.1 mX12_barOf.2.2.1 mX12_barOf.2.2.2 ∈ TBg ∧ Cond.initialized mX12_barOf.1.cls ∈ TBg ∧ (mX12_barOf.1.cls ≠ "java/lang/invoke/MethodHandle" ∧ mX12_barOf.1.cls ≠ "java/lang/invoke/VarHandle" ∧ (parseMethodDescriptor mX12_barOf.1.desc).map (fun d => d.parameters.length) = some 2) := ⟨tb_g 1499 rfl rfl, tb_g 123 (by decide +kernel) rfl, by decide +kernel⟩
theorem c_X12_339 : CkM RX12 339 mX12_barOf 2 := ⟨q_X12_barOf.1, q_X12_barOf.2.1, q_X12_barOf.2.2, Or.inl (tb_g 1496 (by decide +kernel) rfl)⟩
theorem k_X12_bar12 : Cond.instanceMethod mX12_bar12.1 ∈ TBg ∧ Cond.selects mX12_bar12.1.cls mX12_bar12.1 mX12_bar12.1 ∈ TBg := ⟨tb_g 1502 (by decide +kernel) rfl, tb_g 104 (by decide +kernel) rfl⟩
set_option maxRecDepth 20000 in
theorem q_X12_bar12 : Cond.code mX12_bar12.1 mX12_bar12.2.1 mX12_bar12.2.2.1 mX12_bar12.2.2.2 ∈ TBg ∧ Cond.initialized mX12_bar12.1.cls ∈ TBg ∧ (mX12_bar12.1.cls ≠ "java/lang/invoke/MethodHandle" ∧ mX12_bar12.1.cls ≠ "java/lang/invoke/VarHandle" ∧ (parseMethodDescriptor mX12_bar12.1.desc).map (fun d => d.parameters.length) = some 2) := ⟨tb_g 1503 rfl rfl, tb_g 123 (by decide +kernel) rfl, by decide +kernel⟩
theorem c_X12_330 : CkM RX12 330 mX12_bar12 2 := ⟨q_X12_bar12.1, q_X12_bar12.2.1, q_X12_bar12.2.2, Or.inl (tb_g 1500 (by decide +kernel) rfl)⟩
theorem k_X12_tellOf : Cond.instanceMethod mX12_tellOf.1 ∈ TBg ∧ Cond.selects mX12_tellOf.1.cls mX12_tellOf.1 mX12_tellOf.1 ∈ TBg := ⟨tb_g 1506 (by decide +kernel) rfl, tb_g 105 (by decide +kernel) rfl⟩
set_option maxRecDepth 20000 in
theorem q_X12_tellOf : Cond.code mX12_tellOf.1 mX12_tellOf.2.1 mX12_tellOf.2.2.1 mX12_tellOf.2.2.2 ∈ TBg ∧ Cond.initialized mX12_tellOf.1.cls ∈ TBg ∧ (mX12_tellOf.1.cls ≠ "java/lang/invoke/MethodHandle" ∧ mX12_tellOf.1.cls ≠ "java/lang/invoke/VarHandle" ∧ (parseMethodDescriptor mX12_tellOf.1.desc).map (fun d => d.parameters.length) = some 2) := ⟨tb_g 1507 rfl rfl, tb_g 123 (by decide +kernel) rfl, by decide +kernel⟩
theorem c_X12_348 : CkM RX12 348 mX12_tellOf 2 := ⟨q_X12_tellOf.1, q_X12_tellOf.2.1, q_X12_tellOf.2.2, Or.inl (tb_g 1504 (by decide +kernel) rfl)⟩
theorem k_X12_tell13 : Cond.instanceMethod mX12_tell13.1 ∈ TBg ∧ Cond.selects mX12_tell13.1.cls mX12_tell13.1 mX12_tell13.1 ∈ TBg := ⟨tb_g 1510 (by decide +kernel) rfl, tb_g 106 (by decide +kernel) rfl⟩
set_option maxRecDepth 20000 in
theorem q_X12_tell13 : Cond.code mX12_tell13.1 mX12_tell13.2.1 mX12_tell13.2.2.1 mX12_tell13.2.2.2 ∈ TBg ∧ Cond.initialized mX12_tell13.1.cls ∈ TBg ∧ (mX12_tell13.1.cls ≠ "java/lang/invoke/MethodHandle" ∧ mX12_tell13.1.cls ≠ "java/lang/invoke/VarHandle" ∧ (parseMethodDescriptor mX12_tell13.1.desc).map (fun d => d.parameters.length) = some 2) := ⟨tb_g 1511 rfl rfl, tb_g 123 (by decide +kernel) rfl, by decide +kernel⟩
theorem c_X12_345 : CkM RX12 345 mX12_tell13 2 := ⟨q_X12_tell13.1, q_X12_tell13.2.1, q_X12_tell13.2.2, Or.inl (tb_g 1508 (by decide +kernel) rfl)⟩
theorem k_X12_trace : Cond.instanceMethod mX12_trace.1 ∈ TBg ∧ Cond.selects mX12_trace.1.cls mX12_trace.1 mX12_trace.1 ∈ TBg := ⟨tb_g 1513 (by decide +kernel) rfl, tb_g 1514 (by decide +kernel) rfl⟩
set_option maxRecDepth 20000 in
theorem q_X12_trace : Cond.code mX12_trace.1 mX12_trace.2.1 mX12_trace.2.2.1 mX12_trace.2.2.2 ∈ TBg ∧ Cond.initialized mX12_trace.1.cls ∈ TBg ∧ (mX12_trace.1.cls ≠ "java/lang/invoke/MethodHandle" ∧ mX12_trace.1.cls ≠ "java/lang/invoke/VarHandle" ∧ (parseMethodDescriptor mX12_trace.1.desc).map (fun d => d.parameters.length) = some 1) := ⟨tb_g 1515 rfl rfl, tb_g 123 (by decide +kernel) rfl, by decide +kernel⟩
theorem c_L_159 : CkM RL 159 mX12_trace 1 := ⟨q_X12_trace.1, q_X12_trace.2.1, q_X12_trace.2.2, Or.inl (tb_g 1512 (by decide +kernel) rfl)⟩
theorem k_X12_sheet : Cond.instanceMethod mX12_sheet.1 ∈ TBg ∧ Cond.selects mX12_sheet.1.cls mX12_sheet.1 mX12_sheet.1 ∈ TBg := ⟨tb_g 1517 (by decide +kernel) rfl, tb_g 1518 (by decide +kernel) rfl⟩
set_option maxRecDepth 20000 in
theorem q_X12_sheet : Cond.code mX12_sheet.1 mX12_sheet.2.1 mX12_sheet.2.2.1 mX12_sheet.2.2.2 ∈ TBg ∧ Cond.initialized mX12_sheet.1.cls ∈ TBg ∧ (mX12_sheet.1.cls ≠ "java/lang/invoke/MethodHandle" ∧ mX12_sheet.1.cls ≠ "java/lang/invoke/VarHandle" ∧ (parseMethodDescriptor mX12_sheet.1.desc).map (fun d => d.parameters.length) = some 3) := ⟨tb_g 1519 rfl rfl, tb_g 123 (by decide +kernel) rfl, by decide +kernel⟩
theorem c_L_163 : CkM RL 163 mX12_sheet 3 := ⟨q_X12_sheet.1, q_X12_sheet.2.1, q_X12_sheet.2.2, Or.inl (tb_g 1516 (by decide +kernel) rfl)⟩
theorem k_X12_cell : Cond.instanceMethod mX12_cell.1 ∈ TBg ∧ Cond.selects mX12_cell.1.cls mX12_cell.1 mX12_cell.1 ∈ TBg := ⟨tb_g 1521 (by decide +kernel) rfl, tb_g 1522 (by decide +kernel) rfl⟩
set_option maxRecDepth 20000 in
theorem q_X12_cell : Cond.code mX12_cell.1 mX12_cell.2.1 mX12_cell.2.2.1 mX12_cell.2.2.2 ∈ TBg ∧ Cond.initialized mX12_cell.1.cls ∈ TBg ∧ (mX12_cell.1.cls ≠ "java/lang/invoke/MethodHandle" ∧ mX12_cell.1.cls ≠ "java/lang/invoke/VarHandle" ∧ (parseMethodDescriptor mX12_cell.1.desc).map (fun d => d.parameters.length) = some 3) := ⟨tb_g 1523 rfl rfl, tb_g 123 (by decide +kernel) rfl, by decide +kernel⟩
theorem c_L_167 : CkM RL 167 mX12_cell 3 := ⟨q_X12_cell.1, q_X12_cell.2.1, q_X12_cell.2.2, Or.inl (tb_g 1520 (by decide +kernel) rfl)⟩
theorem k_X12_none : Cond.instanceMethod mX12_none.1 ∈ TBg ∧ Cond.selects mX12_none.1.cls mX12_none.1 mX12_none.1 ∈ TBg := ⟨tb_g 1525 (by decide +kernel) rfl, tb_g 1526 (by decide +kernel) rfl⟩
set_option maxRecDepth 20000 in
theorem q_X12_none : Cond.code mX12_none.1 mX12_none.2.1 mX12_none.2.2.1 mX12_none.2.2.2 ∈ TBg ∧ Cond.initialized mX12_none.1.cls ∈ TBg ∧ (mX12_none.1.cls ≠ "java/lang/invoke/MethodHandle" ∧ mX12_none.1.cls ≠ "java/lang/invoke/VarHandle" ∧ (parseMethodDescriptor mX12_none.1.desc).map (fun d => d.parameters.length) = some 2) := ⟨tb_g 1527 rfl rfl, tb_g 123 (by decide +kernel) rfl, by decide +kernel⟩
theorem c_L_171 : CkM RL 171 mX12_none 2 := ⟨q_X12_none.1, q_X12_none.2.1, q_X12_none.2.2, Or.inl (tb_g 1524 (by decide +kernel) rfl)⟩
theorem k_X12_gauges : Cond.instanceMethod mX12_gauges.1 ∈ TBg ∧ Cond.selects mX12_gauges.1.cls mX12_gauges.1 mX12_gauges.1 ∈ TBg := ⟨tb_g 1529 (by decide +kernel) rfl, tb_g 1530 (by decide +kernel) rfl⟩
set_option maxRecDepth 20000 in
theorem q_X12_gauges : Cond.code mX12_gauges.1 mX12_gauges.2.1 mX12_gauges.2.2.1 mX12_gauges.2.2.2 ∈ TBg ∧ Cond.initialized mX12_gauges.1.cls ∈ TBg ∧ (mX12_gauges.1.cls ≠ "java/lang/invoke/MethodHandle" ∧ mX12_gauges.1.cls ≠ "java/lang/invoke/VarHandle" ∧ (parseMethodDescriptor mX12_gauges.1.desc).map (fun d => d.parameters.length) = some 4) := ⟨tb_g 1531 rfl rfl, tb_g 123 (by decide +kernel) rfl, by decide +kernel⟩
theorem c_L_175 : CkM RL 175 mX12_gauges 4 := ⟨q_X12_gauges.1, q_X12_gauges.2.1, q_X12_gauges.2.2, Or.inl (tb_g 1528 (by decide +kernel) rfl)⟩
theorem k_X12_forge : Cond.instanceMethod mX12_forge.1 ∈ TBg ∧ Cond.selects mX12_forge.1.cls mX12_forge.1 mX12_forge.1 ∈ TBg := ⟨tb_g 1533 (by decide +kernel) rfl, tb_g 1534 (by decide +kernel) rfl⟩
set_option maxRecDepth 20000 in
theorem q_X12_forge : Cond.code mX12_forge.1 mX12_forge.2.1 mX12_forge.2.2.1 mX12_forge.2.2.2 ∈ TBg ∧ Cond.initialized mX12_forge.1.cls ∈ TBg ∧ (mX12_forge.1.cls ≠ "java/lang/invoke/MethodHandle" ∧ mX12_forge.1.cls ≠ "java/lang/invoke/VarHandle" ∧ (parseMethodDescriptor mX12_forge.1.desc).map (fun d => d.parameters.length) = some 3) := ⟨tb_g 1535 rfl rfl, tb_g 123 (by decide +kernel) rfl, by decide +kernel⟩
theorem c_L_179 : CkM RL 179 mX12_forge 3 := ⟨q_X12_forge.1, q_X12_forge.2.1, q_X12_forge.2.2, Or.inl (tb_g 1532 (by decide +kernel) rfl)⟩
theorem k_X12_modulo : Cond.static mX12_modulo.1 ∈ TBg := tb_g 1537 (by decide +kernel) rfl
set_option maxRecDepth 20000 in
theorem q_X12_modulo : Cond.code mX12_modulo.1 mX12_modulo.2.1 mX12_modulo.2.2.1 mX12_modulo.2.2.2 ∈ TBg ∧ Cond.initialized mX12_modulo.1.cls ∈ TBg ∧ (mX12_modulo.1.cls ≠ "java/lang/invoke/MethodHandle" ∧ mX12_modulo.1.cls ≠ "java/lang/invoke/VarHandle" ∧ (parseMethodDescriptor mX12_modulo.1.desc).map (fun d => d.parameters.length) = some 2) := ⟨tb_g 1538 rfl rfl, tb_g 123 (by decide +kernel) rfl, by decide +kernel⟩
theorem c_X12_351 : CkM RX12 351 mX12_modulo 2 := ⟨q_X12_modulo.1, q_X12_modulo.2.1, q_X12_modulo.2.2, Or.inl (tb_g 1536 (by decide +kernel) rfl)⟩
theorem k_X12_shorts : Cond.instanceMethod mX12_shorts.1 ∈ TBg ∧ Cond.selects mX12_shorts.1.cls mX12_shorts.1 mX12_shorts.1 ∈ TBg := ⟨tb_g 1541 (by decide +kernel) rfl, tb_g 107 (by decide +kernel) rfl⟩
set_option maxRecDepth 20000 in
theorem q_X12_shorts : Cond.code mX12_shorts.1 mX12_shorts.2.1 mX12_shorts.2.2.1 mX12_shorts.2.2.2 ∈ TBg ∧ Cond.initialized mX12_shorts.1.cls ∈ TBg ∧ (mX12_shorts.1.cls ≠ "java/lang/invoke/MethodHandle" ∧ mX12_shorts.1.cls ≠ "java/lang/invoke/VarHandle" ∧ (parseMethodDescriptor mX12_shorts.1.desc).map (fun d => d.parameters.length) = some 2) := ⟨tb_g 1542 rfl rfl, tb_g 123 (by decide +kernel) rfl, by decide +kernel⟩
theorem c_X12_354 : CkM RX12 354 mX12_shorts 2 := ⟨q_X12_shorts.1, q_X12_shorts.2.1, q_X12_shorts.2.2, Or.inl (tb_g 1539 (by decide +kernel) rfl)⟩
theorem k_X12_copied : Cond.instanceMethod mX12_copied.1 ∈ TBg ∧ Cond.selects mX12_copied.1.cls mX12_copied.1 mX12_copied.1 ∈ TBg := ⟨tb_g 1545 (by decide +kernel) rfl, tb_g 108 (by decide +kernel) rfl⟩
set_option maxRecDepth 20000 in
theorem q_X12_copied : Cond.code mX12_copied.1 mX12_copied.2.1 mX12_copied.2.2.1 mX12_copied.2.2.2 ∈ TBg ∧ Cond.initialized mX12_copied.1.cls ∈ TBg ∧ (mX12_copied.1.cls ≠ "java/lang/invoke/MethodHandle" ∧ mX12_copied.1.cls ≠ "java/lang/invoke/VarHandle" ∧ (parseMethodDescriptor mX12_copied.1.desc).map (fun d => d.parameters.length) = some 2) := ⟨tb_g 1546 rfl rfl, tb_g 123 (by decide +kernel) rfl, by decide +kernel⟩
theorem c_X12_357 : CkM RX12 357 mX12_copied 2 := ⟨q_X12_copied.1, q_X12_copied.2.1, q_X12_copied.2.2, Or.inl (tb_g 1543 (by decide +kernel) rfl)⟩
theorem k_X12_status : Cond.instanceMethod mX12_status.1 ∈ TBg ∧ Cond.selects mX12_status.1.cls mX12_status.1 mX12_status.1 ∈ TBg := ⟨tb_g 1548 (by decide +kernel) rfl, tb_g 1549 (by decide +kernel) rfl⟩
set_option maxRecDepth 20000 in
theorem q_X12_status : Cond.code mX12_status.1 mX12_status.2.1 mX12_status.2.2.1 mX12_status.2.2.2 ∈ TBg ∧ Cond.initialized mX12_status.1.cls ∈ TBg ∧ (mX12_status.1.cls ≠ "java/lang/invoke/MethodHandle" ∧ mX12_status.1.cls ≠ "java/lang/invoke/VarHandle" ∧ (parseMethodDescriptor mX12_status.1.desc).map (fun d => d.parameters.length) = some 0) := ⟨tb_g 1550 rfl rfl, tb_g 123 (by decide +kernel) rfl, by decide +kernel⟩
theorem c_L_183 : CkM RL 183 mX12_status 0 := ⟨q_X12_status.1, q_X12_status.2.1, q_X12_status.2.2, Or.inl (tb_g 1547 (by decide +kernel) rfl)⟩
theorem g_L_7 : Cond.classLink RL 7 RX11 ∈ TBg := tb_g 127 (by decide +kernel) rfl
theorem n_X11 : Cond.instantiable RX11 8 ∈ TBg ∧ Cond.initialized RX11 ∈ TBg := ⟨tb_g 128 (by decide +kernel) rfl, tb_g 110 (by decide +kernel) rfl⟩
theorem g_X11_7 : Cond.classLink RX11 7 RX4 ∈ TBg := tb_g 135 (by decide +kernel) rfl
theorem n_X4 : Cond.instantiable RX4 16 ∈ TBg ∧ Cond.initialized RX4 ∈ TBg := ⟨tb_g 136 (by decide +kernel) rfl, tb_g 111 (by decide +kernel) rfl⟩
theorem g_X4_44 : Cond.classLink RX4 44 RX7 ∈ TBg := tb_g 141 (by decide +kernel) rfl
theorem g_X4_50 : Cond.classLink RX4 50 RX3 ∈ TBg := tb_g 143 (by decide +kernel) rfl
theorem g_X4_56 : Cond.classLink RX4 56 RX2 ∈ TBg := tb_g 145 (by decide +kernel) rfl
theorem g_X4_62 : Cond.classLink RX4 62 RX1 ∈ TBg := tb_g 147 (by decide +kernel) rfl
theorem g_X4_68 : Cond.classLink RX4 68 RX8 ∈ TBg := tb_g 149 (by decide +kernel) rfl
theorem g_X4_74 : Cond.classLink RX4 74 RX5 ∈ TBg := tb_g 151 (by decide +kernel) rfl
theorem n_X7 : Cond.instantiable RX7 6 ∈ TBg ∧ Cond.initialized RX7 ∈ TBg := ⟨tb_g 156 (by decide +kernel) rfl, tb_g 113 (by decide +kernel) rfl⟩
theorem a_I : Cond.arrayClass FieldType.int ∈ TBg := tb_g 193 (by decide +kernel) rfl
theorem a_Z : Cond.arrayClass FieldType.boolean ∈ TBg := tb_g 194 (by decide +kernel) rfl
theorem n_X3 : Cond.instantiable RX3 2 ∈ TBg ∧ Cond.initialized RX3 ∈ TBg := ⟨tb_g 195 (by decide +kernel) rfl, tb_g 114 (by decide +kernel) rfl⟩
theorem g_X3_13 : Cond.classLink RX3 13 RX10 ∈ TBg := tb_g 200 (by decide +kernel) rfl
theorem n_X10 : Cond.instantiable RX10 2 ∈ TBg ∧ Cond.initialized RX10 ∈ TBg := ⟨tb_g 201 (by decide +kernel) rfl, tb_g 115 (by decide +kernel) rfl⟩
theorem n_X2 : Cond.instantiable RX2 10 ∈ TBg ∧ Cond.initialized RX2 ∈ TBg := ⟨tb_g 226 (by decide +kernel) rfl, tb_g 116 (by decide +kernel) rfl⟩
theorem g_X2_39 : Cond.classLink RX2 39 RX10 ∈ TBg := tb_g 231 (by decide +kernel) rfl
theorem n_X1 : Cond.instantiable RX1 5 ∈ TBg ∧ Cond.initialized RX1 ∈ TBg := ⟨tb_g 279 (by decide +kernel) rfl, tb_g 117 (by decide +kernel) rfl⟩
theorem n_X8 : Cond.instantiable RX8 3 ∈ TBg ∧ Cond.initialized RX8 ∈ TBg := ⟨tb_g 307 (by decide +kernel) rfl, tb_g 118 (by decide +kernel) rfl⟩
theorem n_X5 : Cond.instantiable RX5 4 ∈ TBg ∧ Cond.initialized RX5 ∈ TBg := ⟨tb_g 323 (by decide +kernel) rfl, tb_g 119 (by decide +kernel) rfl⟩
theorem g_X11_26 : Cond.classLink RX11 26 RX6 ∈ TBg := tb_g 408 (by decide +kernel) rfl
theorem g_X11_32 : Cond.classLink RX11 32 RX0 ∈ TBg := tb_g 410 (by decide +kernel) rfl
theorem n_X0 : Cond.instantiable RX0 2 ∈ TBg ∧ Cond.initialized RX0 ∈ TBg := ⟨tb_g 411 (by decide +kernel) rfl, tb_g 120 (by decide +kernel) rfl⟩
theorem g_X11_39 : Cond.classLink RX11 39 RX9 ∈ TBg := tb_g 425 (by decide +kernel) rfl
theorem n_X9 : Cond.instantiable RX9 5 ∈ TBg ∧ Cond.initialized RX9 ∈ TBg := ⟨tb_g 426 (by decide +kernel) rfl, tb_g 121 (by decide +kernel) rfl⟩
theorem n_X6 : Cond.instantiable RX6 3 ∈ TBg ∧ Cond.initialized RX6 ∈ TBg := ⟨tb_g 447 (by decide +kernel) rfl, tb_g 122 (by decide +kernel) rfl⟩
theorem l_X9_52 : Cond.constant RX9 52 (1000000 : Int32) ∈ TBg := tb_g 836 (by decide +kernel) rfl
theorem l_J_265 : Cond.constant "java/lang/Integer" 265 (1431655765 : Int32) ∈ TBg := tb_g 872 (by decide +kernel) rfl
theorem l_J_266 : Cond.constant "java/lang/Integer" 266 (858993459 : Int32) ∈ TBg := tb_g 873 (by decide +kernel) rfl
theorem l_J_267 : Cond.constant "java/lang/Integer" 267 (252645135 : Int32) ∈ TBg := tb_g 874 (by decide +kernel) rfl
theorem g_L_10 : Cond.classLink RL 10 RX12 ∈ TBg := tb_g 1009 (by decide +kernel) rfl
theorem n_X12 : Cond.instantiable RX12 64 ∈ TBg ∧ Cond.initialized RX12 ∈ TBg := ⟨tb_g 1010 (by decide +kernel) rfl, tb_g 123 (by decide +kernel) rfl⟩
theorem l_X12_273 : Cond.constant RX12 273 (1000000000 : Int32) ∈ TBg := tb_g 1416 (by decide +kernel) rfl
theorem z_X0 : ∀ ty : Nat → FieldType, (∀ k, k < 2 → parseFieldDescriptor (TX0 k).2.2.1 = some (ty k)) → ∀ j, j < 2 → defaultValue (ty j) = if isR 0 j = true then .null else .int 0 := by
  intro ty h j hj
  have h2 := tyX0_ok j hj
  have h3 : ty j = tyX0 j := Option.some.inj ((h j hj).symm.trans h2)
  rw [h3]
  exact (by decide +kernel : ∀ j, j < 2 → defaultValue (tyX0 j) = if isR 0 j = true then .null else .int 0) j hj
theorem z_X1 : ∀ ty : Nat → FieldType, (∀ k, k < 5 → parseFieldDescriptor (TX1 k).2.2.1 = some (ty k)) → ∀ j, j < 5 → defaultValue (ty j) = if isR 1 j = true then .null else .int 0 := by
  intro ty h j hj
  have h2 := tyX1_ok j hj
  have h3 : ty j = tyX1 j := Option.some.inj ((h j hj).symm.trans h2)
  rw [h3]
  exact (by decide +kernel : ∀ j, j < 5 → defaultValue (tyX1 j) = if isR 1 j = true then .null else .int 0) j hj
theorem z_X2 : ∀ ty : Nat → FieldType, (∀ k, k < 10 → parseFieldDescriptor (TX2 k).2.2.1 = some (ty k)) → ∀ j, j < 10 → defaultValue (ty j) = if isR 2 j = true then .null else .int 0 := by
  intro ty h j hj
  have h2 := tyX2_ok j hj
  have h3 : ty j = tyX2 j := Option.some.inj ((h j hj).symm.trans h2)
  rw [h3]
  exact (by decide +kernel : ∀ j, j < 10 → defaultValue (tyX2 j) = if isR 2 j = true then .null else .int 0) j hj
theorem z_X3 : ∀ ty : Nat → FieldType, (∀ k, k < 2 → parseFieldDescriptor (TX3 k).2.2.1 = some (ty k)) → ∀ j, j < 2 → defaultValue (ty j) = if isR 3 j = true then .null else .int 0 := by
  intro ty h j hj
  have h2 := tyX3_ok j hj
  have h3 : ty j = tyX3 j := Option.some.inj ((h j hj).symm.trans h2)
  rw [h3]
  exact (by decide +kernel : ∀ j, j < 2 → defaultValue (tyX3 j) = if isR 3 j = true then .null else .int 0) j hj
theorem z_X4 : ∀ ty : Nat → FieldType, (∀ k, k < 16 → parseFieldDescriptor (TX4 k).2.2.1 = some (ty k)) → ∀ j, j < 16 → defaultValue (ty j) = if isR 4 j = true then .null else .int 0 := by
  intro ty h j hj
  have h2 := tyX4_ok j hj
  have h3 : ty j = tyX4 j := Option.some.inj ((h j hj).symm.trans h2)
  rw [h3]
  exact (by decide +kernel : ∀ j, j < 16 → defaultValue (tyX4 j) = if isR 4 j = true then .null else .int 0) j hj
theorem z_X5 : ∀ ty : Nat → FieldType, (∀ k, k < 4 → parseFieldDescriptor (TX5 k).2.2.1 = some (ty k)) → ∀ j, j < 4 → defaultValue (ty j) = if isR 5 j = true then .null else .int 0 := by
  intro ty h j hj
  have h2 := tyX5_ok j hj
  have h3 : ty j = tyX5 j := Option.some.inj ((h j hj).symm.trans h2)
  rw [h3]
  exact (by decide +kernel : ∀ j, j < 4 → defaultValue (tyX5 j) = if isR 5 j = true then .null else .int 0) j hj
theorem z_X6 : ∀ ty : Nat → FieldType, (∀ k, k < 3 → parseFieldDescriptor (TX6 k).2.2.1 = some (ty k)) → ∀ j, j < 3 → defaultValue (ty j) = if isR 6 j = true then .null else .int 0 := by
  intro ty h j hj
  have h2 := tyX6_ok j hj
  have h3 : ty j = tyX6 j := Option.some.inj ((h j hj).symm.trans h2)
  rw [h3]
  exact (by decide +kernel : ∀ j, j < 3 → defaultValue (tyX6 j) = if isR 6 j = true then .null else .int 0) j hj
theorem z_X7 : ∀ ty : Nat → FieldType, (∀ k, k < 6 → parseFieldDescriptor (TX7 k).2.2.1 = some (ty k)) → ∀ j, j < 6 → defaultValue (ty j) = if isR 7 j = true then .null else .int 0 := by
  intro ty h j hj
  have h2 := tyX7_ok j hj
  have h3 : ty j = tyX7 j := Option.some.inj ((h j hj).symm.trans h2)
  rw [h3]
  exact (by decide +kernel : ∀ j, j < 6 → defaultValue (tyX7 j) = if isR 7 j = true then .null else .int 0) j hj
theorem z_X8 : ∀ ty : Nat → FieldType, (∀ k, k < 3 → parseFieldDescriptor (TX8 k).2.2.1 = some (ty k)) → ∀ j, j < 3 → defaultValue (ty j) = if isR 8 j = true then .null else .int 0 := by
  intro ty h j hj
  have h2 := tyX8_ok j hj
  have h3 : ty j = tyX8 j := Option.some.inj ((h j hj).symm.trans h2)
  rw [h3]
  exact (by decide +kernel : ∀ j, j < 3 → defaultValue (tyX8 j) = if isR 8 j = true then .null else .int 0) j hj
theorem z_X9 : ∀ ty : Nat → FieldType, (∀ k, k < 5 → parseFieldDescriptor (TX9 k).2.2.1 = some (ty k)) → ∀ j, j < 5 → defaultValue (ty j) = if isR 9 j = true then .null else .int 0 := by
  intro ty h j hj
  have h2 := tyX9_ok j hj
  have h3 : ty j = tyX9 j := Option.some.inj ((h j hj).symm.trans h2)
  rw [h3]
  exact (by decide +kernel : ∀ j, j < 5 → defaultValue (tyX9 j) = if isR 9 j = true then .null else .int 0) j hj
theorem z_X10 : ∀ ty : Nat → FieldType, (∀ k, k < 2 → parseFieldDescriptor (TX10 k).2.2.1 = some (ty k)) → ∀ j, j < 2 → defaultValue (ty j) = if isR 10 j = true then .null else .int 0 := by
  intro ty h j hj
  have h2 := tyX10_ok j hj
  have h3 : ty j = tyX10 j := Option.some.inj ((h j hj).symm.trans h2)
  rw [h3]
  exact (by decide +kernel : ∀ j, j < 2 → defaultValue (tyX10 j) = if isR 10 j = true then .null else .int 0) j hj
theorem z_X11 : ∀ ty : Nat → FieldType, (∀ k, k < 8 → parseFieldDescriptor (TX11 k).2.2.1 = some (ty k)) → ∀ j, j < 8 → defaultValue (ty j) = if isR 11 j = true then .null else .int 0 := by
  intro ty h j hj
  have h2 := tyX11_ok j hj
  have h3 : ty j = tyX11 j := Option.some.inj ((h j hj).symm.trans h2)
  rw [h3]
  exact (by decide +kernel : ∀ j, j < 8 → defaultValue (tyX11 j) = if isR 11 j = true then .null else .int 0) j hj
theorem z_X12 : ∀ ty : Nat → FieldType, (∀ k, k < 64 → parseFieldDescriptor (TX12 k).2.2.1 = some (ty k)) → ∀ j, j < 64 → defaultValue (ty j) = if isR 12 j = true then .null else .int 0 := by
  intro ty h j hj
  have h2 := tyX12_ok j hj
  have h3 : ty j = tyX12 j := Option.some.inj ((h j hj).symm.trans h2)
  rw [h3]
  exact (by decide +kernel : ∀ j, j < 64 → defaultValue (tyX12 j) = if isR 12 j = true then .null else .int 0) j hj
