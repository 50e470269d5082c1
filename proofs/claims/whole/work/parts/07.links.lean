theorem xw_inI {w : Cond} (i : Nat) (h : lw_tbl[i]? = some w) (g : goodWord w = true) : w ∈ xw_tbl := xw_in (List.mem_of_getElem? h) g
theorem xw_inNI {w : Cond} (i : Nat) (h : lw_tbl[i]? = some w) (g : xw_isN w = true) : w ∈ xw_nst := xw_inN (List.mem_of_getElem? h) g
set_option maxRecDepth 100000 in
theorem fl_X7_10 : xk_FL RX7 10 7 0 (.object "BillTender$Book") true := ⟨RX7, TX7, 8, rfl, by decide, rfl, by decide +kernel, Or.inl (xw_inI 396 (by decide +kernel) rfl)⟩
set_option maxRecDepth 100000 in
theorem fl_X7_21 : xk_FL RX7 21 7 1 (.object "BillTender$Sale") true := ⟨RX7, TX7, 8, rfl, by decide, rfl, by decide +kernel, Or.inl (xw_inI 397 (by decide +kernel) rfl)⟩
set_option maxRecDepth 100000 in
theorem fl_X7_25 : xk_FL RX7 25 7 2 (.object "BillTender$Book") true := ⟨RX7, TX7, 8, rfl, by decide, rfl, by decide +kernel, Or.inl (xw_inI 398 (by decide +kernel) rfl)⟩
set_option maxRecDepth 100000 in
theorem fl_X7_28 : xk_FL RX7 28 7 3 (.object "BillTender$Sale") true := ⟨RX7, TX7, 8, rfl, by decide, rfl, by decide +kernel, Or.inl (xw_inI 399 (by decide +kernel) rfl)⟩
set_option maxRecDepth 100000 in
theorem fl_X7_34 : xk_FL RX7 34 7 4 (.object "BillTender$Past") true := ⟨RX7, TX7, 8, rfl, by decide, rfl, by decide +kernel, Or.inl (xw_inI 400 (by decide +kernel) rfl)⟩
set_option maxRecDepth 100000 in
theorem fl_X7_41 : xk_FL RX7 41 7 5 (.object "BillTender$Tape") true := ⟨RX7, TX7, 8, rfl, by decide, rfl, by decide +kernel, Or.inl (xw_inI 401 (by decide +kernel) rfl)⟩
set_option maxRecDepth 100000 in
theorem fl_X7_50 : xk_FL RX7 50 7 6 (.object "BillTender$Reader") true := ⟨RX7, TX7, 8, rfl, by decide, rfl, by decide +kernel, Or.inl (xw_inI 402 (by decide +kernel) rfl)⟩
set_option maxRecDepth 100000 in
theorem fl_X7_57 : xk_FL RX7 57 7 7 (.object "BillTender$Speller") true := ⟨RX7, TX7, 8, rfl, by decide, rfl, by decide +kernel, Or.inl (xw_inI 403 (by decide +kernel) rfl)⟩
set_option maxRecDepth 100000 in
theorem fl_X7_69 : xk_FL RX7 69 6 1 .int false := ⟨RX6, TX6, 2, rfl, by decide, rfl, by decide +kernel, Or.inr (xw_inNI 350 (by decide +kernel) rfl)⟩
set_option maxRecDepth 100000 in
theorem fl_X7_83 : xk_FL RX7 83 0 7 .int false := ⟨RX0, TX0, 8, rfl, by decide, rfl, by decide +kernel, Or.inr (xw_inNI 234 (by decide +kernel) rfl)⟩
set_option maxRecDepth 100000 in
theorem fl_X7_116 : xk_FL RX7 116 0 5 (.array .int) true := ⟨RX0, TX0, 8, rfl, by decide, rfl, by decide +kernel, Or.inr (xw_inNI 227 (by decide +kernel) rfl)⟩
set_option maxRecDepth 100000 in
theorem fl_X7_120 : xk_FL RX7 120 0 4 (.array .int) true := ⟨RX0, TX0, 8, rfl, by decide, rfl, by decide +kernel, Or.inr (xw_inNI 223 (by decide +kernel) rfl)⟩
set_option maxRecDepth 100000 in
theorem fl_X7_127 : xk_FL RX7 127 0 0 (.array .int) true := ⟨RX0, TX0, 8, rfl, by decide, rfl, by decide +kernel, Or.inr (xw_inNI 205 (by decide +kernel) rfl)⟩
set_option maxRecDepth 100000 in
theorem fl_X7_130 : xk_FL RX7 130 0 2 (.array .int) true := ⟨RX0, TX0, 8, rfl, by decide, rfl, by decide +kernel, Or.inr (xw_inNI 215 (by decide +kernel) rfl)⟩
set_option maxRecDepth 100000 in
theorem fl_X7_133 : xk_FL RX7 133 0 3 (.array .int) true := ⟨RX0, TX0, 8, rfl, by decide, rfl, by decide +kernel, Or.inr (xw_inNI 219 (by decide +kernel) rfl)⟩
set_option maxRecDepth 100000 in
theorem fl_X7_139 : xk_FL RX7 139 0 1 (.array .int) true := ⟨RX0, TX0, 8, rfl, by decide, rfl, by decide +kernel, Or.inr (xw_inNI 210 (by decide +kernel) rfl)⟩
set_option maxRecDepth 100000 in
theorem fl_X7_149 : xk_FL RX7 149 0 6 (.object "BillTender$Ledger") true := ⟨RX0, TX0, 8, rfl, by decide, rfl, by decide +kernel, Or.inr (xw_inNI 229 (by decide +kernel) rfl)⟩
set_option maxRecDepth 100000 in
theorem fl_X7_153 : xk_FL RX7 153 4 14 .int false := ⟨RX4, TX4, 18, rfl, by decide, rfl, by decide +kernel, Or.inr (xw_inNI 279 (by decide +kernel) rfl)⟩
set_option maxRecDepth 100000 in
theorem fl_X7_156 : xk_FL RX7 156 4 17 .int false := ⟨RX4, TX4, 18, rfl, by decide, rfl, by decide +kernel, Or.inr (xw_inNI 283 (by decide +kernel) rfl)⟩
set_option maxRecDepth 100000 in
theorem fl_X7_178 : xk_FL RX7 178 2 2 .int false := ⟨RX2, TX2, 3, rfl, by decide, rfl, by decide +kernel, Or.inr (xw_inNI 333 (by decide +kernel) rfl)⟩
set_option maxRecDepth 100000 in
theorem fl_X7_184 : xk_FL RX7 184 4 2 (.array .int) true := ⟨RX4, TX4, 18, rfl, by decide, rfl, by decide +kernel, Or.inr (xw_inNI 262 (by decide +kernel) rfl)⟩
set_option maxRecDepth 100000 in
theorem fl_X7_187 : xk_FL RX7 187 4 3 (.array .int) true := ⟨RX4, TX4, 18, rfl, by decide, rfl, by decide +kernel, Or.inr (xw_inNI 264 (by decide +kernel) rfl)⟩
set_option maxRecDepth 100000 in
theorem fl_X7_190 : xk_FL RX7 190 4 4 (.array .int) true := ⟨RX4, TX4, 18, rfl, by decide, rfl, by decide +kernel, Or.inr (xw_inNI 266 (by decide +kernel) rfl)⟩
set_option maxRecDepth 100000 in
theorem fl_X7_199 : xk_FL RX7 199 4 6 (.array .int) true := ⟨RX4, TX4, 18, rfl, by decide, rfl, by decide +kernel, Or.inr (xw_inNI 269 (by decide +kernel) rfl)⟩
set_option maxRecDepth 100000 in
theorem fl_X7_225 : xk_FL RX7 225 4 1 (.array .int) true := ⟨RX4, TX4, 18, rfl, by decide, rfl, by decide +kernel, Or.inr (xw_inNI 260 (by decide +kernel) rfl)⟩
set_option maxRecDepth 100000 in
theorem fl_X7_260 : xk_FL RX7 260 4 12 .int false := ⟨RX4, TX4, 18, rfl, by decide, rfl, by decide +kernel, Or.inr (xw_inNI 276 (by decide +kernel) rfl)⟩
set_option maxRecDepth 100000 in
theorem fl_X7_272 : xk_FL RX7 272 1 0 (.array .int) true := ⟨RX1, TX1, 5, rfl, by decide, rfl, by decide +kernel, Or.inr (xw_inNI 172 (by decide +kernel) rfl)⟩
set_option maxRecDepth 100000 in
theorem fl_X7_275 : xk_FL RX7 275 1 1 (.array .int) true := ⟨RX1, TX1, 5, rfl, by decide, rfl, by decide +kernel, Or.inr (xw_inNI 174 (by decide +kernel) rfl)⟩
set_option maxRecDepth 100000 in
theorem fl_X7_278 : xk_FL RX7 278 1 2 (.array .int) true := ⟨RX1, TX1, 5, rfl, by decide, rfl, by decide +kernel, Or.inr (xw_inNI 176 (by decide +kernel) rfl)⟩
set_option maxRecDepth 100000 in
theorem fl_X7_289 : xk_FL RX7 289 1 3 (.array .long) true := ⟨RX1, TX1, 5, rfl, by decide, rfl, by decide +kernel, Or.inr (xw_inNI 178 (by decide +kernel) rfl)⟩
set_option maxRecDepth 100000 in
theorem fl_X7_297 : xk_FL RX7 297 5 1 .int false := ⟨RX5, TX5, 3, rfl, by decide, rfl, by decide +kernel, Or.inr (xw_inNI 386 (by decide +kernel) rfl)⟩
set_option maxRecDepth 100000 in
theorem fl_X7_298 : xk_FL RX7 298 5 2 .int false := ⟨RX5, TX5, 3, rfl, by decide, rfl, by decide +kernel, Or.inr (xw_inNI 388 (by decide +kernel) rfl)⟩
set_option maxRecDepth 100000 in
theorem fl_X7_304 : xk_FL RX7 304 1 4 .int false := ⟨RX1, TX1, 5, rfl, by decide, rfl, by decide +kernel, Or.inr (xw_inNI 181 (by decide +kernel) rfl)⟩
set_option maxRecDepth 100000 in
theorem fl_X0_9 : xk_FL RX0 9 0 0 (.array .int) true := ⟨RX0, TX0, 8, rfl, by decide, rfl, by decide +kernel, Or.inl (xw_inI 201 (by decide +kernel) rfl)⟩
set_option maxRecDepth 100000 in
theorem fl_X0_15 : xk_FL RX0 15 0 1 (.array .int) true := ⟨RX0, TX0, 8, rfl, by decide, rfl, by decide +kernel, Or.inl (xw_inI 206 (by decide +kernel) rfl)⟩
set_option maxRecDepth 100000 in
theorem fl_X0_18 : xk_FL RX0 18 0 2 (.array .int) true := ⟨RX0, TX0, 8, rfl, by decide, rfl, by decide +kernel, Or.inl (xw_inI 211 (by decide +kernel) rfl)⟩
set_option maxRecDepth 100000 in
theorem fl_X0_21 : xk_FL RX0 21 0 3 (.array .int) true := ⟨RX0, TX0, 8, rfl, by decide, rfl, by decide +kernel, Or.inl (xw_inI 216 (by decide +kernel) rfl)⟩
set_option maxRecDepth 100000 in
theorem fl_X0_24 : xk_FL RX0 24 0 4 (.array .int) true := ⟨RX0, TX0, 8, rfl, by decide, rfl, by decide +kernel, Or.inl (xw_inI 220 (by decide +kernel) rfl)⟩
set_option maxRecDepth 100000 in
theorem fl_X0_27 : xk_FL RX0 27 0 5 (.array .int) true := ⟨RX0, TX0, 8, rfl, by decide, rfl, by decide +kernel, Or.inl (xw_inI 224 (by decide +kernel) rfl)⟩
set_option maxRecDepth 100000 in
theorem fl_X0_33 : xk_FL RX0 33 0 6 (.object "BillTender$Ledger") true := ⟨RX0, TX0, 8, rfl, by decide, rfl, by decide +kernel, Or.inl (xw_inI 228 (by decide +kernel) rfl)⟩
set_option maxRecDepth 100000 in
theorem fl_X0_37 : xk_FL RX0 37 0 7 .int false := ⟨RX0, TX0, 8, rfl, by decide, rfl, by decide +kernel, Or.inl (xw_inI 230 (by decide +kernel) rfl)⟩
set_option maxRecDepth 100000 in
theorem fl_X0_47 : xk_FL RX0 47 1 4 .int false := ⟨RX1, TX1, 5, rfl, by decide, rfl, by decide +kernel, Or.inr (xw_inNI 180 (by decide +kernel) rfl)⟩
set_option maxRecDepth 100000 in
theorem fl_X1_9 : xk_FL RX1 9 1 0 (.array .int) true := ⟨RX1, TX1, 5, rfl, by decide, rfl, by decide +kernel, Or.inl (xw_inI 171 (by decide +kernel) rfl)⟩
set_option maxRecDepth 100000 in
theorem fl_X1_15 : xk_FL RX1 15 1 1 (.array .int) true := ⟨RX1, TX1, 5, rfl, by decide, rfl, by decide +kernel, Or.inl (xw_inI 173 (by decide +kernel) rfl)⟩
set_option maxRecDepth 100000 in
theorem fl_X1_18 : xk_FL RX1 18 1 2 (.array .int) true := ⟨RX1, TX1, 5, rfl, by decide, rfl, by decide +kernel, Or.inl (xw_inI 175 (by decide +kernel) rfl)⟩
set_option maxRecDepth 100000 in
theorem fl_X1_21 : xk_FL RX1 21 1 3 (.array .long) true := ⟨RX1, TX1, 5, rfl, by decide, rfl, by decide +kernel, Or.inl (xw_inI 177 (by decide +kernel) rfl)⟩
set_option maxRecDepth 100000 in
theorem fl_X1_25 : xk_FL RX1 25 1 4 .int false := ⟨RX1, TX1, 5, rfl, by decide, rfl, by decide +kernel, Or.inl (xw_inI 179 (by decide +kernel) rfl)⟩
set_option maxRecDepth 100000 in
theorem fl_X2_11 : xk_FL RX2 11 2 0 (.array (.object "BillTender$Book")) true := ⟨RX2, TX2, 3, rfl, by decide, rfl, by decide +kernel, Or.inl (xw_inI 330 (by decide +kernel) rfl)⟩
set_option maxRecDepth 100000 in
theorem fl_X2_17 : xk_FL RX2 17 2 1 .int false := ⟨RX2, TX2, 3, rfl, by decide, rfl, by decide +kernel, Or.inl (xw_inI 331 (by decide +kernel) rfl)⟩
set_option maxRecDepth 100000 in
theorem fl_X2_21 : xk_FL RX2 21 2 2 .int false := ⟨RX2, TX2, 3, rfl, by decide, rfl, by decide +kernel, Or.inl (xw_inI 332 (by decide +kernel) rfl)⟩
set_option maxRecDepth 100000 in
theorem fl_X3_9 : xk_FL RX3 9 3 0 (.object "BillTender$Tape") true := ⟨RX3, TX3, 5, rfl, by decide, rfl, by decide +kernel, Or.inl (xw_inI 362 (by decide +kernel) rfl)⟩
set_option maxRecDepth 100000 in
theorem fl_X3_15 : xk_FL RX3 15 3 1 (.object "BillTender$Book") true := ⟨RX3, TX3, 5, rfl, by decide, rfl, by decide +kernel, Or.inl (xw_inI 363 (by decide +kernel) rfl)⟩
set_option maxRecDepth 100000 in
theorem fl_X3_24 : xk_FL RX3 24 3 2 .int false := ⟨RX3, TX3, 5, rfl, by decide, rfl, by decide +kernel, Or.inl (xw_inI 364 (by decide +kernel) rfl)⟩
set_option maxRecDepth 100000 in
theorem fl_X3_28 : xk_FL RX3 28 3 4 .int false := ⟨RX3, TX3, 5, rfl, by decide, rfl, by decide +kernel, Or.inl (xw_inI 366 (by decide +kernel) rfl)⟩
set_option maxRecDepth 100000 in
theorem fl_X3_34 : xk_FL RX3 34 6 1 .int false := ⟨RX6, TX6, 2, rfl, by decide, rfl, by decide +kernel, Or.inr (xw_inNI 349 (by decide +kernel) rfl)⟩
set_option maxRecDepth 100000 in
theorem fl_X3_71 : xk_FL RX3 71 0 0 (.array .int) true := ⟨RX0, TX0, 8, rfl, by decide, rfl, by decide +kernel, Or.inr (xw_inNI 203 (by decide +kernel) rfl)⟩
set_option maxRecDepth 100000 in
theorem fl_X3_79 : xk_FL RX3 79 0 1 (.array .int) true := ⟨RX0, TX0, 8, rfl, by decide, rfl, by decide +kernel, Or.inr (xw_inNI 208 (by decide +kernel) rfl)⟩
set_option maxRecDepth 100000 in
theorem fl_X3_87 : xk_FL RX3 87 0 2 (.array .int) true := ⟨RX0, TX0, 8, rfl, by decide, rfl, by decide +kernel, Or.inr (xw_inNI 213 (by decide +kernel) rfl)⟩
set_option maxRecDepth 100000 in
theorem fl_X3_92 : xk_FL RX3 92 0 7 .int false := ⟨RX0, TX0, 8, rfl, by decide, rfl, by decide +kernel, Or.inr (xw_inNI 233 (by decide +kernel) rfl)⟩
set_option maxRecDepth 100000 in
theorem fl_X3_101 : xk_FL RX3 101 3 3 .int false := ⟨RX3, TX3, 5, rfl, by decide, rfl, by decide +kernel, Or.inl (xw_inI 365 (by decide +kernel) rfl)⟩
set_option maxRecDepth 100000 in
theorem fl_X4_9 : xk_FL RX4 9 4 1 (.array .int) true := ⟨RX4, TX4, 18, rfl, by decide, rfl, by decide +kernel, Or.inl (xw_inI 259 (by decide +kernel) rfl)⟩
set_option maxRecDepth 100000 in
theorem fl_X4_15 : xk_FL RX4 15 4 2 (.array .int) true := ⟨RX4, TX4, 18, rfl, by decide, rfl, by decide +kernel, Or.inl (xw_inI 261 (by decide +kernel) rfl)⟩
set_option maxRecDepth 100000 in
theorem fl_X4_18 : xk_FL RX4 18 4 3 (.array .int) true := ⟨RX4, TX4, 18, rfl, by decide, rfl, by decide +kernel, Or.inl (xw_inI 263 (by decide +kernel) rfl)⟩
set_option maxRecDepth 100000 in
theorem fl_X4_21 : xk_FL RX4 21 4 4 (.array .int) true := ⟨RX4, TX4, 18, rfl, by decide, rfl, by decide +kernel, Or.inl (xw_inI 265 (by decide +kernel) rfl)⟩
set_option maxRecDepth 100000 in
theorem fl_X4_24 : xk_FL RX4 24 4 5 (.array .int) true := ⟨RX4, TX4, 18, rfl, by decide, rfl, by decide +kernel, Or.inl (xw_inI 267 (by decide +kernel) rfl)⟩
set_option maxRecDepth 100000 in
theorem fl_X4_27 : xk_FL RX4 27 4 6 (.array .int) true := ⟨RX4, TX4, 18, rfl, by decide, rfl, by decide +kernel, Or.inl (xw_inI 268 (by decide +kernel) rfl)⟩
set_option maxRecDepth 100000 in
theorem fl_X4_30 : xk_FL RX4 30 4 7 (.array .int) true := ⟨RX4, TX4, 18, rfl, by decide, rfl, by decide +kernel, Or.inl (xw_inI 270 (by decide +kernel) rfl)⟩
set_option maxRecDepth 100000 in
theorem fl_X4_33 : xk_FL RX4 33 4 8 .int false := ⟨RX4, TX4, 18, rfl, by decide, rfl, by decide +kernel, Or.inl (xw_inI 271 (by decide +kernel) rfl)⟩
set_option maxRecDepth 100000 in
theorem fl_X4_37 : xk_FL RX4 37 4 0 (.object "BillTender$Book") true := ⟨RX4, TX4, 18, rfl, by decide, rfl, by decide +kernel, Or.inl (xw_inI 258 (by decide +kernel) rfl)⟩
set_option maxRecDepth 100000 in
theorem fl_X4_60 : xk_FL RX4 60 4 17 .int false := ⟨RX4, TX4, 18, rfl, by decide, rfl, by decide +kernel, Or.inl (xw_inI 282 (by decide +kernel) rfl)⟩
set_option maxRecDepth 100000 in
theorem fl_X4_63 : xk_FL RX4 63 0 7 .int false := ⟨RX0, TX0, 8, rfl, by decide, rfl, by decide +kernel, Or.inr (xw_inNI 232 (by decide +kernel) rfl)⟩
set_option maxRecDepth 100000 in
theorem fl_X4_72 : xk_FL RX4 72 0 4 (.array .int) true := ⟨RX0, TX0, 8, rfl, by decide, rfl, by decide +kernel, Or.inr (xw_inNI 222 (by decide +kernel) rfl)⟩
set_option maxRecDepth 100000 in
theorem fl_X4_75 : xk_FL RX4 75 0 0 (.array .int) true := ⟨RX0, TX0, 8, rfl, by decide, rfl, by decide +kernel, Or.inr (xw_inNI 204 (by decide +kernel) rfl)⟩
set_option maxRecDepth 100000 in
theorem fl_X4_78 : xk_FL RX4 78 0 2 (.array .int) true := ⟨RX0, TX0, 8, rfl, by decide, rfl, by decide +kernel, Or.inr (xw_inNI 214 (by decide +kernel) rfl)⟩
set_option maxRecDepth 100000 in
theorem fl_X4_81 : xk_FL RX4 81 0 1 (.array .int) true := ⟨RX0, TX0, 8, rfl, by decide, rfl, by decide +kernel, Or.inr (xw_inNI 209 (by decide +kernel) rfl)⟩
set_option maxRecDepth 100000 in
theorem fl_X4_90 : xk_FL RX4 90 4 9 .int false := ⟨RX4, TX4, 18, rfl, by decide, rfl, by decide +kernel, Or.inl (xw_inI 272 (by decide +kernel) rfl)⟩
set_option maxRecDepth 100000 in
theorem fl_X4_93 : xk_FL RX4 93 4 10 .int false := ⟨RX4, TX4, 18, rfl, by decide, rfl, by decide +kernel, Or.inl (xw_inI 273 (by decide +kernel) rfl)⟩
set_option maxRecDepth 100000 in
theorem fl_X4_104 : xk_FL RX4 104 0 3 (.array .int) true := ⟨RX0, TX0, 8, rfl, by decide, rfl, by decide +kernel, Or.inr (xw_inNI 218 (by decide +kernel) rfl)⟩
set_option maxRecDepth 100000 in
theorem fl_X4_107 : xk_FL RX4 107 0 5 (.array .int) true := ⟨RX0, TX0, 8, rfl, by decide, rfl, by decide +kernel, Or.inr (xw_inNI 226 (by decide +kernel) rfl)⟩
set_option maxRecDepth 100000 in
theorem fl_X4_113 : xk_FL RX4 113 4 11 .int false := ⟨RX4, TX4, 18, rfl, by decide, rfl, by decide +kernel, Or.inl (xw_inI 274 (by decide +kernel) rfl)⟩
set_option maxRecDepth 100000 in
theorem fl_X4_116 : xk_FL RX4 116 4 12 .int false := ⟨RX4, TX4, 18, rfl, by decide, rfl, by decide +kernel, Or.inl (xw_inI 275 (by decide +kernel) rfl)⟩
set_option maxRecDepth 100000 in
theorem fl_X4_123 : xk_FL RX4 123 4 13 .int false := ⟨RX4, TX4, 18, rfl, by decide, rfl, by decide +kernel, Or.inl (xw_inI 277 (by decide +kernel) rfl)⟩
set_option maxRecDepth 100000 in
theorem fl_X4_129 : xk_FL RX4 129 4 14 .int false := ⟨RX4, TX4, 18, rfl, by decide, rfl, by decide +kernel, Or.inl (xw_inI 278 (by decide +kernel) rfl)⟩
set_option maxRecDepth 100000 in
theorem fl_X4_132 : xk_FL RX4 132 4 16 .boolean false := ⟨RX4, TX4, 18, rfl, by decide, rfl, by decide +kernel, Or.inl (xw_inI 281 (by decide +kernel) rfl)⟩
set_option maxRecDepth 100000 in
theorem fl_X4_136 : xk_FL RX4 136 4 15 .int false := ⟨RX4, TX4, 18, rfl, by decide, rfl, by decide +kernel, Or.inl (xw_inI 280 (by decide +kernel) rfl)⟩
set_option maxRecDepth 100000 in
theorem fl_X5_9 : xk_FL RX5 9 5 0 .int false := ⟨RX5, TX5, 3, rfl, by decide, rfl, by decide +kernel, Or.inl (xw_inI 384 (by decide +kernel) rfl)⟩
set_option maxRecDepth 100000 in
theorem fl_X5_15 : xk_FL RX5 15 5 1 .int false := ⟨RX5, TX5, 3, rfl, by decide, rfl, by decide +kernel, Or.inl (xw_inI 385 (by decide +kernel) rfl)⟩
set_option maxRecDepth 100000 in
theorem fl_X5_18 : xk_FL RX5 18 5 2 .int false := ⟨RX5, TX5, 3, rfl, by decide, rfl, by decide +kernel, Or.inl (xw_inI 387 (by decide +kernel) rfl)⟩
set_option maxRecDepth 100000 in
theorem fl_X5_25 : xk_FL RX5 25 0 1 (.array .int) true := ⟨RX0, TX0, 8, rfl, by decide, rfl, by decide +kernel, Or.inr (xw_inNI 207 (by decide +kernel) rfl)⟩
set_option maxRecDepth 100000 in
theorem fl_X5_37 : xk_FL RX5 37 0 2 (.array .int) true := ⟨RX0, TX0, 8, rfl, by decide, rfl, by decide +kernel, Or.inr (xw_inNI 212 (by decide +kernel) rfl)⟩
set_option maxRecDepth 100000 in
theorem fl_X5_42 : xk_FL RX5 42 0 7 .int false := ⟨RX0, TX0, 8, rfl, by decide, rfl, by decide +kernel, Or.inr (xw_inNI 231 (by decide +kernel) rfl)⟩
set_option maxRecDepth 100000 in
theorem fl_X5_45 : xk_FL RX5 45 0 3 (.array .int) true := ⟨RX0, TX0, 8, rfl, by decide, rfl, by decide +kernel, Or.inr (xw_inNI 217 (by decide +kernel) rfl)⟩
set_option maxRecDepth 100000 in
theorem fl_X5_48 : xk_FL RX5 48 0 4 (.array .int) true := ⟨RX0, TX0, 8, rfl, by decide, rfl, by decide +kernel, Or.inr (xw_inNI 221 (by decide +kernel) rfl)⟩
set_option maxRecDepth 100000 in
theorem fl_X5_51 : xk_FL RX5 51 0 5 (.array .int) true := ⟨RX0, TX0, 8, rfl, by decide, rfl, by decide +kernel, Or.inr (xw_inNI 225 (by decide +kernel) rfl)⟩
set_option maxRecDepth 100000 in
theorem fl_X5_64 : xk_FL RX5 64 0 0 (.array .int) true := ⟨RX0, TX0, 8, rfl, by decide, rfl, by decide +kernel, Or.inr (xw_inNI 202 (by decide +kernel) rfl)⟩
set_option maxRecDepth 100000 in
theorem fl_X6_9 : xk_FL RX6 9 6 0 (.array .int) true := ⟨RX6, TX6, 2, rfl, by decide, rfl, by decide +kernel, Or.inl (xw_inI 347 (by decide +kernel) rfl)⟩
set_option maxRecDepth 100000 in
theorem fl_X6_15 : xk_FL RX6 15 6 1 .int false := ⟨RX6, TX6, 2, rfl, by decide, rfl, by decide +kernel, Or.inl (xw_inI 348 (by decide +kernel) rfl)⟩
set_option maxRecDepth 100000 in
theorem fl_X8_13 : xk_FL RX8 13 8 1 (.array .int) true := ⟨RX8, TX8, 30, rfl, by decide, rfl, by decide +kernel, Or.inl (xw_inI 1092 (by decide +kernel) rfl)⟩
set_option maxRecDepth 100000 in
theorem fl_X8_17 : xk_FL RX8 17 8 2 (.array .long) true := ⟨RX8, TX8, 30, rfl, by decide, rfl, by decide +kernel, Or.inl (xw_inI 1093 (by decide +kernel) rfl)⟩
set_option maxRecDepth 100000 in
theorem fl_X8_21 : xk_FL RX8 21 8 3 (.array .int) true := ⟨RX8, TX8, 30, rfl, by decide, rfl, by decide +kernel, Or.inl (xw_inI 1094 (by decide +kernel) rfl)⟩
set_option maxRecDepth 100000 in
theorem fl_X8_24 : xk_FL RX8 24 8 4 (.array .int) true := ⟨RX8, TX8, 30, rfl, by decide, rfl, by decide +kernel, Or.inl (xw_inI 1095 (by decide +kernel) rfl)⟩
set_option maxRecDepth 100000 in
theorem fl_X8_27 : xk_FL RX8 27 8 5 (.array .int) true := ⟨RX8, TX8, 30, rfl, by decide, rfl, by decide +kernel, Or.inl (xw_inI 1096 (by decide +kernel) rfl)⟩
set_option maxRecDepth 100000 in
theorem fl_X8_30 : xk_FL RX8 30 8 6 (.array .long) true := ⟨RX8, TX8, 30, rfl, by decide, rfl, by decide +kernel, Or.inl (xw_inI 1097 (by decide +kernel) rfl)⟩
set_option maxRecDepth 100000 in
theorem fl_X8_33 : xk_FL RX8 33 8 8 (.array .int) true := ⟨RX8, TX8, 30, rfl, by decide, rfl, by decide +kernel, Or.inl (xw_inI 1099 (by decide +kernel) rfl)⟩
set_option maxRecDepth 100000 in
theorem fl_X8_36 : xk_FL RX8 36 8 9 (.array .int) true := ⟨RX8, TX8, 30, rfl, by decide, rfl, by decide +kernel, Or.inl (xw_inI 1100 (by decide +kernel) rfl)⟩
set_option maxRecDepth 100000 in
theorem fl_X8_39 : xk_FL RX8 39 8 10 (.array .int) true := ⟨RX8, TX8, 30, rfl, by decide, rfl, by decide +kernel, Or.inl (xw_inI 1101 (by decide +kernel) rfl)⟩
set_option maxRecDepth 100000 in
theorem fl_X8_42 : xk_FL RX8 42 8 11 (.array .int) true := ⟨RX8, TX8, 30, rfl, by decide, rfl, by decide +kernel, Or.inl (xw_inI 1102 (by decide +kernel) rfl)⟩
set_option maxRecDepth 100000 in
theorem fl_X8_45 : xk_FL RX8 45 8 12 (.array .int) true := ⟨RX8, TX8, 30, rfl, by decide, rfl, by decide +kernel, Or.inl (xw_inI 1103 (by decide +kernel) rfl)⟩
set_option maxRecDepth 100000 in
theorem fl_X8_48 : xk_FL RX8 48 8 13 (.array .boolean) true := ⟨RX8, TX8, 30, rfl, by decide, rfl, by decide +kernel, Or.inl (xw_inI 1104 (by decide +kernel) rfl)⟩
set_option maxRecDepth 100000 in
theorem fl_X8_52 : xk_FL RX8 52 8 20 (.array .int) true := ⟨RX8, TX8, 30, rfl, by decide, rfl, by decide +kernel, Or.inl (xw_inI 1111 (by decide +kernel) rfl)⟩
set_option maxRecDepth 100000 in
theorem fl_X8_55 : xk_FL RX8 55 8 22 (.array .int) true := ⟨RX8, TX8, 30, rfl, by decide, rfl, by decide +kernel, Or.inl (xw_inI 1113 (by decide +kernel) rfl)⟩
set_option maxRecDepth 100000 in
theorem fl_X8_58 : xk_FL RX8 58 8 24 (.array .byte) true := ⟨RX8, TX8, 30, rfl, by decide, rfl, by decide +kernel, Or.inl (xw_inI 1115 (by decide +kernel) rfl)⟩
set_option maxRecDepth 100000 in
theorem fl_X8_66 : xk_FL RX8 66 8 7 .int false := ⟨RX8, TX8, 30, rfl, by decide, rfl, by decide +kernel, Or.inl (xw_inI 1098 (by decide +kernel) rfl)⟩
set_option maxRecDepth 100000 in
theorem fl_X8_141 : xk_FL RX8 141 8 14 .int false := ⟨RX8, TX8, 30, rfl, by decide, rfl, by decide +kernel, Or.inl (xw_inI 1105 (by decide +kernel) rfl)⟩
set_option maxRecDepth 100000 in
theorem fl_X8_147 : xk_FL RX8 147 8 15 .int false := ⟨RX8, TX8, 30, rfl, by decide, rfl, by decide +kernel, Or.inl (xw_inI 1106 (by decide +kernel) rfl)⟩
set_option maxRecDepth 100000 in
theorem fl_X8_150 : xk_FL RX8 150 8 16 .int false := ⟨RX8, TX8, 30, rfl, by decide, rfl, by decide +kernel, Or.inl (xw_inI 1107 (by decide +kernel) rfl)⟩
set_option maxRecDepth 100000 in
theorem fl_X8_153 : xk_FL RX8 153 8 17 .int false := ⟨RX8, TX8, 30, rfl, by decide, rfl, by decide +kernel, Or.inl (xw_inI 1108 (by decide +kernel) rfl)⟩
set_option maxRecDepth 100000 in
theorem fl_X8_156 : xk_FL RX8 156 8 19 .boolean false := ⟨RX8, TX8, 30, rfl, by decide, rfl, by decide +kernel, Or.inl (xw_inI 1110 (by decide +kernel) rfl)⟩
set_option maxRecDepth 100000 in
theorem fl_X8_163 : xk_FL RX8 163 8 18 .int false := ⟨RX8, TX8, 30, rfl, by decide, rfl, by decide +kernel, Or.inl (xw_inI 1109 (by decide +kernel) rfl)⟩
set_option maxRecDepth 100000 in
theorem fl_X8_231 : xk_FL RX8 231 8 21 .int false := ⟨RX8, TX8, 30, rfl, by decide, rfl, by decide +kernel, Or.inl (xw_inI 1112 (by decide +kernel) rfl)⟩
set_option maxRecDepth 100000 in
theorem fl_X8_250 : xk_FL RX8 250 8 23 .int false := ⟨RX8, TX8, 30, rfl, by decide, rfl, by decide +kernel, Or.inl (xw_inI 1114 (by decide +kernel) rfl)⟩
set_option maxRecDepth 100000 in
theorem fl_X8_256 : xk_FL RX8 256 8 25 .int false := ⟨RX8, TX8, 30, rfl, by decide, rfl, by decide +kernel, Or.inl (xw_inI 1116 (by decide +kernel) rfl)⟩
set_option maxRecDepth 100000 in
theorem fl_X8_259 : xk_FL RX8 259 8 26 .int false := ⟨RX8, TX8, 30, rfl, by decide, rfl, by decide +kernel, Or.inl (xw_inI 1117 (by decide +kernel) rfl)⟩
set_option maxRecDepth 100000 in
theorem fl_X8_265 : xk_FL RX8 265 8 27 .int false := ⟨RX8, TX8, 30, rfl, by decide, rfl, by decide +kernel, Or.inl (xw_inI 1118 (by decide +kernel) rfl)⟩
set_option maxRecDepth 100000 in
theorem fl_X8_268 : xk_FL RX8 268 8 28 .int false := ⟨RX8, TX8, 30, rfl, by decide, rfl, by decide +kernel, Or.inl (xw_inI 1119 (by decide +kernel) rfl)⟩
set_option maxRecDepth 100000 in
theorem fl_X8_271 : xk_FL RX8 271 8 29 .boolean false := ⟨RX8, TX8, 30, rfl, by decide, rfl, by decide +kernel, Or.inl (xw_inI 1120 (by decide +kernel) rfl)⟩
set_option maxRecDepth 100000 in
theorem mc_X0_init : Cond.code yX0_init cX0_init 1 none ∈ xw_tbl ∧ Cond.initialized yX0_init.cls ∈ xw_tbl ∧ (yX0_init.cls ≠ "java/lang/invoke/MethodHandle" ∧ yX0_init.cls ≠ "java/lang/invoke/VarHandle") ∧ (parseMethodDescriptor yX0_init.desc).map (fun d => d.parameters.length) = some 0 := ⟨xw_inI 163 (by decide +kernel) rfl, xw_inI 138 (by decide +kernel) rfl, by decide +kernel, by decide +kernel⟩
set_option maxRecDepth 100000 in
theorem mk_X0_init : Cond.instanceMethod yX0_init ∈ xw_tbl := xw_inI 162 (by decide +kernel) rfl
set_option maxRecDepth 100000 in
theorem ml_X7_9 : xk_MI RX7 9 yX0_init cX0_init 1 0 := ⟨⟨mc_X0_init.1, mc_X0_init.2.1, mc_X0_init.2.2.1, mc_X0_init.2.2.2, Or.inr (xw_inNI 161 (by decide +kernel) rfl)⟩, mk_X0_init, rfl⟩
set_option maxRecDepth 100000 in
theorem ml_X2_24 : xk_MI RX2 24 yX0_init cX0_init 1 0 := ⟨⟨mc_X0_init.1, mc_X0_init.2.1, mc_X0_init.2.2.1, mc_X0_init.2.2.2, Or.inr (xw_inNI 329 (by decide +kernel) rfl)⟩, mk_X0_init, rfl⟩
set_option maxRecDepth 100000 in
theorem mc_X4_init : Cond.code yX4_init cX4_init 2 none ∈ xw_tbl ∧ Cond.initialized yX4_init.cls ∈ xw_tbl ∧ (yX4_init.cls ≠ "java/lang/invoke/MethodHandle" ∧ yX4_init.cls ≠ "java/lang/invoke/VarHandle") ∧ (parseMethodDescriptor yX4_init.desc).map (fun d => d.parameters.length) = some 1 := ⟨xw_inI 256 (by decide +kernel) rfl, xw_inI 140 (by decide +kernel) rfl, by decide +kernel, by decide +kernel⟩
set_option maxRecDepth 100000 in
theorem mk_X4_init : Cond.instanceMethod yX4_init ∈ xw_tbl := xw_inI 255 (by decide +kernel) rfl
set_option maxRecDepth 100000 in
theorem ml_X7_18 : xk_MI RX7 18 yX4_init cX4_init 2 1 := ⟨⟨mc_X4_init.1, mc_X4_init.2.1, mc_X4_init.2.2.1, mc_X4_init.2.2.2, Or.inr (xw_inNI 254 (by decide +kernel) rfl)⟩, mk_X4_init, rfl⟩
set_option maxRecDepth 100000 in
theorem mc_X2_init : Cond.code yX2_init cX2_init 2 none ∈ xw_tbl ∧ Cond.initialized yX2_init.cls ∈ xw_tbl ∧ (yX2_init.cls ≠ "java/lang/invoke/MethodHandle" ∧ yX2_init.cls ≠ "java/lang/invoke/VarHandle") ∧ (parseMethodDescriptor yX2_init.desc).map (fun d => d.parameters.length) = some 0 := ⟨xw_inI 325 (by decide +kernel) rfl, xw_inI 141 (by decide +kernel) rfl, by decide +kernel, by decide +kernel⟩
set_option maxRecDepth 100000 in
theorem mk_X2_init : Cond.instanceMethod yX2_init ∈ xw_tbl := xw_inI 324 (by decide +kernel) rfl
set_option maxRecDepth 100000 in
theorem ml_X7_33 : xk_MI RX7 33 yX2_init cX2_init 2 0 := ⟨⟨mc_X2_init.1, mc_X2_init.2.1, mc_X2_init.2.2.1, mc_X2_init.2.2.2, Or.inr (xw_inNI 323 (by decide +kernel) rfl)⟩, mk_X2_init, rfl⟩
set_option maxRecDepth 100000 in
theorem mc_X6_init : Cond.code yX6_init cX6_init 1 none ∈ xw_tbl ∧ Cond.initialized yX6_init.cls ∈ xw_tbl ∧ (yX6_init.cls ≠ "java/lang/invoke/MethodHandle" ∧ yX6_init.cls ≠ "java/lang/invoke/VarHandle") ∧ (parseMethodDescriptor yX6_init.desc).map (fun d => d.parameters.length) = some 0 := ⟨xw_inI 345 (by decide +kernel) rfl, xw_inI 142 (by decide +kernel) rfl, by decide +kernel, by decide +kernel⟩
set_option maxRecDepth 100000 in
theorem mk_X6_init : Cond.instanceMethod yX6_init ∈ xw_tbl := xw_inI 344 (by decide +kernel) rfl
set_option maxRecDepth 100000 in
theorem ml_X7_40 : xk_MI RX7 40 yX6_init cX6_init 1 0 := ⟨⟨mc_X6_init.1, mc_X6_init.2.1, mc_X6_init.2.2.1, mc_X6_init.2.2.2, Or.inr (xw_inNI 343 (by decide +kernel) rfl)⟩, mk_X6_init, rfl⟩
set_option maxRecDepth 100000 in
theorem mc_X3_init : Cond.code yX3_init cX3_init 3 none ∈ xw_tbl ∧ Cond.initialized yX3_init.cls ∈ xw_tbl ∧ (yX3_init.cls ≠ "java/lang/invoke/MethodHandle" ∧ yX3_init.cls ≠ "java/lang/invoke/VarHandle") ∧ (parseMethodDescriptor yX3_init.desc).map (fun d => d.parameters.length) = some 2 := ⟨xw_inI 360 (by decide +kernel) rfl, xw_inI 143 (by decide +kernel) rfl, by decide +kernel, by decide +kernel⟩
set_option maxRecDepth 100000 in
theorem mk_X3_init : Cond.instanceMethod yX3_init ∈ xw_tbl := xw_inI 359 (by decide +kernel) rfl
set_option maxRecDepth 100000 in
theorem ml_X7_47 : xk_MI RX7 47 yX3_init cX3_init 3 2 := ⟨⟨mc_X3_init.1, mc_X3_init.2.1, mc_X3_init.2.2.1, mc_X3_init.2.2.2, Or.inr (xw_inNI 358 (by decide +kernel) rfl)⟩, mk_X3_init, rfl⟩
set_option maxRecDepth 100000 in
theorem mc_X5_init : Cond.code yX5_init cX5_init 1 none ∈ xw_tbl ∧ Cond.initialized yX5_init.cls ∈ xw_tbl ∧ (yX5_init.cls ≠ "java/lang/invoke/MethodHandle" ∧ yX5_init.cls ≠ "java/lang/invoke/VarHandle") ∧ (parseMethodDescriptor yX5_init.desc).map (fun d => d.parameters.length) = some 0 := ⟨xw_inI 382 (by decide +kernel) rfl, xw_inI 144 (by decide +kernel) rfl, by decide +kernel, by decide +kernel⟩
set_option maxRecDepth 100000 in
theorem mk_X5_init : Cond.instanceMethod yX5_init ∈ xw_tbl := xw_inI 381 (by decide +kernel) rfl
set_option maxRecDepth 100000 in
theorem ml_X7_56 : xk_MI RX7 56 yX5_init cX5_init 1 0 := ⟨⟨mc_X5_init.1, mc_X5_init.2.1, mc_X5_init.2.2.1, mc_X5_init.2.2.2, Or.inr (xw_inNI 380 (by decide +kernel) rfl)⟩, mk_X5_init, rfl⟩
set_option maxRecDepth 100000 in
theorem mc_X6_hasRoomForFive : Cond.code yX6_hasRoomForFive cX6_hasRoomForFive 1 (some .boolean) ∈ xw_tbl ∧ Cond.initialized yX6_hasRoomForFive.cls ∈ xw_tbl ∧ (yX6_hasRoomForFive.cls ≠ "java/lang/invoke/MethodHandle" ∧ yX6_hasRoomForFive.cls ≠ "java/lang/invoke/VarHandle") ∧ (parseMethodDescriptor yX6_hasRoomForFive.desc).map (fun d => d.parameters.length) = some 0 := ⟨xw_inI 428 (by decide +kernel) rfl, xw_inI 142 (by decide +kernel) rfl, by decide +kernel, by decide +kernel⟩
set_option maxRecDepth 100000 in
theorem mk_X6_hasRoomForFive : Cond.instanceMethod yX6_hasRoomForFive ∈ xw_tbl ∧ Cond.selects yX6_hasRoomForFive.cls yX6_hasRoomForFive yX6_hasRoomForFive ∈ xw_tbl := ⟨xw_inI 427 (by decide +kernel) rfl, xw_inI 1 (by decide +kernel) rfl⟩
set_option maxRecDepth 100000 in
theorem ml_X7_61 : xk_MV RX7 61 yX6_hasRoomForFive cX6_hasRoomForFive 1 (some .boolean) 0 := ⟨⟨mc_X6_hasRoomForFive.1, mc_X6_hasRoomForFive.2.1, mc_X6_hasRoomForFive.2.2.1, mc_X6_hasRoomForFive.2.2.2, Or.inr (xw_inNI 425 (by decide +kernel) rfl)⟩, mk_X6_hasRoomForFive⟩
set_option maxRecDepth 100000 in
theorem mc_X6_addFour : Cond.code yX6_addFour cX6_addFour 3 none ∈ xw_tbl ∧ Cond.initialized yX6_addFour.cls ∈ xw_tbl ∧ (yX6_addFour.cls ≠ "java/lang/invoke/MethodHandle" ∧ yX6_addFour.cls ≠ "java/lang/invoke/VarHandle") ∧ (parseMethodDescriptor yX6_addFour.desc).map (fun d => d.parameters.length) = some 1 := ⟨xw_inI 432 (by decide +kernel) rfl, xw_inI 142 (by decide +kernel) rfl, by decide +kernel, by decide +kernel⟩
set_option maxRecDepth 100000 in
theorem mk_X6_addFour : Cond.instanceMethod yX6_addFour ∈ xw_tbl ∧ Cond.selects yX6_addFour.cls yX6_addFour yX6_addFour ∈ xw_tbl := ⟨xw_inI 431 (by decide +kernel) rfl, xw_inI 2 (by decide +kernel) rfl⟩
set_option maxRecDepth 100000 in
theorem ml_X7_65 : xk_MV RX7 65 yX6_addFour cX6_addFour 3 none 1 := ⟨⟨mc_X6_addFour.1, mc_X6_addFour.2.1, mc_X6_addFour.2.2.1, mc_X6_addFour.2.2.2, Or.inr (xw_inNI 429 (by decide +kernel) rfl)⟩, mk_X6_addFour⟩
set_option maxRecDepth 100000 in
theorem mc_X3_readAll : Cond.code yX3_readAll cX3_readAll 2 (some .int) ∈ xw_tbl ∧ Cond.initialized yX3_readAll.cls ∈ xw_tbl ∧ (yX3_readAll.cls ≠ "java/lang/invoke/MethodHandle" ∧ yX3_readAll.cls ≠ "java/lang/invoke/VarHandle") ∧ (parseMethodDescriptor yX3_readAll.desc).map (fun d => d.parameters.length) = some 0 := ⟨xw_inI 444 (by decide +kernel) rfl, xw_inI 143 (by decide +kernel) rfl, by decide +kernel, by decide +kernel⟩
set_option maxRecDepth 100000 in
theorem mk_X3_readAll : Cond.instanceMethod yX3_readAll ∈ xw_tbl ∧ Cond.selects yX3_readAll.cls yX3_readAll yX3_readAll ∈ xw_tbl := ⟨xw_inI 443 (by decide +kernel) rfl, xw_inI 3 (by decide +kernel) rfl⟩
set_option maxRecDepth 100000 in
theorem ml_X7_73 : xk_MV RX7 73 yX3_readAll cX3_readAll 2 (some .int) 0 := ⟨⟨mc_X3_readAll.1, mc_X3_readAll.2.1, mc_X3_readAll.2.2.1, mc_X3_readAll.2.2.2, Or.inr (xw_inNI 441 (by decide +kernel) rfl)⟩, mk_X3_readAll⟩
set_option maxRecDepth 100000 in
theorem mc_X0_copyFrom : Cond.code yX0_copyFrom cX0_copyFrom 3 none ∈ xw_tbl ∧ Cond.initialized yX0_copyFrom.cls ∈ xw_tbl ∧ (yX0_copyFrom.cls ≠ "java/lang/invoke/MethodHandle" ∧ yX0_copyFrom.cls ≠ "java/lang/invoke/VarHandle") ∧ (parseMethodDescriptor yX0_copyFrom.desc).map (fun d => d.parameters.length) = some 1 := ⟨xw_inI 583 (by decide +kernel) rfl, xw_inI 138 (by decide +kernel) rfl, by decide +kernel, by decide +kernel⟩
set_option maxRecDepth 100000 in
theorem mk_X0_copyFrom : Cond.instanceMethod yX0_copyFrom ∈ xw_tbl ∧ Cond.selects yX0_copyFrom.cls yX0_copyFrom yX0_copyFrom ∈ xw_tbl := ⟨xw_inI 582 (by decide +kernel) rfl, xw_inI 19 (by decide +kernel) rfl⟩
set_option maxRecDepth 100000 in
theorem ml_X7_77 : xk_MV RX7 77 yX0_copyFrom cX0_copyFrom 3 none 1 := ⟨⟨mc_X0_copyFrom.1, mc_X0_copyFrom.2.1, mc_X0_copyFrom.2.2.1, mc_X0_copyFrom.2.2.2, Or.inr (xw_inNI 580 (by decide +kernel) rfl)⟩, mk_X0_copyFrom⟩
set_option maxRecDepth 100000 in
theorem ml_X2_25 : xk_MV RX2 25 yX0_copyFrom cX0_copyFrom 3 none 1 := ⟨⟨mc_X0_copyFrom.1, mc_X0_copyFrom.2.1, mc_X0_copyFrom.2.2.1, mc_X0_copyFrom.2.2.2, Or.inr (xw_inNI 610 (by decide +kernel) rfl)⟩, mk_X0_copyFrom⟩
set_option maxRecDepth 100000 in
theorem mc_X2_forget : Cond.code yX2_forget cX2_forget 1 none ∈ xw_tbl ∧ Cond.initialized yX2_forget.cls ∈ xw_tbl ∧ (yX2_forget.cls ≠ "java/lang/invoke/MethodHandle" ∧ yX2_forget.cls ≠ "java/lang/invoke/VarHandle") ∧ (parseMethodDescriptor yX2_forget.desc).map (fun d => d.parameters.length) = some 0 := ⟨xw_inI 591 (by decide +kernel) rfl, xw_inI 141 (by decide +kernel) rfl, by decide +kernel, by decide +kernel⟩
set_option maxRecDepth 100000 in
theorem mk_X2_forget : Cond.instanceMethod yX2_forget ∈ xw_tbl ∧ Cond.selects yX2_forget.cls yX2_forget yX2_forget ∈ xw_tbl := ⟨xw_inI 590 (by decide +kernel) rfl, xw_inI 21 (by decide +kernel) rfl⟩
set_option maxRecDepth 100000 in
theorem ml_X7_80 : xk_MV RX7 80 yX2_forget cX2_forget 1 none 0 := ⟨⟨mc_X2_forget.1, mc_X2_forget.2.1, mc_X2_forget.2.2.1, mc_X2_forget.2.2.2, Or.inr (xw_inNI 588 (by decide +kernel) rfl)⟩, mk_X2_forget⟩
set_option maxRecDepth 100000 in
theorem mc_X7_isRate : Cond.code yX7_isRate cX7_isRate 1 (some .boolean) ∈ xw_tbl ∧ Cond.initialized yX7_isRate.cls ∈ xw_tbl ∧ (yX7_isRate.cls ≠ "java/lang/invoke/MethodHandle" ∧ yX7_isRate.cls ≠ "java/lang/invoke/VarHandle") ∧ (parseMethodDescriptor yX7_isRate.desc).map (fun d => d.parameters.length) = some 1 := ⟨xw_inI 599 (by decide +kernel) rfl, xw_inI 137 (by decide +kernel) rfl, by decide +kernel, by decide +kernel⟩
set_option maxRecDepth 100000 in
theorem mk_X7_isRate : Cond.static yX7_isRate ∈ xw_tbl := xw_inI 598 (by decide +kernel) rfl
set_option maxRecDepth 100000 in
theorem ml_X7_86 : xk_MS RX7 86 yX7_isRate cX7_isRate 1 (some .boolean) 1 := ⟨⟨mc_X7_isRate.1, mc_X7_isRate.2.1, mc_X7_isRate.2.2.1, mc_X7_isRate.2.2.2, Or.inl (xw_inI 597 (by decide +kernel) rfl)⟩, mk_X7_isRate⟩
set_option maxRecDepth 100000 in
theorem mc_X7_isHouse : Cond.code yX7_isHouse cX7_isHouse 1 (some .boolean) ∈ xw_tbl ∧ Cond.initialized yX7_isHouse.cls ∈ xw_tbl ∧ (yX7_isHouse.cls ≠ "java/lang/invoke/MethodHandle" ∧ yX7_isHouse.cls ≠ "java/lang/invoke/VarHandle") ∧ (parseMethodDescriptor yX7_isHouse.desc).map (fun d => d.parameters.length) = some 1 := ⟨xw_inI 602 (by decide +kernel) rfl, xw_inI 137 (by decide +kernel) rfl, by decide +kernel, by decide +kernel⟩
set_option maxRecDepth 100000 in
theorem mk_X7_isHouse : Cond.static yX7_isHouse ∈ xw_tbl := xw_inI 601 (by decide +kernel) rfl
set_option maxRecDepth 100000 in
theorem ml_X7_90 : xk_MS RX7 90 yX7_isHouse cX7_isHouse 1 (some .boolean) 1 := ⟨⟨mc_X7_isHouse.1, mc_X7_isHouse.2.1, mc_X7_isHouse.2.2.1, mc_X7_isHouse.2.2.2, Or.inl (xw_inI 600 (by decide +kernel) rfl)⟩, mk_X7_isHouse⟩
set_option maxRecDepth 100000 in
theorem mc_X7_isLots : Cond.code yX7_isLots cX7_isLots 1 (some .boolean) ∈ xw_tbl ∧ Cond.initialized yX7_isLots.cls ∈ xw_tbl ∧ (yX7_isLots.cls ≠ "java/lang/invoke/MethodHandle" ∧ yX7_isLots.cls ≠ "java/lang/invoke/VarHandle") ∧ (parseMethodDescriptor yX7_isLots.desc).map (fun d => d.parameters.length) = some 1 := ⟨xw_inI 605 (by decide +kernel) rfl, xw_inI 137 (by decide +kernel) rfl, by decide +kernel, by decide +kernel⟩
set_option maxRecDepth 100000 in
theorem mk_X7_isLots : Cond.static yX7_isLots ∈ xw_tbl := xw_inI 604 (by decide +kernel) rfl
set_option maxRecDepth 100000 in
theorem ml_X7_93 : xk_MS RX7 93 yX7_isLots cX7_isLots 1 (some .boolean) 1 := ⟨⟨mc_X7_isLots.1, mc_X7_isLots.2.1, mc_X7_isLots.2.2.1, mc_X7_isLots.2.2.2, Or.inl (xw_inI 603 (by decide +kernel) rfl)⟩, mk_X7_isLots⟩
set_option maxRecDepth 100000 in
theorem mc_X2_keep : Cond.code yX2_keep cX2_keep 3 none ∈ xw_tbl ∧ Cond.initialized yX2_keep.cls ∈ xw_tbl ∧ (yX2_keep.cls ≠ "java/lang/invoke/MethodHandle" ∧ yX2_keep.cls ≠ "java/lang/invoke/VarHandle") ∧ (parseMethodDescriptor yX2_keep.desc).map (fun d => d.parameters.length) = some 1 := ⟨xw_inI 609 (by decide +kernel) rfl, xw_inI 141 (by decide +kernel) rfl, by decide +kernel, by decide +kernel⟩
set_option maxRecDepth 100000 in
theorem mk_X2_keep : Cond.instanceMethod yX2_keep ∈ xw_tbl ∧ Cond.selects yX2_keep.cls yX2_keep yX2_keep ∈ xw_tbl := ⟨xw_inI 608 (by decide +kernel) rfl, xw_inI 22 (by decide +kernel) rfl⟩
set_option maxRecDepth 100000 in
theorem ml_X7_96 : xk_MV RX7 96 yX2_keep cX2_keep 3 none 1 := ⟨⟨mc_X2_keep.1, mc_X2_keep.2.1, mc_X2_keep.2.2.1, mc_X2_keep.2.2.2, Or.inr (xw_inNI 606 (by decide +kernel) rfl)⟩, mk_X2_keep⟩
set_option maxRecDepth 100000 in
theorem mc_X0_insert : Cond.code yX0_insert cX0_insert 6 none ∈ xw_tbl ∧ Cond.initialized yX0_insert.cls ∈ xw_tbl ∧ (yX0_insert.cls ≠ "java/lang/invoke/MethodHandle" ∧ yX0_insert.cls ≠ "java/lang/invoke/VarHandle") ∧ (parseMethodDescriptor yX0_insert.desc).map (fun d => d.parameters.length) = some 4 := ⟨xw_inI 574 (by decide +kernel) rfl, xw_inI 138 (by decide +kernel) rfl, by decide +kernel, by decide +kernel⟩
set_option maxRecDepth 100000 in
theorem mk_X0_insert : Cond.instanceMethod yX0_insert ∈ xw_tbl ∧ Cond.selects yX0_insert.cls yX0_insert yX0_insert ∈ xw_tbl := ⟨xw_inI 573 (by decide +kernel) rfl, xw_inI 17 (by decide +kernel) rfl⟩
set_option maxRecDepth 100000 in
theorem ml_X7_99 : xk_MV RX7 99 yX0_insert cX0_insert 6 none 4 := ⟨⟨mc_X0_insert.1, mc_X0_insert.2.1, mc_X0_insert.2.2.1, mc_X0_insert.2.2.2, Or.inr (xw_inNI 614 (by decide +kernel) rfl)⟩, mk_X0_insert⟩
set_option maxRecDepth 100000 in
theorem ml_X3_125 : xk_MV RX3 125 yX0_insert cX0_insert 6 none 4 := ⟨⟨mc_X0_insert.1, mc_X0_insert.2.1, mc_X0_insert.2.2.1, mc_X0_insert.2.2.2, Or.inr (xw_inNI 571 (by decide +kernel) rfl)⟩, mk_X0_insert⟩
set_option maxRecDepth 100000 in
theorem mc_X0_hasBid : Cond.code yX0_hasBid cX0_hasBid 2 (some .boolean) ∈ xw_tbl ∧ Cond.initialized yX0_hasBid.cls ∈ xw_tbl ∧ (yX0_hasBid.cls ≠ "java/lang/invoke/MethodHandle" ∧ yX0_hasBid.cls ≠ "java/lang/invoke/VarHandle") ∧ (parseMethodDescriptor yX0_hasBid.desc).map (fun d => d.parameters.length) = some 1 := ⟨xw_inI 622 (by decide +kernel) rfl, xw_inI 138 (by decide +kernel) rfl, by decide +kernel, by decide +kernel⟩
set_option maxRecDepth 100000 in
theorem mk_X0_hasBid : Cond.instanceMethod yX0_hasBid ∈ xw_tbl ∧ Cond.selects yX0_hasBid.cls yX0_hasBid yX0_hasBid ∈ xw_tbl := ⟨xw_inI 621 (by decide +kernel) rfl, xw_inI 23 (by decide +kernel) rfl⟩
set_option maxRecDepth 100000 in
theorem ml_X7_103 : xk_MV RX7 103 yX0_hasBid cX0_hasBid 2 (some .boolean) 1 := ⟨⟨mc_X0_hasBid.1, mc_X0_hasBid.2.1, mc_X0_hasBid.2.2.1, mc_X0_hasBid.2.2.2, Or.inr (xw_inNI 619 (by decide +kernel) rfl)⟩, mk_X0_hasBid⟩
set_option maxRecDepth 100000 in
theorem ml_X0_60 : xk_MV RX0 60 yX0_hasBid cX0_hasBid 2 (some .boolean) 1 := ⟨⟨mc_X0_hasBid.1, mc_X0_hasBid.2.1, mc_X0_hasBid.2.2.1, mc_X0_hasBid.2.2.2, Or.inl (xw_inI 627 (by decide +kernel) rfl)⟩, mk_X0_hasBid⟩
set_option maxRecDepth 100000 in
theorem mc_X0_remove : Cond.code yX0_remove cX0_remove 3 none ∈ xw_tbl ∧ Cond.initialized yX0_remove.cls ∈ xw_tbl ∧ (yX0_remove.cls ≠ "java/lang/invoke/MethodHandle" ∧ yX0_remove.cls ≠ "java/lang/invoke/VarHandle") ∧ (parseMethodDescriptor yX0_remove.desc).map (fun d => d.parameters.length) = some 1 := ⟨xw_inI 626 (by decide +kernel) rfl, xw_inI 138 (by decide +kernel) rfl, by decide +kernel, by decide +kernel⟩
set_option maxRecDepth 100000 in
theorem mk_X0_remove : Cond.instanceMethod yX0_remove ∈ xw_tbl ∧ Cond.selects yX0_remove.cls yX0_remove yX0_remove ∈ xw_tbl := ⟨xw_inI 625 (by decide +kernel) rfl, xw_inI 24 (by decide +kernel) rfl⟩
set_option maxRecDepth 100000 in
theorem ml_X7_106 : xk_MV RX7 106 yX0_remove cX0_remove 3 none 1 := ⟨⟨mc_X0_remove.1, mc_X0_remove.2.1, mc_X0_remove.2.2.1, mc_X0_remove.2.2.2, Or.inr (xw_inNI 623 (by decide +kernel) rfl)⟩, mk_X0_remove⟩
set_option maxRecDepth 100000 in
theorem ml_X0_64 : xk_MV RX0 64 yX0_remove cX0_remove 3 none 1 := ⟨⟨mc_X0_remove.1, mc_X0_remove.2.1, mc_X0_remove.2.2.1, mc_X0_remove.2.2.2, Or.inl (xw_inI 671 (by decide +kernel) rfl)⟩, mk_X0_remove⟩
set_option maxRecDepth 100000 in
theorem mc_X7_changeLots : Cond.code yX7_changeLots cX7_changeLots 4 (some .int) ∈ xw_tbl ∧ Cond.initialized yX7_changeLots.cls ∈ xw_tbl ∧ (yX7_changeLots.cls ≠ "java/lang/invoke/MethodHandle" ∧ yX7_changeLots.cls ≠ "java/lang/invoke/VarHandle") ∧ (parseMethodDescriptor yX7_changeLots.desc).map (fun d => d.parameters.length) = some 2 := ⟨xw_inI 635 (by decide +kernel) rfl, xw_inI 137 (by decide +kernel) rfl, by decide +kernel, by decide +kernel⟩
set_option maxRecDepth 100000 in
theorem mk_X7_changeLots : Cond.instanceMethod yX7_changeLots ∈ xw_tbl ∧ Cond.selects yX7_changeLots.cls yX7_changeLots yX7_changeLots ∈ xw_tbl := ⟨xw_inI 634 (by decide +kernel) rfl, xw_inI 25 (by decide +kernel) rfl⟩
set_option maxRecDepth 100000 in
theorem ml_X7_109 : xk_MV RX7 109 yX7_changeLots cX7_changeLots 4 (some .int) 2 := ⟨⟨mc_X7_changeLots.1, mc_X7_changeLots.2.1, mc_X7_changeLots.2.2.1, mc_X7_changeLots.2.2.2, Or.inl (xw_inI 632 (by decide +kernel) rfl)⟩, mk_X7_changeLots⟩
set_option maxRecDepth 100000 in
theorem mc_X7_changeRate : Cond.code yX7_changeRate cX7_changeRate 4 (some .int) ∈ xw_tbl ∧ Cond.initialized yX7_changeRate.cls ∈ xw_tbl ∧ (yX7_changeRate.cls ≠ "java/lang/invoke/MethodHandle" ∧ yX7_changeRate.cls ≠ "java/lang/invoke/VarHandle") ∧ (parseMethodDescriptor yX7_changeRate.desc).map (fun d => d.parameters.length) = some 2 := ⟨xw_inI 639 (by decide +kernel) rfl, xw_inI 137 (by decide +kernel) rfl, by decide +kernel, by decide +kernel⟩
set_option maxRecDepth 100000 in
theorem mk_X7_changeRate : Cond.instanceMethod yX7_changeRate ∈ xw_tbl ∧ Cond.selects yX7_changeRate.cls yX7_changeRate yX7_changeRate ∈ xw_tbl := ⟨xw_inI 638 (by decide +kernel) rfl, xw_inI 26 (by decide +kernel) rfl⟩
set_option maxRecDepth 100000 in
theorem ml_X7_113 : xk_MV RX7 113 yX7_changeRate cX7_changeRate 4 (some .int) 2 := ⟨⟨mc_X7_changeRate.1, mc_X7_changeRate.2.1, mc_X7_changeRate.2.2.1, mc_X7_changeRate.2.2.2, Or.inl (xw_inI 636 (by decide +kernel) rfl)⟩, mk_X7_changeRate⟩
set_option maxRecDepth 100000 in
theorem mc_X0_termFits : Cond.code yX0_termFits cX0_termFits 3 (some .boolean) ∈ xw_tbl ∧ Cond.initialized yX0_termFits.cls ∈ xw_tbl ∧ (yX0_termFits.cls ≠ "java/lang/invoke/MethodHandle" ∧ yX0_termFits.cls ≠ "java/lang/invoke/VarHandle") ∧ (parseMethodDescriptor yX0_termFits.desc).map (fun d => d.parameters.length) = some 2 := ⟨xw_inI 647 (by decide +kernel) rfl, xw_inI 138 (by decide +kernel) rfl, by decide +kernel, by decide +kernel⟩
set_option maxRecDepth 100000 in
theorem mk_X0_termFits : Cond.instanceMethod yX0_termFits ∈ xw_tbl ∧ Cond.selects yX0_termFits.cls yX0_termFits yX0_termFits ∈ xw_tbl := ⟨xw_inI 646 (by decide +kernel) rfl, xw_inI 27 (by decide +kernel) rfl⟩
set_option maxRecDepth 100000 in
theorem ml_X7_123 : xk_MV RX7 123 yX0_termFits cX0_termFits 3 (some .boolean) 2 := ⟨⟨mc_X0_termFits.1, mc_X0_termFits.2.1, mc_X0_termFits.2.2.1, mc_X0_termFits.2.2.2, Or.inr (xw_inNI 644 (by decide +kernel) rfl)⟩, mk_X0_termFits⟩
set_option maxRecDepth 100000 in
theorem mc_X0_join : Cond.code yX0_join cX0_join 4 none ∈ xw_tbl ∧ Cond.initialized yX0_join.cls ∈ xw_tbl ∧ (yX0_join.cls ≠ "java/lang/invoke/MethodHandle" ∧ yX0_join.cls ≠ "java/lang/invoke/VarHandle") ∧ (parseMethodDescriptor yX0_join.desc).map (fun d => d.parameters.length) = some 1 := ⟨xw_inI 665 (by decide +kernel) rfl, xw_inI 138 (by decide +kernel) rfl, by decide +kernel, by decide +kernel⟩
set_option maxRecDepth 100000 in
theorem mk_X0_join : Cond.instanceMethod yX0_join ∈ xw_tbl ∧ Cond.selects yX0_join.cls yX0_join yX0_join ∈ xw_tbl := ⟨xw_inI 664 (by decide +kernel) rfl, xw_inI 28 (by decide +kernel) rfl⟩
set_option maxRecDepth 100000 in
theorem ml_X7_136 : xk_MV RX7 136 yX0_join cX0_join 4 none 1 := ⟨⟨mc_X0_join.1, mc_X0_join.2.1, mc_X0_join.2.2.1, mc_X0_join.2.2.2, Or.inr (xw_inNI 662 (by decide +kernel) rfl)⟩, mk_X0_join⟩
set_option maxRecDepth 100000 in
theorem mc_X7_standing : Cond.code yX7_standing cX7_standing 1 (some (.object "BillTender$Sale")) ∈ xw_tbl ∧ Cond.initialized yX7_standing.cls ∈ xw_tbl ∧ (yX7_standing.cls ≠ "java/lang/invoke/MethodHandle" ∧ yX7_standing.cls ≠ "java/lang/invoke/VarHandle") ∧ (parseMethodDescriptor yX7_standing.desc).map (fun d => d.parameters.length) = some 0 := ⟨xw_inI 687 (by decide +kernel) rfl, xw_inI 137 (by decide +kernel) rfl, by decide +kernel, by decide +kernel⟩
set_option maxRecDepth 100000 in
theorem mk_X7_standing : Cond.instanceMethod yX7_standing ∈ xw_tbl ∧ Cond.selects yX7_standing.cls yX7_standing yX7_standing ∈ xw_tbl := ⟨xw_inI 686 (by decide +kernel) rfl, xw_inI 30 (by decide +kernel) rfl⟩
set_option maxRecDepth 100000 in
theorem ml_X7_142 : xk_MV RX7 142 yX7_standing cX7_standing 1 (some (.object "BillTender$Sale")) 0 := ⟨⟨mc_X7_standing.1, mc_X7_standing.2.1, mc_X7_standing.2.2.1, mc_X7_standing.2.2.2, Or.inl (xw_inI 684 (by decide +kernel) rfl)⟩, mk_X7_standing⟩
set_option maxRecDepth 100000 in
theorem mc_X4_soldInAll : Cond.code yX4_soldInAll cX4_soldInAll 1 (some .int) ∈ xw_tbl ∧ Cond.initialized yX4_soldInAll.cls ∈ xw_tbl ∧ (yX4_soldInAll.cls ≠ "java/lang/invoke/MethodHandle" ∧ yX4_soldInAll.cls ≠ "java/lang/invoke/VarHandle") ∧ (parseMethodDescriptor yX4_soldInAll.desc).map (fun d => d.parameters.length) = some 0 := ⟨xw_inI 751 (by decide +kernel) rfl, xw_inI 140 (by decide +kernel) rfl, by decide +kernel, by decide +kernel⟩
set_option maxRecDepth 100000 in
theorem mk_X4_soldInAll : Cond.instanceMethod yX4_soldInAll ∈ xw_tbl ∧ Cond.selects yX4_soldInAll.cls yX4_soldInAll yX4_soldInAll ∈ xw_tbl := ⟨xw_inI 750 (by decide +kernel) rfl, xw_inI 45 (by decide +kernel) rfl⟩
set_option maxRecDepth 100000 in
theorem ml_X7_146 : xk_MV RX7 146 yX4_soldInAll cX4_soldInAll 1 (some .int) 0 := ⟨⟨mc_X4_soldInAll.1, mc_X4_soldInAll.2.1, mc_X4_soldInAll.2.2.1, mc_X4_soldInAll.2.2.2, Or.inr (xw_inNI 748 (by decide +kernel) rfl)⟩, mk_X4_soldInAll⟩
set_option maxRecDepth 100000 in
theorem ml_X4_157 : xk_MV RX4 157 yX4_soldInAll cX4_soldInAll 1 (some .int) 0 := ⟨⟨mc_X4_soldInAll.1, mc_X4_soldInAll.2.1, mc_X4_soldInAll.2.2.1, mc_X4_soldInAll.2.2.2, Or.inl (xw_inI 833 (by decide +kernel) rfl)⟩, mk_X4_soldInAll⟩
set_option maxRecDepth 100000 in
theorem mc_X4_paysInAll : Cond.code yX4_paysInAll cX4_paysInAll 4 (some .long) ∈ xw_tbl ∧ Cond.initialized yX4_paysInAll.cls ∈ xw_tbl ∧ (yX4_paysInAll.cls ≠ "java/lang/invoke/MethodHandle" ∧ yX4_paysInAll.cls ≠ "java/lang/invoke/VarHandle") ∧ (parseMethodDescriptor yX4_paysInAll.desc).map (fun d => d.parameters.length) = some 0 := ⟨xw_inI 755 (by decide +kernel) rfl, xw_inI 140 (by decide +kernel) rfl, by decide +kernel, by decide +kernel⟩
set_option maxRecDepth 100000 in
theorem mk_X4_paysInAll : Cond.instanceMethod yX4_paysInAll ∈ xw_tbl ∧ Cond.selects yX4_paysInAll.cls yX4_paysInAll yX4_paysInAll ∈ xw_tbl := ⟨xw_inI 754 (by decide +kernel) rfl, xw_inI 46 (by decide +kernel) rfl⟩
set_option maxRecDepth 100000 in
theorem ml_X7_159 : xk_MV RX7 159 yX4_paysInAll cX4_paysInAll 4 (some .long) 0 := ⟨⟨mc_X4_paysInAll.1, mc_X4_paysInAll.2.1, mc_X4_paysInAll.2.2.1, mc_X4_paysInAll.2.2.2, Or.inr (xw_inNI 752 (by decide +kernel) rfl)⟩, mk_X4_paysInAll⟩
set_option maxRecDepth 100000 in
theorem mc_X1_add : Cond.code yX1_add cX1_add 7 none ∈ xw_tbl ∧ Cond.initialized yX1_add.cls ∈ xw_tbl ∧ (yX1_add.cls ≠ "java/lang/invoke/MethodHandle" ∧ yX1_add.cls ≠ "java/lang/invoke/VarHandle") ∧ (parseMethodDescriptor yX1_add.desc).map (fun d => d.parameters.length) = some 4 := ⟨xw_inI 768 (by decide +kernel) rfl, xw_inI 139 (by decide +kernel) rfl, by decide +kernel, by decide +kernel⟩
set_option maxRecDepth 100000 in
theorem mk_X1_add : Cond.instanceMethod yX1_add ∈ xw_tbl ∧ Cond.selects yX1_add.cls yX1_add yX1_add ∈ xw_tbl := ⟨xw_inI 767 (by decide +kernel) rfl, xw_inI 49 (by decide +kernel) rfl⟩
set_option maxRecDepth 100000 in
theorem ml_X7_163 : xk_MV RX7 163 yX1_add cX1_add 7 none 4 := ⟨⟨mc_X1_add.1, mc_X1_add.2.1, mc_X1_add.2.2.1, mc_X1_add.2.2.2, Or.inr (xw_inNI 765 (by decide +kernel) rfl)⟩, mk_X1_add⟩
set_option maxRecDepth 100000 in
theorem mc_X4_soldTo : Cond.code yX4_soldTo cX4_soldTo 2 (some .int) ∈ xw_tbl ∧ Cond.initialized yX4_soldTo.cls ∈ xw_tbl ∧ (yX4_soldTo.cls ≠ "java/lang/invoke/MethodHandle" ∧ yX4_soldTo.cls ≠ "java/lang/invoke/VarHandle") ∧ (parseMethodDescriptor yX4_soldTo.desc).map (fun d => d.parameters.length) = some 1 := ⟨xw_inI 773 (by decide +kernel) rfl, xw_inI 140 (by decide +kernel) rfl, by decide +kernel, by decide +kernel⟩
set_option maxRecDepth 100000 in
theorem mk_X4_soldTo : Cond.instanceMethod yX4_soldTo ∈ xw_tbl ∧ Cond.selects yX4_soldTo.cls yX4_soldTo yX4_soldTo ∈ xw_tbl := ⟨xw_inI 772 (by decide +kernel) rfl, xw_inI 50 (by decide +kernel) rfl⟩
set_option maxRecDepth 100000 in
theorem ml_X7_169 : xk_MV RX7 169 yX4_soldTo cX4_soldTo 2 (some .int) 1 := ⟨⟨mc_X4_soldTo.1, mc_X4_soldTo.2.1, mc_X4_soldTo.2.2.1, mc_X4_soldTo.2.2.2, Or.inr (xw_inNI 770 (by decide +kernel) rfl)⟩, mk_X4_soldTo⟩
set_option maxRecDepth 100000 in
theorem mc_X2_giveBack : Cond.code yX2_giveBack cX2_giveBack 4 none ∈ xw_tbl ∧ Cond.initialized yX2_giveBack.cls ∈ xw_tbl ∧ (yX2_giveBack.cls ≠ "java/lang/invoke/MethodHandle" ∧ yX2_giveBack.cls ≠ "java/lang/invoke/VarHandle") ∧ (parseMethodDescriptor yX2_giveBack.desc).map (fun d => d.parameters.length) = some 1 := ⟨xw_inI 785 (by decide +kernel) rfl, xw_inI 141 (by decide +kernel) rfl, by decide +kernel, by decide +kernel⟩
set_option maxRecDepth 100000 in
theorem mk_X2_giveBack : Cond.instanceMethod yX2_giveBack ∈ xw_tbl ∧ Cond.selects yX2_giveBack.cls yX2_giveBack yX2_giveBack ∈ xw_tbl := ⟨xw_inI 784 (by decide +kernel) rfl, xw_inI 51 (by decide +kernel) rfl⟩
set_option maxRecDepth 100000 in
theorem ml_X7_181 : xk_MV RX7 181 yX2_giveBack cX2_giveBack 4 none 1 := ⟨⟨mc_X2_giveBack.1, mc_X2_giveBack.2.1, mc_X2_giveBack.2.2.1, mc_X2_giveBack.2.2.2, Or.inr (xw_inNI 782 (by decide +kernel) rfl)⟩, mk_X2_giveBack⟩
set_option maxRecDepth 100000 in
theorem mc_X4_paysFor : Cond.code yX4_paysFor cX4_paysFor 3 (some .long) ∈ xw_tbl ∧ Cond.initialized yX4_paysFor.cls ∈ xw_tbl ∧ (yX4_paysFor.cls ≠ "java/lang/invoke/MethodHandle" ∧ yX4_paysFor.cls ≠ "java/lang/invoke/VarHandle") ∧ (parseMethodDescriptor yX4_paysFor.desc).map (fun d => d.parameters.length) = some 1 := ⟨xw_inI 759 (by decide +kernel) rfl, xw_inI 140 (by decide +kernel) rfl, by decide +kernel, by decide +kernel⟩
set_option maxRecDepth 100000 in
theorem mk_X4_paysFor : Cond.instanceMethod yX4_paysFor ∈ xw_tbl ∧ Cond.selects yX4_paysFor.cls yX4_paysFor yX4_paysFor ∈ xw_tbl := ⟨xw_inI 758 (by decide +kernel) rfl, xw_inI 47 (by decide +kernel) rfl⟩
set_option maxRecDepth 100000 in
theorem ml_X7_193 : xk_MV RX7 193 yX4_paysFor cX4_paysFor 3 (some .long) 1 := ⟨⟨mc_X4_paysFor.1, mc_X4_paysFor.2.1, mc_X4_paysFor.2.2.1, mc_X4_paysFor.2.2.2, Or.inr (xw_inNI 798 (by decide +kernel) rfl)⟩, mk_X4_paysFor⟩
set_option maxRecDepth 100000 in
theorem ml_X4_153 : xk_MV RX4 153 yX4_paysFor cX4_paysFor 3 (some .long) 1 := ⟨⟨mc_X4_paysFor.1, mc_X4_paysFor.2.1, mc_X4_paysFor.2.2.1, mc_X4_paysFor.2.2.2, Or.inl (xw_inI 756 (by decide +kernel) rfl)⟩, mk_X4_paysFor⟩
set_option maxRecDepth 100000 in
theorem mc_X0_lotsOf : Cond.code yX0_lotsOf cX0_lotsOf 2 (some .int) ∈ xw_tbl ∧ Cond.initialized yX0_lotsOf.cls ∈ xw_tbl ∧ (yX0_lotsOf.cls ≠ "java/lang/invoke/MethodHandle" ∧ yX0_lotsOf.cls ≠ "java/lang/invoke/VarHandle") ∧ (parseMethodDescriptor yX0_lotsOf.desc).map (fun d => d.parameters.length) = some 1 := ⟨xw_inI 807 (by decide +kernel) rfl, xw_inI 138 (by decide +kernel) rfl, by decide +kernel, by decide +kernel⟩
set_option maxRecDepth 100000 in
theorem mk_X0_lotsOf : Cond.instanceMethod yX0_lotsOf ∈ xw_tbl ∧ Cond.selects yX0_lotsOf.cls yX0_lotsOf yX0_lotsOf ∈ xw_tbl := ⟨xw_inI 806 (by decide +kernel) rfl, xw_inI 52 (by decide +kernel) rfl⟩
set_option maxRecDepth 100000 in
theorem ml_X7_202 : xk_MV RX7 202 yX0_lotsOf cX0_lotsOf 2 (some .int) 1 := ⟨⟨mc_X0_lotsOf.1, mc_X0_lotsOf.2.1, mc_X0_lotsOf.2.2.1, mc_X0_lotsOf.2.2.2, Or.inr (xw_inNI 804 (by decide +kernel) rfl)⟩, mk_X0_lotsOf⟩
set_option maxRecDepth 100000 in
theorem ml_X0_86 : xk_MV RX0 86 yX0_lotsOf cX0_lotsOf 2 (some .int) 1 := ⟨⟨mc_X0_lotsOf.1, mc_X0_lotsOf.2.1, mc_X0_lotsOf.2.2.1, mc_X0_lotsOf.2.2.2, Or.inl (xw_inI 1077 (by decide +kernel) rfl)⟩, mk_X0_lotsOf⟩
set_option maxRecDepth 100000 in
theorem mc_X4_admittedOf : Cond.code yX4_admittedOf cX4_admittedOf 2 (some .int) ∈ xw_tbl ∧ Cond.initialized yX4_admittedOf.cls ∈ xw_tbl ∧ (yX4_admittedOf.cls ≠ "java/lang/invoke/MethodHandle" ∧ yX4_admittedOf.cls ≠ "java/lang/invoke/VarHandle") ∧ (parseMethodDescriptor yX4_admittedOf.desc).map (fun d => d.parameters.length) = some 1 := ⟨xw_inI 812 (by decide +kernel) rfl, xw_inI 140 (by decide +kernel) rfl, by decide +kernel, by decide +kernel⟩
set_option maxRecDepth 100000 in
theorem mk_X4_admittedOf : Cond.instanceMethod yX4_admittedOf ∈ xw_tbl ∧ Cond.selects yX4_admittedOf.cls yX4_admittedOf yX4_admittedOf ∈ xw_tbl := ⟨xw_inI 811 (by decide +kernel) rfl, xw_inI 53 (by decide +kernel) rfl⟩
set_option maxRecDepth 100000 in
theorem ml_X7_205 : xk_MV RX7 205 yX4_admittedOf cX4_admittedOf 2 (some .int) 1 := ⟨⟨mc_X4_admittedOf.1, mc_X4_admittedOf.2.1, mc_X4_admittedOf.2.2.1, mc_X4_admittedOf.2.2.2, Or.inr (xw_inNI 809 (by decide +kernel) rfl)⟩, mk_X4_admittedOf⟩
set_option maxRecDepth 100000 in
theorem mc_X0_ownedBy : Cond.code yX0_ownedBy cX0_ownedBy 4 (some .int) ∈ xw_tbl ∧ Cond.initialized yX0_ownedBy.cls ∈ xw_tbl ∧ (yX0_ownedBy.cls ≠ "java/lang/invoke/MethodHandle" ∧ yX0_ownedBy.cls ≠ "java/lang/invoke/VarHandle") ∧ (parseMethodDescriptor yX0_ownedBy.desc).map (fun d => d.parameters.length) = some 1 := ⟨xw_inI 816 (by decide +kernel) rfl, xw_inI 138 (by decide +kernel) rfl, by decide +kernel, by decide +kernel⟩
set_option maxRecDepth 100000 in
theorem mk_X0_ownedBy : Cond.instanceMethod yX0_ownedBy ∈ xw_tbl ∧ Cond.selects yX0_ownedBy.cls yX0_ownedBy yX0_ownedBy ∈ xw_tbl := ⟨xw_inI 815 (by decide +kernel) rfl, xw_inI 54 (by decide +kernel) rfl⟩
set_option maxRecDepth 100000 in
theorem ml_X7_208 : xk_MV RX7 208 yX0_ownedBy cX0_ownedBy 4 (some .int) 1 := ⟨⟨mc_X0_ownedBy.1, mc_X0_ownedBy.2.1, mc_X0_ownedBy.2.2.1, mc_X0_ownedBy.2.2.2, Or.inr (xw_inNI 813 (by decide +kernel) rfl)⟩, mk_X0_ownedBy⟩
set_option maxRecDepth 100000 in
theorem ml_X0_83 : xk_MV RX0 83 yX0_ownedBy cX0_ownedBy 4 (some .int) 1 := ⟨⟨mc_X0_ownedBy.1, mc_X0_ownedBy.2.1, mc_X0_ownedBy.2.2.1, mc_X0_ownedBy.2.2.2, Or.inl (xw_inI 1082 (by decide +kernel) rfl)⟩, mk_X0_ownedBy⟩
set_option maxRecDepth 100000 in
theorem mc_X4_paysOf : Cond.code yX4_paysOf cX4_paysOf 5 (some .long) ∈ xw_tbl ∧ Cond.initialized yX4_paysOf.cls ∈ xw_tbl ∧ (yX4_paysOf.cls ≠ "java/lang/invoke/MethodHandle" ∧ yX4_paysOf.cls ≠ "java/lang/invoke/VarHandle") ∧ (parseMethodDescriptor yX4_paysOf.desc).map (fun d => d.parameters.length) = some 1 := ⟨xw_inI 824 (by decide +kernel) rfl, xw_inI 140 (by decide +kernel) rfl, by decide +kernel, by decide +kernel⟩
set_option maxRecDepth 100000 in
theorem mk_X4_paysOf : Cond.instanceMethod yX4_paysOf ∈ xw_tbl ∧ Cond.selects yX4_paysOf.cls yX4_paysOf yX4_paysOf ∈ xw_tbl := ⟨xw_inI 823 (by decide +kernel) rfl, xw_inI 55 (by decide +kernel) rfl⟩
set_option maxRecDepth 100000 in
theorem ml_X7_211 : xk_MV RX7 211 yX4_paysOf cX4_paysOf 5 (some .long) 1 := ⟨⟨mc_X4_paysOf.1, mc_X4_paysOf.2.1, mc_X4_paysOf.2.2.1, mc_X4_paysOf.2.2.2, Or.inr (xw_inNI 821 (by decide +kernel) rfl)⟩, mk_X4_paysOf⟩
set_option maxRecDepth 100000 in
theorem mc_X4_figure : Cond.code yX4_figure cX4_figure 2 (some .int) ∈ xw_tbl ∧ Cond.initialized yX4_figure.cls ∈ xw_tbl ∧ (yX4_figure.cls ≠ "java/lang/invoke/MethodHandle" ∧ yX4_figure.cls ≠ "java/lang/invoke/VarHandle") ∧ (parseMethodDescriptor yX4_figure.desc).map (fun d => d.parameters.length) = some 1 := ⟨xw_inI 832 (by decide +kernel) rfl, xw_inI 140 (by decide +kernel) rfl, by decide +kernel, by decide +kernel⟩
set_option maxRecDepth 100000 in
theorem mk_X4_figure : Cond.instanceMethod yX4_figure ∈ xw_tbl ∧ Cond.selects yX4_figure.cls yX4_figure yX4_figure ∈ xw_tbl := ⟨xw_inI 831 (by decide +kernel) rfl, xw_inI 56 (by decide +kernel) rfl⟩
set_option maxRecDepth 100000 in
theorem ml_X7_214 : xk_MV RX7 214 yX4_figure cX4_figure 2 (some .int) 1 := ⟨⟨mc_X4_figure.1, mc_X4_figure.2.1, mc_X4_figure.2.2.1, mc_X4_figure.2.2.2, Or.inr (xw_inNI 829 (by decide +kernel) rfl)⟩, mk_X4_figure⟩
set_option maxRecDepth 100000 in
theorem mc_X0_priceAt : Cond.code yX0_priceAt cX0_priceAt 2 (some .int) ∈ xw_tbl ∧ Cond.initialized yX0_priceAt.cls ∈ xw_tbl ∧ (yX0_priceAt.cls ≠ "java/lang/invoke/MethodHandle" ∧ yX0_priceAt.cls ≠ "java/lang/invoke/VarHandle") ∧ (parseMethodDescriptor yX0_priceAt.desc).map (fun d => d.parameters.length) = some 1 := ⟨xw_inI 763 (by decide +kernel) rfl, xw_inI 138 (by decide +kernel) rfl, by decide +kernel, by decide +kernel⟩
set_option maxRecDepth 100000 in
theorem mk_X0_priceAt : Cond.instanceMethod yX0_priceAt ∈ xw_tbl ∧ Cond.selects yX0_priceAt.cls yX0_priceAt yX0_priceAt ∈ xw_tbl := ⟨xw_inI 762 (by decide +kernel) rfl, xw_inI 48 (by decide +kernel) rfl⟩
set_option maxRecDepth 100000 in
theorem ml_X7_219 : xk_MV RX7 219 yX0_priceAt cX0_priceAt 2 (some .int) 1 := ⟨⟨mc_X0_priceAt.1, mc_X0_priceAt.2.1, mc_X0_priceAt.2.2.1, mc_X0_priceAt.2.2.2, Or.inr (xw_inNI 863 (by decide +kernel) rfl)⟩, mk_X0_priceAt⟩
set_option maxRecDepth 100000 in
theorem ml_X4_149 : xk_MV RX4 149 yX0_priceAt cX0_priceAt 2 (some .int) 1 := ⟨⟨mc_X0_priceAt.1, mc_X0_priceAt.2.1, mc_X0_priceAt.2.2.1, mc_X0_priceAt.2.2.2, Or.inr (xw_inNI 760 (by decide +kernel) rfl)⟩, mk_X0_priceAt⟩
set_option maxRecDepth 100000 in
theorem mc_X4_admittedUpTo : Cond.code yX4_admittedUpTo cX4_admittedUpTo 4 (some .int) ∈ xw_tbl ∧ Cond.initialized yX4_admittedUpTo.cls ∈ xw_tbl ∧ (yX4_admittedUpTo.cls ≠ "java/lang/invoke/MethodHandle" ∧ yX4_admittedUpTo.cls ≠ "java/lang/invoke/VarHandle") ∧ (parseMethodDescriptor yX4_admittedUpTo.desc).map (fun d => d.parameters.length) = some 1 := ⟨xw_inI 871 (by decide +kernel) rfl, xw_inI 140 (by decide +kernel) rfl, by decide +kernel, by decide +kernel⟩
set_option maxRecDepth 100000 in
theorem mk_X4_admittedUpTo : Cond.instanceMethod yX4_admittedUpTo ∈ xw_tbl ∧ Cond.selects yX4_admittedUpTo.cls yX4_admittedUpTo yX4_admittedUpTo ∈ xw_tbl := ⟨xw_inI 870 (by decide +kernel) rfl, xw_inI 59 (by decide +kernel) rfl⟩
set_option maxRecDepth 100000 in
theorem ml_X7_222 : xk_MV RX7 222 yX4_admittedUpTo cX4_admittedUpTo 4 (some .int) 1 := ⟨⟨mc_X4_admittedUpTo.1, mc_X4_admittedUpTo.2.1, mc_X4_admittedUpTo.2.2.1, mc_X4_admittedUpTo.2.2.2, Or.inr (xw_inNI 868 (by decide +kernel) rfl)⟩, mk_X4_admittedUpTo⟩
set_option maxRecDepth 100000 in
theorem mc_X4_soldUnder : Cond.code yX4_soldUnder cX4_soldUnder 4 (some .int) ∈ xw_tbl ∧ Cond.initialized yX4_soldUnder.cls ∈ xw_tbl ∧ (yX4_soldUnder.cls ≠ "java/lang/invoke/MethodHandle" ∧ yX4_soldUnder.cls ≠ "java/lang/invoke/VarHandle") ∧ (parseMethodDescriptor yX4_soldUnder.desc).map (fun d => d.parameters.length) = some 1 := ⟨xw_inI 883 (by decide +kernel) rfl, xw_inI 140 (by decide +kernel) rfl, by decide +kernel, by decide +kernel⟩
set_option maxRecDepth 100000 in
theorem mk_X4_soldUnder : Cond.instanceMethod yX4_soldUnder ∈ xw_tbl ∧ Cond.selects yX4_soldUnder.cls yX4_soldUnder yX4_soldUnder ∈ xw_tbl := ⟨xw_inI 882 (by decide +kernel) rfl, xw_inI 60 (by decide +kernel) rfl⟩
set_option maxRecDepth 100000 in
theorem ml_X7_228 : xk_MV RX7 228 yX4_soldUnder cX4_soldUnder 4 (some .int) 1 := ⟨⟨mc_X4_soldUnder.1, mc_X4_soldUnder.2.1, mc_X4_soldUnder.2.2.1, mc_X4_soldUnder.2.2.2, Or.inr (xw_inNI 880 (by decide +kernel) rfl)⟩, mk_X4_soldUnder⟩
set_option maxRecDepth 100000 in
theorem mc_X4_rateOfStep : Cond.code yX4_rateOfStep cX4_rateOfStep 6 (some .int) ∈ xw_tbl ∧ Cond.initialized yX4_rateOfStep.cls ∈ xw_tbl ∧ (yX4_rateOfStep.cls ≠ "java/lang/invoke/MethodHandle" ∧ yX4_rateOfStep.cls ≠ "java/lang/invoke/VarHandle") ∧ (parseMethodDescriptor yX4_rateOfStep.desc).map (fun d => d.parameters.length) = some 1 := ⟨xw_inI 895 (by decide +kernel) rfl, xw_inI 140 (by decide +kernel) rfl, by decide +kernel, by decide +kernel⟩
set_option maxRecDepth 100000 in
theorem mk_X4_rateOfStep : Cond.instanceMethod yX4_rateOfStep ∈ xw_tbl ∧ Cond.selects yX4_rateOfStep.cls yX4_rateOfStep yX4_rateOfStep ∈ xw_tbl := ⟨xw_inI 894 (by decide +kernel) rfl, xw_inI 61 (by decide +kernel) rfl⟩
set_option maxRecDepth 100000 in
theorem ml_X7_231 : xk_MV RX7 231 yX4_rateOfStep cX4_rateOfStep 6 (some .int) 1 := ⟨⟨mc_X4_rateOfStep.1, mc_X4_rateOfStep.2.1, mc_X4_rateOfStep.2.2.1, mc_X4_rateOfStep.2.2.2, Or.inr (xw_inNI 892 (by decide +kernel) rfl)⟩, mk_X4_rateOfStep⟩
set_option maxRecDepth 100000 in
theorem mc_X4_admittedAt : Cond.code yX4_admittedAt cX4_admittedAt 2 (some .int) ∈ xw_tbl ∧ Cond.initialized yX4_admittedAt.cls ∈ xw_tbl ∧ (yX4_admittedAt.cls ≠ "java/lang/invoke/MethodHandle" ∧ yX4_admittedAt.cls ≠ "java/lang/invoke/VarHandle") ∧ (parseMethodDescriptor yX4_admittedAt.desc).map (fun d => d.parameters.length) = some 1 := ⟨xw_inI 899 (by decide +kernel) rfl, xw_inI 140 (by decide +kernel) rfl, by decide +kernel, by decide +kernel⟩
set_option maxRecDepth 100000 in
theorem mk_X4_admittedAt : Cond.instanceMethod yX4_admittedAt ∈ xw_tbl ∧ Cond.selects yX4_admittedAt.cls yX4_admittedAt yX4_admittedAt ∈ xw_tbl := ⟨xw_inI 898 (by decide +kernel) rfl, xw_inI 62 (by decide +kernel) rfl⟩
set_option maxRecDepth 100000 in
theorem ml_X7_234 : xk_MV RX7 234 yX4_admittedAt cX4_admittedAt 2 (some .int) 1 := ⟨⟨mc_X4_admittedAt.1, mc_X4_admittedAt.2.1, mc_X4_admittedAt.2.2.1, mc_X4_admittedAt.2.2.2, Or.inr (xw_inNI 896 (by decide +kernel) rfl)⟩, mk_X4_admittedAt⟩
set_option maxRecDepth 100000 in
theorem mc_X4_soldAtRate : Cond.code yX4_soldAtRate cX4_soldAtRate 2 (some .int) ∈ xw_tbl ∧ Cond.initialized yX4_soldAtRate.cls ∈ xw_tbl ∧ (yX4_soldAtRate.cls ≠ "java/lang/invoke/MethodHandle" ∧ yX4_soldAtRate.cls ≠ "java/lang/invoke/VarHandle") ∧ (parseMethodDescriptor yX4_soldAtRate.desc).map (fun d => d.parameters.length) = some 1 := ⟨xw_inI 903 (by decide +kernel) rfl, xw_inI 140 (by decide +kernel) rfl, by decide +kernel, by decide +kernel⟩
set_option maxRecDepth 100000 in
theorem mk_X4_soldAtRate : Cond.instanceMethod yX4_soldAtRate ∈ xw_tbl ∧ Cond.selects yX4_soldAtRate.cls yX4_soldAtRate yX4_soldAtRate ∈ xw_tbl := ⟨xw_inI 902 (by decide +kernel) rfl, xw_inI 63 (by decide +kernel) rfl⟩
set_option maxRecDepth 100000 in
theorem ml_X7_237 : xk_MV RX7 237 yX4_soldAtRate cX4_soldAtRate 2 (some .int) 1 := ⟨⟨mc_X4_soldAtRate.1, mc_X4_soldAtRate.2.1, mc_X4_soldAtRate.2.2.1, mc_X4_soldAtRate.2.2.2, Or.inr (xw_inNI 900 (by decide +kernel) rfl)⟩, mk_X4_soldAtRate⟩
set_option maxRecDepth 100000 in
theorem mc_X4_bidsAt : Cond.code yX4_bidsAt cX4_bidsAt 4 (some .int) ∈ xw_tbl ∧ Cond.initialized yX4_bidsAt.cls ∈ xw_tbl ∧ (yX4_bidsAt.cls ≠ "java/lang/invoke/MethodHandle" ∧ yX4_bidsAt.cls ≠ "java/lang/invoke/VarHandle") ∧ (parseMethodDescriptor yX4_bidsAt.desc).map (fun d => d.parameters.length) = some 1 := ⟨xw_inI 841 (by decide +kernel) rfl, xw_inI 140 (by decide +kernel) rfl, by decide +kernel, by decide +kernel⟩
set_option maxRecDepth 100000 in
theorem mk_X4_bidsAt : Cond.instanceMethod yX4_bidsAt ∈ xw_tbl ∧ Cond.selects yX4_bidsAt.cls yX4_bidsAt yX4_bidsAt ∈ xw_tbl := ⟨xw_inI 840 (by decide +kernel) rfl, xw_inI 58 (by decide +kernel) rfl⟩
set_option maxRecDepth 100000 in
theorem ml_X7_240 : xk_MV RX7 240 yX4_bidsAt cX4_bidsAt 4 (some .int) 1 := ⟨⟨mc_X4_bidsAt.1, mc_X4_bidsAt.2.1, mc_X4_bidsAt.2.2.1, mc_X4_bidsAt.2.2.2, Or.inr (xw_inNI 904 (by decide +kernel) rfl)⟩, mk_X4_bidsAt⟩
set_option maxRecDepth 100000 in
theorem ml_X4_163 : xk_MV RX4 163 yX4_bidsAt cX4_bidsAt 4 (some .int) 1 := ⟨⟨mc_X4_bidsAt.1, mc_X4_bidsAt.2.1, mc_X4_bidsAt.2.2.1, mc_X4_bidsAt.2.2.2, Or.inl (xw_inI 838 (by decide +kernel) rfl)⟩, mk_X4_bidsAt⟩
set_option maxRecDepth 100000 in
theorem mc_X7_figureBy : Cond.code yX7_figureBy cX7_figureBy 4 (some .int) ∈ xw_tbl ∧ Cond.initialized yX7_figureBy.cls ∈ xw_tbl ∧ (yX7_figureBy.cls ≠ "java/lang/invoke/MethodHandle" ∧ yX7_figureBy.cls ≠ "java/lang/invoke/VarHandle") ∧ (parseMethodDescriptor yX7_figureBy.desc).map (fun d => d.parameters.length) = some 3 := ⟨xw_inI 912 (by decide +kernel) rfl, xw_inI 137 (by decide +kernel) rfl, by decide +kernel, by decide +kernel⟩
set_option maxRecDepth 100000 in
theorem mk_X7_figureBy : Cond.instanceMethod yX7_figureBy ∈ xw_tbl ∧ Cond.selects yX7_figureBy.cls yX7_figureBy yX7_figureBy ∈ xw_tbl := ⟨xw_inI 911 (by decide +kernel) rfl, xw_inI 64 (by decide +kernel) rfl⟩
set_option maxRecDepth 100000 in
theorem ml_X7_243 : xk_MV RX7 243 yX7_figureBy cX7_figureBy 4 (some .int) 3 := ⟨⟨mc_X7_figureBy.1, mc_X7_figureBy.2.1, mc_X7_figureBy.2.2.1, mc_X7_figureBy.2.2.2, Or.inl (xw_inI 909 (by decide +kernel) rfl)⟩, mk_X7_figureBy⟩
set_option maxRecDepth 100000 in
theorem mc_X7_tryTerm : Cond.code yX7_tryTerm cX7_tryTerm 3 (some (.object "BillTender$Sale")) ∈ xw_tbl ∧ Cond.initialized yX7_tryTerm.cls ∈ xw_tbl ∧ (yX7_tryTerm.cls ≠ "java/lang/invoke/MethodHandle" ∧ yX7_tryTerm.cls ≠ "java/lang/invoke/VarHandle") ∧ (parseMethodDescriptor yX7_tryTerm.desc).map (fun d => d.parameters.length) = some 2 := ⟨xw_inI 924 (by decide +kernel) rfl, xw_inI 137 (by decide +kernel) rfl, by decide +kernel, by decide +kernel⟩
set_option maxRecDepth 100000 in
theorem mk_X7_tryTerm : Cond.instanceMethod yX7_tryTerm ∈ xw_tbl ∧ Cond.selects yX7_tryTerm.cls yX7_tryTerm yX7_tryTerm ∈ xw_tbl := ⟨xw_inI 923 (by decide +kernel) rfl, xw_inI 66 (by decide +kernel) rfl⟩
set_option maxRecDepth 100000 in
theorem ml_X7_247 : xk_MV RX7 247 yX7_tryTerm cX7_tryTerm 3 (some (.object "BillTender$Sale")) 2 := ⟨⟨mc_X7_tryTerm.1, mc_X7_tryTerm.2.1, mc_X7_tryTerm.2.2.1, mc_X7_tryTerm.2.2.2, Or.inl (xw_inI 921 (by decide +kernel) rfl)⟩, mk_X7_tryTerm⟩
set_option maxRecDepth 100000 in
theorem mc_X7_tried : Cond.code yX7_tried cX7_tried 1 (some (.object "BillTender$Sale")) ∈ xw_tbl ∧ Cond.initialized yX7_tried.cls ∈ xw_tbl ∧ (yX7_tried.cls ≠ "java/lang/invoke/MethodHandle" ∧ yX7_tried.cls ≠ "java/lang/invoke/VarHandle") ∧ (parseMethodDescriptor yX7_tried.desc).map (fun d => d.parameters.length) = some 0 := ⟨xw_inI 916 (by decide +kernel) rfl, xw_inI 137 (by decide +kernel) rfl, by decide +kernel, by decide +kernel⟩
set_option maxRecDepth 100000 in
theorem mk_X7_tried : Cond.instanceMethod yX7_tried ∈ xw_tbl ∧ Cond.selects yX7_tried.cls yX7_tried yX7_tried ∈ xw_tbl := ⟨xw_inI 915 (by decide +kernel) rfl, xw_inI 65 (by decide +kernel) rfl⟩
set_option maxRecDepth 100000 in
theorem ml_X7_251 : xk_MV RX7 251 yX7_tried cX7_tried 1 (some (.object "BillTender$Sale")) 0 := ⟨⟨mc_X7_tried.1, mc_X7_tried.2.1, mc_X7_tried.2.2.1, mc_X7_tried.2.2.2, Or.inl (xw_inI 913 (by decide +kernel) rfl)⟩, mk_X7_tried⟩
set_option maxRecDepth 100000 in
theorem mc_X7_tryRate : Cond.code yX7_tryRate cX7_tryRate 3 (some (.object "BillTender$Sale")) ∈ xw_tbl ∧ Cond.initialized yX7_tryRate.cls ∈ xw_tbl ∧ (yX7_tryRate.cls ≠ "java/lang/invoke/MethodHandle" ∧ yX7_tryRate.cls ≠ "java/lang/invoke/VarHandle") ∧ (parseMethodDescriptor yX7_tryRate.desc).map (fun d => d.parameters.length) = some 2 := ⟨xw_inI 958 (by decide +kernel) rfl, xw_inI 137 (by decide +kernel) rfl, by decide +kernel, by decide +kernel⟩
set_option maxRecDepth 100000 in
theorem mk_X7_tryRate : Cond.instanceMethod yX7_tryRate ∈ xw_tbl ∧ Cond.selects yX7_tryRate.cls yX7_tryRate yX7_tryRate ∈ xw_tbl := ⟨xw_inI 957 (by decide +kernel) rfl, xw_inI 67 (by decide +kernel) rfl⟩
set_option maxRecDepth 100000 in
theorem ml_X7_263 : xk_MV RX7 263 yX7_tryRate cX7_tryRate 3 (some (.object "BillTender$Sale")) 2 := ⟨⟨mc_X7_tryRate.1, mc_X7_tryRate.2.1, mc_X7_tryRate.2.2.1, mc_X7_tryRate.2.2.2, Or.inl (xw_inI 955 (by decide +kernel) rfl)⟩, mk_X7_tryRate⟩
set_option maxRecDepth 100000 in
theorem mc_X0_removeAllOf : Cond.code yX0_removeAllOf cX0_removeAllOf 3 none ∈ xw_tbl ∧ Cond.initialized yX0_removeAllOf.cls ∈ xw_tbl ∧ (yX0_removeAllOf.cls ≠ "java/lang/invoke/MethodHandle" ∧ yX0_removeAllOf.cls ≠ "java/lang/invoke/VarHandle") ∧ (parseMethodDescriptor yX0_removeAllOf.desc).map (fun d => d.parameters.length) = some 1 := ⟨xw_inI 978 (by decide +kernel) rfl, xw_inI 138 (by decide +kernel) rfl, by decide +kernel, by decide +kernel⟩
set_option maxRecDepth 100000 in
theorem mk_X0_removeAllOf : Cond.instanceMethod yX0_removeAllOf ∈ xw_tbl ∧ Cond.selects yX0_removeAllOf.cls yX0_removeAllOf yX0_removeAllOf ∈ xw_tbl := ⟨xw_inI 977 (by decide +kernel) rfl, xw_inI 68 (by decide +kernel) rfl⟩
set_option maxRecDepth 100000 in
theorem ml_X7_266 : xk_MV RX7 266 yX0_removeAllOf cX0_removeAllOf 3 none 1 := ⟨⟨mc_X0_removeAllOf.1, mc_X0_removeAllOf.2.1, mc_X0_removeAllOf.2.2.1, mc_X0_removeAllOf.2.2.2, Or.inr (xw_inNI 975 (by decide +kernel) rfl)⟩, mk_X0_removeAllOf⟩
set_option maxRecDepth 100000 in
theorem mc_X1_hasLine : Cond.code yX1_hasLine cX1_hasLine 2 (some .boolean) ∈ xw_tbl ∧ Cond.initialized yX1_hasLine.cls ∈ xw_tbl ∧ (yX1_hasLine.cls ≠ "java/lang/invoke/MethodHandle" ∧ yX1_hasLine.cls ≠ "java/lang/invoke/VarHandle") ∧ (parseMethodDescriptor yX1_hasLine.desc).map (fun d => d.parameters.length) = some 1 := ⟨xw_inI 986 (by decide +kernel) rfl, xw_inI 139 (by decide +kernel) rfl, by decide +kernel, by decide +kernel⟩
set_option maxRecDepth 100000 in
theorem mk_X1_hasLine : Cond.instanceMethod yX1_hasLine ∈ xw_tbl ∧ Cond.selects yX1_hasLine.cls yX1_hasLine yX1_hasLine ∈ xw_tbl := ⟨xw_inI 985 (by decide +kernel) rfl, xw_inI 69 (by decide +kernel) rfl⟩
set_option maxRecDepth 100000 in
theorem ml_X7_269 : xk_MV RX7 269 yX1_hasLine cX1_hasLine 2 (some .boolean) 1 := ⟨⟨mc_X1_hasLine.1, mc_X1_hasLine.2.1, mc_X1_hasLine.2.2.1, mc_X1_hasLine.2.2.2, Or.inr (xw_inNI 983 (by decide +kernel) rfl)⟩, mk_X1_hasLine⟩
set_option maxRecDepth 100000 in
theorem mc_X1_soldInAll : Cond.code yX1_soldInAll cX1_soldInAll 3 (some .int) ∈ xw_tbl ∧ Cond.initialized yX1_soldInAll.cls ∈ xw_tbl ∧ (yX1_soldInAll.cls ≠ "java/lang/invoke/MethodHandle" ∧ yX1_soldInAll.cls ≠ "java/lang/invoke/VarHandle") ∧ (parseMethodDescriptor yX1_soldInAll.desc).map (fun d => d.parameters.length) = some 0 := ⟨xw_inI 994 (by decide +kernel) rfl, xw_inI 139 (by decide +kernel) rfl, by decide +kernel, by decide +kernel⟩
set_option maxRecDepth 100000 in
theorem mk_X1_soldInAll : Cond.instanceMethod yX1_soldInAll ∈ xw_tbl ∧ Cond.selects yX1_soldInAll.cls yX1_soldInAll yX1_soldInAll ∈ xw_tbl := ⟨xw_inI 993 (by decide +kernel) rfl, xw_inI 70 (by decide +kernel) rfl⟩
set_option maxRecDepth 100000 in
theorem ml_X7_279 : xk_MV RX7 279 yX1_soldInAll cX1_soldInAll 3 (some .int) 0 := ⟨⟨mc_X1_soldInAll.1, mc_X1_soldInAll.2.1, mc_X1_soldInAll.2.2.1, mc_X1_soldInAll.2.2.2, Or.inr (xw_inNI 991 (by decide +kernel) rfl)⟩, mk_X1_soldInAll⟩
set_option maxRecDepth 100000 in
theorem mc_X1_meanStop : Cond.code yX1_meanStop cX1_meanStop 4 (some .int) ∈ xw_tbl ∧ Cond.initialized yX1_meanStop.cls ∈ xw_tbl ∧ (yX1_meanStop.cls ≠ "java/lang/invoke/MethodHandle" ∧ yX1_meanStop.cls ≠ "java/lang/invoke/VarHandle") ∧ (parseMethodDescriptor yX1_meanStop.desc).map (fun d => d.parameters.length) = some 0 := ⟨xw_inI 998 (by decide +kernel) rfl, xw_inI 139 (by decide +kernel) rfl, by decide +kernel, by decide +kernel⟩
set_option maxRecDepth 100000 in
theorem mk_X1_meanStop : Cond.instanceMethod yX1_meanStop ∈ xw_tbl ∧ Cond.selects yX1_meanStop.cls yX1_meanStop yX1_meanStop ∈ xw_tbl := ⟨xw_inI 997 (by decide +kernel) rfl, xw_inI 71 (by decide +kernel) rfl⟩
set_option maxRecDepth 100000 in
theorem ml_X7_280 : xk_MV RX7 280 yX1_meanStop cX1_meanStop 4 (some .int) 0 := ⟨⟨mc_X1_meanStop.1, mc_X1_meanStop.2.1, mc_X1_meanStop.2.2.1, mc_X1_meanStop.2.2.2, Or.inr (xw_inNI 995 (by decide +kernel) rfl)⟩, mk_X1_meanStop⟩
set_option maxRecDepth 100000 in
theorem mc_X1_greatestStop : Cond.code yX1_greatestStop cX1_greatestStop 3 (some .int) ∈ xw_tbl ∧ Cond.initialized yX1_greatestStop.cls ∈ xw_tbl ∧ (yX1_greatestStop.cls ≠ "java/lang/invoke/MethodHandle" ∧ yX1_greatestStop.cls ≠ "java/lang/invoke/VarHandle") ∧ (parseMethodDescriptor yX1_greatestStop.desc).map (fun d => d.parameters.length) = some 0 := ⟨xw_inI 1002 (by decide +kernel) rfl, xw_inI 139 (by decide +kernel) rfl, by decide +kernel, by decide +kernel⟩
set_option maxRecDepth 100000 in
theorem mk_X1_greatestStop : Cond.instanceMethod yX1_greatestStop ∈ xw_tbl ∧ Cond.selects yX1_greatestStop.cls yX1_greatestStop yX1_greatestStop ∈ xw_tbl := ⟨xw_inI 1001 (by decide +kernel) rfl, xw_inI 72 (by decide +kernel) rfl⟩
set_option maxRecDepth 100000 in
theorem ml_X7_283 : xk_MV RX7 283 yX1_greatestStop cX1_greatestStop 3 (some .int) 0 := ⟨⟨mc_X1_greatestStop.1, mc_X1_greatestStop.2.1, mc_X1_greatestStop.2.2.1, mc_X1_greatestStop.2.2.2, Or.inr (xw_inNI 999 (by decide +kernel) rfl)⟩, mk_X1_greatestStop⟩
set_option maxRecDepth 100000 in
theorem mc_X1_leastStop : Cond.code yX1_leastStop cX1_leastStop 3 (some .int) ∈ xw_tbl ∧ Cond.initialized yX1_leastStop.cls ∈ xw_tbl ∧ (yX1_leastStop.cls ≠ "java/lang/invoke/MethodHandle" ∧ yX1_leastStop.cls ≠ "java/lang/invoke/VarHandle") ∧ (parseMethodDescriptor yX1_leastStop.desc).map (fun d => d.parameters.length) = some 0 := ⟨xw_inI 1007 (by decide +kernel) rfl, xw_inI 139 (by decide +kernel) rfl, by decide +kernel, by decide +kernel⟩
set_option maxRecDepth 100000 in
theorem mk_X1_leastStop : Cond.instanceMethod yX1_leastStop ∈ xw_tbl ∧ Cond.selects yX1_leastStop.cls yX1_leastStop yX1_leastStop ∈ xw_tbl := ⟨xw_inI 1006 (by decide +kernel) rfl, xw_inI 73 (by decide +kernel) rfl⟩
set_option maxRecDepth 100000 in
theorem ml_X7_286 : xk_MV RX7 286 yX1_leastStop cX1_leastStop 3 (some .int) 0 := ⟨⟨mc_X1_leastStop.1, mc_X1_leastStop.2.1, mc_X1_leastStop.2.2.1, mc_X1_leastStop.2.2.2, Or.inr (xw_inNI 1004 (by decide +kernel) rfl)⟩, mk_X1_leastStop⟩
set_option maxRecDepth 100000 in
theorem mc_X5_write : Cond.code yX5_write cX5_write 4 none ∈ xw_tbl ∧ Cond.initialized yX5_write.cls ∈ xw_tbl ∧ (yX5_write.cls ≠ "java/lang/invoke/MethodHandle" ∧ yX5_write.cls ≠ "java/lang/invoke/VarHandle") ∧ (parseMethodDescriptor yX5_write.desc).map (fun d => d.parameters.length) = some 2 := ⟨xw_inI 1019 (by decide +kernel) rfl, xw_inI 144 (by decide +kernel) rfl, by decide +kernel, by decide +kernel⟩
set_option maxRecDepth 100000 in
theorem mk_X5_write : Cond.instanceMethod yX5_write ∈ xw_tbl ∧ Cond.selects yX5_write.cls yX5_write yX5_write ∈ xw_tbl := ⟨xw_inI 1018 (by decide +kernel) rfl, xw_inI 74 (by decide +kernel) rfl⟩
set_option maxRecDepth 100000 in
theorem ml_X7_293 : xk_MV RX7 293 yX5_write cX5_write 4 none 2 := ⟨⟨mc_X5_write.1, mc_X5_write.2.1, mc_X5_write.2.2.1, mc_X5_write.2.2.2, Or.inr (xw_inNI 1016 (by decide +kernel) rfl)⟩, mk_X5_write⟩
set_option maxRecDepth 100000 in
theorem mc_X0_plainBids : Cond.code yX0_plainBids cX0_plainBids 3 (some .int) ∈ xw_tbl ∧ Cond.initialized yX0_plainBids.cls ∈ xw_tbl ∧ (yX0_plainBids.cls ≠ "java/lang/invoke/MethodHandle" ∧ yX0_plainBids.cls ≠ "java/lang/invoke/VarHandle") ∧ (parseMethodDescriptor yX0_plainBids.desc).map (fun d => d.parameters.length) = some 0 := ⟨xw_inI 1068 (by decide +kernel) rfl, xw_inI 138 (by decide +kernel) rfl, by decide +kernel, by decide +kernel⟩
set_option maxRecDepth 100000 in
theorem mk_X0_plainBids : Cond.instanceMethod yX0_plainBids ∈ xw_tbl ∧ Cond.selects yX0_plainBids.cls yX0_plainBids yX0_plainBids ∈ xw_tbl := ⟨xw_inI 1067 (by decide +kernel) rfl, xw_inI 81 (by decide +kernel) rfl⟩
set_option maxRecDepth 100000 in
theorem ml_X7_301 : xk_MV RX7 301 yX0_plainBids cX0_plainBids 3 (some .int) 0 := ⟨⟨mc_X0_plainBids.1, mc_X0_plainBids.2.1, mc_X0_plainBids.2.2.1, mc_X0_plainBids.2.2.2, Or.inr (xw_inNI 1065 (by decide +kernel) rfl)⟩, mk_X0_plainBids⟩
set_option maxRecDepth 100000 in
theorem mc_X4_bidsWithWhy : Cond.code yX4_bidsWithWhy cX4_bidsWithWhy 4 (some .int) ∈ xw_tbl ∧ Cond.initialized yX4_bidsWithWhy.cls ∈ xw_tbl ∧ (yX4_bidsWithWhy.cls ≠ "java/lang/invoke/MethodHandle" ∧ yX4_bidsWithWhy.cls ≠ "java/lang/invoke/VarHandle") ∧ (parseMethodDescriptor yX4_bidsWithWhy.desc).map (fun d => d.parameters.length) = some 1 := ⟨xw_inI 1072 (by decide +kernel) rfl, xw_inI 140 (by decide +kernel) rfl, by decide +kernel, by decide +kernel⟩
set_option maxRecDepth 100000 in
theorem mk_X4_bidsWithWhy : Cond.instanceMethod yX4_bidsWithWhy ∈ xw_tbl ∧ Cond.selects yX4_bidsWithWhy.cls yX4_bidsWithWhy yX4_bidsWithWhy ∈ xw_tbl := ⟨xw_inI 1071 (by decide +kernel) rfl, xw_inI 82 (by decide +kernel) rfl⟩
set_option maxRecDepth 100000 in
theorem ml_X7_307 : xk_MV RX7 307 yX4_bidsWithWhy cX4_bidsWithWhy 4 (some .int) 1 := ⟨⟨mc_X4_bidsWithWhy.1, mc_X4_bidsWithWhy.2.1, mc_X4_bidsWithWhy.2.2.1, mc_X4_bidsWithWhy.2.2.2, Or.inr (xw_inNI 1069 (by decide +kernel) rfl)⟩, mk_X4_bidsWithWhy⟩
set_option maxRecDepth 100000 in
theorem mc_X0_housesWithBids : Cond.code yX0_housesWithBids cX0_housesWithBids 3 (some .int) ∈ xw_tbl ∧ Cond.initialized yX0_housesWithBids.cls ∈ xw_tbl ∧ (yX0_housesWithBids.cls ≠ "java/lang/invoke/MethodHandle" ∧ yX0_housesWithBids.cls ≠ "java/lang/invoke/VarHandle") ∧ (parseMethodDescriptor yX0_housesWithBids.desc).map (fun d => d.parameters.length) = some 0 := ⟨xw_inI 1076 (by decide +kernel) rfl, xw_inI 138 (by decide +kernel) rfl, by decide +kernel, by decide +kernel⟩
set_option maxRecDepth 100000 in
theorem mk_X0_housesWithBids : Cond.instanceMethod yX0_housesWithBids ∈ xw_tbl ∧ Cond.selects yX0_housesWithBids.cls yX0_housesWithBids yX0_housesWithBids ∈ xw_tbl := ⟨xw_inI 1075 (by decide +kernel) rfl, xw_inI 83 (by decide +kernel) rfl⟩
set_option maxRecDepth 100000 in
theorem ml_X7_310 : xk_MV RX7 310 yX0_housesWithBids cX0_housesWithBids 3 (some .int) 0 := ⟨⟨mc_X0_housesWithBids.1, mc_X0_housesWithBids.2.1, mc_X0_housesWithBids.2.2.1, mc_X0_housesWithBids.2.2.2, Or.inr (xw_inNI 1073 (by decide +kernel) rfl)⟩, mk_X0_housesWithBids⟩
set_option maxRecDepth 100000 in
theorem mc_X0_ownersInAll : Cond.code yX0_ownersInAll cX0_ownersInAll 3 (some .int) ∈ xw_tbl ∧ Cond.initialized yX0_ownersInAll.cls ∈ xw_tbl ∧ (yX0_ownersInAll.cls ≠ "java/lang/invoke/MethodHandle" ∧ yX0_ownersInAll.cls ≠ "java/lang/invoke/VarHandle") ∧ (parseMethodDescriptor yX0_ownersInAll.desc).map (fun d => d.parameters.length) = some 0 := ⟨xw_inI 1081 (by decide +kernel) rfl, xw_inI 138 (by decide +kernel) rfl, by decide +kernel, by decide +kernel⟩
set_option maxRecDepth 100000 in
theorem mk_X0_ownersInAll : Cond.instanceMethod yX0_ownersInAll ∈ xw_tbl ∧ Cond.selects yX0_ownersInAll.cls yX0_ownersInAll yX0_ownersInAll ∈ xw_tbl := ⟨xw_inI 1080 (by decide +kernel) rfl, xw_inI 84 (by decide +kernel) rfl⟩
set_option maxRecDepth 100000 in
theorem ml_X7_313 : xk_MV RX7 313 yX0_ownersInAll cX0_ownersInAll 3 (some .int) 0 := ⟨⟨mc_X0_ownersInAll.1, mc_X0_ownersInAll.2.1, mc_X0_ownersInAll.2.2.1, mc_X0_ownersInAll.2.2.2, Or.inr (xw_inNI 1078 (by decide +kernel) rfl)⟩, mk_X0_ownersInAll⟩
set_option maxRecDepth 100000 in
theorem mc_X4_reckon : Cond.code yX4_reckon cX4_reckon 1 none ∈ xw_tbl ∧ Cond.initialized yX4_reckon.cls ∈ xw_tbl ∧ (yX4_reckon.cls ≠ "java/lang/invoke/MethodHandle" ∧ yX4_reckon.cls ≠ "java/lang/invoke/VarHandle") ∧ (parseMethodDescriptor yX4_reckon.desc).map (fun d => d.parameters.length) = some 0 := ⟨xw_inI 691 (by decide +kernel) rfl, xw_inI 140 (by decide +kernel) rfl, by decide +kernel, by decide +kernel⟩
set_option maxRecDepth 100000 in
theorem mk_X4_reckon : Cond.instanceMethod yX4_reckon ∈ xw_tbl ∧ Cond.selects yX4_reckon.cls yX4_reckon yX4_reckon ∈ xw_tbl := ⟨xw_inI 690 (by decide +kernel) rfl, xw_inI 31 (by decide +kernel) rfl⟩
set_option maxRecDepth 100000 in
theorem ml_X7_316 : xk_MV RX7 316 yX4_reckon cX4_reckon 1 none 0 := ⟨⟨mc_X4_reckon.1, mc_X4_reckon.2.1, mc_X4_reckon.2.2.1, mc_X4_reckon.2.2.2, Or.inr (xw_inNI 688 (by decide +kernel) rfl)⟩, mk_X4_reckon⟩
set_option maxRecDepth 100000 in
theorem mc_X1_init : Cond.code yX1_init cX1_init 1 none ∈ xw_tbl ∧ Cond.initialized yX1_init.cls ∈ xw_tbl ∧ (yX1_init.cls ≠ "java/lang/invoke/MethodHandle" ∧ yX1_init.cls ≠ "java/lang/invoke/VarHandle") ∧ (parseMethodDescriptor yX1_init.desc).map (fun d => d.parameters.length) = some 0 := ⟨xw_inI 169 (by decide +kernel) rfl, xw_inI 139 (by decide +kernel) rfl, by decide +kernel, by decide +kernel⟩
set_option maxRecDepth 100000 in
theorem mk_X1_init : Cond.instanceMethod yX1_init ∈ xw_tbl := xw_inI 168 (by decide +kernel) rfl
set_option maxRecDepth 100000 in
theorem ml_X0_32 : xk_MI RX0 32 yX1_init cX1_init 1 0 := ⟨⟨mc_X1_init.1, mc_X1_init.2.1, mc_X1_init.2.2.1, mc_X1_init.2.2.2, Or.inr (xw_inNI 167 (by decide +kernel) rfl)⟩, mk_X1_init, rfl⟩
set_option maxRecDepth 100000 in
theorem mc_X0_begin : Cond.code yX0_begin cX0_begin 2 none ∈ xw_tbl ∧ Cond.initialized yX0_begin.cls ∈ xw_tbl ∧ (yX0_begin.cls ≠ "java/lang/invoke/MethodHandle" ∧ yX0_begin.cls ≠ "java/lang/invoke/VarHandle") ∧ (parseMethodDescriptor yX0_begin.desc).map (fun d => d.parameters.length) = some 0 := ⟨xw_inI 198 (by decide +kernel) rfl, xw_inI 138 (by decide +kernel) rfl, by decide +kernel, by decide +kernel⟩
set_option maxRecDepth 100000 in
theorem mk_X0_begin : Cond.instanceMethod yX0_begin ∈ xw_tbl ∧ Cond.selects yX0_begin.cls yX0_begin yX0_begin ∈ xw_tbl := ⟨xw_inI 197 (by decide +kernel) rfl, xw_inI 0 (by decide +kernel) rfl⟩
set_option maxRecDepth 100000 in
theorem ml_X0_41 : xk_MV RX0 41 yX0_begin cX0_begin 2 none 0 := ⟨⟨mc_X0_begin.1, mc_X0_begin.2.1, mc_X0_begin.2.2.1, mc_X0_begin.2.2.2, Or.inl (xw_inI 195 (by decide +kernel) rfl)⟩, mk_X0_begin⟩
set_option maxRecDepth 100000 in
theorem ml_X3_19 : xk_MV RX3 19 yX0_begin cX0_begin 2 none 0 := ⟨⟨mc_X0_begin.1, mc_X0_begin.2.1, mc_X0_begin.2.2.1, mc_X0_begin.2.2.2, Or.inr (xw_inNI 445 (by decide +kernel) rfl)⟩, mk_X0_begin⟩
set_option maxRecDepth 100000 in
theorem mc_X1_copyFrom : Cond.code yX1_copyFrom cX1_copyFrom 3 none ∈ xw_tbl ∧ Cond.initialized yX1_copyFrom.cls ∈ xw_tbl ∧ (yX1_copyFrom.cls ≠ "java/lang/invoke/MethodHandle" ∧ yX1_copyFrom.cls ≠ "java/lang/invoke/VarHandle") ∧ (parseMethodDescriptor yX1_copyFrom.desc).map (fun d => d.parameters.length) = some 1 := ⟨xw_inI 587 (by decide +kernel) rfl, xw_inI 139 (by decide +kernel) rfl, by decide +kernel, by decide +kernel⟩
set_option maxRecDepth 100000 in
theorem mk_X1_copyFrom : Cond.instanceMethod yX1_copyFrom ∈ xw_tbl ∧ Cond.selects yX1_copyFrom.cls yX1_copyFrom yX1_copyFrom ∈ xw_tbl := ⟨xw_inI 586 (by decide +kernel) rfl, xw_inI 20 (by decide +kernel) rfl⟩
set_option maxRecDepth 100000 in
theorem ml_X0_50 : xk_MV RX0 50 yX1_copyFrom cX1_copyFrom 3 none 1 := ⟨⟨mc_X1_copyFrom.1, mc_X1_copyFrom.2.1, mc_X1_copyFrom.2.2.1, mc_X1_copyFrom.2.2.2, Or.inr (xw_inNI 584 (by decide +kernel) rfl)⟩, mk_X1_copyFrom⟩
set_option maxRecDepth 100000 in
theorem mc_X0_firstLike : Cond.code yX0_firstLike cX0_firstLike 3 (some .int) ∈ xw_tbl ∧ Cond.initialized yX0_firstLike.cls ∈ xw_tbl ∧ (yX0_firstLike.cls ≠ "java/lang/invoke/MethodHandle" ∧ yX0_firstLike.cls ≠ "java/lang/invoke/VarHandle") ∧ (parseMethodDescriptor yX0_firstLike.desc).map (fun d => d.parameters.length) = some 1 := ⟨xw_inI 669 (by decide +kernel) rfl, xw_inI 138 (by decide +kernel) rfl, by decide +kernel, by decide +kernel⟩
set_option maxRecDepth 100000 in
theorem mk_X0_firstLike : Cond.instanceMethod yX0_firstLike ∈ xw_tbl ∧ Cond.selects yX0_firstLike.cls yX0_firstLike yX0_firstLike ∈ xw_tbl := ⟨xw_inI 668 (by decide +kernel) rfl, xw_inI 29 (by decide +kernel) rfl⟩
set_option maxRecDepth 100000 in
theorem ml_X0_68 : xk_MV RX0 68 yX0_firstLike cX0_firstLike 3 (some .int) 1 := ⟨⟨mc_X0_firstLike.1, mc_X0_firstLike.2.1, mc_X0_firstLike.2.2.1, mc_X0_firstLike.2.2.2, Or.inl (xw_inI 666 (by decide +kernel) rfl)⟩, mk_X0_firstLike⟩
set_option maxRecDepth 100000 in
theorem mc_X7_sumWhere : Cond.code yX7_sumWhere cX7_sumWhere 6 (some .int) ∈ xw_tbl ∧ Cond.initialized yX7_sumWhere.cls ∈ xw_tbl ∧ (yX7_sumWhere.cls ≠ "java/lang/invoke/MethodHandle" ∧ yX7_sumWhere.cls ≠ "java/lang/invoke/VarHandle") ∧ (parseMethodDescriptor yX7_sumWhere.desc).map (fun d => d.parameters.length) = some 4 := ⟨xw_inI 776 (by decide +kernel) rfl, xw_inI 137 (by decide +kernel) rfl, by decide +kernel, by decide +kernel⟩
set_option maxRecDepth 100000 in
theorem mk_X7_sumWhere : Cond.static yX7_sumWhere ∈ xw_tbl := xw_inI 775 (by decide +kernel) rfl
set_option maxRecDepth 100000 in
theorem ml_X0_79 : xk_MS RX0 79 yX7_sumWhere cX7_sumWhere 6 (some .int) 4 := ⟨⟨mc_X7_sumWhere.1, mc_X7_sumWhere.2.1, mc_X7_sumWhere.2.2.1, mc_X7_sumWhere.2.2.2, Or.inr (xw_inNI 808 (by decide +kernel) rfl)⟩, mk_X7_sumWhere⟩
set_option maxRecDepth 100000 in
theorem ml_X4_145 : xk_MS RX4 145 yX7_sumWhere cX7_sumWhere 6 (some .int) 4 := ⟨⟨mc_X7_sumWhere.1, mc_X7_sumWhere.2.1, mc_X7_sumWhere.2.2.1, mc_X7_sumWhere.2.2.2, Or.inr (xw_inNI 774 (by decide +kernel) rfl)⟩, mk_X7_sumWhere⟩
set_option maxRecDepth 100000 in
theorem mc_X3_skipBlanks : Cond.code yX3_skipBlanks cX3_skipBlanks 1 none ∈ xw_tbl ∧ Cond.initialized yX3_skipBlanks.cls ∈ xw_tbl ∧ (yX3_skipBlanks.cls ≠ "java/lang/invoke/MethodHandle" ∧ yX3_skipBlanks.cls ≠ "java/lang/invoke/VarHandle") ∧ (parseMethodDescriptor yX3_skipBlanks.desc).map (fun d => d.parameters.length) = some 0 := ⟨xw_inI 449 (by decide +kernel) rfl, xw_inI 143 (by decide +kernel) rfl, by decide +kernel, by decide +kernel⟩
set_option maxRecDepth 100000 in
theorem mk_X3_skipBlanks : Cond.instanceMethod yX3_skipBlanks ∈ xw_tbl ∧ Cond.selects yX3_skipBlanks.cls yX3_skipBlanks yX3_skipBlanks ∈ xw_tbl := ⟨xw_inI 448 (by decide +kernel) rfl, xw_inI 4 (by decide +kernel) rfl⟩
set_option maxRecDepth 100000 in
theorem ml_X3_31 : xk_MV RX3 31 yX3_skipBlanks cX3_skipBlanks 1 none 0 := ⟨⟨mc_X3_skipBlanks.1, mc_X3_skipBlanks.2.1, mc_X3_skipBlanks.2.2.1, mc_X3_skipBlanks.2.2.2, Or.inl (xw_inI 446 (by decide +kernel) rfl)⟩, mk_X3_skipBlanks⟩
set_option maxRecDepth 100000 in
theorem mc_X3_readStatement : Cond.code yX3_readStatement cX3_readStatement 1 none ∈ xw_tbl ∧ Cond.initialized yX3_readStatement.cls ∈ xw_tbl ∧ (yX3_readStatement.cls ≠ "java/lang/invoke/MethodHandle" ∧ yX3_readStatement.cls ≠ "java/lang/invoke/VarHandle") ∧ (parseMethodDescriptor yX3_readStatement.desc).map (fun d => d.parameters.length) = some 0 := ⟨xw_inI 460 (by decide +kernel) rfl, xw_inI 143 (by decide +kernel) rfl, by decide +kernel, by decide +kernel⟩
set_option maxRecDepth 100000 in
theorem mk_X3_readStatement : Cond.instanceMethod yX3_readStatement ∈ xw_tbl ∧ Cond.selects yX3_readStatement.cls yX3_readStatement yX3_readStatement ∈ xw_tbl := ⟨xw_inI 459 (by decide +kernel) rfl, xw_inI 6 (by decide +kernel) rfl⟩
set_option maxRecDepth 100000 in
theorem ml_X3_39 : xk_MV RX3 39 yX3_readStatement cX3_readStatement 1 none 0 := ⟨⟨mc_X3_readStatement.1, mc_X3_readStatement.2.1, mc_X3_readStatement.2.2.1, mc_X3_readStatement.2.2.2, Or.inl (xw_inI 457 (by decide +kernel) rfl)⟩, mk_X3_readStatement⟩
set_option maxRecDepth 100000 in
theorem mc_X3_readSemicolon : Cond.code yX3_readSemicolon cX3_readSemicolon 1 none ∈ xw_tbl ∧ Cond.initialized yX3_readSemicolon.cls ∈ xw_tbl ∧ (yX3_readSemicolon.cls ≠ "java/lang/invoke/MethodHandle" ∧ yX3_readSemicolon.cls ≠ "java/lang/invoke/VarHandle") ∧ (parseMethodDescriptor yX3_readSemicolon.desc).map (fun d => d.parameters.length) = some 0 := ⟨xw_inI 579 (by decide +kernel) rfl, xw_inI 143 (by decide +kernel) rfl, by decide +kernel, by decide +kernel⟩
set_option maxRecDepth 100000 in
theorem mk_X3_readSemicolon : Cond.instanceMethod yX3_readSemicolon ∈ xw_tbl ∧ Cond.selects yX3_readSemicolon.cls yX3_readSemicolon yX3_readSemicolon ∈ xw_tbl := ⟨xw_inI 578 (by decide +kernel) rfl, xw_inI 18 (by decide +kernel) rfl⟩
set_option maxRecDepth 100000 in
theorem ml_X3_42 : xk_MV RX3 42 yX3_readSemicolon cX3_readSemicolon 1 none 0 := ⟨⟨mc_X3_readSemicolon.1, mc_X3_readSemicolon.2.1, mc_X3_readSemicolon.2.2.1, mc_X3_readSemicolon.2.2.2, Or.inl (xw_inI 576 (by decide +kernel) rfl)⟩, mk_X3_readSemicolon⟩
set_option maxRecDepth 100000 in
theorem mc_X3_takeWord : Cond.code yX3_takeWord cX3_takeWord 1 none ∈ xw_tbl ∧ Cond.initialized yX3_takeWord.cls ∈ xw_tbl ∧ (yX3_takeWord.cls ≠ "java/lang/invoke/MethodHandle" ∧ yX3_takeWord.cls ≠ "java/lang/invoke/VarHandle") ∧ (parseMethodDescriptor yX3_takeWord.desc).map (fun d => d.parameters.length) = some 0 := ⟨xw_inI 464 (by decide +kernel) rfl, xw_inI 143 (by decide +kernel) rfl, by decide +kernel, by decide +kernel⟩
set_option maxRecDepth 100000 in
theorem mk_X3_takeWord : Cond.instanceMethod yX3_takeWord ∈ xw_tbl ∧ Cond.selects yX3_takeWord.cls yX3_takeWord yX3_takeWord ∈ xw_tbl := ⟨xw_inI 463 (by decide +kernel) rfl, xw_inI 7 (by decide +kernel) rfl⟩
set_option maxRecDepth 100000 in
theorem ml_X3_45 : xk_MV RX3 45 yX3_takeWord cX3_takeWord 1 none 0 := ⟨⟨mc_X3_takeWord.1, mc_X3_takeWord.2.1, mc_X3_takeWord.2.2.1, mc_X3_takeWord.2.2.2, Or.inl (xw_inI 461 (by decide +kernel) rfl)⟩, mk_X3_takeWord⟩
set_option maxRecDepth 100000 in
theorem mc_X3_wordIs : Cond.code yX3_wordIs cX3_wordIs 3 (some .boolean) ∈ xw_tbl ∧ Cond.initialized yX3_wordIs.cls ∈ xw_tbl ∧ (yX3_wordIs.cls ≠ "java/lang/invoke/MethodHandle" ∧ yX3_wordIs.cls ≠ "java/lang/invoke/VarHandle") ∧ (parseMethodDescriptor yX3_wordIs.desc).map (fun d => d.parameters.length) = some 1 := ⟨xw_inI 479 (by decide +kernel) rfl, xw_inI 143 (by decide +kernel) rfl, by decide +kernel, by decide +kernel⟩
set_option maxRecDepth 100000 in
theorem mk_X3_wordIs : Cond.instanceMethod yX3_wordIs ∈ xw_tbl ∧ Cond.selects yX3_wordIs.cls yX3_wordIs yX3_wordIs ∈ xw_tbl := ⟨xw_inI 478 (by decide +kernel) rfl, xw_inI 9 (by decide +kernel) rfl⟩
set_option maxRecDepth 100000 in
theorem ml_X3_50 : xk_MV RX3 50 yX3_wordIs cX3_wordIs 3 (some .boolean) 1 := ⟨⟨mc_X3_wordIs.1, mc_X3_wordIs.2.1, mc_X3_wordIs.2.2.1, mc_X3_wordIs.2.2.2, Or.inl (xw_inI 476 (by decide +kernel) rfl)⟩, mk_X3_wordIs⟩
set_option maxRecDepth 100000 in
theorem mc_X3_readTerm : Cond.code yX3_readTerm cX3_readTerm 2 none ∈ xw_tbl ∧ Cond.initialized yX3_readTerm.cls ∈ xw_tbl ∧ (yX3_readTerm.cls ≠ "java/lang/invoke/MethodHandle" ∧ yX3_readTerm.cls ≠ "java/lang/invoke/VarHandle") ∧ (parseMethodDescriptor yX3_readTerm.desc).map (fun d => d.parameters.length) = some 1 := ⟨xw_inI 531 (by decide +kernel) rfl, xw_inI 143 (by decide +kernel) rfl, by decide +kernel, by decide +kernel⟩
set_option maxRecDepth 100000 in
theorem mk_X3_readTerm : Cond.instanceMethod yX3_readTerm ∈ xw_tbl ∧ Cond.selects yX3_readTerm.cls yX3_readTerm yX3_readTerm ∈ xw_tbl := ⟨xw_inI 530 (by decide +kernel) rfl, xw_inI 10 (by decide +kernel) rfl⟩
set_option maxRecDepth 100000 in
theorem ml_X3_54 : xk_MV RX3 54 yX3_readTerm cX3_readTerm 2 none 1 := ⟨⟨mc_X3_readTerm.1, mc_X3_readTerm.2.1, mc_X3_readTerm.2.2.1, mc_X3_readTerm.2.2.2, Or.inl (xw_inI 528 (by decide +kernel) rfl)⟩, mk_X3_readTerm⟩
set_option maxRecDepth 100000 in
theorem mc_X3_readYields : Cond.code yX3_readYields cX3_readYields 2 none ∈ xw_tbl ∧ Cond.initialized yX3_readYields.cls ∈ xw_tbl ∧ (yX3_readYields.cls ≠ "java/lang/invoke/MethodHandle" ∧ yX3_readYields.cls ≠ "java/lang/invoke/VarHandle") ∧ (parseMethodDescriptor yX3_readYields.desc).map (fun d => d.parameters.length) = some 0 := ⟨xw_inI 550 (by decide +kernel) rfl, xw_inI 143 (by decide +kernel) rfl, by decide +kernel, by decide +kernel⟩
set_option maxRecDepth 100000 in
theorem mk_X3_readYields : Cond.instanceMethod yX3_readYields ∈ xw_tbl ∧ Cond.selects yX3_readYields.cls yX3_readYields yX3_readYields ∈ xw_tbl := ⟨xw_inI 549 (by decide +kernel) rfl, xw_inI 13 (by decide +kernel) rfl⟩
set_option maxRecDepth 100000 in
theorem ml_X3_64 : xk_MV RX3 64 yX3_readYields cX3_readYields 2 none 0 := ⟨⟨mc_X3_readYields.1, mc_X3_readYields.2.1, mc_X3_readYields.2.2.1, mc_X3_readYields.2.2.2, Or.inl (xw_inI 547 (by decide +kernel) rfl)⟩, mk_X3_readYields⟩
set_option maxRecDepth 100000 in
theorem mc_X3_readPair : Cond.code yX3_readPair cX3_readPair 5 none ∈ xw_tbl ∧ Cond.initialized yX3_readPair.cls ∈ xw_tbl ∧ (yX3_readPair.cls ≠ "java/lang/invoke/MethodHandle" ∧ yX3_readPair.cls ≠ "java/lang/invoke/VarHandle") ∧ (parseMethodDescriptor yX3_readPair.desc).map (fun d => d.parameters.length) = some 2 := ⟨xw_inI 563 (by decide +kernel) rfl, xw_inI 143 (by decide +kernel) rfl, by decide +kernel, by decide +kernel⟩
set_option maxRecDepth 100000 in
theorem mk_X3_readPair : Cond.instanceMethod yX3_readPair ∈ xw_tbl ∧ Cond.selects yX3_readPair.cls yX3_readPair yX3_readPair ∈ xw_tbl := ⟨xw_inI 562 (by decide +kernel) rfl, xw_inI 15 (by decide +kernel) rfl⟩
set_option maxRecDepth 100000 in
theorem ml_X3_81 : xk_MV RX3 81 yX3_readPair cX3_readPair 5 none 2 := ⟨⟨mc_X3_readPair.1, mc_X3_readPair.2.1, mc_X3_readPair.2.2.1, mc_X3_readPair.2.2.2, Or.inl (xw_inI 560 (by decide +kernel) rfl)⟩, mk_X3_readPair⟩
set_option maxRecDepth 100000 in
theorem mc_X3_readBid : Cond.code yX3_readBid cX3_readBid 5 none ∈ xw_tbl ∧ Cond.initialized yX3_readBid.cls ∈ xw_tbl ∧ (yX3_readBid.cls ≠ "java/lang/invoke/MethodHandle" ∧ yX3_readBid.cls ≠ "java/lang/invoke/VarHandle") ∧ (parseMethodDescriptor yX3_readBid.desc).map (fun d => d.parameters.length) = some 1 := ⟨xw_inI 569 (by decide +kernel) rfl, xw_inI 143 (by decide +kernel) rfl, by decide +kernel, by decide +kernel⟩
set_option maxRecDepth 100000 in
theorem mk_X3_readBid : Cond.instanceMethod yX3_readBid ∈ xw_tbl ∧ Cond.selects yX3_readBid.cls yX3_readBid yX3_readBid ∈ xw_tbl := ⟨xw_inI 568 (by decide +kernel) rfl, xw_inI 16 (by decide +kernel) rfl⟩
set_option maxRecDepth 100000 in
theorem ml_X3_95 : xk_MV RX3 95 yX3_readBid cX3_readBid 5 none 1 := ⟨⟨mc_X3_readBid.1, mc_X3_readBid.2.1, mc_X3_readBid.2.2.1, mc_X3_readBid.2.2.2, Or.inl (xw_inI 566 (by decide +kernel) rfl)⟩, mk_X3_readBid⟩
set_option maxRecDepth 100000 in
theorem mc_X3_fail : Cond.code yX3_fail cX3_fail 2 none ∈ xw_tbl ∧ Cond.initialized yX3_fail.cls ∈ xw_tbl ∧ (yX3_fail.cls ≠ "java/lang/invoke/MethodHandle" ∧ yX3_fail.cls ≠ "java/lang/invoke/VarHandle") ∧ (parseMethodDescriptor yX3_fail.desc).map (fun d => d.parameters.length) = some 1 := ⟨xw_inI 543 (by decide +kernel) rfl, xw_inI 143 (by decide +kernel) rfl, by decide +kernel, by decide +kernel⟩
set_option maxRecDepth 100000 in
theorem mk_X3_fail : Cond.instanceMethod yX3_fail ∈ xw_tbl ∧ Cond.selects yX3_fail.cls yX3_fail yX3_fail ∈ xw_tbl := ⟨xw_inI 542 (by decide +kernel) rfl, xw_inI 12 (by decide +kernel) rfl⟩
set_option maxRecDepth 100000 in
theorem ml_X3_104 : xk_MV RX3 104 yX3_fail cX3_fail 2 none 1 := ⟨⟨mc_X3_fail.1, mc_X3_fail.2.1, mc_X3_fail.2.2.1, mc_X3_fail.2.2.2, Or.inl (xw_inI 540 (by decide +kernel) rfl)⟩, mk_X3_fail⟩
set_option maxRecDepth 100000 in
theorem mc_X3_readNumber : Cond.code yX3_readNumber cX3_readNumber 7 (some .int) ∈ xw_tbl ∧ Cond.initialized yX3_readNumber.cls ∈ xw_tbl ∧ (yX3_readNumber.cls ≠ "java/lang/invoke/MethodHandle" ∧ yX3_readNumber.cls ≠ "java/lang/invoke/VarHandle") ∧ (parseMethodDescriptor yX3_readNumber.desc).map (fun d => d.parameters.length) = some 2 := ⟨xw_inI 539 (by decide +kernel) rfl, xw_inI 143 (by decide +kernel) rfl, by decide +kernel, by decide +kernel⟩
set_option maxRecDepth 100000 in
theorem mk_X3_readNumber : Cond.instanceMethod yX3_readNumber ∈ xw_tbl ∧ Cond.selects yX3_readNumber.cls yX3_readNumber yX3_readNumber ∈ xw_tbl := ⟨xw_inI 538 (by decide +kernel) rfl, xw_inI 11 (by decide +kernel) rfl⟩
set_option maxRecDepth 100000 in
theorem ml_X3_113 : xk_MV RX3 113 yX3_readNumber cX3_readNumber 7 (some .int) 2 := ⟨⟨mc_X3_readNumber.1, mc_X3_readNumber.2.1, mc_X3_readNumber.2.2.1, mc_X3_readNumber.2.2.2, Or.inl (xw_inI 536 (by decide +kernel) rfl)⟩, mk_X3_readNumber⟩
set_option maxRecDepth 100000 in
theorem mc_X3_expectWord : Cond.code yX3_expectWord cX3_expectWord 2 none ∈ xw_tbl ∧ Cond.initialized yX3_expectWord.cls ∈ xw_tbl ∧ (yX3_expectWord.cls ≠ "java/lang/invoke/MethodHandle" ∧ yX3_expectWord.cls ≠ "java/lang/invoke/VarHandle") ∧ (parseMethodDescriptor yX3_expectWord.desc).map (fun d => d.parameters.length) = some 1 := ⟨xw_inI 555 (by decide +kernel) rfl, xw_inI 143 (by decide +kernel) rfl, by decide +kernel, by decide +kernel⟩
set_option maxRecDepth 100000 in
theorem mk_X3_expectWord : Cond.instanceMethod yX3_expectWord ∈ xw_tbl ∧ Cond.selects yX3_expectWord.cls yX3_expectWord yX3_expectWord ∈ xw_tbl := ⟨xw_inI 554 (by decide +kernel) rfl, xw_inI 14 (by decide +kernel) rfl⟩
set_option maxRecDepth 100000 in
theorem ml_X3_119 : xk_MV RX3 119 yX3_expectWord cX3_expectWord 2 none 1 := ⟨⟨mc_X3_expectWord.1, mc_X3_expectWord.2.1, mc_X3_expectWord.2.2.1, mc_X3_expectWord.2.2.2, Or.inl (xw_inI 552 (by decide +kernel) rfl)⟩, mk_X3_expectWord⟩
set_option maxRecDepth 100000 in
theorem mc_X6_at : Cond.code yX6_at cX6_at 2 (some .int) ∈ xw_tbl ∧ Cond.initialized yX6_at.cls ∈ xw_tbl ∧ (yX6_at.cls ≠ "java/lang/invoke/MethodHandle" ∧ yX6_at.cls ≠ "java/lang/invoke/VarHandle") ∧ (parseMethodDescriptor yX6_at.desc).map (fun d => d.parameters.length) = some 1 := ⟨xw_inI 453 (by decide +kernel) rfl, xw_inI 142 (by decide +kernel) rfl, by decide +kernel, by decide +kernel⟩
set_option maxRecDepth 100000 in
theorem mk_X6_at : Cond.instanceMethod yX6_at ∈ xw_tbl ∧ Cond.selects yX6_at.cls yX6_at yX6_at ∈ xw_tbl := ⟨xw_inI 452 (by decide +kernel) rfl, xw_inI 5 (by decide +kernel) rfl⟩
set_option maxRecDepth 100000 in
theorem ml_X3_129 : xk_MV RX3 129 yX6_at cX6_at 2 (some .int) 1 := ⟨⟨mc_X6_at.1, mc_X6_at.2.1, mc_X6_at.2.2.1, mc_X6_at.2.2.2, Or.inr (xw_inNI 450 (by decide +kernel) rfl)⟩, mk_X6_at⟩
set_option maxRecDepth 100000 in
theorem mc_X7_isDigit : Cond.code yX7_isDigit cX7_isDigit 1 (some .boolean) ∈ xw_tbl ∧ Cond.initialized yX7_isDigit.cls ∈ xw_tbl ∧ (yX7_isDigit.cls ≠ "java/lang/invoke/MethodHandle" ∧ yX7_isDigit.cls ≠ "java/lang/invoke/VarHandle") ∧ (parseMethodDescriptor yX7_isDigit.desc).map (fun d => d.parameters.length) = some 1 := ⟨xw_inI 474 (by decide +kernel) rfl, xw_inI 137 (by decide +kernel) rfl, by decide +kernel, by decide +kernel⟩
set_option maxRecDepth 100000 in
theorem mk_X7_isDigit : Cond.static yX7_isDigit ∈ xw_tbl := xw_inI 473 (by decide +kernel) rfl
set_option maxRecDepth 100000 in
theorem ml_X3_133 : xk_MS RX3 133 yX7_isDigit cX7_isDigit 1 (some .boolean) 1 := ⟨⟨mc_X7_isDigit.1, mc_X7_isDigit.2.1, mc_X7_isDigit.2.2.1, mc_X7_isDigit.2.2.2, Or.inr (xw_inNI 472 (by decide +kernel) rfl)⟩, mk_X7_isDigit⟩
set_option maxRecDepth 100000 in
theorem mc_X3_isGlued : Cond.code yX3_isGlued cX3_isGlued 3 (some .boolean) ∈ xw_tbl ∧ Cond.initialized yX3_isGlued.cls ∈ xw_tbl ∧ (yX3_isGlued.cls ≠ "java/lang/invoke/MethodHandle" ∧ yX3_isGlued.cls ≠ "java/lang/invoke/VarHandle") ∧ (parseMethodDescriptor yX3_isGlued.desc).map (fun d => d.parameters.length) = some 1 := ⟨xw_inI 468 (by decide +kernel) rfl, xw_inI 143 (by decide +kernel) rfl, by decide +kernel, by decide +kernel⟩
set_option maxRecDepth 100000 in
theorem mk_X3_isGlued : Cond.instanceMethod yX3_isGlued ∈ xw_tbl ∧ Cond.selects yX3_isGlued.cls yX3_isGlued yX3_isGlued ∈ xw_tbl := ⟨xw_inI 467 (by decide +kernel) rfl, xw_inI 8 (by decide +kernel) rfl⟩
set_option maxRecDepth 100000 in
theorem ml_X3_137 : xk_MV RX3 137 yX3_isGlued cX3_isGlued 3 (some .boolean) 1 := ⟨⟨mc_X3_isGlued.1, mc_X3_isGlued.2.1, mc_X3_isGlued.2.2.1, mc_X3_isGlued.2.2.2, Or.inl (xw_inI 465 (by decide +kernel) rfl)⟩, mk_X3_isGlued⟩
set_option maxRecDepth 100000 in
theorem mc_X7_isLetter : Cond.code yX7_isLetter cX7_isLetter 1 (some .boolean) ∈ xw_tbl ∧ Cond.initialized yX7_isLetter.cls ∈ xw_tbl ∧ (yX7_isLetter.cls ≠ "java/lang/invoke/MethodHandle" ∧ yX7_isLetter.cls ≠ "java/lang/invoke/VarHandle") ∧ (parseMethodDescriptor yX7_isLetter.desc).map (fun d => d.parameters.length) = some 1 := ⟨xw_inI 471 (by decide +kernel) rfl, xw_inI 137 (by decide +kernel) rfl, by decide +kernel, by decide +kernel⟩
set_option maxRecDepth 100000 in
theorem mk_X7_isLetter : Cond.static yX7_isLetter ∈ xw_tbl := xw_inI 470 (by decide +kernel) rfl
set_option maxRecDepth 100000 in
theorem ml_X3_140 : xk_MS RX3 140 yX7_isLetter cX7_isLetter 1 (some .boolean) 1 := ⟨⟨mc_X7_isLetter.1, mc_X7_isLetter.2.1, mc_X7_isLetter.2.2.1, mc_X7_isLetter.2.2.2, Or.inr (xw_inNI 469 (by decide +kernel) rfl)⟩, mk_X7_isLetter⟩
set_option maxRecDepth 100000 in
theorem mc_J0_length_8abf5 : Cond.code yJ0_length_8abf5 cJ0_length_8abf5 1 (some .int) ∈ xw_tbl ∧ Cond.initialized yJ0_length_8abf5.cls ∈ xw_tbl ∧ (yJ0_length_8abf5.cls ≠ "java/lang/invoke/MethodHandle" ∧ yJ0_length_8abf5.cls ≠ "java/lang/invoke/VarHandle") ∧ (parseMethodDescriptor yJ0_length_8abf5.desc).map (fun d => d.parameters.length) = some 0 := ⟨xw_inI 483 (by decide +kernel) rfl, xw_inI 146 (by decide +kernel) rfl, by decide +kernel, by decide +kernel⟩
set_option maxRecDepth 100000 in
theorem mk_J0_length_8abf5 : Cond.instanceMethod yJ0_length_8abf5 ∈ xw_tbl ∧ Cond.selects yJ0_length_8abf5.cls yJ0_length_8abf5 yJ0_length_8abf5 ∈ xw_tbl := ⟨xw_inI 481 (by decide +kernel) rfl, xw_inI 482 (by decide +kernel) rfl⟩
set_option maxRecDepth 100000 in
theorem ml_X3_143 : xk_MV RX3 143 yJ0_length_8abf5 cJ0_length_8abf5 1 (some .int) 0 := ⟨⟨mc_J0_length_8abf5.1, mc_J0_length_8abf5.2.1, mc_J0_length_8abf5.2.2.1, mc_J0_length_8abf5.2.2.2, Or.inl (xw_inI 480 (by decide +kernel) rfl)⟩, mk_J0_length_8abf5⟩
set_option maxRecDepth 100000 in
theorem ml_X5_95 : xk_MV RX5 95 yJ0_length_8abf5 cJ0_length_8abf5 1 (some .int) 0 := ⟨⟨mc_J0_length_8abf5.1, mc_J0_length_8abf5.2.1, mc_J0_length_8abf5.2.2.1, mc_J0_length_8abf5.2.2.2, Or.inl (xw_inI 1029 (by decide +kernel) rfl)⟩, mk_J0_length_8abf5⟩
set_option maxRecDepth 100000 in
theorem mc_J0_charAt_5068e : Cond.code yJ0_charAt_5068e cJ0_charAt_5068e 2 (some .char) ∈ xw_tbl ∧ Cond.initialized yJ0_charAt_5068e.cls ∈ xw_tbl ∧ (yJ0_charAt_5068e.cls ≠ "java/lang/invoke/MethodHandle" ∧ yJ0_charAt_5068e.cls ≠ "java/lang/invoke/VarHandle") ∧ (parseMethodDescriptor yJ0_charAt_5068e.desc).map (fun d => d.parameters.length) = some 1 := ⟨xw_inI 493 (by decide +kernel) rfl, xw_inI 146 (by decide +kernel) rfl, by decide +kernel, by decide +kernel⟩
set_option maxRecDepth 100000 in
theorem mk_J0_charAt_5068e : Cond.instanceMethod yJ0_charAt_5068e ∈ xw_tbl ∧ Cond.selects yJ0_charAt_5068e.cls yJ0_charAt_5068e yJ0_charAt_5068e ∈ xw_tbl := ⟨xw_inI 491 (by decide +kernel) rfl, xw_inI 492 (by decide +kernel) rfl⟩
set_option maxRecDepth 100000 in
theorem ml_X3_148 : xk_MV RX3 148 yJ0_charAt_5068e cJ0_charAt_5068e 2 (some .char) 1 := ⟨⟨mc_J0_charAt_5068e.1, mc_J0_charAt_5068e.2.1, mc_J0_charAt_5068e.2.2.1, mc_J0_charAt_5068e.2.2.2, Or.inl (xw_inI 490 (by decide +kernel) rfl)⟩, mk_J0_charAt_5068e⟩
set_option maxRecDepth 100000 in
theorem ml_X5_100 : xk_MV RX5 100 yJ0_charAt_5068e cJ0_charAt_5068e 2 (some .char) 1 := ⟨⟨mc_J0_charAt_5068e.1, mc_J0_charAt_5068e.2.1, mc_J0_charAt_5068e.2.2.1, mc_J0_charAt_5068e.2.2.2, Or.inl (xw_inI 1030 (by decide +kernel) rfl)⟩, mk_J0_charAt_5068e⟩
set_option maxRecDepth 100000 in
theorem mc_X7_isBlank : Cond.code yX7_isBlank cX7_isBlank 1 (some .boolean) ∈ xw_tbl ∧ Cond.initialized yX7_isBlank.cls ∈ xw_tbl ∧ (yX7_isBlank.cls ≠ "java/lang/invoke/MethodHandle" ∧ yX7_isBlank.cls ≠ "java/lang/invoke/VarHandle") ∧ (parseMethodDescriptor yX7_isBlank.desc).map (fun d => d.parameters.length) = some 1 := ⟨xw_inI 456 (by decide +kernel) rfl, xw_inI 137 (by decide +kernel) rfl, by decide +kernel, by decide +kernel⟩
set_option maxRecDepth 100000 in
theorem mk_X7_isBlank : Cond.static yX7_isBlank ∈ xw_tbl := xw_inI 455 (by decide +kernel) rfl
set_option maxRecDepth 100000 in
theorem ml_X3_152 : xk_MS RX3 152 yX7_isBlank cX7_isBlank 1 (some .boolean) 1 := ⟨⟨mc_X7_isBlank.1, mc_X7_isBlank.2.1, mc_X7_isBlank.2.2.1, mc_X7_isBlank.2.2.2, Or.inr (xw_inNI 454 (by decide +kernel) rfl)⟩, mk_X7_isBlank⟩
set_option maxRecDepth 100000 in
theorem mc_X4_rank : Cond.code yX4_rank cX4_rank 4 none ∈ xw_tbl ∧ Cond.initialized yX4_rank.cls ∈ xw_tbl ∧ (yX4_rank.cls ≠ "java/lang/invoke/MethodHandle" ∧ yX4_rank.cls ≠ "java/lang/invoke/VarHandle") ∧ (parseMethodDescriptor yX4_rank.desc).map (fun d => d.parameters.length) = some 0 := ⟨xw_inI 695 (by decide +kernel) rfl, xw_inI 140 (by decide +kernel) rfl, by decide +kernel, by decide +kernel⟩
set_option maxRecDepth 100000 in
theorem mk_X4_rank : Cond.instanceMethod yX4_rank ∈ xw_tbl ∧ Cond.selects yX4_rank.cls yX4_rank yX4_rank ∈ xw_tbl := ⟨xw_inI 694 (by decide +kernel) rfl, xw_inI 32 (by decide +kernel) rfl⟩
set_option maxRecDepth 100000 in
theorem ml_X4_41 : xk_MV RX4 41 yX4_rank cX4_rank 4 none 0 := ⟨⟨mc_X4_rank.1, mc_X4_rank.2.1, mc_X4_rank.2.2.1, mc_X4_rank.2.2.2, Or.inl (xw_inI 692 (by decide +kernel) rfl)⟩, mk_X4_rank⟩
set_option maxRecDepth 100000 in
theorem mc_X4_openRooms : Cond.code yX4_openRooms cX4_openRooms 3 none ∈ xw_tbl ∧ Cond.initialized yX4_openRooms.cls ∈ xw_tbl ∧ (yX4_openRooms.cls ≠ "java/lang/invoke/MethodHandle" ∧ yX4_openRooms.cls ≠ "java/lang/invoke/VarHandle") ∧ (parseMethodDescriptor yX4_openRooms.desc).map (fun d => d.parameters.length) = some 0 := ⟨xw_inI 703 (by decide +kernel) rfl, xw_inI 140 (by decide +kernel) rfl, by decide +kernel, by decide +kernel⟩
set_option maxRecDepth 100000 in
theorem mk_X4_openRooms : Cond.instanceMethod yX4_openRooms ∈ xw_tbl ∧ Cond.selects yX4_openRooms.cls yX4_openRooms yX4_openRooms ∈ xw_tbl := ⟨xw_inI 702 (by decide +kernel) rfl, xw_inI 34 (by decide +kernel) rfl⟩
set_option maxRecDepth 100000 in
theorem ml_X4_44 : xk_MV RX4 44 yX4_openRooms cX4_openRooms 3 none 0 := ⟨⟨mc_X4_openRooms.1, mc_X4_openRooms.2.1, mc_X4_openRooms.2.2.1, mc_X4_openRooms.2.2.2, Or.inl (xw_inI 700 (by decide +kernel) rfl)⟩, mk_X4_openRooms⟩
set_option maxRecDepth 100000 in
theorem mc_X4_admit : Cond.code yX4_admit cX4_admit 3 none ∈ xw_tbl ∧ Cond.initialized yX4_admit.cls ∈ xw_tbl ∧ (yX4_admit.cls ≠ "java/lang/invoke/MethodHandle" ∧ yX4_admit.cls ≠ "java/lang/invoke/VarHandle") ∧ (parseMethodDescriptor yX4_admit.desc).map (fun d => d.parameters.length) = some 0 := ⟨xw_inI 710 (by decide +kernel) rfl, xw_inI 140 (by decide +kernel) rfl, by decide +kernel, by decide +kernel⟩
set_option maxRecDepth 100000 in
theorem mk_X4_admit : Cond.instanceMethod yX4_admit ∈ xw_tbl ∧ Cond.selects yX4_admit.cls yX4_admit yX4_admit ∈ xw_tbl := ⟨xw_inI 709 (by decide +kernel) rfl, xw_inI 35 (by decide +kernel) rfl⟩
set_option maxRecDepth 100000 in
theorem ml_X4_47 : xk_MV RX4 47 yX4_admit cX4_admit 3 none 0 := ⟨⟨mc_X4_admit.1, mc_X4_admit.2.1, mc_X4_admit.2.2.1, mc_X4_admit.2.2.2, Or.inl (xw_inI 707 (by decide +kernel) rfl)⟩, mk_X4_admit⟩
set_option maxRecDepth 100000 in
theorem mc_X4_sellPlain : Cond.code yX4_sellPlain cX4_sellPlain 1 none ∈ xw_tbl ∧ Cond.initialized yX4_sellPlain.cls ∈ xw_tbl ∧ (yX4_sellPlain.cls ≠ "java/lang/invoke/MethodHandle" ∧ yX4_sellPlain.cls ≠ "java/lang/invoke/VarHandle") ∧ (parseMethodDescriptor yX4_sellPlain.desc).map (fun d => d.parameters.length) = some 0 := ⟨xw_inI 723 (by decide +kernel) rfl, xw_inI 140 (by decide +kernel) rfl, by decide +kernel, by decide +kernel⟩
set_option maxRecDepth 100000 in
theorem mk_X4_sellPlain : Cond.instanceMethod yX4_sellPlain ∈ xw_tbl ∧ Cond.selects yX4_sellPlain.cls yX4_sellPlain yX4_sellPlain ∈ xw_tbl := ⟨xw_inI 722 (by decide +kernel) rfl, xw_inI 38 (by decide +kernel) rfl⟩
set_option maxRecDepth 100000 in
theorem ml_X4_50 : xk_MV RX4 50 yX4_sellPlain cX4_sellPlain 1 none 0 := ⟨⟨mc_X4_sellPlain.1, mc_X4_sellPlain.2.1, mc_X4_sellPlain.2.2.1, mc_X4_sellPlain.2.2.2, Or.inl (xw_inI 720 (by decide +kernel) rfl)⟩, mk_X4_sellPlain⟩
set_option maxRecDepth 100000 in
theorem mc_X4_sellRated : Cond.code yX4_sellRated cX4_sellRated 5 none ∈ xw_tbl ∧ Cond.initialized yX4_sellRated.cls ∈ xw_tbl ∧ (yX4_sellRated.cls ≠ "java/lang/invoke/MethodHandle" ∧ yX4_sellRated.cls ≠ "java/lang/invoke/VarHandle") ∧ (parseMethodDescriptor yX4_sellRated.desc).map (fun d => d.parameters.length) = some 0 := ⟨xw_inI 739 (by decide +kernel) rfl, xw_inI 140 (by decide +kernel) rfl, by decide +kernel, by decide +kernel⟩
set_option maxRecDepth 100000 in
theorem mk_X4_sellRated : Cond.instanceMethod yX4_sellRated ∈ xw_tbl ∧ Cond.selects yX4_sellRated.cls yX4_sellRated yX4_sellRated ∈ xw_tbl := ⟨xw_inI 738 (by decide +kernel) rfl, xw_inI 42 (by decide +kernel) rfl⟩
set_option maxRecDepth 100000 in
theorem ml_X4_53 : xk_MV RX4 53 yX4_sellRated cX4_sellRated 5 none 0 := ⟨⟨mc_X4_sellRated.1, mc_X4_sellRated.2.1, mc_X4_sellRated.2.2.1, mc_X4_sellRated.2.2.2, Or.inl (xw_inI 736 (by decide +kernel) rfl)⟩, mk_X4_sellRated⟩
set_option maxRecDepth 100000 in
theorem mc_X4_averageRate : Cond.code yX4_averageRate cX4_averageRate 3 (some .int) ∈ xw_tbl ∧ Cond.initialized yX4_averageRate.cls ∈ xw_tbl ∧ (yX4_averageRate.cls ≠ "java/lang/invoke/MethodHandle" ∧ yX4_averageRate.cls ≠ "java/lang/invoke/VarHandle") ∧ (parseMethodDescriptor yX4_averageRate.desc).map (fun d => d.parameters.length) = some 0 := ⟨xw_inI 747 (by decide +kernel) rfl, xw_inI 140 (by decide +kernel) rfl, by decide +kernel, by decide +kernel⟩
set_option maxRecDepth 100000 in
theorem mk_X4_averageRate : Cond.instanceMethod yX4_averageRate ∈ xw_tbl ∧ Cond.selects yX4_averageRate.cls yX4_averageRate yX4_averageRate ∈ xw_tbl := ⟨xw_inI 746 (by decide +kernel) rfl, xw_inI 44 (by decide +kernel) rfl⟩
set_option maxRecDepth 100000 in
theorem ml_X4_56 : xk_MV RX4 56 yX4_averageRate cX4_averageRate 3 (some .int) 0 := ⟨⟨mc_X4_averageRate.1, mc_X4_averageRate.2.1, mc_X4_averageRate.2.2.1, mc_X4_averageRate.2.2.2, Or.inl (xw_inI 744 (by decide +kernel) rfl)⟩, mk_X4_averageRate⟩
set_option maxRecDepth 100000 in
theorem mc_X4_isAhead : Cond.code yX4_isAhead cX4_isAhead 5 (some .boolean) ∈ xw_tbl ∧ Cond.initialized yX4_isAhead.cls ∈ xw_tbl ∧ (yX4_isAhead.cls ≠ "java/lang/invoke/MethodHandle" ∧ yX4_isAhead.cls ≠ "java/lang/invoke/VarHandle") ∧ (parseMethodDescriptor yX4_isAhead.desc).map (fun d => d.parameters.length) = some 2 := ⟨xw_inI 699 (by decide +kernel) rfl, xw_inI 140 (by decide +kernel) rfl, by decide +kernel, by decide +kernel⟩
set_option maxRecDepth 100000 in
theorem mk_X4_isAhead : Cond.instanceMethod yX4_isAhead ∈ xw_tbl ∧ Cond.selects yX4_isAhead.cls yX4_isAhead yX4_isAhead ∈ xw_tbl := ⟨xw_inI 698 (by decide +kernel) rfl, xw_inI 33 (by decide +kernel) rfl⟩
set_option maxRecDepth 100000 in
theorem ml_X4_68 : xk_MV RX4 68 yX4_isAhead cX4_isAhead 5 (some .boolean) 2 := ⟨⟨mc_X4_isAhead.1, mc_X4_isAhead.2.1, mc_X4_isAhead.2.2.1, mc_X4_isAhead.2.2.2, Or.inl (xw_inI 696 (by decide +kernel) rfl)⟩, mk_X4_isAhead⟩
set_option maxRecDepth 100000 in
theorem mc_X4_admitOne : Cond.code yX4_admitOne cX4_admitOne 3 none ∈ xw_tbl ∧ Cond.initialized yX4_admitOne.cls ∈ xw_tbl ∧ (yX4_admitOne.cls ≠ "java/lang/invoke/MethodHandle" ∧ yX4_admitOne.cls ≠ "java/lang/invoke/VarHandle") ∧ (parseMethodDescriptor yX4_admitOne.desc).map (fun d => d.parameters.length) = some 1 := ⟨xw_inI 714 (by decide +kernel) rfl, xw_inI 140 (by decide +kernel) rfl, by decide +kernel, by decide +kernel⟩
set_option maxRecDepth 100000 in
theorem mk_X4_admitOne : Cond.instanceMethod yX4_admitOne ∈ xw_tbl ∧ Cond.selects yX4_admitOne.cls yX4_admitOne yX4_admitOne ∈ xw_tbl := ⟨xw_inI 713 (by decide +kernel) rfl, xw_inI 36 (by decide +kernel) rfl⟩
set_option maxRecDepth 100000 in
theorem ml_X4_96 : xk_MV RX4 96 yX4_admitOne cX4_admitOne 3 none 1 := ⟨⟨mc_X4_admitOne.1, mc_X4_admitOne.2.1, mc_X4_admitOne.2.2.1, mc_X4_admitOne.2.2.2, Or.inl (xw_inI 711 (by decide +kernel) rfl)⟩, mk_X4_admitOne⟩
set_option maxRecDepth 100000 in
theorem mc_X4_isOutOfBounds : Cond.code yX4_isOutOfBounds cX4_isOutOfBounds 2 (some .boolean) ∈ xw_tbl ∧ Cond.initialized yX4_isOutOfBounds.cls ∈ xw_tbl ∧ (yX4_isOutOfBounds.cls ≠ "java/lang/invoke/MethodHandle" ∧ yX4_isOutOfBounds.cls ≠ "java/lang/invoke/VarHandle") ∧ (parseMethodDescriptor yX4_isOutOfBounds.desc).map (fun d => d.parameters.length) = some 1 := ⟨xw_inI 718 (by decide +kernel) rfl, xw_inI 140 (by decide +kernel) rfl, by decide +kernel, by decide +kernel⟩
set_option maxRecDepth 100000 in
theorem mk_X4_isOutOfBounds : Cond.instanceMethod yX4_isOutOfBounds ∈ xw_tbl ∧ Cond.selects yX4_isOutOfBounds.cls yX4_isOutOfBounds yX4_isOutOfBounds ∈ xw_tbl := ⟨xw_inI 717 (by decide +kernel) rfl, xw_inI 37 (by decide +kernel) rfl⟩
set_option maxRecDepth 100000 in
theorem ml_X4_100 : xk_MV RX4 100 yX4_isOutOfBounds cX4_isOutOfBounds 2 (some .boolean) 1 := ⟨⟨mc_X4_isOutOfBounds.1, mc_X4_isOutOfBounds.2.1, mc_X4_isOutOfBounds.2.2.1, mc_X4_isOutOfBounds.2.2.2, Or.inl (xw_inI 715 (by decide +kernel) rfl)⟩, mk_X4_isOutOfBounds⟩
set_option maxRecDepth 100000 in
theorem mc_X4_sellAt : Cond.code yX4_sellAt cX4_sellAt 5 none ∈ xw_tbl ∧ Cond.initialized yX4_sellAt.cls ∈ xw_tbl ∧ (yX4_sellAt.cls ≠ "java/lang/invoke/MethodHandle" ∧ yX4_sellAt.cls ≠ "java/lang/invoke/VarHandle") ∧ (parseMethodDescriptor yX4_sellAt.desc).map (fun d => d.parameters.length) = some 3 := ⟨xw_inI 727 (by decide +kernel) rfl, xw_inI 140 (by decide +kernel) rfl, by decide +kernel, by decide +kernel⟩
set_option maxRecDepth 100000 in
theorem mk_X4_sellAt : Cond.instanceMethod yX4_sellAt ∈ xw_tbl ∧ Cond.selects yX4_sellAt.cls yX4_sellAt yX4_sellAt ∈ xw_tbl := ⟨xw_inI 726 (by decide +kernel) rfl, xw_inI 39 (by decide +kernel) rfl⟩
set_option maxRecDepth 100000 in
theorem ml_X4_119 : xk_MV RX4 119 yX4_sellAt cX4_sellAt 5 none 3 := ⟨⟨mc_X4_sellAt.1, mc_X4_sellAt.2.1, mc_X4_sellAt.2.2.1, mc_X4_sellAt.2.2.2, Or.inl (xw_inI 724 (by decide +kernel) rfl)⟩, mk_X4_sellAt⟩
set_option maxRecDepth 100000 in
theorem mc_X4_findStop : Cond.code yX4_findStop cX4_findStop 5 (some .int) ∈ xw_tbl ∧ Cond.initialized yX4_findStop.cls ∈ xw_tbl ∧ (yX4_findStop.cls ≠ "java/lang/invoke/MethodHandle" ∧ yX4_findStop.cls ≠ "java/lang/invoke/VarHandle") ∧ (parseMethodDescriptor yX4_findStop.desc).map (fun d => d.parameters.length) = some 0 := ⟨xw_inI 743 (by decide +kernel) rfl, xw_inI 140 (by decide +kernel) rfl, by decide +kernel, by decide +kernel⟩
set_option maxRecDepth 100000 in
theorem mk_X4_findStop : Cond.instanceMethod yX4_findStop ∈ xw_tbl ∧ Cond.selects yX4_findStop.cls yX4_findStop yX4_findStop ∈ xw_tbl := ⟨xw_inI 742 (by decide +kernel) rfl, xw_inI 43 (by decide +kernel) rfl⟩
set_option maxRecDepth 100000 in
theorem ml_X4_126 : xk_MV RX4 126 yX4_findStop cX4_findStop 5 (some .int) 0 := ⟨⟨mc_X4_findStop.1, mc_X4_findStop.2.1, mc_X4_findStop.2.2.1, mc_X4_findStop.2.2.2, Or.inl (xw_inI 740 (by decide +kernel) rfl)⟩, mk_X4_findStop⟩
set_option maxRecDepth 100000 in
theorem mc_X4_sellPart : Cond.code yX4_sellPart cX4_sellPart 7 none ∈ xw_tbl ∧ Cond.initialized yX4_sellPart.cls ∈ xw_tbl ∧ (yX4_sellPart.cls ≠ "java/lang/invoke/MethodHandle" ∧ yX4_sellPart.cls ≠ "java/lang/invoke/VarHandle") ∧ (parseMethodDescriptor yX4_sellPart.desc).map (fun d => d.parameters.length) = some 3 := ⟨xw_inI 731 (by decide +kernel) rfl, xw_inI 140 (by decide +kernel) rfl, by decide +kernel, by decide +kernel⟩
set_option maxRecDepth 100000 in
theorem mk_X4_sellPart : Cond.instanceMethod yX4_sellPart ∈ xw_tbl ∧ Cond.selects yX4_sellPart.cls yX4_sellPart yX4_sellPart ∈ xw_tbl := ⟨xw_inI 730 (by decide +kernel) rfl, xw_inI 40 (by decide +kernel) rfl⟩
set_option maxRecDepth 100000 in
theorem ml_X4_139 : xk_MV RX4 139 yX4_sellPart cX4_sellPart 7 none 3 := ⟨⟨mc_X4_sellPart.1, mc_X4_sellPart.2.1, mc_X4_sellPart.2.2.1, mc_X4_sellPart.2.2.2, Or.inl (xw_inI 728 (by decide +kernel) rfl)⟩, mk_X4_sellPart⟩
set_option maxRecDepth 100000 in
theorem mc_X4_giveOneMore : Cond.code yX4_giveOneMore cX4_giveOneMore 4 none ∈ xw_tbl ∧ Cond.initialized yX4_giveOneMore.cls ∈ xw_tbl ∧ (yX4_giveOneMore.cls ≠ "java/lang/invoke/MethodHandle" ∧ yX4_giveOneMore.cls ≠ "java/lang/invoke/VarHandle") ∧ (parseMethodDescriptor yX4_giveOneMore.desc).map (fun d => d.parameters.length) = some 0 := ⟨xw_inI 735 (by decide +kernel) rfl, xw_inI 140 (by decide +kernel) rfl, by decide +kernel, by decide +kernel⟩
set_option maxRecDepth 100000 in
theorem mk_X4_giveOneMore : Cond.instanceMethod yX4_giveOneMore ∈ xw_tbl ∧ Cond.selects yX4_giveOneMore.cls yX4_giveOneMore yX4_giveOneMore ∈ xw_tbl := ⟨xw_inI 734 (by decide +kernel) rfl, xw_inI 41 (by decide +kernel) rfl⟩
set_option maxRecDepth 100000 in
theorem ml_X4_142 : xk_MV RX4 142 yX4_giveOneMore cX4_giveOneMore 4 none 0 := ⟨⟨mc_X4_giveOneMore.1, mc_X4_giveOneMore.2.1, mc_X4_giveOneMore.2.2.1, mc_X4_giveOneMore.2.2.2, Or.inl (xw_inI 732 (by decide +kernel) rfl)⟩, mk_X4_giveOneMore⟩
set_option maxRecDepth 100000 in
theorem mc_X4_coverOfOffer : Cond.code yX4_coverOfOffer cX4_coverOfOffer 2 (some .int) ∈ xw_tbl ∧ Cond.initialized yX4_coverOfOffer.cls ∈ xw_tbl ∧ (yX4_coverOfOffer.cls ≠ "java/lang/invoke/MethodHandle" ∧ yX4_coverOfOffer.cls ≠ "java/lang/invoke/VarHandle") ∧ (parseMethodDescriptor yX4_coverOfOffer.desc).map (fun d => d.parameters.length) = some 0 := ⟨xw_inI 837 (by decide +kernel) rfl, xw_inI 140 (by decide +kernel) rfl, by decide +kernel, by decide +kernel⟩
set_option maxRecDepth 100000 in
theorem mk_X4_coverOfOffer : Cond.instanceMethod yX4_coverOfOffer ∈ xw_tbl ∧ Cond.selects yX4_coverOfOffer.cls yX4_coverOfOffer yX4_coverOfOffer ∈ xw_tbl := ⟨xw_inI 836 (by decide +kernel) rfl, xw_inI 57 (by decide +kernel) rfl⟩
set_option maxRecDepth 100000 in
theorem ml_X4_160 : xk_MV RX4 160 yX4_coverOfOffer cX4_coverOfOffer 2 (some .int) 0 := ⟨⟨mc_X4_coverOfOffer.1, mc_X4_coverOfOffer.2.1, mc_X4_coverOfOffer.2.2.1, mc_X4_coverOfOffer.2.2.2, Or.inl (xw_inI 834 (by decide +kernel) rfl)⟩, mk_X4_coverOfOffer⟩
set_option maxRecDepth 100000 in
theorem mc_X5_writeTerms : Cond.code yX5_writeTerms cX5_writeTerms 2 none ∈ xw_tbl ∧ Cond.initialized yX5_writeTerms.cls ∈ xw_tbl ∧ (yX5_writeTerms.cls ≠ "java/lang/invoke/MethodHandle" ∧ yX5_writeTerms.cls ≠ "java/lang/invoke/VarHandle") ∧ (parseMethodDescriptor yX5_writeTerms.desc).map (fun d => d.parameters.length) = some 1 := ⟨xw_inI 1023 (by decide +kernel) rfl, xw_inI 144 (by decide +kernel) rfl, by decide +kernel, by decide +kernel⟩
set_option maxRecDepth 100000 in
theorem mk_X5_writeTerms : Cond.instanceMethod yX5_writeTerms ∈ xw_tbl ∧ Cond.selects yX5_writeTerms.cls yX5_writeTerms yX5_writeTerms ∈ xw_tbl := ⟨xw_inI 1022 (by decide +kernel) rfl, xw_inI 75 (by decide +kernel) rfl⟩
set_option maxRecDepth 100000 in
theorem ml_X5_21 : xk_MV RX5 21 yX5_writeTerms cX5_writeTerms 2 none 1 := ⟨⟨mc_X5_writeTerms.1, mc_X5_writeTerms.2.1, mc_X5_writeTerms.2.2.1, mc_X5_writeTerms.2.2.2, Or.inl (xw_inI 1020 (by decide +kernel) rfl)⟩, mk_X5_writeTerms⟩
set_option maxRecDepth 100000 in
theorem mc_X5_writePair : Cond.code yX5_writePair cX5_writePair 4 none ∈ xw_tbl ∧ Cond.initialized yX5_writePair.cls ∈ xw_tbl ∧ (yX5_writePair.cls ≠ "java/lang/invoke/MethodHandle" ∧ yX5_writePair.cls ≠ "java/lang/invoke/VarHandle") ∧ (parseMethodDescriptor yX5_writePair.desc).map (fun d => d.parameters.length) = some 3 := ⟨xw_inI 1050 (by decide +kernel) rfl, xw_inI 144 (by decide +kernel) rfl, by decide +kernel, by decide +kernel⟩
set_option maxRecDepth 100000 in
theorem mk_X5_writePair : Cond.instanceMethod yX5_writePair ∈ xw_tbl ∧ Cond.selects yX5_writePair.cls yX5_writePair yX5_writePair ∈ xw_tbl := ⟨xw_inI 1049 (by decide +kernel) rfl, xw_inI 79 (by decide +kernel) rfl⟩
set_option maxRecDepth 100000 in
theorem ml_X5_33 : xk_MV RX5 33 yX5_writePair cX5_writePair 4 none 3 := ⟨⟨mc_X5_writePair.1, mc_X5_writePair.2.1, mc_X5_writePair.2.2.1, mc_X5_writePair.2.2.2, Or.inl (xw_inI 1047 (by decide +kernel) rfl)⟩, mk_X5_writePair⟩
set_option maxRecDepth 100000 in
theorem mc_X5_writeBid : Cond.code yX5_writeBid cX5_writeBid 4 none ∈ xw_tbl ∧ Cond.initialized yX5_writeBid.cls ∈ xw_tbl ∧ (yX5_writeBid.cls ≠ "java/lang/invoke/MethodHandle" ∧ yX5_writeBid.cls ≠ "java/lang/invoke/VarHandle") ∧ (parseMethodDescriptor yX5_writeBid.desc).map (fun d => d.parameters.length) = some 3 := ⟨xw_inI 1057 (by decide +kernel) rfl, xw_inI 144 (by decide +kernel) rfl, by decide +kernel, by decide +kernel⟩
set_option maxRecDepth 100000 in
theorem mk_X5_writeBid : Cond.instanceMethod yX5_writeBid ∈ xw_tbl ∧ Cond.selects yX5_writeBid.cls yX5_writeBid yX5_writeBid ∈ xw_tbl := ⟨xw_inI 1056 (by decide +kernel) rfl, xw_inI 80 (by decide +kernel) rfl⟩
set_option maxRecDepth 100000 in
theorem ml_X5_54 : xk_MV RX5 54 yX5_writeBid cX5_writeBid 4 none 3 := ⟨⟨mc_X5_writeBid.1, mc_X5_writeBid.2.1, mc_X5_writeBid.2.2.1, mc_X5_writeBid.2.2.2, Or.inl (xw_inI 1054 (by decide +kernel) rfl)⟩, mk_X5_writeBid⟩
set_option maxRecDepth 100000 in
theorem mc_X5_writeSigns : Cond.code yX5_writeSigns cX5_writeSigns 3 none ∈ xw_tbl ∧ Cond.initialized yX5_writeSigns.cls ∈ xw_tbl ∧ (yX5_writeSigns.cls ≠ "java/lang/invoke/MethodHandle" ∧ yX5_writeSigns.cls ≠ "java/lang/invoke/VarHandle") ∧ (parseMethodDescriptor yX5_writeSigns.desc).map (fun d => d.parameters.length) = some 1 := ⟨xw_inI 1028 (by decide +kernel) rfl, xw_inI 144 (by decide +kernel) rfl, by decide +kernel, by decide +kernel⟩
set_option maxRecDepth 100000 in
theorem mk_X5_writeSigns : Cond.instanceMethod yX5_writeSigns ∈ xw_tbl ∧ Cond.selects yX5_writeSigns.cls yX5_writeSigns yX5_writeSigns ∈ xw_tbl := ⟨xw_inI 1027 (by decide +kernel) rfl, xw_inI 76 (by decide +kernel) rfl⟩
set_option maxRecDepth 100000 in
theorem ml_X5_60 : xk_MV RX5 60 yX5_writeSigns cX5_writeSigns 3 none 1 := ⟨⟨mc_X5_writeSigns.1, mc_X5_writeSigns.2.1, mc_X5_writeSigns.2.2.1, mc_X5_writeSigns.2.2.2, Or.inl (xw_inI 1025 (by decide +kernel) rfl)⟩, mk_X5_writeSigns⟩
set_option maxRecDepth 100000 in
theorem mc_X5_writeNumber : Cond.code yX5_writeNumber cX5_writeNumber 5 none ∈ xw_tbl ∧ Cond.initialized yX5_writeNumber.cls ∈ xw_tbl ∧ (yX5_writeNumber.cls ≠ "java/lang/invoke/MethodHandle" ∧ yX5_writeNumber.cls ≠ "java/lang/invoke/VarHandle") ∧ (parseMethodDescriptor yX5_writeNumber.desc).map (fun d => d.parameters.length) = some 1 := ⟨xw_inI 1038 (by decide +kernel) rfl, xw_inI 144 (by decide +kernel) rfl, by decide +kernel, by decide +kernel⟩
set_option maxRecDepth 100000 in
theorem mk_X5_writeNumber : Cond.instanceMethod yX5_writeNumber ∈ xw_tbl ∧ Cond.selects yX5_writeNumber.cls yX5_writeNumber yX5_writeNumber ∈ xw_tbl := ⟨xw_inI 1037 (by decide +kernel) rfl, xw_inI 78 (by decide +kernel) rfl⟩
set_option maxRecDepth 100000 in
theorem ml_X5_67 : xk_MV RX5 67 yX5_writeNumber cX5_writeNumber 5 none 1 := ⟨⟨mc_X5_writeNumber.1, mc_X5_writeNumber.2.1, mc_X5_writeNumber.2.2.1, mc_X5_writeNumber.2.2.2, Or.inl (xw_inI 1035 (by decide +kernel) rfl)⟩, mk_X5_writeNumber⟩
set_option maxRecDepth 100000 in
theorem mc_X5_writeSign : Cond.code yX5_writeSign cX5_writeSign 2 none ∈ xw_tbl ∧ Cond.initialized yX5_writeSign.cls ∈ xw_tbl ∧ (yX5_writeSign.cls ≠ "java/lang/invoke/MethodHandle" ∧ yX5_writeSign.cls ≠ "java/lang/invoke/VarHandle") ∧ (parseMethodDescriptor yX5_writeSign.desc).map (fun d => d.parameters.length) = some 1 := ⟨xw_inI 1034 (by decide +kernel) rfl, xw_inI 144 (by decide +kernel) rfl, by decide +kernel, by decide +kernel⟩
set_option maxRecDepth 100000 in
theorem mk_X5_writeSign : Cond.instanceMethod yX5_writeSign ∈ xw_tbl ∧ Cond.selects yX5_writeSign.cls yX5_writeSign yX5_writeSign ∈ xw_tbl := ⟨xw_inI 1033 (by decide +kernel) rfl, xw_inI 77 (by decide +kernel) rfl⟩
set_option maxRecDepth 100000 in
theorem ml_X5_104 : xk_MV RX5 104 yX5_writeSign cX5_writeSign 2 none 1 := ⟨⟨mc_X5_writeSign.1, mc_X5_writeSign.2.1, mc_X5_writeSign.2.2.1, mc_X5_writeSign.2.2.2, Or.inl (xw_inI 1031 (by decide +kernel) rfl)⟩, mk_X5_writeSign⟩
set_option maxRecDepth 100000 in
theorem mc_X7_init : Cond.code yX7_init cX7_init 1 none ∈ xw_tbl ∧ Cond.initialized yX7_init.cls ∈ xw_tbl ∧ (yX7_init.cls ≠ "java/lang/invoke/MethodHandle" ∧ yX7_init.cls ≠ "java/lang/invoke/VarHandle") ∧ (parseMethodDescriptor yX7_init.desc).map (fun d => d.parameters.length) = some 0 := ⟨xw_inI 155 (by decide +kernel) rfl, xw_inI 137 (by decide +kernel) rfl, by decide +kernel, by decide +kernel⟩
set_option maxRecDepth 100000 in
theorem mk_X7_init : Cond.instanceMethod yX7_init ∈ xw_tbl := xw_inI 154 (by decide +kernel) rfl
set_option maxRecDepth 100000 in
theorem ml_L_9 : xk_MI RL 9 yX7_init cX7_init 1 0 := ⟨⟨mc_X7_init.1, mc_X7_init.2.1, mc_X7_init.2.2.1, mc_X7_init.2.2.2, Or.inl (xw_inI 153 (by decide +kernel) rfl)⟩, mk_X7_init, rfl⟩
set_option maxRecDepth 100000 in
theorem mc_X8_init : Cond.code yX8_init cX8_init 1 none ∈ xw_tbl ∧ Cond.initialized yX8_init.cls ∈ xw_tbl ∧ (yX8_init.cls ≠ "java/lang/invoke/MethodHandle" ∧ yX8_init.cls ≠ "java/lang/invoke/VarHandle") ∧ (parseMethodDescriptor yX8_init.desc).map (fun d => d.parameters.length) = some 0 := ⟨xw_inI 1087 (by decide +kernel) rfl, xw_inI 145 (by decide +kernel) rfl, by decide +kernel, by decide +kernel⟩
set_option maxRecDepth 100000 in
theorem mk_X8_init : Cond.instanceMethod yX8_init ∈ xw_tbl := xw_inI 1086 (by decide +kernel) rfl
set_option maxRecDepth 100000 in
theorem ml_L_12 : xk_MI RL 12 yX8_init cX8_init 1 0 := ⟨⟨mc_X8_init.1, mc_X8_init.2.1, mc_X8_init.2.2.1, mc_X8_init.2.2.2, Or.inl (xw_inI 1085 (by decide +kernel) rfl)⟩, mk_X8_init, rfl⟩
set_option maxRecDepth 100000 in
theorem mc_X7_feed : Cond.code yX7_feed cX7_feed 6 (some .int) ∈ xw_tbl ∧ Cond.initialized yX7_feed.cls ∈ xw_tbl ∧ (yX7_feed.cls ≠ "java/lang/invoke/MethodHandle" ∧ yX7_feed.cls ≠ "java/lang/invoke/VarHandle") ∧ (parseMethodDescriptor yX7_feed.desc).map (fun d => d.parameters.length) = some 5 := ⟨xw_inI 424 (by decide +kernel) rfl, xw_inI 137 (by decide +kernel) rfl, by decide +kernel, by decide +kernel⟩
set_option maxRecDepth 100000 in
theorem mk_X7_feed : Cond.instanceMethod yX7_feed ∈ xw_tbl ∧ Cond.selects yX7_feed.cls yX7_feed yX7_feed ∈ xw_tbl := ⟨xw_inI 422 (by decide +kernel) rfl, xw_inI 423 (by decide +kernel) rfl⟩
set_option maxRecDepth 100000 in
theorem ml_L_13 : xk_MV RL 13 yX7_feed cX7_feed 6 (some .int) 5 := ⟨⟨mc_X7_feed.1, mc_X7_feed.2.1, mc_X7_feed.2.2.1, mc_X7_feed.2.2.2, Or.inl (xw_inI 421 (by decide +kernel) rfl)⟩, mk_X7_feed⟩
set_option maxRecDepth 100000 in
theorem mc_X8_feed : Cond.code yX8_feed cX8_feed 8 (some .int) ∈ xw_tbl ∧ Cond.initialized yX8_feed.cls ∈ xw_tbl ∧ (yX8_feed.cls ≠ "java/lang/invoke/MethodHandle" ∧ yX8_feed.cls ≠ "java/lang/invoke/VarHandle") ∧ (parseMethodDescriptor yX8_feed.desc).map (fun d => d.parameters.length) = some 5 := ⟨xw_inI 1556 (by decide +kernel) rfl, xw_inI 145 (by decide +kernel) rfl, by decide +kernel, by decide +kernel⟩
set_option maxRecDepth 100000 in
theorem mk_X8_feed : Cond.instanceMethod yX8_feed ∈ xw_tbl ∧ Cond.selects yX8_feed.cls yX8_feed yX8_feed ∈ xw_tbl := ⟨xw_inI 1554 (by decide +kernel) rfl, xw_inI 1555 (by decide +kernel) rfl⟩
set_option maxRecDepth 100000 in
theorem ml_L_17 : xk_MV RL 17 yX8_feed cX8_feed 8 (some .int) 5 := ⟨⟨mc_X8_feed.1, mc_X8_feed.2.1, mc_X8_feed.2.2.1, mc_X8_feed.2.2.2, Or.inl (xw_inI 1553 (by decide +kernel) rfl)⟩, mk_X8_feed⟩
set_option maxRecDepth 100000 in
theorem mc_X7_back : Cond.code yX7_back cX7_back 2 (some .int) ∈ xw_tbl ∧ Cond.initialized yX7_back.cls ∈ xw_tbl ∧ (yX7_back.cls ≠ "java/lang/invoke/MethodHandle" ∧ yX7_back.cls ≠ "java/lang/invoke/VarHandle") ∧ (parseMethodDescriptor yX7_back.desc).map (fun d => d.parameters.length) = some 1 := ⟨xw_inI 436 (by decide +kernel) rfl, xw_inI 137 (by decide +kernel) rfl, by decide +kernel, by decide +kernel⟩
set_option maxRecDepth 100000 in
theorem mk_X7_back : Cond.instanceMethod yX7_back ∈ xw_tbl ∧ Cond.selects yX7_back.cls yX7_back yX7_back ∈ xw_tbl := ⟨xw_inI 434 (by decide +kernel) rfl, xw_inI 435 (by decide +kernel) rfl⟩
set_option maxRecDepth 100000 in
theorem ml_L_18 : xk_MV RL 18 yX7_back cX7_back 2 (some .int) 1 := ⟨⟨mc_X7_back.1, mc_X7_back.2.1, mc_X7_back.2.2.1, mc_X7_back.2.2.2, Or.inl (xw_inI 433 (by decide +kernel) rfl)⟩, mk_X7_back⟩
set_option maxRecDepth 100000 in
theorem mc_X8_back : Cond.code yX8_back cX8_back 2 (some .int) ∈ xw_tbl ∧ Cond.initialized yX8_back.cls ∈ xw_tbl ∧ (yX8_back.cls ≠ "java/lang/invoke/MethodHandle" ∧ yX8_back.cls ≠ "java/lang/invoke/VarHandle") ∧ (parseMethodDescriptor yX8_back.desc).map (fun d => d.parameters.length) = some 1 := ⟨xw_inI 1560 (by decide +kernel) rfl, xw_inI 145 (by decide +kernel) rfl, by decide +kernel, by decide +kernel⟩
set_option maxRecDepth 100000 in
theorem mk_X8_back : Cond.instanceMethod yX8_back ∈ xw_tbl ∧ Cond.selects yX8_back.cls yX8_back yX8_back ∈ xw_tbl := ⟨xw_inI 1558 (by decide +kernel) rfl, xw_inI 1559 (by decide +kernel) rfl⟩
set_option maxRecDepth 100000 in
theorem ml_L_22 : xk_MV RL 22 yX8_back cX8_back 2 (some .int) 1 := ⟨⟨mc_X8_back.1, mc_X8_back.2.1, mc_X8_back.2.2.1, mc_X8_back.2.2.2, Or.inl (xw_inI 1557 (by decide +kernel) rfl)⟩, mk_X8_back⟩
set_option maxRecDepth 100000 in
theorem mc_X7_text : Cond.code yX7_text cX7_text 2 (some .int) ∈ xw_tbl ∧ Cond.initialized yX7_text.cls ∈ xw_tbl ∧ (yX7_text.cls ≠ "java/lang/invoke/MethodHandle" ∧ yX7_text.cls ≠ "java/lang/invoke/VarHandle") ∧ (parseMethodDescriptor yX7_text.desc).map (fun d => d.parameters.length) = some 0 := ⟨xw_inI 440 (by decide +kernel) rfl, xw_inI 137 (by decide +kernel) rfl, by decide +kernel, by decide +kernel⟩
set_option maxRecDepth 100000 in
theorem mk_X7_text : Cond.instanceMethod yX7_text ∈ xw_tbl ∧ Cond.selects yX7_text.cls yX7_text yX7_text ∈ xw_tbl := ⟨xw_inI 438 (by decide +kernel) rfl, xw_inI 439 (by decide +kernel) rfl⟩
set_option maxRecDepth 100000 in
theorem ml_L_23 : xk_MV RL 23 yX7_text cX7_text 2 (some .int) 0 := ⟨⟨mc_X7_text.1, mc_X7_text.2.1, mc_X7_text.2.2.1, mc_X7_text.2.2.2, Or.inl (xw_inI 437 (by decide +kernel) rfl)⟩, mk_X7_text⟩
set_option maxRecDepth 100000 in
theorem mc_X8_text : Cond.code yX8_text cX8_text 2 (some .int) ∈ xw_tbl ∧ Cond.initialized yX8_text.cls ∈ xw_tbl ∧ (yX8_text.cls ≠ "java/lang/invoke/MethodHandle" ∧ yX8_text.cls ≠ "java/lang/invoke/VarHandle") ∧ (parseMethodDescriptor yX8_text.desc).map (fun d => d.parameters.length) = some 0 := ⟨xw_inI 1564 (by decide +kernel) rfl, xw_inI 145 (by decide +kernel) rfl, by decide +kernel, by decide +kernel⟩
set_option maxRecDepth 100000 in
theorem mk_X8_text : Cond.instanceMethod yX8_text ∈ xw_tbl ∧ Cond.selects yX8_text.cls yX8_text yX8_text ∈ xw_tbl := ⟨xw_inI 1562 (by decide +kernel) rfl, xw_inI 1563 (by decide +kernel) rfl⟩
set_option maxRecDepth 100000 in
theorem ml_L_27 : xk_MV RL 27 yX8_text cX8_text 2 (some .int) 0 := ⟨⟨mc_X8_text.1, mc_X8_text.2.1, mc_X8_text.2.2.1, mc_X8_text.2.2.2, Or.inl (xw_inI 1561 (by decide +kernel) rfl)⟩, mk_X8_text⟩
set_option maxRecDepth 100000 in
theorem mc_X7_bid : Cond.code yX7_bid cX7_bid 5 (some .int) ∈ xw_tbl ∧ Cond.initialized yX7_bid.cls ∈ xw_tbl ∧ (yX7_bid.cls ≠ "java/lang/invoke/MethodHandle" ∧ yX7_bid.cls ≠ "java/lang/invoke/VarHandle") ∧ (parseMethodDescriptor yX7_bid.desc).map (fun d => d.parameters.length) = some 3 := ⟨xw_inI 596 (by decide +kernel) rfl, xw_inI 137 (by decide +kernel) rfl, by decide +kernel, by decide +kernel⟩
set_option maxRecDepth 100000 in
theorem mk_X7_bid : Cond.instanceMethod yX7_bid ∈ xw_tbl ∧ Cond.selects yX7_bid.cls yX7_bid yX7_bid ∈ xw_tbl := ⟨xw_inI 594 (by decide +kernel) rfl, xw_inI 595 (by decide +kernel) rfl⟩
set_option maxRecDepth 100000 in
theorem ml_L_28 : xk_MV RL 28 yX7_bid cX7_bid 5 (some .int) 3 := ⟨⟨mc_X7_bid.1, mc_X7_bid.2.1, mc_X7_bid.2.2.1, mc_X7_bid.2.2.2, Or.inl (xw_inI 593 (by decide +kernel) rfl)⟩, mk_X7_bid⟩
set_option maxRecDepth 100000 in
theorem mc_X8_bid : Cond.code yX8_bid cX8_bid 4 (some .int) ∈ xw_tbl ∧ Cond.initialized yX8_bid.cls ∈ xw_tbl ∧ (yX8_bid.cls ≠ "java/lang/invoke/MethodHandle" ∧ yX8_bid.cls ≠ "java/lang/invoke/VarHandle") ∧ (parseMethodDescriptor yX8_bid.desc).map (fun d => d.parameters.length) = some 3 := ⟨xw_inI 1186 (by decide +kernel) rfl, xw_inI 145 (by decide +kernel) rfl, by decide +kernel, by decide +kernel⟩
set_option maxRecDepth 100000 in
theorem mk_X8_bid : Cond.instanceMethod yX8_bid ∈ xw_tbl ∧ Cond.selects yX8_bid.cls yX8_bid yX8_bid ∈ xw_tbl := ⟨xw_inI 1184 (by decide +kernel) rfl, xw_inI 1185 (by decide +kernel) rfl⟩
set_option maxRecDepth 100000 in
theorem ml_L_32 : xk_MV RL 32 yX8_bid cX8_bid 4 (some .int) 3 := ⟨⟨mc_X8_bid.1, mc_X8_bid.2.1, mc_X8_bid.2.2.1, mc_X8_bid.2.2.2, Or.inl (xw_inI 1183 (by decide +kernel) rfl)⟩, mk_X8_bid⟩
set_option maxRecDepth 100000 in
theorem mc_X7_withdraw : Cond.code yX7_withdraw cX7_withdraw 2 (some .boolean) ∈ xw_tbl ∧ Cond.initialized yX7_withdraw.cls ∈ xw_tbl ∧ (yX7_withdraw.cls ≠ "java/lang/invoke/MethodHandle" ∧ yX7_withdraw.cls ≠ "java/lang/invoke/VarHandle") ∧ (parseMethodDescriptor yX7_withdraw.desc).map (fun d => d.parameters.length) = some 1 := ⟨xw_inI 618 (by decide +kernel) rfl, xw_inI 137 (by decide +kernel) rfl, by decide +kernel, by decide +kernel⟩
set_option maxRecDepth 100000 in
theorem mk_X7_withdraw : Cond.instanceMethod yX7_withdraw ∈ xw_tbl ∧ Cond.selects yX7_withdraw.cls yX7_withdraw yX7_withdraw ∈ xw_tbl := ⟨xw_inI 616 (by decide +kernel) rfl, xw_inI 617 (by decide +kernel) rfl⟩
set_option maxRecDepth 100000 in
theorem ml_L_33 : xk_MV RL 33 yX7_withdraw cX7_withdraw 2 (some .boolean) 1 := ⟨⟨mc_X7_withdraw.1, mc_X7_withdraw.2.1, mc_X7_withdraw.2.2.1, mc_X7_withdraw.2.2.2, Or.inl (xw_inI 615 (by decide +kernel) rfl)⟩, mk_X7_withdraw⟩
set_option maxRecDepth 100000 in
theorem mc_X8_withdraw : Cond.code yX8_withdraw cX8_withdraw 2 (some .boolean) ∈ xw_tbl ∧ Cond.initialized yX8_withdraw.cls ∈ xw_tbl ∧ (yX8_withdraw.cls ≠ "java/lang/invoke/MethodHandle" ∧ yX8_withdraw.cls ≠ "java/lang/invoke/VarHandle") ∧ (parseMethodDescriptor yX8_withdraw.desc).map (fun d => d.parameters.length) = some 1 := ⟨xw_inI 1214 (by decide +kernel) rfl, xw_inI 145 (by decide +kernel) rfl, by decide +kernel, by decide +kernel⟩
set_option maxRecDepth 100000 in
theorem mk_X8_withdraw : Cond.instanceMethod yX8_withdraw ∈ xw_tbl ∧ Cond.selects yX8_withdraw.cls yX8_withdraw yX8_withdraw ∈ xw_tbl := ⟨xw_inI 1212 (by decide +kernel) rfl, xw_inI 1213 (by decide +kernel) rfl⟩
set_option maxRecDepth 100000 in
theorem ml_L_37 : xk_MV RL 37 yX8_withdraw cX8_withdraw 2 (some .boolean) 1 := ⟨⟨mc_X8_withdraw.1, mc_X8_withdraw.2.1, mc_X8_withdraw.2.2.1, mc_X8_withdraw.2.2.2, Or.inl (xw_inI 1211 (by decide +kernel) rfl)⟩, mk_X8_withdraw⟩
set_option maxRecDepth 100000 in
theorem mc_X7_change : Cond.code yX7_change cX7_change 4 (some .int) ∈ xw_tbl ∧ Cond.initialized yX7_change.cls ∈ xw_tbl ∧ (yX7_change.cls ≠ "java/lang/invoke/MethodHandle" ∧ yX7_change.cls ≠ "java/lang/invoke/VarHandle") ∧ (parseMethodDescriptor yX7_change.desc).map (fun d => d.parameters.length) = some 3 := ⟨xw_inI 631 (by decide +kernel) rfl, xw_inI 137 (by decide +kernel) rfl, by decide +kernel, by decide +kernel⟩
set_option maxRecDepth 100000 in
theorem mk_X7_change : Cond.instanceMethod yX7_change ∈ xw_tbl ∧ Cond.selects yX7_change.cls yX7_change yX7_change ∈ xw_tbl := ⟨xw_inI 629 (by decide +kernel) rfl, xw_inI 630 (by decide +kernel) rfl⟩
set_option maxRecDepth 100000 in
theorem ml_L_38 : xk_MV RL 38 yX7_change cX7_change 4 (some .int) 3 := ⟨⟨mc_X7_change.1, mc_X7_change.2.1, mc_X7_change.2.2.1, mc_X7_change.2.2.2, Or.inl (xw_inI 628 (by decide +kernel) rfl)⟩, mk_X7_change⟩
set_option maxRecDepth 100000 in
theorem mc_X8_change : Cond.code yX8_change cX8_change 5 (some .int) ∈ xw_tbl ∧ Cond.initialized yX8_change.cls ∈ xw_tbl ∧ (yX8_change.cls ≠ "java/lang/invoke/MethodHandle" ∧ yX8_change.cls ≠ "java/lang/invoke/VarHandle") ∧ (parseMethodDescriptor yX8_change.desc).map (fun d => d.parameters.length) = some 3 := ⟨xw_inI 1242 (by decide +kernel) rfl, xw_inI 145 (by decide +kernel) rfl, by decide +kernel, by decide +kernel⟩
set_option maxRecDepth 100000 in
theorem mk_X8_change : Cond.instanceMethod yX8_change ∈ xw_tbl ∧ Cond.selects yX8_change.cls yX8_change yX8_change ∈ xw_tbl := ⟨xw_inI 1240 (by decide +kernel) rfl, xw_inI 1241 (by decide +kernel) rfl⟩
set_option maxRecDepth 100000 in
theorem ml_L_41 : xk_MV RL 41 yX8_change cX8_change 5 (some .int) 3 := ⟨⟨mc_X8_change.1, mc_X8_change.2.1, mc_X8_change.2.2.1, mc_X8_change.2.2.2, Or.inl (xw_inI 1239 (by decide +kernel) rfl)⟩, mk_X8_change⟩
set_option maxRecDepth 100000 in
theorem mc_X7_term : Cond.code yX7_term cX7_term 4 (some .int) ∈ xw_tbl ∧ Cond.initialized yX7_term.cls ∈ xw_tbl ∧ (yX7_term.cls ≠ "java/lang/invoke/MethodHandle" ∧ yX7_term.cls ≠ "java/lang/invoke/VarHandle") ∧ (parseMethodDescriptor yX7_term.desc).map (fun d => d.parameters.length) = some 2 := ⟨xw_inI 643 (by decide +kernel) rfl, xw_inI 137 (by decide +kernel) rfl, by decide +kernel, by decide +kernel⟩
set_option maxRecDepth 100000 in
theorem mk_X7_term : Cond.instanceMethod yX7_term ∈ xw_tbl ∧ Cond.selects yX7_term.cls yX7_term yX7_term ∈ xw_tbl := ⟨xw_inI 641 (by decide +kernel) rfl, xw_inI 642 (by decide +kernel) rfl⟩
set_option maxRecDepth 100000 in
theorem ml_L_42 : xk_MV RL 42 yX7_term cX7_term 4 (some .int) 2 := ⟨⟨mc_X7_term.1, mc_X7_term.2.1, mc_X7_term.2.2.1, mc_X7_term.2.2.2, Or.inl (xw_inI 640 (by decide +kernel) rfl)⟩, mk_X7_term⟩
set_option maxRecDepth 100000 in
theorem mc_X8_term : Cond.code yX8_term cX8_term 3 (some .int) ∈ xw_tbl ∧ Cond.initialized yX8_term.cls ∈ xw_tbl ∧ (yX8_term.cls ≠ "java/lang/invoke/MethodHandle" ∧ yX8_term.cls ≠ "java/lang/invoke/VarHandle") ∧ (parseMethodDescriptor yX8_term.desc).map (fun d => d.parameters.length) = some 2 := ⟨xw_inI 1254 (by decide +kernel) rfl, xw_inI 145 (by decide +kernel) rfl, by decide +kernel, by decide +kernel⟩
set_option maxRecDepth 100000 in
theorem mk_X8_term : Cond.instanceMethod yX8_term ∈ xw_tbl ∧ Cond.selects yX8_term.cls yX8_term yX8_term ∈ xw_tbl := ⟨xw_inI 1252 (by decide +kernel) rfl, xw_inI 1253 (by decide +kernel) rfl⟩
set_option maxRecDepth 100000 in
theorem ml_L_46 : xk_MV RL 46 yX8_term cX8_term 3 (some .int) 2 := ⟨⟨mc_X8_term.1, mc_X8_term.2.1, mc_X8_term.2.2.1, mc_X8_term.2.2.2, Or.inl (xw_inI 1251 (by decide +kernel) rfl)⟩, mk_X8_term⟩
set_option maxRecDepth 100000 in
theorem mc_X7_own : Cond.code yX7_own cX7_own 4 (some .int) ∈ xw_tbl ∧ Cond.initialized yX7_own.cls ∈ xw_tbl ∧ (yX7_own.cls ≠ "java/lang/invoke/MethodHandle" ∧ yX7_own.cls ≠ "java/lang/invoke/VarHandle") ∧ (parseMethodDescriptor yX7_own.desc).map (fun d => d.parameters.length) = some 2 := ⟨xw_inI 653 (by decide +kernel) rfl, xw_inI 137 (by decide +kernel) rfl, by decide +kernel, by decide +kernel⟩
set_option maxRecDepth 100000 in
theorem mk_X7_own : Cond.instanceMethod yX7_own ∈ xw_tbl ∧ Cond.selects yX7_own.cls yX7_own yX7_own ∈ xw_tbl := ⟨xw_inI 651 (by decide +kernel) rfl, xw_inI 652 (by decide +kernel) rfl⟩
set_option maxRecDepth 100000 in
theorem ml_L_47 : xk_MV RL 47 yX7_own cX7_own 4 (some .int) 2 := ⟨⟨mc_X7_own.1, mc_X7_own.2.1, mc_X7_own.2.2.1, mc_X7_own.2.2.2, Or.inl (xw_inI 650 (by decide +kernel) rfl)⟩, mk_X7_own⟩
set_option maxRecDepth 100000 in
theorem mc_X8_own : Cond.code yX8_own cX8_own 3 (some .int) ∈ xw_tbl ∧ Cond.initialized yX8_own.cls ∈ xw_tbl ∧ (yX8_own.cls ≠ "java/lang/invoke/MethodHandle" ∧ yX8_own.cls ≠ "java/lang/invoke/VarHandle") ∧ (parseMethodDescriptor yX8_own.desc).map (fun d => d.parameters.length) = some 2 := ⟨xw_inI 1262 (by decide +kernel) rfl, xw_inI 145 (by decide +kernel) rfl, by decide +kernel, by decide +kernel⟩
set_option maxRecDepth 100000 in
theorem mk_X8_own : Cond.instanceMethod yX8_own ∈ xw_tbl ∧ Cond.selects yX8_own.cls yX8_own yX8_own ∈ xw_tbl := ⟨xw_inI 1260 (by decide +kernel) rfl, xw_inI 1261 (by decide +kernel) rfl⟩
set_option maxRecDepth 100000 in
theorem ml_L_50 : xk_MV RL 50 yX8_own cX8_own 3 (some .int) 2 := ⟨⟨mc_X8_own.1, mc_X8_own.2.1, mc_X8_own.2.2.1, mc_X8_own.2.2.2, Or.inl (xw_inI 1259 (by decide +kernel) rfl)⟩, mk_X8_own⟩
set_option maxRecDepth 100000 in
theorem mc_X7_split : Cond.code yX7_split cX7_split 3 (some .boolean) ∈ xw_tbl ∧ Cond.initialized yX7_split.cls ∈ xw_tbl ∧ (yX7_split.cls ≠ "java/lang/invoke/MethodHandle" ∧ yX7_split.cls ≠ "java/lang/invoke/VarHandle") ∧ (parseMethodDescriptor yX7_split.desc).map (fun d => d.parameters.length) = some 2 := ⟨xw_inI 657 (by decide +kernel) rfl, xw_inI 137 (by decide +kernel) rfl, by decide +kernel, by decide +kernel⟩
set_option maxRecDepth 100000 in
theorem mk_X7_split : Cond.instanceMethod yX7_split ∈ xw_tbl ∧ Cond.selects yX7_split.cls yX7_split yX7_split ∈ xw_tbl := ⟨xw_inI 655 (by decide +kernel) rfl, xw_inI 656 (by decide +kernel) rfl⟩
set_option maxRecDepth 100000 in
theorem ml_L_51 : xk_MV RL 51 yX7_split cX7_split 3 (some .boolean) 2 := ⟨⟨mc_X7_split.1, mc_X7_split.2.1, mc_X7_split.2.2.1, mc_X7_split.2.2.2, Or.inl (xw_inI 654 (by decide +kernel) rfl)⟩, mk_X7_split⟩
set_option maxRecDepth 100000 in
theorem mc_X8_split : Cond.code yX8_split cX8_split 4 (some .boolean) ∈ xw_tbl ∧ Cond.initialized yX8_split.cls ∈ xw_tbl ∧ (yX8_split.cls ≠ "java/lang/invoke/MethodHandle" ∧ yX8_split.cls ≠ "java/lang/invoke/VarHandle") ∧ (parseMethodDescriptor yX8_split.desc).map (fun d => d.parameters.length) = some 2 := ⟨xw_inI 1266 (by decide +kernel) rfl, xw_inI 145 (by decide +kernel) rfl, by decide +kernel, by decide +kernel⟩
set_option maxRecDepth 100000 in
theorem mk_X8_split : Cond.instanceMethod yX8_split ∈ xw_tbl ∧ Cond.selects yX8_split.cls yX8_split yX8_split ∈ xw_tbl := ⟨xw_inI 1264 (by decide +kernel) rfl, xw_inI 1265 (by decide +kernel) rfl⟩
set_option maxRecDepth 100000 in
theorem ml_L_55 : xk_MV RL 55 yX8_split cX8_split 4 (some .boolean) 2 := ⟨⟨mc_X8_split.1, mc_X8_split.2.1, mc_X8_split.2.2.1, mc_X8_split.2.2.2, Or.inl (xw_inI 1263 (by decide +kernel) rfl)⟩, mk_X8_split⟩
set_option maxRecDepth 100000 in
theorem mc_X7_merge : Cond.code yX7_merge cX7_merge 3 (some .int) ∈ xw_tbl ∧ Cond.initialized yX7_merge.cls ∈ xw_tbl ∧ (yX7_merge.cls ≠ "java/lang/invoke/MethodHandle" ∧ yX7_merge.cls ≠ "java/lang/invoke/VarHandle") ∧ (parseMethodDescriptor yX7_merge.desc).map (fun d => d.parameters.length) = some 1 := ⟨xw_inI 661 (by decide +kernel) rfl, xw_inI 137 (by decide +kernel) rfl, by decide +kernel, by decide +kernel⟩
set_option maxRecDepth 100000 in
theorem mk_X7_merge : Cond.instanceMethod yX7_merge ∈ xw_tbl ∧ Cond.selects yX7_merge.cls yX7_merge yX7_merge ∈ xw_tbl := ⟨xw_inI 659 (by decide +kernel) rfl, xw_inI 660 (by decide +kernel) rfl⟩
set_option maxRecDepth 100000 in
theorem ml_L_56 : xk_MV RL 56 yX7_merge cX7_merge 3 (some .int) 1 := ⟨⟨mc_X7_merge.1, mc_X7_merge.2.1, mc_X7_merge.2.2.1, mc_X7_merge.2.2.2, Or.inl (xw_inI 658 (by decide +kernel) rfl)⟩, mk_X7_merge⟩
set_option maxRecDepth 100000 in
theorem mc_X8_merge : Cond.code yX8_merge cX8_merge 6 (some .int) ∈ xw_tbl ∧ Cond.initialized yX8_merge.cls ∈ xw_tbl ∧ (yX8_merge.cls ≠ "java/lang/invoke/MethodHandle" ∧ yX8_merge.cls ≠ "java/lang/invoke/VarHandle") ∧ (parseMethodDescriptor yX8_merge.desc).map (fun d => d.parameters.length) = some 1 := ⟨xw_inI 1274 (by decide +kernel) rfl, xw_inI 145 (by decide +kernel) rfl, by decide +kernel, by decide +kernel⟩
set_option maxRecDepth 100000 in
theorem mk_X8_merge : Cond.instanceMethod yX8_merge ∈ xw_tbl ∧ Cond.selects yX8_merge.cls yX8_merge yX8_merge ∈ xw_tbl := ⟨xw_inI 1272 (by decide +kernel) rfl, xw_inI 1273 (by decide +kernel) rfl⟩
set_option maxRecDepth 100000 in
theorem ml_L_59 : xk_MV RL 59 yX8_merge cX8_merge 6 (some .int) 1 := ⟨⟨mc_X8_merge.1, mc_X8_merge.2.1, mc_X8_merge.2.2.1, mc_X8_merge.2.2.2, Or.inl (xw_inI 1271 (by decide +kernel) rfl)⟩, mk_X8_merge⟩
set_option maxRecDepth 100000 in
theorem mc_X7_move : Cond.code yX7_move cX7_move 6 (some .boolean) ∈ xw_tbl ∧ Cond.initialized yX7_move.cls ∈ xw_tbl ∧ (yX7_move.cls ≠ "java/lang/invoke/MethodHandle" ∧ yX7_move.cls ≠ "java/lang/invoke/VarHandle") ∧ (parseMethodDescriptor yX7_move.desc).map (fun d => d.parameters.length) = some 2 := ⟨xw_inI 675 (by decide +kernel) rfl, xw_inI 137 (by decide +kernel) rfl, by decide +kernel, by decide +kernel⟩
set_option maxRecDepth 100000 in
theorem mk_X7_move : Cond.instanceMethod yX7_move ∈ xw_tbl ∧ Cond.selects yX7_move.cls yX7_move yX7_move ∈ xw_tbl := ⟨xw_inI 673 (by decide +kernel) rfl, xw_inI 674 (by decide +kernel) rfl⟩
set_option maxRecDepth 100000 in
theorem ml_L_60 : xk_MV RL 60 yX7_move cX7_move 6 (some .boolean) 2 := ⟨⟨mc_X7_move.1, mc_X7_move.2.1, mc_X7_move.2.2.1, mc_X7_move.2.2.2, Or.inl (xw_inI 672 (by decide +kernel) rfl)⟩, mk_X7_move⟩
set_option maxRecDepth 100000 in
theorem mc_X8_move : Cond.code yX8_move cX8_move 6 (some .boolean) ∈ xw_tbl ∧ Cond.initialized yX8_move.cls ∈ xw_tbl ∧ (yX8_move.cls ≠ "java/lang/invoke/MethodHandle" ∧ yX8_move.cls ≠ "java/lang/invoke/VarHandle") ∧ (parseMethodDescriptor yX8_move.desc).map (fun d => d.parameters.length) = some 2 := ⟨xw_inI 1282 (by decide +kernel) rfl, xw_inI 145 (by decide +kernel) rfl, by decide +kernel, by decide +kernel⟩
set_option maxRecDepth 100000 in
theorem mk_X8_move : Cond.instanceMethod yX8_move ∈ xw_tbl ∧ Cond.selects yX8_move.cls yX8_move yX8_move ∈ xw_tbl := ⟨xw_inI 1280 (by decide +kernel) rfl, xw_inI 1281 (by decide +kernel) rfl⟩
set_option maxRecDepth 100000 in
theorem ml_L_63 : xk_MV RL 63 yX8_move cX8_move 6 (some .boolean) 2 := ⟨⟨mc_X8_move.1, mc_X8_move.2.1, mc_X8_move.2.2.1, mc_X8_move.2.2.2, Or.inl (xw_inI 1279 (by decide +kernel) rfl)⟩, mk_X8_move⟩
set_option maxRecDepth 100000 in
theorem mc_X7_hold : Cond.code yX7_hold cX7_hold 4 (some .int) ∈ xw_tbl ∧ Cond.initialized yX7_hold.cls ∈ xw_tbl ∧ (yX7_hold.cls ≠ "java/lang/invoke/MethodHandle" ∧ yX7_hold.cls ≠ "java/lang/invoke/VarHandle") ∧ (parseMethodDescriptor yX7_hold.desc).map (fun d => d.parameters.length) = some 2 := ⟨xw_inI 679 (by decide +kernel) rfl, xw_inI 137 (by decide +kernel) rfl, by decide +kernel, by decide +kernel⟩
set_option maxRecDepth 100000 in
theorem mk_X7_hold : Cond.instanceMethod yX7_hold ∈ xw_tbl ∧ Cond.selects yX7_hold.cls yX7_hold yX7_hold ∈ xw_tbl := ⟨xw_inI 677 (by decide +kernel) rfl, xw_inI 678 (by decide +kernel) rfl⟩
set_option maxRecDepth 100000 in
theorem ml_L_64 : xk_MV RL 64 yX7_hold cX7_hold 4 (some .int) 2 := ⟨⟨mc_X7_hold.1, mc_X7_hold.2.1, mc_X7_hold.2.2.1, mc_X7_hold.2.2.2, Or.inl (xw_inI 676 (by decide +kernel) rfl)⟩, mk_X7_hold⟩
set_option maxRecDepth 100000 in
theorem mc_X8_hold : Cond.code yX8_hold cX8_hold 3 (some .int) ∈ xw_tbl ∧ Cond.initialized yX8_hold.cls ∈ xw_tbl ∧ (yX8_hold.cls ≠ "java/lang/invoke/MethodHandle" ∧ yX8_hold.cls ≠ "java/lang/invoke/VarHandle") ∧ (parseMethodDescriptor yX8_hold.desc).map (fun d => d.parameters.length) = some 2 := ⟨xw_inI 1286 (by decide +kernel) rfl, xw_inI 145 (by decide +kernel) rfl, by decide +kernel, by decide +kernel⟩
set_option maxRecDepth 100000 in
theorem mk_X8_hold : Cond.instanceMethod yX8_hold ∈ xw_tbl ∧ Cond.selects yX8_hold.cls yX8_hold yX8_hold ∈ xw_tbl := ⟨xw_inI 1284 (by decide +kernel) rfl, xw_inI 1285 (by decide +kernel) rfl⟩
set_option maxRecDepth 100000 in
theorem ml_L_67 : xk_MV RL 67 yX8_hold cX8_hold 3 (some .int) 2 := ⟨⟨mc_X8_hold.1, mc_X8_hold.2.1, mc_X8_hold.2.2.1, mc_X8_hold.2.2.2, Or.inl (xw_inI 1283 (by decide +kernel) rfl)⟩, mk_X8_hold⟩
set_option maxRecDepth 100000 in
theorem mc_X7_settle : Cond.code yX7_settle cX7_settle 4 (some .int) ∈ xw_tbl ∧ Cond.initialized yX7_settle.cls ∈ xw_tbl ∧ (yX7_settle.cls ≠ "java/lang/invoke/MethodHandle" ∧ yX7_settle.cls ≠ "java/lang/invoke/VarHandle") ∧ (parseMethodDescriptor yX7_settle.desc).map (fun d => d.parameters.length) = some 0 := ⟨xw_inI 683 (by decide +kernel) rfl, xw_inI 137 (by decide +kernel) rfl, by decide +kernel, by decide +kernel⟩
set_option maxRecDepth 100000 in
theorem mk_X7_settle : Cond.instanceMethod yX7_settle ∈ xw_tbl ∧ Cond.selects yX7_settle.cls yX7_settle yX7_settle ∈ xw_tbl := ⟨xw_inI 681 (by decide +kernel) rfl, xw_inI 682 (by decide +kernel) rfl⟩
set_option maxRecDepth 100000 in
theorem ml_L_68 : xk_MV RL 68 yX7_settle cX7_settle 4 (some .int) 0 := ⟨⟨mc_X7_settle.1, mc_X7_settle.2.1, mc_X7_settle.2.2.1, mc_X7_settle.2.2.2, Or.inl (xw_inI 680 (by decide +kernel) rfl)⟩, mk_X7_settle⟩
set_option maxRecDepth 100000 in
theorem mc_X8_settle : Cond.code yX8_settle cX8_settle 6 (some .int) ∈ xw_tbl ∧ Cond.initialized yX8_settle.cls ∈ xw_tbl ∧ (yX8_settle.cls ≠ "java/lang/invoke/MethodHandle" ∧ yX8_settle.cls ≠ "java/lang/invoke/VarHandle") ∧ (parseMethodDescriptor yX8_settle.desc).map (fun d => d.parameters.length) = some 0 := ⟨xw_inI 1294 (by decide +kernel) rfl, xw_inI 145 (by decide +kernel) rfl, by decide +kernel, by decide +kernel⟩
set_option maxRecDepth 100000 in
theorem mk_X8_settle : Cond.instanceMethod yX8_settle ∈ xw_tbl ∧ Cond.selects yX8_settle.cls yX8_settle yX8_settle ∈ xw_tbl := ⟨xw_inI 1292 (by decide +kernel) rfl, xw_inI 1293 (by decide +kernel) rfl⟩
set_option maxRecDepth 100000 in
theorem ml_L_71 : xk_MV RL 71 yX8_settle cX8_settle 6 (some .int) 0 := ⟨⟨mc_X8_settle.1, mc_X8_settle.2.1, mc_X8_settle.2.2.1, mc_X8_settle.2.2.2, Or.inl (xw_inI 1291 (by decide +kernel) rfl)⟩, mk_X8_settle⟩
set_option maxRecDepth 100000 in
theorem mc_X7_undo : Cond.code yX7_undo cX7_undo 1 (some .int) ∈ xw_tbl ∧ Cond.initialized yX7_undo.cls ∈ xw_tbl ∧ (yX7_undo.cls ≠ "java/lang/invoke/MethodHandle" ∧ yX7_undo.cls ≠ "java/lang/invoke/VarHandle") ∧ (parseMethodDescriptor yX7_undo.desc).map (fun d => d.parameters.length) = some 0 := ⟨xw_inI 781 (by decide +kernel) rfl, xw_inI 137 (by decide +kernel) rfl, by decide +kernel, by decide +kernel⟩
set_option maxRecDepth 100000 in
theorem mk_X7_undo : Cond.instanceMethod yX7_undo ∈ xw_tbl ∧ Cond.selects yX7_undo.cls yX7_undo yX7_undo ∈ xw_tbl := ⟨xw_inI 779 (by decide +kernel) rfl, xw_inI 780 (by decide +kernel) rfl⟩
set_option maxRecDepth 100000 in
theorem ml_L_72 : xk_MV RL 72 yX7_undo cX7_undo 1 (some .int) 0 := ⟨⟨mc_X7_undo.1, mc_X7_undo.2.1, mc_X7_undo.2.2.1, mc_X7_undo.2.2.2, Or.inl (xw_inI 778 (by decide +kernel) rfl)⟩, mk_X7_undo⟩
set_option maxRecDepth 100000 in
theorem mc_X8_undo : Cond.code yX8_undo cX8_undo 2 (some .int) ∈ xw_tbl ∧ Cond.initialized yX8_undo.cls ∈ xw_tbl ∧ (yX8_undo.cls ≠ "java/lang/invoke/MethodHandle" ∧ yX8_undo.cls ≠ "java/lang/invoke/VarHandle") ∧ (parseMethodDescriptor yX8_undo.desc).map (fun d => d.parameters.length) = some 0 := ⟨xw_inI 1290 (by decide +kernel) rfl, xw_inI 145 (by decide +kernel) rfl, by decide +kernel, by decide +kernel⟩
set_option maxRecDepth 100000 in
theorem mk_X8_undo : Cond.instanceMethod yX8_undo ∈ xw_tbl ∧ Cond.selects yX8_undo.cls yX8_undo yX8_undo ∈ xw_tbl := ⟨xw_inI 1288 (by decide +kernel) rfl, xw_inI 1289 (by decide +kernel) rfl⟩
set_option maxRecDepth 100000 in
theorem ml_L_75 : xk_MV RL 75 yX8_undo cX8_undo 2 (some .int) 0 := ⟨⟨mc_X8_undo.1, mc_X8_undo.2.1, mc_X8_undo.2.2.1, mc_X8_undo.2.2.2, Or.inl (xw_inI 1287 (by decide +kernel) rfl)⟩, mk_X8_undo⟩
set_option maxRecDepth 100000 in
theorem mc_X7_asTerm : Cond.code yX7_asTerm cX7_asTerm 2 (some .int) ∈ xw_tbl ∧ Cond.initialized yX7_asTerm.cls ∈ xw_tbl ∧ (yX7_asTerm.cls ≠ "java/lang/invoke/MethodHandle" ∧ yX7_asTerm.cls ≠ "java/lang/invoke/VarHandle") ∧ (parseMethodDescriptor yX7_asTerm.desc).map (fun d => d.parameters.length) = some 1 := ⟨xw_inI 789 (by decide +kernel) rfl, xw_inI 137 (by decide +kernel) rfl, by decide +kernel, by decide +kernel⟩
set_option maxRecDepth 100000 in
theorem mk_X7_asTerm : Cond.instanceMethod yX7_asTerm ∈ xw_tbl ∧ Cond.selects yX7_asTerm.cls yX7_asTerm yX7_asTerm ∈ xw_tbl := ⟨xw_inI 787 (by decide +kernel) rfl, xw_inI 788 (by decide +kernel) rfl⟩
set_option maxRecDepth 100000 in
theorem ml_L_76 : xk_MV RL 76 yX7_asTerm cX7_asTerm 2 (some .int) 1 := ⟨⟨mc_X7_asTerm.1, mc_X7_asTerm.2.1, mc_X7_asTerm.2.2.1, mc_X7_asTerm.2.2.2, Or.inl (xw_inI 786 (by decide +kernel) rfl)⟩, mk_X7_asTerm⟩
set_option maxRecDepth 100000 in
theorem mc_X8_asTerm : Cond.code yX8_asTerm cX8_asTerm 2 (some .int) ∈ xw_tbl ∧ Cond.initialized yX8_asTerm.cls ∈ xw_tbl ∧ (yX8_asTerm.cls ≠ "java/lang/invoke/MethodHandle" ∧ yX8_asTerm.cls ≠ "java/lang/invoke/VarHandle") ∧ (parseMethodDescriptor yX8_asTerm.desc).map (fun d => d.parameters.length) = some 1 := ⟨xw_inI 1360 (by decide +kernel) rfl, xw_inI 145 (by decide +kernel) rfl, by decide +kernel, by decide +kernel⟩
set_option maxRecDepth 100000 in
theorem mk_X8_asTerm : Cond.instanceMethod yX8_asTerm ∈ xw_tbl ∧ Cond.selects yX8_asTerm.cls yX8_asTerm yX8_asTerm ∈ xw_tbl := ⟨xw_inI 1358 (by decide +kernel) rfl, xw_inI 1359 (by decide +kernel) rfl⟩
set_option maxRecDepth 100000 in
theorem ml_L_79 : xk_MV RL 79 yX8_asTerm cX8_asTerm 2 (some .int) 1 := ⟨⟨mc_X8_asTerm.1, mc_X8_asTerm.2.1, mc_X8_asTerm.2.2.1, mc_X8_asTerm.2.2.2, Or.inl (xw_inI 1357 (by decide +kernel) rfl)⟩, mk_X8_asTerm⟩
set_option maxRecDepth 100000 in
theorem mc_X7_of : Cond.code yX7_of cX7_of 4 (some .int) ∈ xw_tbl ∧ Cond.initialized yX7_of.cls ∈ xw_tbl ∧ (yX7_of.cls ≠ "java/lang/invoke/MethodHandle" ∧ yX7_of.cls ≠ "java/lang/invoke/VarHandle") ∧ (parseMethodDescriptor yX7_of.desc).map (fun d => d.parameters.length) = some 2 := ⟨xw_inI 793 (by decide +kernel) rfl, xw_inI 137 (by decide +kernel) rfl, by decide +kernel, by decide +kernel⟩
set_option maxRecDepth 100000 in
theorem mk_X7_of : Cond.instanceMethod yX7_of ∈ xw_tbl ∧ Cond.selects yX7_of.cls yX7_of yX7_of ∈ xw_tbl := ⟨xw_inI 791 (by decide +kernel) rfl, xw_inI 792 (by decide +kernel) rfl⟩
set_option maxRecDepth 100000 in
theorem ml_L_80 : xk_MV RL 80 yX7_of cX7_of 4 (some .int) 2 := ⟨⟨mc_X7_of.1, mc_X7_of.2.1, mc_X7_of.2.2.1, mc_X7_of.2.2.2, Or.inl (xw_inI 790 (by decide +kernel) rfl)⟩, mk_X7_of⟩
set_option maxRecDepth 100000 in
theorem mc_X8_of : Cond.code yX8_of cX8_of 3 (some .int) ∈ xw_tbl ∧ Cond.initialized yX8_of.cls ∈ xw_tbl ∧ (yX8_of.cls ≠ "java/lang/invoke/MethodHandle" ∧ yX8_of.cls ≠ "java/lang/invoke/VarHandle") ∧ (parseMethodDescriptor yX8_of.desc).map (fun d => d.parameters.length) = some 2 := ⟨xw_inI 1364 (by decide +kernel) rfl, xw_inI 145 (by decide +kernel) rfl, by decide +kernel, by decide +kernel⟩
set_option maxRecDepth 100000 in
theorem mk_X8_of : Cond.instanceMethod yX8_of ∈ xw_tbl ∧ Cond.selects yX8_of.cls yX8_of yX8_of ∈ xw_tbl := ⟨xw_inI 1362 (by decide +kernel) rfl, xw_inI 1363 (by decide +kernel) rfl⟩
set_option maxRecDepth 100000 in
theorem ml_L_83 : xk_MV RL 83 yX8_of cX8_of 3 (some .int) 2 := ⟨⟨mc_X8_of.1, mc_X8_of.2.1, mc_X8_of.2.2.1, mc_X8_of.2.2.2, Or.inl (xw_inI 1361 (by decide +kernel) rfl)⟩, mk_X8_of⟩
set_option maxRecDepth 100000 in
theorem mc_X7_pays : Cond.code yX7_pays cX7_pays 2 (some .long) ∈ xw_tbl ∧ Cond.initialized yX7_pays.cls ∈ xw_tbl ∧ (yX7_pays.cls ≠ "java/lang/invoke/MethodHandle" ∧ yX7_pays.cls ≠ "java/lang/invoke/VarHandle") ∧ (parseMethodDescriptor yX7_pays.desc).map (fun d => d.parameters.length) = some 1 := ⟨xw_inI 797 (by decide +kernel) rfl, xw_inI 137 (by decide +kernel) rfl, by decide +kernel, by decide +kernel⟩
set_option maxRecDepth 100000 in
theorem mk_X7_pays : Cond.instanceMethod yX7_pays ∈ xw_tbl ∧ Cond.selects yX7_pays.cls yX7_pays yX7_pays ∈ xw_tbl := ⟨xw_inI 795 (by decide +kernel) rfl, xw_inI 796 (by decide +kernel) rfl⟩
set_option maxRecDepth 100000 in
theorem ml_L_84 : xk_MV RL 84 yX7_pays cX7_pays 2 (some .long) 1 := ⟨⟨mc_X7_pays.1, mc_X7_pays.2.1, mc_X7_pays.2.2.1, mc_X7_pays.2.2.2, Or.inl (xw_inI 794 (by decide +kernel) rfl)⟩, mk_X7_pays⟩
set_option maxRecDepth 100000 in
theorem mc_X8_pays : Cond.code yX8_pays cX8_pays 2 (some .long) ∈ xw_tbl ∧ Cond.initialized yX8_pays.cls ∈ xw_tbl ∧ (yX8_pays.cls ≠ "java/lang/invoke/MethodHandle" ∧ yX8_pays.cls ≠ "java/lang/invoke/VarHandle") ∧ (parseMethodDescriptor yX8_pays.desc).map (fun d => d.parameters.length) = some 1 := ⟨xw_inI 1368 (by decide +kernel) rfl, xw_inI 145 (by decide +kernel) rfl, by decide +kernel, by decide +kernel⟩
set_option maxRecDepth 100000 in
theorem mk_X8_pays : Cond.instanceMethod yX8_pays ∈ xw_tbl ∧ Cond.selects yX8_pays.cls yX8_pays yX8_pays ∈ xw_tbl := ⟨xw_inI 1366 (by decide +kernel) rfl, xw_inI 1367 (by decide +kernel) rfl⟩
set_option maxRecDepth 100000 in
theorem ml_L_88 : xk_MV RL 88 yX8_pays cX8_pays 2 (some .long) 1 := ⟨⟨mc_X8_pays.1, mc_X8_pays.2.1, mc_X8_pays.2.2.1, mc_X8_pays.2.2.2, Or.inl (xw_inI 1365 (by decide +kernel) rfl)⟩, mk_X8_pays⟩
set_option maxRecDepth 100000 in
theorem mc_X7_house : Cond.code yX7_house cX7_house 4 (some .int) ∈ xw_tbl ∧ Cond.initialized yX7_house.cls ∈ xw_tbl ∧ (yX7_house.cls ≠ "java/lang/invoke/MethodHandle" ∧ yX7_house.cls ≠ "java/lang/invoke/VarHandle") ∧ (parseMethodDescriptor yX7_house.desc).map (fun d => d.parameters.length) = some 2 := ⟨xw_inI 803 (by decide +kernel) rfl, xw_inI 137 (by decide +kernel) rfl, by decide +kernel, by decide +kernel⟩
set_option maxRecDepth 100000 in
theorem mk_X7_house : Cond.instanceMethod yX7_house ∈ xw_tbl ∧ Cond.selects yX7_house.cls yX7_house yX7_house ∈ xw_tbl := ⟨xw_inI 801 (by decide +kernel) rfl, xw_inI 802 (by decide +kernel) rfl⟩
set_option maxRecDepth 100000 in
theorem ml_L_89 : xk_MV RL 89 yX7_house cX7_house 4 (some .int) 2 := ⟨⟨mc_X7_house.1, mc_X7_house.2.1, mc_X7_house.2.2.1, mc_X7_house.2.2.2, Or.inl (xw_inI 800 (by decide +kernel) rfl)⟩, mk_X7_house⟩
set_option maxRecDepth 100000 in
theorem mc_X8_house : Cond.code yX8_house cX8_house 5 (some .int) ∈ xw_tbl ∧ Cond.initialized yX8_house.cls ∈ xw_tbl ∧ (yX8_house.cls ≠ "java/lang/invoke/MethodHandle" ∧ yX8_house.cls ≠ "java/lang/invoke/VarHandle") ∧ (parseMethodDescriptor yX8_house.desc).map (fun d => d.parameters.length) = some 2 := ⟨xw_inI 1372 (by decide +kernel) rfl, xw_inI 145 (by decide +kernel) rfl, by decide +kernel, by decide +kernel⟩
set_option maxRecDepth 100000 in
theorem mk_X8_house : Cond.instanceMethod yX8_house ∈ xw_tbl ∧ Cond.selects yX8_house.cls yX8_house yX8_house ∈ xw_tbl := ⟨xw_inI 1370 (by decide +kernel) rfl, xw_inI 1371 (by decide +kernel) rfl⟩
set_option maxRecDepth 100000 in
theorem ml_L_92 : xk_MV RL 92 yX8_house cX8_house 5 (some .int) 2 := ⟨⟨mc_X8_house.1, mc_X8_house.2.1, mc_X8_house.2.2.1, mc_X8_house.2.2.2, Or.inl (xw_inI 1369 (by decide +kernel) rfl)⟩, mk_X8_house⟩
set_option maxRecDepth 100000 in
theorem mc_X7_housePays : Cond.code yX7_housePays cX7_housePays 2 (some .long) ∈ xw_tbl ∧ Cond.initialized yX7_housePays.cls ∈ xw_tbl ∧ (yX7_housePays.cls ≠ "java/lang/invoke/MethodHandle" ∧ yX7_housePays.cls ≠ "java/lang/invoke/VarHandle") ∧ (parseMethodDescriptor yX7_housePays.desc).map (fun d => d.parameters.length) = some 1 := ⟨xw_inI 820 (by decide +kernel) rfl, xw_inI 137 (by decide +kernel) rfl, by decide +kernel, by decide +kernel⟩
set_option maxRecDepth 100000 in
theorem mk_X7_housePays : Cond.instanceMethod yX7_housePays ∈ xw_tbl ∧ Cond.selects yX7_housePays.cls yX7_housePays yX7_housePays ∈ xw_tbl := ⟨xw_inI 818 (by decide +kernel) rfl, xw_inI 819 (by decide +kernel) rfl⟩
set_option maxRecDepth 100000 in
theorem ml_L_93 : xk_MV RL 93 yX7_housePays cX7_housePays 2 (some .long) 1 := ⟨⟨mc_X7_housePays.1, mc_X7_housePays.2.1, mc_X7_housePays.2.2.1, mc_X7_housePays.2.2.2, Or.inl (xw_inI 817 (by decide +kernel) rfl)⟩, mk_X7_housePays⟩
set_option maxRecDepth 100000 in
theorem mc_X8_housePays : Cond.code yX8_housePays cX8_housePays 2 (some .long) ∈ xw_tbl ∧ Cond.initialized yX8_housePays.cls ∈ xw_tbl ∧ (yX8_housePays.cls ≠ "java/lang/invoke/MethodHandle" ∧ yX8_housePays.cls ≠ "java/lang/invoke/VarHandle") ∧ (parseMethodDescriptor yX8_housePays.desc).map (fun d => d.parameters.length) = some 1 := ⟨xw_inI 1380 (by decide +kernel) rfl, xw_inI 145 (by decide +kernel) rfl, by decide +kernel, by decide +kernel⟩
set_option maxRecDepth 100000 in
theorem mk_X8_housePays : Cond.instanceMethod yX8_housePays ∈ xw_tbl ∧ Cond.selects yX8_housePays.cls yX8_housePays yX8_housePays ∈ xw_tbl := ⟨xw_inI 1378 (by decide +kernel) rfl, xw_inI 1379 (by decide +kernel) rfl⟩
set_option maxRecDepth 100000 in
theorem ml_L_96 : xk_MV RL 96 yX8_housePays cX8_housePays 2 (some .long) 1 := ⟨⟨mc_X8_housePays.1, mc_X8_housePays.2.1, mc_X8_housePays.2.2.1, mc_X8_housePays.2.2.2, Or.inl (xw_inI 1377 (by decide +kernel) rfl)⟩, mk_X8_housePays⟩
set_option maxRecDepth 100000 in
theorem mc_X7_result : Cond.code yX7_result cX7_result 2 (some .int) ∈ xw_tbl ∧ Cond.initialized yX7_result.cls ∈ xw_tbl ∧ (yX7_result.cls ≠ "java/lang/invoke/MethodHandle" ∧ yX7_result.cls ≠ "java/lang/invoke/VarHandle") ∧ (parseMethodDescriptor yX7_result.desc).map (fun d => d.parameters.length) = some 1 := ⟨xw_inI 828 (by decide +kernel) rfl, xw_inI 137 (by decide +kernel) rfl, by decide +kernel, by decide +kernel⟩
set_option maxRecDepth 100000 in
theorem mk_X7_result : Cond.instanceMethod yX7_result ∈ xw_tbl ∧ Cond.selects yX7_result.cls yX7_result yX7_result ∈ xw_tbl := ⟨xw_inI 826 (by decide +kernel) rfl, xw_inI 827 (by decide +kernel) rfl⟩
set_option maxRecDepth 100000 in
theorem ml_L_97 : xk_MV RL 97 yX7_result cX7_result 2 (some .int) 1 := ⟨⟨mc_X7_result.1, mc_X7_result.2.1, mc_X7_result.2.2.1, mc_X7_result.2.2.2, Or.inl (xw_inI 825 (by decide +kernel) rfl)⟩, mk_X7_result⟩
set_option maxRecDepth 100000 in
theorem mc_X8_result : Cond.code yX8_result cX8_result 2 (some .int) ∈ xw_tbl ∧ Cond.initialized yX8_result.cls ∈ xw_tbl ∧ (yX8_result.cls ≠ "java/lang/invoke/MethodHandle" ∧ yX8_result.cls ≠ "java/lang/invoke/VarHandle") ∧ (parseMethodDescriptor yX8_result.desc).map (fun d => d.parameters.length) = some 1 := ⟨xw_inI 1388 (by decide +kernel) rfl, xw_inI 145 (by decide +kernel) rfl, by decide +kernel, by decide +kernel⟩
set_option maxRecDepth 100000 in
theorem mk_X8_result : Cond.instanceMethod yX8_result ∈ xw_tbl ∧ Cond.selects yX8_result.cls yX8_result yX8_result ∈ xw_tbl := ⟨xw_inI 1386 (by decide +kernel) rfl, xw_inI 1387 (by decide +kernel) rfl⟩
set_option maxRecDepth 100000 in
theorem ml_L_100 : xk_MV RL 100 yX8_result cX8_result 2 (some .int) 1 := ⟨⟨mc_X8_result.1, mc_X8_result.2.1, mc_X8_result.2.2.1, mc_X8_result.2.2.2, Or.inl (xw_inI 1385 (by decide +kernel) rfl)⟩, mk_X8_result⟩
set_option maxRecDepth 100000 in
theorem mc_X7_paid : Cond.code yX7_paid cX7_paid 1 (some .long) ∈ xw_tbl ∧ Cond.initialized yX7_paid.cls ∈ xw_tbl ∧ (yX7_paid.cls ≠ "java/lang/invoke/MethodHandle" ∧ yX7_paid.cls ≠ "java/lang/invoke/VarHandle") ∧ (parseMethodDescriptor yX7_paid.desc).map (fun d => d.parameters.length) = some 0 := ⟨xw_inI 845 (by decide +kernel) rfl, xw_inI 137 (by decide +kernel) rfl, by decide +kernel, by decide +kernel⟩
set_option maxRecDepth 100000 in
theorem mk_X7_paid : Cond.instanceMethod yX7_paid ∈ xw_tbl ∧ Cond.selects yX7_paid.cls yX7_paid yX7_paid ∈ xw_tbl := ⟨xw_inI 843 (by decide +kernel) rfl, xw_inI 844 (by decide +kernel) rfl⟩
set_option maxRecDepth 100000 in
theorem ml_L_101 : xk_MV RL 101 yX7_paid cX7_paid 1 (some .long) 0 := ⟨⟨mc_X7_paid.1, mc_X7_paid.2.1, mc_X7_paid.2.2.1, mc_X7_paid.2.2.2, Or.inl (xw_inI 842 (by decide +kernel) rfl)⟩, mk_X7_paid⟩
set_option maxRecDepth 100000 in
theorem mc_X8_paid : Cond.code yX8_paid cX8_paid 1 (some .long) ∈ xw_tbl ∧ Cond.initialized yX8_paid.cls ∈ xw_tbl ∧ (yX8_paid.cls ≠ "java/lang/invoke/MethodHandle" ∧ yX8_paid.cls ≠ "java/lang/invoke/VarHandle") ∧ (parseMethodDescriptor yX8_paid.desc).map (fun d => d.parameters.length) = some 0 := ⟨xw_inI 1403 (by decide +kernel) rfl, xw_inI 145 (by decide +kernel) rfl, by decide +kernel, by decide +kernel⟩
set_option maxRecDepth 100000 in
theorem mk_X8_paid : Cond.instanceMethod yX8_paid ∈ xw_tbl ∧ Cond.selects yX8_paid.cls yX8_paid yX8_paid ∈ xw_tbl := ⟨xw_inI 1401 (by decide +kernel) rfl, xw_inI 1402 (by decide +kernel) rfl⟩
set_option maxRecDepth 100000 in
theorem ml_L_105 : xk_MV RL 105 yX8_paid cX8_paid 1 (some .long) 0 := ⟨⟨mc_X8_paid.1, mc_X8_paid.2.1, mc_X8_paid.2.2.1, mc_X8_paid.2.2.2, Or.inl (xw_inI 1400 (by decide +kernel) rfl)⟩, mk_X8_paid⟩
set_option maxRecDepth 100000 in
theorem mc_X7_mean : Cond.code yX7_mean cX7_mean 4 (some .long) ∈ xw_tbl ∧ Cond.initialized yX7_mean.cls ∈ xw_tbl ∧ (yX7_mean.cls ≠ "java/lang/invoke/MethodHandle" ∧ yX7_mean.cls ≠ "java/lang/invoke/VarHandle") ∧ (parseMethodDescriptor yX7_mean.desc).map (fun d => d.parameters.length) = some 1 := ⟨xw_inI 849 (by decide +kernel) rfl, xw_inI 137 (by decide +kernel) rfl, by decide +kernel, by decide +kernel⟩
set_option maxRecDepth 100000 in
theorem mk_X7_mean : Cond.instanceMethod yX7_mean ∈ xw_tbl ∧ Cond.selects yX7_mean.cls yX7_mean yX7_mean ∈ xw_tbl := ⟨xw_inI 847 (by decide +kernel) rfl, xw_inI 848 (by decide +kernel) rfl⟩
set_option maxRecDepth 100000 in
theorem ml_L_106 : xk_MV RL 106 yX7_mean cX7_mean 4 (some .long) 1 := ⟨⟨mc_X7_mean.1, mc_X7_mean.2.1, mc_X7_mean.2.2.1, mc_X7_mean.2.2.2, Or.inl (xw_inI 846 (by decide +kernel) rfl)⟩, mk_X7_mean⟩
set_option maxRecDepth 100000 in
theorem mc_X8_mean : Cond.code yX8_mean cX8_mean 3 (some .long) ∈ xw_tbl ∧ Cond.initialized yX8_mean.cls ∈ xw_tbl ∧ (yX8_mean.cls ≠ "java/lang/invoke/MethodHandle" ∧ yX8_mean.cls ≠ "java/lang/invoke/VarHandle") ∧ (parseMethodDescriptor yX8_mean.desc).map (fun d => d.parameters.length) = some 1 := ⟨xw_inI 1407 (by decide +kernel) rfl, xw_inI 145 (by decide +kernel) rfl, by decide +kernel, by decide +kernel⟩
set_option maxRecDepth 100000 in
theorem mk_X8_mean : Cond.instanceMethod yX8_mean ∈ xw_tbl ∧ Cond.selects yX8_mean.cls yX8_mean yX8_mean ∈ xw_tbl := ⟨xw_inI 1405 (by decide +kernel) rfl, xw_inI 1406 (by decide +kernel) rfl⟩
set_option maxRecDepth 100000 in
theorem ml_L_109 : xk_MV RL 109 yX8_mean cX8_mean 3 (some .long) 1 := ⟨⟨mc_X8_mean.1, mc_X8_mean.2.1, mc_X8_mean.2.2.1, mc_X8_mean.2.2.2, Or.inl (xw_inI 1404 (by decide +kernel) rfl)⟩, mk_X8_mean⟩
set_option maxRecDepth 100000 in
theorem mc_X7_filled : Cond.code yX7_filled cX7_filled 2 (some .int) ∈ xw_tbl ∧ Cond.initialized yX7_filled.cls ∈ xw_tbl ∧ (yX7_filled.cls ≠ "java/lang/invoke/MethodHandle" ∧ yX7_filled.cls ≠ "java/lang/invoke/VarHandle") ∧ (parseMethodDescriptor yX7_filled.desc).map (fun d => d.parameters.length) = some 1 := ⟨xw_inI 854 (by decide +kernel) rfl, xw_inI 137 (by decide +kernel) rfl, by decide +kernel, by decide +kernel⟩
set_option maxRecDepth 100000 in
theorem mk_X7_filled : Cond.instanceMethod yX7_filled ∈ xw_tbl ∧ Cond.selects yX7_filled.cls yX7_filled yX7_filled ∈ xw_tbl := ⟨xw_inI 852 (by decide +kernel) rfl, xw_inI 853 (by decide +kernel) rfl⟩
set_option maxRecDepth 100000 in
theorem ml_L_110 : xk_MV RL 110 yX7_filled cX7_filled 2 (some .int) 1 := ⟨⟨mc_X7_filled.1, mc_X7_filled.2.1, mc_X7_filled.2.2.1, mc_X7_filled.2.2.2, Or.inl (xw_inI 851 (by decide +kernel) rfl)⟩, mk_X7_filled⟩
set_option maxRecDepth 100000 in
theorem mc_X8_filled : Cond.code yX8_filled cX8_filled 2 (some .int) ∈ xw_tbl ∧ Cond.initialized yX8_filled.cls ∈ xw_tbl ∧ (yX8_filled.cls ≠ "java/lang/invoke/MethodHandle" ∧ yX8_filled.cls ≠ "java/lang/invoke/VarHandle") ∧ (parseMethodDescriptor yX8_filled.desc).map (fun d => d.parameters.length) = some 1 := ⟨xw_inI 1412 (by decide +kernel) rfl, xw_inI 145 (by decide +kernel) rfl, by decide +kernel, by decide +kernel⟩
set_option maxRecDepth 100000 in
theorem mk_X8_filled : Cond.instanceMethod yX8_filled ∈ xw_tbl ∧ Cond.selects yX8_filled.cls yX8_filled yX8_filled ∈ xw_tbl := ⟨xw_inI 1410 (by decide +kernel) rfl, xw_inI 1411 (by decide +kernel) rfl⟩
set_option maxRecDepth 100000 in
theorem ml_L_113 : xk_MV RL 113 yX8_filled cX8_filled 2 (some .int) 1 := ⟨⟨mc_X8_filled.1, mc_X8_filled.2.1, mc_X8_filled.2.2.1, mc_X8_filled.2.2.2, Or.inl (xw_inI 1409 (by decide +kernel) rfl)⟩, mk_X8_filled⟩
set_option maxRecDepth 100000 in
theorem mc_X7_dearest : Cond.code yX7_dearest cX7_dearest 8 (some .int) ∈ xw_tbl ∧ Cond.initialized yX7_dearest.cls ∈ xw_tbl ∧ (yX7_dearest.cls ≠ "java/lang/invoke/MethodHandle" ∧ yX7_dearest.cls ≠ "java/lang/invoke/VarHandle") ∧ (parseMethodDescriptor yX7_dearest.desc).map (fun d => d.parameters.length) = some 0 := ⟨xw_inI 858 (by decide +kernel) rfl, xw_inI 137 (by decide +kernel) rfl, by decide +kernel, by decide +kernel⟩
set_option maxRecDepth 100000 in
theorem mk_X7_dearest : Cond.instanceMethod yX7_dearest ∈ xw_tbl ∧ Cond.selects yX7_dearest.cls yX7_dearest yX7_dearest ∈ xw_tbl := ⟨xw_inI 856 (by decide +kernel) rfl, xw_inI 857 (by decide +kernel) rfl⟩
set_option maxRecDepth 100000 in
theorem ml_L_114 : xk_MV RL 114 yX7_dearest cX7_dearest 8 (some .int) 0 := ⟨⟨mc_X7_dearest.1, mc_X7_dearest.2.1, mc_X7_dearest.2.2.1, mc_X7_dearest.2.2.2, Or.inl (xw_inI 855 (by decide +kernel) rfl)⟩, mk_X7_dearest⟩
set_option maxRecDepth 100000 in
theorem mc_X8_dearest : Cond.code yX8_dearest cX8_dearest 5 (some .int) ∈ xw_tbl ∧ Cond.initialized yX8_dearest.cls ∈ xw_tbl ∧ (yX8_dearest.cls ≠ "java/lang/invoke/MethodHandle" ∧ yX8_dearest.cls ≠ "java/lang/invoke/VarHandle") ∧ (parseMethodDescriptor yX8_dearest.desc).map (fun d => d.parameters.length) = some 0 := ⟨xw_inI 1416 (by decide +kernel) rfl, xw_inI 145 (by decide +kernel) rfl, by decide +kernel, by decide +kernel⟩
set_option maxRecDepth 100000 in
theorem mk_X8_dearest : Cond.instanceMethod yX8_dearest ∈ xw_tbl ∧ Cond.selects yX8_dearest.cls yX8_dearest yX8_dearest ∈ xw_tbl := ⟨xw_inI 1414 (by decide +kernel) rfl, xw_inI 1415 (by decide +kernel) rfl⟩
set_option maxRecDepth 100000 in
theorem ml_L_117 : xk_MV RL 117 yX8_dearest cX8_dearest 5 (some .int) 0 := ⟨⟨mc_X8_dearest.1, mc_X8_dearest.2.1, mc_X8_dearest.2.2.1, mc_X8_dearest.2.2.2, Or.inl (xw_inI 1413 (by decide +kernel) rfl)⟩, mk_X8_dearest⟩
set_option maxRecDepth 100000 in
theorem mc_X7_price : Cond.code yX7_price cX7_price 2 (some .int) ∈ xw_tbl ∧ Cond.initialized yX7_price.cls ∈ xw_tbl ∧ (yX7_price.cls ≠ "java/lang/invoke/MethodHandle" ∧ yX7_price.cls ≠ "java/lang/invoke/VarHandle") ∧ (parseMethodDescriptor yX7_price.desc).map (fun d => d.parameters.length) = some 1 := ⟨xw_inI 862 (by decide +kernel) rfl, xw_inI 137 (by decide +kernel) rfl, by decide +kernel, by decide +kernel⟩
set_option maxRecDepth 100000 in
theorem mk_X7_price : Cond.instanceMethod yX7_price ∈ xw_tbl ∧ Cond.selects yX7_price.cls yX7_price yX7_price ∈ xw_tbl := ⟨xw_inI 860 (by decide +kernel) rfl, xw_inI 861 (by decide +kernel) rfl⟩
set_option maxRecDepth 100000 in
theorem ml_L_118 : xk_MV RL 118 yX7_price cX7_price 2 (some .int) 1 := ⟨⟨mc_X7_price.1, mc_X7_price.2.1, mc_X7_price.2.2.1, mc_X7_price.2.2.2, Or.inl (xw_inI 859 (by decide +kernel) rfl)⟩, mk_X7_price⟩
set_option maxRecDepth 100000 in
theorem mc_X8_price : Cond.code yX8_price cX8_price 2 (some .int) ∈ xw_tbl ∧ Cond.initialized yX8_price.cls ∈ xw_tbl ∧ (yX8_price.cls ≠ "java/lang/invoke/MethodHandle" ∧ yX8_price.cls ≠ "java/lang/invoke/VarHandle") ∧ (parseMethodDescriptor yX8_price.desc).map (fun d => d.parameters.length) = some 1 := ⟨xw_inI 1420 (by decide +kernel) rfl, xw_inI 145 (by decide +kernel) rfl, by decide +kernel, by decide +kernel⟩
set_option maxRecDepth 100000 in
theorem mk_X8_price : Cond.instanceMethod yX8_price ∈ xw_tbl ∧ Cond.selects yX8_price.cls yX8_price yX8_price ∈ xw_tbl := ⟨xw_inI 1418 (by decide +kernel) rfl, xw_inI 1419 (by decide +kernel) rfl⟩
set_option maxRecDepth 100000 in
theorem ml_L_121 : xk_MV RL 121 yX8_price cX8_price 2 (some .int) 1 := ⟨⟨mc_X8_price.1, mc_X8_price.2.1, mc_X8_price.2.2.1, mc_X8_price.2.2.2, Or.inl (xw_inI 1417 (by decide +kernel) rfl)⟩, mk_X8_price⟩
set_option maxRecDepth 100000 in
theorem mc_X7_upTo : Cond.code yX7_upTo cX7_upTo 2 (some .int) ∈ xw_tbl ∧ Cond.initialized yX7_upTo.cls ∈ xw_tbl ∧ (yX7_upTo.cls ≠ "java/lang/invoke/MethodHandle" ∧ yX7_upTo.cls ≠ "java/lang/invoke/VarHandle") ∧ (parseMethodDescriptor yX7_upTo.desc).map (fun d => d.parameters.length) = some 1 := ⟨xw_inI 867 (by decide +kernel) rfl, xw_inI 137 (by decide +kernel) rfl, by decide +kernel, by decide +kernel⟩
set_option maxRecDepth 100000 in
theorem mk_X7_upTo : Cond.instanceMethod yX7_upTo ∈ xw_tbl ∧ Cond.selects yX7_upTo.cls yX7_upTo yX7_upTo ∈ xw_tbl := ⟨xw_inI 865 (by decide +kernel) rfl, xw_inI 866 (by decide +kernel) rfl⟩
set_option maxRecDepth 100000 in
theorem ml_L_122 : xk_MV RL 122 yX7_upTo cX7_upTo 2 (some .int) 1 := ⟨⟨mc_X7_upTo.1, mc_X7_upTo.2.1, mc_X7_upTo.2.2.1, mc_X7_upTo.2.2.2, Or.inl (xw_inI 864 (by decide +kernel) rfl)⟩, mk_X7_upTo⟩
set_option maxRecDepth 100000 in
theorem mc_X8_upTo : Cond.code yX8_upTo cX8_upTo 2 (some .int) ∈ xw_tbl ∧ Cond.initialized yX8_upTo.cls ∈ xw_tbl ∧ (yX8_upTo.cls ≠ "java/lang/invoke/MethodHandle" ∧ yX8_upTo.cls ≠ "java/lang/invoke/VarHandle") ∧ (parseMethodDescriptor yX8_upTo.desc).map (fun d => d.parameters.length) = some 1 := ⟨xw_inI 1424 (by decide +kernel) rfl, xw_inI 145 (by decide +kernel) rfl, by decide +kernel, by decide +kernel⟩
set_option maxRecDepth 100000 in
theorem mk_X8_upTo : Cond.instanceMethod yX8_upTo ∈ xw_tbl ∧ Cond.selects yX8_upTo.cls yX8_upTo yX8_upTo ∈ xw_tbl := ⟨xw_inI 1422 (by decide +kernel) rfl, xw_inI 1423 (by decide +kernel) rfl⟩
set_option maxRecDepth 100000 in
theorem ml_L_125 : xk_MV RL 125 yX8_upTo cX8_upTo 2 (some .int) 1 := ⟨⟨mc_X8_upTo.1, mc_X8_upTo.2.1, mc_X8_upTo.2.2.1, mc_X8_upTo.2.2.2, Or.inl (xw_inI 1421 (by decide +kernel) rfl)⟩, mk_X8_upTo⟩
set_option maxRecDepth 100000 in
theorem mc_X7_ranked : Cond.code yX7_ranked cX7_ranked 2 (some .int) ∈ xw_tbl ∧ Cond.initialized yX7_ranked.cls ∈ xw_tbl ∧ (yX7_ranked.cls ≠ "java/lang/invoke/MethodHandle" ∧ yX7_ranked.cls ≠ "java/lang/invoke/VarHandle") ∧ (parseMethodDescriptor yX7_ranked.desc).map (fun d => d.parameters.length) = some 1 := ⟨xw_inI 875 (by decide +kernel) rfl, xw_inI 137 (by decide +kernel) rfl, by decide +kernel, by decide +kernel⟩
set_option maxRecDepth 100000 in
theorem mk_X7_ranked : Cond.instanceMethod yX7_ranked ∈ xw_tbl ∧ Cond.selects yX7_ranked.cls yX7_ranked yX7_ranked ∈ xw_tbl := ⟨xw_inI 873 (by decide +kernel) rfl, xw_inI 874 (by decide +kernel) rfl⟩
set_option maxRecDepth 100000 in
theorem ml_L_126 : xk_MV RL 126 yX7_ranked cX7_ranked 2 (some .int) 1 := ⟨⟨mc_X7_ranked.1, mc_X7_ranked.2.1, mc_X7_ranked.2.2.1, mc_X7_ranked.2.2.2, Or.inl (xw_inI 872 (by decide +kernel) rfl)⟩, mk_X7_ranked⟩
set_option maxRecDepth 100000 in
theorem mc_X8_ranked : Cond.code yX8_ranked cX8_ranked 2 (some .int) ∈ xw_tbl ∧ Cond.initialized yX8_ranked.cls ∈ xw_tbl ∧ (yX8_ranked.cls ≠ "java/lang/invoke/MethodHandle" ∧ yX8_ranked.cls ≠ "java/lang/invoke/VarHandle") ∧ (parseMethodDescriptor yX8_ranked.desc).map (fun d => d.parameters.length) = some 1 := ⟨xw_inI 1428 (by decide +kernel) rfl, xw_inI 145 (by decide +kernel) rfl, by decide +kernel, by decide +kernel⟩
set_option maxRecDepth 100000 in
theorem mk_X8_ranked : Cond.instanceMethod yX8_ranked ∈ xw_tbl ∧ Cond.selects yX8_ranked.cls yX8_ranked yX8_ranked ∈ xw_tbl := ⟨xw_inI 1426 (by decide +kernel) rfl, xw_inI 1427 (by decide +kernel) rfl⟩
set_option maxRecDepth 100000 in
theorem ml_L_129 : xk_MV RL 129 yX8_ranked cX8_ranked 2 (some .int) 1 := ⟨⟨mc_X8_ranked.1, mc_X8_ranked.2.1, mc_X8_ranked.2.2.1, mc_X8_ranked.2.2.2, Or.inl (xw_inI 1425 (by decide +kernel) rfl)⟩, mk_X8_ranked⟩
set_option maxRecDepth 100000 in
theorem mc_X7_full : Cond.code yX7_full cX7_full 5 (some .int) ∈ xw_tbl ∧ Cond.initialized yX7_full.cls ∈ xw_tbl ∧ (yX7_full.cls ≠ "java/lang/invoke/MethodHandle" ∧ yX7_full.cls ≠ "java/lang/invoke/VarHandle") ∧ (parseMethodDescriptor yX7_full.desc).map (fun d => d.parameters.length) = some 0 := ⟨xw_inI 879 (by decide +kernel) rfl, xw_inI 137 (by decide +kernel) rfl, by decide +kernel, by decide +kernel⟩
set_option maxRecDepth 100000 in
theorem mk_X7_full : Cond.instanceMethod yX7_full ∈ xw_tbl ∧ Cond.selects yX7_full.cls yX7_full yX7_full ∈ xw_tbl := ⟨xw_inI 877 (by decide +kernel) rfl, xw_inI 878 (by decide +kernel) rfl⟩
set_option maxRecDepth 100000 in
theorem ml_L_130 : xk_MV RL 130 yX7_full cX7_full 5 (some .int) 0 := ⟨⟨mc_X7_full.1, mc_X7_full.2.1, mc_X7_full.2.2.1, mc_X7_full.2.2.2, Or.inl (xw_inI 876 (by decide +kernel) rfl)⟩, mk_X7_full⟩
set_option maxRecDepth 100000 in
theorem mc_X8_full : Cond.code yX8_full cX8_full 5 (some .int) ∈ xw_tbl ∧ Cond.initialized yX8_full.cls ∈ xw_tbl ∧ (yX8_full.cls ≠ "java/lang/invoke/MethodHandle" ∧ yX8_full.cls ≠ "java/lang/invoke/VarHandle") ∧ (parseMethodDescriptor yX8_full.desc).map (fun d => d.parameters.length) = some 0 := ⟨xw_inI 1432 (by decide +kernel) rfl, xw_inI 145 (by decide +kernel) rfl, by decide +kernel, by decide +kernel⟩
set_option maxRecDepth 100000 in
theorem mk_X8_full : Cond.instanceMethod yX8_full ∈ xw_tbl ∧ Cond.selects yX8_full.cls yX8_full yX8_full ∈ xw_tbl := ⟨xw_inI 1430 (by decide +kernel) rfl, xw_inI 1431 (by decide +kernel) rfl⟩
set_option maxRecDepth 100000 in
theorem ml_L_133 : xk_MV RL 133 yX8_full cX8_full 5 (some .int) 0 := ⟨⟨mc_X8_full.1, mc_X8_full.2.1, mc_X8_full.2.2.1, mc_X8_full.2.2.2, Or.inl (xw_inI 1429 (by decide +kernel) rfl)⟩, mk_X8_full⟩
set_option maxRecDepth 100000 in
theorem mc_X7_crowded : Cond.code yX7_crowded cX7_crowded 6 (some .int) ∈ xw_tbl ∧ Cond.initialized yX7_crowded.cls ∈ xw_tbl ∧ (yX7_crowded.cls ≠ "java/lang/invoke/MethodHandle" ∧ yX7_crowded.cls ≠ "java/lang/invoke/VarHandle") ∧ (parseMethodDescriptor yX7_crowded.desc).map (fun d => d.parameters.length) = some 0 := ⟨xw_inI 887 (by decide +kernel) rfl, xw_inI 137 (by decide +kernel) rfl, by decide +kernel, by decide +kernel⟩
set_option maxRecDepth 100000 in
theorem mk_X7_crowded : Cond.instanceMethod yX7_crowded ∈ xw_tbl ∧ Cond.selects yX7_crowded.cls yX7_crowded yX7_crowded ∈ xw_tbl := ⟨xw_inI 885 (by decide +kernel) rfl, xw_inI 886 (by decide +kernel) rfl⟩
set_option maxRecDepth 100000 in
theorem ml_L_134 : xk_MV RL 134 yX7_crowded cX7_crowded 6 (some .int) 0 := ⟨⟨mc_X7_crowded.1, mc_X7_crowded.2.1, mc_X7_crowded.2.2.1, mc_X7_crowded.2.2.2, Or.inl (xw_inI 884 (by decide +kernel) rfl)⟩, mk_X7_crowded⟩
set_option maxRecDepth 100000 in
theorem mc_X8_crowded : Cond.code yX8_crowded cX8_crowded 5 (some .int) ∈ xw_tbl ∧ Cond.initialized yX8_crowded.cls ∈ xw_tbl ∧ (yX8_crowded.cls ≠ "java/lang/invoke/MethodHandle" ∧ yX8_crowded.cls ≠ "java/lang/invoke/VarHandle") ∧ (parseMethodDescriptor yX8_crowded.desc).map (fun d => d.parameters.length) = some 0 := ⟨xw_inI 1436 (by decide +kernel) rfl, xw_inI 145 (by decide +kernel) rfl, by decide +kernel, by decide +kernel⟩
set_option maxRecDepth 100000 in
theorem mk_X8_crowded : Cond.instanceMethod yX8_crowded ∈ xw_tbl ∧ Cond.selects yX8_crowded.cls yX8_crowded yX8_crowded ∈ xw_tbl := ⟨xw_inI 1434 (by decide +kernel) rfl, xw_inI 1435 (by decide +kernel) rfl⟩
set_option maxRecDepth 100000 in
theorem ml_L_137 : xk_MV RL 137 yX8_crowded cX8_crowded 5 (some .int) 0 := ⟨⟨mc_X8_crowded.1, mc_X8_crowded.2.1, mc_X8_crowded.2.2.1, mc_X8_crowded.2.2.2, Or.inl (xw_inI 1433 (by decide +kernel) rfl)⟩, mk_X8_crowded⟩
set_option maxRecDepth 100000 in
theorem mc_X7_step : Cond.code yX7_step cX7_step 5 (some .int) ∈ xw_tbl ∧ Cond.initialized yX7_step.cls ∈ xw_tbl ∧ (yX7_step.cls ≠ "java/lang/invoke/MethodHandle" ∧ yX7_step.cls ≠ "java/lang/invoke/VarHandle") ∧ (parseMethodDescriptor yX7_step.desc).map (fun d => d.parameters.length) = some 2 := ⟨xw_inI 891 (by decide +kernel) rfl, xw_inI 137 (by decide +kernel) rfl, by decide +kernel, by decide +kernel⟩
set_option maxRecDepth 100000 in
theorem mk_X7_step : Cond.instanceMethod yX7_step ∈ xw_tbl ∧ Cond.selects yX7_step.cls yX7_step yX7_step ∈ xw_tbl := ⟨xw_inI 889 (by decide +kernel) rfl, xw_inI 890 (by decide +kernel) rfl⟩
set_option maxRecDepth 100000 in
theorem ml_L_138 : xk_MV RL 138 yX7_step cX7_step 5 (some .int) 2 := ⟨⟨mc_X7_step.1, mc_X7_step.2.1, mc_X7_step.2.2.1, mc_X7_step.2.2.2, Or.inl (xw_inI 888 (by decide +kernel) rfl)⟩, mk_X7_step⟩
set_option maxRecDepth 100000 in
theorem mc_X8_step : Cond.code yX8_step cX8_step 8 (some .int) ∈ xw_tbl ∧ Cond.initialized yX8_step.cls ∈ xw_tbl ∧ (yX8_step.cls ≠ "java/lang/invoke/MethodHandle" ∧ yX8_step.cls ≠ "java/lang/invoke/VarHandle") ∧ (parseMethodDescriptor yX8_step.desc).map (fun d => d.parameters.length) = some 2 := ⟨xw_inI 1440 (by decide +kernel) rfl, xw_inI 145 (by decide +kernel) rfl, by decide +kernel, by decide +kernel⟩
set_option maxRecDepth 100000 in
theorem mk_X8_step : Cond.instanceMethod yX8_step ∈ xw_tbl ∧ Cond.selects yX8_step.cls yX8_step yX8_step ∈ xw_tbl := ⟨xw_inI 1438 (by decide +kernel) rfl, xw_inI 1439 (by decide +kernel) rfl⟩
set_option maxRecDepth 100000 in
theorem ml_L_141 : xk_MV RL 141 yX8_step cX8_step 8 (some .int) 2 := ⟨⟨mc_X8_step.1, mc_X8_step.2.1, mc_X8_step.2.2.1, mc_X8_step.2.2.2, Or.inl (xw_inI 1437 (by decide +kernel) rfl)⟩, mk_X8_step⟩
set_option maxRecDepth 100000 in
theorem mc_X7_byOffer : Cond.code yX7_byOffer cX7_byOffer 3 (some .int) ∈ xw_tbl ∧ Cond.initialized yX7_byOffer.cls ∈ xw_tbl ∧ (yX7_byOffer.cls ≠ "java/lang/invoke/MethodHandle" ∧ yX7_byOffer.cls ≠ "java/lang/invoke/VarHandle") ∧ (parseMethodDescriptor yX7_byOffer.desc).map (fun d => d.parameters.length) = some 2 := ⟨xw_inI 908 (by decide +kernel) rfl, xw_inI 137 (by decide +kernel) rfl, by decide +kernel, by decide +kernel⟩
set_option maxRecDepth 100000 in
theorem mk_X7_byOffer : Cond.instanceMethod yX7_byOffer ∈ xw_tbl ∧ Cond.selects yX7_byOffer.cls yX7_byOffer yX7_byOffer ∈ xw_tbl := ⟨xw_inI 906 (by decide +kernel) rfl, xw_inI 907 (by decide +kernel) rfl⟩
set_option maxRecDepth 100000 in
theorem ml_L_142 : xk_MV RL 142 yX7_byOffer cX7_byOffer 3 (some .int) 2 := ⟨⟨mc_X7_byOffer.1, mc_X7_byOffer.2.1, mc_X7_byOffer.2.2.1, mc_X7_byOffer.2.2.2, Or.inl (xw_inI 905 (by decide +kernel) rfl)⟩, mk_X7_byOffer⟩
set_option maxRecDepth 100000 in
theorem mc_X8_byOffer : Cond.code yX8_byOffer cX8_byOffer 3 (some .int) ∈ xw_tbl ∧ Cond.initialized yX8_byOffer.cls ∈ xw_tbl ∧ (yX8_byOffer.cls ≠ "java/lang/invoke/MethodHandle" ∧ yX8_byOffer.cls ≠ "java/lang/invoke/VarHandle") ∧ (parseMethodDescriptor yX8_byOffer.desc).map (fun d => d.parameters.length) = some 2 := ⟨xw_inI 1448 (by decide +kernel) rfl, xw_inI 145 (by decide +kernel) rfl, by decide +kernel, by decide +kernel⟩
set_option maxRecDepth 100000 in
theorem mk_X8_byOffer : Cond.instanceMethod yX8_byOffer ∈ xw_tbl ∧ Cond.selects yX8_byOffer.cls yX8_byOffer yX8_byOffer ∈ xw_tbl := ⟨xw_inI 1446 (by decide +kernel) rfl, xw_inI 1447 (by decide +kernel) rfl⟩
set_option maxRecDepth 100000 in
theorem ml_L_145 : xk_MV RL 145 yX8_byOffer cX8_byOffer 3 (some .int) 2 := ⟨⟨mc_X8_byOffer.1, mc_X8_byOffer.2.1, mc_X8_byOffer.2.2.1, mc_X8_byOffer.2.2.2, Or.inl (xw_inI 1445 (by decide +kernel) rfl)⟩, mk_X8_byOffer⟩
set_option maxRecDepth 100000 in
theorem mc_X7_offerFor : Cond.code yX7_offerFor cX7_offerFor 3 (some .int) ∈ xw_tbl ∧ Cond.initialized yX7_offerFor.cls ∈ xw_tbl ∧ (yX7_offerFor.cls ≠ "java/lang/invoke/MethodHandle" ∧ yX7_offerFor.cls ≠ "java/lang/invoke/VarHandle") ∧ (parseMethodDescriptor yX7_offerFor.desc).map (fun d => d.parameters.length) = some 1 := ⟨xw_inI 920 (by decide +kernel) rfl, xw_inI 137 (by decide +kernel) rfl, by decide +kernel, by decide +kernel⟩
set_option maxRecDepth 100000 in
theorem mk_X7_offerFor : Cond.instanceMethod yX7_offerFor ∈ xw_tbl ∧ Cond.selects yX7_offerFor.cls yX7_offerFor yX7_offerFor ∈ xw_tbl := ⟨xw_inI 918 (by decide +kernel) rfl, xw_inI 919 (by decide +kernel) rfl⟩
set_option maxRecDepth 100000 in
theorem ml_L_146 : xk_MV RL 146 yX7_offerFor cX7_offerFor 3 (some .int) 1 := ⟨⟨mc_X7_offerFor.1, mc_X7_offerFor.2.1, mc_X7_offerFor.2.2.1, mc_X7_offerFor.2.2.2, Or.inl (xw_inI 917 (by decide +kernel) rfl)⟩, mk_X7_offerFor⟩
set_option maxRecDepth 100000 in
theorem mc_X8_offerFor : Cond.code yX8_offerFor cX8_offerFor 3 (some .int) ∈ xw_tbl ∧ Cond.initialized yX8_offerFor.cls ∈ xw_tbl ∧ (yX8_offerFor.cls ≠ "java/lang/invoke/MethodHandle" ∧ yX8_offerFor.cls ≠ "java/lang/invoke/VarHandle") ∧ (parseMethodDescriptor yX8_offerFor.desc).map (fun d => d.parameters.length) = some 1 := ⟨xw_inI 1456 (by decide +kernel) rfl, xw_inI 145 (by decide +kernel) rfl, by decide +kernel, by decide +kernel⟩
set_option maxRecDepth 100000 in
theorem mk_X8_offerFor : Cond.instanceMethod yX8_offerFor ∈ xw_tbl ∧ Cond.selects yX8_offerFor.cls yX8_offerFor yX8_offerFor ∈ xw_tbl := ⟨xw_inI 1454 (by decide +kernel) rfl, xw_inI 1455 (by decide +kernel) rfl⟩
set_option maxRecDepth 100000 in
theorem ml_L_149 : xk_MV RL 149 yX8_offerFor cX8_offerFor 3 (some .int) 1 := ⟨⟨mc_X8_offerFor.1, mc_X8_offerFor.2.1, mc_X8_offerFor.2.2.1, mc_X8_offerFor.2.2.2, Or.inl (xw_inI 1453 (by decide +kernel) rfl)⟩, mk_X8_offerFor⟩
set_option maxRecDepth 100000 in
theorem mc_X7_byTerm : Cond.code yX7_byTerm cX7_byTerm 4 (some .int) ∈ xw_tbl ∧ Cond.initialized yX7_byTerm.cls ∈ xw_tbl ∧ (yX7_byTerm.cls ≠ "java/lang/invoke/MethodHandle" ∧ yX7_byTerm.cls ≠ "java/lang/invoke/VarHandle") ∧ (parseMethodDescriptor yX7_byTerm.desc).map (fun d => d.parameters.length) = some 3 := ⟨xw_inI 928 (by decide +kernel) rfl, xw_inI 137 (by decide +kernel) rfl, by decide +kernel, by decide +kernel⟩
set_option maxRecDepth 100000 in
theorem mk_X7_byTerm : Cond.instanceMethod yX7_byTerm ∈ xw_tbl ∧ Cond.selects yX7_byTerm.cls yX7_byTerm yX7_byTerm ∈ xw_tbl := ⟨xw_inI 926 (by decide +kernel) rfl, xw_inI 927 (by decide +kernel) rfl⟩
set_option maxRecDepth 100000 in
theorem ml_L_150 : xk_MV RL 150 yX7_byTerm cX7_byTerm 4 (some .int) 3 := ⟨⟨mc_X7_byTerm.1, mc_X7_byTerm.2.1, mc_X7_byTerm.2.2.1, mc_X7_byTerm.2.2.2, Or.inl (xw_inI 925 (by decide +kernel) rfl)⟩, mk_X7_byTerm⟩
set_option maxRecDepth 100000 in
theorem mc_X8_byTerm : Cond.code yX8_byTerm cX8_byTerm 4 (some .int) ∈ xw_tbl ∧ Cond.initialized yX8_byTerm.cls ∈ xw_tbl ∧ (yX8_byTerm.cls ≠ "java/lang/invoke/MethodHandle" ∧ yX8_byTerm.cls ≠ "java/lang/invoke/VarHandle") ∧ (parseMethodDescriptor yX8_byTerm.desc).map (fun d => d.parameters.length) = some 3 := ⟨xw_inI 1460 (by decide +kernel) rfl, xw_inI 145 (by decide +kernel) rfl, by decide +kernel, by decide +kernel⟩
set_option maxRecDepth 100000 in
theorem mk_X8_byTerm : Cond.instanceMethod yX8_byTerm ∈ xw_tbl ∧ Cond.selects yX8_byTerm.cls yX8_byTerm yX8_byTerm ∈ xw_tbl := ⟨xw_inI 1458 (by decide +kernel) rfl, xw_inI 1459 (by decide +kernel) rfl⟩
set_option maxRecDepth 100000 in
theorem ml_L_153 : xk_MV RL 153 yX8_byTerm cX8_byTerm 4 (some .int) 3 := ⟨⟨mc_X8_byTerm.1, mc_X8_byTerm.2.1, mc_X8_byTerm.2.2.1, mc_X8_byTerm.2.2.2, Or.inl (xw_inI 1457 (by decide +kernel) rfl)⟩, mk_X8_byTerm⟩
set_option maxRecDepth 100000 in
theorem mc_X7_limitFor : Cond.code yX7_limitFor cX7_limitFor 4 (some .int) ∈ xw_tbl ∧ Cond.initialized yX7_limitFor.cls ∈ xw_tbl ∧ (yX7_limitFor.cls ≠ "java/lang/invoke/MethodHandle" ∧ yX7_limitFor.cls ≠ "java/lang/invoke/VarHandle") ∧ (parseMethodDescriptor yX7_limitFor.desc).map (fun d => d.parameters.length) = some 2 := ⟨xw_inI 932 (by decide +kernel) rfl, xw_inI 137 (by decide +kernel) rfl, by decide +kernel, by decide +kernel⟩
set_option maxRecDepth 100000 in
theorem mk_X7_limitFor : Cond.instanceMethod yX7_limitFor ∈ xw_tbl ∧ Cond.selects yX7_limitFor.cls yX7_limitFor yX7_limitFor ∈ xw_tbl := ⟨xw_inI 930 (by decide +kernel) rfl, xw_inI 931 (by decide +kernel) rfl⟩
set_option maxRecDepth 100000 in
theorem ml_L_154 : xk_MV RL 154 yX7_limitFor cX7_limitFor 4 (some .int) 2 := ⟨⟨mc_X7_limitFor.1, mc_X7_limitFor.2.1, mc_X7_limitFor.2.2.1, mc_X7_limitFor.2.2.2, Or.inl (xw_inI 929 (by decide +kernel) rfl)⟩, mk_X7_limitFor⟩
set_option maxRecDepth 100000 in
theorem mc_X8_limitFor : Cond.code yX8_limitFor cX8_limitFor 6 (some .int) ∈ xw_tbl ∧ Cond.initialized yX8_limitFor.cls ∈ xw_tbl ∧ (yX8_limitFor.cls ≠ "java/lang/invoke/MethodHandle" ∧ yX8_limitFor.cls ≠ "java/lang/invoke/VarHandle") ∧ (parseMethodDescriptor yX8_limitFor.desc).map (fun d => d.parameters.length) = some 2 := ⟨xw_inI 1464 (by decide +kernel) rfl, xw_inI 145 (by decide +kernel) rfl, by decide +kernel, by decide +kernel⟩
set_option maxRecDepth 100000 in
theorem mk_X8_limitFor : Cond.instanceMethod yX8_limitFor ∈ xw_tbl ∧ Cond.selects yX8_limitFor.cls yX8_limitFor yX8_limitFor ∈ xw_tbl := ⟨xw_inI 1462 (by decide +kernel) rfl, xw_inI 1463 (by decide +kernel) rfl⟩
set_option maxRecDepth 100000 in
theorem ml_L_157 : xk_MV RL 157 yX8_limitFor cX8_limitFor 6 (some .int) 2 := ⟨⟨mc_X8_limitFor.1, mc_X8_limitFor.2.1, mc_X8_limitFor.2.2.1, mc_X8_limitFor.2.2.2, Or.inl (xw_inI 1461 (by decide +kernel) rfl)⟩, mk_X8_limitFor⟩
set_option maxRecDepth 100000 in
theorem mc_X7_shareFor : Cond.code yX7_shareFor cX7_shareFor 3 (some .int) ∈ xw_tbl ∧ Cond.initialized yX7_shareFor.cls ∈ xw_tbl ∧ (yX7_shareFor.cls ≠ "java/lang/invoke/MethodHandle" ∧ yX7_shareFor.cls ≠ "java/lang/invoke/VarHandle") ∧ (parseMethodDescriptor yX7_shareFor.desc).map (fun d => d.parameters.length) = some 1 := ⟨xw_inI 938 (by decide +kernel) rfl, xw_inI 137 (by decide +kernel) rfl, by decide +kernel, by decide +kernel⟩
set_option maxRecDepth 100000 in
theorem mk_X7_shareFor : Cond.instanceMethod yX7_shareFor ∈ xw_tbl ∧ Cond.selects yX7_shareFor.cls yX7_shareFor yX7_shareFor ∈ xw_tbl := ⟨xw_inI 936 (by decide +kernel) rfl, xw_inI 937 (by decide +kernel) rfl⟩
set_option maxRecDepth 100000 in
theorem ml_L_158 : xk_MV RL 158 yX7_shareFor cX7_shareFor 3 (some .int) 1 := ⟨⟨mc_X7_shareFor.1, mc_X7_shareFor.2.1, mc_X7_shareFor.2.2.1, mc_X7_shareFor.2.2.2, Or.inl (xw_inI 935 (by decide +kernel) rfl)⟩, mk_X7_shareFor⟩
set_option maxRecDepth 100000 in
theorem mc_X8_shareFor : Cond.code yX8_shareFor cX8_shareFor 3 (some .int) ∈ xw_tbl ∧ Cond.initialized yX8_shareFor.cls ∈ xw_tbl ∧ (yX8_shareFor.cls ≠ "java/lang/invoke/MethodHandle" ∧ yX8_shareFor.cls ≠ "java/lang/invoke/VarHandle") ∧ (parseMethodDescriptor yX8_shareFor.desc).map (fun d => d.parameters.length) = some 1 := ⟨xw_inI 1468 (by decide +kernel) rfl, xw_inI 145 (by decide +kernel) rfl, by decide +kernel, by decide +kernel⟩
set_option maxRecDepth 100000 in
theorem mk_X8_shareFor : Cond.instanceMethod yX8_shareFor ∈ xw_tbl ∧ Cond.selects yX8_shareFor.cls yX8_shareFor yX8_shareFor ∈ xw_tbl := ⟨xw_inI 1466 (by decide +kernel) rfl, xw_inI 1467 (by decide +kernel) rfl⟩
set_option maxRecDepth 100000 in
theorem ml_L_161 : xk_MV RL 161 yX8_shareFor cX8_shareFor 3 (some .int) 1 := ⟨⟨mc_X8_shareFor.1, mc_X8_shareFor.2.1, mc_X8_shareFor.2.2.1, mc_X8_shareFor.2.2.2, Or.inl (xw_inI 1465 (by decide +kernel) rfl)⟩, mk_X8_shareFor⟩
set_option maxRecDepth 100000 in
theorem mc_X7_lotsFor : Cond.code yX7_lotsFor cX7_lotsFor 4 (some .int) ∈ xw_tbl ∧ Cond.initialized yX7_lotsFor.cls ∈ xw_tbl ∧ (yX7_lotsFor.cls ≠ "java/lang/invoke/MethodHandle" ∧ yX7_lotsFor.cls ≠ "java/lang/invoke/VarHandle") ∧ (parseMethodDescriptor yX7_lotsFor.desc).map (fun d => d.parameters.length) = some 2 := ⟨xw_inI 942 (by decide +kernel) rfl, xw_inI 137 (by decide +kernel) rfl, by decide +kernel, by decide +kernel⟩
set_option maxRecDepth 100000 in
theorem mk_X7_lotsFor : Cond.instanceMethod yX7_lotsFor ∈ xw_tbl ∧ Cond.selects yX7_lotsFor.cls yX7_lotsFor yX7_lotsFor ∈ xw_tbl := ⟨xw_inI 940 (by decide +kernel) rfl, xw_inI 941 (by decide +kernel) rfl⟩
set_option maxRecDepth 100000 in
theorem ml_L_162 : xk_MV RL 162 yX7_lotsFor cX7_lotsFor 4 (some .int) 2 := ⟨⟨mc_X7_lotsFor.1, mc_X7_lotsFor.2.1, mc_X7_lotsFor.2.2.1, mc_X7_lotsFor.2.2.2, Or.inl (xw_inI 939 (by decide +kernel) rfl)⟩, mk_X7_lotsFor⟩
set_option maxRecDepth 100000 in
theorem mc_X8_lotsFor : Cond.code yX8_lotsFor cX8_lotsFor 4 (some .int) ∈ xw_tbl ∧ Cond.initialized yX8_lotsFor.cls ∈ xw_tbl ∧ (yX8_lotsFor.cls ≠ "java/lang/invoke/MethodHandle" ∧ yX8_lotsFor.cls ≠ "java/lang/invoke/VarHandle") ∧ (parseMethodDescriptor yX8_lotsFor.desc).map (fun d => d.parameters.length) = some 2 := ⟨xw_inI 1472 (by decide +kernel) rfl, xw_inI 145 (by decide +kernel) rfl, by decide +kernel, by decide +kernel⟩
set_option maxRecDepth 100000 in
theorem mk_X8_lotsFor : Cond.instanceMethod yX8_lotsFor ∈ xw_tbl ∧ Cond.selects yX8_lotsFor.cls yX8_lotsFor yX8_lotsFor ∈ xw_tbl := ⟨xw_inI 1470 (by decide +kernel) rfl, xw_inI 1471 (by decide +kernel) rfl⟩
set_option maxRecDepth 100000 in
theorem ml_L_165 : xk_MV RL 165 yX8_lotsFor cX8_lotsFor 4 (some .int) 2 := ⟨⟨mc_X8_lotsFor.1, mc_X8_lotsFor.2.1, mc_X8_lotsFor.2.2.1, mc_X8_lotsFor.2.2.2, Or.inl (xw_inI 1469 (by decide +kernel) rfl)⟩, mk_X8_lotsFor⟩
set_option maxRecDepth 100000 in
theorem mc_X7_bestOffer : Cond.code yX7_bestOffer cX7_bestOffer 7 (some .int) ∈ xw_tbl ∧ Cond.initialized yX7_bestOffer.cls ∈ xw_tbl ∧ (yX7_bestOffer.cls ≠ "java/lang/invoke/MethodHandle" ∧ yX7_bestOffer.cls ≠ "java/lang/invoke/VarHandle") ∧ (parseMethodDescriptor yX7_bestOffer.desc).map (fun d => d.parameters.length) = some 0 := ⟨xw_inI 946 (by decide +kernel) rfl, xw_inI 137 (by decide +kernel) rfl, by decide +kernel, by decide +kernel⟩
set_option maxRecDepth 100000 in
theorem mk_X7_bestOffer : Cond.instanceMethod yX7_bestOffer ∈ xw_tbl ∧ Cond.selects yX7_bestOffer.cls yX7_bestOffer yX7_bestOffer ∈ xw_tbl := ⟨xw_inI 944 (by decide +kernel) rfl, xw_inI 945 (by decide +kernel) rfl⟩
set_option maxRecDepth 100000 in
theorem ml_L_166 : xk_MV RL 166 yX7_bestOffer cX7_bestOffer 7 (some .int) 0 := ⟨⟨mc_X7_bestOffer.1, mc_X7_bestOffer.2.1, mc_X7_bestOffer.2.2.1, mc_X7_bestOffer.2.2.2, Or.inl (xw_inI 943 (by decide +kernel) rfl)⟩, mk_X7_bestOffer⟩
set_option maxRecDepth 100000 in
theorem mc_X8_bestOffer : Cond.code yX8_bestOffer cX8_bestOffer 8 (some .int) ∈ xw_tbl ∧ Cond.initialized yX8_bestOffer.cls ∈ xw_tbl ∧ (yX8_bestOffer.cls ≠ "java/lang/invoke/MethodHandle" ∧ yX8_bestOffer.cls ≠ "java/lang/invoke/VarHandle") ∧ (parseMethodDescriptor yX8_bestOffer.desc).map (fun d => d.parameters.length) = some 0 := ⟨xw_inI 1480 (by decide +kernel) rfl, xw_inI 145 (by decide +kernel) rfl, by decide +kernel, by decide +kernel⟩
set_option maxRecDepth 100000 in
theorem mk_X8_bestOffer : Cond.instanceMethod yX8_bestOffer ∈ xw_tbl ∧ Cond.selects yX8_bestOffer.cls yX8_bestOffer yX8_bestOffer ∈ xw_tbl := ⟨xw_inI 1478 (by decide +kernel) rfl, xw_inI 1479 (by decide +kernel) rfl⟩
set_option maxRecDepth 100000 in
theorem ml_L_169 : xk_MV RL 169 yX8_bestOffer cX8_bestOffer 8 (some .int) 0 := ⟨⟨mc_X8_bestOffer.1, mc_X8_bestOffer.2.1, mc_X8_bestOffer.2.2.1, mc_X8_bestOffer.2.2.2, Or.inl (xw_inI 1477 (by decide +kernel) rfl)⟩, mk_X8_bestOffer⟩
set_option maxRecDepth 100000 in
theorem mc_X7_paidBy : Cond.code yX7_paidBy cX7_paidBy 2 (some .long) ∈ xw_tbl ∧ Cond.initialized yX7_paidBy.cls ∈ xw_tbl ∧ (yX7_paidBy.cls ≠ "java/lang/invoke/MethodHandle" ∧ yX7_paidBy.cls ≠ "java/lang/invoke/VarHandle") ∧ (parseMethodDescriptor yX7_paidBy.desc).map (fun d => d.parameters.length) = some 1 := ⟨xw_inI 950 (by decide +kernel) rfl, xw_inI 137 (by decide +kernel) rfl, by decide +kernel, by decide +kernel⟩
set_option maxRecDepth 100000 in
theorem mk_X7_paidBy : Cond.instanceMethod yX7_paidBy ∈ xw_tbl ∧ Cond.selects yX7_paidBy.cls yX7_paidBy yX7_paidBy ∈ xw_tbl := ⟨xw_inI 948 (by decide +kernel) rfl, xw_inI 949 (by decide +kernel) rfl⟩
set_option maxRecDepth 100000 in
theorem ml_L_170 : xk_MV RL 170 yX7_paidBy cX7_paidBy 2 (some .long) 1 := ⟨⟨mc_X7_paidBy.1, mc_X7_paidBy.2.1, mc_X7_paidBy.2.2.1, mc_X7_paidBy.2.2.2, Or.inl (xw_inI 947 (by decide +kernel) rfl)⟩, mk_X7_paidBy⟩
set_option maxRecDepth 100000 in
theorem mc_X8_paidBy : Cond.code yX8_paidBy cX8_paidBy 5 (some .long) ∈ xw_tbl ∧ Cond.initialized yX8_paidBy.cls ∈ xw_tbl ∧ (yX8_paidBy.cls ≠ "java/lang/invoke/MethodHandle" ∧ yX8_paidBy.cls ≠ "java/lang/invoke/VarHandle") ∧ (parseMethodDescriptor yX8_paidBy.desc).map (fun d => d.parameters.length) = some 1 := ⟨xw_inI 1484 (by decide +kernel) rfl, xw_inI 145 (by decide +kernel) rfl, by decide +kernel, by decide +kernel⟩
set_option maxRecDepth 100000 in
theorem mk_X8_paidBy : Cond.instanceMethod yX8_paidBy ∈ xw_tbl ∧ Cond.selects yX8_paidBy.cls yX8_paidBy yX8_paidBy ∈ xw_tbl := ⟨xw_inI 1482 (by decide +kernel) rfl, xw_inI 1483 (by decide +kernel) rfl⟩
set_option maxRecDepth 100000 in
theorem ml_L_173 : xk_MV RL 173 yX8_paidBy cX8_paidBy 5 (some .long) 1 := ⟨⟨mc_X8_paidBy.1, mc_X8_paidBy.2.1, mc_X8_paidBy.2.2.1, mc_X8_paidBy.2.2.2, Or.inl (xw_inI 1481 (by decide +kernel) rfl)⟩, mk_X8_paidBy⟩
set_option maxRecDepth 100000 in
theorem mc_X7_soldAt : Cond.code yX7_soldAt cX7_soldAt 3 (some .int) ∈ xw_tbl ∧ Cond.initialized yX7_soldAt.cls ∈ xw_tbl ∧ (yX7_soldAt.cls ≠ "java/lang/invoke/MethodHandle" ∧ yX7_soldAt.cls ≠ "java/lang/invoke/VarHandle") ∧ (parseMethodDescriptor yX7_soldAt.desc).map (fun d => d.parameters.length) = some 2 := ⟨xw_inI 954 (by decide +kernel) rfl, xw_inI 137 (by decide +kernel) rfl, by decide +kernel, by decide +kernel⟩
set_option maxRecDepth 100000 in
theorem mk_X7_soldAt : Cond.instanceMethod yX7_soldAt ∈ xw_tbl ∧ Cond.selects yX7_soldAt.cls yX7_soldAt yX7_soldAt ∈ xw_tbl := ⟨xw_inI 952 (by decide +kernel) rfl, xw_inI 953 (by decide +kernel) rfl⟩
set_option maxRecDepth 100000 in
theorem ml_L_174 : xk_MV RL 174 yX7_soldAt cX7_soldAt 3 (some .int) 2 := ⟨⟨mc_X7_soldAt.1, mc_X7_soldAt.2.1, mc_X7_soldAt.2.2.1, mc_X7_soldAt.2.2.2, Or.inl (xw_inI 951 (by decide +kernel) rfl)⟩, mk_X7_soldAt⟩
set_option maxRecDepth 100000 in
theorem mc_X8_soldAt : Cond.code yX8_soldAt cX8_soldAt 3 (some .int) ∈ xw_tbl ∧ Cond.initialized yX8_soldAt.cls ∈ xw_tbl ∧ (yX8_soldAt.cls ≠ "java/lang/invoke/MethodHandle" ∧ yX8_soldAt.cls ≠ "java/lang/invoke/VarHandle") ∧ (parseMethodDescriptor yX8_soldAt.desc).map (fun d => d.parameters.length) = some 2 := ⟨xw_inI 1488 (by decide +kernel) rfl, xw_inI 145 (by decide +kernel) rfl, by decide +kernel, by decide +kernel⟩
set_option maxRecDepth 100000 in
theorem mk_X8_soldAt : Cond.instanceMethod yX8_soldAt ∈ xw_tbl ∧ Cond.selects yX8_soldAt.cls yX8_soldAt yX8_soldAt ∈ xw_tbl := ⟨xw_inI 1486 (by decide +kernel) rfl, xw_inI 1487 (by decide +kernel) rfl⟩
set_option maxRecDepth 100000 in
theorem ml_L_177 : xk_MV RL 177 yX8_soldAt cX8_soldAt 3 (some .int) 2 := ⟨⟨mc_X8_soldAt.1, mc_X8_soldAt.2.1, mc_X8_soldAt.2.2.1, mc_X8_soldAt.2.2.2, Or.inl (xw_inI 1485 (by decide +kernel) rfl)⟩, mk_X8_soldAt⟩
set_option maxRecDepth 100000 in
theorem mc_X7_yieldFor : Cond.code yX7_yieldFor cX7_yieldFor 4 (some .int) ∈ xw_tbl ∧ Cond.initialized yX7_yieldFor.cls ∈ xw_tbl ∧ (yX7_yieldFor.cls ≠ "java/lang/invoke/MethodHandle" ∧ yX7_yieldFor.cls ≠ "java/lang/invoke/VarHandle") ∧ (parseMethodDescriptor yX7_yieldFor.desc).map (fun d => d.parameters.length) = some 2 := ⟨xw_inI 962 (by decide +kernel) rfl, xw_inI 137 (by decide +kernel) rfl, by decide +kernel, by decide +kernel⟩
set_option maxRecDepth 100000 in
theorem mk_X7_yieldFor : Cond.instanceMethod yX7_yieldFor ∈ xw_tbl ∧ Cond.selects yX7_yieldFor.cls yX7_yieldFor yX7_yieldFor ∈ xw_tbl := ⟨xw_inI 960 (by decide +kernel) rfl, xw_inI 961 (by decide +kernel) rfl⟩
set_option maxRecDepth 100000 in
theorem ml_L_178 : xk_MV RL 178 yX7_yieldFor cX7_yieldFor 4 (some .int) 2 := ⟨⟨mc_X7_yieldFor.1, mc_X7_yieldFor.2.1, mc_X7_yieldFor.2.2.1, mc_X7_yieldFor.2.2.2, Or.inl (xw_inI 959 (by decide +kernel) rfl)⟩, mk_X7_yieldFor⟩
set_option maxRecDepth 100000 in
theorem mc_X8_yieldFor : Cond.code yX8_yieldFor cX8_yieldFor 4 (some .int) ∈ xw_tbl ∧ Cond.initialized yX8_yieldFor.cls ∈ xw_tbl ∧ (yX8_yieldFor.cls ≠ "java/lang/invoke/MethodHandle" ∧ yX8_yieldFor.cls ≠ "java/lang/invoke/VarHandle") ∧ (parseMethodDescriptor yX8_yieldFor.desc).map (fun d => d.parameters.length) = some 2 := ⟨xw_inI 1492 (by decide +kernel) rfl, xw_inI 145 (by decide +kernel) rfl, by decide +kernel, by decide +kernel⟩
set_option maxRecDepth 100000 in
theorem mk_X8_yieldFor : Cond.instanceMethod yX8_yieldFor ∈ xw_tbl ∧ Cond.selects yX8_yieldFor.cls yX8_yieldFor yX8_yieldFor ∈ xw_tbl := ⟨xw_inI 1490 (by decide +kernel) rfl, xw_inI 1491 (by decide +kernel) rfl⟩
set_option maxRecDepth 100000 in
theorem ml_L_181 : xk_MV RL 181 yX8_yieldFor cX8_yieldFor 4 (some .int) 2 := ⟨⟨mc_X8_yieldFor.1, mc_X8_yieldFor.2.1, mc_X8_yieldFor.2.2.1, mc_X8_yieldFor.2.2.2, Or.inl (xw_inI 1489 (by decide +kernel) rfl)⟩, mk_X8_yieldFor⟩
set_option maxRecDepth 100000 in
theorem mc_X7_soldAllAt : Cond.code yX7_soldAllAt cX7_soldAllAt 4 (some .int) ∈ xw_tbl ∧ Cond.initialized yX7_soldAllAt.cls ∈ xw_tbl ∧ (yX7_soldAllAt.cls ≠ "java/lang/invoke/MethodHandle" ∧ yX7_soldAllAt.cls ≠ "java/lang/invoke/VarHandle") ∧ (parseMethodDescriptor yX7_soldAllAt.desc).map (fun d => d.parameters.length) = some 2 := ⟨xw_inI 966 (by decide +kernel) rfl, xw_inI 137 (by decide +kernel) rfl, by decide +kernel, by decide +kernel⟩
set_option maxRecDepth 100000 in
theorem mk_X7_soldAllAt : Cond.instanceMethod yX7_soldAllAt ∈ xw_tbl ∧ Cond.selects yX7_soldAllAt.cls yX7_soldAllAt yX7_soldAllAt ∈ xw_tbl := ⟨xw_inI 964 (by decide +kernel) rfl, xw_inI 965 (by decide +kernel) rfl⟩
set_option maxRecDepth 100000 in
theorem ml_L_182 : xk_MV RL 182 yX7_soldAllAt cX7_soldAllAt 4 (some .int) 2 := ⟨⟨mc_X7_soldAllAt.1, mc_X7_soldAllAt.2.1, mc_X7_soldAllAt.2.2.1, mc_X7_soldAllAt.2.2.2, Or.inl (xw_inI 963 (by decide +kernel) rfl)⟩, mk_X7_soldAllAt⟩
set_option maxRecDepth 100000 in
theorem mc_X8_soldAllAt : Cond.code yX8_soldAllAt cX8_soldAllAt 4 (some .int) ∈ xw_tbl ∧ Cond.initialized yX8_soldAllAt.cls ∈ xw_tbl ∧ (yX8_soldAllAt.cls ≠ "java/lang/invoke/MethodHandle" ∧ yX8_soldAllAt.cls ≠ "java/lang/invoke/VarHandle") ∧ (parseMethodDescriptor yX8_soldAllAt.desc).map (fun d => d.parameters.length) = some 2 := ⟨xw_inI 1496 (by decide +kernel) rfl, xw_inI 145 (by decide +kernel) rfl, by decide +kernel, by decide +kernel⟩
set_option maxRecDepth 100000 in
theorem mk_X8_soldAllAt : Cond.instanceMethod yX8_soldAllAt ∈ xw_tbl ∧ Cond.selects yX8_soldAllAt.cls yX8_soldAllAt yX8_soldAllAt ∈ xw_tbl := ⟨xw_inI 1494 (by decide +kernel) rfl, xw_inI 1495 (by decide +kernel) rfl⟩
set_option maxRecDepth 100000 in
theorem ml_L_185 : xk_MV RL 185 yX8_soldAllAt cX8_soldAllAt 4 (some .int) 2 := ⟨⟨mc_X8_soldAllAt.1, mc_X8_soldAllAt.2.1, mc_X8_soldAllAt.2.2.1, mc_X8_soldAllAt.2.2.2, Or.inl (xw_inI 1493 (by decide +kernel) rfl)⟩, mk_X8_soldAllAt⟩
set_option maxRecDepth 100000 in
theorem mc_X7_stopWithout : Cond.code yX7_stopWithout cX7_stopWithout 2 (some .int) ∈ xw_tbl ∧ Cond.initialized yX7_stopWithout.cls ∈ xw_tbl ∧ (yX7_stopWithout.cls ≠ "java/lang/invoke/MethodHandle" ∧ yX7_stopWithout.cls ≠ "java/lang/invoke/VarHandle") ∧ (parseMethodDescriptor yX7_stopWithout.desc).map (fun d => d.parameters.length) = some 1 := ⟨xw_inI 970 (by decide +kernel) rfl, xw_inI 137 (by decide +kernel) rfl, by decide +kernel, by decide +kernel⟩
set_option maxRecDepth 100000 in
theorem mk_X7_stopWithout : Cond.instanceMethod yX7_stopWithout ∈ xw_tbl ∧ Cond.selects yX7_stopWithout.cls yX7_stopWithout yX7_stopWithout ∈ xw_tbl := ⟨xw_inI 968 (by decide +kernel) rfl, xw_inI 969 (by decide +kernel) rfl⟩
set_option maxRecDepth 100000 in
theorem ml_L_186 : xk_MV RL 186 yX7_stopWithout cX7_stopWithout 2 (some .int) 1 := ⟨⟨mc_X7_stopWithout.1, mc_X7_stopWithout.2.1, mc_X7_stopWithout.2.2.1, mc_X7_stopWithout.2.2.2, Or.inl (xw_inI 967 (by decide +kernel) rfl)⟩, mk_X7_stopWithout⟩
set_option maxRecDepth 100000 in
theorem mc_X8_stopWithout : Cond.code yX8_stopWithout cX8_stopWithout 2 (some .int) ∈ xw_tbl ∧ Cond.initialized yX8_stopWithout.cls ∈ xw_tbl ∧ (yX8_stopWithout.cls ≠ "java/lang/invoke/MethodHandle" ∧ yX8_stopWithout.cls ≠ "java/lang/invoke/VarHandle") ∧ (parseMethodDescriptor yX8_stopWithout.desc).map (fun d => d.parameters.length) = some 1 := ⟨xw_inI 1508 (by decide +kernel) rfl, xw_inI 145 (by decide +kernel) rfl, by decide +kernel, by decide +kernel⟩
set_option maxRecDepth 100000 in
theorem mk_X8_stopWithout : Cond.instanceMethod yX8_stopWithout ∈ xw_tbl ∧ Cond.selects yX8_stopWithout.cls yX8_stopWithout yX8_stopWithout ∈ xw_tbl := ⟨xw_inI 1506 (by decide +kernel) rfl, xw_inI 1507 (by decide +kernel) rfl⟩
set_option maxRecDepth 100000 in
theorem ml_L_189 : xk_MV RL 189 yX8_stopWithout cX8_stopWithout 2 (some .int) 1 := ⟨⟨mc_X8_stopWithout.1, mc_X8_stopWithout.2.1, mc_X8_stopWithout.2.2.1, mc_X8_stopWithout.2.2.2, Or.inl (xw_inI 1505 (by decide +kernel) rfl)⟩, mk_X8_stopWithout⟩
set_option maxRecDepth 100000 in
theorem mc_X7_pivot : Cond.code yX7_pivot cX7_pivot 5 (some .int) ∈ xw_tbl ∧ Cond.initialized yX7_pivot.cls ∈ xw_tbl ∧ (yX7_pivot.cls ≠ "java/lang/invoke/MethodHandle" ∧ yX7_pivot.cls ≠ "java/lang/invoke/VarHandle") ∧ (parseMethodDescriptor yX7_pivot.desc).map (fun d => d.parameters.length) = some 0 := ⟨xw_inI 974 (by decide +kernel) rfl, xw_inI 137 (by decide +kernel) rfl, by decide +kernel, by decide +kernel⟩
set_option maxRecDepth 100000 in
theorem mk_X7_pivot : Cond.instanceMethod yX7_pivot ∈ xw_tbl ∧ Cond.selects yX7_pivot.cls yX7_pivot yX7_pivot ∈ xw_tbl := ⟨xw_inI 972 (by decide +kernel) rfl, xw_inI 973 (by decide +kernel) rfl⟩
set_option maxRecDepth 100000 in
theorem ml_L_190 : xk_MV RL 190 yX7_pivot cX7_pivot 5 (some .int) 0 := ⟨⟨mc_X7_pivot.1, mc_X7_pivot.2.1, mc_X7_pivot.2.2.1, mc_X7_pivot.2.2.2, Or.inl (xw_inI 971 (by decide +kernel) rfl)⟩, mk_X7_pivot⟩
set_option maxRecDepth 100000 in
theorem mc_X8_pivot : Cond.code yX8_pivot cX8_pivot 5 (some .int) ∈ xw_tbl ∧ Cond.initialized yX8_pivot.cls ∈ xw_tbl ∧ (yX8_pivot.cls ≠ "java/lang/invoke/MethodHandle" ∧ yX8_pivot.cls ≠ "java/lang/invoke/VarHandle") ∧ (parseMethodDescriptor yX8_pivot.desc).map (fun d => d.parameters.length) = some 0 := ⟨xw_inI 1512 (by decide +kernel) rfl, xw_inI 145 (by decide +kernel) rfl, by decide +kernel, by decide +kernel⟩
set_option maxRecDepth 100000 in
theorem mk_X8_pivot : Cond.instanceMethod yX8_pivot ∈ xw_tbl ∧ Cond.selects yX8_pivot.cls yX8_pivot yX8_pivot ∈ xw_tbl := ⟨xw_inI 1510 (by decide +kernel) rfl, xw_inI 1511 (by decide +kernel) rfl⟩
set_option maxRecDepth 100000 in
theorem ml_L_193 : xk_MV RL 193 yX8_pivot cX8_pivot 5 (some .int) 0 := ⟨⟨mc_X8_pivot.1, mc_X8_pivot.2.1, mc_X8_pivot.2.2.1, mc_X8_pivot.2.2.2, Or.inl (xw_inI 1509 (by decide +kernel) rfl)⟩, mk_X8_pivot⟩
set_option maxRecDepth 100000 in
theorem mc_X7_record : Cond.code yX7_record cX7_record 4 (some .int) ∈ xw_tbl ∧ Cond.initialized yX7_record.cls ∈ xw_tbl ∧ (yX7_record.cls ≠ "java/lang/invoke/MethodHandle" ∧ yX7_record.cls ≠ "java/lang/invoke/VarHandle") ∧ (parseMethodDescriptor yX7_record.desc).map (fun d => d.parameters.length) = some 2 := ⟨xw_inI 982 (by decide +kernel) rfl, xw_inI 137 (by decide +kernel) rfl, by decide +kernel, by decide +kernel⟩
set_option maxRecDepth 100000 in
theorem mk_X7_record : Cond.instanceMethod yX7_record ∈ xw_tbl ∧ Cond.selects yX7_record.cls yX7_record yX7_record ∈ xw_tbl := ⟨xw_inI 980 (by decide +kernel) rfl, xw_inI 981 (by decide +kernel) rfl⟩
set_option maxRecDepth 100000 in
theorem ml_L_194 : xk_MV RL 194 yX7_record cX7_record 4 (some .int) 2 := ⟨⟨mc_X7_record.1, mc_X7_record.2.1, mc_X7_record.2.2.1, mc_X7_record.2.2.2, Or.inl (xw_inI 979 (by decide +kernel) rfl)⟩, mk_X7_record⟩
set_option maxRecDepth 100000 in
theorem mc_X8_record : Cond.code yX8_record cX8_record 3 (some .int) ∈ xw_tbl ∧ Cond.initialized yX8_record.cls ∈ xw_tbl ∧ (yX8_record.cls ≠ "java/lang/invoke/MethodHandle" ∧ yX8_record.cls ≠ "java/lang/invoke/VarHandle") ∧ (parseMethodDescriptor yX8_record.desc).map (fun d => d.parameters.length) = some 2 := ⟨xw_inI 1343 (by decide +kernel) rfl, xw_inI 145 (by decide +kernel) rfl, by decide +kernel, by decide +kernel⟩
set_option maxRecDepth 100000 in
theorem mk_X8_record : Cond.instanceMethod yX8_record ∈ xw_tbl ∧ Cond.selects yX8_record.cls yX8_record yX8_record ∈ xw_tbl := ⟨xw_inI 1341 (by decide +kernel) rfl, xw_inI 1342 (by decide +kernel) rfl⟩
set_option maxRecDepth 100000 in
theorem ml_L_197 : xk_MV RL 197 yX8_record cX8_record 3 (some .int) 2 := ⟨⟨mc_X8_record.1, mc_X8_record.2.1, mc_X8_record.2.2.1, mc_X8_record.2.2.2, Or.inl (xw_inI 1340 (by decide +kernel) rfl)⟩, mk_X8_record⟩
set_option maxRecDepth 100000 in
theorem mc_X7_records : Cond.code yX7_records cX7_records 2 (some .int) ∈ xw_tbl ∧ Cond.initialized yX7_records.cls ∈ xw_tbl ∧ (yX7_records.cls ≠ "java/lang/invoke/MethodHandle" ∧ yX7_records.cls ≠ "java/lang/invoke/VarHandle") ∧ (parseMethodDescriptor yX7_records.desc).map (fun d => d.parameters.length) = some 1 := ⟨xw_inI 990 (by decide +kernel) rfl, xw_inI 137 (by decide +kernel) rfl, by decide +kernel, by decide +kernel⟩
set_option maxRecDepth 100000 in
theorem mk_X7_records : Cond.instanceMethod yX7_records ∈ xw_tbl ∧ Cond.selects yX7_records.cls yX7_records yX7_records ∈ xw_tbl := ⟨xw_inI 988 (by decide +kernel) rfl, xw_inI 989 (by decide +kernel) rfl⟩
set_option maxRecDepth 100000 in
theorem ml_L_198 : xk_MV RL 198 yX7_records cX7_records 2 (some .int) 1 := ⟨⟨mc_X7_records.1, mc_X7_records.2.1, mc_X7_records.2.2.1, mc_X7_records.2.2.2, Or.inl (xw_inI 987 (by decide +kernel) rfl)⟩, mk_X7_records⟩
set_option maxRecDepth 100000 in
theorem mc_X8_records : Cond.code yX8_records cX8_records 9 (some .int) ∈ xw_tbl ∧ Cond.initialized yX8_records.cls ∈ xw_tbl ∧ (yX8_records.cls ≠ "java/lang/invoke/MethodHandle" ∧ yX8_records.cls ≠ "java/lang/invoke/VarHandle") ∧ (parseMethodDescriptor yX8_records.desc).map (fun d => d.parameters.length) = some 1 := ⟨xw_inI 1356 (by decide +kernel) rfl, xw_inI 145 (by decide +kernel) rfl, by decide +kernel, by decide +kernel⟩
set_option maxRecDepth 100000 in
theorem mk_X8_records : Cond.instanceMethod yX8_records ∈ xw_tbl ∧ Cond.selects yX8_records.cls yX8_records yX8_records ∈ xw_tbl := ⟨xw_inI 1354 (by decide +kernel) rfl, xw_inI 1355 (by decide +kernel) rfl⟩
set_option maxRecDepth 100000 in
theorem ml_L_201 : xk_MV RL 201 yX8_records cX8_records 9 (some .int) 1 := ⟨⟨mc_X8_records.1, mc_X8_records.2.1, mc_X8_records.2.2.1, mc_X8_records.2.2.2, Or.inl (xw_inI 1353 (by decide +kernel) rfl)⟩, mk_X8_records⟩
set_option maxRecDepth 100000 in
theorem mc_X7_recordPaid : Cond.code yX7_recordPaid cX7_recordPaid 2 (some .long) ∈ xw_tbl ∧ Cond.initialized yX7_recordPaid.cls ∈ xw_tbl ∧ (yX7_recordPaid.cls ≠ "java/lang/invoke/MethodHandle" ∧ yX7_recordPaid.cls ≠ "java/lang/invoke/VarHandle") ∧ (parseMethodDescriptor yX7_recordPaid.desc).map (fun d => d.parameters.length) = some 1 := ⟨xw_inI 1011 (by decide +kernel) rfl, xw_inI 137 (by decide +kernel) rfl, by decide +kernel, by decide +kernel⟩
set_option maxRecDepth 100000 in
theorem mk_X7_recordPaid : Cond.instanceMethod yX7_recordPaid ∈ xw_tbl ∧ Cond.selects yX7_recordPaid.cls yX7_recordPaid yX7_recordPaid ∈ xw_tbl := ⟨xw_inI 1009 (by decide +kernel) rfl, xw_inI 1010 (by decide +kernel) rfl⟩
set_option maxRecDepth 100000 in
theorem ml_L_202 : xk_MV RL 202 yX7_recordPaid cX7_recordPaid 2 (some .long) 1 := ⟨⟨mc_X7_recordPaid.1, mc_X7_recordPaid.2.1, mc_X7_recordPaid.2.2.1, mc_X7_recordPaid.2.2.2, Or.inl (xw_inI 1008 (by decide +kernel) rfl)⟩, mk_X7_recordPaid⟩
set_option maxRecDepth 100000 in
theorem mc_X8_recordPaid : Cond.code yX8_recordPaid cX8_recordPaid 2 (some .long) ∈ xw_tbl ∧ Cond.initialized yX8_recordPaid.cls ∈ xw_tbl ∧ (yX8_recordPaid.cls ≠ "java/lang/invoke/MethodHandle" ∧ yX8_recordPaid.cls ≠ "java/lang/invoke/VarHandle") ∧ (parseMethodDescriptor yX8_recordPaid.desc).map (fun d => d.parameters.length) = some 1 := ⟨xw_inI 1351 (by decide +kernel) rfl, xw_inI 145 (by decide +kernel) rfl, by decide +kernel, by decide +kernel⟩
set_option maxRecDepth 100000 in
theorem mk_X8_recordPaid : Cond.instanceMethod yX8_recordPaid ∈ xw_tbl ∧ Cond.selects yX8_recordPaid.cls yX8_recordPaid yX8_recordPaid ∈ xw_tbl := ⟨xw_inI 1349 (by decide +kernel) rfl, xw_inI 1350 (by decide +kernel) rfl⟩
set_option maxRecDepth 100000 in
theorem ml_L_205 : xk_MV RL 205 yX8_recordPaid cX8_recordPaid 2 (some .long) 1 := ⟨⟨mc_X8_recordPaid.1, mc_X8_recordPaid.2.1, mc_X8_recordPaid.2.2.1, mc_X8_recordPaid.2.2.2, Or.inl (xw_inI 1348 (by decide +kernel) rfl)⟩, mk_X8_recordPaid⟩
set_option maxRecDepth 100000 in
theorem mc_X7_spell : Cond.code yX7_spell cX7_spell 2 (some .int) ∈ xw_tbl ∧ Cond.initialized yX7_spell.cls ∈ xw_tbl ∧ (yX7_spell.cls ≠ "java/lang/invoke/MethodHandle" ∧ yX7_spell.cls ≠ "java/lang/invoke/VarHandle") ∧ (parseMethodDescriptor yX7_spell.desc).map (fun d => d.parameters.length) = some 1 := ⟨xw_inI 1015 (by decide +kernel) rfl, xw_inI 137 (by decide +kernel) rfl, by decide +kernel, by decide +kernel⟩
set_option maxRecDepth 100000 in
theorem mk_X7_spell : Cond.instanceMethod yX7_spell ∈ xw_tbl ∧ Cond.selects yX7_spell.cls yX7_spell yX7_spell ∈ xw_tbl := ⟨xw_inI 1013 (by decide +kernel) rfl, xw_inI 1014 (by decide +kernel) rfl⟩
set_option maxRecDepth 100000 in
theorem ml_L_206 : xk_MV RL 206 yX7_spell cX7_spell 2 (some .int) 1 := ⟨⟨mc_X7_spell.1, mc_X7_spell.2.1, mc_X7_spell.2.2.1, mc_X7_spell.2.2.2, Or.inl (xw_inI 1012 (by decide +kernel) rfl)⟩, mk_X7_spell⟩
set_option maxRecDepth 100000 in
theorem mc_X8_spell : Cond.code yX8_spell cX8_spell 2 (some .int) ∈ xw_tbl ∧ Cond.initialized yX8_spell.cls ∈ xw_tbl ∧ (yX8_spell.cls ≠ "java/lang/invoke/MethodHandle" ∧ yX8_spell.cls ≠ "java/lang/invoke/VarHandle") ∧ (parseMethodDescriptor yX8_spell.desc).map (fun d => d.parameters.length) = some 1 := ⟨xw_inI 1516 (by decide +kernel) rfl, xw_inI 145 (by decide +kernel) rfl, by decide +kernel, by decide +kernel⟩
set_option maxRecDepth 100000 in
theorem mk_X8_spell : Cond.instanceMethod yX8_spell ∈ xw_tbl ∧ Cond.selects yX8_spell.cls yX8_spell yX8_spell ∈ xw_tbl := ⟨xw_inI 1514 (by decide +kernel) rfl, xw_inI 1515 (by decide +kernel) rfl⟩
set_option maxRecDepth 100000 in
theorem ml_L_209 : xk_MV RL 209 yX8_spell cX8_spell 2 (some .int) 1 := ⟨⟨mc_X8_spell.1, mc_X8_spell.2.1, mc_X8_spell.2.2.1, mc_X8_spell.2.2.2, Or.inl (xw_inI 1513 (by decide +kernel) rfl)⟩, mk_X8_spell⟩
set_option maxRecDepth 100000 in
theorem mc_X7_count : Cond.code yX7_count cX7_count 2 (some .int) ∈ xw_tbl ∧ Cond.initialized yX7_count.cls ∈ xw_tbl ∧ (yX7_count.cls ≠ "java/lang/invoke/MethodHandle" ∧ yX7_count.cls ≠ "java/lang/invoke/VarHandle") ∧ (parseMethodDescriptor yX7_count.desc).map (fun d => d.parameters.length) = some 1 := ⟨xw_inI 1064 (by decide +kernel) rfl, xw_inI 137 (by decide +kernel) rfl, by decide +kernel, by decide +kernel⟩
set_option maxRecDepth 100000 in
theorem mk_X7_count : Cond.instanceMethod yX7_count ∈ xw_tbl ∧ Cond.selects yX7_count.cls yX7_count yX7_count ∈ xw_tbl := ⟨xw_inI 1062 (by decide +kernel) rfl, xw_inI 1063 (by decide +kernel) rfl⟩
set_option maxRecDepth 100000 in
theorem ml_L_210 : xk_MV RL 210 yX7_count cX7_count 2 (some .int) 1 := ⟨⟨mc_X7_count.1, mc_X7_count.2.1, mc_X7_count.2.2.1, mc_X7_count.2.2.2, Or.inl (xw_inI 1061 (by decide +kernel) rfl)⟩, mk_X7_count⟩
set_option maxRecDepth 100000 in
theorem mc_X8_count : Cond.code yX8_count cX8_count 4 (some .int) ∈ xw_tbl ∧ Cond.initialized yX8_count.cls ∈ xw_tbl ∧ (yX8_count.cls ≠ "java/lang/invoke/MethodHandle" ∧ yX8_count.cls ≠ "java/lang/invoke/VarHandle") ∧ (parseMethodDescriptor yX8_count.desc).map (fun d => d.parameters.length) = some 1 := ⟨xw_inI 1548 (by decide +kernel) rfl, xw_inI 145 (by decide +kernel) rfl, by decide +kernel, by decide +kernel⟩
set_option maxRecDepth 100000 in
theorem mk_X8_count : Cond.instanceMethod yX8_count ∈ xw_tbl ∧ Cond.selects yX8_count.cls yX8_count yX8_count ∈ xw_tbl := ⟨xw_inI 1546 (by decide +kernel) rfl, xw_inI 1547 (by decide +kernel) rfl⟩
set_option maxRecDepth 100000 in
theorem ml_L_213 : xk_MV RL 213 yX8_count cX8_count 4 (some .int) 1 := ⟨⟨mc_X8_count.1, mc_X8_count.2.1, mc_X8_count.2.2.1, mc_X8_count.2.2.2, Or.inl (xw_inI 1545 (by decide +kernel) rfl)⟩, mk_X8_count⟩
set_option maxRecDepth 100000 in
theorem mc_X8_begins : Cond.code yX8_begins cX8_begins 2 none ∈ xw_tbl ∧ Cond.initialized yX8_begins.cls ∈ xw_tbl ∧ (yX8_begins.cls ≠ "java/lang/invoke/MethodHandle" ∧ yX8_begins.cls ≠ "java/lang/invoke/VarHandle") ∧ (parseMethodDescriptor yX8_begins.desc).map (fun d => d.parameters.length) = some 1 := ⟨xw_inI 1091 (by decide +kernel) rfl, xw_inI 145 (by decide +kernel) rfl, by decide +kernel, by decide +kernel⟩
set_option maxRecDepth 100000 in
theorem mk_X8_begins : Cond.static yX8_begins ∈ xw_tbl := xw_inI 1090 (by decide +kernel) rfl
set_option maxRecDepth 100000 in
theorem ml_X8_62 : xk_MS RX8 62 yX8_begins cX8_begins 2 none 1 := ⟨⟨mc_X8_begins.1, mc_X8_begins.2.1, mc_X8_begins.2.2.1, mc_X8_begins.2.2.2, Or.inl (xw_inI 1089 (by decide +kernel) rfl)⟩, mk_X8_begins⟩
set_option maxRecDepth 100000 in
theorem mc_X8_in : Cond.code yX8_in cX8_in 3 (some .boolean) ∈ xw_tbl ∧ Cond.initialized yX8_in.cls ∈ xw_tbl ∧ (yX8_in.cls ≠ "java/lang/invoke/MethodHandle" ∧ yX8_in.cls ≠ "java/lang/invoke/VarHandle") ∧ (parseMethodDescriptor yX8_in.desc).map (fun d => d.parameters.length) = some 3 := ⟨xw_inI 1192 (by decide +kernel) rfl, xw_inI 145 (by decide +kernel) rfl, by decide +kernel, by decide +kernel⟩
set_option maxRecDepth 100000 in
theorem mk_X8_in : Cond.static yX8_in ∈ xw_tbl := xw_inI 1191 (by decide +kernel) rfl
set_option maxRecDepth 100000 in
theorem ml_X8_69 : xk_MS RX8 69 yX8_in cX8_in 3 (some .boolean) 3 := ⟨⟨mc_X8_in.1, mc_X8_in.2.1, mc_X8_in.2.2.1, mc_X8_in.2.2.2, Or.inl (xw_inI 1190 (by decide +kernel) rfl)⟩, mk_X8_in⟩
set_option maxRecDepth 100000 in
theorem mc_X8_many : Cond.code yX8_many cX8_many 1 (some .int) ∈ xw_tbl ∧ Cond.initialized yX8_many.cls ∈ xw_tbl ∧ (yX8_many.cls ≠ "java/lang/invoke/MethodHandle" ∧ yX8_many.cls ≠ "java/lang/invoke/VarHandle") ∧ (parseMethodDescriptor yX8_many.desc).map (fun d => d.parameters.length) = some 0 := ⟨xw_inI 1202 (by decide +kernel) rfl, xw_inI 145 (by decide +kernel) rfl, by decide +kernel, by decide +kernel⟩
set_option maxRecDepth 100000 in
theorem mk_X8_many : Cond.instanceMethod yX8_many ∈ xw_tbl ∧ Cond.selects yX8_many.cls yX8_many yX8_many ∈ xw_tbl := ⟨xw_inI 1201 (by decide +kernel) rfl, xw_inI 85 (by decide +kernel) rfl⟩
set_option maxRecDepth 100000 in
theorem ml_X8_73 : xk_MV RX8 73 yX8_many cX8_many 1 (some .int) 0 := ⟨⟨mc_X8_many.1, mc_X8_many.2.1, mc_X8_many.2.2.1, mc_X8_many.2.2.2, Or.inl (xw_inI 1199 (by decide +kernel) rfl)⟩, mk_X8_many⟩
set_option maxRecDepth 100000 in
theorem mc_X8_rateOf : Cond.code yX8_rateOf cX8_rateOf 2 (some .int) ∈ xw_tbl ∧ Cond.initialized yX8_rateOf.cls ∈ xw_tbl ∧ (yX8_rateOf.cls ≠ "java/lang/invoke/MethodHandle" ∧ yX8_rateOf.cls ≠ "java/lang/invoke/VarHandle") ∧ (parseMethodDescriptor yX8_rateOf.desc).map (fun d => d.parameters.length) = some 1 := ⟨xw_inI 1234 (by decide +kernel) rfl, xw_inI 145 (by decide +kernel) rfl, by decide +kernel, by decide +kernel⟩
set_option maxRecDepth 100000 in
theorem mk_X8_rateOf : Cond.instanceMethod yX8_rateOf ∈ xw_tbl ∧ Cond.selects yX8_rateOf.cls yX8_rateOf yX8_rateOf ∈ xw_tbl := ⟨xw_inI 1233 (by decide +kernel) rfl, xw_inI 92 (by decide +kernel) rfl⟩
set_option maxRecDepth 100000 in
theorem ml_X8_77 : xk_MV RX8 77 yX8_rateOf cX8_rateOf 2 (some .int) 1 := ⟨⟨mc_X8_rateOf.1, mc_X8_rateOf.2.1, mc_X8_rateOf.2.2.1, mc_X8_rateOf.2.2.2, Or.inl (xw_inI 1231 (by decide +kernel) rfl)⟩, mk_X8_rateOf⟩
set_option maxRecDepth 100000 in
theorem mc_X8_houseOf : Cond.code yX8_houseOf cX8_houseOf 2 (some .int) ∈ xw_tbl ∧ Cond.initialized yX8_houseOf.cls ∈ xw_tbl ∧ (yX8_houseOf.cls ≠ "java/lang/invoke/MethodHandle" ∧ yX8_houseOf.cls ≠ "java/lang/invoke/VarHandle") ∧ (parseMethodDescriptor yX8_houseOf.desc).map (fun d => d.parameters.length) = some 1 := ⟨xw_inI 1230 (by decide +kernel) rfl, xw_inI 145 (by decide +kernel) rfl, by decide +kernel, by decide +kernel⟩
set_option maxRecDepth 100000 in
theorem mk_X8_houseOf : Cond.instanceMethod yX8_houseOf ∈ xw_tbl ∧ Cond.selects yX8_houseOf.cls yX8_houseOf yX8_houseOf ∈ xw_tbl := ⟨xw_inI 1229 (by decide +kernel) rfl, xw_inI 91 (by decide +kernel) rfl⟩
set_option maxRecDepth 100000 in
theorem ml_X8_81 : xk_MV RX8 81 yX8_houseOf cX8_houseOf 2 (some .int) 1 := ⟨⟨mc_X8_houseOf.1, mc_X8_houseOf.2.1, mc_X8_houseOf.2.2.1, mc_X8_houseOf.2.2.2, Or.inl (xw_inI 1227 (by decide +kernel) rfl)⟩, mk_X8_houseOf⟩
set_option maxRecDepth 100000 in
theorem mc_X8_lotsOf : Cond.code yX8_lotsOf cX8_lotsOf 2 (some .int) ∈ xw_tbl ∧ Cond.initialized yX8_lotsOf.cls ∈ xw_tbl ∧ (yX8_lotsOf.cls ≠ "java/lang/invoke/MethodHandle" ∧ yX8_lotsOf.cls ≠ "java/lang/invoke/VarHandle") ∧ (parseMethodDescriptor yX8_lotsOf.desc).map (fun d => d.parameters.length) = some 1 := ⟨xw_inI 1238 (by decide +kernel) rfl, xw_inI 145 (by decide +kernel) rfl, by decide +kernel, by decide +kernel⟩
set_option maxRecDepth 100000 in
theorem mk_X8_lotsOf : Cond.instanceMethod yX8_lotsOf ∈ xw_tbl ∧ Cond.selects yX8_lotsOf.cls yX8_lotsOf yX8_lotsOf ∈ xw_tbl := ⟨xw_inI 1237 (by decide +kernel) rfl, xw_inI 93 (by decide +kernel) rfl⟩
set_option maxRecDepth 100000 in
theorem ml_X8_84 : xk_MV RX8 84 yX8_lotsOf cX8_lotsOf 2 (some .int) 1 := ⟨⟨mc_X8_lotsOf.1, mc_X8_lotsOf.2.1, mc_X8_lotsOf.2.2.1, mc_X8_lotsOf.2.2.2, Or.inl (xw_inI 1235 (by decide +kernel) rfl)⟩, mk_X8_lotsOf⟩
set_option maxRecDepth 100000 in
theorem mc_X8_lays : Cond.code yX8_lays cX8_lays 5 none ∈ xw_tbl ∧ Cond.initialized yX8_lays.cls ∈ xw_tbl ∧ (yX8_lays.cls ≠ "java/lang/invoke/MethodHandle" ∧ yX8_lays.cls ≠ "java/lang/invoke/VarHandle") ∧ (parseMethodDescriptor yX8_lays.desc).map (fun d => d.parameters.length) = some 4 := ⟨xw_inI 1210 (by decide +kernel) rfl, xw_inI 145 (by decide +kernel) rfl, by decide +kernel, by decide +kernel⟩
set_option maxRecDepth 100000 in
theorem mk_X8_lays : Cond.instanceMethod yX8_lays ∈ xw_tbl ∧ Cond.selects yX8_lays.cls yX8_lays yX8_lays ∈ xw_tbl := ⟨xw_inI 1209 (by decide +kernel) rfl, xw_inI 87 (by decide +kernel) rfl⟩
set_option maxRecDepth 100000 in
theorem ml_X8_87 : xk_MV RX8 87 yX8_lays cX8_lays 5 none 4 := ⟨⟨mc_X8_lays.1, mc_X8_lays.2.1, mc_X8_lays.2.2.1, mc_X8_lays.2.2.2, Or.inl (xw_inI 1207 (by decide +kernel) rfl)⟩, mk_X8_lays⟩
set_option maxRecDepth 100000 in
theorem mc_X8_copies : Cond.code yX8_copies cX8_copies 3 none ∈ xw_tbl ∧ Cond.initialized yX8_copies.cls ∈ xw_tbl ∧ (yX8_copies.cls ≠ "java/lang/invoke/MethodHandle" ∧ yX8_copies.cls ≠ "java/lang/invoke/VarHandle") ∧ (parseMethodDescriptor yX8_copies.desc).map (fun d => d.parameters.length) = some 2 := ⟨xw_inI 1226 (by decide +kernel) rfl, xw_inI 145 (by decide +kernel) rfl, by decide +kernel, by decide +kernel⟩
set_option maxRecDepth 100000 in
theorem mk_X8_copies : Cond.instanceMethod yX8_copies ∈ xw_tbl ∧ Cond.selects yX8_copies.cls yX8_copies yX8_copies ∈ xw_tbl := ⟨xw_inI 1225 (by decide +kernel) rfl, xw_inI 90 (by decide +kernel) rfl⟩
set_option maxRecDepth 100000 in
theorem ml_X8_91 : xk_MV RX8 91 yX8_copies cX8_copies 3 none 2 := ⟨⟨mc_X8_copies.1, mc_X8_copies.2.1, mc_X8_copies.2.2.1, mc_X8_copies.2.2.2, Or.inl (xw_inI 1223 (by decide +kernel) rfl)⟩, mk_X8_copies⟩
set_option maxRecDepth 100000 in
theorem mc_X8_isHouse : Cond.code yX8_isHouse cX8_isHouse 1 (some .boolean) ∈ xw_tbl ∧ Cond.initialized yX8_isHouse.cls ∈ xw_tbl ∧ (yX8_isHouse.cls ≠ "java/lang/invoke/MethodHandle" ∧ yX8_isHouse.cls ≠ "java/lang/invoke/VarHandle") ∧ (parseMethodDescriptor yX8_isHouse.desc).map (fun d => d.parameters.length) = some 1 := ⟨xw_inI 1189 (by decide +kernel) rfl, xw_inI 145 (by decide +kernel) rfl, by decide +kernel, by decide +kernel⟩
set_option maxRecDepth 100000 in
theorem mk_X8_isHouse : Cond.static yX8_isHouse ∈ xw_tbl := xw_inI 1188 (by decide +kernel) rfl
set_option maxRecDepth 100000 in
theorem ml_X8_95 : xk_MS RX8 95 yX8_isHouse cX8_isHouse 1 (some .boolean) 1 := ⟨⟨mc_X8_isHouse.1, mc_X8_isHouse.2.1, mc_X8_isHouse.2.2.1, mc_X8_isHouse.2.2.2, Or.inl (xw_inI 1187 (by decide +kernel) rfl)⟩, mk_X8_isHouse⟩
set_option maxRecDepth 100000 in
theorem mc_X8_isRate : Cond.code yX8_isRate cX8_isRate 1 (some .boolean) ∈ xw_tbl ∧ Cond.initialized yX8_isRate.cls ∈ xw_tbl ∧ (yX8_isRate.cls ≠ "java/lang/invoke/MethodHandle" ∧ yX8_isRate.cls ≠ "java/lang/invoke/VarHandle") ∧ (parseMethodDescriptor yX8_isRate.desc).map (fun d => d.parameters.length) = some 1 := ⟨xw_inI 1195 (by decide +kernel) rfl, xw_inI 145 (by decide +kernel) rfl, by decide +kernel, by decide +kernel⟩
set_option maxRecDepth 100000 in
theorem mk_X8_isRate : Cond.static yX8_isRate ∈ xw_tbl := xw_inI 1194 (by decide +kernel) rfl
set_option maxRecDepth 100000 in
theorem ml_X8_99 : xk_MS RX8 99 yX8_isRate cX8_isRate 1 (some .boolean) 1 := ⟨⟨mc_X8_isRate.1, mc_X8_isRate.2.1, mc_X8_isRate.2.2.1, mc_X8_isRate.2.2.2, Or.inl (xw_inI 1193 (by decide +kernel) rfl)⟩, mk_X8_isRate⟩
set_option maxRecDepth 100000 in
theorem mc_X8_areLots : Cond.code yX8_areLots cX8_areLots 1 (some .boolean) ∈ xw_tbl ∧ Cond.initialized yX8_areLots.cls ∈ xw_tbl ∧ (yX8_areLots.cls ≠ "java/lang/invoke/MethodHandle" ∧ yX8_areLots.cls ≠ "java/lang/invoke/VarHandle") ∧ (parseMethodDescriptor yX8_areLots.desc).map (fun d => d.parameters.length) = some 1 := ⟨xw_inI 1198 (by decide +kernel) rfl, xw_inI 145 (by decide +kernel) rfl, by decide +kernel, by decide +kernel⟩
set_option maxRecDepth 100000 in
theorem mk_X8_areLots : Cond.static yX8_areLots ∈ xw_tbl := xw_inI 1197 (by decide +kernel) rfl
set_option maxRecDepth 100000 in
theorem ml_X8_102 : xk_MS RX8 102 yX8_areLots cX8_areLots 1 (some .boolean) 1 := ⟨⟨mc_X8_areLots.1, mc_X8_areLots.2.1, mc_X8_areLots.2.2.1, mc_X8_areLots.2.2.2, Or.inl (xw_inI 1196 (by decide +kernel) rfl)⟩, mk_X8_areLots⟩
set_option maxRecDepth 100000 in
theorem mc_X8_keeps : Cond.code yX8_keeps cX8_keeps 2 none ∈ xw_tbl ∧ Cond.initialized yX8_keeps.cls ∈ xw_tbl ∧ (yX8_keeps.cls ≠ "java/lang/invoke/MethodHandle" ∧ yX8_keeps.cls ≠ "java/lang/invoke/VarHandle") ∧ (parseMethodDescriptor yX8_keeps.desc).map (fun d => d.parameters.length) = some 0 := ⟨xw_inI 1206 (by decide +kernel) rfl, xw_inI 145 (by decide +kernel) rfl, by decide +kernel, by decide +kernel⟩
set_option maxRecDepth 100000 in
theorem mk_X8_keeps : Cond.instanceMethod yX8_keeps ∈ xw_tbl ∧ Cond.selects yX8_keeps.cls yX8_keeps yX8_keeps ∈ xw_tbl := ⟨xw_inI 1205 (by decide +kernel) rfl, xw_inI 86 (by decide +kernel) rfl⟩
set_option maxRecDepth 100000 in
theorem ml_X8_105 : xk_MV RX8 105 yX8_keeps cX8_keeps 2 none 0 := ⟨⟨mc_X8_keeps.1, mc_X8_keeps.2.1, mc_X8_keeps.2.2.1, mc_X8_keeps.2.2.2, Or.inl (xw_inI 1203 (by decide +kernel) rfl)⟩, mk_X8_keeps⟩
set_option maxRecDepth 100000 in
theorem mc_X8_isBid : Cond.code yX8_isBid cX8_isBid 2 (some .boolean) ∈ xw_tbl ∧ Cond.initialized yX8_isBid.cls ∈ xw_tbl ∧ (yX8_isBid.cls ≠ "java/lang/invoke/MethodHandle" ∧ yX8_isBid.cls ≠ "java/lang/invoke/VarHandle") ∧ (parseMethodDescriptor yX8_isBid.desc).map (fun d => d.parameters.length) = some 1 := ⟨xw_inI 1218 (by decide +kernel) rfl, xw_inI 145 (by decide +kernel) rfl, by decide +kernel, by decide +kernel⟩
set_option maxRecDepth 100000 in
theorem mk_X8_isBid : Cond.instanceMethod yX8_isBid ∈ xw_tbl ∧ Cond.selects yX8_isBid.cls yX8_isBid yX8_isBid ∈ xw_tbl := ⟨xw_inI 1217 (by decide +kernel) rfl, xw_inI 88 (by decide +kernel) rfl⟩
set_option maxRecDepth 100000 in
theorem ml_X8_108 : xk_MV RX8 108 yX8_isBid cX8_isBid 2 (some .boolean) 1 := ⟨⟨mc_X8_isBid.1, mc_X8_isBid.2.1, mc_X8_isBid.2.2.1, mc_X8_isBid.2.2.2, Or.inl (xw_inI 1215 (by decide +kernel) rfl)⟩, mk_X8_isBid⟩
set_option maxRecDepth 100000 in
theorem mc_X8_drops : Cond.code yX8_drops cX8_drops 3 none ∈ xw_tbl ∧ Cond.initialized yX8_drops.cls ∈ xw_tbl ∧ (yX8_drops.cls ≠ "java/lang/invoke/MethodHandle" ∧ yX8_drops.cls ≠ "java/lang/invoke/VarHandle") ∧ (parseMethodDescriptor yX8_drops.desc).map (fun d => d.parameters.length) = some 1 := ⟨xw_inI 1222 (by decide +kernel) rfl, xw_inI 145 (by decide +kernel) rfl, by decide +kernel, by decide +kernel⟩
set_option maxRecDepth 100000 in
theorem mk_X8_drops : Cond.instanceMethod yX8_drops ∈ xw_tbl ∧ Cond.selects yX8_drops.cls yX8_drops yX8_drops ∈ xw_tbl := ⟨xw_inI 1221 (by decide +kernel) rfl, xw_inI 89 (by decide +kernel) rfl⟩
set_option maxRecDepth 100000 in
theorem ml_X8_111 : xk_MV RX8 111 yX8_drops cX8_drops 3 none 1 := ⟨⟨mc_X8_drops.1, mc_X8_drops.2.1, mc_X8_drops.2.2.1, mc_X8_drops.2.2.2, Or.inl (xw_inI 1219 (by decide +kernel) rfl)⟩, mk_X8_drops⟩
set_option maxRecDepth 100000 in
theorem mc_X8_isPlain : Cond.code yX8_isPlain cX8_isPlain 2 (some .boolean) ∈ xw_tbl ∧ Cond.initialized yX8_isPlain.cls ∈ xw_tbl ∧ (yX8_isPlain.cls ≠ "java/lang/invoke/MethodHandle" ∧ yX8_isPlain.cls ≠ "java/lang/invoke/VarHandle") ∧ (parseMethodDescriptor yX8_isPlain.desc).map (fun d => d.parameters.length) = some 1 := ⟨xw_inI 1246 (by decide +kernel) rfl, xw_inI 145 (by decide +kernel) rfl, by decide +kernel, by decide +kernel⟩
set_option maxRecDepth 100000 in
theorem mk_X8_isPlain : Cond.instanceMethod yX8_isPlain ∈ xw_tbl ∧ Cond.selects yX8_isPlain.cls yX8_isPlain yX8_isPlain ∈ xw_tbl := ⟨xw_inI 1245 (by decide +kernel) rfl, xw_inI 94 (by decide +kernel) rfl⟩
set_option maxRecDepth 100000 in
theorem ml_X8_115 : xk_MV RX8 115 yX8_isPlain cX8_isPlain 2 (some .boolean) 1 := ⟨⟨mc_X8_isPlain.1, mc_X8_isPlain.2.1, mc_X8_isPlain.2.2.1, mc_X8_isPlain.2.2.2, Or.inl (xw_inI 1243 (by decide +kernel) rfl)⟩, mk_X8_isPlain⟩
set_option maxRecDepth 100000 in
theorem mc_X8_becomes : Cond.code yX8_becomes cX8_becomes 4 (some .int) ∈ xw_tbl ∧ Cond.initialized yX8_becomes.cls ∈ xw_tbl ∧ (yX8_becomes.cls ≠ "java/lang/invoke/MethodHandle" ∧ yX8_becomes.cls ≠ "java/lang/invoke/VarHandle") ∧ (parseMethodDescriptor yX8_becomes.desc).map (fun d => d.parameters.length) = some 2 := ⟨xw_inI 1250 (by decide +kernel) rfl, xw_inI 145 (by decide +kernel) rfl, by decide +kernel, by decide +kernel⟩
set_option maxRecDepth 100000 in
theorem mk_X8_becomes : Cond.instanceMethod yX8_becomes ∈ xw_tbl ∧ Cond.selects yX8_becomes.cls yX8_becomes yX8_becomes ∈ xw_tbl := ⟨xw_inI 1249 (by decide +kernel) rfl, xw_inI 95 (by decide +kernel) rfl⟩
set_option maxRecDepth 100000 in
theorem ml_X8_118 : xk_MV RX8 118 yX8_becomes cX8_becomes 4 (some .int) 2 := ⟨⟨mc_X8_becomes.1, mc_X8_becomes.2.1, mc_X8_becomes.2.2.1, mc_X8_becomes.2.2.2, Or.inl (xw_inI 1247 (by decide +kernel) rfl)⟩, mk_X8_becomes⟩
set_option maxRecDepth 100000 in
theorem mc_X8_mayBe : Cond.code yX8_mayBe cX8_mayBe 3 (some .boolean) ∈ xw_tbl ∧ Cond.initialized yX8_mayBe.cls ∈ xw_tbl ∧ (yX8_mayBe.cls ≠ "java/lang/invoke/MethodHandle" ∧ yX8_mayBe.cls ≠ "java/lang/invoke/VarHandle") ∧ (parseMethodDescriptor yX8_mayBe.desc).map (fun d => d.parameters.length) = some 2 := ⟨xw_inI 1258 (by decide +kernel) rfl, xw_inI 145 (by decide +kernel) rfl, by decide +kernel, by decide +kernel⟩
set_option maxRecDepth 100000 in
theorem mk_X8_mayBe : Cond.instanceMethod yX8_mayBe ∈ xw_tbl ∧ Cond.selects yX8_mayBe.cls yX8_mayBe yX8_mayBe ∈ xw_tbl := ⟨xw_inI 1257 (by decide +kernel) rfl, xw_inI 96 (by decide +kernel) rfl⟩
set_option maxRecDepth 100000 in
theorem ml_X8_122 : xk_MV RX8 122 yX8_mayBe cX8_mayBe 3 (some .boolean) 2 := ⟨⟨mc_X8_mayBe.1, mc_X8_mayBe.2.1, mc_X8_mayBe.2.2.1, mc_X8_mayBe.2.2.2, Or.inl (xw_inI 1255 (by decide +kernel) rfl)⟩, mk_X8_mayBe⟩
set_option maxRecDepth 100000 in
theorem mc_X8_makesRoom : Cond.code yX8_makesRoom cX8_makesRoom 3 none ∈ xw_tbl ∧ Cond.initialized yX8_makesRoom.cls ∈ xw_tbl ∧ (yX8_makesRoom.cls ≠ "java/lang/invoke/MethodHandle" ∧ yX8_makesRoom.cls ≠ "java/lang/invoke/VarHandle") ∧ (parseMethodDescriptor yX8_makesRoom.desc).map (fun d => d.parameters.length) = some 1 := ⟨xw_inI 1270 (by decide +kernel) rfl, xw_inI 145 (by decide +kernel) rfl, by decide +kernel, by decide +kernel⟩
set_option maxRecDepth 100000 in
theorem mk_X8_makesRoom : Cond.instanceMethod yX8_makesRoom ∈ xw_tbl ∧ Cond.selects yX8_makesRoom.cls yX8_makesRoom yX8_makesRoom ∈ xw_tbl := ⟨xw_inI 1269 (by decide +kernel) rfl, xw_inI 97 (by decide +kernel) rfl⟩
set_option maxRecDepth 100000 in
theorem ml_X8_126 : xk_MV RX8 126 yX8_makesRoom cX8_makesRoom 3 none 1 := ⟨⟨mc_X8_makesRoom.1, mc_X8_makesRoom.2.1, mc_X8_makesRoom.2.2.1, mc_X8_makesRoom.2.2.2, Or.inl (xw_inI 1267 (by decide +kernel) rfl)⟩, mk_X8_makesRoom⟩
set_option maxRecDepth 100000 in
theorem mc_X8_likeAhead : Cond.code yX8_likeAhead cX8_likeAhead 3 (some .int) ∈ xw_tbl ∧ Cond.initialized yX8_likeAhead.cls ∈ xw_tbl ∧ (yX8_likeAhead.cls ≠ "java/lang/invoke/MethodHandle" ∧ yX8_likeAhead.cls ≠ "java/lang/invoke/VarHandle") ∧ (parseMethodDescriptor yX8_likeAhead.desc).map (fun d => d.parameters.length) = some 1 := ⟨xw_inI 1278 (by decide +kernel) rfl, xw_inI 145 (by decide +kernel) rfl, by decide +kernel, by decide +kernel⟩
set_option maxRecDepth 100000 in
theorem mk_X8_likeAhead : Cond.instanceMethod yX8_likeAhead ∈ xw_tbl ∧ Cond.selects yX8_likeAhead.cls yX8_likeAhead yX8_likeAhead ∈ xw_tbl := ⟨xw_inI 1277 (by decide +kernel) rfl, xw_inI 98 (by decide +kernel) rfl⟩
set_option maxRecDepth 100000 in
theorem ml_X8_129 : xk_MV RX8 129 yX8_likeAhead cX8_likeAhead 3 (some .int) 1 := ⟨⟨mc_X8_likeAhead.1, mc_X8_likeAhead.2.1, mc_X8_likeAhead.2.2.1, mc_X8_likeAhead.2.2.2, Or.inl (xw_inI 1275 (by decide +kernel) rfl)⟩, mk_X8_likeAhead⟩
set_option maxRecDepth 100000 in
theorem mc_X8_roomOf : Cond.code yX8_roomOf cX8_roomOf 4 (some .int) ∈ xw_tbl ∧ Cond.initialized yX8_roomOf.cls ∈ xw_tbl ∧ (yX8_roomOf.cls ≠ "java/lang/invoke/MethodHandle" ∧ yX8_roomOf.cls ≠ "java/lang/invoke/VarHandle") ∧ (parseMethodDescriptor yX8_roomOf.desc).map (fun d => d.parameters.length) = some 1 := ⟨xw_inI 1310 (by decide +kernel) rfl, xw_inI 145 (by decide +kernel) rfl, by decide +kernel, by decide +kernel⟩
set_option maxRecDepth 100000 in
theorem mk_X8_roomOf : Cond.instanceMethod yX8_roomOf ∈ xw_tbl ∧ Cond.selects yX8_roomOf.cls yX8_roomOf yX8_roomOf ∈ xw_tbl := ⟨xw_inI 1309 (by decide +kernel) rfl, xw_inI 102 (by decide +kernel) rfl⟩
set_option maxRecDepth 100000 in
theorem ml_X8_132 : xk_MV RX8 132 yX8_roomOf cX8_roomOf 4 (some .int) 1 := ⟨⟨mc_X8_roomOf.1, mc_X8_roomOf.2.1, mc_X8_roomOf.2.2.1, mc_X8_roomOf.2.2.2, Or.inl (xw_inI 1307 (by decide +kernel) rfl)⟩, mk_X8_roomOf⟩
set_option maxRecDepth 100000 in
theorem mc_X8_laysOrder : Cond.code yX8_laysOrder cX8_laysOrder 3 none ∈ xw_tbl ∧ Cond.initialized yX8_laysOrder.cls ∈ xw_tbl ∧ (yX8_laysOrder.cls ≠ "java/lang/invoke/MethodHandle" ∧ yX8_laysOrder.cls ≠ "java/lang/invoke/VarHandle") ∧ (parseMethodDescriptor yX8_laysOrder.desc).map (fun d => d.parameters.length) = some 0 := ⟨xw_inI 1302 (by decide +kernel) rfl, xw_inI 145 (by decide +kernel) rfl, by decide +kernel, by decide +kernel⟩
set_option maxRecDepth 100000 in
theorem mk_X8_laysOrder : Cond.instanceMethod yX8_laysOrder ∈ xw_tbl ∧ Cond.selects yX8_laysOrder.cls yX8_laysOrder yX8_laysOrder ∈ xw_tbl := ⟨xw_inI 1301 (by decide +kernel) rfl, xw_inI 100 (by decide +kernel) rfl⟩
set_option maxRecDepth 100000 in
theorem ml_X8_135 : xk_MV RX8 135 yX8_laysOrder cX8_laysOrder 3 none 0 := ⟨⟨mc_X8_laysOrder.1, mc_X8_laysOrder.2.1, mc_X8_laysOrder.2.2.1, mc_X8_laysOrder.2.2.2, Or.inl (xw_inI 1299 (by decide +kernel) rfl)⟩, mk_X8_laysOrder⟩
set_option maxRecDepth 100000 in
theorem mc_X8_admits : Cond.code yX8_admits cX8_admits 4 none ∈ xw_tbl ∧ Cond.initialized yX8_admits.cls ∈ xw_tbl ∧ (yX8_admits.cls ≠ "java/lang/invoke/MethodHandle" ∧ yX8_admits.cls ≠ "java/lang/invoke/VarHandle") ∧ (parseMethodDescriptor yX8_admits.desc).map (fun d => d.parameters.length) = some 0 := ⟨xw_inI 1306 (by decide +kernel) rfl, xw_inI 145 (by decide +kernel) rfl, by decide +kernel, by decide +kernel⟩
set_option maxRecDepth 100000 in
theorem mk_X8_admits : Cond.instanceMethod yX8_admits ∈ xw_tbl ∧ Cond.selects yX8_admits.cls yX8_admits yX8_admits ∈ xw_tbl := ⟨xw_inI 1305 (by decide +kernel) rfl, xw_inI 101 (by decide +kernel) rfl⟩
set_option maxRecDepth 100000 in
theorem ml_X8_138 : xk_MV RX8 138 yX8_admits cX8_admits 4 none 0 := ⟨⟨mc_X8_admits.1, mc_X8_admits.2.1, mc_X8_admits.2.2.1, mc_X8_admits.2.2.2, Or.inl (xw_inI 1303 (by decide +kernel) rfl)⟩, mk_X8_admits⟩
set_option maxRecDepth 100000 in
theorem mc_X8_gives : Cond.code yX8_gives cX8_gives 6 (some .boolean) ∈ xw_tbl ∧ Cond.initialized yX8_gives.cls ∈ xw_tbl ∧ (yX8_gives.cls ≠ "java/lang/invoke/MethodHandle" ∧ yX8_gives.cls ≠ "java/lang/invoke/VarHandle") ∧ (parseMethodDescriptor yX8_gives.desc).map (fun d => d.parameters.length) = some 1 := ⟨xw_inI 1314 (by decide +kernel) rfl, xw_inI 145 (by decide +kernel) rfl, by decide +kernel, by decide +kernel⟩
set_option maxRecDepth 100000 in
theorem mk_X8_gives : Cond.instanceMethod yX8_gives ∈ xw_tbl ∧ Cond.selects yX8_gives.cls yX8_gives yX8_gives ∈ xw_tbl := ⟨xw_inI 1313 (by decide +kernel) rfl, xw_inI 103 (by decide +kernel) rfl⟩
set_option maxRecDepth 100000 in
theorem ml_X8_144 : xk_MV RX8 144 yX8_gives cX8_gives 6 (some .boolean) 1 := ⟨⟨mc_X8_gives.1, mc_X8_gives.2.1, mc_X8_gives.2.2.1, mc_X8_gives.2.2.2, Or.inl (xw_inI 1311 (by decide +kernel) rfl)⟩, mk_X8_gives⟩
set_option maxRecDepth 100000 in
theorem mc_X8_admittedTo : Cond.code yX8_admittedTo cX8_admittedTo 4 (some .int) ∈ xw_tbl ∧ Cond.initialized yX8_admittedTo.cls ∈ xw_tbl ∧ (yX8_admittedTo.cls ≠ "java/lang/invoke/MethodHandle" ∧ yX8_admittedTo.cls ≠ "java/lang/invoke/VarHandle") ∧ (parseMethodDescriptor yX8_admittedTo.desc).map (fun d => d.parameters.length) = some 1 := ⟨xw_inI 1318 (by decide +kernel) rfl, xw_inI 145 (by decide +kernel) rfl, by decide +kernel, by decide +kernel⟩
set_option maxRecDepth 100000 in
theorem mk_X8_admittedTo : Cond.instanceMethod yX8_admittedTo ∈ xw_tbl ∧ Cond.selects yX8_admittedTo.cls yX8_admittedTo yX8_admittedTo ∈ xw_tbl := ⟨xw_inI 1317 (by decide +kernel) rfl, xw_inI 104 (by decide +kernel) rfl⟩
set_option maxRecDepth 100000 in
theorem ml_X8_160 : xk_MV RX8 160 yX8_admittedTo cX8_admittedTo 4 (some .int) 1 := ⟨⟨mc_X8_admittedTo.1, mc_X8_admittedTo.2.1, mc_X8_admittedTo.2.2.1, mc_X8_admittedTo.2.2.2, Or.inl (xw_inI 1315 (by decide +kernel) rfl)⟩, mk_X8_admittedTo⟩
set_option maxRecDepth 100000 in
theorem mc_X8_priceOf : Cond.code yX8_priceOf cX8_priceOf 2 (some .int) ∈ xw_tbl ∧ Cond.initialized yX8_priceOf.cls ∈ xw_tbl ∧ (yX8_priceOf.cls ≠ "java/lang/invoke/MethodHandle" ∧ yX8_priceOf.cls ≠ "java/lang/invoke/VarHandle") ∧ (parseMethodDescriptor yX8_priceOf.desc).map (fun d => d.parameters.length) = some 1 := ⟨xw_inI 1334 (by decide +kernel) rfl, xw_inI 145 (by decide +kernel) rfl, by decide +kernel, by decide +kernel⟩
set_option maxRecDepth 100000 in
theorem mk_X8_priceOf : Cond.instanceMethod yX8_priceOf ∈ xw_tbl ∧ Cond.selects yX8_priceOf.cls yX8_priceOf yX8_priceOf ∈ xw_tbl := ⟨xw_inI 1333 (by decide +kernel) rfl, xw_inI 108 (by decide +kernel) rfl⟩
set_option maxRecDepth 100000 in
theorem ml_X8_167 : xk_MV RX8 167 yX8_priceOf cX8_priceOf 2 (some .int) 1 := ⟨⟨mc_X8_priceOf.1, mc_X8_priceOf.2.1, mc_X8_priceOf.2.2.1, mc_X8_priceOf.2.2.2, Or.inl (xw_inI 1331 (by decide +kernel) rfl)⟩, mk_X8_priceOf⟩
set_option maxRecDepth 100000 in
theorem mc_X8_paysOf : Cond.code yX8_paysOf cX8_paysOf 3 (some .long) ∈ xw_tbl ∧ Cond.initialized yX8_paysOf.cls ∈ xw_tbl ∧ (yX8_paysOf.cls ≠ "java/lang/invoke/MethodHandle" ∧ yX8_paysOf.cls ≠ "java/lang/invoke/VarHandle") ∧ (parseMethodDescriptor yX8_paysOf.desc).map (fun d => d.parameters.length) = some 1 := ⟨xw_inI 1330 (by decide +kernel) rfl, xw_inI 145 (by decide +kernel) rfl, by decide +kernel, by decide +kernel⟩
set_option maxRecDepth 100000 in
theorem mk_X8_paysOf : Cond.instanceMethod yX8_paysOf ∈ xw_tbl ∧ Cond.selects yX8_paysOf.cls yX8_paysOf yX8_paysOf ∈ xw_tbl := ⟨xw_inI 1329 (by decide +kernel) rfl, xw_inI 107 (by decide +kernel) rfl⟩
set_option maxRecDepth 100000 in
theorem ml_X8_170 : xk_MV RX8 170 yX8_paysOf cX8_paysOf 3 (some .long) 1 := ⟨⟨mc_X8_paysOf.1, mc_X8_paysOf.2.1, mc_X8_paysOf.2.2.1, mc_X8_paysOf.2.2.2, Or.inl (xw_inI 1327 (by decide +kernel) rfl)⟩, mk_X8_paysOf⟩
set_option maxRecDepth 100000 in
theorem mc_X8_sells : Cond.code yX8_sells cX8_sells 5 none ∈ xw_tbl ∧ Cond.initialized yX8_sells.cls ∈ xw_tbl ∧ (yX8_sells.cls ≠ "java/lang/invoke/MethodHandle" ∧ yX8_sells.cls ≠ "java/lang/invoke/VarHandle") ∧ (parseMethodDescriptor yX8_sells.desc).map (fun d => d.parameters.length) = some 0 := ⟨xw_inI 1298 (by decide +kernel) rfl, xw_inI 145 (by decide +kernel) rfl, by decide +kernel, by decide +kernel⟩
set_option maxRecDepth 100000 in
theorem mk_X8_sells : Cond.instanceMethod yX8_sells ∈ xw_tbl ∧ Cond.selects yX8_sells.cls yX8_sells yX8_sells ∈ xw_tbl := ⟨xw_inI 1297 (by decide +kernel) rfl, xw_inI 99 (by decide +kernel) rfl⟩
set_option maxRecDepth 100000 in
theorem ml_X8_174 : xk_MV RX8 174 yX8_sells cX8_sells 5 none 0 := ⟨⟨mc_X8_sells.1, mc_X8_sells.2.1, mc_X8_sells.2.2.1, mc_X8_sells.2.2.2, Or.inl (xw_inI 1295 (by decide +kernel) rfl)⟩, mk_X8_sells⟩
set_option maxRecDepth 100000 in
theorem mc_X8_soldAll : Cond.code yX8_soldAll cX8_soldAll 3 (some .int) ∈ xw_tbl ∧ Cond.initialized yX8_soldAll.cls ∈ xw_tbl ∧ (yX8_soldAll.cls ≠ "java/lang/invoke/MethodHandle" ∧ yX8_soldAll.cls ≠ "java/lang/invoke/VarHandle") ∧ (parseMethodDescriptor yX8_soldAll.desc).map (fun d => d.parameters.length) = some 0 := ⟨xw_inI 1322 (by decide +kernel) rfl, xw_inI 145 (by decide +kernel) rfl, by decide +kernel, by decide +kernel⟩
set_option maxRecDepth 100000 in
theorem mk_X8_soldAll : Cond.instanceMethod yX8_soldAll ∈ xw_tbl ∧ Cond.selects yX8_soldAll.cls yX8_soldAll yX8_soldAll ∈ xw_tbl := ⟨xw_inI 1321 (by decide +kernel) rfl, xw_inI 105 (by decide +kernel) rfl⟩
set_option maxRecDepth 100000 in
theorem ml_X8_177 : xk_MV RX8 177 yX8_soldAll cX8_soldAll 3 (some .int) 0 := ⟨⟨mc_X8_soldAll.1, mc_X8_soldAll.2.1, mc_X8_soldAll.2.2.1, mc_X8_soldAll.2.2.2, Or.inl (xw_inI 1319 (by decide +kernel) rfl)⟩, mk_X8_soldAll⟩
set_option maxRecDepth 100000 in
theorem mc_X8_paidAll : Cond.code yX8_paidAll cX8_paidAll 4 (some .long) ∈ xw_tbl ∧ Cond.initialized yX8_paidAll.cls ∈ xw_tbl ∧ (yX8_paidAll.cls ≠ "java/lang/invoke/MethodHandle" ∧ yX8_paidAll.cls ≠ "java/lang/invoke/VarHandle") ∧ (parseMethodDescriptor yX8_paidAll.desc).map (fun d => d.parameters.length) = some 0 := ⟨xw_inI 1326 (by decide +kernel) rfl, xw_inI 145 (by decide +kernel) rfl, by decide +kernel, by decide +kernel⟩
set_option maxRecDepth 100000 in
theorem mk_X8_paidAll : Cond.instanceMethod yX8_paidAll ∈ xw_tbl ∧ Cond.selects yX8_paidAll.cls yX8_paidAll yX8_paidAll ∈ xw_tbl := ⟨xw_inI 1325 (by decide +kernel) rfl, xw_inI 106 (by decide +kernel) rfl⟩
set_option maxRecDepth 100000 in
theorem ml_X8_180 : xk_MV RX8 180 yX8_paidAll cX8_paidAll 4 (some .long) 0 := ⟨⟨mc_X8_paidAll.1, mc_X8_paidAll.2.1, mc_X8_paidAll.2.2.1, mc_X8_paidAll.2.2.2, Or.inl (xw_inI 1323 (by decide +kernel) rfl)⟩, mk_X8_paidAll⟩
set_option maxRecDepth 100000 in
theorem mc_X8_soldOf : Cond.code yX8_soldOf cX8_soldOf 4 (some .int) ∈ xw_tbl ∧ Cond.initialized yX8_soldOf.cls ∈ xw_tbl ∧ (yX8_soldOf.cls ≠ "java/lang/invoke/MethodHandle" ∧ yX8_soldOf.cls ≠ "java/lang/invoke/VarHandle") ∧ (parseMethodDescriptor yX8_soldOf.desc).map (fun d => d.parameters.length) = some 1 := ⟨xw_inI 1339 (by decide +kernel) rfl, xw_inI 145 (by decide +kernel) rfl, by decide +kernel, by decide +kernel⟩
set_option maxRecDepth 100000 in
theorem mk_X8_soldOf : Cond.instanceMethod yX8_soldOf ∈ xw_tbl ∧ Cond.selects yX8_soldOf.cls yX8_soldOf yX8_soldOf ∈ xw_tbl := ⟨xw_inI 1338 (by decide +kernel) rfl, xw_inI 109 (by decide +kernel) rfl⟩
set_option maxRecDepth 100000 in
theorem ml_X8_184 : xk_MV RX8 184 yX8_soldOf cX8_soldOf 4 (some .int) 1 := ⟨⟨mc_X8_soldOf.1, mc_X8_soldOf.2.1, mc_X8_soldOf.2.2.1, mc_X8_soldOf.2.2.2, Or.inl (xw_inI 1336 (by decide +kernel) rfl)⟩, mk_X8_soldOf⟩
set_option maxRecDepth 100000 in
theorem mc_X8_isLine : Cond.code yX8_isLine cX8_isLine 2 (some .boolean) ∈ xw_tbl ∧ Cond.initialized yX8_isLine.cls ∈ xw_tbl ∧ (yX8_isLine.cls ≠ "java/lang/invoke/MethodHandle" ∧ yX8_isLine.cls ≠ "java/lang/invoke/VarHandle") ∧ (parseMethodDescriptor yX8_isLine.desc).map (fun d => d.parameters.length) = some 1 := ⟨xw_inI 1347 (by decide +kernel) rfl, xw_inI 145 (by decide +kernel) rfl, by decide +kernel, by decide +kernel⟩
set_option maxRecDepth 100000 in
theorem mk_X8_isLine : Cond.instanceMethod yX8_isLine ∈ xw_tbl ∧ Cond.selects yX8_isLine.cls yX8_isLine yX8_isLine ∈ xw_tbl := ⟨xw_inI 1346 (by decide +kernel) rfl, xw_inI 110 (by decide +kernel) rfl⟩
set_option maxRecDepth 100000 in
theorem ml_X8_187 : xk_MV RX8 187 yX8_isLine cX8_isLine 2 (some .boolean) 1 := ⟨⟨mc_X8_isLine.1, mc_X8_isLine.2.1, mc_X8_isLine.2.2.1, mc_X8_isLine.2.2.2, Or.inl (xw_inI 1344 (by decide +kernel) rfl)⟩, mk_X8_isLine⟩
set_option maxRecDepth 100000 in
theorem mc_X8_ownedBy : Cond.code yX8_ownedBy cX8_ownedBy 4 (some .int) ∈ xw_tbl ∧ Cond.initialized yX8_ownedBy.cls ∈ xw_tbl ∧ (yX8_ownedBy.cls ≠ "java/lang/invoke/MethodHandle" ∧ yX8_ownedBy.cls ≠ "java/lang/invoke/VarHandle") ∧ (parseMethodDescriptor yX8_ownedBy.desc).map (fun d => d.parameters.length) = some 1 := ⟨xw_inI 1376 (by decide +kernel) rfl, xw_inI 145 (by decide +kernel) rfl, by decide +kernel, by decide +kernel⟩
set_option maxRecDepth 100000 in
theorem mk_X8_ownedBy : Cond.instanceMethod yX8_ownedBy ∈ xw_tbl ∧ Cond.selects yX8_ownedBy.cls yX8_ownedBy yX8_ownedBy ∈ xw_tbl := ⟨xw_inI 1375 (by decide +kernel) rfl, xw_inI 111 (by decide +kernel) rfl⟩
set_option maxRecDepth 100000 in
theorem ml_X8_192 : xk_MV RX8 192 yX8_ownedBy cX8_ownedBy 4 (some .int) 1 := ⟨⟨mc_X8_ownedBy.1, mc_X8_ownedBy.2.1, mc_X8_ownedBy.2.2.1, mc_X8_ownedBy.2.2.2, Or.inl (xw_inI 1373 (by decide +kernel) rfl)⟩, mk_X8_ownedBy⟩
set_option maxRecDepth 100000 in
theorem mc_X8_paidBySold : Cond.code yX8_paidBySold cX8_paidBySold 5 (some .long) ∈ xw_tbl ∧ Cond.initialized yX8_paidBySold.cls ∈ xw_tbl ∧ (yX8_paidBySold.cls ≠ "java/lang/invoke/MethodHandle" ∧ yX8_paidBySold.cls ≠ "java/lang/invoke/VarHandle") ∧ (parseMethodDescriptor yX8_paidBySold.desc).map (fun d => d.parameters.length) = some 1 := ⟨xw_inI 1384 (by decide +kernel) rfl, xw_inI 145 (by decide +kernel) rfl, by decide +kernel, by decide +kernel⟩
set_option maxRecDepth 100000 in
theorem mk_X8_paidBySold : Cond.instanceMethod yX8_paidBySold ∈ xw_tbl ∧ Cond.selects yX8_paidBySold.cls yX8_paidBySold yX8_paidBySold ∈ xw_tbl := ⟨xw_inI 1383 (by decide +kernel) rfl, xw_inI 112 (by decide +kernel) rfl⟩
set_option maxRecDepth 100000 in
theorem ml_X8_195 : xk_MV RX8 195 yX8_paidBySold cX8_paidBySold 5 (some .long) 1 := ⟨⟨mc_X8_paidBySold.1, mc_X8_paidBySold.2.1, mc_X8_paidBySold.2.2.1, mc_X8_paidBySold.2.2.2, Or.inl (xw_inI 1381 (by decide +kernel) rfl)⟩, mk_X8_paidBySold⟩
set_option maxRecDepth 100000 in
theorem mc_X8_admittedAll : Cond.code yX8_admittedAll cX8_admittedAll 3 (some .int) ∈ xw_tbl ∧ Cond.initialized yX8_admittedAll.cls ∈ xw_tbl ∧ (yX8_admittedAll.cls ≠ "java/lang/invoke/MethodHandle" ∧ yX8_admittedAll.cls ≠ "java/lang/invoke/VarHandle") ∧ (parseMethodDescriptor yX8_admittedAll.desc).map (fun d => d.parameters.length) = some 0 := ⟨xw_inI 1399 (by decide +kernel) rfl, xw_inI 145 (by decide +kernel) rfl, by decide +kernel, by decide +kernel⟩
set_option maxRecDepth 100000 in
theorem mk_X8_admittedAll : Cond.instanceMethod yX8_admittedAll ∈ xw_tbl ∧ Cond.selects yX8_admittedAll.cls yX8_admittedAll yX8_admittedAll ∈ xw_tbl := ⟨xw_inI 1398 (by decide +kernel) rfl, xw_inI 114 (by decide +kernel) rfl⟩
set_option maxRecDepth 100000 in
theorem ml_X8_198 : xk_MV RX8 198 yX8_admittedAll cX8_admittedAll 3 (some .int) 0 := ⟨⟨mc_X8_admittedAll.1, mc_X8_admittedAll.2.1, mc_X8_admittedAll.2.2.1, mc_X8_admittedAll.2.2.2, Or.inl (xw_inI 1396 (by decide +kernel) rfl)⟩, mk_X8_admittedAll⟩
set_option maxRecDepth 100000 in
theorem mc_X8_isResult : Cond.code yX8_isResult cX8_isResult 1 (some .boolean) ∈ xw_tbl ∧ Cond.initialized yX8_isResult.cls ∈ xw_tbl ∧ (yX8_isResult.cls ≠ "java/lang/invoke/MethodHandle" ∧ yX8_isResult.cls ≠ "java/lang/invoke/VarHandle") ∧ (parseMethodDescriptor yX8_isResult.desc).map (fun d => d.parameters.length) = some 1 := ⟨xw_inI 1391 (by decide +kernel) rfl, xw_inI 145 (by decide +kernel) rfl, by decide +kernel, by decide +kernel⟩
set_option maxRecDepth 100000 in
theorem mk_X8_isResult : Cond.static yX8_isResult ∈ xw_tbl := xw_inI 1390 (by decide +kernel) rfl
set_option maxRecDepth 100000 in
theorem ml_X8_201 : xk_MS RX8 201 yX8_isResult cX8_isResult 1 (some .boolean) 1 := ⟨⟨mc_X8_isResult.1, mc_X8_isResult.2.1, mc_X8_isResult.2.2.1, mc_X8_isResult.2.2.2, Or.inl (xw_inI 1389 (by decide +kernel) rfl)⟩, mk_X8_isResult⟩
set_option maxRecDepth 100000 in
theorem mc_X8_told : Cond.code yX8_told cX8_told 5 (some .int) ∈ xw_tbl ∧ Cond.initialized yX8_told.cls ∈ xw_tbl ∧ (yX8_told.cls ≠ "java/lang/invoke/MethodHandle" ∧ yX8_told.cls ≠ "java/lang/invoke/VarHandle") ∧ (parseMethodDescriptor yX8_told.desc).map (fun d => d.parameters.length) = some 1 := ⟨xw_inI 1395 (by decide +kernel) rfl, xw_inI 145 (by decide +kernel) rfl, by decide +kernel, by decide +kernel⟩
set_option maxRecDepth 100000 in
theorem mk_X8_told : Cond.instanceMethod yX8_told ∈ xw_tbl ∧ Cond.selects yX8_told.cls yX8_told yX8_told ∈ xw_tbl := ⟨xw_inI 1394 (by decide +kernel) rfl, xw_inI 113 (by decide +kernel) rfl⟩
set_option maxRecDepth 100000 in
theorem ml_X8_204 : xk_MV RX8 204 yX8_told cX8_told 5 (some .int) 1 := ⟨⟨mc_X8_told.1, mc_X8_told.2.1, mc_X8_told.2.2.1, mc_X8_told.2.2.2, Or.inl (xw_inI 1392 (by decide +kernel) rfl)⟩, mk_X8_told⟩
set_option maxRecDepth 100000 in
theorem mc_X8_rateAbove : Cond.code yX8_rateAbove cX8_rateAbove 4 (some .int) ∈ xw_tbl ∧ Cond.initialized yX8_rateAbove.cls ∈ xw_tbl ∧ (yX8_rateAbove.cls ≠ "java/lang/invoke/MethodHandle" ∧ yX8_rateAbove.cls ≠ "java/lang/invoke/VarHandle") ∧ (parseMethodDescriptor yX8_rateAbove.desc).map (fun d => d.parameters.length) = some 1 := ⟨xw_inI 1444 (by decide +kernel) rfl, xw_inI 145 (by decide +kernel) rfl, by decide +kernel, by decide +kernel⟩
set_option maxRecDepth 100000 in
theorem mk_X8_rateAbove : Cond.instanceMethod yX8_rateAbove ∈ xw_tbl ∧ Cond.selects yX8_rateAbove.cls yX8_rateAbove yX8_rateAbove ∈ xw_tbl := ⟨xw_inI 1443 (by decide +kernel) rfl, xw_inI 115 (by decide +kernel) rfl⟩
set_option maxRecDepth 100000 in
theorem ml_X8_209 : xk_MV RX8 209 yX8_rateAbove cX8_rateAbove 4 (some .int) 1 := ⟨⟨mc_X8_rateAbove.1, mc_X8_rateAbove.2.1, mc_X8_rateAbove.2.2.1, mc_X8_rateAbove.2.2.2, Or.inl (xw_inI 1441 (by decide +kernel) rfl)⟩, mk_X8_rateAbove⟩
set_option maxRecDepth 100000 in
theorem mc_X8_toldBy : Cond.code yX8_toldBy cX8_toldBy 6 (some .int) ∈ xw_tbl ∧ Cond.initialized yX8_toldBy.cls ∈ xw_tbl ∧ (yX8_toldBy.cls ≠ "java/lang/invoke/MethodHandle" ∧ yX8_toldBy.cls ≠ "java/lang/invoke/VarHandle") ∧ (parseMethodDescriptor yX8_toldBy.desc).map (fun d => d.parameters.length) = some 3 := ⟨xw_inI 1452 (by decide +kernel) rfl, xw_inI 145 (by decide +kernel) rfl, by decide +kernel, by decide +kernel⟩
set_option maxRecDepth 100000 in
theorem mk_X8_toldBy : Cond.instanceMethod yX8_toldBy ∈ xw_tbl ∧ Cond.selects yX8_toldBy.cls yX8_toldBy yX8_toldBy ∈ xw_tbl := ⟨xw_inI 1451 (by decide +kernel) rfl, xw_inI 116 (by decide +kernel) rfl⟩
set_option maxRecDepth 100000 in
theorem ml_X8_212 : xk_MV RX8 212 yX8_toldBy cX8_toldBy 6 (some .int) 3 := ⟨⟨mc_X8_toldBy.1, mc_X8_toldBy.2.1, mc_X8_toldBy.2.2.1, mc_X8_toldBy.2.2.2, Or.inl (xw_inI 1449 (by decide +kernel) rfl)⟩, mk_X8_toldBy⟩
set_option maxRecDepth 100000 in
theorem mc_X8_soldBy : Cond.code yX8_soldBy cX8_soldBy 6 (some .int) ∈ xw_tbl ∧ Cond.initialized yX8_soldBy.cls ∈ xw_tbl ∧ (yX8_soldBy.cls ≠ "java/lang/invoke/MethodHandle" ∧ yX8_soldBy.cls ≠ "java/lang/invoke/VarHandle") ∧ (parseMethodDescriptor yX8_soldBy.desc).map (fun d => d.parameters.length) = some 3 := ⟨xw_inI 1476 (by decide +kernel) rfl, xw_inI 145 (by decide +kernel) rfl, by decide +kernel, by decide +kernel⟩
set_option maxRecDepth 100000 in
theorem mk_X8_soldBy : Cond.instanceMethod yX8_soldBy ∈ xw_tbl ∧ Cond.selects yX8_soldBy.cls yX8_soldBy yX8_soldBy ∈ xw_tbl := ⟨xw_inI 1475 (by decide +kernel) rfl, xw_inI 117 (by decide +kernel) rfl⟩
set_option maxRecDepth 100000 in
theorem ml_X8_216 : xk_MV RX8 216 yX8_soldBy cX8_soldBy 6 (some .int) 3 := ⟨⟨mc_X8_soldBy.1, mc_X8_soldBy.2.1, mc_X8_soldBy.2.2.1, mc_X8_soldBy.2.2.2, Or.inl (xw_inI 1473 (by decide +kernel) rfl)⟩, mk_X8_soldBy⟩
set_option maxRecDepth 100000 in
theorem mc_X8_putsAside : Cond.code yX8_putsAside cX8_putsAside 2 none ∈ xw_tbl ∧ Cond.initialized yX8_putsAside.cls ∈ xw_tbl ∧ (yX8_putsAside.cls ≠ "java/lang/invoke/MethodHandle" ∧ yX8_putsAside.cls ≠ "java/lang/invoke/VarHandle") ∧ (parseMethodDescriptor yX8_putsAside.desc).map (fun d => d.parameters.length) = some 0 := ⟨xw_inI 1500 (by decide +kernel) rfl, xw_inI 145 (by decide +kernel) rfl, by decide +kernel, by decide +kernel⟩
set_option maxRecDepth 100000 in
theorem mk_X8_putsAside : Cond.instanceMethod yX8_putsAside ∈ xw_tbl ∧ Cond.selects yX8_putsAside.cls yX8_putsAside yX8_putsAside ∈ xw_tbl := ⟨xw_inI 1499 (by decide +kernel) rfl, xw_inI 118 (by decide +kernel) rfl⟩
set_option maxRecDepth 100000 in
theorem ml_X8_219 : xk_MV RX8 219 yX8_putsAside cX8_putsAside 2 none 0 := ⟨⟨mc_X8_putsAside.1, mc_X8_putsAside.2.1, mc_X8_putsAside.2.2.1, mc_X8_putsAside.2.2.2, Or.inl (xw_inI 1497 (by decide +kernel) rfl)⟩, mk_X8_putsAside⟩
set_option maxRecDepth 100000 in
theorem mc_X8_takesBack : Cond.code yX8_takesBack cX8_takesBack 2 none ∈ xw_tbl ∧ Cond.initialized yX8_takesBack.cls ∈ xw_tbl ∧ (yX8_takesBack.cls ≠ "java/lang/invoke/MethodHandle" ∧ yX8_takesBack.cls ≠ "java/lang/invoke/VarHandle") ∧ (parseMethodDescriptor yX8_takesBack.desc).map (fun d => d.parameters.length) = some 0 := ⟨xw_inI 1504 (by decide +kernel) rfl, xw_inI 145 (by decide +kernel) rfl, by decide +kernel, by decide +kernel⟩
set_option maxRecDepth 100000 in
theorem mk_X8_takesBack : Cond.instanceMethod yX8_takesBack ∈ xw_tbl ∧ Cond.selects yX8_takesBack.cls yX8_takesBack yX8_takesBack ∈ xw_tbl := ⟨xw_inI 1503 (by decide +kernel) rfl, xw_inI 119 (by decide +kernel) rfl⟩
set_option maxRecDepth 100000 in
theorem ml_X8_222 : xk_MV RX8 222 yX8_takesBack cX8_takesBack 2 none 0 := ⟨⟨mc_X8_takesBack.1, mc_X8_takesBack.2.1, mc_X8_takesBack.2.2.1, mc_X8_takesBack.2.2.2, Or.inl (xw_inI 1501 (by decide +kernel) rfl)⟩, mk_X8_takesBack⟩
set_option maxRecDepth 100000 in
theorem mc_X8_wordFrom : Cond.code yX8_wordFrom cX8_wordFrom 4 (some .int) ∈ xw_tbl ∧ Cond.initialized yX8_wordFrom.cls ∈ xw_tbl ∧ (yX8_wordFrom.cls ≠ "java/lang/invoke/MethodHandle" ∧ yX8_wordFrom.cls ≠ "java/lang/invoke/VarHandle") ∧ (parseMethodDescriptor yX8_wordFrom.desc).map (fun d => d.parameters.length) = some 1 := ⟨xw_inI 1532 (by decide +kernel) rfl, xw_inI 145 (by decide +kernel) rfl, by decide +kernel, by decide +kernel⟩
set_option maxRecDepth 100000 in
theorem mk_X8_wordFrom : Cond.instanceMethod yX8_wordFrom ∈ xw_tbl ∧ Cond.selects yX8_wordFrom.cls yX8_wordFrom yX8_wordFrom ∈ xw_tbl := ⟨xw_inI 1531 (by decide +kernel) rfl, xw_inI 123 (by decide +kernel) rfl⟩
set_option maxRecDepth 100000 in
theorem ml_X8_225 : xk_MV RX8 225 yX8_wordFrom cX8_wordFrom 4 (some .int) 1 := ⟨⟨mc_X8_wordFrom.1, mc_X8_wordFrom.2.1, mc_X8_wordFrom.2.2.1, mc_X8_wordFrom.2.2.2, Or.inl (xw_inI 1529 (by decide +kernel) rfl)⟩, mk_X8_wordFrom⟩
set_option maxRecDepth 100000 in
theorem mc_X8_writes : Cond.code yX8_writes cX8_writes 2 none ∈ xw_tbl ∧ Cond.initialized yX8_writes.cls ∈ xw_tbl ∧ (yX8_writes.cls ≠ "java/lang/invoke/MethodHandle" ∧ yX8_writes.cls ≠ "java/lang/invoke/VarHandle") ∧ (parseMethodDescriptor yX8_writes.desc).map (fun d => d.parameters.length) = some 1 := ⟨xw_inI 1536 (by decide +kernel) rfl, xw_inI 145 (by decide +kernel) rfl, by decide +kernel, by decide +kernel⟩
set_option maxRecDepth 100000 in
theorem mk_X8_writes : Cond.instanceMethod yX8_writes ∈ xw_tbl ∧ Cond.selects yX8_writes.cls yX8_writes yX8_writes ∈ xw_tbl := ⟨xw_inI 1535 (by decide +kernel) rfl, xw_inI 124 (by decide +kernel) rfl⟩
set_option maxRecDepth 100000 in
theorem ml_X8_228 : xk_MV RX8 228 yX8_writes cX8_writes 2 none 1 := ⟨⟨mc_X8_writes.1, mc_X8_writes.2.1, mc_X8_writes.2.2.1, mc_X8_writes.2.2.2, Or.inl (xw_inI 1533 (by decide +kernel) rfl)⟩, mk_X8_writes⟩
set_option maxRecDepth 100000 in
theorem mc_X8_writesWord : Cond.code yX8_writesWord cX8_writesWord 3 none ∈ xw_tbl ∧ Cond.initialized yX8_writesWord.cls ∈ xw_tbl ∧ (yX8_writesWord.cls ≠ "java/lang/invoke/MethodHandle" ∧ yX8_writesWord.cls ≠ "java/lang/invoke/VarHandle") ∧ (parseMethodDescriptor yX8_writesWord.desc).map (fun d => d.parameters.length) = some 1 := ⟨xw_inI 1528 (by decide +kernel) rfl, xw_inI 145 (by decide +kernel) rfl, by decide +kernel, by decide +kernel⟩
set_option maxRecDepth 100000 in
theorem mk_X8_writesWord : Cond.instanceMethod yX8_writesWord ∈ xw_tbl ∧ Cond.selects yX8_writesWord.cls yX8_writesWord yX8_writesWord ∈ xw_tbl := ⟨xw_inI 1527 (by decide +kernel) rfl, xw_inI 122 (by decide +kernel) rfl⟩
set_option maxRecDepth 100000 in
theorem ml_X8_234 : xk_MV RX8 234 yX8_writesWord cX8_writesWord 3 none 1 := ⟨⟨mc_X8_writesWord.1, mc_X8_writesWord.2.1, mc_X8_writesWord.2.2.1, mc_X8_writesWord.2.2.2, Or.inl (xw_inI 1525 (by decide +kernel) rfl)⟩, mk_X8_writesWord⟩
set_option maxRecDepth 100000 in
theorem mc_X8_writesNumber : Cond.code yX8_writesNumber cX8_writesNumber 3 none ∈ xw_tbl ∧ Cond.initialized yX8_writesNumber.cls ∈ xw_tbl ∧ (yX8_writesNumber.cls ≠ "java/lang/invoke/MethodHandle" ∧ yX8_writesNumber.cls ≠ "java/lang/invoke/VarHandle") ∧ (parseMethodDescriptor yX8_writesNumber.desc).map (fun d => d.parameters.length) = some 1 := ⟨xw_inI 1540 (by decide +kernel) rfl, xw_inI 145 (by decide +kernel) rfl, by decide +kernel, by decide +kernel⟩
set_option maxRecDepth 100000 in
theorem mk_X8_writesNumber : Cond.instanceMethod yX8_writesNumber ∈ xw_tbl ∧ Cond.selects yX8_writesNumber.cls yX8_writesNumber yX8_writesNumber ∈ xw_tbl := ⟨xw_inI 1539 (by decide +kernel) rfl, xw_inI 125 (by decide +kernel) rfl⟩
set_option maxRecDepth 100000 in
theorem ml_X8_237 : xk_MV RX8 237 yX8_writesNumber cX8_writesNumber 3 none 1 := ⟨⟨mc_X8_writesNumber.1, mc_X8_writesNumber.2.1, mc_X8_writesNumber.2.2.1, mc_X8_writesNumber.2.2.2, Or.inl (xw_inI 1537 (by decide +kernel) rfl)⟩, mk_X8_writesNumber⟩
set_option maxRecDepth 100000 in
theorem mc_X8_writesOne : Cond.code yX8_writesOne cX8_writesOne 3 none ∈ xw_tbl ∧ Cond.initialized yX8_writesOne.cls ∈ xw_tbl ∧ (yX8_writesOne.cls ≠ "java/lang/invoke/MethodHandle" ∧ yX8_writesOne.cls ≠ "java/lang/invoke/VarHandle") ∧ (parseMethodDescriptor yX8_writesOne.desc).map (fun d => d.parameters.length) = some 2 := ⟨xw_inI 1524 (by decide +kernel) rfl, xw_inI 145 (by decide +kernel) rfl, by decide +kernel, by decide +kernel⟩
set_option maxRecDepth 100000 in
theorem mk_X8_writesOne : Cond.instanceMethod yX8_writesOne ∈ xw_tbl ∧ Cond.selects yX8_writesOne.cls yX8_writesOne yX8_writesOne ∈ xw_tbl := ⟨xw_inI 1523 (by decide +kernel) rfl, xw_inI 121 (by decide +kernel) rfl⟩
set_option maxRecDepth 100000 in
theorem ml_X8_240 : xk_MV RX8 240 yX8_writesOne cX8_writesOne 3 none 2 := ⟨⟨mc_X8_writesOne.1, mc_X8_writesOne.2.1, mc_X8_writesOne.2.2.1, mc_X8_writesOne.2.2.2, Or.inl (xw_inI 1521 (by decide +kernel) rfl)⟩, mk_X8_writesOne⟩
set_option maxRecDepth 100000 in
theorem mc_X8_writesTwo : Cond.code yX8_writesTwo cX8_writesTwo 4 none ∈ xw_tbl ∧ Cond.initialized yX8_writesTwo.cls ∈ xw_tbl ∧ (yX8_writesTwo.cls ≠ "java/lang/invoke/MethodHandle" ∧ yX8_writesTwo.cls ≠ "java/lang/invoke/VarHandle") ∧ (parseMethodDescriptor yX8_writesTwo.desc).map (fun d => d.parameters.length) = some 3 := ⟨xw_inI 1544 (by decide +kernel) rfl, xw_inI 145 (by decide +kernel) rfl, by decide +kernel, by decide +kernel⟩
set_option maxRecDepth 100000 in
theorem mk_X8_writesTwo : Cond.instanceMethod yX8_writesTwo ∈ xw_tbl ∧ Cond.selects yX8_writesTwo.cls yX8_writesTwo yX8_writesTwo ∈ xw_tbl := ⟨xw_inI 1543 (by decide +kernel) rfl, xw_inI 126 (by decide +kernel) rfl⟩
set_option maxRecDepth 100000 in
theorem ml_X8_243 : xk_MV RX8 243 yX8_writesTwo cX8_writesTwo 4 none 3 := ⟨⟨mc_X8_writesTwo.1, mc_X8_writesTwo.2.1, mc_X8_writesTwo.2.2.1, mc_X8_writesTwo.2.2.2, Or.inl (xw_inI 1541 (by decide +kernel) rfl)⟩, mk_X8_writesTwo⟩
set_option maxRecDepth 100000 in
theorem mc_X8_writesAll : Cond.code yX8_writesAll cX8_writesAll 2 none ∈ xw_tbl ∧ Cond.initialized yX8_writesAll.cls ∈ xw_tbl ∧ (yX8_writesAll.cls ≠ "java/lang/invoke/MethodHandle" ∧ yX8_writesAll.cls ≠ "java/lang/invoke/VarHandle") ∧ (parseMethodDescriptor yX8_writesAll.desc).map (fun d => d.parameters.length) = some 0 := ⟨xw_inI 1520 (by decide +kernel) rfl, xw_inI 145 (by decide +kernel) rfl, by decide +kernel, by decide +kernel⟩
set_option maxRecDepth 100000 in
theorem mk_X8_writesAll : Cond.instanceMethod yX8_writesAll ∈ xw_tbl ∧ Cond.selects yX8_writesAll.cls yX8_writesAll yX8_writesAll ∈ xw_tbl := ⟨xw_inI 1519 (by decide +kernel) rfl, xw_inI 120 (by decide +kernel) rfl⟩
set_option maxRecDepth 100000 in
theorem ml_X8_247 : xk_MV RX8 247 yX8_writesAll cX8_writesAll 2 none 0 := ⟨⟨mc_X8_writesAll.1, mc_X8_writesAll.2.1, mc_X8_writesAll.2.2.1, mc_X8_writesAll.2.2.2, Or.inl (xw_inI 1517 (by decide +kernel) rfl)⟩, mk_X8_writesAll⟩
set_option maxRecDepth 100000 in
theorem mc_X8_bids : Cond.code yX8_bids cX8_bids 4 (some .int) ∈ xw_tbl ∧ Cond.initialized yX8_bids.cls ∈ xw_tbl ∧ (yX8_bids.cls ≠ "java/lang/invoke/MethodHandle" ∧ yX8_bids.cls ≠ "java/lang/invoke/VarHandle") ∧ (parseMethodDescriptor yX8_bids.desc).map (fun d => d.parameters.length) = some 1 := ⟨xw_inI 1552 (by decide +kernel) rfl, xw_inI 145 (by decide +kernel) rfl, by decide +kernel, by decide +kernel⟩
set_option maxRecDepth 100000 in
theorem mk_X8_bids : Cond.instanceMethod yX8_bids ∈ xw_tbl ∧ Cond.selects yX8_bids.cls yX8_bids yX8_bids ∈ xw_tbl := ⟨xw_inI 1551 (by decide +kernel) rfl, xw_inI 127 (by decide +kernel) rfl⟩
set_option maxRecDepth 100000 in
theorem ml_X8_253 : xk_MV RX8 253 yX8_bids cX8_bids 4 (some .int) 1 := ⟨⟨mc_X8_bids.1, mc_X8_bids.2.1, mc_X8_bids.2.2.1, mc_X8_bids.2.2.2, Or.inl (xw_inI 1549 (by decide +kernel) rfl)⟩, mk_X8_bids⟩
set_option maxRecDepth 100000 in
theorem mc_X8_here : Cond.code yX8_here cX8_here 1 (some .int) ∈ xw_tbl ∧ Cond.initialized yX8_here.cls ∈ xw_tbl ∧ (yX8_here.cls ≠ "java/lang/invoke/MethodHandle" ∧ yX8_here.cls ≠ "java/lang/invoke/VarHandle") ∧ (parseMethodDescriptor yX8_here.desc).map (fun d => d.parameters.length) = some 0 := ⟨xw_inI 1572 (by decide +kernel) rfl, xw_inI 145 (by decide +kernel) rfl, by decide +kernel, by decide +kernel⟩
set_option maxRecDepth 100000 in
theorem mk_X8_here : Cond.instanceMethod yX8_here ∈ xw_tbl ∧ Cond.selects yX8_here.cls yX8_here yX8_here ∈ xw_tbl := ⟨xw_inI 1571 (by decide +kernel) rfl, xw_inI 129 (by decide +kernel) rfl⟩
set_option maxRecDepth 100000 in
theorem ml_X8_262 : xk_MV RX8 262 yX8_here cX8_here 1 (some .int) 0 := ⟨⟨mc_X8_here.1, mc_X8_here.2.1, mc_X8_here.2.2.1, mc_X8_here.2.2.2, Or.inl (xw_inI 1569 (by decide +kernel) rfl)⟩, mk_X8_here⟩
set_option maxRecDepth 100000 in
theorem mc_X8_goesOn : Cond.code yX8_goesOn cX8_goesOn 5 none ∈ xw_tbl ∧ Cond.initialized yX8_goesOn.cls ∈ xw_tbl ∧ (yX8_goesOn.cls ≠ "java/lang/invoke/MethodHandle" ∧ yX8_goesOn.cls ≠ "java/lang/invoke/VarHandle") ∧ (parseMethodDescriptor yX8_goesOn.desc).map (fun d => d.parameters.length) = some 0 := ⟨xw_inI 1568 (by decide +kernel) rfl, xw_inI 145 (by decide +kernel) rfl, by decide +kernel, by decide +kernel⟩
set_option maxRecDepth 100000 in
theorem mk_X8_goesOn : Cond.instanceMethod yX8_goesOn ∈ xw_tbl ∧ Cond.selects yX8_goesOn.cls yX8_goesOn yX8_goesOn ∈ xw_tbl := ⟨xw_inI 1567 (by decide +kernel) rfl, xw_inI 128 (by decide +kernel) rfl⟩
set_option maxRecDepth 100000 in
theorem ml_X8_274 : xk_MV RX8 274 yX8_goesOn cX8_goesOn 5 none 0 := ⟨⟨mc_X8_goesOn.1, mc_X8_goesOn.2.1, mc_X8_goesOn.2.2.1, mc_X8_goesOn.2.2.2, Or.inl (xw_inI 1565 (by decide +kernel) rfl)⟩, mk_X8_goesOn⟩
set_option maxRecDepth 100000 in
theorem mc_X8_takesWord : Cond.code yX8_takesWord cX8_takesWord 4 (some .boolean) ∈ xw_tbl ∧ Cond.initialized yX8_takesWord.cls ∈ xw_tbl ∧ (yX8_takesWord.cls ≠ "java/lang/invoke/MethodHandle" ∧ yX8_takesWord.cls ≠ "java/lang/invoke/VarHandle") ∧ (parseMethodDescriptor yX8_takesWord.desc).map (fun d => d.parameters.length) = some 1 := ⟨xw_inI 1580 (by decide +kernel) rfl, xw_inI 145 (by decide +kernel) rfl, by decide +kernel, by decide +kernel⟩
set_option maxRecDepth 100000 in
theorem mk_X8_takesWord : Cond.instanceMethod yX8_takesWord ∈ xw_tbl ∧ Cond.selects yX8_takesWord.cls yX8_takesWord yX8_takesWord ∈ xw_tbl := ⟨xw_inI 1579 (by decide +kernel) rfl, xw_inI 131 (by decide +kernel) rfl⟩
set_option maxRecDepth 100000 in
theorem ml_X8_277 : xk_MV RX8 277 yX8_takesWord cX8_takesWord 4 (some .boolean) 1 := ⟨⟨mc_X8_takesWord.1, mc_X8_takesWord.2.1, mc_X8_takesWord.2.2.1, mc_X8_takesWord.2.2.2, Or.inl (xw_inI 1577 (by decide +kernel) rfl)⟩, mk_X8_takesWord⟩
set_option maxRecDepth 100000 in
theorem mc_X8_needsNumber : Cond.code yX8_needsNumber cX8_needsNumber 4 (some .int) ∈ xw_tbl ∧ Cond.initialized yX8_needsNumber.cls ∈ xw_tbl ∧ (yX8_needsNumber.cls ≠ "java/lang/invoke/MethodHandle" ∧ yX8_needsNumber.cls ≠ "java/lang/invoke/VarHandle") ∧ (parseMethodDescriptor yX8_needsNumber.desc).map (fun d => d.parameters.length) = some 2 := ⟨xw_inI 1584 (by decide +kernel) rfl, xw_inI 145 (by decide +kernel) rfl, by decide +kernel, by decide +kernel⟩
set_option maxRecDepth 100000 in
theorem mk_X8_needsNumber : Cond.instanceMethod yX8_needsNumber ∈ xw_tbl ∧ Cond.selects yX8_needsNumber.cls yX8_needsNumber yX8_needsNumber ∈ xw_tbl := ⟨xw_inI 1583 (by decide +kernel) rfl, xw_inI 132 (by decide +kernel) rfl⟩
set_option maxRecDepth 100000 in
theorem ml_X8_280 : xk_MV RX8 280 yX8_needsNumber cX8_needsNumber 4 (some .int) 2 := ⟨⟨mc_X8_needsNumber.1, mc_X8_needsNumber.2.1, mc_X8_needsNumber.2.2.1, mc_X8_needsNumber.2.2.2, Or.inl (xw_inI 1581 (by decide +kernel) rfl)⟩, mk_X8_needsNumber⟩
set_option maxRecDepth 100000 in
theorem mc_X8_needsHouse : Cond.code yX8_needsHouse cX8_needsHouse 1 (some .int) ∈ xw_tbl ∧ Cond.initialized yX8_needsHouse.cls ∈ xw_tbl ∧ (yX8_needsHouse.cls ≠ "java/lang/invoke/MethodHandle" ∧ yX8_needsHouse.cls ≠ "java/lang/invoke/VarHandle") ∧ (parseMethodDescriptor yX8_needsHouse.desc).map (fun d => d.parameters.length) = some 0 := ⟨xw_inI 1592 (by decide +kernel) rfl, xw_inI 145 (by decide +kernel) rfl, by decide +kernel, by decide +kernel⟩
set_option maxRecDepth 100000 in
theorem mk_X8_needsHouse : Cond.instanceMethod yX8_needsHouse ∈ xw_tbl ∧ Cond.selects yX8_needsHouse.cls yX8_needsHouse yX8_needsHouse ∈ xw_tbl := ⟨xw_inI 1591 (by decide +kernel) rfl, xw_inI 134 (by decide +kernel) rfl⟩
set_option maxRecDepth 100000 in
theorem ml_X8_283 : xk_MV RX8 283 yX8_needsHouse cX8_needsHouse 1 (some .int) 0 := ⟨⟨mc_X8_needsHouse.1, mc_X8_needsHouse.2.1, mc_X8_needsHouse.2.2.1, mc_X8_needsHouse.2.2.2, Or.inl (xw_inI 1589 (by decide +kernel) rfl)⟩, mk_X8_needsHouse⟩
set_option maxRecDepth 100000 in
theorem mc_X8_needs : Cond.code yX8_needs cX8_needs 2 none ∈ xw_tbl ∧ Cond.initialized yX8_needs.cls ∈ xw_tbl ∧ (yX8_needs.cls ≠ "java/lang/invoke/MethodHandle" ∧ yX8_needs.cls ≠ "java/lang/invoke/VarHandle") ∧ (parseMethodDescriptor yX8_needs.desc).map (fun d => d.parameters.length) = some 1 := ⟨xw_inI 1588 (by decide +kernel) rfl, xw_inI 145 (by decide +kernel) rfl, by decide +kernel, by decide +kernel⟩
set_option maxRecDepth 100000 in
theorem mk_X8_needs : Cond.instanceMethod yX8_needs ∈ xw_tbl ∧ Cond.selects yX8_needs.cls yX8_needs yX8_needs ∈ xw_tbl := ⟨xw_inI 1587 (by decide +kernel) rfl, xw_inI 133 (by decide +kernel) rfl⟩
set_option maxRecDepth 100000 in
theorem ml_X8_286 : xk_MV RX8 286 yX8_needs cX8_needs 2 none 1 := ⟨⟨mc_X8_needs.1, mc_X8_needs.2.1, mc_X8_needs.2.2.1, mc_X8_needs.2.2.2, Or.inl (xw_inI 1585 (by decide +kernel) rfl)⟩, mk_X8_needs⟩
set_option maxRecDepth 100000 in
theorem mc_X8_readsBid : Cond.code yX8_readsBid cX8_readsBid 4 none ∈ xw_tbl ∧ Cond.initialized yX8_readsBid.cls ∈ xw_tbl ∧ (yX8_readsBid.cls ≠ "java/lang/invoke/MethodHandle" ∧ yX8_readsBid.cls ≠ "java/lang/invoke/VarHandle") ∧ (parseMethodDescriptor yX8_readsBid.desc).map (fun d => d.parameters.length) = some 2 := ⟨xw_inI 1596 (by decide +kernel) rfl, xw_inI 145 (by decide +kernel) rfl, by decide +kernel, by decide +kernel⟩
set_option maxRecDepth 100000 in
theorem mk_X8_readsBid : Cond.instanceMethod yX8_readsBid ∈ xw_tbl ∧ Cond.selects yX8_readsBid.cls yX8_readsBid yX8_readsBid ∈ xw_tbl := ⟨xw_inI 1595 (by decide +kernel) rfl, xw_inI 135 (by decide +kernel) rfl⟩
set_option maxRecDepth 100000 in
theorem ml_X8_289 : xk_MV RX8 289 yX8_readsBid cX8_readsBid 4 none 2 := ⟨⟨mc_X8_readsBid.1, mc_X8_readsBid.2.1, mc_X8_readsBid.2.2.1, mc_X8_readsBid.2.2.2, Or.inl (xw_inI 1593 (by decide +kernel) rfl)⟩, mk_X8_readsBid⟩
set_option maxRecDepth 100000 in
theorem mc_X8_readsOne : Cond.code yX8_readsOne cX8_readsOne 3 none ∈ xw_tbl ∧ Cond.initialized yX8_readsOne.cls ∈ xw_tbl ∧ (yX8_readsOne.cls ≠ "java/lang/invoke/MethodHandle" ∧ yX8_readsOne.cls ≠ "java/lang/invoke/VarHandle") ∧ (parseMethodDescriptor yX8_readsOne.desc).map (fun d => d.parameters.length) = some 0 := ⟨xw_inI 1576 (by decide +kernel) rfl, xw_inI 145 (by decide +kernel) rfl, by decide +kernel, by decide +kernel⟩
set_option maxRecDepth 100000 in
theorem mk_X8_readsOne : Cond.instanceMethod yX8_readsOne ∈ xw_tbl ∧ Cond.selects yX8_readsOne.cls yX8_readsOne yX8_readsOne ∈ xw_tbl := ⟨xw_inI 1575 (by decide +kernel) rfl, xw_inI 130 (by decide +kernel) rfl⟩
set_option maxRecDepth 100000 in
theorem ml_X8_293 : xk_MV RX8 293 yX8_readsOne cX8_readsOne 3 none 0 := ⟨⟨mc_X8_readsOne.1, mc_X8_readsOne.2.1, mc_X8_readsOne.2.2.1, mc_X8_readsOne.2.2.2, Or.inl (xw_inI 1573 (by decide +kernel) rfl)⟩, mk_X8_readsOne⟩
set_option maxRecDepth 100000 in
theorem mc_J0_coder_7d493 : Cond.code yJ0_coder_7d493 cJ0_coder_7d493 1 (some .byte) ∈ xw_tbl ∧ Cond.initialized yJ0_coder_7d493.cls ∈ xw_tbl ∧ (yJ0_coder_7d493.cls ≠ "java/lang/invoke/MethodHandle" ∧ yJ0_coder_7d493.cls ≠ "java/lang/invoke/VarHandle") ∧ (parseMethodDescriptor yJ0_coder_7d493.desc).map (fun d => d.parameters.length) = some 0 := ⟨xw_inI 487 (by decide +kernel) rfl, xw_inI 146 (by decide +kernel) rfl, by decide +kernel, by decide +kernel⟩
set_option maxRecDepth 100000 in
theorem mk_J0_coder_7d493 : Cond.instanceMethod yJ0_coder_7d493 ∈ xw_tbl ∧ Cond.selects yJ0_coder_7d493.cls yJ0_coder_7d493 yJ0_coder_7d493 ∈ xw_tbl := ⟨xw_inI 485 (by decide +kernel) rfl, xw_inI 486 (by decide +kernel) rfl⟩
set_option maxRecDepth 100000 in
theorem ml_J0_335 : xk_MV RJ0 335 yJ0_coder_7d493 cJ0_coder_7d493 1 (some .byte) 0 := ⟨⟨mc_J0_coder_7d493.1, mc_J0_coder_7d493.2.1, mc_J0_coder_7d493.2.2.1, mc_J0_coder_7d493.2.2.2, Or.inl (xw_inI 484 (by decide +kernel) rfl)⟩, mk_J0_coder_7d493⟩
set_option maxRecDepth 100000 in
theorem mc_J0_isLatin1_aae02 : Cond.code yJ0_isLatin1_aae02 cJ0_isLatin1_aae02 1 (some .boolean) ∈ xw_tbl ∧ Cond.initialized yJ0_isLatin1_aae02.cls ∈ xw_tbl ∧ (yJ0_isLatin1_aae02.cls ≠ "java/lang/invoke/MethodHandle" ∧ yJ0_isLatin1_aae02.cls ≠ "java/lang/invoke/VarHandle") ∧ (parseMethodDescriptor yJ0_isLatin1_aae02.desc).map (fun d => d.parameters.length) = some 0 := ⟨xw_inI 497 (by decide +kernel) rfl, xw_inI 146 (by decide +kernel) rfl, by decide +kernel, by decide +kernel⟩
set_option maxRecDepth 100000 in
theorem mk_J0_isLatin1_aae02 : Cond.instanceMethod yJ0_isLatin1_aae02 ∈ xw_tbl ∧ Cond.selects yJ0_isLatin1_aae02.cls yJ0_isLatin1_aae02 yJ0_isLatin1_aae02 ∈ xw_tbl := ⟨xw_inI 495 (by decide +kernel) rfl, xw_inI 496 (by decide +kernel) rfl⟩
set_option maxRecDepth 100000 in
theorem ml_J0_492 : xk_MV RJ0 492 yJ0_isLatin1_aae02 cJ0_isLatin1_aae02 1 (some .boolean) 0 := ⟨⟨mc_J0_isLatin1_aae02.1, mc_J0_isLatin1_aae02.2.1, mc_J0_isLatin1_aae02.2.2.1, mc_J0_isLatin1_aae02.2.2.2, Or.inl (xw_inI 494 (by decide +kernel) rfl)⟩, mk_J0_isLatin1_aae02⟩
set_option maxRecDepth 100000 in
theorem mc_J1_charAt_3b067 : Cond.code yJ1_charAt_3b067 cJ1_charAt_3b067 2 (some .char) ∈ xw_tbl ∧ Cond.initialized yJ1_charAt_3b067.cls ∈ xw_tbl ∧ (yJ1_charAt_3b067.cls ≠ "java/lang/invoke/MethodHandle" ∧ yJ1_charAt_3b067.cls ≠ "java/lang/invoke/VarHandle") ∧ (parseMethodDescriptor yJ1_charAt_3b067.desc).map (fun d => d.parameters.length) = some 2 := ⟨xw_inI 500 (by decide +kernel) rfl, xw_inI 147 (by decide +kernel) rfl, by decide +kernel, by decide +kernel⟩
set_option maxRecDepth 100000 in
theorem mk_J1_charAt_3b067 : Cond.static yJ1_charAt_3b067 ∈ xw_tbl := xw_inI 499 (by decide +kernel) rfl
set_option maxRecDepth 100000 in
theorem ml_J0_495 : xk_MS RJ0 495 yJ1_charAt_3b067 cJ1_charAt_3b067 2 (some .char) 2 := ⟨⟨mc_J1_charAt_3b067.1, mc_J1_charAt_3b067.2.1, mc_J1_charAt_3b067.2.2.1, mc_J1_charAt_3b067.2.2.2, Or.inl (xw_inI 498 (by decide +kernel) rfl)⟩, mk_J1_charAt_3b067⟩
set_option maxRecDepth 100000 in
theorem mc_J2_charAt_3b067 : Cond.code yJ2_charAt_3b067 cJ2_charAt_3b067 2 (some .char) ∈ xw_tbl ∧ Cond.initialized yJ2_charAt_3b067.cls ∈ xw_tbl ∧ (yJ2_charAt_3b067.cls ≠ "java/lang/invoke/MethodHandle" ∧ yJ2_charAt_3b067.cls ≠ "java/lang/invoke/VarHandle") ∧ (parseMethodDescriptor yJ2_charAt_3b067.desc).map (fun d => d.parameters.length) = some 2 := ⟨xw_inI 511 (by decide +kernel) rfl, xw_inI 149 (by decide +kernel) rfl, by decide +kernel, by decide +kernel⟩
set_option maxRecDepth 100000 in
theorem mk_J2_charAt_3b067 : Cond.static yJ2_charAt_3b067 ∈ xw_tbl := xw_inI 510 (by decide +kernel) rfl
set_option maxRecDepth 100000 in
theorem ml_J0_498 : xk_MS RJ0 498 yJ2_charAt_3b067 cJ2_charAt_3b067 2 (some .char) 2 := ⟨⟨mc_J2_charAt_3b067.1, mc_J2_charAt_3b067.2.1, mc_J2_charAt_3b067.2.2.1, mc_J2_charAt_3b067.2.2.2, Or.inl (xw_inI 509 (by decide +kernel) rfl)⟩, mk_J2_charAt_3b067⟩
set_option maxRecDepth 100000 in
theorem mc_J3_checkIndex_8e157 : Cond.code yJ3_checkIndex_8e157 cJ3_checkIndex_8e157 3 (some .int) ∈ xw_tbl ∧ Cond.initialized yJ3_checkIndex_8e157.cls ∈ xw_tbl ∧ (yJ3_checkIndex_8e157.cls ≠ "java/lang/invoke/MethodHandle" ∧ yJ3_checkIndex_8e157.cls ≠ "java/lang/invoke/VarHandle") ∧ (parseMethodDescriptor yJ3_checkIndex_8e157.desc).map (fun d => d.parameters.length) = some 3 := ⟨xw_inI 508 (by decide +kernel) rfl, xw_inI 148 (by decide +kernel) rfl, by decide +kernel, by decide +kernel⟩
set_option maxRecDepth 100000 in
theorem mk_J3_checkIndex_8e157 : Cond.static yJ3_checkIndex_8e157 ∈ xw_tbl := xw_inI 507 (by decide +kernel) rfl
set_option maxRecDepth 100000 in
theorem ml_J0_1059 : xk_MS RJ0 1059 yJ3_checkIndex_8e157 cJ3_checkIndex_8e157 3 (some .int) 3 := ⟨⟨mc_J3_checkIndex_8e157.1, mc_J3_checkIndex_8e157.2.1, mc_J3_checkIndex_8e157.2.2.1, mc_J3_checkIndex_8e157.2.2.2, Or.inl (xw_inI 506 (by decide +kernel) rfl)⟩, mk_J3_checkIndex_8e157⟩
set_option maxRecDepth 100000 in
theorem mc_J0_checkIndex_df160 : Cond.code yJ0_checkIndex_df160 cJ0_checkIndex_df160 2 none ∈ xw_tbl ∧ Cond.initialized yJ0_checkIndex_df160.cls ∈ xw_tbl ∧ (yJ0_checkIndex_df160.cls ≠ "java/lang/invoke/MethodHandle" ∧ yJ0_checkIndex_df160.cls ≠ "java/lang/invoke/VarHandle") ∧ (parseMethodDescriptor yJ0_checkIndex_df160.desc).map (fun d => d.parameters.length) = some 2 := ⟨xw_inI 503 (by decide +kernel) rfl, xw_inI 146 (by decide +kernel) rfl, by decide +kernel, by decide +kernel⟩
set_option maxRecDepth 100000 in
theorem mk_J0_checkIndex_df160 : Cond.static yJ0_checkIndex_df160 ∈ xw_tbl := xw_inI 502 (by decide +kernel) rfl
set_option maxRecDepth 100000 in
theorem ml_J1_9 : xk_MS RJ1 9 yJ0_checkIndex_df160 cJ0_checkIndex_df160 2 none 2 := ⟨⟨mc_J0_checkIndex_df160.1, mc_J0_checkIndex_df160.2.1, mc_J0_checkIndex_df160.2.2.1, mc_J0_checkIndex_df160.2.2.2, Or.inl (xw_inI 501 (by decide +kernel) rfl)⟩, mk_J0_checkIndex_df160⟩
set_option maxRecDepth 100000 in
theorem ml_J2_414 : xk_MS RJ2 414 yJ0_checkIndex_df160 cJ0_checkIndex_df160 2 none 2 := ⟨⟨mc_J0_checkIndex_df160.1, mc_J0_checkIndex_df160.2.1, mc_J0_checkIndex_df160.2.2.1, mc_J0_checkIndex_df160.2.2.2, Or.inl (xw_inI 518 (by decide +kernel) rfl)⟩, mk_J0_checkIndex_df160⟩
set_option maxRecDepth 100000 in
theorem mc_J2_length_9d52b : Cond.code yJ2_length_9d52b cJ2_length_9d52b 1 (some .int) ∈ xw_tbl ∧ Cond.initialized yJ2_length_9d52b.cls ∈ xw_tbl ∧ (yJ2_length_9d52b.cls ≠ "java/lang/invoke/MethodHandle" ∧ yJ2_length_9d52b.cls ≠ "java/lang/invoke/VarHandle") ∧ (parseMethodDescriptor yJ2_length_9d52b.desc).map (fun d => d.parameters.length) = some 1 := ⟨xw_inI 517 (by decide +kernel) rfl, xw_inI 149 (by decide +kernel) rfl, by decide +kernel, by decide +kernel⟩
set_option maxRecDepth 100000 in
theorem mk_J2_length_9d52b : Cond.static yJ2_length_9d52b ∈ xw_tbl := xw_inI 516 (by decide +kernel) rfl
set_option maxRecDepth 100000 in
theorem ml_J2_48 : xk_MS RJ2 48 yJ2_length_9d52b cJ2_length_9d52b 1 (some .int) 1 := ⟨⟨mc_J2_length_9d52b.1, mc_J2_length_9d52b.2.1, mc_J2_length_9d52b.2.2.1, mc_J2_length_9d52b.2.2.2, Or.inl (xw_inI 515 (by decide +kernel) rfl)⟩, mk_J2_length_9d52b⟩
set_option maxRecDepth 100000 in
theorem mc_J2_checkIndex_2214a : Cond.code yJ2_checkIndex_2214a cJ2_checkIndex_2214a 2 none ∈ xw_tbl ∧ Cond.initialized yJ2_checkIndex_2214a.cls ∈ xw_tbl ∧ (yJ2_checkIndex_2214a.cls ≠ "java/lang/invoke/MethodHandle" ∧ yJ2_checkIndex_2214a.cls ≠ "java/lang/invoke/VarHandle") ∧ (parseMethodDescriptor yJ2_checkIndex_2214a.desc).map (fun d => d.parameters.length) = some 2 := ⟨xw_inI 514 (by decide +kernel) rfl, xw_inI 149 (by decide +kernel) rfl, by decide +kernel, by decide +kernel⟩
set_option maxRecDepth 100000 in
theorem mk_J2_checkIndex_2214a : Cond.static yJ2_checkIndex_2214a ∈ xw_tbl := xw_inI 513 (by decide +kernel) rfl
set_option maxRecDepth 100000 in
theorem ml_J2_67 : xk_MS RJ2 67 yJ2_checkIndex_2214a cJ2_checkIndex_2214a 2 none 2 := ⟨⟨mc_J2_checkIndex_2214a.1, mc_J2_checkIndex_2214a.2.1, mc_J2_checkIndex_2214a.2.2.1, mc_J2_checkIndex_2214a.2.2.2, Or.inl (xw_inI 512 (by decide +kernel) rfl)⟩, mk_J2_checkIndex_2214a⟩
set_option maxRecDepth 100000 in
theorem mc_J2_getChar_3b067 : Cond.code yJ2_getChar_3b067 cJ2_getChar_3b067 2 (some .char) ∈ xw_tbl ∧ Cond.initialized yJ2_getChar_3b067.cls ∈ xw_tbl ∧ (yJ2_getChar_3b067.cls ≠ "java/lang/invoke/MethodHandle" ∧ yJ2_getChar_3b067.cls ≠ "java/lang/invoke/VarHandle") ∧ (parseMethodDescriptor yJ2_getChar_3b067.desc).map (fun d => d.parameters.length) = some 2 := ⟨xw_inI 521 (by decide +kernel) rfl, xw_inI 149 (by decide +kernel) rfl, by decide +kernel, by decide +kernel⟩
set_option maxRecDepth 100000 in
theorem mk_J2_getChar_3b067 : Cond.static yJ2_getChar_3b067 ∈ xw_tbl := xw_inI 520 (by decide +kernel) rfl
set_option maxRecDepth 100000 in
theorem ml_J2_71 : xk_MS RJ2 71 yJ2_getChar_3b067 cJ2_getChar_3b067 2 (some .char) 2 := ⟨⟨mc_J2_getChar_3b067.1, mc_J2_getChar_3b067.2.1, mc_J2_getChar_3b067.2.2.1, mc_J2_getChar_3b067.2.2.2, Or.inl (xw_inI 519 (by decide +kernel) rfl)⟩, mk_J2_getChar_3b067⟩
set_option maxRecDepth 100000 in
theorem kl_X7_197 : Cond.constantLong RX7 197 (-1) ∈ xw_tbl := xw_inI 799 (by decide +kernel) rfl
set_option maxRecDepth 100000 in
theorem kl_X7_217 : Cond.constantLong RX7 217 (-2) ∈ xw_tbl := xw_inI 850 (by decide +kernel) rfl
set_option maxRecDepth 100000 in
theorem kl_X0_78 : Cond.constant RX0 78 (1000000) ∈ xw_tbl := xw_inI 764 (by decide +kernel) rfl
set_option maxRecDepth 100000 in
theorem kl_X8_166 : Cond.constant RX8 166 (1000000) ∈ xw_tbl := xw_inI 1335 (by decide +kernel) rfl
set_option maxRecDepth 100000 in
theorem kl_X8_190 : Cond.constantLong RX8 190 (-1) ∈ xw_tbl := xw_inI 1352 (by decide +kernel) rfl
set_option maxRecDepth 100000 in
theorem kl_X8_207 : Cond.constantLong RX8 207 (-2) ∈ xw_tbl := xw_inI 1408 (by decide +kernel) rfl
set_option maxRecDepth 100000 in
theorem mm_min : Cond.static Lib.Math.min.name ∈ xw_tbl ∧ Cond.initialized "java/lang/Math" ∈ xw_tbl ∧ Cond.code Lib.Math.min.name Lib.Math.min.code 2 (some .int) ∈ xw_tbl := ⟨xw_inI 612 (by decide +kernel) rfl, xw_inI 150 (by decide +kernel) rfl, xw_inI 613 (by decide +kernel) rfl⟩
set_option maxRecDepth 100000 in
theorem mm_X7_173 : Cond.methodLink RX7 173 Lib.Math.min.name ∈ xw_tbl := xw_inI 777 (by decide +kernel) rfl
set_option maxRecDepth 100000 in
theorem mm_X0_72 : Cond.methodLink RX0 72 Lib.Math.min.name ∈ xw_tbl := xw_inI 670 (by decide +kernel) rfl
set_option maxRecDepth 100000 in
theorem mm_X1_29 : Cond.methodLink RX1 29 Lib.Math.min.name ∈ xw_tbl := xw_inI 769 (by decide +kernel) rfl
set_option maxRecDepth 100000 in
theorem mm_X2_29 : Cond.methodLink RX2 29 Lib.Math.min.name ∈ xw_tbl := xw_inI 611 (by decide +kernel) rfl
set_option maxRecDepth 100000 in
theorem mm_X4_110 : Cond.methodLink RX4 110 Lib.Math.min.name ∈ xw_tbl := xw_inI 719 (by decide +kernel) rfl
set_option maxRecDepth 100000 in
theorem mm_max : Cond.static Lib.Math.max.name ∈ xw_tbl ∧ Cond.initialized "java/lang/Math" ∈ xw_tbl ∧ Cond.code Lib.Math.max.name Lib.Math.max.code 2 (some .int) ∈ xw_tbl := ⟨xw_inI 705 (by decide +kernel) rfl, xw_inI 150 (by decide +kernel) rfl, xw_inI 706 (by decide +kernel) rfl⟩
set_option maxRecDepth 100000 in
theorem mm_X1_35 : Cond.methodLink RX1 35 Lib.Math.max.name ∈ xw_tbl := xw_inI 1003 (by decide +kernel) rfl
set_option maxRecDepth 100000 in
theorem mm_X4_84 : Cond.methodLink RX4 84 Lib.Math.max.name ∈ xw_tbl := xw_inI 704 (by decide +kernel) rfl
set_option maxRecDepth 100000 in
theorem sl_X7_254 : Cond.fieldLink RX7 254 "BillTender" "LEAST" "[I" ∈ xw_tbl ∨ Cond.fieldLinkNest RX7 254 "BillTender" "LEAST" "[I" "BillTender" ∈ xw_nst := Or.inl (xw_inI 933 (by decide +kernel) rfl)
set_option maxRecDepth 100000 in
theorem sl_X7_257 : Cond.fieldLink RX7 257 "BillTender" "MOST" "[I" ∈ xw_tbl ∨ Cond.fieldLinkNest RX7 257 "BillTender" "MOST" "[I" "BillTender" ∈ xw_nst := Or.inl (xw_inI 934 (by decide +kernel) rfl)
set_option maxRecDepth 100000 in
theorem sl_X0_44 : Cond.fieldLink RX0 44 "BillTender" "FIRST" "[I" ∈ xw_tbl ∨ Cond.fieldLinkNest RX0 44 "BillTender" "FIRST" "[I" "BillTender" ∈ xw_nst := Or.inr (xw_inNI 199 (by decide +kernel) rfl)
set_option maxRecDepth 100000 in
theorem sl_X0_54 : Cond.fieldLink RX0 54 "BillTender" "LEAST" "[I" ∈ xw_tbl ∨ Cond.fieldLinkNest RX0 54 "BillTender" "LEAST" "[I" "BillTender" ∈ xw_nst := Or.inr (xw_inNI 648 (by decide +kernel) rfl)
set_option maxRecDepth 100000 in
theorem sl_X0_57 : Cond.fieldLink RX0 57 "BillTender" "MOST" "[I" ∈ xw_tbl ∨ Cond.fieldLinkNest RX0 57 "BillTender" "MOST" "[I" "BillTender" ∈ xw_nst := Or.inr (xw_inNI 649 (by decide +kernel) rfl)
set_option maxRecDepth 100000 in
theorem sl_X3_107 : Cond.fieldLink RX3 107 "BillTender" "LEAST" "[I" ∈ xw_tbl ∨ Cond.fieldLinkNest RX3 107 "BillTender" "LEAST" "[I" "BillTender" ∈ xw_nst := Or.inr (xw_inNI 532 (by decide +kernel) rfl)
set_option maxRecDepth 100000 in
theorem sl_X3_110 : Cond.fieldLink RX3 110 "BillTender" "MOST" "[I" ∈ xw_tbl ∨ Cond.fieldLinkNest RX3 110 "BillTender" "MOST" "[I" "BillTender" ∈ xw_nst := Or.inr (xw_inNI 534 (by decide +kernel) rfl)
set_option maxRecDepth 100000 in
theorem cl_X7_7 : Cond.classLink RX7 7 "BillTender$Book" ∈ xw_tbl := xw_inI 159 (by decide +kernel) rfl
set_option maxRecDepth 100000 in
theorem cl_X7_16 : Cond.classLink RX7 16 "BillTender$Sale" ∈ xw_tbl := xw_inI 252 (by decide +kernel) rfl
set_option maxRecDepth 100000 in
theorem cl_X7_31 : Cond.classLink RX7 31 "BillTender$Past" ∈ xw_tbl := xw_inI 321 (by decide +kernel) rfl
set_option maxRecDepth 100000 in
theorem cl_X7_38 : Cond.classLink RX7 38 "BillTender$Tape" ∈ xw_tbl := xw_inI 341 (by decide +kernel) rfl
set_option maxRecDepth 100000 in
theorem cl_X7_45 : Cond.classLink RX7 45 "BillTender$Reader" ∈ xw_tbl := xw_inI 356 (by decide +kernel) rfl
set_option maxRecDepth 100000 in
theorem cl_X7_54 : Cond.classLink RX7 54 "BillTender$Speller" ∈ xw_tbl := xw_inI 378 (by decide +kernel) rfl
set_option maxRecDepth 100000 in
theorem cl_X0_30 : Cond.classLink RX0 30 "BillTender$Ledger" ∈ xw_tbl := xw_inI 165 (by decide +kernel) rfl
set_option maxRecDepth 100000 in
theorem cl_X2_9 : Cond.classLink RX2 9 "BillTender$Book" ∈ xw_tbl := xw_inI 327 (by decide +kernel) rfl
set_option maxRecDepth 100000 in
theorem cl_L_7 : Cond.classLink RL 7 "BillTender" ∈ xw_tbl := xw_inI 151 (by decide +kernel) rfl
set_option maxRecDepth 100000 in
theorem cl_L_10 : Cond.classLink RL 10 "BillTenderModel" ∈ xw_tbl := xw_inI 1083 (by decide +kernel) rfl
