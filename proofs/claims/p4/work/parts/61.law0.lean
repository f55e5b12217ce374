theorem w393 : (.methodLink RL 13 yX11_feed : Cond) ∈ TB := mTB (List.mem_of_getElem? (i := 393) (by decide +kernel)) (by decide +kernel)
theorem w394 : (.instanceMethod yX11_feed : Cond) ∈ TB := mTB (List.mem_of_getElem? (i := 394) (by decide +kernel)) (by decide +kernel)
theorem w395 : (.selects RX11 yX11_feed yX11_feed : Cond) ∈ TB := mTB (List.mem_of_getElem? (i := 395) (by decide +kernel)) (by decide +kernel)
theorem w396 : (.code yX11_feed cX11_feed 6 (some .int) : Cond) ∈ TB := mTB (List.mem_of_getElem? (i := 396) (by decide +kernel)) (by decide +kernel)
theorem w401 : (.methodLink RL 18 yX11_tell : Cond) ∈ TB := mTB (List.mem_of_getElem? (i := 401) (by decide +kernel)) (by decide +kernel)
theorem w402 : (.instanceMethod yX11_tell : Cond) ∈ TB := mTB (List.mem_of_getElem? (i := 402) (by decide +kernel)) (by decide +kernel)
theorem w403 : (.selects RX11 yX11_tell yX11_tell : Cond) ∈ TB := mTB (List.mem_of_getElem? (i := 403) (by decide +kernel)) (by decide +kernel)
theorem w404 : (.code yX11_tell cX11_tell 2 (some .int) : Cond) ∈ TB := mTB (List.mem_of_getElem? (i := 404) (by decide +kernel)) (by decide +kernel)
theorem w590 : (.methodLink RL 23 yX11_fault : Cond) ∈ TB := mTB (List.mem_of_getElem? (i := 590) (by decide +kernel)) (by decide +kernel)
theorem w591 : (.instanceMethod yX11_fault : Cond) ∈ TB := mTB (List.mem_of_getElem? (i := 591) (by decide +kernel)) (by decide +kernel)
theorem w592 : (.selects RX11 yX11_fault yX11_fault : Cond) ∈ TB := mTB (List.mem_of_getElem? (i := 592) (by decide +kernel)) (by decide +kernel)
theorem w593 : (.code yX11_fault cX11_fault 2 (some .int) : Cond) ∈ TB := mTB (List.mem_of_getElem? (i := 593) (by decide +kernel)) (by decide +kernel)
theorem w594 : (.methodLink RL 27 yX11_trade : Cond) ∈ TB := mTB (List.mem_of_getElem? (i := 594) (by decide +kernel)) (by decide +kernel)
theorem w595 : (.instanceMethod yX11_trade : Cond) ∈ TB := mTB (List.mem_of_getElem? (i := 595) (by decide +kernel)) (by decide +kernel)
theorem w596 : (.selects RX11 yX11_trade yX11_trade : Cond) ∈ TB := mTB (List.mem_of_getElem? (i := 596) (by decide +kernel)) (by decide +kernel)
theorem w597 : (.code yX11_trade cX11_trade 5 (some .int) : Cond) ∈ TB := mTB (List.mem_of_getElem? (i := 597) (by decide +kernel)) (by decide +kernel)
theorem w635 : (.methodLink RL 32 yX11_drop : Cond) ∈ TB := mTB (List.mem_of_getElem? (i := 635) (by decide +kernel)) (by decide +kernel)
theorem w636 : (.instanceMethod yX11_drop : Cond) ∈ TB := mTB (List.mem_of_getElem? (i := 636) (by decide +kernel)) (by decide +kernel)
theorem w637 : (.selects RX11 yX11_drop yX11_drop : Cond) ∈ TB := mTB (List.mem_of_getElem? (i := 637) (by decide +kernel)) (by decide +kernel)
theorem w638 : (.code yX11_drop cX11_drop 2 (some .int) : Cond) ∈ TB := mTB (List.mem_of_getElem? (i := 638) (by decide +kernel)) (by decide +kernel)
theorem w647 : (.methodLink RL 36 yX11_keep : Cond) ∈ TB := mTB (List.mem_of_getElem? (i := 647) (by decide +kernel)) (by decide +kernel)
theorem w648 : (.instanceMethod yX11_keep : Cond) ∈ TB := mTB (List.mem_of_getElem? (i := 648) (by decide +kernel)) (by decide +kernel)
theorem w649 : (.selects RX11 yX11_keep yX11_keep : Cond) ∈ TB := mTB (List.mem_of_getElem? (i := 649) (by decide +kernel)) (by decide +kernel)
theorem w650 : (.code yX11_keep cX11_keep 2 (some .int) : Cond) ∈ TB := mTB (List.mem_of_getElem? (i := 650) (by decide +kernel)) (by decide +kernel)
theorem w651 : (.methodLink RL 40 yX11_mode : Cond) ∈ TB := mTB (List.mem_of_getElem? (i := 651) (by decide +kernel)) (by decide +kernel)
theorem w652 : (.instanceMethod yX11_mode : Cond) ∈ TB := mTB (List.mem_of_getElem? (i := 652) (by decide +kernel)) (by decide +kernel)
theorem w653 : (.selects RX11 yX11_mode yX11_mode : Cond) ∈ TB := mTB (List.mem_of_getElem? (i := 653) (by decide +kernel)) (by decide +kernel)
theorem w654 : (.code yX11_mode cX11_mode 3 (some .int) : Cond) ∈ TB := mTB (List.mem_of_getElem? (i := 654) (by decide +kernel)) (by decide +kernel)
theorem w655 : (.methodLink RL 44 yX11_cap : Cond) ∈ TB := mTB (List.mem_of_getElem? (i := 655) (by decide +kernel)) (by decide +kernel)
theorem w656 : (.instanceMethod yX11_cap : Cond) ∈ TB := mTB (List.mem_of_getElem? (i := 656) (by decide +kernel)) (by decide +kernel)
theorem w657 : (.selects RX11 yX11_cap yX11_cap : Cond) ∈ TB := mTB (List.mem_of_getElem? (i := 657) (by decide +kernel)) (by decide +kernel)
theorem w658 : (.code yX11_cap cX11_cap 5 (some .int) : Cond) ∈ TB := mTB (List.mem_of_getElem? (i := 658) (by decide +kernel)) (by decide +kernel)
theorem w661 : (.methodLink RL 49 yX11_takeRing : Cond) ∈ TB := mTB (List.mem_of_getElem? (i := 661) (by decide +kernel)) (by decide +kernel)
theorem w662 : (.instanceMethod yX11_takeRing : Cond) ∈ TB := mTB (List.mem_of_getElem? (i := 662) (by decide +kernel)) (by decide +kernel)
theorem w663 : (.selects RX11 yX11_takeRing yX11_takeRing : Cond) ∈ TB := mTB (List.mem_of_getElem? (i := 663) (by decide +kernel)) (by decide +kernel)
theorem w664 : (.code yX11_takeRing cX11_takeRing 5 (some .int) : Cond) ∈ TB := mTB (List.mem_of_getElem? (i := 664) (by decide +kernel)) (by decide +kernel)
theorem w725 : (.methodLink RL 53 yX11_press : Cond) ∈ TB := mTB (List.mem_of_getElem? (i := 725) (by decide +kernel)) (by decide +kernel)
theorem w726 : (.instanceMethod yX11_press : Cond) ∈ TB := mTB (List.mem_of_getElem? (i := 726) (by decide +kernel)) (by decide +kernel)
theorem w727 : (.selects RX11 yX11_press yX11_press : Cond) ∈ TB := mTB (List.mem_of_getElem? (i := 727) (by decide +kernel)) (by decide +kernel)
theorem w728 : (.code yX11_press cX11_press 6 (some .int) : Cond) ∈ TB := mTB (List.mem_of_getElem? (i := 728) (by decide +kernel)) (by decide +kernel)
theorem w1179 : (.methodLink RL 17 yX12_feed : Cond) ∈ TB := mTB (List.mem_of_getElem? (i := 1179) (by decide +kernel)) (by decide +kernel)
theorem w1180 : (.instanceMethod yX12_feed : Cond) ∈ TB := mTB (List.mem_of_getElem? (i := 1180) (by decide +kernel)) (by decide +kernel)
theorem w1181 : (.selects RX12 yX12_feed yX12_feed : Cond) ∈ TB := mTB (List.mem_of_getElem? (i := 1181) (by decide +kernel)) (by decide +kernel)
theorem w1182 : (.code yX12_feed cX12_feed 8 (some .int) : Cond) ∈ TB := mTB (List.mem_of_getElem? (i := 1182) (by decide +kernel)) (by decide +kernel)
theorem w1183 : (.methodLink RL 22 yX12_tell : Cond) ∈ TB := mTB (List.mem_of_getElem? (i := 1183) (by decide +kernel)) (by decide +kernel)
theorem w1184 : (.instanceMethod yX12_tell : Cond) ∈ TB := mTB (List.mem_of_getElem? (i := 1184) (by decide +kernel)) (by decide +kernel)
theorem w1185 : (.selects RX12 yX12_tell yX12_tell : Cond) ∈ TB := mTB (List.mem_of_getElem? (i := 1185) (by decide +kernel)) (by decide +kernel)
theorem w1186 : (.code yX12_tell cX12_tell 5 (some .int) : Cond) ∈ TB := mTB (List.mem_of_getElem? (i := 1186) (by decide +kernel)) (by decide +kernel)
theorem w1272 : (.methodLink RL 26 yX12_fault : Cond) ∈ TB := mTB (List.mem_of_getElem? (i := 1272) (by decide +kernel)) (by decide +kernel)
theorem w1273 : (.instanceMethod yX12_fault : Cond) ∈ TB := mTB (List.mem_of_getElem? (i := 1273) (by decide +kernel)) (by decide +kernel)
theorem w1274 : (.selects RX12 yX12_fault yX12_fault : Cond) ∈ TB := mTB (List.mem_of_getElem? (i := 1274) (by decide +kernel)) (by decide +kernel)
theorem w1275 : (.code yX12_fault cX12_fault 2 (some .int) : Cond) ∈ TB := mTB (List.mem_of_getElem? (i := 1275) (by decide +kernel)) (by decide +kernel)
theorem w1276 : (.methodLink RL 31 yX12_trade : Cond) ∈ TB := mTB (List.mem_of_getElem? (i := 1276) (by decide +kernel)) (by decide +kernel)
theorem w1277 : (.instanceMethod yX12_trade : Cond) ∈ TB := mTB (List.mem_of_getElem? (i := 1277) (by decide +kernel)) (by decide +kernel)
theorem w1278 : (.selects RX12 yX12_trade yX12_trade : Cond) ∈ TB := mTB (List.mem_of_getElem? (i := 1278) (by decide +kernel)) (by decide +kernel)
theorem w1279 : (.code yX12_trade cX12_trade 5 (some .int) : Cond) ∈ TB := mTB (List.mem_of_getElem? (i := 1279) (by decide +kernel)) (by decide +kernel)
theorem w1297 : (.methodLink RL 35 yX12_drop : Cond) ∈ TB := mTB (List.mem_of_getElem? (i := 1297) (by decide +kernel)) (by decide +kernel)
theorem w1298 : (.instanceMethod yX12_drop : Cond) ∈ TB := mTB (List.mem_of_getElem? (i := 1298) (by decide +kernel)) (by decide +kernel)
theorem w1299 : (.selects RX12 yX12_drop yX12_drop : Cond) ∈ TB := mTB (List.mem_of_getElem? (i := 1299) (by decide +kernel)) (by decide +kernel)
theorem w1300 : (.code yX12_drop cX12_drop 2 (some .int) : Cond) ∈ TB := mTB (List.mem_of_getElem? (i := 1300) (by decide +kernel)) (by decide +kernel)
theorem w1309 : (.methodLink RL 39 yX12_keep : Cond) ∈ TB := mTB (List.mem_of_getElem? (i := 1309) (by decide +kernel)) (by decide +kernel)
theorem w1310 : (.instanceMethod yX12_keep : Cond) ∈ TB := mTB (List.mem_of_getElem? (i := 1310) (by decide +kernel)) (by decide +kernel)
theorem w1311 : (.selects RX12 yX12_keep yX12_keep : Cond) ∈ TB := mTB (List.mem_of_getElem? (i := 1311) (by decide +kernel)) (by decide +kernel)
theorem w1312 : (.code yX12_keep cX12_keep 2 (some .int) : Cond) ∈ TB := mTB (List.mem_of_getElem? (i := 1312) (by decide +kernel)) (by decide +kernel)
theorem w1313 : (.methodLink RL 43 yX12_mode : Cond) ∈ TB := mTB (List.mem_of_getElem? (i := 1313) (by decide +kernel)) (by decide +kernel)
theorem w1314 : (.instanceMethod yX12_mode : Cond) ∈ TB := mTB (List.mem_of_getElem? (i := 1314) (by decide +kernel)) (by decide +kernel)
theorem w1315 : (.selects RX12 yX12_mode yX12_mode : Cond) ∈ TB := mTB (List.mem_of_getElem? (i := 1315) (by decide +kernel)) (by decide +kernel)
theorem w1316 : (.code yX12_mode cX12_mode 3 (some .int) : Cond) ∈ TB := mTB (List.mem_of_getElem? (i := 1316) (by decide +kernel)) (by decide +kernel)
theorem w1318 : (.methodLink RL 48 yX12_cap : Cond) ∈ TB := mTB (List.mem_of_getElem? (i := 1318) (by decide +kernel)) (by decide +kernel)
theorem w1319 : (.instanceMethod yX12_cap : Cond) ∈ TB := mTB (List.mem_of_getElem? (i := 1319) (by decide +kernel)) (by decide +kernel)
theorem w1320 : (.selects RX12 yX12_cap yX12_cap : Cond) ∈ TB := mTB (List.mem_of_getElem? (i := 1320) (by decide +kernel)) (by decide +kernel)
theorem w1321 : (.code yX12_cap cX12_cap 5 (some .int) : Cond) ∈ TB := mTB (List.mem_of_getElem? (i := 1321) (by decide +kernel)) (by decide +kernel)
theorem w1439 : (.methodLink RL 52 yX12_takeRing : Cond) ∈ TB := mTB (List.mem_of_getElem? (i := 1439) (by decide +kernel)) (by decide +kernel)
theorem w1440 : (.instanceMethod yX12_takeRing : Cond) ∈ TB := mTB (List.mem_of_getElem? (i := 1440) (by decide +kernel)) (by decide +kernel)
theorem w1441 : (.selects RX12 yX12_takeRing yX12_takeRing : Cond) ∈ TB := mTB (List.mem_of_getElem? (i := 1441) (by decide +kernel)) (by decide +kernel)
theorem w1442 : (.code yX12_takeRing cX12_takeRing 7 (some .int) : Cond) ∈ TB := mTB (List.mem_of_getElem? (i := 1442) (by decide +kernel)) (by decide +kernel)
theorem w1547 : (.methodLink RL 56 yX12_press : Cond) ∈ TB := mTB (List.mem_of_getElem? (i := 1547) (by decide +kernel)) (by decide +kernel)
theorem w1548 : (.instanceMethod yX12_press : Cond) ∈ TB := mTB (List.mem_of_getElem? (i := 1548) (by decide +kernel)) (by decide +kernel)
theorem w1549 : (.selects RX12 yX12_press yX12_press : Cond) ∈ TB := mTB (List.mem_of_getElem? (i := 1549) (by decide +kernel)) (by decide +kernel)
theorem w1550 : (.code yX12_press cX12_press 4 (some .int) : Cond) ∈ TB := mTB (List.mem_of_getElem? (i := 1550) (by decide +kernel)) (by decide +kernel)
theorem dL_law_196 : decode cL_law 196 = .ok (.aload_n 1, 1) := by decide +kernel
theorem dL_law_197 : decode cL_law 197 = .ok (.aload_n 0, 1) := by decide +kernel
theorem dL_law_198 : decode cL_law 198 = .ok (.iload_n 3, 1) := by decide +kernel
theorem dL_law_199 : decode cL_law 199 = .ok (.iconst 1, 1) := by decide +kernel
theorem dL_law_200 : decode cL_law 200 = .ok (.iadd, 1) := by decide +kernel
theorem dL_law_201 : decode cL_law 201 = .ok (.iaload, 1) := by decide +kernel
theorem dL_law_202 : decode cL_law 202 = .ok (.aload_n 0, 1) := by decide +kernel
theorem dL_law_203 : decode cL_law 203 = .ok (.iload_n 3, 1) := by decide +kernel
theorem dL_law_204 : decode cL_law 204 = .ok (.iconst 2, 1) := by decide +kernel
theorem dL_law_205 : decode cL_law 205 = .ok (.iadd, 1) := by decide +kernel
theorem dL_law_206 : decode cL_law 206 = .ok (.iaload, 1) := by decide +kernel
theorem dL_law_207 : decode cL_law 207 = .ok (.aload_n 0, 1) := by decide +kernel
theorem dL_law_208 : decode cL_law 208 = .ok (.iload_n 3, 1) := by decide +kernel
theorem dL_law_209 : decode cL_law 209 = .ok (.iconst 3, 1) := by decide +kernel
theorem dL_law_210 : decode cL_law 210 = .ok (.iadd, 1) := by decide +kernel
theorem dL_law_211 : decode cL_law 211 = .ok (.iaload, 1) := by decide +kernel
theorem dL_law_212 : decode cL_law 212 = .ok (.aload_n 0, 1) := by decide +kernel
theorem dL_law_213 : decode cL_law 213 = .ok (.iload_n 3, 1) := by decide +kernel
theorem dL_law_214 : decode cL_law 214 = .ok (.iconst 4, 1) := by decide +kernel
theorem dL_law_215 : decode cL_law 215 = .ok (.iadd, 1) := by decide +kernel
theorem dL_law_216 : decode cL_law 216 = .ok (.iaload, 1) := by decide +kernel
theorem dL_law_217 : decode cL_law 217 = .ok (.aload_n 0, 1) := by decide +kernel
theorem dL_law_218 : decode cL_law 218 = .ok (.iload_n 3, 1) := by decide +kernel
theorem dL_law_219 : decode cL_law 219 = .ok (.iconst 5, 1) := by decide +kernel
theorem dL_law_220 : decode cL_law 220 = .ok (.iadd, 1) := by decide +kernel
theorem dL_law_221 : decode cL_law 221 = .ok (.iaload, 1) := by decide +kernel
theorem dL_law_222 : decode cL_law 222 = .ok (.invokevirtual 13, 3) := by decide +kernel
theorem dL_law_225 : decode cL_law 225 = .ok (.pop, 1) := by decide +kernel
theorem dL_law_226 : decode cL_law 226 = .ok (.aload_n 2, 1) := by decide +kernel
theorem dL_law_227 : decode cL_law 227 = .ok (.aload_n 0, 1) := by decide +kernel
theorem dL_law_228 : decode cL_law 228 = .ok (.iload_n 3, 1) := by decide +kernel
theorem dL_law_229 : decode cL_law 229 = .ok (.iconst 1, 1) := by decide +kernel
theorem dL_law_230 : decode cL_law 230 = .ok (.iadd, 1) := by decide +kernel
theorem dL_law_231 : decode cL_law 231 = .ok (.iaload, 1) := by decide +kernel
theorem dL_law_232 : decode cL_law 232 = .ok (.aload_n 0, 1) := by decide +kernel
theorem dL_law_233 : decode cL_law 233 = .ok (.iload_n 3, 1) := by decide +kernel
theorem dL_law_234 : decode cL_law 234 = .ok (.iconst 2, 1) := by decide +kernel
theorem dL_law_235 : decode cL_law 235 = .ok (.iadd, 1) := by decide +kernel
theorem dL_law_236 : decode cL_law 236 = .ok (.iaload, 1) := by decide +kernel
theorem dL_law_237 : decode cL_law 237 = .ok (.aload_n 0, 1) := by decide +kernel
theorem dL_law_238 : decode cL_law 238 = .ok (.iload_n 3, 1) := by decide +kernel
theorem dL_law_239 : decode cL_law 239 = .ok (.iconst 3, 1) := by decide +kernel
theorem dL_law_240 : decode cL_law 240 = .ok (.iadd, 1) := by decide +kernel
theorem dL_law_241 : decode cL_law 241 = .ok (.iaload, 1) := by decide +kernel
theorem dL_law_242 : decode cL_law 242 = .ok (.aload_n 0, 1) := by decide +kernel
theorem dL_law_243 : decode cL_law 243 = .ok (.iload_n 3, 1) := by decide +kernel
theorem dL_law_244 : decode cL_law 244 = .ok (.iconst 4, 1) := by decide +kernel
theorem dL_law_245 : decode cL_law 245 = .ok (.iadd, 1) := by decide +kernel
theorem dL_law_246 : decode cL_law 246 = .ok (.iaload, 1) := by decide +kernel
theorem dL_law_247 : decode cL_law 247 = .ok (.aload_n 0, 1) := by decide +kernel
theorem dL_law_248 : decode cL_law 248 = .ok (.iload_n 3, 1) := by decide +kernel
theorem dL_law_249 : decode cL_law 249 = .ok (.iconst 5, 1) := by decide +kernel
theorem dL_law_250 : decode cL_law 250 = .ok (.iadd, 1) := by decide +kernel
theorem dL_law_251 : decode cL_law 251 = .ok (.iaload, 1) := by decide +kernel
theorem dL_law_252 : decode cL_law 252 = .ok (.invokevirtual 17, 3) := by decide +kernel
theorem dL_law_255 : decode cL_law 255 = .ok (.pop, 1) := by decide +kernel
theorem dL_law_256 : decode cL_law 256 = .ok (.goto 1177, 3) := by decide +kernel
theorem dL_law_259 : decode cL_law 259 = .ok (.aload_n 1, 1) := by decide +kernel
theorem dL_law_260 : decode cL_law 260 = .ok (.aload_n 0, 1) := by decide +kernel
theorem dL_law_261 : decode cL_law 261 = .ok (.iload_n 3, 1) := by decide +kernel
theorem dL_law_262 : decode cL_law 262 = .ok (.iconst 1, 1) := by decide +kernel
theorem dL_law_263 : decode cL_law 263 = .ok (.iadd, 1) := by decide +kernel
theorem dL_law_264 : decode cL_law 264 = .ok (.iaload, 1) := by decide +kernel
theorem dL_law_265 : decode cL_law 265 = .ok (.invokevirtual 18, 3) := by decide +kernel
theorem dL_law_268 : decode cL_law 268 = .ok (.pop, 1) := by decide +kernel
theorem dL_law_269 : decode cL_law 269 = .ok (.aload_n 2, 1) := by decide +kernel
theorem dL_law_270 : decode cL_law 270 = .ok (.aload_n 0, 1) := by decide +kernel
theorem dL_law_271 : decode cL_law 271 = .ok (.iload_n 3, 1) := by decide +kernel
theorem dL_law_272 : decode cL_law 272 = .ok (.iconst 1, 1) := by decide +kernel
theorem dL_law_273 : decode cL_law 273 = .ok (.iadd, 1) := by decide +kernel
theorem dL_law_274 : decode cL_law 274 = .ok (.iaload, 1) := by decide +kernel
theorem dL_law_275 : decode cL_law 275 = .ok (.invokevirtual 22, 3) := by decide +kernel
theorem dL_law_278 : decode cL_law 278 = .ok (.pop, 1) := by decide +kernel
theorem dL_law_279 : decode cL_law 279 = .ok (.goto 1154, 3) := by decide +kernel
theorem dL_law_282 : decode cL_law 282 = .ok (.aload_n 1, 1) := by decide +kernel
theorem dL_law_283 : decode cL_law 283 = .ok (.aload_n 0, 1) := by decide +kernel
theorem dL_law_284 : decode cL_law 284 = .ok (.iload_n 3, 1) := by decide +kernel
theorem dL_law_285 : decode cL_law 285 = .ok (.iconst 1, 1) := by decide +kernel
theorem dL_law_286 : decode cL_law 286 = .ok (.iadd, 1) := by decide +kernel
theorem dL_law_287 : decode cL_law 287 = .ok (.iaload, 1) := by decide +kernel
theorem dL_law_288 : decode cL_law 288 = .ok (.invokevirtual 23, 3) := by decide +kernel
theorem dL_law_291 : decode cL_law 291 = .ok (.aload_n 2, 1) := by decide +kernel
theorem dL_law_292 : decode cL_law 292 = .ok (.aload_n 0, 1) := by decide +kernel
theorem dL_law_293 : decode cL_law 293 = .ok (.iload_n 3, 1) := by decide +kernel
theorem dL_law_294 : decode cL_law 294 = .ok (.iconst 1, 1) := by decide +kernel
theorem dL_law_295 : decode cL_law 295 = .ok (.iadd, 1) := by decide +kernel
theorem dL_law_296 : decode cL_law 296 = .ok (.iaload, 1) := by decide +kernel
theorem dL_law_297 : decode cL_law 297 = .ok (.invokevirtual 26, 3) := by decide +kernel
theorem dL_law_300 : decode cL_law 300 = .ok (.if_icmp .eq 1133, 3) := by decide +kernel
theorem dL_law_305 : decode cL_law 305 = .ok (.aload_n 1, 1) := by decide +kernel
theorem dL_law_306 : decode cL_law 306 = .ok (.aload_n 0, 1) := by decide +kernel
theorem dL_law_307 : decode cL_law 307 = .ok (.iload_n 3, 1) := by decide +kernel
theorem dL_law_308 : decode cL_law 308 = .ok (.iconst 1, 1) := by decide +kernel
theorem dL_law_309 : decode cL_law 309 = .ok (.iadd, 1) := by decide +kernel
theorem dL_law_310 : decode cL_law 310 = .ok (.iaload, 1) := by decide +kernel
theorem dL_law_311 : decode cL_law 311 = .ok (.aload_n 0, 1) := by decide +kernel
theorem dL_law_312 : decode cL_law 312 = .ok (.iload_n 3, 1) := by decide +kernel
theorem dL_law_313 : decode cL_law 313 = .ok (.iconst 2, 1) := by decide +kernel
theorem dL_law_314 : decode cL_law 314 = .ok (.iadd, 1) := by decide +kernel
theorem dL_law_315 : decode cL_law 315 = .ok (.iaload, 1) := by decide +kernel
theorem dL_law_316 : decode cL_law 316 = .ok (.aload_n 0, 1) := by decide +kernel
theorem dL_law_317 : decode cL_law 317 = .ok (.iload_n 3, 1) := by decide +kernel
theorem dL_law_318 : decode cL_law 318 = .ok (.iconst 3, 1) := by decide +kernel
theorem dL_law_319 : decode cL_law 319 = .ok (.iadd, 1) := by decide +kernel
theorem dL_law_320 : decode cL_law 320 = .ok (.iaload, 1) := by decide +kernel
theorem dL_law_321 : decode cL_law 321 = .ok (.aload_n 0, 1) := by decide +kernel
theorem dL_law_322 : decode cL_law 322 = .ok (.iload_n 3, 1) := by decide +kernel
theorem dL_law_323 : decode cL_law 323 = .ok (.iconst 4, 1) := by decide +kernel
theorem dL_law_324 : decode cL_law 324 = .ok (.iadd, 1) := by decide +kernel
theorem dL_law_325 : decode cL_law 325 = .ok (.iaload, 1) := by decide +kernel
theorem dL_law_326 : decode cL_law 326 = .ok (.invokevirtual 27, 3) := by decide +kernel
theorem dL_law_329 : decode cL_law 329 = .ok (.pop, 1) := by decide +kernel
theorem dL_law_330 : decode cL_law 330 = .ok (.aload_n 2, 1) := by decide +kernel
theorem dL_law_331 : decode cL_law 331 = .ok (.aload_n 0, 1) := by decide +kernel
theorem dL_law_332 : decode cL_law 332 = .ok (.iload_n 3, 1) := by decide +kernel
theorem dL_law_333 : decode cL_law 333 = .ok (.iconst 1, 1) := by decide +kernel
theorem dL_law_334 : decode cL_law 334 = .ok (.iadd, 1) := by decide +kernel
theorem dL_law_335 : decode cL_law 335 = .ok (.iaload, 1) := by decide +kernel
theorem dL_law_336 : decode cL_law 336 = .ok (.aload_n 0, 1) := by decide +kernel
theorem dL_law_337 : decode cL_law 337 = .ok (.iload_n 3, 1) := by decide +kernel
theorem dL_law_338 : decode cL_law 338 = .ok (.iconst 2, 1) := by decide +kernel
theorem dL_law_339 : decode cL_law 339 = .ok (.iadd, 1) := by decide +kernel
theorem dL_law_340 : decode cL_law 340 = .ok (.iaload, 1) := by decide +kernel
theorem dL_law_341 : decode cL_law 341 = .ok (.aload_n 0, 1) := by decide +kernel
theorem dL_law_342 : decode cL_law 342 = .ok (.iload_n 3, 1) := by decide +kernel
theorem dL_law_343 : decode cL_law 343 = .ok (.iconst 3, 1) := by decide +kernel
theorem dL_law_344 : decode cL_law 344 = .ok (.iadd, 1) := by decide +kernel
theorem dL_law_345 : decode cL_law 345 = .ok (.iaload, 1) := by decide +kernel
theorem dL_law_346 : decode cL_law 346 = .ok (.aload_n 0, 1) := by decide +kernel
theorem dL_law_347 : decode cL_law 347 = .ok (.iload_n 3, 1) := by decide +kernel
theorem dL_law_348 : decode cL_law 348 = .ok (.iconst 4, 1) := by decide +kernel
theorem dL_law_349 : decode cL_law 349 = .ok (.iadd, 1) := by decide +kernel
theorem dL_law_350 : decode cL_law 350 = .ok (.iaload, 1) := by decide +kernel
theorem dL_law_351 : decode cL_law 351 = .ok (.invokevirtual 31, 3) := by decide +kernel
theorem dL_law_354 : decode cL_law 354 = .ok (.pop, 1) := by decide +kernel
theorem dL_law_355 : decode cL_law 355 = .ok (.goto 1078, 3) := by decide +kernel
theorem dL_law_358 : decode cL_law 358 = .ok (.aload_n 1, 1) := by decide +kernel
theorem dL_law_359 : decode cL_law 359 = .ok (.aload_n 0, 1) := by decide +kernel
theorem dL_law_360 : decode cL_law 360 = .ok (.iload_n 3, 1) := by decide +kernel
theorem dL_law_361 : decode cL_law 361 = .ok (.iconst 1, 1) := by decide +kernel
theorem dL_law_362 : decode cL_law 362 = .ok (.iadd, 1) := by decide +kernel
theorem dL_law_363 : decode cL_law 363 = .ok (.iaload, 1) := by decide +kernel
theorem dL_law_364 : decode cL_law 364 = .ok (.invokevirtual 32, 3) := by decide +kernel
theorem dL_law_367 : decode cL_law 367 = .ok (.pop, 1) := by decide +kernel
theorem dL_law_368 : decode cL_law 368 = .ok (.aload_n 2, 1) := by decide +kernel
theorem dL_law_369 : decode cL_law 369 = .ok (.aload_n 0, 1) := by decide +kernel
theorem dL_law_370 : decode cL_law 370 = .ok (.iload_n 3, 1) := by decide +kernel
theorem dL_law_371 : decode cL_law 371 = .ok (.iconst 1, 1) := by decide +kernel
theorem dL_law_372 : decode cL_law 372 = .ok (.iadd, 1) := by decide +kernel
theorem dL_law_373 : decode cL_law 373 = .ok (.iaload, 1) := by decide +kernel
theorem dL_law_374 : decode cL_law 374 = .ok (.invokevirtual 35, 3) := by decide +kernel
theorem dL_law_377 : decode cL_law 377 = .ok (.pop, 1) := by decide +kernel
theorem dL_law_378 : decode cL_law 378 = .ok (.goto 1055, 3) := by decide +kernel
theorem dL_law_381 : decode cL_law 381 = .ok (.aload_n 1, 1) := by decide +kernel
theorem dL_law_382 : decode cL_law 382 = .ok (.aload_n 0, 1) := by decide +kernel
theorem dL_law_383 : decode cL_law 383 = .ok (.iload_n 3, 1) := by decide +kernel
theorem dL_law_384 : decode cL_law 384 = .ok (.iconst 1, 1) := by decide +kernel
theorem dL_law_385 : decode cL_law 385 = .ok (.iadd, 1) := by decide +kernel
theorem dL_law_386 : decode cL_law 386 = .ok (.iaload, 1) := by decide +kernel
theorem dL_law_387 : decode cL_law 387 = .ok (.invokevirtual 36, 3) := by decide +kernel
theorem dL_law_390 : decode cL_law 390 = .ok (.pop, 1) := by decide +kernel
theorem dL_law_391 : decode cL_law 391 = .ok (.aload_n 2, 1) := by decide +kernel
theorem dL_law_392 : decode cL_law 392 = .ok (.aload_n 0, 1) := by decide +kernel
theorem dL_law_393 : decode cL_law 393 = .ok (.iload_n 3, 1) := by decide +kernel
theorem dL_law_394 : decode cL_law 394 = .ok (.iconst 1, 1) := by decide +kernel
theorem dL_law_395 : decode cL_law 395 = .ok (.iadd, 1) := by decide +kernel
theorem dL_law_396 : decode cL_law 396 = .ok (.iaload, 1) := by decide +kernel
theorem dL_law_397 : decode cL_law 397 = .ok (.invokevirtual 39, 3) := by decide +kernel
theorem dL_law_400 : decode cL_law 400 = .ok (.pop, 1) := by decide +kernel
theorem dL_law_401 : decode cL_law 401 = .ok (.goto 1032, 3) := by decide +kernel
theorem dL_law_404 : decode cL_law 404 = .ok (.aload_n 1, 1) := by decide +kernel
theorem dL_law_405 : decode cL_law 405 = .ok (.aload_n 0, 1) := by decide +kernel
theorem dL_law_406 : decode cL_law 406 = .ok (.iload_n 3, 1) := by decide +kernel
theorem dL_law_407 : decode cL_law 407 = .ok (.iconst 1, 1) := by decide +kernel
theorem dL_law_408 : decode cL_law 408 = .ok (.iadd, 1) := by decide +kernel
theorem dL_law_409 : decode cL_law 409 = .ok (.iaload, 1) := by decide +kernel
theorem dL_law_410 : decode cL_law 410 = .ok (.invokevirtual 40, 3) := by decide +kernel
theorem dL_law_413 : decode cL_law 413 = .ok (.pop, 1) := by decide +kernel
theorem dL_law_414 : decode cL_law 414 = .ok (.aload_n 2, 1) := by decide +kernel
theorem dL_law_415 : decode cL_law 415 = .ok (.aload_n 0, 1) := by decide +kernel
theorem dL_law_416 : decode cL_law 416 = .ok (.iload_n 3, 1) := by decide +kernel
theorem dL_law_417 : decode cL_law 417 = .ok (.iconst 1, 1) := by decide +kernel
theorem dL_law_418 : decode cL_law 418 = .ok (.iadd, 1) := by decide +kernel
theorem dL_law_419 : decode cL_law 419 = .ok (.iaload, 1) := by decide +kernel
theorem dL_law_420 : decode cL_law 420 = .ok (.invokevirtual 43, 3) := by decide +kernel
theorem dL_law_423 : decode cL_law 423 = .ok (.pop, 1) := by decide +kernel
theorem dL_law_424 : decode cL_law 424 = .ok (.goto 1009, 3) := by decide +kernel
theorem dL_law_427 : decode cL_law 427 = .ok (.aload_n 1, 1) := by decide +kernel
theorem dL_law_428 : decode cL_law 428 = .ok (.aload_n 0, 1) := by decide +kernel
theorem dL_law_429 : decode cL_law 429 = .ok (.iload_n 3, 1) := by decide +kernel
theorem dL_law_430 : decode cL_law 430 = .ok (.iconst 1, 1) := by decide +kernel
theorem dL_law_431 : decode cL_law 431 = .ok (.iadd, 1) := by decide +kernel
theorem dL_law_432 : decode cL_law 432 = .ok (.iaload, 1) := by decide +kernel
theorem dL_law_433 : decode cL_law 433 = .ok (.aload_n 0, 1) := by decide +kernel
theorem dL_law_434 : decode cL_law 434 = .ok (.iload_n 3, 1) := by decide +kernel
theorem dL_law_435 : decode cL_law 435 = .ok (.iconst 2, 1) := by decide +kernel
theorem dL_law_436 : decode cL_law 436 = .ok (.iadd, 1) := by decide +kernel
theorem dL_law_437 : decode cL_law 437 = .ok (.iaload, 1) := by decide +kernel
theorem dL_law_438 : decode cL_law 438 = .ok (.aload_n 0, 1) := by decide +kernel
theorem dL_law_439 : decode cL_law 439 = .ok (.iload_n 3, 1) := by decide +kernel
theorem dL_law_440 : decode cL_law 440 = .ok (.iconst 3, 1) := by decide +kernel
theorem dL_law_441 : decode cL_law 441 = .ok (.iadd, 1) := by decide +kernel
theorem dL_law_442 : decode cL_law 442 = .ok (.iaload, 1) := by decide +kernel
theorem dL_law_443 : decode cL_law 443 = .ok (.invokevirtual 44, 3) := by decide +kernel
theorem dL_law_446 : decode cL_law 446 = .ok (.pop, 1) := by decide +kernel
theorem dL_law_447 : decode cL_law 447 = .ok (.aload_n 2, 1) := by decide +kernel
theorem dL_law_448 : decode cL_law 448 = .ok (.aload_n 0, 1) := by decide +kernel
theorem dL_law_449 : decode cL_law 449 = .ok (.iload_n 3, 1) := by decide +kernel
theorem dL_law_450 : decode cL_law 450 = .ok (.iconst 1, 1) := by decide +kernel
theorem dL_law_451 : decode cL_law 451 = .ok (.iadd, 1) := by decide +kernel
theorem dL_law_452 : decode cL_law 452 = .ok (.iaload, 1) := by decide +kernel
theorem dL_law_453 : decode cL_law 453 = .ok (.aload_n 0, 1) := by decide +kernel
theorem dL_law_454 : decode cL_law 454 = .ok (.iload_n 3, 1) := by decide +kernel
theorem dL_law_455 : decode cL_law 455 = .ok (.iconst 2, 1) := by decide +kernel
theorem dL_law_456 : decode cL_law 456 = .ok (.iadd, 1) := by decide +kernel
theorem dL_law_457 : decode cL_law 457 = .ok (.iaload, 1) := by decide +kernel
theorem dL_law_458 : decode cL_law 458 = .ok (.aload_n 0, 1) := by decide +kernel
theorem dL_law_459 : decode cL_law 459 = .ok (.iload_n 3, 1) := by decide +kernel
theorem dL_law_460 : decode cL_law 460 = .ok (.iconst 3, 1) := by decide +kernel
theorem dL_law_461 : decode cL_law 461 = .ok (.iadd, 1) := by decide +kernel
theorem dL_law_462 : decode cL_law 462 = .ok (.iaload, 1) := by decide +kernel
theorem dL_law_463 : decode cL_law 463 = .ok (.invokevirtual 48, 3) := by decide +kernel
theorem dL_law_466 : decode cL_law 466 = .ok (.pop, 1) := by decide +kernel
theorem dL_law_467 : decode cL_law 467 = .ok (.goto 966, 3) := by decide +kernel
theorem dL_law_470 : decode cL_law 470 = .ok (.aload_n 1, 1) := by decide +kernel
theorem dL_law_471 : decode cL_law 471 = .ok (.aload_n 0, 1) := by decide +kernel
theorem dL_law_472 : decode cL_law 472 = .ok (.iload_n 3, 1) := by decide +kernel
theorem dL_law_473 : decode cL_law 473 = .ok (.iconst 1, 1) := by decide +kernel
theorem dL_law_474 : decode cL_law 474 = .ok (.iadd, 1) := by decide +kernel
theorem dL_law_475 : decode cL_law 475 = .ok (.iaload, 1) := by decide +kernel
theorem dL_law_476 : decode cL_law 476 = .ok (.invokevirtual 49, 3) := by decide +kernel
theorem dL_law_479 : decode cL_law 479 = .ok (.pop, 1) := by decide +kernel
theorem dL_law_480 : decode cL_law 480 = .ok (.aload_n 2, 1) := by decide +kernel
theorem dL_law_481 : decode cL_law 481 = .ok (.aload_n 0, 1) := by decide +kernel
theorem dL_law_482 : decode cL_law 482 = .ok (.iload_n 3, 1) := by decide +kernel
theorem dL_law_483 : decode cL_law 483 = .ok (.iconst 1, 1) := by decide +kernel
theorem dL_law_484 : decode cL_law 484 = .ok (.iadd, 1) := by decide +kernel
theorem dL_law_485 : decode cL_law 485 = .ok (.iaload, 1) := by decide +kernel
theorem dL_law_486 : decode cL_law 486 = .ok (.invokevirtual 52, 3) := by decide +kernel
theorem dL_law_489 : decode cL_law 489 = .ok (.pop, 1) := by decide +kernel
theorem dL_law_490 : decode cL_law 490 = .ok (.goto 943, 3) := by decide +kernel
theorem dL_law_493 : decode cL_law 493 = .ok (.aload_n 1, 1) := by decide +kernel
theorem dL_law_494 : decode cL_law 494 = .ok (.aload_n 0, 1) := by decide +kernel
theorem dL_law_495 : decode cL_law 495 = .ok (.iload_n 3, 1) := by decide +kernel
theorem dL_law_496 : decode cL_law 496 = .ok (.iconst 1, 1) := by decide +kernel
theorem dL_law_497 : decode cL_law 497 = .ok (.iadd, 1) := by decide +kernel
theorem dL_law_498 : decode cL_law 498 = .ok (.iaload, 1) := by decide +kernel
theorem dL_law_499 : decode cL_law 499 = .ok (.invokevirtual 53, 3) := by decide +kernel
theorem dL_law_502 : decode cL_law 502 = .ok (.pop, 1) := by decide +kernel
theorem dL_law_503 : decode cL_law 503 = .ok (.aload_n 2, 1) := by decide +kernel
theorem dL_law_504 : decode cL_law 504 = .ok (.aload_n 0, 1) := by decide +kernel
theorem dL_law_505 : decode cL_law 505 = .ok (.iload_n 3, 1) := by decide +kernel
theorem dL_law_506 : decode cL_law 506 = .ok (.iconst 1, 1) := by decide +kernel
theorem dL_law_507 : decode cL_law 507 = .ok (.iadd, 1) := by decide +kernel
theorem dL_law_508 : decode cL_law 508 = .ok (.iaload, 1) := by decide +kernel
theorem dL_law_509 : decode cL_law 509 = .ok (.invokevirtual 56, 3) := by decide +kernel
theorem dL_law_512 : decode cL_law 512 = .ok (.pop, 1) := by decide +kernel
theorem dL_law_513 : decode cL_law 513 = .ok (.goto 920, 3) := by decide +kernel
set_option maxHeartbeats 4000000 in
set_option maxRecDepth 100000 in
/-- feed -/
theorem law_0 {p : Program} {l : Launch} {e : Env} {s : State} {m : MethodId} {below : List Frame} {meth : Method} {c : Code} {b LN : Nat} {xs : Nat → Int32} (hx : p.tables.exec = Jvm.exec) (hb : c.code = code) (hr : meth.sig.returnType = ret) (hml : c.maxLocals = 4) (hown : s.vm.findClass RL = some m.cls) (hT : ∀ w ∈ TB, w.before #[Value.ref b] s = true) (hX : va_X b LN xs s s.heap) (hbl : b < s.heap.size) (hlocks : meth.locks = false) (hLN : LN ≤ 3072) {dC : Nat → ClassId} {dI : Nat → Nat → Nat} {cy : Nat → ClassId} {L : List Nat} {kap : Nat → Nat} {ad : (Nat → Nat) × (Nat → Nat)} {h0 m0 : Nat} (hK : va_K (dC, dI) vwCl (cyT cy) s) (hN : ∀ q ∈ NLs, va_Nw (.methodLinkNest q.1 q.2.1 q.2.2.1 q.2.2.2) s) (hSTR : STR ad (AL L s.heap.size) s s.heap) (hbA : ¬ AL L s.heap.size b) (hT_h0 : TK L kap h0 11) (hT_m0 : TK L kap m0 12) (hu6 : ∀ b9 c9, TK L kap b9 6 → TK L kap c9 6 → b9 = c9) (hu10 : ∀ b9 c9, TK L kap b9 10 → TK L kap c9 10 → b9 = c9) (hu12 : ∀ b9 c9, TK L kap b9 12 → TK L kap c9 12 → b9 = c9) (hu27 : ∀ b9 c9, TK L kap b9 27 → TK L kap c9 27 → b9 = c9) (hu50 : ∀ b9 c9, TK L kap b9 50 → TK L kap c9 50 → b9 = c9) (hu51 : ∀ b9 c9, TK L kap b9 51 → TK L kap c9 51 → b9 = c9) (hu52 : ∀ b9 c9, TK L kap b9 52 → TK L kap c9 52 → b9 = c9) (hu55 : ∀ b9 c9, TK L kap b9 55 → TK L kap c9 55 → b9 = c9) {i t9 : Nat} (hi : 6 * i + 6 ≤ LN) (kk : ∀ (t9 : Nat) (S : Nat → va_E) (H : Heap) (locs : List Loc) (ls : Array Slot), Ty cy L kap (t9, t9) S → DIs S m0 → JY L kap S → PW dC dI L (AL L s.heap.size) s.heap S H locs → lv_has ls 4 [(3, .int (nI (6 * i))), (2, .ref m0), (1, .ref h0), (0, .ref b)] → W p l e room_1 s m #[Value.ref b] below meth c H locs 152 10885 (lw_Z below #[Value.ref b] s) (F0 m 1433 ls [])) {S : Nat → va_E} {H : Heap} {locs : List Loc} {ls : Array Slot} (hTy : Ty cy L kap (t9, t9) S) (hDI : DIs S m0) (hJY : JY L kap S) (hW : PW dC dI L (AL L s.heap.size) s.heap S H locs) (hl : lv_has ls 4 [(3, .int (nI (6 * i))), (2, .ref m0), (1, .ref h0), (0, .ref b)]) : W p l e room_1 s m #[Value.ref b] below meth c H locs 152 10885 (lw_Z below #[Value.ref b] s) (F0 m 196 ls []) := by
  have hA : ∀ q, s.heap.size ≤ q → AL L s.heap.size q := fun _ h => Or.inr h
  have ht9 : t9 ≤ 900 := pr2_le hTy hT_m0
  obtain ⟨g, fw, fp, hBr, hG27, hG55, hW6, hW12⟩ := hJY
  refine lv_aload_n hx hb dL_law_196 rfl (lv_at hl 2 rfl) ?_
  refine lv_aload_n hx hb dL_law_197 rfl (lv_at hl 3 rfl) ?_
  refine lv_iload_n hx hb dL_law_198 rfl (lv_at hl 0 rfl) ?_
  refine lv_iconst (v := 1) hx hb dL_law_199 (by decide) ?_
  refine lv_iadd hx hb dL_law_200 ?_
  refine lv_topi (fun z_1 ez_1 => ?_)
  obtain rfl : z_1 = nI ((6 * i) + 1) := ez_1.trans (nI_add (6 * i) (1))
  refine va_sld hx hb hX hbl hbA hW.2.2 (vp_in_nI (n := (6 * i) + 1) (by omega) (by omega)) dL_law_201 ?_
  refine lv_topi (fun y_2 ey_2 => ?_)
  refine lv_aload_n hx hb dL_law_202 rfl (lv_at hl 3 rfl) ?_
  refine lv_iload_n hx hb dL_law_203 rfl (lv_at hl 0 rfl) ?_
  refine lv_iconst (v := 2) hx hb dL_law_204 (by decide) ?_
  refine lv_iadd hx hb dL_law_205 ?_
  refine lv_topi (fun z_3 ez_3 => ?_)
  obtain rfl : z_3 = nI ((6 * i) + 2) := ez_3.trans (nI_add (6 * i) (2))
  refine va_sld hx hb hX hbl hbA hW.2.2 (vp_in_nI (n := (6 * i) + 2) (by omega) (by omega)) dL_law_206 ?_
  refine lv_topi (fun y_4 ey_4 => ?_)
  refine lv_aload_n hx hb dL_law_207 rfl (lv_at hl 3 rfl) ?_
  refine lv_iload_n hx hb dL_law_208 rfl (lv_at hl 0 rfl) ?_
  refine lv_iconst (v := 3) hx hb dL_law_209 (by decide) ?_
  refine lv_iadd hx hb dL_law_210 ?_
  refine lv_topi (fun z_5 ez_5 => ?_)
  obtain rfl : z_5 = nI ((6 * i) + 3) := ez_5.trans (nI_add (6 * i) (3))
  refine va_sld hx hb hX hbl hbA hW.2.2 (vp_in_nI (n := (6 * i) + 3) (by omega) (by omega)) dL_law_211 ?_
  refine lv_topi (fun y_6 ey_6 => ?_)
  refine lv_aload_n hx hb dL_law_212 rfl (lv_at hl 3 rfl) ?_
  refine lv_iload_n hx hb dL_law_213 rfl (lv_at hl 0 rfl) ?_
  refine lv_iconst (v := 4) hx hb dL_law_214 (by decide) ?_
  refine lv_iadd hx hb dL_law_215 ?_
  refine lv_topi (fun z_7 ez_7 => ?_)
  obtain rfl : z_7 = nI ((6 * i) + 4) := ez_7.trans (nI_add (6 * i) (4))
  refine va_sld hx hb hX hbl hbA hW.2.2 (vp_in_nI (n := (6 * i) + 4) (by omega) (by omega)) dL_law_216 ?_
  refine lv_topi (fun y_8 ey_8 => ?_)
  refine lv_aload_n hx hb dL_law_217 rfl (lv_at hl 3 rfl) ?_
  refine lv_iload_n hx hb dL_law_218 rfl (lv_at hl 0 rfl) ?_
  refine lv_iconst (v := 5) hx hb dL_law_219 (by decide) ?_
  refine lv_iadd hx hb dL_law_220 ?_
  refine lv_topi (fun z_9 ez_9 => ?_)
  obtain rfl : z_9 = nI ((6 * i) + 5) := ez_9.trans (nI_add (6 * i) (5))
  refine va_sld hx hb hX hbl hbA hW.2.2 (vp_in_nI (n := (6 * i) + 5) (by omega) (by omega)) dL_law_221 ?_
  refine lv_topi (fun y_10 ey_10 => ?_)
  obtain ⟨_, _, _, _, _, _, _, _, _, _, _, _, _, hS_11, _, _, _, _, _, _, _, _, _, _, _, _⟩ := hTy.k11 hT_h0
  refine pl_calli (va_runV (As := [.int y_2, .int y_4, .int y_6, .int y_8, .int y_10]) (rest := []) ⟨hx, hb, hml, hown, hT⟩ (q_feed l dC dI cy L kap (t9, t9) S H.size h0 y_2 y_4 y_6 y_8 y_10 hTy hT_h0 hu10 hu27 g hG27) (cwV 5 hT (gV w393 w394 w395 w1 w396) rfl rfl rfl (by decide +kernel) ⟨(Nat.le_of_ble_eq_true rfl), (Nat.le_of_ble_eq_true rfl)⟩) ⟨pcN.blind, pl_recv hK hW hT_h0.1 hS_11 rfl, pcN.pre hW.1 hK hW.2.1 hN (fun q h => absurd h List.not_mem_nil)⟩ rfl rfl hl.1 rfl (lv_room (Nat.le_of_ble_eq_true rfl)) dL_law_222 ⟨(Nat.le_of_ble_eq_true rfl), (Nat.le_of_ble_eq_true rfl)⟩) hW (fun q h => PW_A hW h) hA (fun r_12 S_13 H locs hrel hW => ?_)
  have hTy0 := hTy
  obtain ⟨hTy, hF1, hx1⟩ := hrel
  have hTy : Ty cy L kap (fd t9, t9) S_13 := hTy
  have hDI : DIs S_13 m0 := ⟨DI_0 hTy0 hTy hT_m0 hu50 hF1 (by decide) hDI.1, DI_2 hTy0 hTy hT_m0 hu52 hF1 (by decide) hDI.2⟩
  have hG27 : KG L kap S_13 27 (FDX g t9 y_2 y_4 y_6 y_8 y_10) := hx1.2
  have hG55 := KG_fr hF1 (by decide) hG55
  have hW6 := KW6_fr hF1 (by decide) hW6
  have hW12 := KW12_fr hF1 (by decide) hW12
  refine lv_pop hx hb dL_law_225 rfl ?_
  refine lv_aload_n hx hb dL_law_226 rfl (lv_at hl 1 rfl) ?_
  refine lv_aload_n hx hb dL_law_227 rfl (lv_at hl 3 rfl) ?_
  refine lv_iload_n hx hb dL_law_228 rfl (lv_at hl 0 rfl) ?_
  refine lv_iconst (v := 1) hx hb dL_law_229 (by decide) ?_
  refine lv_iadd hx hb dL_law_230 ?_
  refine lv_topi (fun z_14 ez_14 => ?_)
  obtain rfl : z_14 = nI ((6 * i) + 1) := ez_14.trans (nI_add (6 * i) (1))
  refine va_sld hx hb hX hbl hbA hW.2.2 (vp_in_nI (n := (6 * i) + 1) (by omega) (by omega)) dL_law_231 ?_
  refine lv_topi (fun y_15 ey_15 => ?_)
  obtain rfl : y_2 = y_15 := ey_2.trans ey_15.symm
  refine lv_aload_n hx hb dL_law_232 rfl (lv_at hl 3 rfl) ?_
  refine lv_iload_n hx hb dL_law_233 rfl (lv_at hl 0 rfl) ?_
  refine lv_iconst (v := 2) hx hb dL_law_234 (by decide) ?_
  refine lv_iadd hx hb dL_law_235 ?_
  refine lv_topi (fun z_16 ez_16 => ?_)
  obtain rfl : z_16 = nI ((6 * i) + 2) := ez_16.trans (nI_add (6 * i) (2))
  refine va_sld hx hb hX hbl hbA hW.2.2 (vp_in_nI (n := (6 * i) + 2) (by omega) (by omega)) dL_law_236 ?_
  refine lv_topi (fun y_17 ey_17 => ?_)
  obtain rfl : y_4 = y_17 := ey_4.trans ey_17.symm
  refine lv_aload_n hx hb dL_law_237 rfl (lv_at hl 3 rfl) ?_
  refine lv_iload_n hx hb dL_law_238 rfl (lv_at hl 0 rfl) ?_
  refine lv_iconst (v := 3) hx hb dL_law_239 (by decide) ?_
  refine lv_iadd hx hb dL_law_240 ?_
  refine lv_topi (fun z_18 ez_18 => ?_)
  obtain rfl : z_18 = nI ((6 * i) + 3) := ez_18.trans (nI_add (6 * i) (3))
  refine va_sld hx hb hX hbl hbA hW.2.2 (vp_in_nI (n := (6 * i) + 3) (by omega) (by omega)) dL_law_241 ?_
  refine lv_topi (fun y_19 ey_19 => ?_)
  obtain rfl : y_6 = y_19 := ey_6.trans ey_19.symm
  refine lv_aload_n hx hb dL_law_242 rfl (lv_at hl 3 rfl) ?_
  refine lv_iload_n hx hb dL_law_243 rfl (lv_at hl 0 rfl) ?_
  refine lv_iconst (v := 4) hx hb dL_law_244 (by decide) ?_
  refine lv_iadd hx hb dL_law_245 ?_
  refine lv_topi (fun z_20 ez_20 => ?_)
  obtain rfl : z_20 = nI ((6 * i) + 4) := ez_20.trans (nI_add (6 * i) (4))
  refine va_sld hx hb hX hbl hbA hW.2.2 (vp_in_nI (n := (6 * i) + 4) (by omega) (by omega)) dL_law_246 ?_
  refine lv_topi (fun y_21 ey_21 => ?_)
  obtain rfl : y_8 = y_21 := ey_8.trans ey_21.symm
  refine lv_aload_n hx hb dL_law_247 rfl (lv_at hl 3 rfl) ?_
  refine lv_iload_n hx hb dL_law_248 rfl (lv_at hl 0 rfl) ?_
  refine lv_iconst (v := 5) hx hb dL_law_249 (by decide) ?_
  refine lv_iadd hx hb dL_law_250 ?_
  refine lv_topi (fun z_22 ez_22 => ?_)
  obtain rfl : z_22 = nI ((6 * i) + 5) := ez_22.trans (nI_add (6 * i) (5))
  refine va_sld hx hb hX hbl hbA hW.2.2 (vp_in_nI (n := (6 * i) + 5) (by omega) (by omega)) dL_law_251 ?_
  refine lv_topi (fun y_23 ey_23 => ?_)
  obtain rfl : y_10 = y_23 := ey_10.trans ey_23.symm
  obtain ⟨_, _, _, _, _, _, _, _, _, _, _, _, _, _, _, _, _, _, _, _, _, _, _, _, _, _, _, _, _, _, _, hS_24, _, _, _, _, _, _, _, _, _, _, _, _, _, _, _, _, _, _, _, _, _, _, _, _, _, _, _⟩ := hTy.k12 hT_m0
  refine pl_calli (va_runV (As := [.int y_2, .int y_4, .int y_6, .int y_8, .int y_10]) (rest := []) ⟨hx, hb, hml, hown, hT⟩ (f_feed l dC dI cy L kap (fd t9, t9) S_13 H.size m0 y_2 y_4 y_6 y_8 y_10 hTy hT_m0 hu12 g (fld_9 hTy hT_m0 hG55)) (cwV 5 hT (gV w1179 w1180 w1181 w14 w1182) rfl rfl rfl (by decide +kernel) ⟨(Nat.le_of_ble_eq_true rfl), (Nat.le_of_ble_eq_true rfl)⟩) ⟨pcN.blind, pl_recv hK hW hT_m0.1 hS_24 rfl, pcN.pre hW.1 hK hW.2.1 hN (fun q h => absurd h List.not_mem_nil)⟩ rfl rfl hl.1 rfl (lv_room (Nat.le_of_ble_eq_true rfl)) dL_law_252 ⟨(Nat.le_of_ble_eq_true rfl), (Nat.le_of_ble_eq_true rfl)⟩) hW (fun q h => PW_A hW h) hA (fun r_25 S_26 H locs hrel hW => ?_)
  have hTy0 := hTy
  obtain ⟨hTy, hF1, hx1⟩ := hrel
  have hTy : Ty cy L kap ((fd t9), fd t9) S_26 := hTy
  have hDI : DIs S_26 m0 := ⟨DI_0 hTy0 hTy hT_m0 hu50 hF1 (by decide) hDI.1, DI_2 hTy0 hTy hT_m0 hu52 hF1 (by decide) hDI.2⟩
  have hG27 := KG_fr hF1 (by decide) hG27
  have hG55 : KG L kap S_26 55 (FDX g t9 y_2 y_4 y_6 y_8 y_10) := KG_55 hTy hT_m0 hu55 hx1.2
  have hW6 := KW6_fr hF1 (by decide) hW6
  have hW12 := KW12_fr hF1 (by decide) hW12
  refine lv_pop hx hb dL_law_255 rfl ?_
  refine lv_goto (tgt := 1433) hx hb dL_law_256 (by decide) ?_
  exact kk (fd t9) S_26 H locs ls (by first | exact hTy) hDI ⟨_, _, _, FDX_b hBr, hG27, hG55, hW6, hW12⟩ hW (lv_sub hl [0, 1, 2, 3] rfl)

set_option maxHeartbeats 4000000 in
set_option maxRecDepth 100000 in
/-- tell -/
theorem law_1 {p : Program} {l : Launch} {e : Env} {s : State} {m : MethodId} {below : List Frame} {meth : Method} {c : Code} {b LN : Nat} {xs : Nat → Int32} (hx : p.tables.exec = Jvm.exec) (hb : c.code = code) (hr : meth.sig.returnType = ret) (hml : c.maxLocals = 4) (hown : s.vm.findClass RL = some m.cls) (hT : ∀ w ∈ TB, w.before #[Value.ref b] s = true) (hX : va_X b LN xs s s.heap) (hbl : b < s.heap.size) (hlocks : meth.locks = false) (hLN : LN ≤ 3072) {dC : Nat → ClassId} {dI : Nat → Nat → Nat} {cy : Nat → ClassId} {L : List Nat} {kap : Nat → Nat} {ad : (Nat → Nat) × (Nat → Nat)} {h0 m0 : Nat} (hK : va_K (dC, dI) vwCl (cyT cy) s) (hN : ∀ q ∈ NLs, va_Nw (.methodLinkNest q.1 q.2.1 q.2.2.1 q.2.2.2) s) (hSTR : STR ad (AL L s.heap.size) s s.heap) (hbA : ¬ AL L s.heap.size b) (hT_h0 : TK L kap h0 11) (hT_m0 : TK L kap m0 12) (hu6 : ∀ b9 c9, TK L kap b9 6 → TK L kap c9 6 → b9 = c9) (hu10 : ∀ b9 c9, TK L kap b9 10 → TK L kap c9 10 → b9 = c9) (hu12 : ∀ b9 c9, TK L kap b9 12 → TK L kap c9 12 → b9 = c9) (hu27 : ∀ b9 c9, TK L kap b9 27 → TK L kap c9 27 → b9 = c9) (hu50 : ∀ b9 c9, TK L kap b9 50 → TK L kap c9 50 → b9 = c9) (hu51 : ∀ b9 c9, TK L kap b9 51 → TK L kap c9 51 → b9 = c9) (hu52 : ∀ b9 c9, TK L kap b9 52 → TK L kap c9 52 → b9 = c9) (hu55 : ∀ b9 c9, TK L kap b9 55 → TK L kap c9 55 → b9 = c9) {i t9 : Nat} (hi : 6 * i + 6 ≤ LN) (kk : ∀ (t9 : Nat) (S : Nat → va_E) (H : Heap) (locs : List Loc) (ls : Array Slot), Ty cy L kap (t9, t9) S → DIs S m0 → JY L kap S → PW dC dI L (AL L s.heap.size) s.heap S H locs → lv_has ls 4 [(3, .int (nI (6 * i))), (2, .ref m0), (1, .ref h0), (0, .ref b)] → W p l e room_1 s m #[Value.ref b] below meth c H locs 152 10885 (lw_Z below #[Value.ref b] s) (F0 m 1433 ls [])) {S : Nat → va_E} {H : Heap} {locs : List Loc} {ls : Array Slot} (hTy : Ty cy L kap (t9, t9) S) (hDI : DIs S m0) (hJY : JY L kap S) (hW : PW dC dI L (AL L s.heap.size) s.heap S H locs) (hl : lv_has ls 4 [(3, .int (nI (6 * i))), (2, .ref m0), (1, .ref h0), (0, .ref b)]) : W p l e room_1 s m #[Value.ref b] below meth c H locs 152 10885 (lw_Z below #[Value.ref b] s) (F0 m 259 ls []) := by
  have hA : ∀ q, s.heap.size ≤ q → AL L s.heap.size q := fun _ h => Or.inr h
  have ht9 : t9 ≤ 900 := pr2_le hTy hT_m0
  obtain ⟨g, fw, fp, hBr, hG27, hG55, hW6, hW12⟩ := hJY
  refine lv_aload_n hx hb dL_law_259 rfl (lv_at hl 2 rfl) ?_
  refine lv_aload_n hx hb dL_law_260 rfl (lv_at hl 3 rfl) ?_
  refine lv_iload_n hx hb dL_law_261 rfl (lv_at hl 0 rfl) ?_
  refine lv_iconst (v := 1) hx hb dL_law_262 (by decide) ?_
  refine lv_iadd hx hb dL_law_263 ?_
  refine lv_topi (fun z_1 ez_1 => ?_)
  obtain rfl : z_1 = nI ((6 * i) + 1) := ez_1.trans (nI_add (6 * i) (1))
  refine va_sld hx hb hX hbl hbA hW.2.2 (vp_in_nI (n := (6 * i) + 1) (by omega) (by omega)) dL_law_264 ?_
  refine lv_topi (fun y_2 ey_2 => ?_)
  obtain ⟨_, _, _, _, _, _, _, _, _, _, _, _, _, hS_3, _, _, _, _, _, _, _, _, _, _, _, _⟩ := hTy.k11 hT_h0
  refine pl_calli (va_runV (As := [.int y_2]) (rest := []) ⟨hx, hb, hml, hown, hT⟩ (q_tell l dC dI cy L kap (t9, t9) ad S H.size h0 y_2 hTy hT_h0 hu6 hu10 g hG27 hBr fw fp hW6) (cwV 1 hT (gV w401 w402 w403 w1 w404) rfl rfl rfl (by decide +kernel) ⟨(Nat.le_of_ble_eq_true rfl), (Nat.le_of_ble_eq_true rfl)⟩) ⟨pcS.blind, pl_recv hK hW hT_h0.1 hS_3 rfl, pcS.pre hW.1 hK hW.2.1 hN hSTR hW.2.2⟩ rfl rfl hl.1 rfl (lv_room (Nat.le_of_ble_eq_true rfl)) dL_law_265 ⟨(Nat.le_of_ble_eq_true rfl), (Nat.le_of_ble_eq_true rfl)⟩) hW (fun q h => PW_A hW h) hA (fun r_4 S_5 H locs hrel hW => ?_)
  have hTy0 := hTy
  obtain ⟨hTy, hF1, hx1⟩ := hrel
  have hTy : Ty cy L kap (tl y_2 t9, t9) S_5 := hTy
  have hDI : DIs S_5 m0 := ⟨DI_0 hTy0 hTy hT_m0 hu50 hF1 (by decide) hDI.1, DI_2 hTy0 hTy hT_m0 hu52 hF1 (by decide) hDI.2⟩
  obtain ⟨fw1, fp1, hTL1, hW6n⟩ := hx1
  have hre_r_4 : r_4 = r_4 := rfl
  have hG27 := KG_fr hF1 (by decide) hG27
  have hG55 := KG_fr hF1 (by decide) hG55
  have hW6 := hW6n
  have hW12 := KW12_fr hF1 (by decide) hW12
  refine lv_pop hx hb dL_law_268 rfl ?_
  refine lv_aload_n hx hb dL_law_269 rfl (lv_at hl 1 rfl) ?_
  refine lv_aload_n hx hb dL_law_270 rfl (lv_at hl 3 rfl) ?_
  refine lv_iload_n hx hb dL_law_271 rfl (lv_at hl 0 rfl) ?_
  refine lv_iconst (v := 1) hx hb dL_law_272 (by decide) ?_
  refine lv_iadd hx hb dL_law_273 ?_
  refine lv_topi (fun z_6 ez_6 => ?_)
  obtain rfl : z_6 = nI ((6 * i) + 1) := ez_6.trans (nI_add (6 * i) (1))
  refine va_sld hx hb hX hbl hbA hW.2.2 (vp_in_nI (n := (6 * i) + 1) (by omega) (by omega)) dL_law_274 ?_
  refine lv_topi (fun y_7 ey_7 => ?_)
  obtain rfl : y_2 = y_7 := ey_2.trans ey_7.symm
  obtain ⟨_, _, _, _, _, _, _, _, _, _, _, _, _, _, _, _, _, _, _, _, _, _, _, _, _, _, _, _, _, _, _, hS_8, _, _, _, _, _, _, _, _, _, _, _, _, _, _, _, _, _, _, _, _, _, _, _, _, _, _, _⟩ := hTy.k12 hT_m0
  refine pl_calli (va_runV (As := [.int y_2]) (rest := []) ⟨hx, hb, hml, hown, hT⟩ (f_tell l dC dI cy L kap (tl y_2 t9, t9) ad S_5 H.size m0 y_2 hTy hT_m0 hu12 hu51 hDI.1 g (fld_9 hTy hT_m0 hG55) hBr) (cwV 1 hT (gV w1183 w1184 w1185 w14 w1186) rfl rfl rfl (by decide +kernel) ⟨(Nat.le_of_ble_eq_true rfl), (Nat.le_of_ble_eq_true rfl)⟩) ⟨pcS.blind, pl_recv hK hW hT_m0.1 hS_8 rfl, pcS.pre hW.1 hK hW.2.1 hN hSTR hW.2.2⟩ rfl rfl hl.1 rfl (lv_room (Nat.le_of_ble_eq_true rfl)) dL_law_275 ⟨(Nat.le_of_ble_eq_true rfl), (Nat.le_of_ble_eq_true rfl)⟩) hW (fun q h => PW_A hW h) hA (fun r_9 S_10 H locs hrel hW => ?_)
  have hTy0 := hTy
  obtain ⟨hTy, hF1, hx1⟩ := hrel
  have hTy : Ty cy L kap ((tl y_2 t9), tl y_2 t9) S_10 := hTy
  have hDI : DIs S_10 m0 := ⟨hx1.1, DI_2 hTy0 hTy hT_m0 hu52 hF1 (by decide) hDI.2⟩
  obtain ⟨-, -, hTL2⟩ := hx1
  rw [(hW12 m0 hT_m0).1, (hW12 m0 hT_m0).2] at hTL2
  obtain ⟨eW, eP, eR⟩ := TLX_u (t := t9) ht9 hTL1 hTL2
  have hre_r_9 : r_9 = r_4 := eR.symm
  have hG27 := KG_fr hF1 (by decide) hG27
  have hG55 := KG_fr hF1 (by decide) hG55
  have hW6 := KW6_fr hF1 (by decide) hW6
  have hW12 : KW12 L kap S_10 fw1 fp1 := by rw [eW, eP]; exact KW12_i hT_m0 hu12
  refine lv_pop hx hb dL_law_278 rfl ?_
  refine lv_goto (tgt := 1433) hx hb dL_law_279 (by decide) ?_
  exact kk (tl y_2 t9) S_10 H locs ls (by first | exact hTy) hDI ⟨_, _, _, hBr, hG27, hG55, hW6, hW12⟩ hW (lv_sub hl [0, 1, 2, 3] rfl)

set_option maxHeartbeats 4000000 in
set_option maxRecDepth 100000 in
/-- fault -/
theorem law_2 {p : Program} {l : Launch} {e : Env} {s : State} {m : MethodId} {below : List Frame} {meth : Method} {c : Code} {b LN : Nat} {xs : Nat → Int32} (hx : p.tables.exec = Jvm.exec) (hb : c.code = code) (hr : meth.sig.returnType = ret) (hml : c.maxLocals = 4) (hown : s.vm.findClass RL = some m.cls) (hT : ∀ w ∈ TB, w.before #[Value.ref b] s = true) (hX : va_X b LN xs s s.heap) (hbl : b < s.heap.size) (hlocks : meth.locks = false) (hLN : LN ≤ 3072) {dC : Nat → ClassId} {dI : Nat → Nat → Nat} {cy : Nat → ClassId} {L : List Nat} {kap : Nat → Nat} {ad : (Nat → Nat) × (Nat → Nat)} {h0 m0 : Nat} (hK : va_K (dC, dI) vwCl (cyT cy) s) (hN : ∀ q ∈ NLs, va_Nw (.methodLinkNest q.1 q.2.1 q.2.2.1 q.2.2.2) s) (hSTR : STR ad (AL L s.heap.size) s s.heap) (hbA : ¬ AL L s.heap.size b) (hT_h0 : TK L kap h0 11) (hT_m0 : TK L kap m0 12) (hu6 : ∀ b9 c9, TK L kap b9 6 → TK L kap c9 6 → b9 = c9) (hu10 : ∀ b9 c9, TK L kap b9 10 → TK L kap c9 10 → b9 = c9) (hu12 : ∀ b9 c9, TK L kap b9 12 → TK L kap c9 12 → b9 = c9) (hu27 : ∀ b9 c9, TK L kap b9 27 → TK L kap c9 27 → b9 = c9) (hu50 : ∀ b9 c9, TK L kap b9 50 → TK L kap c9 50 → b9 = c9) (hu51 : ∀ b9 c9, TK L kap b9 51 → TK L kap c9 51 → b9 = c9) (hu52 : ∀ b9 c9, TK L kap b9 52 → TK L kap c9 52 → b9 = c9) (hu55 : ∀ b9 c9, TK L kap b9 55 → TK L kap c9 55 → b9 = c9) {i t9 : Nat} (hi : 6 * i + 6 ≤ LN) (kk : ∀ (t9 : Nat) (S : Nat → va_E) (H : Heap) (locs : List Loc) (ls : Array Slot), Ty cy L kap (t9, t9) S → DIs S m0 → JY L kap S → PW dC dI L (AL L s.heap.size) s.heap S H locs → lv_has ls 4 [(3, .int (nI (6 * i))), (2, .ref m0), (1, .ref h0), (0, .ref b)] → W p l e room_1 s m #[Value.ref b] below meth c H locs 152 10885 (lw_Z below #[Value.ref b] s) (F0 m 1433 ls [])) {S : Nat → va_E} {H : Heap} {locs : List Loc} {ls : Array Slot} (hTy : Ty cy L kap (t9, t9) S) (hDI : DIs S m0) (hJY : JY L kap S) (hW : PW dC dI L (AL L s.heap.size) s.heap S H locs) (hl : lv_has ls 4 [(3, .int (nI (6 * i))), (2, .ref m0), (1, .ref h0), (0, .ref b)]) : W p l e room_1 s m #[Value.ref b] below meth c H locs 152 10885 (lw_Z below #[Value.ref b] s) (F0 m 282 ls []) := by
  have hA : ∀ q, s.heap.size ≤ q → AL L s.heap.size q := fun _ h => Or.inr h
  have ht9 : t9 ≤ 900 := pr2_le hTy hT_m0
  obtain ⟨g, fw, fp, hBr, hG27, hG55, hW6, hW12⟩ := hJY
  refine lv_aload_n hx hb dL_law_282 rfl (lv_at hl 2 rfl) ?_
  refine lv_aload_n hx hb dL_law_283 rfl (lv_at hl 3 rfl) ?_
  refine lv_iload_n hx hb dL_law_284 rfl (lv_at hl 0 rfl) ?_
  refine lv_iconst (v := 1) hx hb dL_law_285 (by decide) ?_
  refine lv_iadd hx hb dL_law_286 ?_
  refine lv_topi (fun z_1 ez_1 => ?_)
  obtain rfl : z_1 = nI ((6 * i) + 1) := ez_1.trans (nI_add (6 * i) (1))
  refine va_sld hx hb hX hbl hbA hW.2.2 (vp_in_nI (n := (6 * i) + 1) (by omega) (by omega)) dL_law_287 ?_
  refine lv_topi (fun y_2 ey_2 => ?_)
  obtain ⟨_, _, _, _, _, _, _, _, _, _, _, _, _, hS_3, _, _, _, _, _, _, _, _, _, _, _, _⟩ := hTy.k11 hT_h0
  refine pl_calli (va_runV (As := [.int y_2]) (rest := []) ⟨hx, hb, hml, hown, hT⟩ (q_fault l dC dI cy L kap (t9, t9) S H.size h0 y_2 hTy hT_h0 fw fp hW6) (cwV 1 hT (gV w590 w591 w592 w1 w593) rfl rfl rfl (by decide +kernel) ⟨(Nat.le_of_ble_eq_true rfl), (Nat.le_of_ble_eq_true rfl)⟩) ⟨pcN.blind, pl_recv hK hW hT_h0.1 hS_3 rfl, pcN.pre hW.1 hK hW.2.1 hN (fun q h => absurd h List.not_mem_nil)⟩ rfl rfl hl.1 rfl (lv_room (Nat.le_of_ble_eq_true rfl)) dL_law_288 ⟨(Nat.le_of_ble_eq_true rfl), (Nat.le_of_ble_eq_true rfl)⟩) hW (fun q h => PW_A hW h) hA (fun r_4 S_5 H locs hrel hW => ?_)
  have hTy0 := hTy
  obtain ⟨hTy, hF1, hx1⟩ := hrel
  have hDI : DIs S_5 m0 := ⟨DI_0 hTy0 hTy hT_m0 hu50 hF1 (by decide) hDI.1, DI_2 hTy0 hTy hT_m0 hu52 hF1 (by decide) hDI.2⟩
  have hre_r_4 := hx1
  have hG27 := KG_fr hF1 (by decide) hG27
  have hG55 := KG_fr hF1 (by decide) hG55
  have hW6 := KW6_fr hF1 (by decide) hW6
  have hW12 := KW12_fr hF1 (by decide) hW12
  refine lv_aload_n hx hb dL_law_291 rfl (lv_at hl 1 rfl) ?_
  refine lv_aload_n hx hb dL_law_292 rfl (lv_at hl 3 rfl) ?_
  refine lv_iload_n hx hb dL_law_293 rfl (lv_at hl 0 rfl) ?_
  refine lv_iconst (v := 1) hx hb dL_law_294 (by decide) ?_
  refine lv_iadd hx hb dL_law_295 ?_
  refine lv_topi (fun z_6 ez_6 => ?_)
  obtain rfl : z_6 = nI ((6 * i) + 1) := ez_6.trans (nI_add (6 * i) (1))
  refine va_sld hx hb hX hbl hbA hW.2.2 (vp_in_nI (n := (6 * i) + 1) (by omega) (by omega)) dL_law_296 ?_
  refine lv_topi (fun y_7 ey_7 => ?_)
  obtain rfl : y_2 = y_7 := ey_2.trans ey_7.symm
  obtain ⟨_, _, _, _, _, _, _, _, _, _, _, _, _, _, _, _, _, _, _, _, _, _, _, _, _, _, _, _, _, _, _, hS_8, _, _, _, _, _, _, _, _, _, _, _, _, _, _, _, _, _, _, _, _, _, _, _, _, _, _, _⟩ := hTy.k12 hT_m0
  refine pl_calli (va_runV (As := [.int y_2]) (rest := [.int r_4]) ⟨hx, hb, hml, hown, hT⟩ (f_fault l dC dI cy L kap (t9, t9) S_5 H.size m0 y_2 hTy hT_m0) (cwV 1 hT (gV w1272 w1273 w1274 w14 w1275) rfl rfl rfl (by decide +kernel) ⟨(Nat.le_of_ble_eq_true rfl), (Nat.le_of_ble_eq_true rfl)⟩) ⟨pcN.blind, pl_recv hK hW hT_m0.1 hS_8 rfl, pcN.pre hW.1 hK hW.2.1 hN (fun q h => absurd h List.not_mem_nil)⟩ rfl rfl hl.1 rfl (lv_room (Nat.le_of_ble_eq_true rfl)) dL_law_297 ⟨(Nat.le_of_ble_eq_true rfl), (Nat.le_of_ble_eq_true rfl)⟩) hW (fun q h => PW_A hW h) hA (fun r_9 S_10 H locs hrel hW => ?_)
  have hTy0 := hTy
  obtain ⟨hTy, hF1, hx1⟩ := hrel
  have hDI : DIs S_10 m0 := ⟨DI_0 hTy0 hTy hT_m0 hu50 hF1 (by decide) hDI.1, DI_2 hTy0 hTy hT_m0 hu52 hF1 (by decide) hDI.2⟩
  have hre_r_9 := hx1.2.2
  rw [(hW12 m0 hT_m0).1, (hW12 m0 hT_m0).2] at hre_r_9
  have hG27 := KG_fr hF1 (by decide) hG27
  have hG55 := KG_fr hF1 (by decide) hG55
  have hW6 := KW6_fr hF1 (by decide) hW6
  have hW12 := KW12_fr hF1 (by decide) hW12
  refine lv_icmp_eq (tgt := 1433) hx hb dL_law_300 (by decide) (fun _ => ?_) (fun h => absurd (hre_r_4.trans hre_r_9.symm) h)
  exact kk t9 S_10 H locs ls (by first | exact hTy) hDI ⟨_, _, _, hBr, hG27, hG55, hW6, hW12⟩ hW (lv_sub hl [0, 1, 2, 3] rfl)

set_option maxHeartbeats 4000000 in
set_option maxRecDepth 100000 in
/-- trade -/
theorem law_3 {p : Program} {l : Launch} {e : Env} {s : State} {m : MethodId} {below : List Frame} {meth : Method} {c : Code} {b LN : Nat} {xs : Nat → Int32} (hx : p.tables.exec = Jvm.exec) (hb : c.code = code) (hr : meth.sig.returnType = ret) (hml : c.maxLocals = 4) (hown : s.vm.findClass RL = some m.cls) (hT : ∀ w ∈ TB, w.before #[Value.ref b] s = true) (hX : va_X b LN xs s s.heap) (hbl : b < s.heap.size) (hlocks : meth.locks = false) (hLN : LN ≤ 3072) {dC : Nat → ClassId} {dI : Nat → Nat → Nat} {cy : Nat → ClassId} {L : List Nat} {kap : Nat → Nat} {ad : (Nat → Nat) × (Nat → Nat)} {h0 m0 : Nat} (hK : va_K (dC, dI) vwCl (cyT cy) s) (hN : ∀ q ∈ NLs, va_Nw (.methodLinkNest q.1 q.2.1 q.2.2.1 q.2.2.2) s) (hSTR : STR ad (AL L s.heap.size) s s.heap) (hbA : ¬ AL L s.heap.size b) (hT_h0 : TK L kap h0 11) (hT_m0 : TK L kap m0 12) (hu6 : ∀ b9 c9, TK L kap b9 6 → TK L kap c9 6 → b9 = c9) (hu10 : ∀ b9 c9, TK L kap b9 10 → TK L kap c9 10 → b9 = c9) (hu12 : ∀ b9 c9, TK L kap b9 12 → TK L kap c9 12 → b9 = c9) (hu27 : ∀ b9 c9, TK L kap b9 27 → TK L kap c9 27 → b9 = c9) (hu50 : ∀ b9 c9, TK L kap b9 50 → TK L kap c9 50 → b9 = c9) (hu51 : ∀ b9 c9, TK L kap b9 51 → TK L kap c9 51 → b9 = c9) (hu52 : ∀ b9 c9, TK L kap b9 52 → TK L kap c9 52 → b9 = c9) (hu55 : ∀ b9 c9, TK L kap b9 55 → TK L kap c9 55 → b9 = c9) {i t9 : Nat} (hi : 6 * i + 6 ≤ LN) (kk : ∀ (t9 : Nat) (S : Nat → va_E) (H : Heap) (locs : List Loc) (ls : Array Slot), Ty cy L kap (t9, t9) S → DIs S m0 → JY L kap S → PW dC dI L (AL L s.heap.size) s.heap S H locs → lv_has ls 4 [(3, .int (nI (6 * i))), (2, .ref m0), (1, .ref h0), (0, .ref b)] → W p l e room_1 s m #[Value.ref b] below meth c H locs 152 10885 (lw_Z below #[Value.ref b] s) (F0 m 1433 ls [])) {S : Nat → va_E} {H : Heap} {locs : List Loc} {ls : Array Slot} (hTy : Ty cy L kap (t9, t9) S) (hDI : DIs S m0) (hJY : JY L kap S) (hW : PW dC dI L (AL L s.heap.size) s.heap S H locs) (hl : lv_has ls 4 [(3, .int (nI (6 * i))), (2, .ref m0), (1, .ref h0), (0, .ref b)]) : W p l e room_1 s m #[Value.ref b] below meth c H locs 152 10885 (lw_Z below #[Value.ref b] s) (F0 m 305 ls []) := by
  have hA : ∀ q, s.heap.size ≤ q → AL L s.heap.size q := fun _ h => Or.inr h
  refine lv_aload_n hx hb dL_law_305 rfl (lv_at hl 2 rfl) ?_
  refine lv_aload_n hx hb dL_law_306 rfl (lv_at hl 3 rfl) ?_
  refine lv_iload_n hx hb dL_law_307 rfl (lv_at hl 0 rfl) ?_
  refine lv_iconst (v := 1) hx hb dL_law_308 (by decide) ?_
  refine lv_iadd hx hb dL_law_309 ?_
  refine lv_topi (fun z_1 ez_1 => ?_)
  obtain rfl : z_1 = nI ((6 * i) + 1) := ez_1.trans (nI_add (6 * i) (1))
  refine va_sld hx hb hX hbl hbA hW.2.2 (vp_in_nI (n := (6 * i) + 1) (by omega) (by omega)) dL_law_310 ?_
  refine lv_topi (fun y_2 ey_2 => ?_)
  refine lv_aload_n hx hb dL_law_311 rfl (lv_at hl 3 rfl) ?_
  refine lv_iload_n hx hb dL_law_312 rfl (lv_at hl 0 rfl) ?_
  refine lv_iconst (v := 2) hx hb dL_law_313 (by decide) ?_
  refine lv_iadd hx hb dL_law_314 ?_
  refine lv_topi (fun z_3 ez_3 => ?_)
  obtain rfl : z_3 = nI ((6 * i) + 2) := ez_3.trans (nI_add (6 * i) (2))
  refine va_sld hx hb hX hbl hbA hW.2.2 (vp_in_nI (n := (6 * i) + 2) (by omega) (by omega)) dL_law_315 ?_
  refine lv_topi (fun y_4 ey_4 => ?_)
  refine lv_aload_n hx hb dL_law_316 rfl (lv_at hl 3 rfl) ?_
  refine lv_iload_n hx hb dL_law_317 rfl (lv_at hl 0 rfl) ?_
  refine lv_iconst (v := 3) hx hb dL_law_318 (by decide) ?_
  refine lv_iadd hx hb dL_law_319 ?_
  refine lv_topi (fun z_5 ez_5 => ?_)
  obtain rfl : z_5 = nI ((6 * i) + 3) := ez_5.trans (nI_add (6 * i) (3))
  refine va_sld hx hb hX hbl hbA hW.2.2 (vp_in_nI (n := (6 * i) + 3) (by omega) (by omega)) dL_law_320 ?_
  refine lv_topi (fun y_6 ey_6 => ?_)
  refine lv_aload_n hx hb dL_law_321 rfl (lv_at hl 3 rfl) ?_
  refine lv_iload_n hx hb dL_law_322 rfl (lv_at hl 0 rfl) ?_
  refine lv_iconst (v := 4) hx hb dL_law_323 (by decide) ?_
  refine lv_iadd hx hb dL_law_324 ?_
  refine lv_topi (fun z_7 ez_7 => ?_)
  obtain rfl : z_7 = nI ((6 * i) + 4) := ez_7.trans (nI_add (6 * i) (4))
  refine va_sld hx hb hX hbl hbA hW.2.2 (vp_in_nI (n := (6 * i) + 4) (by omega) (by omega)) dL_law_325 ?_
  refine lv_topi (fun y_8 ey_8 => ?_)
  obtain ⟨_, _, _, _, _, _, _, _, _, _, _, _, _, hS_9, _, _, _, _, _, _, _, _, _, _, _, _⟩ := hTy.k11 hT_h0
  refine pl_calli (va_runV (As := [.int y_2, .int y_4, .int y_6, .int y_8]) (rest := []) ⟨hx, hb, hml, hown, hT⟩ (k_trade l dC dI cy L kap (t9, t9) S H.size h0 y_2 y_4 y_6 y_8 hTy hT_h0) (cwV 4 hT (gV w594 w595 w596 w1 w597) rfl rfl rfl (by decide +kernel) ⟨(Nat.le_of_ble_eq_true rfl), (Nat.le_of_ble_eq_true rfl)⟩) ⟨pcN.blind, pl_recv hK hW hT_h0.1 hS_9 rfl, pcN.pre hW.1 hK hW.2.1 hN (fun q h => absurd h List.not_mem_nil)⟩ rfl rfl hl.1 rfl (lv_room (Nat.le_of_ble_eq_true rfl)) dL_law_326 ⟨(Nat.le_of_ble_eq_true rfl), (Nat.le_of_ble_eq_true rfl)⟩) hW (fun q h => PW_A hW h) hA (fun r_10 S_11 H locs hrel hW => ?_)
  have hTy0 := hTy
  obtain ⟨hTy, hF1⟩ := hrel
  have hDI : DIs S_11 m0 := ⟨DI_0 hTy0 hTy hT_m0 hu50 hF1 (by decide) hDI.1, DI_2 hTy0 hTy hT_m0 hu52 hF1 (by decide) hDI.2⟩
  have hJY := JY_fr hF1 (by decide) (by decide) (by decide) (by decide) hJY
  refine lv_pop hx hb dL_law_329 rfl ?_
  refine lv_aload_n hx hb dL_law_330 rfl (lv_at hl 1 rfl) ?_
  refine lv_aload_n hx hb dL_law_331 rfl (lv_at hl 3 rfl) ?_
  refine lv_iload_n hx hb dL_law_332 rfl (lv_at hl 0 rfl) ?_
  refine lv_iconst (v := 1) hx hb dL_law_333 (by decide) ?_
  refine lv_iadd hx hb dL_law_334 ?_
  refine lv_topi (fun z_12 ez_12 => ?_)
  obtain rfl : z_12 = nI ((6 * i) + 1) := ez_12.trans (nI_add (6 * i) (1))
  refine va_sld hx hb hX hbl hbA hW.2.2 (vp_in_nI (n := (6 * i) + 1) (by omega) (by omega)) dL_law_335 ?_
  refine lv_topi (fun y_13 ey_13 => ?_)
  obtain rfl : y_2 = y_13 := ey_2.trans ey_13.symm
  refine lv_aload_n hx hb dL_law_336 rfl (lv_at hl 3 rfl) ?_
  refine lv_iload_n hx hb dL_law_337 rfl (lv_at hl 0 rfl) ?_
  refine lv_iconst (v := 2) hx hb dL_law_338 (by decide) ?_
  refine lv_iadd hx hb dL_law_339 ?_
  refine lv_topi (fun z_14 ez_14 => ?_)
  obtain rfl : z_14 = nI ((6 * i) + 2) := ez_14.trans (nI_add (6 * i) (2))
  refine va_sld hx hb hX hbl hbA hW.2.2 (vp_in_nI (n := (6 * i) + 2) (by omega) (by omega)) dL_law_340 ?_
  refine lv_topi (fun y_15 ey_15 => ?_)
  obtain rfl : y_4 = y_15 := ey_4.trans ey_15.symm
  refine lv_aload_n hx hb dL_law_341 rfl (lv_at hl 3 rfl) ?_
  refine lv_iload_n hx hb dL_law_342 rfl (lv_at hl 0 rfl) ?_
  refine lv_iconst (v := 3) hx hb dL_law_343 (by decide) ?_
  refine lv_iadd hx hb dL_law_344 ?_
  refine lv_topi (fun z_16 ez_16 => ?_)
  obtain rfl : z_16 = nI ((6 * i) + 3) := ez_16.trans (nI_add (6 * i) (3))
  refine va_sld hx hb hX hbl hbA hW.2.2 (vp_in_nI (n := (6 * i) + 3) (by omega) (by omega)) dL_law_345 ?_
  refine lv_topi (fun y_17 ey_17 => ?_)
  obtain rfl : y_6 = y_17 := ey_6.trans ey_17.symm
  refine lv_aload_n hx hb dL_law_346 rfl (lv_at hl 3 rfl) ?_
  refine lv_iload_n hx hb dL_law_347 rfl (lv_at hl 0 rfl) ?_
  refine lv_iconst (v := 4) hx hb dL_law_348 (by decide) ?_
  refine lv_iadd hx hb dL_law_349 ?_
  refine lv_topi (fun z_18 ez_18 => ?_)
  obtain rfl : z_18 = nI ((6 * i) + 4) := ez_18.trans (nI_add (6 * i) (4))
  refine va_sld hx hb hX hbl hbA hW.2.2 (vp_in_nI (n := (6 * i) + 4) (by omega) (by omega)) dL_law_350 ?_
  refine lv_topi (fun y_19 ey_19 => ?_)
  obtain rfl : y_8 = y_19 := ey_8.trans ey_19.symm
  obtain ⟨_, _, _, _, _, _, _, _, _, _, _, _, _, _, _, _, _, _, _, _, _, _, _, _, _, _, _, _, _, _, _, hS_20, _, _, _, _, _, _, _, _, _, _, _, _, _, _, _, _, _, _, _, _, _, _, _, _, _, _, _⟩ := hTy.k12 hT_m0
  refine pl_calli (va_runV (As := [.int y_2, .int y_4, .int y_6, .int y_8]) (rest := []) ⟨hx, hb, hml, hown, hT⟩ (m_trade l dC dI cy L kap (t9, t9) S_11 H.size m0 y_2 y_4 y_6 y_8 hTy hT_m0 hDI) (cwV 4 hT (gV w1276 w1277 w1278 w14 w1279) rfl rfl rfl (by decide +kernel) ⟨(Nat.le_of_ble_eq_true rfl), (Nat.le_of_ble_eq_true rfl)⟩) ⟨pcN.blind, pl_recv hK hW hT_m0.1 hS_20 rfl, pcN.pre hW.1 hK hW.2.1 hN (fun q h => absurd h List.not_mem_nil)⟩ rfl rfl hl.1 rfl (lv_room (Nat.le_of_ble_eq_true rfl)) dL_law_351 ⟨(Nat.le_of_ble_eq_true rfl), (Nat.le_of_ble_eq_true rfl)⟩) hW (fun q h => PW_A hW h) hA (fun r_21 S_22 H locs hrel hW => ?_)
  have hTy0 := hTy
  obtain ⟨hTy, hF1, hx1⟩ := hrel
  have hDI : DIs S_22 m0 := hx1
  have hJY := JY_fr hF1 (by decide) (by decide) (by decide) (by decide) hJY
  refine lv_pop hx hb dL_law_354 rfl ?_
  refine lv_goto (tgt := 1433) hx hb dL_law_355 (by decide) ?_
  exact kk t9 S_22 H locs ls (by first | exact hTy) hDI hJY hW (lv_sub hl [0, 1, 2, 3] rfl)

set_option maxHeartbeats 4000000 in
set_option maxRecDepth 100000 in
/-- drop -/
theorem law_4 {p : Program} {l : Launch} {e : Env} {s : State} {m : MethodId} {below : List Frame} {meth : Method} {c : Code} {b LN : Nat} {xs : Nat → Int32} (hx : p.tables.exec = Jvm.exec) (hb : c.code = code) (hr : meth.sig.returnType = ret) (hml : c.maxLocals = 4) (hown : s.vm.findClass RL = some m.cls) (hT : ∀ w ∈ TB, w.before #[Value.ref b] s = true) (hX : va_X b LN xs s s.heap) (hbl : b < s.heap.size) (hlocks : meth.locks = false) (hLN : LN ≤ 3072) {dC : Nat → ClassId} {dI : Nat → Nat → Nat} {cy : Nat → ClassId} {L : List Nat} {kap : Nat → Nat} {ad : (Nat → Nat) × (Nat → Nat)} {h0 m0 : Nat} (hK : va_K (dC, dI) vwCl (cyT cy) s) (hN : ∀ q ∈ NLs, va_Nw (.methodLinkNest q.1 q.2.1 q.2.2.1 q.2.2.2) s) (hSTR : STR ad (AL L s.heap.size) s s.heap) (hbA : ¬ AL L s.heap.size b) (hT_h0 : TK L kap h0 11) (hT_m0 : TK L kap m0 12) (hu6 : ∀ b9 c9, TK L kap b9 6 → TK L kap c9 6 → b9 = c9) (hu10 : ∀ b9 c9, TK L kap b9 10 → TK L kap c9 10 → b9 = c9) (hu12 : ∀ b9 c9, TK L kap b9 12 → TK L kap c9 12 → b9 = c9) (hu27 : ∀ b9 c9, TK L kap b9 27 → TK L kap c9 27 → b9 = c9) (hu50 : ∀ b9 c9, TK L kap b9 50 → TK L kap c9 50 → b9 = c9) (hu51 : ∀ b9 c9, TK L kap b9 51 → TK L kap c9 51 → b9 = c9) (hu52 : ∀ b9 c9, TK L kap b9 52 → TK L kap c9 52 → b9 = c9) (hu55 : ∀ b9 c9, TK L kap b9 55 → TK L kap c9 55 → b9 = c9) {i t9 : Nat} (hi : 6 * i + 6 ≤ LN) (kk : ∀ (t9 : Nat) (S : Nat → va_E) (H : Heap) (locs : List Loc) (ls : Array Slot), Ty cy L kap (t9, t9) S → DIs S m0 → JY L kap S → PW dC dI L (AL L s.heap.size) s.heap S H locs → lv_has ls 4 [(3, .int (nI (6 * i))), (2, .ref m0), (1, .ref h0), (0, .ref b)] → W p l e room_1 s m #[Value.ref b] below meth c H locs 152 10885 (lw_Z below #[Value.ref b] s) (F0 m 1433 ls [])) {S : Nat → va_E} {H : Heap} {locs : List Loc} {ls : Array Slot} (hTy : Ty cy L kap (t9, t9) S) (hDI : DIs S m0) (hJY : JY L kap S) (hW : PW dC dI L (AL L s.heap.size) s.heap S H locs) (hl : lv_has ls 4 [(3, .int (nI (6 * i))), (2, .ref m0), (1, .ref h0), (0, .ref b)]) : W p l e room_1 s m #[Value.ref b] below meth c H locs 152 10885 (lw_Z below #[Value.ref b] s) (F0 m 358 ls []) := by
  have hA : ∀ q, s.heap.size ≤ q → AL L s.heap.size q := fun _ h => Or.inr h
  refine lv_aload_n hx hb dL_law_358 rfl (lv_at hl 2 rfl) ?_
  refine lv_aload_n hx hb dL_law_359 rfl (lv_at hl 3 rfl) ?_
  refine lv_iload_n hx hb dL_law_360 rfl (lv_at hl 0 rfl) ?_
  refine lv_iconst (v := 1) hx hb dL_law_361 (by decide) ?_
  refine lv_iadd hx hb dL_law_362 ?_
  refine lv_topi (fun z_1 ez_1 => ?_)
  obtain rfl : z_1 = nI ((6 * i) + 1) := ez_1.trans (nI_add (6 * i) (1))
  refine va_sld hx hb hX hbl hbA hW.2.2 (vp_in_nI (n := (6 * i) + 1) (by omega) (by omega)) dL_law_363 ?_
  refine lv_topi (fun y_2 ey_2 => ?_)
  obtain ⟨_, _, _, _, _, _, _, _, _, _, _, _, _, hS_3, _, _, _, _, _, _, _, _, _, _, _, _⟩ := hTy.k11 hT_h0
  refine pl_calli (va_runV (As := [.int y_2]) (rest := []) ⟨hx, hb, hml, hown, hT⟩ (k_drop l dC dI cy L kap (t9, t9) S H.size h0 y_2 hTy hT_h0) (cwV 1 hT (gV w635 w636 w637 w1 w638) rfl rfl rfl (by decide +kernel) ⟨(Nat.le_of_ble_eq_true rfl), (Nat.le_of_ble_eq_true rfl)⟩) ⟨pcN.blind, pl_recv hK hW hT_h0.1 hS_3 rfl, pcN.pre hW.1 hK hW.2.1 hN (fun q h => absurd h List.not_mem_nil)⟩ rfl rfl hl.1 rfl (lv_room (Nat.le_of_ble_eq_true rfl)) dL_law_364 ⟨(Nat.le_of_ble_eq_true rfl), (Nat.le_of_ble_eq_true rfl)⟩) hW (fun q h => PW_A hW h) hA (fun r_4 S_5 H locs hrel hW => ?_)
  have hTy0 := hTy
  obtain ⟨hTy, hF1⟩ := hrel
  have hDI : DIs S_5 m0 := ⟨DI_0 hTy0 hTy hT_m0 hu50 hF1 (by decide) hDI.1, DI_2 hTy0 hTy hT_m0 hu52 hF1 (by decide) hDI.2⟩
  have hJY := JY_fr hF1 (by decide) (by decide) (by decide) (by decide) hJY
  refine lv_pop hx hb dL_law_367 rfl ?_
  refine lv_aload_n hx hb dL_law_368 rfl (lv_at hl 1 rfl) ?_
  refine lv_aload_n hx hb dL_law_369 rfl (lv_at hl 3 rfl) ?_
  refine lv_iload_n hx hb dL_law_370 rfl (lv_at hl 0 rfl) ?_
  refine lv_iconst (v := 1) hx hb dL_law_371 (by decide) ?_
  refine lv_iadd hx hb dL_law_372 ?_
  refine lv_topi (fun z_6 ez_6 => ?_)
  obtain rfl : z_6 = nI ((6 * i) + 1) := ez_6.trans (nI_add (6 * i) (1))
  refine va_sld hx hb hX hbl hbA hW.2.2 (vp_in_nI (n := (6 * i) + 1) (by omega) (by omega)) dL_law_373 ?_
  refine lv_topi (fun y_7 ey_7 => ?_)
  obtain rfl : y_2 = y_7 := ey_2.trans ey_7.symm
  obtain ⟨_, _, _, _, _, _, _, _, _, _, _, _, _, _, _, _, _, _, _, _, _, _, _, _, _, _, _, _, _, _, _, hS_8, _, _, _, _, _, _, _, _, _, _, _, _, _, _, _, _, _, _, _, _, _, _, _, _, _, _, _⟩ := hTy.k12 hT_m0
  refine pl_calli (va_runV (As := [.int y_2]) (rest := []) ⟨hx, hb, hml, hown, hT⟩ (m_drop l dC dI cy L kap (t9, t9) S_5 H.size m0 y_2 hTy hT_m0 hDI) (cwV 1 hT (gV w1297 w1298 w1299 w14 w1300) rfl rfl rfl (by decide +kernel) ⟨(Nat.le_of_ble_eq_true rfl), (Nat.le_of_ble_eq_true rfl)⟩) ⟨pcN.blind, pl_recv hK hW hT_m0.1 hS_8 rfl, pcN.pre hW.1 hK hW.2.1 hN (fun q h => absurd h List.not_mem_nil)⟩ rfl rfl hl.1 rfl (lv_room (Nat.le_of_ble_eq_true rfl)) dL_law_374 ⟨(Nat.le_of_ble_eq_true rfl), (Nat.le_of_ble_eq_true rfl)⟩) hW (fun q h => PW_A hW h) hA (fun r_9 S_10 H locs hrel hW => ?_)
  have hTy0 := hTy
  obtain ⟨hTy, hF1, hx1⟩ := hrel
  have hDI : DIs S_10 m0 := hx1
  have hJY := JY_fr hF1 (by decide) (by decide) (by decide) (by decide) hJY
  refine lv_pop hx hb dL_law_377 rfl ?_
  refine lv_goto (tgt := 1433) hx hb dL_law_378 (by decide) ?_
  exact kk t9 S_10 H locs ls (by first | exact hTy) hDI hJY hW (lv_sub hl [0, 1, 2, 3] rfl)

set_option maxHeartbeats 4000000 in
set_option maxRecDepth 100000 in
/-- keep -/
theorem law_5 {p : Program} {l : Launch} {e : Env} {s : State} {m : MethodId} {below : List Frame} {meth : Method} {c : Code} {b LN : Nat} {xs : Nat → Int32} (hx : p.tables.exec = Jvm.exec) (hb : c.code = code) (hr : meth.sig.returnType = ret) (hml : c.maxLocals = 4) (hown : s.vm.findClass RL = some m.cls) (hT : ∀ w ∈ TB, w.before #[Value.ref b] s = true) (hX : va_X b LN xs s s.heap) (hbl : b < s.heap.size) (hlocks : meth.locks = false) (hLN : LN ≤ 3072) {dC : Nat → ClassId} {dI : Nat → Nat → Nat} {cy : Nat → ClassId} {L : List Nat} {kap : Nat → Nat} {ad : (Nat → Nat) × (Nat → Nat)} {h0 m0 : Nat} (hK : va_K (dC, dI) vwCl (cyT cy) s) (hN : ∀ q ∈ NLs, va_Nw (.methodLinkNest q.1 q.2.1 q.2.2.1 q.2.2.2) s) (hSTR : STR ad (AL L s.heap.size) s s.heap) (hbA : ¬ AL L s.heap.size b) (hT_h0 : TK L kap h0 11) (hT_m0 : TK L kap m0 12) (hu6 : ∀ b9 c9, TK L kap b9 6 → TK L kap c9 6 → b9 = c9) (hu10 : ∀ b9 c9, TK L kap b9 10 → TK L kap c9 10 → b9 = c9) (hu12 : ∀ b9 c9, TK L kap b9 12 → TK L kap c9 12 → b9 = c9) (hu27 : ∀ b9 c9, TK L kap b9 27 → TK L kap c9 27 → b9 = c9) (hu50 : ∀ b9 c9, TK L kap b9 50 → TK L kap c9 50 → b9 = c9) (hu51 : ∀ b9 c9, TK L kap b9 51 → TK L kap c9 51 → b9 = c9) (hu52 : ∀ b9 c9, TK L kap b9 52 → TK L kap c9 52 → b9 = c9) (hu55 : ∀ b9 c9, TK L kap b9 55 → TK L kap c9 55 → b9 = c9) {i t9 : Nat} (hi : 6 * i + 6 ≤ LN) (kk : ∀ (t9 : Nat) (S : Nat → va_E) (H : Heap) (locs : List Loc) (ls : Array Slot), Ty cy L kap (t9, t9) S → DIs S m0 → JY L kap S → PW dC dI L (AL L s.heap.size) s.heap S H locs → lv_has ls 4 [(3, .int (nI (6 * i))), (2, .ref m0), (1, .ref h0), (0, .ref b)] → W p l e room_1 s m #[Value.ref b] below meth c H locs 152 10885 (lw_Z below #[Value.ref b] s) (F0 m 1433 ls [])) {S : Nat → va_E} {H : Heap} {locs : List Loc} {ls : Array Slot} (hTy : Ty cy L kap (t9, t9) S) (hDI : DIs S m0) (hJY : JY L kap S) (hW : PW dC dI L (AL L s.heap.size) s.heap S H locs) (hl : lv_has ls 4 [(3, .int (nI (6 * i))), (2, .ref m0), (1, .ref h0), (0, .ref b)]) : W p l e room_1 s m #[Value.ref b] below meth c H locs 152 10885 (lw_Z below #[Value.ref b] s) (F0 m 381 ls []) := by
  have hA : ∀ q, s.heap.size ≤ q → AL L s.heap.size q := fun _ h => Or.inr h
  refine lv_aload_n hx hb dL_law_381 rfl (lv_at hl 2 rfl) ?_
  refine lv_aload_n hx hb dL_law_382 rfl (lv_at hl 3 rfl) ?_
  refine lv_iload_n hx hb dL_law_383 rfl (lv_at hl 0 rfl) ?_
  refine lv_iconst (v := 1) hx hb dL_law_384 (by decide) ?_
  refine lv_iadd hx hb dL_law_385 ?_
  refine lv_topi (fun z_1 ez_1 => ?_)
  obtain rfl : z_1 = nI ((6 * i) + 1) := ez_1.trans (nI_add (6 * i) (1))
  refine va_sld hx hb hX hbl hbA hW.2.2 (vp_in_nI (n := (6 * i) + 1) (by omega) (by omega)) dL_law_386 ?_
  refine lv_topi (fun y_2 ey_2 => ?_)
  obtain ⟨_, _, _, _, _, _, _, _, _, _, _, _, _, hS_3, _, _, _, _, _, _, _, _, _, _, _, _⟩ := hTy.k11 hT_h0
  refine pl_calli (va_runV (As := [.int y_2]) (rest := []) ⟨hx, hb, hml, hown, hT⟩ (k_keep l dC dI cy L kap (t9, t9) S H.size h0 y_2 hTy hT_h0) (cwV 1 hT (gV w647 w648 w649 w1 w650) rfl rfl rfl (by decide +kernel) ⟨(Nat.le_of_ble_eq_true rfl), (Nat.le_of_ble_eq_true rfl)⟩) ⟨pcN.blind, pl_recv hK hW hT_h0.1 hS_3 rfl, pcN.pre hW.1 hK hW.2.1 hN (fun q h => absurd h List.not_mem_nil)⟩ rfl rfl hl.1 rfl (lv_room (Nat.le_of_ble_eq_true rfl)) dL_law_387 ⟨(Nat.le_of_ble_eq_true rfl), (Nat.le_of_ble_eq_true rfl)⟩) hW (fun q h => PW_A hW h) hA (fun r_4 S_5 H locs hrel hW => ?_)
  have hTy0 := hTy
  obtain ⟨hTy, hF1⟩ := hrel
  have hDI : DIs S_5 m0 := ⟨DI_0 hTy0 hTy hT_m0 hu50 hF1 (by decide) hDI.1, DI_2 hTy0 hTy hT_m0 hu52 hF1 (by decide) hDI.2⟩
  have hJY := JY_fr hF1 (by decide) (by decide) (by decide) (by decide) hJY
  refine lv_pop hx hb dL_law_390 rfl ?_
  refine lv_aload_n hx hb dL_law_391 rfl (lv_at hl 1 rfl) ?_
  refine lv_aload_n hx hb dL_law_392 rfl (lv_at hl 3 rfl) ?_
  refine lv_iload_n hx hb dL_law_393 rfl (lv_at hl 0 rfl) ?_
  refine lv_iconst (v := 1) hx hb dL_law_394 (by decide) ?_
  refine lv_iadd hx hb dL_law_395 ?_
  refine lv_topi (fun z_6 ez_6 => ?_)
  obtain rfl : z_6 = nI ((6 * i) + 1) := ez_6.trans (nI_add (6 * i) (1))
  refine va_sld hx hb hX hbl hbA hW.2.2 (vp_in_nI (n := (6 * i) + 1) (by omega) (by omega)) dL_law_396 ?_
  refine lv_topi (fun y_7 ey_7 => ?_)
  obtain rfl : y_2 = y_7 := ey_2.trans ey_7.symm
  obtain ⟨_, _, _, _, _, _, _, _, _, _, _, _, _, _, _, _, _, _, _, _, _, _, _, _, _, _, _, _, _, _, _, hS_8, _, _, _, _, _, _, _, _, _, _, _, _, _, _, _, _, _, _, _, _, _, _, _, _, _, _, _⟩ := hTy.k12 hT_m0
  refine pl_calli (va_runV (As := [.int y_2]) (rest := []) ⟨hx, hb, hml, hown, hT⟩ (m_keep l dC dI cy L kap (t9, t9) S_5 H.size m0 y_2 hTy hT_m0 hDI) (cwV 1 hT (gV w1309 w1310 w1311 w14 w1312) rfl rfl rfl (by decide +kernel) ⟨(Nat.le_of_ble_eq_true rfl), (Nat.le_of_ble_eq_true rfl)⟩) ⟨pcN.blind, pl_recv hK hW hT_m0.1 hS_8 rfl, pcN.pre hW.1 hK hW.2.1 hN (fun q h => absurd h List.not_mem_nil)⟩ rfl rfl hl.1 rfl (lv_room (Nat.le_of_ble_eq_true rfl)) dL_law_397 ⟨(Nat.le_of_ble_eq_true rfl), (Nat.le_of_ble_eq_true rfl)⟩) hW (fun q h => PW_A hW h) hA (fun r_9 S_10 H locs hrel hW => ?_)
  have hTy0 := hTy
  obtain ⟨hTy, hF1, hx1⟩ := hrel
  have hDI : DIs S_10 m0 := hx1
  have hJY := JY_fr hF1 (by decide) (by decide) (by decide) (by decide) hJY
  refine lv_pop hx hb dL_law_400 rfl ?_
  refine lv_goto (tgt := 1433) hx hb dL_law_401 (by decide) ?_
  exact kk t9 S_10 H locs ls (by first | exact hTy) hDI hJY hW (lv_sub hl [0, 1, 2, 3] rfl)

set_option maxHeartbeats 4000000 in
set_option maxRecDepth 100000 in
/-- mode -/
theorem law_6 {p : Program} {l : Launch} {e : Env} {s : State} {m : MethodId} {below : List Frame} {meth : Method} {c : Code} {b LN : Nat} {xs : Nat → Int32} (hx : p.tables.exec = Jvm.exec) (hb : c.code = code) (hr : meth.sig.returnType = ret) (hml : c.maxLocals = 4) (hown : s.vm.findClass RL = some m.cls) (hT : ∀ w ∈ TB, w.before #[Value.ref b] s = true) (hX : va_X b LN xs s s.heap) (hbl : b < s.heap.size) (hlocks : meth.locks = false) (hLN : LN ≤ 3072) {dC : Nat → ClassId} {dI : Nat → Nat → Nat} {cy : Nat → ClassId} {L : List Nat} {kap : Nat → Nat} {ad : (Nat → Nat) × (Nat → Nat)} {h0 m0 : Nat} (hK : va_K (dC, dI) vwCl (cyT cy) s) (hN : ∀ q ∈ NLs, va_Nw (.methodLinkNest q.1 q.2.1 q.2.2.1 q.2.2.2) s) (hSTR : STR ad (AL L s.heap.size) s s.heap) (hbA : ¬ AL L s.heap.size b) (hT_h0 : TK L kap h0 11) (hT_m0 : TK L kap m0 12) (hu6 : ∀ b9 c9, TK L kap b9 6 → TK L kap c9 6 → b9 = c9) (hu10 : ∀ b9 c9, TK L kap b9 10 → TK L kap c9 10 → b9 = c9) (hu12 : ∀ b9 c9, TK L kap b9 12 → TK L kap c9 12 → b9 = c9) (hu27 : ∀ b9 c9, TK L kap b9 27 → TK L kap c9 27 → b9 = c9) (hu50 : ∀ b9 c9, TK L kap b9 50 → TK L kap c9 50 → b9 = c9) (hu51 : ∀ b9 c9, TK L kap b9 51 → TK L kap c9 51 → b9 = c9) (hu52 : ∀ b9 c9, TK L kap b9 52 → TK L kap c9 52 → b9 = c9) (hu55 : ∀ b9 c9, TK L kap b9 55 → TK L kap c9 55 → b9 = c9) {i t9 : Nat} (hi : 6 * i + 6 ≤ LN) (kk : ∀ (t9 : Nat) (S : Nat → va_E) (H : Heap) (locs : List Loc) (ls : Array Slot), Ty cy L kap (t9, t9) S → DIs S m0 → JY L kap S → PW dC dI L (AL L s.heap.size) s.heap S H locs → lv_has ls 4 [(3, .int (nI (6 * i))), (2, .ref m0), (1, .ref h0), (0, .ref b)] → W p l e room_1 s m #[Value.ref b] below meth c H locs 152 10885 (lw_Z below #[Value.ref b] s) (F0 m 1433 ls [])) {S : Nat → va_E} {H : Heap} {locs : List Loc} {ls : Array Slot} (hTy : Ty cy L kap (t9, t9) S) (hDI : DIs S m0) (hJY : JY L kap S) (hW : PW dC dI L (AL L s.heap.size) s.heap S H locs) (hl : lv_has ls 4 [(3, .int (nI (6 * i))), (2, .ref m0), (1, .ref h0), (0, .ref b)]) : W p l e room_1 s m #[Value.ref b] below meth c H locs 152 10885 (lw_Z below #[Value.ref b] s) (F0 m 404 ls []) := by
  have hA : ∀ q, s.heap.size ≤ q → AL L s.heap.size q := fun _ h => Or.inr h
  refine lv_aload_n hx hb dL_law_404 rfl (lv_at hl 2 rfl) ?_
  refine lv_aload_n hx hb dL_law_405 rfl (lv_at hl 3 rfl) ?_
  refine lv_iload_n hx hb dL_law_406 rfl (lv_at hl 0 rfl) ?_
  refine lv_iconst (v := 1) hx hb dL_law_407 (by decide) ?_
  refine lv_iadd hx hb dL_law_408 ?_
  refine lv_topi (fun z_1 ez_1 => ?_)
  obtain rfl : z_1 = nI ((6 * i) + 1) := ez_1.trans (nI_add (6 * i) (1))
  refine va_sld hx hb hX hbl hbA hW.2.2 (vp_in_nI (n := (6 * i) + 1) (by omega) (by omega)) dL_law_409 ?_
  refine lv_topi (fun y_2 ey_2 => ?_)
  obtain ⟨_, _, _, _, _, _, _, _, _, _, _, _, _, hS_3, _, _, _, _, _, _, _, _, _, _, _, _⟩ := hTy.k11 hT_h0
  refine pl_calli (va_runV (As := [.int y_2]) (rest := []) ⟨hx, hb, hml, hown, hT⟩ (k_mode l dC dI cy L kap (t9, t9) S H.size h0 y_2 hTy hT_h0) (cwV 1 hT (gV w651 w652 w653 w1 w654) rfl rfl rfl (by decide +kernel) ⟨(Nat.le_of_ble_eq_true rfl), (Nat.le_of_ble_eq_true rfl)⟩) ⟨pcN.blind, pl_recv hK hW hT_h0.1 hS_3 rfl, pcN.pre hW.1 hK hW.2.1 hN (fun q h => absurd h List.not_mem_nil)⟩ rfl rfl hl.1 rfl (lv_room (Nat.le_of_ble_eq_true rfl)) dL_law_410 ⟨(Nat.le_of_ble_eq_true rfl), (Nat.le_of_ble_eq_true rfl)⟩) hW (fun q h => PW_A hW h) hA (fun r_4 S_5 H locs hrel hW => ?_)
  have hTy0 := hTy
  obtain ⟨hTy, hF1⟩ := hrel
  have hDI : DIs S_5 m0 := ⟨DI_0 hTy0 hTy hT_m0 hu50 hF1 (by decide) hDI.1, DI_2 hTy0 hTy hT_m0 hu52 hF1 (by decide) hDI.2⟩
  have hJY := JY_fr hF1 (by decide) (by decide) (by decide) (by decide) hJY
  refine lv_pop hx hb dL_law_413 rfl ?_
  refine lv_aload_n hx hb dL_law_414 rfl (lv_at hl 1 rfl) ?_
  refine lv_aload_n hx hb dL_law_415 rfl (lv_at hl 3 rfl) ?_
  refine lv_iload_n hx hb dL_law_416 rfl (lv_at hl 0 rfl) ?_
  refine lv_iconst (v := 1) hx hb dL_law_417 (by decide) ?_
  refine lv_iadd hx hb dL_law_418 ?_
  refine lv_topi (fun z_6 ez_6 => ?_)
  obtain rfl : z_6 = nI ((6 * i) + 1) := ez_6.trans (nI_add (6 * i) (1))
  refine va_sld hx hb hX hbl hbA hW.2.2 (vp_in_nI (n := (6 * i) + 1) (by omega) (by omega)) dL_law_419 ?_
  refine lv_topi (fun y_7 ey_7 => ?_)
  obtain rfl : y_2 = y_7 := ey_2.trans ey_7.symm
  obtain ⟨_, _, _, _, _, _, _, _, _, _, _, _, _, _, _, _, _, _, _, _, _, _, _, _, _, _, _, _, _, _, _, hS_8, _, _, _, _, _, _, _, _, _, _, _, _, _, _, _, _, _, _, _, _, _, _, _, _, _, _, _⟩ := hTy.k12 hT_m0
  refine pl_calli (va_runV (As := [.int y_2]) (rest := []) ⟨hx, hb, hml, hown, hT⟩ (m_mode l dC dI cy L kap (t9, t9) S_5 H.size m0 y_2 hTy hT_m0 hDI) (cwV 1 hT (gV w1313 w1314 w1315 w14 w1316) rfl rfl rfl (by decide +kernel) ⟨(Nat.le_of_ble_eq_true rfl), (Nat.le_of_ble_eq_true rfl)⟩) ⟨pcN.blind, pl_recv hK hW hT_m0.1 hS_8 rfl, pcN.pre hW.1 hK hW.2.1 hN (fun q h => absurd h List.not_mem_nil)⟩ rfl rfl hl.1 rfl (lv_room (Nat.le_of_ble_eq_true rfl)) dL_law_420 ⟨(Nat.le_of_ble_eq_true rfl), (Nat.le_of_ble_eq_true rfl)⟩) hW (fun q h => PW_A hW h) hA (fun r_9 S_10 H locs hrel hW => ?_)
  have hTy0 := hTy
  obtain ⟨hTy, hF1, hx1⟩ := hrel
  have hDI : DIs S_10 m0 := hx1
  have hJY := JY_fr hF1 (by decide) (by decide) (by decide) (by decide) hJY
  refine lv_pop hx hb dL_law_423 rfl ?_
  refine lv_goto (tgt := 1433) hx hb dL_law_424 (by decide) ?_
  exact kk t9 S_10 H locs ls (by first | exact hTy) hDI hJY hW (lv_sub hl [0, 1, 2, 3] rfl)

set_option maxHeartbeats 4000000 in
set_option maxRecDepth 100000 in
/-- cap -/
theorem law_7 {p : Program} {l : Launch} {e : Env} {s : State} {m : MethodId} {below : List Frame} {meth : Method} {c : Code} {b LN : Nat} {xs : Nat → Int32} (hx : p.tables.exec = Jvm.exec) (hb : c.code = code) (hr : meth.sig.returnType = ret) (hml : c.maxLocals = 4) (hown : s.vm.findClass RL = some m.cls) (hT : ∀ w ∈ TB, w.before #[Value.ref b] s = true) (hX : va_X b LN xs s s.heap) (hbl : b < s.heap.size) (hlocks : meth.locks = false) (hLN : LN ≤ 3072) {dC : Nat → ClassId} {dI : Nat → Nat → Nat} {cy : Nat → ClassId} {L : List Nat} {kap : Nat → Nat} {ad : (Nat → Nat) × (Nat → Nat)} {h0 m0 : Nat} (hK : va_K (dC, dI) vwCl (cyT cy) s) (hN : ∀ q ∈ NLs, va_Nw (.methodLinkNest q.1 q.2.1 q.2.2.1 q.2.2.2) s) (hSTR : STR ad (AL L s.heap.size) s s.heap) (hbA : ¬ AL L s.heap.size b) (hT_h0 : TK L kap h0 11) (hT_m0 : TK L kap m0 12) (hu6 : ∀ b9 c9, TK L kap b9 6 → TK L kap c9 6 → b9 = c9) (hu10 : ∀ b9 c9, TK L kap b9 10 → TK L kap c9 10 → b9 = c9) (hu12 : ∀ b9 c9, TK L kap b9 12 → TK L kap c9 12 → b9 = c9) (hu27 : ∀ b9 c9, TK L kap b9 27 → TK L kap c9 27 → b9 = c9) (hu50 : ∀ b9 c9, TK L kap b9 50 → TK L kap c9 50 → b9 = c9) (hu51 : ∀ b9 c9, TK L kap b9 51 → TK L kap c9 51 → b9 = c9) (hu52 : ∀ b9 c9, TK L kap b9 52 → TK L kap c9 52 → b9 = c9) (hu55 : ∀ b9 c9, TK L kap b9 55 → TK L kap c9 55 → b9 = c9) {i t9 : Nat} (hi : 6 * i + 6 ≤ LN) (kk : ∀ (t9 : Nat) (S : Nat → va_E) (H : Heap) (locs : List Loc) (ls : Array Slot), Ty cy L kap (t9, t9) S → DIs S m0 → JY L kap S → PW dC dI L (AL L s.heap.size) s.heap S H locs → lv_has ls 4 [(3, .int (nI (6 * i))), (2, .ref m0), (1, .ref h0), (0, .ref b)] → W p l e room_1 s m #[Value.ref b] below meth c H locs 152 10885 (lw_Z below #[Value.ref b] s) (F0 m 1433 ls [])) {S : Nat → va_E} {H : Heap} {locs : List Loc} {ls : Array Slot} (hTy : Ty cy L kap (t9, t9) S) (hDI : DIs S m0) (hJY : JY L kap S) (hW : PW dC dI L (AL L s.heap.size) s.heap S H locs) (hl : lv_has ls 4 [(3, .int (nI (6 * i))), (2, .ref m0), (1, .ref h0), (0, .ref b)]) : W p l e room_1 s m #[Value.ref b] below meth c H locs 152 10885 (lw_Z below #[Value.ref b] s) (F0 m 427 ls []) := by
  have hA : ∀ q, s.heap.size ≤ q → AL L s.heap.size q := fun _ h => Or.inr h
  refine lv_aload_n hx hb dL_law_427 rfl (lv_at hl 2 rfl) ?_
  refine lv_aload_n hx hb dL_law_428 rfl (lv_at hl 3 rfl) ?_
  refine lv_iload_n hx hb dL_law_429 rfl (lv_at hl 0 rfl) ?_
  refine lv_iconst (v := 1) hx hb dL_law_430 (by decide) ?_
  refine lv_iadd hx hb dL_law_431 ?_
  refine lv_topi (fun z_1 ez_1 => ?_)
  obtain rfl : z_1 = nI ((6 * i) + 1) := ez_1.trans (nI_add (6 * i) (1))
  refine va_sld hx hb hX hbl hbA hW.2.2 (vp_in_nI (n := (6 * i) + 1) (by omega) (by omega)) dL_law_432 ?_
  refine lv_topi (fun y_2 ey_2 => ?_)
  refine lv_aload_n hx hb dL_law_433 rfl (lv_at hl 3 rfl) ?_
  refine lv_iload_n hx hb dL_law_434 rfl (lv_at hl 0 rfl) ?_
  refine lv_iconst (v := 2) hx hb dL_law_435 (by decide) ?_
  refine lv_iadd hx hb dL_law_436 ?_
  refine lv_topi (fun z_3 ez_3 => ?_)
  obtain rfl : z_3 = nI ((6 * i) + 2) := ez_3.trans (nI_add (6 * i) (2))
  refine va_sld hx hb hX hbl hbA hW.2.2 (vp_in_nI (n := (6 * i) + 2) (by omega) (by omega)) dL_law_437 ?_
  refine lv_topi (fun y_4 ey_4 => ?_)
  refine lv_aload_n hx hb dL_law_438 rfl (lv_at hl 3 rfl) ?_
  refine lv_iload_n hx hb dL_law_439 rfl (lv_at hl 0 rfl) ?_
  refine lv_iconst (v := 3) hx hb dL_law_440 (by decide) ?_
  refine lv_iadd hx hb dL_law_441 ?_
  refine lv_topi (fun z_5 ez_5 => ?_)
  obtain rfl : z_5 = nI ((6 * i) + 3) := ez_5.trans (nI_add (6 * i) (3))
  refine va_sld hx hb hX hbl hbA hW.2.2 (vp_in_nI (n := (6 * i) + 3) (by omega) (by omega)) dL_law_442 ?_
  refine lv_topi (fun y_6 ey_6 => ?_)
  obtain ⟨_, _, _, _, _, _, _, _, _, _, _, _, _, hS_7, _, _, _, _, _, _, _, _, _, _, _, _⟩ := hTy.k11 hT_h0
  refine pl_calli (va_runV (As := [.int y_2, .int y_4, .int y_6]) (rest := []) ⟨hx, hb, hml, hown, hT⟩ (k_cap l dC dI cy L kap (t9, t9) S H.size h0 y_2 y_4 y_6 hTy hT_h0) (cwV 3 hT (gV w655 w656 w657 w1 w658) rfl rfl rfl (by decide +kernel) ⟨(Nat.le_of_ble_eq_true rfl), (Nat.le_of_ble_eq_true rfl)⟩) ⟨pcN.blind, pl_recv hK hW hT_h0.1 hS_7 rfl, pcN.pre hW.1 hK hW.2.1 hN (fun q h => absurd h List.not_mem_nil)⟩ rfl rfl hl.1 rfl (lv_room (Nat.le_of_ble_eq_true rfl)) dL_law_443 ⟨(Nat.le_of_ble_eq_true rfl), (Nat.le_of_ble_eq_true rfl)⟩) hW (fun q h => PW_A hW h) hA (fun r_8 S_9 H locs hrel hW => ?_)
  have hTy0 := hTy
  obtain ⟨hTy, hF1⟩ := hrel
  have hDI : DIs S_9 m0 := ⟨DI_0 hTy0 hTy hT_m0 hu50 hF1 (by decide) hDI.1, DI_2 hTy0 hTy hT_m0 hu52 hF1 (by decide) hDI.2⟩
  have hJY := JY_fr hF1 (by decide) (by decide) (by decide) (by decide) hJY
  refine lv_pop hx hb dL_law_446 rfl ?_
  refine lv_aload_n hx hb dL_law_447 rfl (lv_at hl 1 rfl) ?_
  refine lv_aload_n hx hb dL_law_448 rfl (lv_at hl 3 rfl) ?_
  refine lv_iload_n hx hb dL_law_449 rfl (lv_at hl 0 rfl) ?_
  refine lv_iconst (v := 1) hx hb dL_law_450 (by decide) ?_
  refine lv_iadd hx hb dL_law_451 ?_
  refine lv_topi (fun z_10 ez_10 => ?_)
  obtain rfl : z_10 = nI ((6 * i) + 1) := ez_10.trans (nI_add (6 * i) (1))
  refine va_sld hx hb hX hbl hbA hW.2.2 (vp_in_nI (n := (6 * i) + 1) (by omega) (by omega)) dL_law_452 ?_
  refine lv_topi (fun y_11 ey_11 => ?_)
  obtain rfl : y_2 = y_11 := ey_2.trans ey_11.symm
  refine lv_aload_n hx hb dL_law_453 rfl (lv_at hl 3 rfl) ?_
  refine lv_iload_n hx hb dL_law_454 rfl (lv_at hl 0 rfl) ?_
  refine lv_iconst (v := 2) hx hb dL_law_455 (by decide) ?_
  refine lv_iadd hx hb dL_law_456 ?_
  refine lv_topi (fun z_12 ez_12 => ?_)
  obtain rfl : z_12 = nI ((6 * i) + 2) := ez_12.trans (nI_add (6 * i) (2))
  refine va_sld hx hb hX hbl hbA hW.2.2 (vp_in_nI (n := (6 * i) + 2) (by omega) (by omega)) dL_law_457 ?_
  refine lv_topi (fun y_13 ey_13 => ?_)
  obtain rfl : y_4 = y_13 := ey_4.trans ey_13.symm
  refine lv_aload_n hx hb dL_law_458 rfl (lv_at hl 3 rfl) ?_
  refine lv_iload_n hx hb dL_law_459 rfl (lv_at hl 0 rfl) ?_
  refine lv_iconst (v := 3) hx hb dL_law_460 (by decide) ?_
  refine lv_iadd hx hb dL_law_461 ?_
  refine lv_topi (fun z_14 ez_14 => ?_)
  obtain rfl : z_14 = nI ((6 * i) + 3) := ez_14.trans (nI_add (6 * i) (3))
  refine va_sld hx hb hX hbl hbA hW.2.2 (vp_in_nI (n := (6 * i) + 3) (by omega) (by omega)) dL_law_462 ?_
  refine lv_topi (fun y_15 ey_15 => ?_)
  obtain rfl : y_6 = y_15 := ey_6.trans ey_15.symm
  obtain ⟨_, _, _, _, _, _, _, _, _, _, _, _, _, _, _, _, _, _, _, _, _, _, _, _, _, _, _, _, _, _, _, hS_16, _, _, _, _, _, _, _, _, _, _, _, _, _, _, _, _, _, _, _, _, _, _, _, _, _, _, _⟩ := hTy.k12 hT_m0
  refine pl_calli (va_runV (As := [.int y_2, .int y_4, .int y_6]) (rest := []) ⟨hx, hb, hml, hown, hT⟩ (m_cap l dC dI cy L kap (t9, t9) S_9 H.size m0 y_2 y_4 y_6 hTy hT_m0 hDI) (cwV 3 hT (gV w1318 w1319 w1320 w14 w1321) rfl rfl rfl (by decide +kernel) ⟨(Nat.le_of_ble_eq_true rfl), (Nat.le_of_ble_eq_true rfl)⟩) ⟨pcN.blind, pl_recv hK hW hT_m0.1 hS_16 rfl, pcN.pre hW.1 hK hW.2.1 hN (fun q h => absurd h List.not_mem_nil)⟩ rfl rfl hl.1 rfl (lv_room (Nat.le_of_ble_eq_true rfl)) dL_law_463 ⟨(Nat.le_of_ble_eq_true rfl), (Nat.le_of_ble_eq_true rfl)⟩) hW (fun q h => PW_A hW h) hA (fun r_17 S_18 H locs hrel hW => ?_)
  have hTy0 := hTy
  obtain ⟨hTy, hF1, hx1⟩ := hrel
  have hDI : DIs S_18 m0 := hx1
  have hJY := JY_fr hF1 (by decide) (by decide) (by decide) (by decide) hJY
  refine lv_pop hx hb dL_law_466 rfl ?_
  refine lv_goto (tgt := 1433) hx hb dL_law_467 (by decide) ?_
  exact kk t9 S_18 H locs ls (by first | exact hTy) hDI hJY hW (lv_sub hl [0, 1, 2, 3] rfl)

set_option maxHeartbeats 4000000 in
set_option maxRecDepth 100000 in
/-- takeRing -/
theorem law_8 {p : Program} {l : Launch} {e : Env} {s : State} {m : MethodId} {below : List Frame} {meth : Method} {c : Code} {b LN : Nat} {xs : Nat → Int32} (hx : p.tables.exec = Jvm.exec) (hb : c.code = code) (hr : meth.sig.returnType = ret) (hml : c.maxLocals = 4) (hown : s.vm.findClass RL = some m.cls) (hT : ∀ w ∈ TB, w.before #[Value.ref b] s = true) (hX : va_X b LN xs s s.heap) (hbl : b < s.heap.size) (hlocks : meth.locks = false) (hLN : LN ≤ 3072) {dC : Nat → ClassId} {dI : Nat → Nat → Nat} {cy : Nat → ClassId} {L : List Nat} {kap : Nat → Nat} {ad : (Nat → Nat) × (Nat → Nat)} {h0 m0 : Nat} (hK : va_K (dC, dI) vwCl (cyT cy) s) (hN : ∀ q ∈ NLs, va_Nw (.methodLinkNest q.1 q.2.1 q.2.2.1 q.2.2.2) s) (hSTR : STR ad (AL L s.heap.size) s s.heap) (hbA : ¬ AL L s.heap.size b) (hT_h0 : TK L kap h0 11) (hT_m0 : TK L kap m0 12) (hu6 : ∀ b9 c9, TK L kap b9 6 → TK L kap c9 6 → b9 = c9) (hu10 : ∀ b9 c9, TK L kap b9 10 → TK L kap c9 10 → b9 = c9) (hu12 : ∀ b9 c9, TK L kap b9 12 → TK L kap c9 12 → b9 = c9) (hu27 : ∀ b9 c9, TK L kap b9 27 → TK L kap c9 27 → b9 = c9) (hu50 : ∀ b9 c9, TK L kap b9 50 → TK L kap c9 50 → b9 = c9) (hu51 : ∀ b9 c9, TK L kap b9 51 → TK L kap c9 51 → b9 = c9) (hu52 : ∀ b9 c9, TK L kap b9 52 → TK L kap c9 52 → b9 = c9) (hu55 : ∀ b9 c9, TK L kap b9 55 → TK L kap c9 55 → b9 = c9) {i t9 : Nat} (hi : 6 * i + 6 ≤ LN) (kk : ∀ (t9 : Nat) (S : Nat → va_E) (H : Heap) (locs : List Loc) (ls : Array Slot), Ty cy L kap (t9, t9) S → DIs S m0 → JY L kap S → PW dC dI L (AL L s.heap.size) s.heap S H locs → lv_has ls 4 [(3, .int (nI (6 * i))), (2, .ref m0), (1, .ref h0), (0, .ref b)] → W p l e room_1 s m #[Value.ref b] below meth c H locs 152 10885 (lw_Z below #[Value.ref b] s) (F0 m 1433 ls [])) {S : Nat → va_E} {H : Heap} {locs : List Loc} {ls : Array Slot} (hTy : Ty cy L kap (t9, t9) S) (hDI : DIs S m0) (hJY : JY L kap S) (hW : PW dC dI L (AL L s.heap.size) s.heap S H locs) (hl : lv_has ls 4 [(3, .int (nI (6 * i))), (2, .ref m0), (1, .ref h0), (0, .ref b)]) : W p l e room_1 s m #[Value.ref b] below meth c H locs 152 10885 (lw_Z below #[Value.ref b] s) (F0 m 470 ls []) := by
  have hA : ∀ q, s.heap.size ≤ q → AL L s.heap.size q := fun _ h => Or.inr h
  refine lv_aload_n hx hb dL_law_470 rfl (lv_at hl 2 rfl) ?_
  refine lv_aload_n hx hb dL_law_471 rfl (lv_at hl 3 rfl) ?_
  refine lv_iload_n hx hb dL_law_472 rfl (lv_at hl 0 rfl) ?_
  refine lv_iconst (v := 1) hx hb dL_law_473 (by decide) ?_
  refine lv_iadd hx hb dL_law_474 ?_
  refine lv_topi (fun z_1 ez_1 => ?_)
  obtain rfl : z_1 = nI ((6 * i) + 1) := ez_1.trans (nI_add (6 * i) (1))
  refine va_sld hx hb hX hbl hbA hW.2.2 (vp_in_nI (n := (6 * i) + 1) (by omega) (by omega)) dL_law_475 ?_
  refine lv_topi (fun y_2 ey_2 => ?_)
  obtain ⟨_, _, _, _, _, _, _, _, _, _, _, _, _, hS_3, _, _, _, _, _, _, _, _, _, _, _, _⟩ := hTy.k11 hT_h0
  refine pl_calli (va_runV (As := [.int y_2]) (rest := []) ⟨hx, hb, hml, hown, hT⟩ (k_takeRing l dC dI cy L kap (t9, t9) S H.size h0 y_2 hTy hT_h0) (cwV 1 hT (gV w661 w662 w663 w1 w664) rfl rfl rfl (by decide +kernel) ⟨(Nat.le_of_ble_eq_true rfl), (Nat.le_of_ble_eq_true rfl)⟩) ⟨pcN.blind, pl_recv hK hW hT_h0.1 hS_3 rfl, pcN.pre hW.1 hK hW.2.1 hN (fun q h => absurd h List.not_mem_nil)⟩ rfl rfl hl.1 rfl (lv_room (Nat.le_of_ble_eq_true rfl)) dL_law_476 ⟨(Nat.le_of_ble_eq_true rfl), (Nat.le_of_ble_eq_true rfl)⟩) hW (fun q h => PW_A hW h) hA (fun r_4 S_5 H locs hrel hW => ?_)
  have hTy0 := hTy
  obtain ⟨hTy, hF1⟩ := hrel
  have hDI : DIs S_5 m0 := ⟨DI_0 hTy0 hTy hT_m0 hu50 hF1 (by decide) hDI.1, DI_2 hTy0 hTy hT_m0 hu52 hF1 (by decide) hDI.2⟩
  have hJY := JY_fr hF1 (by decide) (by decide) (by decide) (by decide) hJY
  refine lv_pop hx hb dL_law_479 rfl ?_
  refine lv_aload_n hx hb dL_law_480 rfl (lv_at hl 1 rfl) ?_
  refine lv_aload_n hx hb dL_law_481 rfl (lv_at hl 3 rfl) ?_
  refine lv_iload_n hx hb dL_law_482 rfl (lv_at hl 0 rfl) ?_
  refine lv_iconst (v := 1) hx hb dL_law_483 (by decide) ?_
  refine lv_iadd hx hb dL_law_484 ?_
  refine lv_topi (fun z_6 ez_6 => ?_)
  obtain rfl : z_6 = nI ((6 * i) + 1) := ez_6.trans (nI_add (6 * i) (1))
  refine va_sld hx hb hX hbl hbA hW.2.2 (vp_in_nI (n := (6 * i) + 1) (by omega) (by omega)) dL_law_485 ?_
  refine lv_topi (fun y_7 ey_7 => ?_)
  obtain rfl : y_2 = y_7 := ey_2.trans ey_7.symm
  obtain ⟨_, _, _, _, _, _, _, _, _, _, _, _, _, _, _, _, _, _, _, _, _, _, _, _, _, _, _, _, _, _, _, hS_8, _, _, _, _, _, _, _, _, _, _, _, _, _, _, _, _, _, _, _, _, _, _, _, _, _, _, _⟩ := hTy.k12 hT_m0
  refine pl_calli (va_runV (As := [.int y_2]) (rest := []) ⟨hx, hb, hml, hown, hT⟩ (m_takeRing l dC dI cy L kap (t9, t9) S_5 H.size m0 y_2 hTy hT_m0 hDI) (cwV 1 hT (gV w1439 w1440 w1441 w14 w1442) rfl rfl rfl (by decide +kernel) ⟨(Nat.le_of_ble_eq_true rfl), (Nat.le_of_ble_eq_true rfl)⟩) ⟨pcN.blind, pl_recv hK hW hT_m0.1 hS_8 rfl, pcN.pre hW.1 hK hW.2.1 hN (fun q h => absurd h List.not_mem_nil)⟩ rfl rfl hl.1 rfl (lv_room (Nat.le_of_ble_eq_true rfl)) dL_law_486 ⟨(Nat.le_of_ble_eq_true rfl), (Nat.le_of_ble_eq_true rfl)⟩) hW (fun q h => PW_A hW h) hA (fun r_9 S_10 H locs hrel hW => ?_)
  have hTy0 := hTy
  obtain ⟨hTy, hF1, hx1⟩ := hrel
  have hDI : DIs S_10 m0 := hx1
  have hJY := JY_fr hF1 (by decide) (by decide) (by decide) (by decide) hJY
  refine lv_pop hx hb dL_law_489 rfl ?_
  refine lv_goto (tgt := 1433) hx hb dL_law_490 (by decide) ?_
  exact kk t9 S_10 H locs ls (by first | exact hTy) hDI hJY hW (lv_sub hl [0, 1, 2, 3] rfl)

set_option maxHeartbeats 4000000 in
set_option maxRecDepth 100000 in
/-- press -/
theorem law_9 {p : Program} {l : Launch} {e : Env} {s : State} {m : MethodId} {below : List Frame} {meth : Method} {c : Code} {b LN : Nat} {xs : Nat → Int32} (hx : p.tables.exec = Jvm.exec) (hb : c.code = code) (hr : meth.sig.returnType = ret) (hml : c.maxLocals = 4) (hown : s.vm.findClass RL = some m.cls) (hT : ∀ w ∈ TB, w.before #[Value.ref b] s = true) (hX : va_X b LN xs s s.heap) (hbl : b < s.heap.size) (hlocks : meth.locks = false) (hLN : LN ≤ 3072) {dC : Nat → ClassId} {dI : Nat → Nat → Nat} {cy : Nat → ClassId} {L : List Nat} {kap : Nat → Nat} {ad : (Nat → Nat) × (Nat → Nat)} {h0 m0 : Nat} (hK : va_K (dC, dI) vwCl (cyT cy) s) (hN : ∀ q ∈ NLs, va_Nw (.methodLinkNest q.1 q.2.1 q.2.2.1 q.2.2.2) s) (hSTR : STR ad (AL L s.heap.size) s s.heap) (hbA : ¬ AL L s.heap.size b) (hT_h0 : TK L kap h0 11) (hT_m0 : TK L kap m0 12) (hu6 : ∀ b9 c9, TK L kap b9 6 → TK L kap c9 6 → b9 = c9) (hu10 : ∀ b9 c9, TK L kap b9 10 → TK L kap c9 10 → b9 = c9) (hu12 : ∀ b9 c9, TK L kap b9 12 → TK L kap c9 12 → b9 = c9) (hu27 : ∀ b9 c9, TK L kap b9 27 → TK L kap c9 27 → b9 = c9) (hu50 : ∀ b9 c9, TK L kap b9 50 → TK L kap c9 50 → b9 = c9) (hu51 : ∀ b9 c9, TK L kap b9 51 → TK L kap c9 51 → b9 = c9) (hu52 : ∀ b9 c9, TK L kap b9 52 → TK L kap c9 52 → b9 = c9) (hu55 : ∀ b9 c9, TK L kap b9 55 → TK L kap c9 55 → b9 = c9) {i t9 : Nat} (hi : 6 * i + 6 ≤ LN) (kk : ∀ (t9 : Nat) (S : Nat → va_E) (H : Heap) (locs : List Loc) (ls : Array Slot), Ty cy L kap (t9, t9) S → DIs S m0 → JY L kap S → PW dC dI L (AL L s.heap.size) s.heap S H locs → lv_has ls 4 [(3, .int (nI (6 * i))), (2, .ref m0), (1, .ref h0), (0, .ref b)] → W p l e room_1 s m #[Value.ref b] below meth c H locs 152 10885 (lw_Z below #[Value.ref b] s) (F0 m 1433 ls [])) {S : Nat → va_E} {H : Heap} {locs : List Loc} {ls : Array Slot} (hTy : Ty cy L kap (t9, t9) S) (hDI : DIs S m0) (hJY : JY L kap S) (hW : PW dC dI L (AL L s.heap.size) s.heap S H locs) (hl : lv_has ls 4 [(3, .int (nI (6 * i))), (2, .ref m0), (1, .ref h0), (0, .ref b)]) : W p l e room_1 s m #[Value.ref b] below meth c H locs 152 10885 (lw_Z below #[Value.ref b] s) (F0 m 493 ls []) := by
  have hA : ∀ q, s.heap.size ≤ q → AL L s.heap.size q := fun _ h => Or.inr h
  refine lv_aload_n hx hb dL_law_493 rfl (lv_at hl 2 rfl) ?_
  refine lv_aload_n hx hb dL_law_494 rfl (lv_at hl 3 rfl) ?_
  refine lv_iload_n hx hb dL_law_495 rfl (lv_at hl 0 rfl) ?_
  refine lv_iconst (v := 1) hx hb dL_law_496 (by decide) ?_
  refine lv_iadd hx hb dL_law_497 ?_
  refine lv_topi (fun z_1 ez_1 => ?_)
  obtain rfl : z_1 = nI ((6 * i) + 1) := ez_1.trans (nI_add (6 * i) (1))
  refine va_sld hx hb hX hbl hbA hW.2.2 (vp_in_nI (n := (6 * i) + 1) (by omega) (by omega)) dL_law_498 ?_
  refine lv_topi (fun y_2 ey_2 => ?_)
  obtain ⟨_, _, _, _, _, _, _, _, _, _, _, _, _, hS_3, _, _, _, _, _, _, _, _, _, _, _, _⟩ := hTy.k11 hT_h0
  refine pl_calli (va_runV (As := [.int y_2]) (rest := []) ⟨hx, hb, hml, hown, hT⟩ (k_press l dC dI cy L kap (t9, t9) S H.size h0 y_2 hTy hT_h0) (cwV 1 hT (gV w725 w726 w727 w1 w728) rfl rfl rfl (by decide +kernel) ⟨(Nat.le_of_ble_eq_true rfl), (Nat.le_of_ble_eq_true rfl)⟩) ⟨pcN.blind, pl_recv hK hW hT_h0.1 hS_3 rfl, pcN.pre hW.1 hK hW.2.1 hN (fun q h => absurd h List.not_mem_nil)⟩ rfl rfl hl.1 rfl (lv_room (Nat.le_of_ble_eq_true rfl)) dL_law_499 ⟨(Nat.le_of_ble_eq_true rfl), (Nat.le_of_ble_eq_true rfl)⟩) hW (fun q h => PW_A hW h) hA (fun r_4 S_5 H locs hrel hW => ?_)
  have hTy0 := hTy
  obtain ⟨hTy, hF1⟩ := hrel
  have hDI : DIs S_5 m0 := ⟨DI_0 hTy0 hTy hT_m0 hu50 hF1 (by decide) hDI.1, DI_2 hTy0 hTy hT_m0 hu52 hF1 (by decide) hDI.2⟩
  have hJY := JY_fr hF1 (by decide) (by decide) (by decide) (by decide) hJY
  refine lv_pop hx hb dL_law_502 rfl ?_
  refine lv_aload_n hx hb dL_law_503 rfl (lv_at hl 1 rfl) ?_
  refine lv_aload_n hx hb dL_law_504 rfl (lv_at hl 3 rfl) ?_
  refine lv_iload_n hx hb dL_law_505 rfl (lv_at hl 0 rfl) ?_
  refine lv_iconst (v := 1) hx hb dL_law_506 (by decide) ?_
  refine lv_iadd hx hb dL_law_507 ?_
  refine lv_topi (fun z_6 ez_6 => ?_)
  obtain rfl : z_6 = nI ((6 * i) + 1) := ez_6.trans (nI_add (6 * i) (1))
  refine va_sld hx hb hX hbl hbA hW.2.2 (vp_in_nI (n := (6 * i) + 1) (by omega) (by omega)) dL_law_508 ?_
  refine lv_topi (fun y_7 ey_7 => ?_)
  obtain rfl : y_2 = y_7 := ey_2.trans ey_7.symm
  obtain ⟨_, _, _, _, _, _, _, _, _, _, _, _, _, _, _, _, _, _, _, _, _, _, _, _, _, _, _, _, _, _, _, hS_8, _, _, _, _, _, _, _, _, _, _, _, _, _, _, _, _, _, _, _, _, _, _, _, _, _, _, _⟩ := hTy.k12 hT_m0
  refine pl_calli (va_runV (As := [.int y_2]) (rest := []) ⟨hx, hb, hml, hown, hT⟩ (m_press l dC dI cy L kap (t9, t9) S_5 H.size m0 y_2 hTy hT_m0 hDI) (cwV 1 hT (gV w1547 w1548 w1549 w14 w1550) rfl rfl rfl (by decide +kernel) ⟨(Nat.le_of_ble_eq_true rfl), (Nat.le_of_ble_eq_true rfl)⟩) ⟨pcN.blind, pl_recv hK hW hT_m0.1 hS_8 rfl, pcN.pre hW.1 hK hW.2.1 hN (fun q h => absurd h List.not_mem_nil)⟩ rfl rfl hl.1 rfl (lv_room (Nat.le_of_ble_eq_true rfl)) dL_law_509 ⟨(Nat.le_of_ble_eq_true rfl), (Nat.le_of_ble_eq_true rfl)⟩) hW (fun q h => PW_A hW h) hA (fun r_9 S_10 H locs hrel hW => ?_)
  have hTy0 := hTy
  obtain ⟨hTy, hF1, hx1⟩ := hrel
  have hDI : DIs S_10 m0 := hx1
  have hJY := JY_fr hF1 (by decide) (by decide) (by decide) (by decide) hJY
  refine lv_pop hx hb dL_law_512 rfl ?_
  refine lv_goto (tgt := 1433) hx hb dL_law_513 (by decide) ?_
  exact kk t9 S_10 H locs ls (by first | exact hTy) hDI hJY hW (lv_sub hl [0, 1, 2, 3] rfl)

