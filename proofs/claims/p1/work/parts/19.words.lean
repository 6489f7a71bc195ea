def zgo (w : Cond) : Prop := w ∈ lw_tbl ∧ goodWord w = true
theorem zgn {big : List Cond} : GoodIn big [] := fun w h => absurd h List.not_mem_nil
theorem zgc {c : Cond} {ws : List Cond} (h : zgo c) (k : GoodIn lw_tbl ws) : GoodIn lw_tbl (c :: ws) := fun w hw => (List.mem_cons.mp hw).elim (fun e => by rw [e]; exact ⟨h.1, good_of_word h.2⟩) (k w)
theorem zm_676 : zgo (Cond.laysFinal "java/lang/String" "java/lang/String" "value" "[B") := ⟨List.mem_of_getElem? (i := 676) (by decide +kernel), by decide +kernel⟩
theorem zm_678 : zgo (Cond.laysFinal "java/lang/String" "java/lang/String" "coder" "B") := ⟨List.mem_of_getElem? (i := 678) (by decide +kernel), by decide +kernel⟩
theorem zm_2402 : zgo (Cond.lays "java/lang/String" "java/lang/String" "hash" "I") := ⟨List.mem_of_getElem? (i := 2402) (by decide +kernel), by decide +kernel⟩
theorem zm_2404 : zgo (Cond.lays "java/lang/String" "java/lang/String" "hashIsZero" "Z") := ⟨List.mem_of_getElem? (i := 2404) (by decide +kernel), by decide +kernel⟩
theorem zw_wsJ00 : GoodIn lw_tbl wsJ00 := (zgc zm_676 (zgc zm_678 (zgc zm_2402 (zgc zm_2404 zgn))))
theorem zm_2236 : zgo (Cond.lays "java/lang/StringBuilder" "java/lang/AbstractStringBuilder" "value" "[B") := ⟨List.mem_of_getElem? (i := 2236) (by decide +kernel), by decide +kernel⟩
theorem zm_2238 : zgo (Cond.lays "java/lang/StringBuilder" "java/lang/AbstractStringBuilder" "coder" "B") := ⟨List.mem_of_getElem? (i := 2238) (by decide +kernel), by decide +kernel⟩
theorem zm_2240 : zgo (Cond.lays "java/lang/StringBuilder" "java/lang/AbstractStringBuilder" "maybeLatin1" "Z") := ⟨List.mem_of_getElem? (i := 2240) (by decide +kernel), by decide +kernel⟩
theorem zm_2242 : zgo (Cond.lays "java/lang/StringBuilder" "java/lang/AbstractStringBuilder" "count" "I") := ⟨List.mem_of_getElem? (i := 2242) (by decide +kernel), by decide +kernel⟩
theorem zw_wsJ40 : GoodIn lw_tbl wsJ40 := (zgc zm_2236 (zgc zm_2238 (zgc zm_2240 (zgc zm_2242 zgn))))
theorem zm_664 : zgo (Cond.lays "java/lang/ArrayIndexOutOfBoundsException" "java/lang/Throwable" "backtrace" "Ljava/lang/Object;") := ⟨List.mem_of_getElem? (i := 664) (by decide +kernel), by decide +kernel⟩
theorem zm_665 : zgo (Cond.lays "java/lang/ArrayIndexOutOfBoundsException" "java/lang/Throwable" "detailMessage" "Ljava/lang/String;") := ⟨List.mem_of_getElem? (i := 665) (by decide +kernel), by decide +kernel⟩
theorem zm_666 : zgo (Cond.lays "java/lang/ArrayIndexOutOfBoundsException" "java/lang/Throwable" "cause" "Ljava/lang/Throwable;") := ⟨List.mem_of_getElem? (i := 666) (by decide +kernel), by decide +kernel⟩
theorem zm_667 : zgo (Cond.lays "java/lang/ArrayIndexOutOfBoundsException" "java/lang/Throwable" "stackTrace" "[Ljava/lang/StackTraceElement;") := ⟨List.mem_of_getElem? (i := 667) (by decide +kernel), by decide +kernel⟩
theorem zm_668 : zgo (Cond.lays "java/lang/ArrayIndexOutOfBoundsException" "java/lang/Throwable" "depth" "I") := ⟨List.mem_of_getElem? (i := 668) (by decide +kernel), by decide +kernel⟩
theorem zm_669 : zgo (Cond.lays "java/lang/ArrayIndexOutOfBoundsException" "java/lang/Throwable" "suppressedExceptions" "Ljava/util/List;") := ⟨List.mem_of_getElem? (i := 669) (by decide +kernel), by decide +kernel⟩
theorem zw_wsJx000600 : GoodIn lw_tbl wsJx000600 := (zgc zm_664 (zgc zm_665 (zgc zm_666 (zgc zm_667 (zgc zm_668 (zgc zm_669 zgn))))))
theorem zm_1354 : zgo (Cond.lays "java/util/ArrayList$Itr" "java/util/ArrayList$Itr" "cursor" "I") := ⟨List.mem_of_getElem? (i := 1354) (by decide +kernel), by decide +kernel⟩
theorem zm_1356 : zgo (Cond.lays "java/util/ArrayList$Itr" "java/util/ArrayList$Itr" "lastRet" "I") := ⟨List.mem_of_getElem? (i := 1356) (by decide +kernel), by decide +kernel⟩
theorem zm_1358 : zgo (Cond.lays "java/util/ArrayList$Itr" "java/util/ArrayList$Itr" "expectedModCount" "I") := ⟨List.mem_of_getElem? (i := 1358) (by decide +kernel), by decide +kernel⟩
theorem zm_1360 : zgo (Cond.laysFinal "java/util/ArrayList$Itr" "java/util/ArrayList$Itr" "this$0" "Ljava/util/ArrayList;") := ⟨List.mem_of_getElem? (i := 1360) (by decide +kernel), by decide +kernel⟩
theorem zw_wsJx354110 : GoodIn lw_tbl wsJx354110 := (zgc zm_1354 (zgc zm_1356 (zgc zm_1358 (zgc zm_1360 zgn))))
theorem zm_1278 : zgo (Cond.lays "java/util/ArrayList" "java/util/AbstractList" "modCount" "I") := ⟨List.mem_of_getElem? (i := 1278) (by decide +kernel), by decide +kernel⟩
theorem zm_1274 : zgo (Cond.lays "java/util/ArrayList" "java/util/ArrayList" "elementData" "[Ljava/lang/Object;") := ⟨List.mem_of_getElem? (i := 1274) (by decide +kernel), by decide +kernel⟩
theorem zm_1276 : zgo (Cond.lays "java/util/ArrayList" "java/util/ArrayList" "size" "I") := ⟨List.mem_of_getElem? (i := 1276) (by decide +kernel), by decide +kernel⟩
theorem zw_wsJx4a65c0 : GoodIn lw_tbl wsJx4a65c0 := (zgc zm_1278 (zgc zm_1274 (zgc zm_1276 zgn)))
theorem zm_263 : zgo (Cond.lays "Gangline$Dog" "Gangline$Dog" "kennel" "I") := ⟨List.mem_of_getElem? (i := 263) (by decide +kernel), by decide +kernel⟩
theorem zm_265 : zgo (Cond.lays "Gangline$Dog" "Gangline$Dog" "team" "I") := ⟨List.mem_of_getElem? (i := 265) (by decide +kernel), by decide +kernel⟩
theorem zm_267 : zgo (Cond.lays "Gangline$Dog" "Gangline$Dog" "strength" "I") := ⟨List.mem_of_getElem? (i := 267) (by decide +kernel), by decide +kernel⟩
theorem zm_269 : zgo (Cond.lays "Gangline$Dog" "Gangline$Dog" "lead" "I") := ⟨List.mem_of_getElem? (i := 269) (by decide +kernel), by decide +kernel⟩
theorem zm_271 : zgo (Cond.lays "Gangline$Dog" "Gangline$Dog" "age" "I") := ⟨List.mem_of_getElem? (i := 271) (by decide +kernel), by decide +kernel⟩
theorem zm_273 : zgo (Cond.lays "Gangline$Dog" "Gangline$Dog" "mother" "I") := ⟨List.mem_of_getElem? (i := 273) (by decide +kernel), by decide +kernel⟩
theorem zm_275 : zgo (Cond.lays "Gangline$Dog" "Gangline$Dog" "father" "I") := ⟨List.mem_of_getElem? (i := 275) (by decide +kernel), by decide +kernel⟩
theorem zm_277 : zgo (Cond.lays "Gangline$Dog" "Gangline$Dog" "feet" "I") := ⟨List.mem_of_getElem? (i := 277) (by decide +kernel), by decide +kernel⟩
theorem zm_279 : zgo (Cond.lays "Gangline$Dog" "Gangline$Dog" "food" "I") := ⟨List.mem_of_getElem? (i := 279) (by decide +kernel), by decide +kernel⟩
theorem zm_281 : zgo (Cond.lays "Gangline$Dog" "Gangline$Dog" "water" "I") := ⟨List.mem_of_getElem? (i := 281) (by decide +kernel), by decide +kernel⟩
theorem zm_283 : zgo (Cond.lays "Gangline$Dog" "Gangline$Dog" "trust" "I") := ⟨List.mem_of_getElem? (i := 283) (by decide +kernel), by decide +kernel⟩
theorem zm_285 : zgo (Cond.lays "Gangline$Dog" "Gangline$Dog" "kilometres" "I") := ⟨List.mem_of_getElem? (i := 285) (by decide +kernel), by decide +kernel⟩
theorem zm_287 : zgo (Cond.lays "Gangline$Dog" "Gangline$Dog" "littered" "Z") := ⟨List.mem_of_getElem? (i := 287) (by decide +kernel), by decide +kernel⟩
theorem zm_289 : zgo (Cond.lays "Gangline$Dog" "Gangline$Dog" "state" "C") := ⟨List.mem_of_getElem? (i := 289) (by decide +kernel), by decide +kernel⟩
theorem zw_wsX00 : GoodIn lw_tbl wsX00 := (zgc zm_263 (zgc zm_265 (zgc zm_267 (zgc zm_269 (zgc zm_271 (zgc zm_273 (zgc zm_275 (zgc zm_277 (zgc zm_279 (zgc zm_281 (zgc zm_283 (zgc zm_285 (zgc zm_287 (zgc zm_289 zgn))))))))))))))
theorem zm_642 : zgo (Cond.laysFinal "Gangline$Leg" "Gangline$Leg" "length" "I") := ⟨List.mem_of_getElem? (i := 642) (by decide +kernel), by decide +kernel⟩
theorem zm_644 : zgo (Cond.laysFinal "Gangline$Leg" "Gangline$Leg" "surface" "I") := ⟨List.mem_of_getElem? (i := 644) (by decide +kernel), by decide +kernel⟩
theorem zm_646 : zgo (Cond.laysFinal "Gangline$Leg" "Gangline$Leg" "climb" "I") := ⟨List.mem_of_getElem? (i := 646) (by decide +kernel), by decide +kernel⟩
theorem zm_648 : zgo (Cond.lays "Gangline$Leg" "Gangline$Leg" "degrees" "I") := ⟨List.mem_of_getElem? (i := 648) (by decide +kernel), by decide +kernel⟩
theorem zm_650 : zgo (Cond.lays "Gangline$Leg" "Gangline$Leg" "must" "Z") := ⟨List.mem_of_getElem? (i := 650) (by decide +kernel), by decide +kernel⟩
theorem zw_wsX10 : GoodIn lw_tbl wsX10 := (zgc zm_642 (zgc zm_644 (zgc zm_646 (zgc zm_648 (zgc zm_650 zgn)))))
theorem zm_191 : zgo (Cond.lays "Gangline$Party" "Gangline$Party" "race" "C") := ⟨List.mem_of_getElem? (i := 191) (by decide +kernel), by decide +kernel⟩
theorem zm_193 : zgo (Cond.lays "Gangline$Party" "Gangline$Party" "beganAt" "I") := ⟨List.mem_of_getElem? (i := 193) (by decide +kernel), by decide +kernel⟩
theorem zm_195 : zgo (Cond.lays "Gangline$Party" "Gangline$Party" "minute" "I") := ⟨List.mem_of_getElem? (i := 195) (by decide +kernel), by decide +kernel⟩
theorem zm_197 : zgo (Cond.lays "Gangline$Party" "Gangline$Party" "checkpoint" "I") := ⟨List.mem_of_getElem? (i := 197) (by decide +kernel), by decide +kernel⟩
theorem zm_199 : zgo (Cond.lays "Gangline$Party" "Gangline$Party" "kilos" "I") := ⟨List.mem_of_getElem? (i := 199) (by decide +kernel), by decide +kernel⟩
theorem zm_201 : zgo (Cond.lays "Gangline$Party" "Gangline$Party" "sleep" "I") := ⟨List.mem_of_getElem? (i := 201) (by decide +kernel), by decide +kernel⟩
theorem zm_203 : zgo (Cond.lays "Gangline$Party" "Gangline$Party" "breaks" "I") := ⟨List.mem_of_getElem? (i := 203) (by decide +kernel), by decide +kernel⟩
theorem zm_205 : zgo (Cond.lays "Gangline$Party" "Gangline$Party" "parts" "I") := ⟨List.mem_of_getElem? (i := 205) (by decide +kernel), by decide +kernel⟩
theorem zm_207 : zgo (Cond.lays "Gangline$Party" "Gangline$Party" "bootsLeft" "I") := ⟨List.mem_of_getElem? (i := 207) (by decide +kernel), by decide +kernel⟩
theorem zm_209 : zgo (Cond.lays "Gangline$Party" "Gangline$Party" "bootsOn" "Z") := ⟨List.mem_of_getElem? (i := 209) (by decide +kernel), by decide +kernel⟩
theorem zm_211 : zgo (Cond.lays "Gangline$Party" "Gangline$Party" "exchanges" "I") := ⟨List.mem_of_getElem? (i := 211) (by decide +kernel), by decide +kernel⟩
theorem zm_213 : zgo (Cond.lays "Gangline$Party" "Gangline$Party" "helps" "I") := ⟨List.mem_of_getElem? (i := 213) (by decide +kernel), by decide +kernel⟩
theorem zm_215 : zgo (Cond.lays "Gangline$Party" "Gangline$Party" "longTaken" "Z") := ⟨List.mem_of_getElem? (i := 215) (by decide +kernel), by decide +kernel⟩
theorem zm_217 : zgo (Cond.lays "Gangline$Party" "Gangline$Party" "mustTaken" "Z") := ⟨List.mem_of_getElem? (i := 217) (by decide +kernel), by decide +kernel⟩
theorem zm_219 : zgo (Cond.laysFinal "Gangline$Party" "Gangline$Party" "stock" "[I") := ⟨List.mem_of_getElem? (i := 219) (by decide +kernel), by decide +kernel⟩
theorem zm_221 : zgo (Cond.laysFinal "Gangline$Party" "Gangline$Party" "pack" "[LGangline$Dog;") := ⟨List.mem_of_getElem? (i := 221) (by decide +kernel), by decide +kernel⟩
theorem zm_223 : zgo (Cond.lays "Gangline$Party" "Gangline$Party" "count" "I") := ⟨List.mem_of_getElem? (i := 223) (by decide +kernel), by decide +kernel⟩
theorem zw_wsX20 : GoodIn lw_tbl wsX20 := (zgc zm_191 (zgc zm_193 (zgc zm_195 (zgc zm_197 (zgc zm_199 (zgc zm_201 (zgc zm_203 (zgc zm_205 (zgc zm_207 (zgc zm_209 (zgc zm_211 (zgc zm_213 (zgc zm_215 (zgc zm_217 (zgc zm_219 (zgc zm_221 (zgc zm_223 zgn)))))))))))))))))
theorem zm_138 : zgo (Cond.laysFinal "Gangline$Plan" "Gangline$Plan" "kinds" "[C") := ⟨List.mem_of_getElem? (i := 138) (by decide +kernel), by decide +kernel⟩
theorem zm_140 : zgo (Cond.laysFinal "Gangline$Plan" "Gangline$Plan" "numbers" "[I") := ⟨List.mem_of_getElem? (i := 140) (by decide +kernel), by decide +kernel⟩
theorem zm_142 : zgo (Cond.lays "Gangline$Plan" "Gangline$Plan" "count" "I") := ⟨List.mem_of_getElem? (i := 142) (by decide +kernel), by decide +kernel⟩
theorem zw_wsX30 : GoodIn lw_tbl wsX30 := (zgc zm_138 (zgc zm_140 (zgc zm_142 zgn)))
theorem zm_721 : zgo (Cond.laysFinal "Gangline$Storm" "Gangline$Storm" "leg" "I") := ⟨List.mem_of_getElem? (i := 721) (by decide +kernel), by decide +kernel⟩
theorem zm_723 : zgo (Cond.laysFinal "Gangline$Storm" "Gangline$Storm" "from" "I") := ⟨List.mem_of_getElem? (i := 723) (by decide +kernel), by decide +kernel⟩
theorem zm_725 : zgo (Cond.laysFinal "Gangline$Storm" "Gangline$Storm" "to" "I") := ⟨List.mem_of_getElem? (i := 725) (by decide +kernel), by decide +kernel⟩
theorem zm_727 : zgo (Cond.laysFinal "Gangline$Storm" "Gangline$Storm" "strength" "I") := ⟨List.mem_of_getElem? (i := 727) (by decide +kernel), by decide +kernel⟩
theorem zw_wsX40 : GoodIn lw_tbl wsX40 := (zgc zm_721 (zgc zm_723 (zgc zm_725 (zgc zm_727 zgn))))
theorem zm_766 : zgo (Cond.laysFinal "Gangline$Team" "Gangline$Team" "party" "LGangline$Party;") := ⟨List.mem_of_getElem? (i := 766) (by decide +kernel), by decide +kernel⟩
theorem zm_768 : zgo (Cond.laysFinal "Gangline$Team" "Gangline$Team" "plan" "LGangline$Plan;") := ⟨List.mem_of_getElem? (i := 768) (by decide +kernel), by decide +kernel⟩
theorem zm_770 : zgo (Cond.lays "Gangline$Team" "Gangline$Team" "earned" "I") := ⟨List.mem_of_getElem? (i := 770) (by decide +kernel), by decide +kernel⟩
theorem zm_772 : zgo (Cond.lays "Gangline$Team" "Gangline$Team" "finished" "I") := ⟨List.mem_of_getElem? (i := 772) (by decide +kernel), by decide +kernel⟩
theorem zm_774 : zgo (Cond.lays "Gangline$Team" "Gangline$Team" "why" "C") := ⟨List.mem_of_getElem? (i := 774) (by decide +kernel), by decide +kernel⟩
theorem zw_wsX50 : GoodIn lw_tbl wsX50 := (zgc zm_766 (zgc zm_768 (zgc zm_770 (zgc zm_772 (zgc zm_774 zgn)))))
theorem zm_308 : zgo (Cond.laysFinal "Gangline" "Gangline" "legs" "[LGangline$Leg;") := ⟨List.mem_of_getElem? (i := 308) (by decide +kernel), by decide +kernel⟩
theorem zm_310 : zgo (Cond.lays "Gangline" "Gangline" "legCount" "I") := ⟨List.mem_of_getElem? (i := 310) (by decide +kernel), by decide +kernel⟩
theorem zm_312 : zgo (Cond.laysFinal "Gangline" "Gangline" "storms" "[LGangline$Storm;") := ⟨List.mem_of_getElem? (i := 312) (by decide +kernel), by decide +kernel⟩
theorem zm_314 : zgo (Cond.lays "Gangline" "Gangline" "stormCount" "I") := ⟨List.mem_of_getElem? (i := 314) (by decide +kernel), by decide +kernel⟩
theorem zm_316 : zgo (Cond.laysFinal "Gangline" "Gangline" "dogs" "[LGangline$Dog;") := ⟨List.mem_of_getElem? (i := 316) (by decide +kernel), by decide +kernel⟩
theorem zm_318 : zgo (Cond.lays "Gangline" "Gangline" "dogCount" "I") := ⟨List.mem_of_getElem? (i := 318) (by decide +kernel), by decide +kernel⟩
theorem zm_320 : zgo (Cond.laysFinal "Gangline" "Gangline" "teams" "[LGangline$Team;") := ⟨List.mem_of_getElem? (i := 320) (by decide +kernel), by decide +kernel⟩
theorem zm_322 : zgo (Cond.lays "Gangline" "Gangline" "teamCount" "I") := ⟨List.mem_of_getElem? (i := 322) (by decide +kernel), by decide +kernel⟩
theorem zm_324 : zgo (Cond.lays "Gangline" "Gangline" "purse" "J") := ⟨List.mem_of_getElem? (i := 324) (by decide +kernel), by decide +kernel⟩
theorem zm_326 : zgo (Cond.lays "Gangline" "Gangline" "year" "I") := ⟨List.mem_of_getElem? (i := 326) (by decide +kernel), by decide +kernel⟩
theorem zm_328 : zgo (Cond.lays "Gangline" "Gangline" "dogsBegun" "I") := ⟨List.mem_of_getElem? (i := 328) (by decide +kernel), by decide +kernel⟩
theorem zm_330 : zgo (Cond.laysFinal "Gangline" "Gangline" "trials" "[LGangline$Party;") := ⟨List.mem_of_getElem? (i := 330) (by decide +kernel), by decide +kernel⟩
theorem zm_332 : zgo (Cond.laysFinal "Gangline" "Gangline" "choicePlan" "LGangline$Plan;") := ⟨List.mem_of_getElem? (i := 332) (by decide +kernel), by decide +kernel⟩
theorem zm_334 : zgo (Cond.laysFinal "Gangline" "Gangline" "chosen" "[I") := ⟨List.mem_of_getElem? (i := 334) (by decide +kernel), by decide +kernel⟩
theorem zm_336 : zgo (Cond.laysFinal "Gangline" "Gangline" "best" "[I") := ⟨List.mem_of_getElem? (i := 336) (by decide +kernel), by decide +kernel⟩
theorem zm_338 : zgo (Cond.lays "Gangline" "Gangline" "bestMinute" "I") := ⟨List.mem_of_getElem? (i := 338) (by decide +kernel), by decide +kernel⟩
theorem zw_wsX60 : GoodIn lw_tbl wsX60 := (zgc zm_308 (zgc zm_310 (zgc zm_312 (zgc zm_314 (zgc zm_316 (zgc zm_318 (zgc zm_320 (zgc zm_322 (zgc zm_324 (zgc zm_326 (zgc zm_328 (zgc zm_330 (zgc zm_332 (zgc zm_334 (zgc zm_336 (zgc zm_338 zgn))))))))))))))))
theorem zm_1691 : zgo (Cond.laysFinal "GanglineModel$Dog" "GanglineModel$Dog" "number" "I") := ⟨List.mem_of_getElem? (i := 1691) (by decide +kernel), by decide +kernel⟩
theorem zm_1693 : zgo (Cond.laysFinal "GanglineModel$Dog" "GanglineModel$Dog" "kennel" "I") := ⟨List.mem_of_getElem? (i := 1693) (by decide +kernel), by decide +kernel⟩
theorem zm_1695 : zgo (Cond.laysFinal "GanglineModel$Dog" "GanglineModel$Dog" "lead" "I") := ⟨List.mem_of_getElem? (i := 1695) (by decide +kernel), by decide +kernel⟩
theorem zm_1697 : zgo (Cond.laysFinal "GanglineModel$Dog" "GanglineModel$Dog" "mother" "I") := ⟨List.mem_of_getElem? (i := 1697) (by decide +kernel), by decide +kernel⟩
theorem zm_1699 : zgo (Cond.laysFinal "GanglineModel$Dog" "GanglineModel$Dog" "father" "I") := ⟨List.mem_of_getElem? (i := 1699) (by decide +kernel), by decide +kernel⟩
theorem zm_1701 : zgo (Cond.lays "GanglineModel$Dog" "GanglineModel$Dog" "holder" "I") := ⟨List.mem_of_getElem? (i := 1701) (by decide +kernel), by decide +kernel⟩
theorem zm_1703 : zgo (Cond.lays "GanglineModel$Dog" "GanglineModel$Dog" "strength" "I") := ⟨List.mem_of_getElem? (i := 1703) (by decide +kernel), by decide +kernel⟩
theorem zm_1705 : zgo (Cond.lays "GanglineModel$Dog" "GanglineModel$Dog" "age" "I") := ⟨List.mem_of_getElem? (i := 1705) (by decide +kernel), by decide +kernel⟩
theorem zm_1707 : zgo (Cond.lays "GanglineModel$Dog" "GanglineModel$Dog" "feet" "I") := ⟨List.mem_of_getElem? (i := 1707) (by decide +kernel), by decide +kernel⟩
theorem zm_1709 : zgo (Cond.lays "GanglineModel$Dog" "GanglineModel$Dog" "food" "I") := ⟨List.mem_of_getElem? (i := 1709) (by decide +kernel), by decide +kernel⟩
theorem zm_1711 : zgo (Cond.lays "GanglineModel$Dog" "GanglineModel$Dog" "water" "I") := ⟨List.mem_of_getElem? (i := 1711) (by decide +kernel), by decide +kernel⟩
theorem zm_1713 : zgo (Cond.lays "GanglineModel$Dog" "GanglineModel$Dog" "trust" "I") := ⟨List.mem_of_getElem? (i := 1713) (by decide +kernel), by decide +kernel⟩
theorem zm_1715 : zgo (Cond.lays "GanglineModel$Dog" "GanglineModel$Dog" "trained" "I") := ⟨List.mem_of_getElem? (i := 1715) (by decide +kernel), by decide +kernel⟩
theorem zm_1717 : zgo (Cond.lays "GanglineModel$Dog" "GanglineModel$Dog" "litterIn" "I") := ⟨List.mem_of_getElem? (i := 1717) (by decide +kernel), by decide +kernel⟩
theorem zm_1719 : zgo (Cond.lays "GanglineModel$Dog" "GanglineModel$Dog" "state" "C") := ⟨List.mem_of_getElem? (i := 1719) (by decide +kernel), by decide +kernel⟩
theorem zm_1721 : zgo (Cond.lays "GanglineModel$Dog" "GanglineModel$Dog" "isDead" "Z") := ⟨List.mem_of_getElem? (i := 1721) (by decide +kernel), by decide +kernel⟩
theorem zm_1723 : zgo (Cond.lays "GanglineModel$Dog" "GanglineModel$Dog" "isRetired" "Z") := ⟨List.mem_of_getElem? (i := 1723) (by decide +kernel), by decide +kernel⟩
theorem zw_wsX70 : GoodIn lw_tbl wsX70 := (zgc zm_1691 (zgc zm_1693 (zgc zm_1695 (zgc zm_1697 (zgc zm_1699 (zgc zm_1701 (zgc zm_1703 (zgc zm_1705 (zgc zm_1707 (zgc zm_1709 (zgc zm_1711 (zgc zm_1713 (zgc zm_1715 (zgc zm_1717 (zgc zm_1719 (zgc zm_1721 (zgc zm_1723 zgn)))))))))))))))))
theorem zm_1430 : zgo (Cond.laysFinal "GanglineModel$Leg" "GanglineModel$Leg" "length" "I") := ⟨List.mem_of_getElem? (i := 1430) (by decide +kernel), by decide +kernel⟩
theorem zm_1432 : zgo (Cond.laysFinal "GanglineModel$Leg" "GanglineModel$Leg" "surface" "I") := ⟨List.mem_of_getElem? (i := 1432) (by decide +kernel), by decide +kernel⟩
theorem zm_1434 : zgo (Cond.laysFinal "GanglineModel$Leg" "GanglineModel$Leg" "climb" "I") := ⟨List.mem_of_getElem? (i := 1434) (by decide +kernel), by decide +kernel⟩
theorem zm_1436 : zgo (Cond.lays "GanglineModel$Leg" "GanglineModel$Leg" "cold" "I") := ⟨List.mem_of_getElem? (i := 1436) (by decide +kernel), by decide +kernel⟩
theorem zm_1438 : zgo (Cond.lays "GanglineModel$Leg" "GanglineModel$Leg" "isMust" "Z") := ⟨List.mem_of_getElem? (i := 1438) (by decide +kernel), by decide +kernel⟩
theorem zw_wsX80 : GoodIn lw_tbl wsX80 := (zgc zm_1430 (zgc zm_1432 (zgc zm_1434 (zgc zm_1436 (zgc zm_1438 zgn)))))
theorem zm_1598 : zgo (Cond.laysFinal "GanglineModel$Team" "GanglineModel$Team" "number" "I") := ⟨List.mem_of_getElem? (i := 1598) (by decide +kernel), by decide +kernel⟩
theorem zm_1600 : zgo (Cond.laysFinal "GanglineModel$Team" "GanglineModel$Team" "dogs" "Ljava/util/List;") := ⟨List.mem_of_getElem? (i := 1600) (by decide +kernel), by decide +kernel⟩
theorem zm_1602 : zgo (Cond.laysFinal "GanglineModel$Team" "GanglineModel$Team" "plan" "Ljava/util/List;") := ⟨List.mem_of_getElem? (i := 1602) (by decide +kernel), by decide +kernel⟩
theorem zm_1604 : zgo (Cond.lays "GanglineModel$Team" "GanglineModel$Team" "sent" "[I") := ⟨List.mem_of_getElem? (i := 1604) (by decide +kernel), by decide +kernel⟩
theorem zm_1606 : zgo (Cond.lays "GanglineModel$Team" "GanglineModel$Team" "state" "C") := ⟨List.mem_of_getElem? (i := 1606) (by decide +kernel), by decide +kernel⟩
theorem zm_1608 : zgo (Cond.lays "GanglineModel$Team" "GanglineModel$Team" "minute" "I") := ⟨List.mem_of_getElem? (i := 1608) (by decide +kernel), by decide +kernel⟩
theorem zm_1610 : zgo (Cond.lays "GanglineModel$Team" "GanglineModel$Team" "begunAt" "I") := ⟨List.mem_of_getElem? (i := 1610) (by decide +kernel), by decide +kernel⟩
theorem zm_1612 : zgo (Cond.lays "GanglineModel$Team" "GanglineModel$Team" "checkpoint" "I") := ⟨List.mem_of_getElem? (i := 1612) (by decide +kernel), by decide +kernel⟩
theorem zm_1614 : zgo (Cond.lays "GanglineModel$Team" "GanglineModel$Team" "kilos" "I") := ⟨List.mem_of_getElem? (i := 1614) (by decide +kernel), by decide +kernel⟩
theorem zm_1616 : zgo (Cond.lays "GanglineModel$Team" "GanglineModel$Team" "sleep" "I") := ⟨List.mem_of_getElem? (i := 1616) (by decide +kernel), by decide +kernel⟩
theorem zm_1618 : zgo (Cond.lays "GanglineModel$Team" "GanglineModel$Team" "breaks" "I") := ⟨List.mem_of_getElem? (i := 1618) (by decide +kernel), by decide +kernel⟩
theorem zm_1620 : zgo (Cond.lays "GanglineModel$Team" "GanglineModel$Team" "parts" "I") := ⟨List.mem_of_getElem? (i := 1620) (by decide +kernel), by decide +kernel⟩
theorem zm_1622 : zgo (Cond.lays "GanglineModel$Team" "GanglineModel$Team" "boots" "I") := ⟨List.mem_of_getElem? (i := 1622) (by decide +kernel), by decide +kernel⟩
theorem zm_1624 : zgo (Cond.lays "GanglineModel$Team" "GanglineModel$Team" "areOn" "Z") := ⟨List.mem_of_getElem? (i := 1624) (by decide +kernel), by decide +kernel⟩
theorem zm_1626 : zgo (Cond.lays "GanglineModel$Team" "GanglineModel$Team" "exchanges" "I") := ⟨List.mem_of_getElem? (i := 1626) (by decide +kernel), by decide +kernel⟩
theorem zm_1628 : zgo (Cond.lays "GanglineModel$Team" "GanglineModel$Team" "penalties" "I") := ⟨List.mem_of_getElem? (i := 1628) (by decide +kernel), by decide +kernel⟩
theorem zm_1630 : zgo (Cond.lays "GanglineModel$Team" "GanglineModel$Team" "helps" "I") := ⟨List.mem_of_getElem? (i := 1630) (by decide +kernel), by decide +kernel⟩
theorem zm_1632 : zgo (Cond.lays "GanglineModel$Team" "GanglineModel$Team" "hasLong" "Z") := ⟨List.mem_of_getElem? (i := 1632) (by decide +kernel), by decide +kernel⟩
theorem zm_1634 : zgo (Cond.lays "GanglineModel$Team" "GanglineModel$Team" "rests" "I") := ⟨List.mem_of_getElem? (i := 1634) (by decide +kernel), by decide +kernel⟩
theorem zm_1636 : zgo (Cond.lays "GanglineModel$Team" "GanglineModel$Team" "why" "C") := ⟨List.mem_of_getElem? (i := 1636) (by decide +kernel), by decide +kernel⟩
theorem zm_1638 : zgo (Cond.lays "GanglineModel$Team" "GanglineModel$Team" "earned" "I") := ⟨List.mem_of_getElem? (i := 1638) (by decide +kernel), by decide +kernel⟩
theorem zm_1640 : zgo (Cond.lays "GanglineModel$Team" "GanglineModel$Team" "finished" "I") := ⟨List.mem_of_getElem? (i := 1640) (by decide +kernel), by decide +kernel⟩
theorem zw_wsX90 : GoodIn lw_tbl wsX90 := (zgc zm_1598 (zgc zm_1600 (zgc zm_1602 (zgc zm_1604 (zgc zm_1606 (zgc zm_1608 (zgc zm_1610 (zgc zm_1612 (zgc zm_1614 (zgc zm_1616 (zgc zm_1618 (zgc zm_1620 (zgc zm_1622 (zgc zm_1624 (zgc zm_1626 (zgc zm_1628 (zgc zm_1630 (zgc zm_1632 (zgc zm_1634 (zgc zm_1636 (zgc zm_1638 (zgc zm_1640 zgn))))))))))))))))))))))
theorem zm_1292 : zgo (Cond.lays "GanglineModel" "GanglineModel" "thrown" "I") := ⟨List.mem_of_getElem? (i := 1292) (by decide +kernel), by decide +kernel⟩
theorem zm_1294 : zgo (Cond.laysFinal "GanglineModel" "GanglineModel" "legs" "Ljava/util/List;") := ⟨List.mem_of_getElem? (i := 1294) (by decide +kernel), by decide +kernel⟩
theorem zm_1296 : zgo (Cond.laysFinal "GanglineModel" "GanglineModel" "storms" "Ljava/util/List;") := ⟨List.mem_of_getElem? (i := 1296) (by decide +kernel), by decide +kernel⟩
theorem zm_1298 : zgo (Cond.laysFinal "GanglineModel" "GanglineModel" "teams" "Ljava/util/List;") := ⟨List.mem_of_getElem? (i := 1298) (by decide +kernel), by decide +kernel⟩
theorem zm_1300 : zgo (Cond.laysFinal "GanglineModel" "GanglineModel" "dogs" "Ljava/util/List;") := ⟨List.mem_of_getElem? (i := 1300) (by decide +kernel), by decide +kernel⟩
theorem zm_1302 : zgo (Cond.lays "GanglineModel" "GanglineModel" "year" "I") := ⟨List.mem_of_getElem? (i := 1302) (by decide +kernel), by decide +kernel⟩
theorem zm_1304 : zgo (Cond.lays "GanglineModel" "GanglineModel" "purse" "J") := ⟨List.mem_of_getElem? (i := 1304) (by decide +kernel), by decide +kernel⟩
theorem zm_1306 : zgo (Cond.lays "GanglineModel" "GanglineModel" "lastBegun" "I") := ⟨List.mem_of_getElem? (i := 1306) (by decide +kernel), by decide +kernel⟩
theorem zm_1308 : zgo (Cond.lays "GanglineModel" "GanglineModel" "begun" "I") := ⟨List.mem_of_getElem? (i := 1308) (by decide +kernel), by decide +kernel⟩
theorem zm_1310 : zgo (Cond.lays "GanglineModel" "GanglineModel" "isClosed" "Z") := ⟨List.mem_of_getElem? (i := 1310) (by decide +kernel), by decide +kernel⟩
theorem zm_1312 : zgo (Cond.lays "GanglineModel" "GanglineModel" "dogsBegun" "I") := ⟨List.mem_of_getElem? (i := 1312) (by decide +kernel), by decide +kernel⟩
theorem zw_wsX100 : GoodIn lw_tbl wsX100 := (zgc zm_1292 (zgc zm_1294 (zgc zm_1296 (zgc zm_1298 (zgc zm_1300 (zgc zm_1302 (zgc zm_1304 (zgc zm_1306 (zgc zm_1308 (zgc zm_1310 (zgc zm_1312 zgn)))))))))))
theorem zm_112 : zgo (Cond.code yX6_init cX6_init 3 none) := ⟨List.mem_of_getElem? (i := 112) (by decide +kernel), by decide +kernel⟩
theorem zm_113 : zgo (Cond.methodLink RX6 1 objectInit) := ⟨List.mem_of_getElem? (i := 113) (by decide +kernel), by decide +kernel⟩
theorem zm_114 : zgo (Cond.instanceMethod objectInit) := ⟨List.mem_of_getElem? (i := 114) (by decide +kernel), by decide +kernel⟩
theorem zm_115 : zgo (Cond.code objectInit ⟨#[0xb1]⟩ 1 none) := ⟨List.mem_of_getElem? (i := 115) (by decide +kernel), by decide +kernel⟩
theorem zm_116 : zgo (Cond.classLink RX6 9 RX1) := ⟨List.mem_of_getElem? (i := 116) (by decide +kernel), by decide +kernel⟩
theorem zm_292 : zgo (Cond.fieldLink RX6 11 "Gangline" "legs" "[LGangline$Leg;") := ⟨List.mem_of_getElem? (i := 292) (by decide +kernel), by decide +kernel⟩
theorem zm_118 : zgo (Cond.classLink RX6 15 RX4) := ⟨List.mem_of_getElem? (i := 118) (by decide +kernel), by decide +kernel⟩
theorem zm_294 : zgo (Cond.fieldLink RX6 17 "Gangline" "storms" "[LGangline$Storm;") := ⟨List.mem_of_getElem? (i := 294) (by decide +kernel), by decide +kernel⟩
theorem zm_120 : zgo (Cond.classLink RX6 21 RX0) := ⟨List.mem_of_getElem? (i := 120) (by decide +kernel), by decide +kernel⟩
theorem zm_296 : zgo (Cond.fieldLink RX6 23 "Gangline" "dogs" "[LGangline$Dog;") := ⟨List.mem_of_getElem? (i := 296) (by decide +kernel), by decide +kernel⟩
theorem zm_122 : zgo (Cond.classLink RX6 27 RX5) := ⟨List.mem_of_getElem? (i := 122) (by decide +kernel), by decide +kernel⟩
theorem zm_298 : zgo (Cond.fieldLink RX6 29 "Gangline" "teams" "[LGangline$Team;") := ⟨List.mem_of_getElem? (i := 298) (by decide +kernel), by decide +kernel⟩
theorem zm_124 : zgo (Cond.classLink RX6 33 RX2) := ⟨List.mem_of_getElem? (i := 124) (by decide +kernel), by decide +kernel⟩
theorem zm_303 : zgo (Cond.fieldLink RX6 35 "Gangline" "trials" "[LGangline$Party;") := ⟨List.mem_of_getElem? (i := 303) (by decide +kernel), by decide +kernel⟩
theorem zm_126 : zgo (Cond.classLink RX6 39 RX3) := ⟨List.mem_of_getElem? (i := 126) (by decide +kernel), by decide +kernel⟩
theorem zm_127 : zgo (Cond.instantiable RX3 3) := ⟨List.mem_of_getElem? (i := 127) (by decide +kernel), by decide +kernel⟩
theorem zm_70 : zgo (Cond.initialized RX3) := ⟨List.mem_of_getElem? (i := 70) (by decide +kernel), by decide +kernel⟩
theorem zm_304 : zgo (Cond.fieldLink RX6 42 "Gangline" "choicePlan" "LGangline$Plan;") := ⟨List.mem_of_getElem? (i := 304) (by decide +kernel), by decide +kernel⟩
theorem zm_146 : zgo (Cond.arrayClass .int) := ⟨List.mem_of_getElem? (i := 146) (by decide +kernel), by decide +kernel⟩
theorem zm_305 : zgo (Cond.fieldLink RX6 46 "Gangline" "chosen" "[I") := ⟨List.mem_of_getElem? (i := 305) (by decide +kernel), by decide +kernel⟩
theorem zm_306 : zgo (Cond.fieldLink RX6 50 "Gangline" "best" "[I") := ⟨List.mem_of_getElem? (i := 306) (by decide +kernel), by decide +kernel⟩
theorem zm_147 : zgo (Cond.instantiable RX2 17) := ⟨List.mem_of_getElem? (i := 147) (by decide +kernel), by decide +kernel⟩
theorem zm_71 : zgo (Cond.initialized RX2) := ⟨List.mem_of_getElem? (i := 71) (by decide +kernel), by decide +kernel⟩
theorem zm_188 : zgo (Cond.fieldLink RX6 54 "Gangline$Party" "pack" "[LGangline$Dog;") := ⟨List.mem_of_getElem? (i := 188) (by decide +kernel), by decide +kernel⟩
theorem zm_226 : zgo (Cond.instantiable RX0 14) := ⟨List.mem_of_getElem? (i := 226) (by decide +kernel), by decide +kernel⟩
theorem zw_wsX6_init_r1 : GoodIn lw_tbl wsX6_init_r1 := (zgc zm_113 (zgc zm_114 (zgc zm_115 (zgc zm_116 (zgc zm_292 (zgc zm_118 (zgc zm_294 (zgc zm_120 (zgc zm_296 (zgc zm_122 (zgc zm_298 (zgc zm_124 (zgc zm_303 (zgc zm_126 (zgc zm_127 (zgc zm_70 (zgc zm_304 (zgc zm_146 (zgc zm_305 (zgc zm_306 (zgc zm_147 (zgc zm_71 (zgc zm_188 (zgc zm_226 zgn))))))))))))))))))))))))
theorem zm_72 : zgo (Cond.initialized RX0) := ⟨List.mem_of_getElem? (i := 72) (by decide +kernel), by decide +kernel⟩
theorem zm_129 : zgo (Cond.instanceMethod yX3_init) := ⟨List.mem_of_getElem? (i := 129) (by decide +kernel), by decide +kernel⟩
theorem zm_130 : zgo (Cond.code yX3_init cX3_init 1 none) := ⟨List.mem_of_getElem? (i := 130) (by decide +kernel), by decide +kernel⟩
theorem zm_131 : zgo (Cond.methodLink RX3 3 objectInit) := ⟨List.mem_of_getElem? (i := 131) (by decide +kernel), by decide +kernel⟩
theorem zm_145 : zgo (Cond.arrayClass .char) := ⟨List.mem_of_getElem? (i := 145) (by decide +kernel), by decide +kernel⟩
theorem zm_132 : zgo (Cond.fieldLink RX3 9 "Gangline$Plan" "kinds" "[C") := ⟨List.mem_of_getElem? (i := 132) (by decide +kernel), by decide +kernel⟩
theorem zm_134 : zgo (Cond.fieldLink RX3 15 "Gangline$Plan" "numbers" "[I") := ⟨List.mem_of_getElem? (i := 134) (by decide +kernel), by decide +kernel⟩
theorem zm_148 : zgo (Cond.methodLink RX6 53 yX2_init) := ⟨List.mem_of_getElem? (i := 148) (by decide +kernel), by decide +kernel⟩
theorem zm_149 : zgo (Cond.instanceMethod yX2_init) := ⟨List.mem_of_getElem? (i := 149) (by decide +kernel), by decide +kernel⟩
theorem zm_150 : zgo (Cond.code yX2_init cX2_init 1 none) := ⟨List.mem_of_getElem? (i := 150) (by decide +kernel), by decide +kernel⟩
theorem zm_151 : zgo (Cond.methodLink RX2 3 objectInit) := ⟨List.mem_of_getElem? (i := 151) (by decide +kernel), by decide +kernel⟩
theorem zm_185 : zgo (Cond.fieldLink RX2 9 "Gangline$Party" "stock" "[I") := ⟨List.mem_of_getElem? (i := 185) (by decide +kernel), by decide +kernel⟩
theorem zm_152 : zgo (Cond.classLink RX2 15 RX0) := ⟨List.mem_of_getElem? (i := 152) (by decide +kernel), by decide +kernel⟩
theorem zm_187 : zgo (Cond.fieldLink RX2 17 "Gangline$Party" "pack" "[LGangline$Dog;") := ⟨List.mem_of_getElem? (i := 187) (by decide +kernel), by decide +kernel⟩
theorem zm_153 : zgo (Cond.methodLink RX2 21 yX2_startOver) := ⟨List.mem_of_getElem? (i := 153) (by decide +kernel), by decide +kernel⟩
theorem zm_154 : zgo (Cond.instanceMethod yX2_startOver) := ⟨List.mem_of_getElem? (i := 154) (by decide +kernel), by decide +kernel⟩
theorem zm_155 : zgo (Cond.selects RX2 yX2_startOver yX2_startOver) := ⟨List.mem_of_getElem? (i := 155) (by decide +kernel), by decide +kernel⟩
theorem zm_156 : zgo (Cond.code yX2_startOver cX2_startOver 2 none) := ⟨List.mem_of_getElem? (i := 156) (by decide +kernel), by decide +kernel⟩
theorem zm_157 : zgo (Cond.fieldLink RX2 24 "Gangline$Party" "race" "C") := ⟨List.mem_of_getElem? (i := 157) (by decide +kernel), by decide +kernel⟩
theorem zm_159 : zgo (Cond.fieldLink RX2 28 "Gangline$Party" "beganAt" "I") := ⟨List.mem_of_getElem? (i := 159) (by decide +kernel), by decide +kernel⟩
theorem zm_161 : zgo (Cond.fieldLink RX2 32 "Gangline$Party" "minute" "I") := ⟨List.mem_of_getElem? (i := 161) (by decide +kernel), by decide +kernel⟩
theorem zm_163 : zgo (Cond.fieldLink RX2 35 "Gangline$Party" "checkpoint" "I") := ⟨List.mem_of_getElem? (i := 163) (by decide +kernel), by decide +kernel⟩
theorem zm_165 : zgo (Cond.fieldLink RX2 38 "Gangline$Party" "kilos" "I") := ⟨List.mem_of_getElem? (i := 165) (by decide +kernel), by decide +kernel⟩
theorem zm_167 : zgo (Cond.fieldLink RX2 41 "Gangline$Party" "sleep" "I") := ⟨List.mem_of_getElem? (i := 167) (by decide +kernel), by decide +kernel⟩
theorem zw_wsX6_init_r2 : GoodIn lw_tbl wsX6_init_r2 := (zgc zm_72 (zgc zm_129 (zgc zm_130 (zgc zm_131 (zgc zm_145 (zgc zm_132 (zgc zm_134 (zgc zm_148 (zgc zm_149 (zgc zm_150 (zgc zm_151 (zgc zm_185 (zgc zm_152 (zgc zm_187 (zgc zm_153 (zgc zm_154 (zgc zm_155 (zgc zm_156 (zgc zm_157 (zgc zm_159 (zgc zm_161 (zgc zm_163 (zgc zm_165 (zgc zm_167 zgn))))))))))))))))))))))))
theorem zm_169 : zgo (Cond.fieldLink RX2 44 "Gangline$Party" "breaks" "I") := ⟨List.mem_of_getElem? (i := 169) (by decide +kernel), by decide +kernel⟩
theorem zm_171 : zgo (Cond.fieldLink RX2 47 "Gangline$Party" "parts" "I") := ⟨List.mem_of_getElem? (i := 171) (by decide +kernel), by decide +kernel⟩
theorem zm_173 : zgo (Cond.fieldLink RX2 50 "Gangline$Party" "bootsLeft" "I") := ⟨List.mem_of_getElem? (i := 173) (by decide +kernel), by decide +kernel⟩
theorem zm_175 : zgo (Cond.fieldLink RX2 53 "Gangline$Party" "bootsOn" "Z") := ⟨List.mem_of_getElem? (i := 175) (by decide +kernel), by decide +kernel⟩
theorem zm_177 : zgo (Cond.fieldLink RX2 57 "Gangline$Party" "exchanges" "I") := ⟨List.mem_of_getElem? (i := 177) (by decide +kernel), by decide +kernel⟩
theorem zm_179 : zgo (Cond.fieldLink RX2 60 "Gangline$Party" "helps" "I") := ⟨List.mem_of_getElem? (i := 179) (by decide +kernel), by decide +kernel⟩
theorem zm_181 : zgo (Cond.fieldLink RX2 63 "Gangline$Party" "longTaken" "Z") := ⟨List.mem_of_getElem? (i := 181) (by decide +kernel), by decide +kernel⟩
theorem zm_183 : zgo (Cond.fieldLink RX2 66 "Gangline$Party" "mustTaken" "Z") := ⟨List.mem_of_getElem? (i := 183) (by decide +kernel), by decide +kernel⟩
theorem zm_189 : zgo (Cond.fieldLink RX2 69 "Gangline$Party" "count" "I") := ⟨List.mem_of_getElem? (i := 189) (by decide +kernel), by decide +kernel⟩
theorem zm_227 : zgo (Cond.methodLink RX6 57 yX0_init) := ⟨List.mem_of_getElem? (i := 227) (by decide +kernel), by decide +kernel⟩
theorem zm_228 : zgo (Cond.instanceMethod yX0_init) := ⟨List.mem_of_getElem? (i := 228) (by decide +kernel), by decide +kernel⟩
theorem zm_229 : zgo (Cond.code yX0_init cX0_init 5 none) := ⟨List.mem_of_getElem? (i := 229) (by decide +kernel), by decide +kernel⟩
theorem zm_230 : zgo (Cond.methodLink RX0 3 objectInit) := ⟨List.mem_of_getElem? (i := 230) (by decide +kernel), by decide +kernel⟩
theorem zm_242 : zgo (Cond.fieldLink RX0 9 "Gangline$Dog" "mother" "I") := ⟨List.mem_of_getElem? (i := 242) (by decide +kernel), by decide +kernel⟩
theorem zm_244 : zgo (Cond.fieldLink RX0 15 "Gangline$Dog" "father" "I") := ⟨List.mem_of_getElem? (i := 244) (by decide +kernel), by decide +kernel⟩
theorem zm_246 : zgo (Cond.fieldLink RX0 18 "Gangline$Dog" "feet" "I") := ⟨List.mem_of_getElem? (i := 246) (by decide +kernel), by decide +kernel⟩
theorem zm_249 : zgo (Cond.fieldLink RX0 21 "Gangline$Dog" "food" "I") := ⟨List.mem_of_getElem? (i := 249) (by decide +kernel), by decide +kernel⟩
theorem zm_252 : zgo (Cond.fieldLink RX0 24 "Gangline$Dog" "water" "I") := ⟨List.mem_of_getElem? (i := 252) (by decide +kernel), by decide +kernel⟩
theorem zm_255 : zgo (Cond.fieldLink RX0 27 "Gangline$Dog" "trust" "I") := ⟨List.mem_of_getElem? (i := 255) (by decide +kernel), by decide +kernel⟩
theorem zm_260 : zgo (Cond.fieldLink RX0 30 "Gangline$Dog" "state" "C") := ⟨List.mem_of_getElem? (i := 260) (by decide +kernel), by decide +kernel⟩
theorem zm_231 : zgo (Cond.fieldLink RX0 34 "Gangline$Dog" "kennel" "I") := ⟨List.mem_of_getElem? (i := 231) (by decide +kernel), by decide +kernel⟩
theorem zm_233 : zgo (Cond.fieldLink RX0 37 "Gangline$Dog" "team" "I") := ⟨List.mem_of_getElem? (i := 233) (by decide +kernel), by decide +kernel⟩
theorem zm_235 : zgo (Cond.fieldLink RX0 40 "Gangline$Dog" "strength" "I") := ⟨List.mem_of_getElem? (i := 235) (by decide +kernel), by decide +kernel⟩
theorem zm_237 : zgo (Cond.fieldLink RX0 43 "Gangline$Dog" "lead" "I") := ⟨List.mem_of_getElem? (i := 237) (by decide +kernel), by decide +kernel⟩
theorem zw_wsX6_init_r3 : GoodIn lw_tbl wsX6_init_r3 := (zgc zm_169 (zgc zm_171 (zgc zm_173 (zgc zm_175 (zgc zm_177 (zgc zm_179 (zgc zm_181 (zgc zm_183 (zgc zm_189 (zgc zm_227 (zgc zm_228 (zgc zm_229 (zgc zm_230 (zgc zm_242 (zgc zm_244 (zgc zm_246 (zgc zm_249 (zgc zm_252 (zgc zm_255 (zgc zm_260 (zgc zm_231 (zgc zm_233 (zgc zm_235 (zgc zm_237 zgn))))))))))))))))))))))))
theorem zm_240 : zgo (Cond.fieldLink RX0 46 "Gangline$Dog" "age" "I") := ⟨List.mem_of_getElem? (i := 240) (by decide +kernel), by decide +kernel⟩
theorem zw_wsX6_init_r4 : GoodIn lw_tbl wsX6_init_r4 := (zgc zm_240 zgn)
set_option maxRecDepth 20000 in
theorem zx_0 : GoodIn lw_tbl ((vx_atM "java/lang/ArrayIndexOutOfBoundsException" ["java/lang/IndexOutOfBoundsException", "java/lang/RuntimeException", "java/lang/Exception"]).filter goodWord) := fun w h => ⟨(show ∀ w ∈ (vx_atM "java/lang/ArrayIndexOutOfBoundsException" ["java/lang/IndexOutOfBoundsException", "java/lang/RuntimeException", "java/lang/Exception"]).filter goodWord, w ∈ lw_tbl by decide +kernel) w h, good_of_word (List.mem_filter.mp h).2⟩
theorem zw_wsX6_init : GoodIn lw_tbl wsX6_init := (zgc zm_112 (goodIn_app (goodIn_app (goodIn_app (goodIn_app (goodIn_app (goodIn_app zw_wsX6_init_r1 (goodIn_app zw_wsX6_init_r2 (goodIn_app zw_wsX6_init_r3 zw_wsX6_init_r4))) zw_wsX60) zw_wsX30) zw_wsX20) zw_wsX00) zx_0))
theorem gL_law_X6_init : GoodIn lw_tbl (wsX6_init) := zw_wsX6_init
theorem zm_1250 : zgo (Cond.code yX10_init cX10_init 1 none) := ⟨List.mem_of_getElem? (i := 1250) (by decide +kernel), by decide +kernel⟩
theorem zm_1251 : zgo (Cond.methodLink RX10 1 objectInit) := ⟨List.mem_of_getElem? (i := 1251) (by decide +kernel), by decide +kernel⟩
theorem zm_1252 : zgo (Cond.classLink RX10 7 RJx4a65c) := ⟨List.mem_of_getElem? (i := 1252) (by decide +kernel), by decide +kernel⟩
theorem zm_1253 : zgo (Cond.instantiable RJx4a65c 3) := ⟨List.mem_of_getElem? (i := 1253) (by decide +kernel), by decide +kernel⟩
theorem zm_76 : zgo (Cond.initialized RJx4a65c) := ⟨List.mem_of_getElem? (i := 76) (by decide +kernel), by decide +kernel⟩
theorem zm_1282 : zgo (Cond.fieldLink RX10 10 "GanglineModel" "legs" "Ljava/util/List;") := ⟨List.mem_of_getElem? (i := 1282) (by decide +kernel), by decide +kernel⟩
theorem zm_1283 : zgo (Cond.fieldLink RX10 16 "GanglineModel" "storms" "Ljava/util/List;") := ⟨List.mem_of_getElem? (i := 1283) (by decide +kernel), by decide +kernel⟩
theorem zm_1284 : zgo (Cond.fieldLink RX10 19 "GanglineModel" "teams" "Ljava/util/List;") := ⟨List.mem_of_getElem? (i := 1284) (by decide +kernel), by decide +kernel⟩
theorem zm_1285 : zgo (Cond.fieldLink RX10 22 "GanglineModel" "dogs" "Ljava/util/List;") := ⟨List.mem_of_getElem? (i := 1285) (by decide +kernel), by decide +kernel⟩
theorem zm_1254 : zgo (Cond.methodLink RX10 9 yJx4a65c_init_da8c8) := ⟨List.mem_of_getElem? (i := 1254) (by decide +kernel), by decide +kernel⟩
theorem zm_1255 : zgo (Cond.instanceMethod yJx4a65c_init_da8c8) := ⟨List.mem_of_getElem? (i := 1255) (by decide +kernel), by decide +kernel⟩
theorem zm_1256 : zgo (Cond.code yJx4a65c_init_da8c8 cJx4a65c_init_da8c8 1 none) := ⟨List.mem_of_getElem? (i := 1256) (by decide +kernel), by decide +kernel⟩
theorem zm_1264 : zgo (Cond.fieldLink RJx4a65c 39 "java/util/ArrayList" "DEFAULTCAPACITY_EMPTY_ELEMENTDATA" "[Ljava/lang/Object;") := ⟨List.mem_of_getElem? (i := 1264) (by decide +kernel), by decide +kernel⟩
theorem zm_1266 : zgo (Cond.fieldLink RJx4a65c 9 "java/util/ArrayList" "elementData" "[Ljava/lang/Object;") := ⟨List.mem_of_getElem? (i := 1266) (by decide +kernel), by decide +kernel⟩
theorem zm_1257 : zgo (Cond.methodLink RJx4a65c 1 yJxc12de_init_da8c8) := ⟨List.mem_of_getElem? (i := 1257) (by decide +kernel), by decide +kernel⟩
theorem zm_1258 : zgo (Cond.instanceMethod yJxc12de_init_da8c8) := ⟨List.mem_of_getElem? (i := 1258) (by decide +kernel), by decide +kernel⟩
theorem zm_75 : zgo (Cond.initialized RJxc12de) := ⟨List.mem_of_getElem? (i := 75) (by decide +kernel), by decide +kernel⟩
theorem zm_1259 : zgo (Cond.code yJxc12de_init_da8c8 cJxc12de_init_da8c8 1 none) := ⟨List.mem_of_getElem? (i := 1259) (by decide +kernel), by decide +kernel⟩
theorem zm_1270 : zgo (Cond.fieldLink RJxc12de 7 "java/util/AbstractList" "modCount" "I") := ⟨List.mem_of_getElem? (i := 1270) (by decide +kernel), by decide +kernel⟩
theorem zm_1260 : zgo (Cond.methodLink RJxc12de 1 yJxa1e45_init_da8c8) := ⟨List.mem_of_getElem? (i := 1260) (by decide +kernel), by decide +kernel⟩
theorem zm_1261 : zgo (Cond.instanceMethod yJxa1e45_init_da8c8) := ⟨List.mem_of_getElem? (i := 1261) (by decide +kernel), by decide +kernel⟩
theorem zm_74 : zgo (Cond.initialized RJxa1e45) := ⟨List.mem_of_getElem? (i := 74) (by decide +kernel), by decide +kernel⟩
theorem zm_1262 : zgo (Cond.code yJxa1e45_init_da8c8 cJxa1e45_init_da8c8 1 none) := ⟨List.mem_of_getElem? (i := 1262) (by decide +kernel), by decide +kernel⟩
theorem zw_wsX10_init_r1 : GoodIn lw_tbl wsX10_init_r1 := (zgc zm_1251 (zgc zm_114 (zgc zm_115 (zgc zm_1252 (zgc zm_1253 (zgc zm_76 (zgc zm_1282 (zgc zm_1283 (zgc zm_1284 (zgc zm_1285 (zgc zm_1254 (zgc zm_1255 (zgc zm_1256 (zgc zm_1264 (zgc zm_1266 (zgc zm_1257 (zgc zm_1258 (zgc zm_75 (zgc zm_1259 (zgc zm_1270 (zgc zm_1260 (zgc zm_1261 (zgc zm_74 (zgc zm_1262 zgn))))))))))))))))))))))))
theorem zm_1263 : zgo (Cond.methodLink RJxa1e45 1 objectInit) := ⟨List.mem_of_getElem? (i := 1263) (by decide +kernel), by decide +kernel⟩
theorem zw_wsX10_init_r2 : GoodIn lw_tbl wsX10_init_r2 := (zgc zm_1263 zgn)
theorem zw_wsX10_init : GoodIn lw_tbl wsX10_init := (zgc zm_1250 (goodIn_app (goodIn_app (goodIn_app zw_wsX10_init_r1 zw_wsX10_init_r2) zw_wsJx4a65c0) zw_wsX100))
theorem gL_law_X10_init : GoodIn lw_tbl (wsX10_init) := zw_wsX10_init
theorem zm_503 : zgo (Cond.codeWith yL_leg cL_leg 6 (some .int) [(0, 12, 15, 13), (0, 12, 19, 15), (0, 12, 23, 17)]) := ⟨List.mem_of_getElem? (i := 503) (by decide +kernel), by decide +kernel⟩
theorem zm_504 : zgo (Cond.classLink RL 13 "java/lang/IllegalArgumentException") := ⟨List.mem_of_getElem? (i := 504) (by decide +kernel), by decide +kernel⟩
theorem zm_507 : zgo (Cond.methodLink RL 7 yX6_leg) := ⟨List.mem_of_getElem? (i := 507) (by decide +kernel), by decide +kernel⟩
theorem zm_508 : zgo (Cond.instanceMethod yX6_leg) := ⟨List.mem_of_getElem? (i := 508) (by decide +kernel), by decide +kernel⟩
theorem zm_509 : zgo (Cond.selects RX6 yX6_leg yX6_leg) := ⟨List.mem_of_getElem? (i := 509) (by decide +kernel), by decide +kernel⟩
theorem zm_69 : zgo (Cond.initialized RX6) := ⟨List.mem_of_getElem? (i := 69) (by decide +kernel), by decide +kernel⟩
theorem zm_510 : zgo (Cond.code yX6_leg cX6_leg 4 (some .int)) := ⟨List.mem_of_getElem? (i := 510) (by decide +kernel), by decide +kernel⟩
theorem zm_293 : zgo (Cond.fieldLink RX6 67 "Gangline" "legCount" "I") := ⟨List.mem_of_getElem? (i := 293) (by decide +kernel), by decide +kernel⟩
theorem zm_628 : zgo (Cond.instantiable RX1 5) := ⟨List.mem_of_getElem? (i := 628) (by decide +kernel), by decide +kernel⟩
theorem zm_83 : zgo (Cond.initialized RX1) := ⟨List.mem_of_getElem? (i := 83) (by decide +kernel), by decide +kernel⟩
theorem zm_511 : zgo (Cond.methodLink RX6 60 yX6_needRange) := ⟨List.mem_of_getElem? (i := 511) (by decide +kernel), by decide +kernel⟩
theorem zm_512 : zgo (Cond.static yX6_needRange) := ⟨List.mem_of_getElem? (i := 512) (by decide +kernel), by decide +kernel⟩
theorem zm_513 : zgo (Cond.code yX6_needRange cX6_needRange 3 none) := ⟨List.mem_of_getElem? (i := 513) (by decide +kernel), by decide +kernel⟩
theorem zm_514 : zgo (Cond.classLink RX6 255 "java/lang/IllegalArgumentException") := ⟨List.mem_of_getElem? (i := 514) (by decide +kernel), by decide +kernel⟩
theorem zm_80 : zgo (Cond.initialized "java/lang/IllegalArgumentException") := ⟨List.mem_of_getElem? (i := 80) (by decide +kernel), by decide +kernel⟩
theorem zm_586 : zgo (Cond.methodLink RX6 64 yX6_needNobodyOnWay) := ⟨List.mem_of_getElem? (i := 586) (by decide +kernel), by decide +kernel⟩
theorem zm_588 : zgo (Cond.instanceMethod yX6_needNobodyOnWay) := ⟨List.mem_of_getElem? (i := 588) (by decide +kernel), by decide +kernel⟩
theorem zm_21 : zgo (Cond.selects RX6 yX6_needNobodyOnWay yX6_needNobodyOnWay) := ⟨List.mem_of_getElem? (i := 21) (by decide +kernel), by decide +kernel⟩
theorem zm_589 : zgo (Cond.code yX6_needNobodyOnWay cX6_needNobodyOnWay 2 none) := ⟨List.mem_of_getElem? (i := 589) (by decide +kernel), by decide +kernel⟩
theorem zm_299 : zgo (Cond.fieldLink RX6 95 "Gangline" "teamCount" "I") := ⟨List.mem_of_getElem? (i := 299) (by decide +kernel), by decide +kernel⟩
theorem zm_759 : zgo (Cond.fieldLink RX6 127 "Gangline$Team" "party" "LGangline$Party;") := ⟨List.mem_of_getElem? (i := 759) (by decide +kernel), by decide +kernel⟩
theorem zm_158 : zgo (Cond.fieldLink RX6 131 "Gangline$Party" "race" "C") := ⟨List.mem_of_getElem? (i := 158) (by decide +kernel), by decide +kernel⟩
theorem zw_wsL_leg_r1 : GoodIn lw_tbl wsL_leg_r1 := (zgc zm_504 (zgc zm_507 (zgc zm_508 (zgc zm_509 (zgc zm_69 (zgc zm_510 (zgc zm_293 (zgc zm_292 (zgc zm_116 (zgc zm_628 (zgc zm_83 (zgc zm_511 (zgc zm_512 (zgc zm_513 (zgc zm_514 (zgc zm_80 (zgc zm_586 (zgc zm_588 (zgc zm_21 (zgc zm_589 (zgc zm_299 (zgc zm_298 (zgc zm_759 (zgc zm_158 zgn))))))))))))))))))))))))
theorem zm_590 : zgo (Cond.methodLink RX6 120 yX6_needThat) := ⟨List.mem_of_getElem? (i := 590) (by decide +kernel), by decide +kernel⟩
theorem zm_591 : zgo (Cond.static yX6_needThat) := ⟨List.mem_of_getElem? (i := 591) (by decide +kernel), by decide +kernel⟩
theorem zm_592 : zgo (Cond.code yX6_needThat cX6_needThat 1 none) := ⟨List.mem_of_getElem? (i := 592) (by decide +kernel), by decide +kernel⟩
theorem zm_593 : zgo (Cond.classLink RX6 452 "java/lang/UnsupportedOperationException") := ⟨List.mem_of_getElem? (i := 593) (by decide +kernel), by decide +kernel⟩
theorem zm_81 : zgo (Cond.initialized "java/lang/UnsupportedOperationException") := ⟨List.mem_of_getElem? (i := 81) (by decide +kernel), by decide +kernel⟩
theorem zm_609 : zgo (Cond.methodLink RX6 71 yX6_needRoom) := ⟨List.mem_of_getElem? (i := 609) (by decide +kernel), by decide +kernel⟩
theorem zm_610 : zgo (Cond.static yX6_needRoom) := ⟨List.mem_of_getElem? (i := 610) (by decide +kernel), by decide +kernel⟩
theorem zm_611 : zgo (Cond.code yX6_needRoom cX6_needRoom 2 none) := ⟨List.mem_of_getElem? (i := 611) (by decide +kernel), by decide +kernel⟩
theorem zm_612 : zgo (Cond.classLink RX6 148 "java/lang/IllegalStateException") := ⟨List.mem_of_getElem? (i := 612) (by decide +kernel), by decide +kernel⟩
theorem zm_82 : zgo (Cond.initialized "java/lang/IllegalStateException") := ⟨List.mem_of_getElem? (i := 82) (by decide +kernel), by decide +kernel⟩
theorem zm_629 : zgo (Cond.methodLink RX6 75 yX1_init) := ⟨List.mem_of_getElem? (i := 629) (by decide +kernel), by decide +kernel⟩
theorem zm_630 : zgo (Cond.instanceMethod yX1_init) := ⟨List.mem_of_getElem? (i := 630) (by decide +kernel), by decide +kernel⟩
theorem zm_631 : zgo (Cond.code yX1_init cX1_init 4 none) := ⟨List.mem_of_getElem? (i := 631) (by decide +kernel), by decide +kernel⟩
theorem zm_632 : zgo (Cond.methodLink RX1 1 objectInit) := ⟨List.mem_of_getElem? (i := 632) (by decide +kernel), by decide +kernel⟩
theorem zm_639 : zgo (Cond.fieldLink RX1 7 "Gangline$Leg" "degrees" "I") := ⟨List.mem_of_getElem? (i := 639) (by decide +kernel), by decide +kernel⟩
theorem zm_633 : zgo (Cond.fieldLink RX1 13 "Gangline$Leg" "length" "I") := ⟨List.mem_of_getElem? (i := 633) (by decide +kernel), by decide +kernel⟩
theorem zm_635 : zgo (Cond.fieldLink RX1 16 "Gangline$Leg" "surface" "I") := ⟨List.mem_of_getElem? (i := 635) (by decide +kernel), by decide +kernel⟩
theorem zm_637 : zgo (Cond.fieldLink RX1 19 "Gangline$Leg" "climb" "I") := ⟨List.mem_of_getElem? (i := 637) (by decide +kernel), by decide +kernel⟩
theorem zw_wsL_leg_r2 : GoodIn lw_tbl wsL_leg_r2 := (zgc zm_590 (zgc zm_591 (zgc zm_592 (zgc zm_593 (zgc zm_81 (zgc zm_609 (zgc zm_610 (zgc zm_611 (zgc zm_612 (zgc zm_82 (zgc zm_629 (zgc zm_630 (zgc zm_631 (zgc zm_632 (zgc zm_114 (zgc zm_115 (zgc zm_639 (zgc zm_633 (zgc zm_635 (zgc zm_637 zgn))))))))))))))))))))
set_option maxRecDepth 20000 in
theorem zx_1 : GoodIn lw_tbl ((vx_atS RX6 259 "java/lang/IllegalArgumentException" ["java/lang/RuntimeException", "java/lang/Exception"]).filter goodWord) := fun w h => ⟨(show ∀ w ∈ (vx_atS RX6 259 "java/lang/IllegalArgumentException" ["java/lang/RuntimeException", "java/lang/Exception"]).filter goodWord, w ∈ lw_tbl by decide +kernel) w h, good_of_word (List.mem_filter.mp h).2⟩
set_option maxRecDepth 20000 in
theorem zx_2 : GoodIn lw_tbl ((vx_atS RX6 456 "java/lang/UnsupportedOperationException" ["java/lang/RuntimeException", "java/lang/Exception"]).filter goodWord) := fun w h => ⟨(show ∀ w ∈ (vx_atS RX6 456 "java/lang/UnsupportedOperationException" ["java/lang/RuntimeException", "java/lang/Exception"]).filter goodWord, w ∈ lw_tbl by decide +kernel) w h, good_of_word (List.mem_filter.mp h).2⟩
set_option maxRecDepth 20000 in
theorem zx_3 : GoodIn lw_tbl ((vx_atS RX6 152 "java/lang/IllegalStateException" ["java/lang/RuntimeException", "java/lang/Exception"]).filter goodWord) := fun w h => ⟨(show ∀ w ∈ (vx_atS RX6 152 "java/lang/IllegalStateException" ["java/lang/RuntimeException", "java/lang/Exception"]).filter goodWord, w ∈ lw_tbl by decide +kernel) w h, good_of_word (List.mem_filter.mp h).2⟩
theorem zw_wsL_leg : GoodIn lw_tbl wsL_leg := (zgc zm_503 (goodIn_app (goodIn_app (goodIn_app (goodIn_app (goodIn_app (goodIn_app (goodIn_app (goodIn_app (goodIn_app zw_wsL_leg_r1 zw_wsL_leg_r2) zw_wsX60) zw_wsX10) zw_wsX50) zw_wsX20) zx_0) zx_1) zx_2) zx_3))
theorem zm_501 : zgo (Cond.methodLink RL 177 yL_leg) := ⟨List.mem_of_getElem? (i := 501) (by decide +kernel), by decide +kernel⟩
theorem zm_502 : zgo (Cond.static yL_leg) := ⟨List.mem_of_getElem? (i := 502) (by decide +kernel), by decide +kernel⟩
theorem zm_68 : zgo (Cond.initialized RL) := ⟨List.mem_of_getElem? (i := 68) (by decide +kernel), by decide +kernel⟩
theorem gL_law_L_leg : GoodIn lw_tbl (va_wsS RL 177 yL_leg wsL_leg) := goodIn_app (a := [Cond.methodLink RL 177 yL_leg, Cond.static yL_leg, Cond.initialized RL]) (zgc zm_501 (zgc zm_502 (zgc zm_68 zgn))) zw_wsL_leg
theorem zm_1322 : zgo (Cond.code yX10_leg cX10_leg 5 (some .int)) := ⟨List.mem_of_getElem? (i := 1322) (by decide +kernel), by decide +kernel⟩
theorem zm_1323 : zgo (Cond.constantLong RX10 67 (5)) := ⟨List.mem_of_getElem? (i := 1323) (by decide +kernel), by decide +kernel⟩
theorem zm_1324 : zgo (Cond.constantLong RX10 69 (120)) := ⟨List.mem_of_getElem? (i := 1324) (by decide +kernel), by decide +kernel⟩
theorem zm_1328 : zgo (Cond.constantLong RX10 71 (9)) := ⟨List.mem_of_getElem? (i := 1328) (by decide +kernel), by decide +kernel⟩
theorem zm_1329 : zgo (Cond.constantLong RX10 73 (-9)) := ⟨List.mem_of_getElem? (i := 1329) (by decide +kernel), by decide +kernel⟩
theorem zm_1415 : zgo (Cond.classLink RX10 82 RX8) := ⟨List.mem_of_getElem? (i := 1415) (by decide +kernel), by decide +kernel⟩
theorem zm_1416 : zgo (Cond.instantiable RX8 5) := ⟨List.mem_of_getElem? (i := 1416) (by decide +kernel), by decide +kernel⟩
theorem zm_86 : zgo (Cond.initialized RX8) := ⟨List.mem_of_getElem? (i := 86) (by decide +kernel), by decide +kernel⟩
theorem zm_1325 : zgo (Cond.methodLink RX10 63 yX10_in) := ⟨List.mem_of_getElem? (i := 1325) (by decide +kernel), by decide +kernel⟩
theorem zm_1326 : zgo (Cond.static yX10_in) := ⟨List.mem_of_getElem? (i := 1326) (by decide +kernel), by decide +kernel⟩
theorem zm_73 : zgo (Cond.initialized RX10) := ⟨List.mem_of_getElem? (i := 73) (by decide +kernel), by decide +kernel⟩
theorem zm_1327 : zgo (Cond.code yX10_in cX10_in 6 (some .boolean)) := ⟨List.mem_of_getElem? (i := 1327) (by decide +kernel), by decide +kernel⟩
theorem zm_1330 : zgo (Cond.methodLink RX10 75 yX10_isOnWay) := ⟨List.mem_of_getElem? (i := 1330) (by decide +kernel), by decide +kernel⟩
theorem zm_1332 : zgo (Cond.instanceMethod yX10_isOnWay) := ⟨List.mem_of_getElem? (i := 1332) (by decide +kernel), by decide +kernel⟩
theorem zm_41 : zgo (Cond.selects RX10 yX10_isOnWay yX10_isOnWay) := ⟨List.mem_of_getElem? (i := 41) (by decide +kernel), by decide +kernel⟩
theorem zm_1333 : zgo (Cond.code yX10_isOnWay cX10_isOnWay 4 (some .boolean)) := ⟨List.mem_of_getElem? (i := 1333) (by decide +kernel), by decide +kernel⟩
theorem zm_1397 : zgo (Cond.classLink RX10 54 "GanglineModel$Team") := ⟨List.mem_of_getElem? (i := 1397) (by decide +kernel), by decide +kernel⟩
theorem zm_1335 : zgo (Cond.methodLink RX10 38 ⟨"java/util/List", "iterator", "()Ljava/util/Iterator;"⟩) := ⟨List.mem_of_getElem? (i := 1335) (by decide +kernel), by decide +kernel⟩
theorem zm_1339 : zgo (Cond.selects RJx4a65c ⟨"java/util/List", "iterator", "()Ljava/util/Iterator;"⟩ yJx4a65c_iterator_32c93) := ⟨List.mem_of_getElem? (i := 1339) (by decide +kernel), by decide +kernel⟩
theorem zm_1341 : zgo (Cond.instanceMethod yJx4a65c_iterator_32c93) := ⟨List.mem_of_getElem? (i := 1341) (by decide +kernel), by decide +kernel⟩
theorem zm_1343 : zgo (Cond.code yJx4a65c_iterator_32c93 cJx4a65c_iterator_32c93 1 (some (.object "java/util/Iterator"))) := ⟨List.mem_of_getElem? (i := 1343) (by decide +kernel), by decide +kernel⟩
theorem zm_1344 : zgo (Cond.classLink RJx4a65c 267 RJx35411) := ⟨List.mem_of_getElem? (i := 1344) (by decide +kernel), by decide +kernel⟩
theorem zw_wsX10_leg_r1 : GoodIn lw_tbl wsX10_leg_r1 := (zgc zm_1323 (zgc zm_1324 (zgc zm_1328 (zgc zm_1329 (zgc zm_1282 (zgc zm_1415 (zgc zm_1416 (zgc zm_86 (zgc zm_1325 (zgc zm_1326 (zgc zm_73 (zgc zm_1327 (zgc zm_1330 (zgc zm_1332 (zgc zm_41 (zgc zm_1333 (zgc zm_1284 (zgc zm_1397 (zgc zm_1335 (zgc zm_1339 (zgc zm_1341 (zgc zm_76 (zgc zm_1343 (zgc zm_1344 zgn))))))))))))))))))))))))
theorem zm_1345 : zgo (Cond.instantiable RJx35411 4) := ⟨List.mem_of_getElem? (i := 1345) (by decide +kernel), by decide +kernel⟩
theorem zm_84 : zgo (Cond.initialized RJx35411) := ⟨List.mem_of_getElem? (i := 84) (by decide +kernel), by decide +kernel⟩
theorem zm_1346 : zgo (Cond.methodLink RJx4a65c 269 yJx35411_init_45d68) := ⟨List.mem_of_getElem? (i := 1346) (by decide +kernel), by decide +kernel⟩
theorem zm_1347 : zgo (Cond.instanceMethod yJx35411_init_45d68) := ⟨List.mem_of_getElem? (i := 1347) (by decide +kernel), by decide +kernel⟩
theorem zm_1348 : zgo (Cond.code yJx35411_init_45d68 cJx35411_init_45d68 2 none) := ⟨List.mem_of_getElem? (i := 1348) (by decide +kernel), by decide +kernel⟩
theorem zm_1353 : zgo (Cond.fieldLink RJx35411 1 "java/util/ArrayList$Itr" "this$0" "Ljava/util/ArrayList;") := ⟨List.mem_of_getElem? (i := 1353) (by decide +kernel), by decide +kernel⟩
theorem zm_1349 : zgo (Cond.methodLink RJx35411 7 objectInit) := ⟨List.mem_of_getElem? (i := 1349) (by decide +kernel), by decide +kernel⟩
theorem zm_1351 : zgo (Cond.fieldLink RJx35411 13 "java/util/ArrayList$Itr" "lastRet" "I") := ⟨List.mem_of_getElem? (i := 1351) (by decide +kernel), by decide +kernel⟩
theorem zm_1271 : zgo (Cond.fieldLink RJx35411 17 "java/util/ArrayList" "modCount" "I") := ⟨List.mem_of_getElem? (i := 1271) (by decide +kernel), by decide +kernel⟩
theorem zm_1272 : zgo (Cond.sameField "java/util/ArrayList" "java/util/AbstractList" "modCount" "I") := ⟨List.mem_of_getElem? (i := 1272) (by decide +kernel), by decide +kernel⟩
theorem zm_1352 : zgo (Cond.fieldLink RJx35411 22 "java/util/ArrayList$Itr" "expectedModCount" "I") := ⟨List.mem_of_getElem? (i := 1352) (by decide +kernel), by decide +kernel⟩
theorem zm_1364 : zgo (Cond.methodLink RX10 44 ⟨"java/util/Iterator", "hasNext", "()Z"⟩) := ⟨List.mem_of_getElem? (i := 1364) (by decide +kernel), by decide +kernel⟩
theorem zm_1368 : zgo (Cond.selects RJx35411 ⟨"java/util/Iterator", "hasNext", "()Z"⟩ yJx35411_hasNext_aae02) := ⟨List.mem_of_getElem? (i := 1368) (by decide +kernel), by decide +kernel⟩
theorem zm_1370 : zgo (Cond.instanceMethod yJx35411_hasNext_aae02) := ⟨List.mem_of_getElem? (i := 1370) (by decide +kernel), by decide +kernel⟩
theorem zm_1372 : zgo (Cond.code yJx35411_hasNext_aae02 cJx35411_hasNext_aae02 1 (some .boolean)) := ⟨List.mem_of_getElem? (i := 1372) (by decide +kernel), by decide +kernel⟩
theorem zm_1350 : zgo (Cond.fieldLink RJx35411 25 "java/util/ArrayList$Itr" "cursor" "I") := ⟨List.mem_of_getElem? (i := 1350) (by decide +kernel), by decide +kernel⟩
theorem zm_1374 : zgo (Cond.methodLink RX10 50 ⟨"java/util/Iterator", "next", "()Ljava/lang/Object;"⟩) := ⟨List.mem_of_getElem? (i := 1374) (by decide +kernel), by decide +kernel⟩
theorem zm_1377 : zgo (Cond.selects RJx35411 ⟨"java/util/Iterator", "next", "()Ljava/lang/Object;"⟩ yJx35411_next_0502b) := ⟨List.mem_of_getElem? (i := 1377) (by decide +kernel), by decide +kernel⟩
theorem zm_1379 : zgo (Cond.instanceMethod yJx35411_next_0502b) := ⟨List.mem_of_getElem? (i := 1379) (by decide +kernel), by decide +kernel⟩
theorem zm_1381 : zgo (Cond.code yJx35411_next_0502b cJx35411_next_0502b 3 (some (.object "java/lang/Object"))) := ⟨List.mem_of_getElem? (i := 1381) (by decide +kernel), by decide +kernel⟩
theorem zm_1267 : zgo (Cond.fieldLink RJx35411 37 "java/util/ArrayList" "elementData" "[Ljava/lang/Object;") := ⟨List.mem_of_getElem? (i := 1267) (by decide +kernel), by decide +kernel⟩
theorem zm_1382 : zgo (Cond.methodLink RJx35411 31 yJx35411_checkForComodification_da8c8) := ⟨List.mem_of_getElem? (i := 1382) (by decide +kernel), by decide +kernel⟩
theorem zw_wsX10_leg_r2 : GoodIn lw_tbl wsX10_leg_r2 := (zgc zm_1345 (zgc zm_84 (zgc zm_1346 (zgc zm_1347 (zgc zm_1348 (zgc zm_1353 (zgc zm_1349 (zgc zm_114 (zgc zm_115 (zgc zm_1351 (zgc zm_1271 (zgc zm_1272 (zgc zm_1352 (zgc zm_1364 (zgc zm_1368 (zgc zm_1370 (zgc zm_1372 (zgc zm_1350 (zgc zm_1374 (zgc zm_1377 (zgc zm_1379 (zgc zm_1381 (zgc zm_1267 (zgc zm_1382 zgn))))))))))))))))))))))))
theorem zm_1383 : zgo (Cond.instanceMethod yJx35411_checkForComodification_da8c8) := ⟨List.mem_of_getElem? (i := 1383) (by decide +kernel), by decide +kernel⟩
theorem zm_1384 : zgo (Cond.selects RJx35411 yJx35411_checkForComodification_da8c8 yJx35411_checkForComodification_da8c8) := ⟨List.mem_of_getElem? (i := 1384) (by decide +kernel), by decide +kernel⟩
theorem zm_1385 : zgo (Cond.code yJx35411_checkForComodification_da8c8 cJx35411_checkForComodification_da8c8 1 none) := ⟨List.mem_of_getElem? (i := 1385) (by decide +kernel), by decide +kernel⟩
theorem zm_1398 : zgo (Cond.methodLink RX10 56 yX9_isOn) := ⟨List.mem_of_getElem? (i := 1398) (by decide +kernel), by decide +kernel⟩
theorem zm_1399 : zgo (Cond.instanceMethod yX9_isOn) := ⟨List.mem_of_getElem? (i := 1399) (by decide +kernel), by decide +kernel⟩
theorem zm_1400 : zgo (Cond.selects RX9 yX9_isOn yX9_isOn) := ⟨List.mem_of_getElem? (i := 1400) (by decide +kernel), by decide +kernel⟩
theorem zm_98 : zgo (Cond.initialized RX9) := ⟨List.mem_of_getElem? (i := 98) (by decide +kernel), by decide +kernel⟩
theorem zm_1401 : zgo (Cond.code yX9_isOn cX9_isOn 1 (some .boolean)) := ⟨List.mem_of_getElem? (i := 1401) (by decide +kernel), by decide +kernel⟩
theorem zm_1564 : zgo (Cond.fieldLink RX9 25 "GanglineModel$Team" "state" "C") := ⟨List.mem_of_getElem? (i := 1564) (by decide +kernel), by decide +kernel⟩
theorem zm_1403 : zgo (Cond.methodLink RX10 59 ⟨"java/util/List", "size", "()I"⟩) := ⟨List.mem_of_getElem? (i := 1403) (by decide +kernel), by decide +kernel⟩
theorem zm_1406 : zgo (Cond.selects RJx4a65c ⟨"java/util/List", "size", "()I"⟩ yJx4a65c_size_8abf5) := ⟨List.mem_of_getElem? (i := 1406) (by decide +kernel), by decide +kernel⟩
theorem zm_1408 : zgo (Cond.instanceMethod yJx4a65c_size_8abf5) := ⟨List.mem_of_getElem? (i := 1408) (by decide +kernel), by decide +kernel⟩
theorem zm_1410 : zgo (Cond.code yJx4a65c_size_8abf5 cJx4a65c_size_8abf5 1 (some .int)) := ⟨List.mem_of_getElem? (i := 1410) (by decide +kernel), by decide +kernel⟩
theorem zm_1269 : zgo (Cond.fieldLink RJx4a65c 48 "java/util/ArrayList" "size" "I") := ⟨List.mem_of_getElem? (i := 1269) (by decide +kernel), by decide +kernel⟩
theorem zm_1411 : zgo (Cond.methodLink RX10 78 yX10_goesOn) := ⟨List.mem_of_getElem? (i := 1411) (by decide +kernel), by decide +kernel⟩
theorem zm_1413 : zgo (Cond.instanceMethod yX10_goesOn) := ⟨List.mem_of_getElem? (i := 1413) (by decide +kernel), by decide +kernel⟩
theorem zm_42 : zgo (Cond.selects RX10 yX10_goesOn yX10_goesOn) := ⟨List.mem_of_getElem? (i := 42) (by decide +kernel), by decide +kernel⟩
theorem zm_1414 : zgo (Cond.code yX10_goesOn cX10_goesOn 2 (some .boolean)) := ⟨List.mem_of_getElem? (i := 1414) (by decide +kernel), by decide +kernel⟩
theorem zm_1281 : zgo (Cond.fieldLink RX10 25 "GanglineModel" "thrown" "I") := ⟨List.mem_of_getElem? (i := 1281) (by decide +kernel), by decide +kernel⟩
theorem zm_1417 : zgo (Cond.methodLink RX10 84 yX8_init) := ⟨List.mem_of_getElem? (i := 1417) (by decide +kernel), by decide +kernel⟩
theorem zm_1418 : zgo (Cond.instanceMethod yX8_init) := ⟨List.mem_of_getElem? (i := 1418) (by decide +kernel), by decide +kernel⟩
theorem zm_1419 : zgo (Cond.code yX8_init cX8_init 4 none) := ⟨List.mem_of_getElem? (i := 1419) (by decide +kernel), by decide +kernel⟩
theorem zm_1420 : zgo (Cond.methodLink RX8 1 objectInit) := ⟨List.mem_of_getElem? (i := 1420) (by decide +kernel), by decide +kernel⟩
theorem zm_1427 : zgo (Cond.fieldLink RX8 7 "GanglineModel$Leg" "cold" "I") := ⟨List.mem_of_getElem? (i := 1427) (by decide +kernel), by decide +kernel⟩
theorem zw_wsX10_leg_r3 : GoodIn lw_tbl wsX10_leg_r3 := (zgc zm_1383 (zgc zm_1384 (zgc zm_1385 (zgc zm_1398 (zgc zm_1399 (zgc zm_1400 (zgc zm_98 (zgc zm_1401 (zgc zm_1564 (zgc zm_1403 (zgc zm_1406 (zgc zm_1408 (zgc zm_1410 (zgc zm_1269 (zgc zm_1411 (zgc zm_1413 (zgc zm_42 (zgc zm_1414 (zgc zm_1281 (zgc zm_1417 (zgc zm_1418 (zgc zm_1419 (zgc zm_1420 (zgc zm_1427 zgn))))))))))))))))))))))))
theorem zm_1421 : zgo (Cond.fieldLink RX8 13 "GanglineModel$Leg" "length" "I") := ⟨List.mem_of_getElem? (i := 1421) (by decide +kernel), by decide +kernel⟩
theorem zm_1423 : zgo (Cond.fieldLink RX8 16 "GanglineModel$Leg" "surface" "I") := ⟨List.mem_of_getElem? (i := 1423) (by decide +kernel), by decide +kernel⟩
theorem zm_1425 : zgo (Cond.fieldLink RX8 19 "GanglineModel$Leg" "climb" "I") := ⟨List.mem_of_getElem? (i := 1425) (by decide +kernel), by decide +kernel⟩
theorem zm_1442 : zgo (Cond.methodLink RX10 87 ⟨"java/util/List", "add", "(Ljava/lang/Object;)Z"⟩) := ⟨List.mem_of_getElem? (i := 1442) (by decide +kernel), by decide +kernel⟩
theorem zm_1445 : zgo (Cond.selects RJx4a65c ⟨"java/util/List", "add", "(Ljava/lang/Object;)Z"⟩ yJx4a65c_add_9ea2d) := ⟨List.mem_of_getElem? (i := 1445) (by decide +kernel), by decide +kernel⟩
theorem zm_1447 : zgo (Cond.instanceMethod yJx4a65c_add_9ea2d) := ⟨List.mem_of_getElem? (i := 1447) (by decide +kernel), by decide +kernel⟩
theorem zm_1449 : zgo (Cond.code yJx4a65c_add_9ea2d cJx4a65c_add_9ea2d 2 (some .boolean)) := ⟨List.mem_of_getElem? (i := 1449) (by decide +kernel), by decide +kernel⟩
theorem zm_1273 : zgo (Cond.fieldLink RJx4a65c 63 "java/util/ArrayList" "modCount" "I") := ⟨List.mem_of_getElem? (i := 1273) (by decide +kernel), by decide +kernel⟩
theorem zm_1450 : zgo (Cond.methodLink RJx4a65c 131 yJx4a65c_add_72be8) := ⟨List.mem_of_getElem? (i := 1450) (by decide +kernel), by decide +kernel⟩
theorem zm_1452 : zgo (Cond.instanceMethod yJx4a65c_add_72be8) := ⟨List.mem_of_getElem? (i := 1452) (by decide +kernel), by decide +kernel⟩
theorem zm_43 : zgo (Cond.selects RJx4a65c yJx4a65c_add_72be8 yJx4a65c_add_72be8) := ⟨List.mem_of_getElem? (i := 43) (by decide +kernel), by decide +kernel⟩
theorem zm_1453 : zgo (Cond.code yJx4a65c_add_72be8 cJx4a65c_add_72be8 4 none) := ⟨List.mem_of_getElem? (i := 1453) (by decide +kernel), by decide +kernel⟩
theorem zm_1454 : zgo (Cond.methodLink RJx4a65c 129 yJx4a65c_grow_d5877) := ⟨List.mem_of_getElem? (i := 1454) (by decide +kernel), by decide +kernel⟩
theorem zm_1456 : zgo (Cond.instanceMethod yJx4a65c_grow_d5877) := ⟨List.mem_of_getElem? (i := 1456) (by decide +kernel), by decide +kernel⟩
theorem zm_44 : zgo (Cond.selects RJx4a65c yJx4a65c_grow_d5877 yJx4a65c_grow_d5877) := ⟨List.mem_of_getElem? (i := 44) (by decide +kernel), by decide +kernel⟩
theorem zm_1457 : zgo (Cond.code yJx4a65c_grow_d5877 cJx4a65c_grow_d5877 1 (some (.array (.object "java/lang/Object")))) := ⟨List.mem_of_getElem? (i := 1457) (by decide +kernel), by decide +kernel⟩
theorem zm_1458 : zgo (Cond.methodLink RJx4a65c 69 yJx4a65c_grow_92f84) := ⟨List.mem_of_getElem? (i := 1458) (by decide +kernel), by decide +kernel⟩
theorem zm_1460 : zgo (Cond.instanceMethod yJx4a65c_grow_92f84) := ⟨List.mem_of_getElem? (i := 1460) (by decide +kernel), by decide +kernel⟩
theorem zm_45 : zgo (Cond.selects RJx4a65c yJx4a65c_grow_92f84 yJx4a65c_grow_92f84) := ⟨List.mem_of_getElem? (i := 45) (by decide +kernel), by decide +kernel⟩
theorem zm_1461 : zgo (Cond.code yJx4a65c_grow_92f84 cJx4a65c_grow_92f84 4 (some (.array (.object "java/lang/Object")))) := ⟨List.mem_of_getElem? (i := 1461) (by decide +kernel), by decide +kernel⟩
theorem zm_1509 : zgo (Cond.methodLink RJx4a65c 79 Lib.Math.max.name) := ⟨List.mem_of_getElem? (i := 1509) (by decide +kernel), by decide +kernel⟩
theorem zm_409 : zgo (Cond.static Lib.Math.max.name) := ⟨List.mem_of_getElem? (i := 409) (by decide +kernel), by decide +kernel⟩
theorem zw_wsX10_leg_r4 : GoodIn lw_tbl wsX10_leg_r4 := (zgc zm_1421 (zgc zm_1423 (zgc zm_1425 (zgc zm_1442 (zgc zm_1445 (zgc zm_1447 (zgc zm_1449 (zgc zm_1273 (zgc zm_1266 (zgc zm_1450 (zgc zm_1452 (zgc zm_43 (zgc zm_1453 (zgc zm_1454 (zgc zm_1456 (zgc zm_44 (zgc zm_1457 (zgc zm_1458 (zgc zm_1460 (zgc zm_45 (zgc zm_1461 (zgc zm_1264 (zgc zm_1509 (zgc zm_409 zgn))))))))))))))))))))))))
theorem zm_88 : zgo (Cond.initialized "java/lang/Math") := ⟨List.mem_of_getElem? (i := 88) (by decide +kernel), by decide +kernel⟩
theorem zm_410 : zgo (Cond.code Lib.Math.max.name Lib.Math.max.code 2 (some .int)) := ⟨List.mem_of_getElem? (i := 410) (by decide +kernel), by decide +kernel⟩
theorem zm_1510 : zgo (Cond.classLink RJx4a65c 7 "java/lang/Object") := ⟨List.mem_of_getElem? (i := 1510) (by decide +kernel), by decide +kernel⟩
theorem zm_1462 : zgo (Cond.methodLink RJx4a65c 73 yJ8_newLength_cabcc) := ⟨List.mem_of_getElem? (i := 1462) (by decide +kernel), by decide +kernel⟩
theorem zm_1463 : zgo (Cond.static yJ8_newLength_cabcc) := ⟨List.mem_of_getElem? (i := 1463) (by decide +kernel), by decide +kernel⟩
theorem zm_87 : zgo (Cond.initialized RJ8) := ⟨List.mem_of_getElem? (i := 87) (by decide +kernel), by decide +kernel⟩
theorem zm_1464 : zgo (Cond.code yJ8_newLength_cabcc cJ8_newLength_cabcc 4 (some .int)) := ⟨List.mem_of_getElem? (i := 1464) (by decide +kernel), by decide +kernel⟩
theorem zm_1465 : zgo (Cond.methodLink RJ8 194 Lib.Math.max.name) := ⟨List.mem_of_getElem? (i := 1465) (by decide +kernel), by decide +kernel⟩
theorem zm_1466 : zgo (Cond.constant RJ8 200 (2147483639)) := ⟨List.mem_of_getElem? (i := 1466) (by decide +kernel), by decide +kernel⟩
theorem zm_1467 : zgo (Cond.methodLink RJ8 201 yJ8_hugeLength_7cf53) := ⟨List.mem_of_getElem? (i := 1467) (by decide +kernel), by decide +kernel⟩
theorem zm_1468 : zgo (Cond.static yJ8_hugeLength_7cf53) := ⟨List.mem_of_getElem? (i := 1468) (by decide +kernel), by decide +kernel⟩
theorem zm_1469 : zgo (Cond.code yJ8_hugeLength_7cf53 cJ8_hugeLength_7cf53 3 (some .int)) := ⟨List.mem_of_getElem? (i := 1469) (by decide +kernel), by decide +kernel⟩
theorem zm_1470 : zgo (Cond.methodLink RJx4a65c 66 yJ7_copyOf_1904c) := ⟨List.mem_of_getElem? (i := 1470) (by decide +kernel), by decide +kernel⟩
theorem zm_1471 : zgo (Cond.static yJ7_copyOf_1904c) := ⟨List.mem_of_getElem? (i := 1471) (by decide +kernel), by decide +kernel⟩
theorem zm_89 : zgo (Cond.initialized RJ7) := ⟨List.mem_of_getElem? (i := 89) (by decide +kernel), by decide +kernel⟩
theorem zm_1472 : zgo (Cond.code yJ7_copyOf_1904c cJ7_copyOf_1904c 2 (some (.array (.object "java/lang/Object")))) := ⟨List.mem_of_getElem? (i := 1472) (by decide +kernel), by decide +kernel⟩
theorem zm_1473 : zgo (Cond.methodLink RJ7 86 ⟨"java/lang/Object", "getClass", "()Ljava/lang/Class;"⟩) := ⟨List.mem_of_getElem? (i := 1473) (by decide +kernel), by decide +kernel⟩
theorem zm_2495 : zgo (Cond.selects "[Ljava/lang/Object;" ⟨"java/lang/Object", "getClass", "()Ljava/lang/Class;"⟩ ⟨"java/lang/Object", "getClass", "()Ljava/lang/Class;"⟩) := ⟨List.mem_of_getElem? (i := 2495) (by decide +kernel), by decide +kernel⟩
theorem zm_1474 : zgo (Cond.instanceMethod ⟨"java/lang/Object", "getClass", "()Ljava/lang/Class;"⟩) := ⟨List.mem_of_getElem? (i := 1474) (by decide +kernel), by decide +kernel⟩
theorem zm_1498 : zgo (Cond.native ⟨"java/lang/Object", "getClass", "()Ljava/lang/Class;"⟩) := ⟨List.mem_of_getElem? (i := 1498) (by decide +kernel), by decide +kernel⟩
theorem zm_1499 : zgo (Cond.methodLink RJ7 300 yJ7_copyOf_6403c) := ⟨List.mem_of_getElem? (i := 1499) (by decide +kernel), by decide +kernel⟩
theorem zm_1500 : zgo (Cond.static yJ7_copyOf_6403c) := ⟨List.mem_of_getElem? (i := 1500) (by decide +kernel), by decide +kernel⟩
theorem zm_1501 : zgo (Cond.code yJ7_copyOf_6403c cJ7_copyOf_6403c 4 (some (.array (.object "java/lang/Object")))) := ⟨List.mem_of_getElem? (i := 1501) (by decide +kernel), by decide +kernel⟩
theorem zm_1502 : zgo (Cond.classLink RJ7 110 "[Ljava/lang/Object;") := ⟨List.mem_of_getElem? (i := 1502) (by decide +kernel), by decide +kernel⟩
theorem zw_wsX10_leg_r5 : GoodIn lw_tbl wsX10_leg_r5 := (zgc zm_88 (zgc zm_410 (zgc zm_1510 (zgc zm_1462 (zgc zm_1463 (zgc zm_87 (zgc zm_1464 (zgc zm_1465 (zgc zm_1466 (zgc zm_1467 (zgc zm_1468 (zgc zm_1469 (zgc zm_1470 (zgc zm_1471 (zgc zm_89 (zgc zm_1472 (zgc zm_1473 (zgc zm_2495 (zgc zm_1474 (zgc zm_1498 (zgc zm_1499 (zgc zm_1500 (zgc zm_1501 (zgc zm_1502 zgn))))))))))))))))))))))))
theorem zm_1504 : zgo (Cond.classLink RJ7 2 "java/lang/Object") := ⟨List.mem_of_getElem? (i := 1504) (by decide +kernel), by decide +kernel⟩
theorem zm_1505 : zgo (Cond.methodLink RJ7 304 Lib.Math.min.name) := ⟨List.mem_of_getElem? (i := 1505) (by decide +kernel), by decide +kernel⟩
theorem zm_463 : zgo (Cond.static Lib.Math.min.name) := ⟨List.mem_of_getElem? (i := 463) (by decide +kernel), by decide +kernel⟩
theorem zm_464 : zgo (Cond.code Lib.Math.min.name Lib.Math.min.code 2 (some .int)) := ⟨List.mem_of_getElem? (i := 464) (by decide +kernel), by decide +kernel⟩
theorem zm_1506 : zgo (Cond.methodLink RJ7 150 arraycopyName) := ⟨List.mem_of_getElem? (i := 1506) (by decide +kernel), by decide +kernel⟩
theorem zm_1508 : zgo (Cond.native arraycopyName) := ⟨List.mem_of_getElem? (i := 1508) (by decide +kernel), by decide +kernel⟩
theorem zm_1507 : zgo (Cond.static arraycopyName) := ⟨List.mem_of_getElem? (i := 1507) (by decide +kernel), by decide +kernel⟩
theorem zm_90 : zgo (Cond.initialized "java/lang/System") := ⟨List.mem_of_getElem? (i := 90) (by decide +kernel), by decide +kernel⟩
theorem zw_wsX10_leg_r6 : GoodIn lw_tbl wsX10_leg_r6 := (zgc zm_1504 (zgc zm_1505 (zgc zm_463 (zgc zm_464 (zgc zm_1506 (zgc zm_1508 (zgc zm_1507 (zgc zm_90 zgn))))))))
theorem zw_wsX10_leg : GoodIn lw_tbl wsX10_leg := (zgc zm_1322 (goodIn_app (goodIn_app (goodIn_app (goodIn_app (goodIn_app (goodIn_app zw_wsX10_leg_r1 (goodIn_app zw_wsX10_leg_r2 (goodIn_app zw_wsX10_leg_r3 (goodIn_app zw_wsX10_leg_r4 (goodIn_app zw_wsX10_leg_r5 zw_wsX10_leg_r6))))) zw_wsX100) zw_wsX80) zw_wsJx354110) zw_wsJx4a65c0) zw_wsX90))
theorem zm_1319 : zgo (Cond.methodLink RL 182 yX10_leg) := ⟨List.mem_of_getElem? (i := 1319) (by decide +kernel), by decide +kernel⟩
theorem zm_1320 : zgo (Cond.instanceMethod yX10_leg) := ⟨List.mem_of_getElem? (i := 1320) (by decide +kernel), by decide +kernel⟩
theorem zm_1321 : zgo (Cond.selects RX10 yX10_leg yX10_leg) := ⟨List.mem_of_getElem? (i := 1321) (by decide +kernel), by decide +kernel⟩
theorem gL_law_X10_leg : GoodIn lw_tbl (wsV RL 182 RX10 yX10_leg wsX10_leg) := goodIn_app (a := [Cond.methodLink RL 182 yX10_leg, Cond.instanceMethod yX10_leg, Cond.selects RX10 yX10_leg yX10_leg, Cond.initialized RX10]) (zgc zm_1319 (zgc zm_1320 (zgc zm_1321 (zgc zm_73 zgn)))) zw_wsX10_leg
theorem zm_1318 : zgo (Cond.code yX10_thrown cX10_thrown 1 (some .int)) := ⟨List.mem_of_getElem? (i := 1318) (by decide +kernel), by decide +kernel⟩
theorem zw_wsX10_thrown : GoodIn lw_tbl wsX10_thrown := (zgc zm_1318 (goodIn_app (zgc zm_1281 zgn) zw_wsX100))
theorem zm_1315 : zgo (Cond.methodLink RL 183 yX10_thrown) := ⟨List.mem_of_getElem? (i := 1315) (by decide +kernel), by decide +kernel⟩
theorem zm_1316 : zgo (Cond.instanceMethod yX10_thrown) := ⟨List.mem_of_getElem? (i := 1316) (by decide +kernel), by decide +kernel⟩
theorem zm_1317 : zgo (Cond.selects RX10 yX10_thrown yX10_thrown) := ⟨List.mem_of_getElem? (i := 1317) (by decide +kernel), by decide +kernel⟩
theorem gL_law_X10_thrown : GoodIn lw_tbl (wsV RL 183 RX10 yX10_thrown wsX10_thrown) := goodIn_app (a := [Cond.methodLink RL 183 yX10_thrown, Cond.instanceMethod yX10_thrown, Cond.selects RX10 yX10_thrown yX10_thrown, Cond.initialized RX10]) (zgc zm_1315 (zgc zm_1316 (zgc zm_1317 (zgc zm_73 zgn)))) zw_wsX10_thrown
theorem zm_655 : zgo (Cond.codeWith yL_cold cL_cold 5 (some .int) [(0, 10, 13, 23), (0, 10, 17, 13)]) := ⟨List.mem_of_getElem? (i := 655) (by decide +kernel), by decide +kernel⟩
theorem zm_656 : zgo (.classLink RL 23 "java/lang/IndexOutOfBoundsException") := ⟨List.mem_of_getElem? (i := 656) (by decide +kernel), by decide +kernel⟩
theorem zm_680 : zgo (.methodLink RL 19 yX6_cold) := ⟨List.mem_of_getElem? (i := 680) (by decide +kernel), by decide +kernel⟩
theorem zm_681 : zgo (.instanceMethod yX6_cold) := ⟨List.mem_of_getElem? (i := 681) (by decide +kernel), by decide +kernel⟩
theorem zm_682 : zgo (.selects RX6 yX6_cold yX6_cold) := ⟨List.mem_of_getElem? (i := 682) (by decide +kernel), by decide +kernel⟩
theorem zm_683 : zgo (.code yX6_cold cX6_cold 4 (some .int)) := ⟨List.mem_of_getElem? (i := 683) (by decide +kernel), by decide +kernel⟩
theorem zm_640 : zgo (.fieldLink RX6 81 "Gangline$Leg" "degrees" "I") := ⟨List.mem_of_getElem? (i := 640) (by decide +kernel), by decide +kernel⟩
theorem zm_684 : zgo (.methodLink RX6 77 yX6_needLeg) := ⟨List.mem_of_getElem? (i := 684) (by decide +kernel), by decide +kernel⟩
theorem zm_686 : zgo (.instanceMethod yX6_needLeg) := ⟨List.mem_of_getElem? (i := 686) (by decide +kernel), by decide +kernel⟩
theorem zm_22 : zgo (.selects RX6 yX6_needLeg yX6_needLeg) := ⟨List.mem_of_getElem? (i := 22) (by decide +kernel), by decide +kernel⟩
theorem zm_687 : zgo (.code yX6_needLeg cX6_needLeg 2 none) := ⟨List.mem_of_getElem? (i := 687) (by decide +kernel), by decide +kernel⟩
theorem zm_688 : zgo (.classLink RX6 361 "java/lang/IndexOutOfBoundsException") := ⟨List.mem_of_getElem? (i := 688) (by decide +kernel), by decide +kernel⟩
theorem zm_91 : zgo (.initialized "java/lang/IndexOutOfBoundsException") := ⟨List.mem_of_getElem? (i := 91) (by decide +kernel), by decide +kernel⟩
set_option maxRecDepth 20000 in
theorem zx_4 : GoodIn lw_tbl ((vx_atS RX6 365 "java/lang/IndexOutOfBoundsException" ["java/lang/RuntimeException", "java/lang/Exception"]).filter goodWord) := fun w h => ⟨(show ∀ w ∈ (vx_atS RX6 365 "java/lang/IndexOutOfBoundsException" ["java/lang/RuntimeException", "java/lang/Exception"]).filter goodWord, w ∈ lw_tbl by decide +kernel) w h, good_of_word (List.mem_filter.mp h).2⟩
theorem zw_wsL_cold : GoodIn lw_tbl wsL_cold := (zgc zm_655 (goodIn_app (goodIn_app (goodIn_app (goodIn_app (goodIn_app (zgc zm_656 (zgc zm_680 (zgc zm_681 (zgc zm_682 (zgc zm_69 (zgc zm_683 (zgc zm_292 (zgc zm_640 (zgc zm_684 (zgc zm_686 (zgc zm_22 (zgc zm_687 (zgc zm_688 (zgc zm_91 (zgc zm_293 (zgc zm_511 (zgc zm_512 (zgc zm_513 (zgc zm_514 (zgc zm_80 zgn)))))))))))))))))))) zw_wsX60) zw_wsX10) zx_0) zx_4) zx_1))
theorem zm_653 : zgo (Cond.methodLink RL 186 yL_cold) := ⟨List.mem_of_getElem? (i := 653) (by decide +kernel), by decide +kernel⟩
theorem zm_654 : zgo (Cond.static yL_cold) := ⟨List.mem_of_getElem? (i := 654) (by decide +kernel), by decide +kernel⟩
theorem gL_law_L_cold : GoodIn lw_tbl (va_wsS RL 186 yL_cold wsL_cold) := goodIn_app (a := [Cond.methodLink RL 186 yL_cold, Cond.static yL_cold, Cond.initialized RL]) (zgc zm_653 (zgc zm_654 (zgc zm_68 zgn))) zw_wsL_cold
theorem zm_1514 : zgo (Cond.code yX10_cold cX10_cold 5 (some .int)) := ⟨List.mem_of_getElem? (i := 1514) (by decide +kernel), by decide +kernel⟩
theorem zm_1515 : zgo (Cond.constantLong RX10 91 (-60)) := ⟨List.mem_of_getElem? (i := 1515) (by decide +kernel), by decide +kernel⟩
theorem zm_1516 : zgo (Cond.constantLong RX10 93 (20)) := ⟨List.mem_of_getElem? (i := 1516) (by decide +kernel), by decide +kernel⟩
theorem zm_1518 : zgo (Cond.methodLink RX10 95 ⟨"java/util/List", "get", "(I)Ljava/lang/Object;"⟩) := ⟨List.mem_of_getElem? (i := 1518) (by decide +kernel), by decide +kernel⟩
theorem zm_1521 : zgo (Cond.selects RJx4a65c ⟨"java/util/List", "get", "(I)Ljava/lang/Object;"⟩ yJx4a65c_get_915e3) := ⟨List.mem_of_getElem? (i := 1521) (by decide +kernel), by decide +kernel⟩
theorem zm_1523 : zgo (Cond.instanceMethod yJx4a65c_get_915e3) := ⟨List.mem_of_getElem? (i := 1523) (by decide +kernel), by decide +kernel⟩
theorem zm_1525 : zgo (Cond.code yJx4a65c_get_915e3 cJx4a65c_get_915e3 2 (some (.object "java/lang/Object"))) := ⟨List.mem_of_getElem? (i := 1525) (by decide +kernel), by decide +kernel⟩
theorem zm_1526 : zgo (Cond.methodLink RJx4a65c 118 yJ15_checkIndex_7cf53) := ⟨List.mem_of_getElem? (i := 1526) (by decide +kernel), by decide +kernel⟩
theorem zw_wsX10_cold_r1 : GoodIn lw_tbl wsX10_cold_r1 := (zgc zm_1282 (zgc zm_1515 (zgc zm_1516 (zgc zm_1415 (zgc zm_1403 (zgc zm_1406 (zgc zm_1408 (zgc zm_76 (zgc zm_1410 (zgc zm_1269 (zgc zm_1325 (zgc zm_1326 (zgc zm_73 (zgc zm_1327 (zgc zm_1411 (zgc zm_1413 (zgc zm_42 (zgc zm_1414 (zgc zm_1281 (zgc zm_1518 (zgc zm_1521 (zgc zm_1523 (zgc zm_1525 (zgc zm_1526 zgn))))))))))))))))))))))))
theorem zm_1527 : zgo (Cond.static yJ15_checkIndex_7cf53) := ⟨List.mem_of_getElem? (i := 1527) (by decide +kernel), by decide +kernel⟩
theorem zm_94 : zgo (Cond.initialized RJ15) := ⟨List.mem_of_getElem? (i := 94) (by decide +kernel), by decide +kernel⟩
theorem zm_1528 : zgo (Cond.code yJ15_checkIndex_7cf53 cJ15_checkIndex_7cf53 2 (some .int)) := ⟨List.mem_of_getElem? (i := 1528) (by decide +kernel), by decide +kernel⟩
theorem zm_1529 : zgo (Cond.methodLink RJ15 105 yJ3_checkIndex_8e157) := ⟨List.mem_of_getElem? (i := 1529) (by decide +kernel), by decide +kernel⟩
theorem zm_1530 : zgo (Cond.static yJ3_checkIndex_8e157) := ⟨List.mem_of_getElem? (i := 1530) (by decide +kernel), by decide +kernel⟩
theorem zm_95 : zgo (Cond.initialized RJ3) := ⟨List.mem_of_getElem? (i := 95) (by decide +kernel), by decide +kernel⟩
theorem zm_1531 : zgo (Cond.code yJ3_checkIndex_8e157 cJ3_checkIndex_8e157 3 (some .int)) := ⟨List.mem_of_getElem? (i := 1531) (by decide +kernel), by decide +kernel⟩
theorem zm_1532 : zgo (Cond.methodLink RJx4a65c 123 yJx4a65c_elementData_915e3) := ⟨List.mem_of_getElem? (i := 1532) (by decide +kernel), by decide +kernel⟩
theorem zm_1533 : zgo (Cond.instanceMethod yJx4a65c_elementData_915e3) := ⟨List.mem_of_getElem? (i := 1533) (by decide +kernel), by decide +kernel⟩
theorem zm_1534 : zgo (Cond.selects RJx4a65c yJx4a65c_elementData_915e3 yJx4a65c_elementData_915e3) := ⟨List.mem_of_getElem? (i := 1534) (by decide +kernel), by decide +kernel⟩
theorem zm_1535 : zgo (Cond.code yJx4a65c_elementData_915e3 cJx4a65c_elementData_915e3 2 (some (.object "java/lang/Object"))) := ⟨List.mem_of_getElem? (i := 1535) (by decide +kernel), by decide +kernel⟩
theorem zw_wsX10_cold_r2 : GoodIn lw_tbl wsX10_cold_r2 := (zgc zm_1527 (zgc zm_94 (zgc zm_1528 (zgc zm_1529 (zgc zm_1530 (zgc zm_95 (zgc zm_1531 (zgc zm_1532 (zgc zm_1533 (zgc zm_1534 (zgc zm_1535 (zgc zm_1266 zgn))))))))))))
theorem zw_wsX10_cold : GoodIn lw_tbl wsX10_cold := (zgc zm_1514 (goodIn_app (goodIn_app (goodIn_app (goodIn_app zw_wsX10_cold_r1 zw_wsX10_cold_r2) zw_wsX100) zw_wsX80) zw_wsJx4a65c0))
theorem zm_1511 : zgo (Cond.methodLink RL 189 yX10_cold) := ⟨List.mem_of_getElem? (i := 1511) (by decide +kernel), by decide +kernel⟩
theorem zm_1512 : zgo (Cond.instanceMethod yX10_cold) := ⟨List.mem_of_getElem? (i := 1512) (by decide +kernel), by decide +kernel⟩
theorem zm_1513 : zgo (Cond.selects RX10 yX10_cold yX10_cold) := ⟨List.mem_of_getElem? (i := 1513) (by decide +kernel), by decide +kernel⟩
theorem gL_law_X10_cold : GoodIn lw_tbl (wsV RL 189 RX10 yX10_cold wsX10_cold) := goodIn_app (a := [Cond.methodLink RL 189 yX10_cold, Cond.instanceMethod yX10_cold, Cond.selects RX10 yX10_cold yX10_cold, Cond.initialized RX10]) (zgc zm_1511 (zgc zm_1512 (zgc zm_1513 (zgc zm_73 zgn)))) zw_wsX10_cold
theorem zm_703 : zgo (Cond.codeWith yL_storm cL_storm 7 (some .int) [(0, 14, 17, 23), (0, 14, 21, 13), (0, 14, 25, 17)]) := ⟨List.mem_of_getElem? (i := 703) (by decide +kernel), by decide +kernel⟩
theorem zm_704 : zgo (Cond.methodLink RL 25 yX6_storm) := ⟨List.mem_of_getElem? (i := 704) (by decide +kernel), by decide +kernel⟩
theorem zm_705 : zgo (Cond.instanceMethod yX6_storm) := ⟨List.mem_of_getElem? (i := 705) (by decide +kernel), by decide +kernel⟩
theorem zm_706 : zgo (Cond.selects RX6 yX6_storm yX6_storm) := ⟨List.mem_of_getElem? (i := 706) (by decide +kernel), by decide +kernel⟩
theorem zm_707 : zgo (Cond.code yX6_storm cX6_storm 5 (some .int)) := ⟨List.mem_of_getElem? (i := 707) (by decide +kernel), by decide +kernel⟩
theorem zm_295 : zgo (Cond.fieldLink RX6 84 "Gangline" "stormCount" "I") := ⟨List.mem_of_getElem? (i := 295) (by decide +kernel), by decide +kernel⟩
theorem zm_708 : zgo (Cond.instantiable RX4 4) := ⟨List.mem_of_getElem? (i := 708) (by decide +kernel), by decide +kernel⟩
theorem zm_96 : zgo (Cond.initialized RX4) := ⟨List.mem_of_getElem? (i := 96) (by decide +kernel), by decide +kernel⟩
theorem zw_wsL_storm_r1 : GoodIn lw_tbl wsL_storm_r1 := (zgc zm_656 (zgc zm_704 (zgc zm_705 (zgc zm_706 (zgc zm_69 (zgc zm_707 (zgc zm_295 (zgc zm_294 (zgc zm_118 (zgc zm_708 (zgc zm_96 (zgc zm_684 (zgc zm_686 (zgc zm_22 (zgc zm_687 (zgc zm_688 (zgc zm_91 (zgc zm_293 (zgc zm_511 (zgc zm_512 (zgc zm_513 (zgc zm_514 (zgc zm_80 (zgc zm_609 zgn))))))))))))))))))))))))
theorem zm_709 : zgo (Cond.methodLink RX6 87 yX4_init) := ⟨List.mem_of_getElem? (i := 709) (by decide +kernel), by decide +kernel⟩
theorem zm_710 : zgo (Cond.instanceMethod yX4_init) := ⟨List.mem_of_getElem? (i := 710) (by decide +kernel), by decide +kernel⟩
theorem zm_711 : zgo (Cond.code yX4_init cX4_init 5 none) := ⟨List.mem_of_getElem? (i := 711) (by decide +kernel), by decide +kernel⟩
theorem zm_712 : zgo (Cond.methodLink RX4 1 objectInit) := ⟨List.mem_of_getElem? (i := 712) (by decide +kernel), by decide +kernel⟩
theorem zm_713 : zgo (Cond.fieldLink RX4 7 "Gangline$Storm" "leg" "I") := ⟨List.mem_of_getElem? (i := 713) (by decide +kernel), by decide +kernel⟩
theorem zm_715 : zgo (Cond.fieldLink RX4 13 "Gangline$Storm" "from" "I") := ⟨List.mem_of_getElem? (i := 715) (by decide +kernel), by decide +kernel⟩
theorem zm_717 : zgo (Cond.fieldLink RX4 16 "Gangline$Storm" "to" "I") := ⟨List.mem_of_getElem? (i := 717) (by decide +kernel), by decide +kernel⟩
theorem zm_719 : zgo (Cond.fieldLink RX4 19 "Gangline$Storm" "strength" "I") := ⟨List.mem_of_getElem? (i := 719) (by decide +kernel), by decide +kernel⟩
theorem zw_wsL_storm_r2 : GoodIn lw_tbl wsL_storm_r2 := (zgc zm_610 (zgc zm_611 (zgc zm_612 (zgc zm_82 (zgc zm_709 (zgc zm_710 (zgc zm_711 (zgc zm_712 (zgc zm_114 (zgc zm_115 (zgc zm_713 (zgc zm_715 (zgc zm_717 (zgc zm_719 zgn))))))))))))))
theorem zw_wsL_storm : GoodIn lw_tbl wsL_storm := (zgc zm_703 (goodIn_app (goodIn_app (goodIn_app (goodIn_app (goodIn_app (goodIn_app (goodIn_app zw_wsL_storm_r1 zw_wsL_storm_r2) zw_wsX60) zw_wsX40) zx_0) zx_4) zx_1) zx_3))
theorem zm_701 : zgo (Cond.methodLink RL 190 yL_storm) := ⟨List.mem_of_getElem? (i := 701) (by decide +kernel), by decide +kernel⟩
theorem zm_702 : zgo (Cond.static yL_storm) := ⟨List.mem_of_getElem? (i := 702) (by decide +kernel), by decide +kernel⟩
theorem gL_law_L_storm : GoodIn lw_tbl (va_wsS RL 190 yL_storm wsL_storm) := goodIn_app (a := [Cond.methodLink RL 190 yL_storm, Cond.static yL_storm, Cond.initialized RL]) (zgc zm_701 (zgc zm_702 (zgc zm_68 zgn))) zw_wsL_storm
theorem zm_1539 : zgo (Cond.code yX10_storm cX10_storm 6 (some .int)) := ⟨List.mem_of_getElem? (i := 1539) (by decide +kernel), by decide +kernel⟩
theorem zm_1540 : zgo (Cond.constantLong RX10 102 (9999)) := ⟨List.mem_of_getElem? (i := 1540) (by decide +kernel), by decide +kernel⟩
theorem zw_wsX10_storm_r1 : GoodIn lw_tbl wsX10_storm_r1 := (zgc zm_1540 (zgc zm_1328 (zgc zm_1282 (zgc zm_1283 (zgc zm_146 (zgc zm_1325 (zgc zm_1326 (zgc zm_73 (zgc zm_1327 (zgc zm_1403 (zgc zm_1406 (zgc zm_1408 (zgc zm_76 (zgc zm_1410 (zgc zm_1269 (zgc zm_1411 (zgc zm_1413 (zgc zm_42 (zgc zm_1414 (zgc zm_1281 (zgc zm_1442 (zgc zm_1445 (zgc zm_1447 (zgc zm_1449 zgn))))))))))))))))))))))))
theorem zw_wsX10_storm_r2 : GoodIn lw_tbl wsX10_storm_r2 := (zgc zm_1273 (zgc zm_1272 (zgc zm_1266 (zgc zm_1450 (zgc zm_1452 (zgc zm_43 (zgc zm_1453 (zgc zm_1454 (zgc zm_1456 (zgc zm_44 (zgc zm_1457 (zgc zm_1458 (zgc zm_1460 (zgc zm_45 (zgc zm_1461 (zgc zm_1264 (zgc zm_1509 (zgc zm_409 (zgc zm_88 (zgc zm_410 (zgc zm_1510 (zgc zm_1462 (zgc zm_1463 (zgc zm_87 zgn))))))))))))))))))))))))
theorem zw_wsX10_storm_r3 : GoodIn lw_tbl wsX10_storm_r3 := (zgc zm_1464 (zgc zm_1465 (zgc zm_1466 (zgc zm_1467 (zgc zm_1468 (zgc zm_1469 (zgc zm_1470 (zgc zm_1471 (zgc zm_89 (zgc zm_1472 (zgc zm_1473 (zgc zm_2495 (zgc zm_1474 (zgc zm_1498 (zgc zm_1499 (zgc zm_1500 (zgc zm_1501 (zgc zm_1502 (zgc zm_1504 (zgc zm_1505 (zgc zm_463 (zgc zm_464 (zgc zm_1506 (zgc zm_1508 zgn))))))))))))))))))))))))
theorem zw_wsX10_storm_r4 : GoodIn lw_tbl wsX10_storm_r4 := (zgc zm_1507 (zgc zm_90 zgn))
theorem zw_wsX10_storm : GoodIn lw_tbl wsX10_storm := (zgc zm_1539 (goodIn_app (goodIn_app (goodIn_app (goodIn_app zw_wsX10_storm_r1 (goodIn_app zw_wsX10_storm_r2 (goodIn_app zw_wsX10_storm_r3 zw_wsX10_storm_r4))) zw_wsX100) zw_wsJx4a65c0) zx_0))
theorem zm_1536 : zgo (Cond.methodLink RL 193 yX10_storm) := ⟨List.mem_of_getElem? (i := 1536) (by decide +kernel), by decide +kernel⟩
theorem zm_1537 : zgo (Cond.instanceMethod yX10_storm) := ⟨List.mem_of_getElem? (i := 1537) (by decide +kernel), by decide +kernel⟩
theorem zm_1538 : zgo (Cond.selects RX10 yX10_storm yX10_storm) := ⟨List.mem_of_getElem? (i := 1538) (by decide +kernel), by decide +kernel⟩
theorem gL_law_X10_storm : GoodIn lw_tbl (wsV RL 193 RX10 yX10_storm wsX10_storm) := goodIn_app (a := [Cond.methodLink RL 193 yX10_storm, Cond.instanceMethod yX10_storm, Cond.selects RX10 yX10_storm yX10_storm, Cond.initialized RX10]) (zgc zm_1536 (zgc zm_1537 (zgc zm_1538 (zgc zm_73 zgn)))) zw_wsX10_storm
theorem zm_732 : zgo (Cond.codeWith yL_must cL_must 5 (some .int) [(0, 17, 20, 23), (0, 17, 24, 15)]) := ⟨List.mem_of_getElem? (i := 732) (by decide +kernel), by decide +kernel⟩
theorem zm_733 : zgo (Cond.methodLink RL 29 yX6_must) := ⟨List.mem_of_getElem? (i := 733) (by decide +kernel), by decide +kernel⟩
theorem zm_734 : zgo (Cond.instanceMethod yX6_must) := ⟨List.mem_of_getElem? (i := 734) (by decide +kernel), by decide +kernel⟩
theorem zm_735 : zgo (Cond.selects RX6 yX6_must yX6_must) := ⟨List.mem_of_getElem? (i := 735) (by decide +kernel), by decide +kernel⟩
theorem zm_736 : zgo (Cond.code yX6_must cX6_must 4 (some .boolean)) := ⟨List.mem_of_getElem? (i := 736) (by decide +kernel), by decide +kernel⟩
theorem zm_641 : zgo (Cond.fieldLink RX6 91 "Gangline$Leg" "must" "Z") := ⟨List.mem_of_getElem? (i := 641) (by decide +kernel), by decide +kernel⟩
theorem zm_737 : zgo (Cond.methodLink RX6 88 yX6_needBetween) := ⟨List.mem_of_getElem? (i := 737) (by decide +kernel), by decide +kernel⟩
theorem zm_739 : zgo (Cond.instanceMethod yX6_needBetween) := ⟨List.mem_of_getElem? (i := 739) (by decide +kernel), by decide +kernel⟩
theorem zm_23 : zgo (Cond.selects RX6 yX6_needBetween yX6_needBetween) := ⟨List.mem_of_getElem? (i := 23) (by decide +kernel), by decide +kernel⟩
theorem zm_740 : zgo (Cond.code yX6_needBetween cX6_needBetween 2 none) := ⟨List.mem_of_getElem? (i := 740) (by decide +kernel), by decide +kernel⟩
theorem zw_wsL_must_r1 : GoodIn lw_tbl wsL_must_r1 := (zgc zm_656 (zgc zm_733 (zgc zm_734 (zgc zm_735 (zgc zm_69 (zgc zm_736 (zgc zm_292 (zgc zm_641 (zgc zm_737 (zgc zm_739 (zgc zm_23 (zgc zm_740 (zgc zm_688 (zgc zm_91 (zgc zm_293 (zgc zm_586 (zgc zm_588 (zgc zm_21 (zgc zm_589 (zgc zm_299 (zgc zm_298 (zgc zm_759 (zgc zm_158 (zgc zm_590 zgn))))))))))))))))))))))))
theorem zw_wsL_must_r2 : GoodIn lw_tbl wsL_must_r2 := (zgc zm_591 (zgc zm_592 (zgc zm_593 (zgc zm_81 zgn))))
theorem zw_wsL_must : GoodIn lw_tbl wsL_must := (zgc zm_732 (goodIn_app (goodIn_app (goodIn_app (goodIn_app (goodIn_app (goodIn_app (goodIn_app (goodIn_app zw_wsL_must_r1 zw_wsL_must_r2) zw_wsX60) zw_wsX10) zw_wsX50) zw_wsX20) zx_0) zx_4) zx_2))
theorem zm_730 : zgo (Cond.methodLink RL 194 yL_must) := ⟨List.mem_of_getElem? (i := 730) (by decide +kernel), by decide +kernel⟩
theorem zm_731 : zgo (Cond.static yL_must) := ⟨List.mem_of_getElem? (i := 731) (by decide +kernel), by decide +kernel⟩
theorem gL_law_L_must : GoodIn lw_tbl (va_wsS RL 194 yL_must wsL_must) := goodIn_app (a := [Cond.methodLink RL 194 yL_must, Cond.static yL_must, Cond.initialized RL]) (zgc zm_730 (zgc zm_731 (zgc zm_68 zgn))) zw_wsL_must
theorem zm_1544 : zgo (Cond.code yX10_must cX10_must 4 (some .boolean)) := ⟨List.mem_of_getElem? (i := 1544) (by decide +kernel), by decide +kernel⟩
theorem zw_wsX10_must_r1 : GoodIn lw_tbl wsX10_must_r1 := (zgc zm_1282 (zgc zm_1415 (zgc zm_1403 (zgc zm_1406 (zgc zm_1408 (zgc zm_76 (zgc zm_1410 (zgc zm_1269 (zgc zm_1325 (zgc zm_1326 (zgc zm_73 (zgc zm_1327 (zgc zm_1330 (zgc zm_1332 (zgc zm_41 (zgc zm_1333 (zgc zm_1284 (zgc zm_1397 (zgc zm_1335 (zgc zm_1339 (zgc zm_1341 (zgc zm_1343 (zgc zm_1344 (zgc zm_1345 zgn))))))))))))))))))))))))
theorem zw_wsX10_must_r2 : GoodIn lw_tbl wsX10_must_r2 := (zgc zm_84 (zgc zm_1346 (zgc zm_1347 (zgc zm_1348 (zgc zm_1353 (zgc zm_1349 (zgc zm_114 (zgc zm_115 (zgc zm_1351 (zgc zm_1271 (zgc zm_1272 (zgc zm_1352 (zgc zm_1364 (zgc zm_1368 (zgc zm_1370 (zgc zm_1372 (zgc zm_1350 (zgc zm_1374 (zgc zm_1377 (zgc zm_1379 (zgc zm_1381 (zgc zm_1267 (zgc zm_1382 (zgc zm_1383 zgn))))))))))))))))))))))))
theorem zw_wsX10_must_r3 : GoodIn lw_tbl wsX10_must_r3 := (zgc zm_1384 (zgc zm_1385 (zgc zm_1398 (zgc zm_1399 (zgc zm_1400 (zgc zm_98 (zgc zm_1401 (zgc zm_1564 (zgc zm_1411 (zgc zm_1413 (zgc zm_42 (zgc zm_1414 (zgc zm_1281 (zgc zm_1518 (zgc zm_1521 (zgc zm_1523 (zgc zm_1525 (zgc zm_1526 (zgc zm_1527 (zgc zm_94 (zgc zm_1528 (zgc zm_1529 (zgc zm_1530 (zgc zm_95 zgn))))))))))))))))))))))))
theorem zw_wsX10_must_r4 : GoodIn lw_tbl wsX10_must_r4 := (zgc zm_1531 (zgc zm_1532 (zgc zm_1533 (zgc zm_1534 (zgc zm_1535 (zgc zm_1266 zgn))))))
theorem zw_wsX10_must : GoodIn lw_tbl wsX10_must := (zgc zm_1544 (goodIn_app (goodIn_app (goodIn_app (goodIn_app (goodIn_app (goodIn_app zw_wsX10_must_r1 (goodIn_app zw_wsX10_must_r2 (goodIn_app zw_wsX10_must_r3 zw_wsX10_must_r4))) zw_wsX100) zw_wsX80) zw_wsJx4a65c0) zw_wsJx354110) zw_wsX90))
theorem zm_1541 : zgo (Cond.methodLink RL 197 yX10_must) := ⟨List.mem_of_getElem? (i := 1541) (by decide +kernel), by decide +kernel⟩
theorem zm_1542 : zgo (Cond.instanceMethod yX10_must) := ⟨List.mem_of_getElem? (i := 1542) (by decide +kernel), by decide +kernel⟩
theorem zm_1543 : zgo (Cond.selects RX10 yX10_must yX10_must) := ⟨List.mem_of_getElem? (i := 1543) (by decide +kernel), by decide +kernel⟩
theorem gL_law_X10_must : GoodIn lw_tbl (wsV RL 197 RX10 yX10_must wsX10_must) := goodIn_app (a := [Cond.methodLink RL 197 yX10_must, Cond.instanceMethod yX10_must, Cond.selects RX10 yX10_must yX10_must, Cond.initialized RX10]) (zgc zm_1541 (zgc zm_1542 (zgc zm_1543 (zgc zm_73 zgn)))) zw_wsX10_must
theorem zm_744 : zgo (Cond.codeWith yL_team cL_team 3 (some .int) [(0, 8, 11, 17)]) := ⟨List.mem_of_getElem? (i := 744) (by decide +kernel), by decide +kernel⟩
theorem zm_506 : zgo (Cond.classLink RL 17 "java/lang/IllegalStateException") := ⟨List.mem_of_getElem? (i := 506) (by decide +kernel), by decide +kernel⟩
theorem zm_745 : zgo (Cond.methodLink RL 33 yX6_team) := ⟨List.mem_of_getElem? (i := 745) (by decide +kernel), by decide +kernel⟩
theorem zm_746 : zgo (Cond.instanceMethod yX6_team) := ⟨List.mem_of_getElem? (i := 746) (by decide +kernel), by decide +kernel⟩
theorem zm_747 : zgo (Cond.selects RX6 yX6_team yX6_team) := ⟨List.mem_of_getElem? (i := 747) (by decide +kernel), by decide +kernel⟩
theorem zm_748 : zgo (Cond.code yX6_team cX6_team 1 (some .int)) := ⟨List.mem_of_getElem? (i := 748) (by decide +kernel), by decide +kernel⟩
theorem zm_749 : zgo (Cond.instantiable RX5 5) := ⟨List.mem_of_getElem? (i := 749) (by decide +kernel), by decide +kernel⟩
theorem zm_97 : zgo (Cond.initialized RX5) := ⟨List.mem_of_getElem? (i := 97) (by decide +kernel), by decide +kernel⟩
theorem zm_751 : zgo (Cond.instanceMethod yX5_init) := ⟨List.mem_of_getElem? (i := 751) (by decide +kernel), by decide +kernel⟩
theorem zm_752 : zgo (Cond.code yX5_init cX5_init 1 none) := ⟨List.mem_of_getElem? (i := 752) (by decide +kernel), by decide +kernel⟩
theorem zm_753 : zgo (Cond.methodLink RX5 3 objectInit) := ⟨List.mem_of_getElem? (i := 753) (by decide +kernel), by decide +kernel⟩
theorem zm_754 : zgo (Cond.classLink RX5 9 RX2) := ⟨List.mem_of_getElem? (i := 754) (by decide +kernel), by decide +kernel⟩
theorem zw_wsL_team_r1 : GoodIn lw_tbl wsL_team_r1 := (zgc zm_506 (zgc zm_745 (zgc zm_746 (zgc zm_747 (zgc zm_69 (zgc zm_748 (zgc zm_299 (zgc zm_298 (zgc zm_122 (zgc zm_749 (zgc zm_97 (zgc zm_609 (zgc zm_610 (zgc zm_611 (zgc zm_612 (zgc zm_82 (zgc zm_751 (zgc zm_752 (zgc zm_753 (zgc zm_114 (zgc zm_115 (zgc zm_754 (zgc zm_147 (zgc zm_71 zgn))))))))))))))))))))))))
theorem zm_758 : zgo (Cond.fieldLink RX5 12 "Gangline$Team" "party" "LGangline$Party;") := ⟨List.mem_of_getElem? (i := 758) (by decide +kernel), by decide +kernel⟩
theorem zm_756 : zgo (Cond.classLink RX5 18 RX3) := ⟨List.mem_of_getElem? (i := 756) (by decide +kernel), by decide +kernel⟩
theorem zm_760 : zgo (Cond.fieldLink RX5 21 "Gangline$Team" "plan" "LGangline$Plan;") := ⟨List.mem_of_getElem? (i := 760) (by decide +kernel), by decide +kernel⟩
theorem zm_764 : zgo (Cond.fieldLink RX5 25 "Gangline$Team" "why" "C") := ⟨List.mem_of_getElem? (i := 764) (by decide +kernel), by decide +kernel⟩
theorem zm_755 : zgo (Cond.methodLink RX5 11 yX2_init) := ⟨List.mem_of_getElem? (i := 755) (by decide +kernel), by decide +kernel⟩
theorem zw_wsL_team_r2 : GoodIn lw_tbl wsL_team_r2 := (zgc zm_758 (zgc zm_756 (zgc zm_127 (zgc zm_70 (zgc zm_760 (zgc zm_764 (zgc zm_755 (zgc zm_149 (zgc zm_150 (zgc zm_151 (zgc zm_146 (zgc zm_185 (zgc zm_152 (zgc zm_187 (zgc zm_153 (zgc zm_154 (zgc zm_155 (zgc zm_156 (zgc zm_157 (zgc zm_159 (zgc zm_161 (zgc zm_163 (zgc zm_165 (zgc zm_167 zgn))))))))))))))))))))))))
theorem zw_wsL_team_r3 : GoodIn lw_tbl wsL_team_r3 := (zgc zm_169 (zgc zm_171 (zgc zm_173 (zgc zm_175 (zgc zm_177 (zgc zm_179 (zgc zm_181 (zgc zm_183 (zgc zm_189 (zgc zm_129 (zgc zm_130 (zgc zm_131 (zgc zm_145 (zgc zm_132 (zgc zm_134 zgn)))))))))))))))
theorem zw_wsL_team : GoodIn lw_tbl wsL_team := (zgc zm_744 (goodIn_app (goodIn_app (goodIn_app (goodIn_app (goodIn_app (goodIn_app (goodIn_app zw_wsL_team_r1 (goodIn_app zw_wsL_team_r2 zw_wsL_team_r3)) zw_wsX60) zw_wsX50) zw_wsX20) zw_wsX30) zx_0) zx_3))
theorem zm_742 : zgo (Cond.methodLink RL 198 yL_team) := ⟨List.mem_of_getElem? (i := 742) (by decide +kernel), by decide +kernel⟩
theorem zm_743 : zgo (Cond.static yL_team) := ⟨List.mem_of_getElem? (i := 743) (by decide +kernel), by decide +kernel⟩
theorem gL_law_L_team : GoodIn lw_tbl (va_wsS RL 198 yL_team wsL_team) := goodIn_app (a := [Cond.methodLink RL 198 yL_team, Cond.static yL_team, Cond.initialized RL]) (zgc zm_742 (zgc zm_743 (zgc zm_68 zgn))) zw_wsL_team
theorem zm_1548 : zgo (Cond.code yX10_team cX10_team 1 (some .int)) := ⟨List.mem_of_getElem? (i := 1548) (by decide +kernel), by decide +kernel⟩
theorem zm_1549 : zgo (Cond.instantiable RX9 22) := ⟨List.mem_of_getElem? (i := 1549) (by decide +kernel), by decide +kernel⟩
theorem zm_1550 : zgo (Cond.methodLink RX10 108 yX9_init) := ⟨List.mem_of_getElem? (i := 1550) (by decide +kernel), by decide +kernel⟩
theorem zm_1551 : zgo (Cond.instanceMethod yX9_init) := ⟨List.mem_of_getElem? (i := 1551) (by decide +kernel), by decide +kernel⟩
theorem zm_1552 : zgo (Cond.code yX9_init cX9_init 2 none) := ⟨List.mem_of_getElem? (i := 1552) (by decide +kernel), by decide +kernel⟩
theorem zm_1553 : zgo (Cond.methodLink RX9 3 objectInit) := ⟨List.mem_of_getElem? (i := 1553) (by decide +kernel), by decide +kernel⟩
theorem zm_1554 : zgo (Cond.classLink RX9 9 RJx4a65c) := ⟨List.mem_of_getElem? (i := 1554) (by decide +kernel), by decide +kernel⟩
theorem zw_wsX10_team_r1 : GoodIn lw_tbl wsX10_team_r1 := (zgc zm_1284 (zgc zm_1397 (zgc zm_1549 (zgc zm_98 (zgc zm_1403 (zgc zm_1406 (zgc zm_1408 (zgc zm_76 (zgc zm_1410 (zgc zm_1269 (zgc zm_1411 (zgc zm_1413 (zgc zm_42 (zgc zm_73 (zgc zm_1414 (zgc zm_1281 (zgc zm_1550 (zgc zm_1551 (zgc zm_1552 (zgc zm_1553 (zgc zm_114 (zgc zm_115 (zgc zm_1554 (zgc zm_1253 zgn))))))))))))))))))))))))
theorem zm_1558 : zgo (Cond.fieldLink RX9 12 "GanglineModel$Team" "dogs" "Ljava/util/List;") := ⟨List.mem_of_getElem? (i := 1558) (by decide +kernel), by decide +kernel⟩
theorem zm_1560 : zgo (Cond.fieldLink RX9 18 "GanglineModel$Team" "plan" "Ljava/util/List;") := ⟨List.mem_of_getElem? (i := 1560) (by decide +kernel), by decide +kernel⟩
theorem zm_1562 : zgo (Cond.fieldLink RX9 21 "GanglineModel$Team" "sent" "[I") := ⟨List.mem_of_getElem? (i := 1562) (by decide +kernel), by decide +kernel⟩
theorem zm_1574 : zgo (Cond.fieldLink RX9 29 "GanglineModel$Team" "sleep" "I") := ⟨List.mem_of_getElem? (i := 1574) (by decide +kernel), by decide +kernel⟩
theorem zm_1578 : zgo (Cond.fieldLink RX9 33 "GanglineModel$Team" "parts" "I") := ⟨List.mem_of_getElem? (i := 1578) (by decide +kernel), by decide +kernel⟩
theorem zm_1580 : zgo (Cond.fieldLink RX9 36 "GanglineModel$Team" "boots" "I") := ⟨List.mem_of_getElem? (i := 1580) (by decide +kernel), by decide +kernel⟩
theorem zm_1584 : zgo (Cond.fieldLink RX9 39 "GanglineModel$Team" "exchanges" "I") := ⟨List.mem_of_getElem? (i := 1584) (by decide +kernel), by decide +kernel⟩
theorem zm_1594 : zgo (Cond.fieldLink RX9 42 "GanglineModel$Team" "why" "C") := ⟨List.mem_of_getElem? (i := 1594) (by decide +kernel), by decide +kernel⟩
theorem zm_1556 : zgo (Cond.fieldLink RX9 45 "GanglineModel$Team" "number" "I") := ⟨List.mem_of_getElem? (i := 1556) (by decide +kernel), by decide +kernel⟩
theorem zm_1555 : zgo (Cond.methodLink RX9 11 yJx4a65c_init_da8c8) := ⟨List.mem_of_getElem? (i := 1555) (by decide +kernel), by decide +kernel⟩
theorem zw_wsX10_team_r2 : GoodIn lw_tbl wsX10_team_r2 := (zgc zm_1558 (zgc zm_1560 (zgc zm_146 (zgc zm_1562 (zgc zm_1564 (zgc zm_1574 (zgc zm_1578 (zgc zm_1580 (zgc zm_1584 (zgc zm_1594 (zgc zm_1556 (zgc zm_1555 (zgc zm_1255 (zgc zm_1256 (zgc zm_1264 (zgc zm_1266 (zgc zm_1257 (zgc zm_1258 (zgc zm_75 (zgc zm_1259 (zgc zm_1270 (zgc zm_1260 (zgc zm_1261 (zgc zm_74 zgn))))))))))))))))))))))))
theorem zw_wsX10_team_r3 : GoodIn lw_tbl wsX10_team_r3 := (zgc zm_1262 (zgc zm_1263 (zgc zm_1442 (zgc zm_1445 (zgc zm_1447 (zgc zm_1449 (zgc zm_1273 (zgc zm_1272 (zgc zm_1450 (zgc zm_1452 (zgc zm_43 (zgc zm_1453 (zgc zm_1454 (zgc zm_1456 (zgc zm_44 (zgc zm_1457 (zgc zm_1458 (zgc zm_1460 (zgc zm_45 (zgc zm_1461 (zgc zm_1509 (zgc zm_409 (zgc zm_88 (zgc zm_410 zgn))))))))))))))))))))))))
theorem zw_wsX10_team_r4 : GoodIn lw_tbl wsX10_team_r4 := (zgc zm_1510 (zgc zm_1462 (zgc zm_1463 (zgc zm_87 (zgc zm_1464 (zgc zm_1465 (zgc zm_1466 (zgc zm_1467 (zgc zm_1468 (zgc zm_1469 (zgc zm_1470 (zgc zm_1471 (zgc zm_89 (zgc zm_1472 (zgc zm_1473 (zgc zm_2495 (zgc zm_1474 (zgc zm_1498 (zgc zm_1499 (zgc zm_1500 (zgc zm_1501 (zgc zm_1502 (zgc zm_1504 (zgc zm_1505 zgn))))))))))))))))))))))))
theorem zw_wsX10_team_r5 : GoodIn lw_tbl wsX10_team_r5 := (zgc zm_463 (zgc zm_464 (zgc zm_1506 (zgc zm_1508 (zgc zm_1507 (zgc zm_90 zgn))))))
theorem zw_wsX10_team : GoodIn lw_tbl wsX10_team := (zgc zm_1548 (goodIn_app (goodIn_app (goodIn_app (goodIn_app zw_wsX10_team_r1 (goodIn_app zw_wsX10_team_r2 (goodIn_app zw_wsX10_team_r3 (goodIn_app zw_wsX10_team_r4 zw_wsX10_team_r5)))) zw_wsX100) zw_wsX90) zw_wsJx4a65c0))
theorem zm_1545 : zgo (Cond.methodLink RL 201 yX10_team) := ⟨List.mem_of_getElem? (i := 1545) (by decide +kernel), by decide +kernel⟩
theorem zm_1546 : zgo (Cond.instanceMethod yX10_team) := ⟨List.mem_of_getElem? (i := 1546) (by decide +kernel), by decide +kernel⟩
theorem zm_1547 : zgo (Cond.selects RX10 yX10_team yX10_team) := ⟨List.mem_of_getElem? (i := 1547) (by decide +kernel), by decide +kernel⟩
theorem gL_law_X10_team : GoodIn lw_tbl (wsV RL 201 RX10 yX10_team wsX10_team) := goodIn_app (a := [Cond.methodLink RL 201 yX10_team, Cond.instanceMethod yX10_team, Cond.selects RX10 yX10_team yX10_team, Cond.initialized RX10]) (zgc zm_1545 (zgc zm_1546 (zgc zm_1547 (zgc zm_73 zgn)))) zw_wsX10_team
theorem zm_779 : zgo (Cond.codeWith yL_dog cL_dog 6 (some .int) [(0, 12, 15, 23), (0, 12, 19, 13), (0, 12, 23, 17)]) := ⟨List.mem_of_getElem? (i := 779) (by decide +kernel), by decide +kernel⟩
theorem zm_780 : zgo (Cond.methodLink RL 37 yX6_dog) := ⟨List.mem_of_getElem? (i := 780) (by decide +kernel), by decide +kernel⟩
theorem zm_781 : zgo (Cond.instanceMethod yX6_dog) := ⟨List.mem_of_getElem? (i := 781) (by decide +kernel), by decide +kernel⟩
theorem zm_782 : zgo (Cond.selects RX6 yX6_dog yX6_dog) := ⟨List.mem_of_getElem? (i := 782) (by decide +kernel), by decide +kernel⟩
theorem zm_783 : zgo (Cond.code yX6_dog cX6_dog 4 (some .int)) := ⟨List.mem_of_getElem? (i := 783) (by decide +kernel), by decide +kernel⟩
theorem zm_297 : zgo (Cond.fieldLink RX6 102 "Gangline" "dogCount" "I") := ⟨List.mem_of_getElem? (i := 297) (by decide +kernel), by decide +kernel⟩
theorem zm_784 : zgo (Cond.methodLink RX6 99 yX6_needTeam) := ⟨List.mem_of_getElem? (i := 784) (by decide +kernel), by decide +kernel⟩
theorem zm_786 : zgo (Cond.instanceMethod yX6_needTeam) := ⟨List.mem_of_getElem? (i := 786) (by decide +kernel), by decide +kernel⟩
theorem zm_24 : zgo (Cond.selects RX6 yX6_needTeam yX6_needTeam) := ⟨List.mem_of_getElem? (i := 24) (by decide +kernel), by decide +kernel⟩
theorem zm_787 : zgo (Cond.code yX6_needTeam cX6_needTeam 2 none) := ⟨List.mem_of_getElem? (i := 787) (by decide +kernel), by decide +kernel⟩
theorem zw_wsL_dog_r1 : GoodIn lw_tbl wsL_dog_r1 := (zgc zm_656 (zgc zm_780 (zgc zm_781 (zgc zm_782 (zgc zm_69 (zgc zm_783 (zgc zm_297 (zgc zm_120 (zgc zm_226 (zgc zm_72 (zgc zm_784 (zgc zm_786 (zgc zm_24 (zgc zm_787 (zgc zm_688 (zgc zm_91 (zgc zm_299 (zgc zm_511 (zgc zm_512 (zgc zm_513 (zgc zm_514 (zgc zm_80 (zgc zm_609 (zgc zm_610 zgn))))))))))))))))))))))))
theorem zm_789 : zgo (Cond.methodLink RX6 105 yX6_addDog) := ⟨List.mem_of_getElem? (i := 789) (by decide +kernel), by decide +kernel⟩
theorem zm_791 : zgo (Cond.instanceMethod yX6_addDog) := ⟨List.mem_of_getElem? (i := 791) (by decide +kernel), by decide +kernel⟩
theorem zm_25 : zgo (Cond.selects RX6 yX6_addDog yX6_addDog) := ⟨List.mem_of_getElem? (i := 25) (by decide +kernel), by decide +kernel⟩
theorem zw_wsL_dog_r2 : GoodIn lw_tbl wsL_dog_r2 := (zgc zm_611 (zgc zm_612 (zgc zm_82 (zgc zm_227 (zgc zm_228 (zgc zm_229 (zgc zm_230 (zgc zm_114 (zgc zm_115 (zgc zm_242 (zgc zm_244 (zgc zm_246 (zgc zm_249 (zgc zm_252 (zgc zm_255 (zgc zm_260 (zgc zm_231 (zgc zm_233 (zgc zm_235 (zgc zm_237 (zgc zm_240 (zgc zm_789 (zgc zm_791 (zgc zm_25 zgn))))))))))))))))))))))))
theorem zm_792 : zgo (Cond.code yX6_addDog cX6_addDog 3 (some .int)) := ⟨List.mem_of_getElem? (i := 792) (by decide +kernel), by decide +kernel⟩
theorem zw_wsL_dog_r3 : GoodIn lw_tbl wsL_dog_r3 := (zgc zm_792 (zgc zm_296 zgn))
theorem zw_wsL_dog : GoodIn lw_tbl wsL_dog := (zgc zm_779 (goodIn_app (goodIn_app (goodIn_app (goodIn_app (goodIn_app (goodIn_app (goodIn_app zw_wsL_dog_r1 (goodIn_app zw_wsL_dog_r2 zw_wsL_dog_r3)) zw_wsX60) zw_wsX00) zx_0) zx_4) zx_1) zx_3))
theorem zm_777 : zgo (Cond.methodLink RL 202 yL_dog) := ⟨List.mem_of_getElem? (i := 777) (by decide +kernel), by decide +kernel⟩
theorem zm_778 : zgo (Cond.static yL_dog) := ⟨List.mem_of_getElem? (i := 778) (by decide +kernel), by decide +kernel⟩
theorem gL_law_L_dog : GoodIn lw_tbl (va_wsS RL 202 yL_dog wsL_dog) := goodIn_app (a := [Cond.methodLink RL 202 yL_dog, Cond.static yL_dog, Cond.initialized RL]) (zgc zm_777 (zgc zm_778 (zgc zm_68 zgn))) zw_wsL_dog
theorem zm_1646 : zgo (Cond.code yX10_dog cX10_dog 5 (some .int)) := ⟨List.mem_of_getElem? (i := 1646) (by decide +kernel), by decide +kernel⟩
theorem zm_1651 : zgo (Cond.classLink RX10 114 RX7) := ⟨List.mem_of_getElem? (i := 1651) (by decide +kernel), by decide +kernel⟩
theorem zm_1652 : zgo (Cond.instantiable RX7 17) := ⟨List.mem_of_getElem? (i := 1652) (by decide +kernel), by decide +kernel⟩
theorem zm_99 : zgo (Cond.initialized RX7) := ⟨List.mem_of_getElem? (i := 99) (by decide +kernel), by decide +kernel⟩
theorem zm_1647 : zgo (Cond.methodLink RX10 111 yX10_isTeam) := ⟨List.mem_of_getElem? (i := 1647) (by decide +kernel), by decide +kernel⟩
theorem zm_1649 : zgo (Cond.instanceMethod yX10_isTeam) := ⟨List.mem_of_getElem? (i := 1649) (by decide +kernel), by decide +kernel⟩
theorem zm_46 : zgo (Cond.selects RX10 yX10_isTeam yX10_isTeam) := ⟨List.mem_of_getElem? (i := 46) (by decide +kernel), by decide +kernel⟩
theorem zm_1650 : zgo (Cond.code yX10_isTeam cX10_isTeam 2 (some .boolean)) := ⟨List.mem_of_getElem? (i := 1650) (by decide +kernel), by decide +kernel⟩
theorem zw_wsX10_dog_r1 : GoodIn lw_tbl wsX10_dog_r1 := (zgc zm_1328 (zgc zm_1285 (zgc zm_1651 (zgc zm_1652 (zgc zm_99 (zgc zm_1325 (zgc zm_1326 (zgc zm_73 (zgc zm_1327 (zgc zm_1647 (zgc zm_1649 (zgc zm_46 (zgc zm_1650 (zgc zm_1284 (zgc zm_1403 (zgc zm_1406 (zgc zm_1408 (zgc zm_76 (zgc zm_1410 (zgc zm_1269 (zgc zm_1411 (zgc zm_1413 (zgc zm_42 (zgc zm_1414 zgn))))))))))))))))))))))))
theorem zm_1653 : zgo (Cond.methodLink RX10 116 yX7_init) := ⟨List.mem_of_getElem? (i := 1653) (by decide +kernel), by decide +kernel⟩
theorem zm_1654 : zgo (Cond.instanceMethod yX7_init) := ⟨List.mem_of_getElem? (i := 1654) (by decide +kernel), by decide +kernel⟩
theorem zm_1655 : zgo (Cond.code yX7_init cX7_init 8 none) := ⟨List.mem_of_getElem? (i := 1655) (by decide +kernel), by decide +kernel⟩
theorem zm_1656 : zgo (Cond.methodLink RX7 3 objectInit) := ⟨List.mem_of_getElem? (i := 1656) (by decide +kernel), by decide +kernel⟩
theorem zm_1674 : zgo (Cond.fieldLink RX7 9 "GanglineModel$Dog" "feet" "I") := ⟨List.mem_of_getElem? (i := 1674) (by decide +kernel), by decide +kernel⟩
theorem zm_1676 : zgo (Cond.fieldLink RX7 15 "GanglineModel$Dog" "food" "I") := ⟨List.mem_of_getElem? (i := 1676) (by decide +kernel), by decide +kernel⟩
theorem zm_1678 : zgo (Cond.fieldLink RX7 18 "GanglineModel$Dog" "water" "I") := ⟨List.mem_of_getElem? (i := 1678) (by decide +kernel), by decide +kernel⟩
theorem zm_1680 : zgo (Cond.fieldLink RX7 21 "GanglineModel$Dog" "trust" "I") := ⟨List.mem_of_getElem? (i := 1680) (by decide +kernel), by decide +kernel⟩
theorem zm_1683 : zgo (Cond.fieldLink RX7 24 "GanglineModel$Dog" "litterIn" "I") := ⟨List.mem_of_getElem? (i := 1683) (by decide +kernel), by decide +kernel⟩
theorem zm_1685 : zgo (Cond.fieldLink RX7 27 "GanglineModel$Dog" "state" "C") := ⟨List.mem_of_getElem? (i := 1685) (by decide +kernel), by decide +kernel⟩
theorem zm_1657 : zgo (Cond.fieldLink RX7 31 "GanglineModel$Dog" "number" "I") := ⟨List.mem_of_getElem? (i := 1657) (by decide +kernel), by decide +kernel⟩
theorem zm_1659 : zgo (Cond.fieldLink RX7 34 "GanglineModel$Dog" "kennel" "I") := ⟨List.mem_of_getElem? (i := 1659) (by decide +kernel), by decide +kernel⟩
theorem zm_1661 : zgo (Cond.fieldLink RX7 37 "GanglineModel$Dog" "lead" "I") := ⟨List.mem_of_getElem? (i := 1661) (by decide +kernel), by decide +kernel⟩
theorem zm_1664 : zgo (Cond.fieldLink RX7 40 "GanglineModel$Dog" "mother" "I") := ⟨List.mem_of_getElem? (i := 1664) (by decide +kernel), by decide +kernel⟩
theorem zm_1666 : zgo (Cond.fieldLink RX7 43 "GanglineModel$Dog" "father" "I") := ⟨List.mem_of_getElem? (i := 1666) (by decide +kernel), by decide +kernel⟩
theorem zm_1670 : zgo (Cond.fieldLink RX7 46 "GanglineModel$Dog" "strength" "I") := ⟨List.mem_of_getElem? (i := 1670) (by decide +kernel), by decide +kernel⟩
theorem zm_1672 : zgo (Cond.fieldLink RX7 49 "GanglineModel$Dog" "age" "I") := ⟨List.mem_of_getElem? (i := 1672) (by decide +kernel), by decide +kernel⟩
theorem zm_1668 : zgo (Cond.fieldLink RX7 52 "GanglineModel$Dog" "holder" "I") := ⟨List.mem_of_getElem? (i := 1668) (by decide +kernel), by decide +kernel⟩
theorem zw_wsX10_dog_r2 : GoodIn lw_tbl wsX10_dog_r2 := (zgc zm_1281 (zgc zm_1653 (zgc zm_1654 (zgc zm_1655 (zgc zm_1656 (zgc zm_114 (zgc zm_115 (zgc zm_1674 (zgc zm_1676 (zgc zm_1678 (zgc zm_1680 (zgc zm_1683 (zgc zm_1685 (zgc zm_1657 (zgc zm_1659 (zgc zm_1661 (zgc zm_1664 (zgc zm_1666 (zgc zm_1670 (zgc zm_1672 (zgc zm_1668 (zgc zm_1442 (zgc zm_1445 (zgc zm_1447 zgn))))))))))))))))))))))))
theorem zw_wsX10_dog_r3 : GoodIn lw_tbl wsX10_dog_r3 := (zgc zm_1449 (zgc zm_1273 (zgc zm_1272 (zgc zm_1266 (zgc zm_1450 (zgc zm_1452 (zgc zm_43 (zgc zm_1453 (zgc zm_1454 (zgc zm_1456 (zgc zm_44 (zgc zm_1457 (zgc zm_1458 (zgc zm_1460 (zgc zm_45 (zgc zm_1461 (zgc zm_1264 (zgc zm_1509 (zgc zm_409 (zgc zm_88 (zgc zm_410 (zgc zm_1510 (zgc zm_1462 (zgc zm_1463 zgn))))))))))))))))))))))))
theorem zw_wsX10_dog_r4 : GoodIn lw_tbl wsX10_dog_r4 := (zgc zm_87 (zgc zm_1464 (zgc zm_1465 (zgc zm_1466 (zgc zm_1467 (zgc zm_1468 (zgc zm_1469 (zgc zm_1470 (zgc zm_1471 (zgc zm_89 (zgc zm_1472 (zgc zm_1473 (zgc zm_2495 (zgc zm_1474 (zgc zm_1498 (zgc zm_1499 (zgc zm_1500 (zgc zm_1501 (zgc zm_1502 (zgc zm_1504 (zgc zm_1505 (zgc zm_463 (zgc zm_464 (zgc zm_1506 zgn))))))))))))))))))))))))
theorem zw_wsX10_dog_r5 : GoodIn lw_tbl wsX10_dog_r5 := (zgc zm_1508 (zgc zm_1507 (zgc zm_90 zgn)))
theorem zw_wsX10_dog : GoodIn lw_tbl wsX10_dog := (zgc zm_1646 (goodIn_app (goodIn_app (goodIn_app (goodIn_app zw_wsX10_dog_r1 (goodIn_app zw_wsX10_dog_r2 (goodIn_app zw_wsX10_dog_r3 (goodIn_app zw_wsX10_dog_r4 zw_wsX10_dog_r5)))) zw_wsX100) zw_wsX70) zw_wsJx4a65c0))
theorem zm_1643 : zgo (Cond.methodLink RL 204 yX10_dog) := ⟨List.mem_of_getElem? (i := 1643) (by decide +kernel), by decide +kernel⟩
theorem zm_1644 : zgo (Cond.instanceMethod yX10_dog) := ⟨List.mem_of_getElem? (i := 1644) (by decide +kernel), by decide +kernel⟩
theorem zm_1645 : zgo (Cond.selects RX10 yX10_dog yX10_dog) := ⟨List.mem_of_getElem? (i := 1645) (by decide +kernel), by decide +kernel⟩
theorem gL_law_X10_dog : GoodIn lw_tbl (wsV RL 204 RX10 yX10_dog wsX10_dog) := goodIn_app (a := [Cond.methodLink RL 204 yX10_dog, Cond.instanceMethod yX10_dog, Cond.selects RX10 yX10_dog yX10_dog, Cond.initialized RX10]) (zgc zm_1643 (zgc zm_1644 (zgc zm_1645 (zgc zm_73 zgn)))) zw_wsX10_dog
theorem zm_795 : zgo (Cond.codeWith yL_lease cL_lease 5 (some .int) [(0, 10, 13, 23), (0, 10, 17, 15)]) := ⟨List.mem_of_getElem? (i := 795) (by decide +kernel), by decide +kernel⟩
theorem zm_796 : zgo (Cond.methodLink RL 40 yX6_lease) := ⟨List.mem_of_getElem? (i := 796) (by decide +kernel), by decide +kernel⟩
theorem zm_797 : zgo (Cond.instanceMethod yX6_lease) := ⟨List.mem_of_getElem? (i := 797) (by decide +kernel), by decide +kernel⟩
theorem zm_798 : zgo (Cond.selects RX6 yX6_lease yX6_lease) := ⟨List.mem_of_getElem? (i := 798) (by decide +kernel), by decide +kernel⟩
theorem zm_799 : zgo (Cond.code yX6_lease cX6_lease 5 (some .int)) := ⟨List.mem_of_getElem? (i := 799) (by decide +kernel), by decide +kernel⟩
theorem zm_262 : zgo (Cond.fieldLink RX6 116 "Gangline$Dog" "state" "C") := ⟨List.mem_of_getElem? (i := 262) (by decide +kernel), by decide +kernel⟩
theorem zm_234 : zgo (Cond.fieldLink RX6 124 "Gangline$Dog" "team" "I") := ⟨List.mem_of_getElem? (i := 234) (by decide +kernel), by decide +kernel⟩
theorem zm_800 : zgo (Cond.methodLink RX6 109 yX6_needDog) := ⟨List.mem_of_getElem? (i := 800) (by decide +kernel), by decide +kernel⟩
theorem zm_802 : zgo (Cond.instanceMethod yX6_needDog) := ⟨List.mem_of_getElem? (i := 802) (by decide +kernel), by decide +kernel⟩
theorem zm_26 : zgo (Cond.selects RX6 yX6_needDog yX6_needDog) := ⟨List.mem_of_getElem? (i := 26) (by decide +kernel), by decide +kernel⟩
theorem zm_803 : zgo (Cond.code yX6_needDog cX6_needDog 2 none) := ⟨List.mem_of_getElem? (i := 803) (by decide +kernel), by decide +kernel⟩
theorem zm_805 : zgo (Cond.methodLink RX6 112 yX0_isBusy) := ⟨List.mem_of_getElem? (i := 805) (by decide +kernel), by decide +kernel⟩
theorem zm_806 : zgo (Cond.instanceMethod yX0_isBusy) := ⟨List.mem_of_getElem? (i := 806) (by decide +kernel), by decide +kernel⟩
theorem zm_807 : zgo (Cond.selects RX0 yX0_isBusy yX0_isBusy) := ⟨List.mem_of_getElem? (i := 807) (by decide +kernel), by decide +kernel⟩
theorem zw_wsL_lease_r1 : GoodIn lw_tbl wsL_lease_r1 := (zgc zm_656 (zgc zm_796 (zgc zm_797 (zgc zm_798 (zgc zm_69 (zgc zm_799 (zgc zm_296 (zgc zm_262 (zgc zm_234 (zgc zm_800 (zgc zm_802 (zgc zm_26 (zgc zm_803 (zgc zm_688 (zgc zm_91 (zgc zm_297 (zgc zm_784 (zgc zm_786 (zgc zm_24 (zgc zm_787 (zgc zm_299 (zgc zm_805 (zgc zm_806 (zgc zm_807 zgn))))))))))))))))))))))))
theorem zm_808 : zgo (Cond.code yX0_isBusy cX0_isBusy 1 (some .boolean)) := ⟨List.mem_of_getElem? (i := 808) (by decide +kernel), by decide +kernel⟩
theorem zm_809 : zgo (Cond.methodLink RX0 49 yX0_isOut) := ⟨List.mem_of_getElem? (i := 809) (by decide +kernel), by decide +kernel⟩
theorem zm_810 : zgo (Cond.instanceMethod yX0_isOut) := ⟨List.mem_of_getElem? (i := 810) (by decide +kernel), by decide +kernel⟩
theorem zm_811 : zgo (Cond.selects RX0 yX0_isOut yX0_isOut) := ⟨List.mem_of_getElem? (i := 811) (by decide +kernel), by decide +kernel⟩
theorem zm_812 : zgo (Cond.code yX0_isOut cX0_isOut 1 (some .boolean)) := ⟨List.mem_of_getElem? (i := 812) (by decide +kernel), by decide +kernel⟩
theorem zw_wsL_lease_r2 : GoodIn lw_tbl wsL_lease_r2 := (zgc zm_72 (zgc zm_808 (zgc zm_260 (zgc zm_809 (zgc zm_810 (zgc zm_811 (zgc zm_812 (zgc zm_590 (zgc zm_591 (zgc zm_592 (zgc zm_593 (zgc zm_81 zgn))))))))))))
theorem zw_wsL_lease : GoodIn lw_tbl wsL_lease := (zgc zm_795 (goodIn_app (goodIn_app (goodIn_app (goodIn_app (goodIn_app (goodIn_app zw_wsL_lease_r1 zw_wsL_lease_r2) zw_wsX60) zw_wsX00) zx_0) zx_4) zx_2))
theorem zm_793 : zgo (Cond.methodLink RL 205 yL_lease) := ⟨List.mem_of_getElem? (i := 793) (by decide +kernel), by decide +kernel⟩
theorem zm_794 : zgo (Cond.static yL_lease) := ⟨List.mem_of_getElem? (i := 794) (by decide +kernel), by decide +kernel⟩
theorem gL_law_L_lease : GoodIn lw_tbl (va_wsS RL 205 yL_lease wsL_lease) := goodIn_app (a := [Cond.methodLink RL 205 yL_lease, Cond.static yL_lease, Cond.initialized RL]) (zgc zm_793 (zgc zm_794 (zgc zm_68 zgn))) zw_wsL_lease
theorem zm_1729 : zgo (Cond.code yX10_lease cX10_lease 7 (some .int)) := ⟨List.mem_of_getElem? (i := 1729) (by decide +kernel), by decide +kernel⟩
theorem zm_1730 : zgo (Cond.methodLink RX10 119 yX10_isDog) := ⟨List.mem_of_getElem? (i := 1730) (by decide +kernel), by decide +kernel⟩
theorem zm_1732 : zgo (Cond.instanceMethod yX10_isDog) := ⟨List.mem_of_getElem? (i := 1732) (by decide +kernel), by decide +kernel⟩
theorem zm_47 : zgo (Cond.selects RX10 yX10_isDog yX10_isDog) := ⟨List.mem_of_getElem? (i := 47) (by decide +kernel), by decide +kernel⟩
theorem zm_1733 : zgo (Cond.code yX10_isDog cX10_isDog 2 (some .boolean)) := ⟨List.mem_of_getElem? (i := 1733) (by decide +kernel), by decide +kernel⟩
theorem zw_wsX10_lease_r1 : GoodIn lw_tbl wsX10_lease_r1 := (zgc zm_1285 (zgc zm_1651 (zgc zm_1730 (zgc zm_1732 (zgc zm_47 (zgc zm_73 (zgc zm_1733 (zgc zm_1403 (zgc zm_1406 (zgc zm_1408 (zgc zm_76 (zgc zm_1410 (zgc zm_1269 (zgc zm_1325 (zgc zm_1326 (zgc zm_1327 (zgc zm_1647 (zgc zm_1649 (zgc zm_46 (zgc zm_1650 (zgc zm_1284 (zgc zm_1518 (zgc zm_1521 (zgc zm_1523 zgn))))))))))))))))))))))))
theorem zw_wsX10_lease_r2 : GoodIn lw_tbl wsX10_lease_r2 := (zgc zm_1525 (zgc zm_1526 (zgc zm_1527 (zgc zm_94 (zgc zm_1528 (zgc zm_1529 (zgc zm_1530 (zgc zm_95 (zgc zm_1531 (zgc zm_1532 (zgc zm_1533 (zgc zm_1534 (zgc zm_1535 (zgc zm_1266 (zgc zm_1411 (zgc zm_1413 (zgc zm_42 (zgc zm_1414 (zgc zm_1281 zgn)))))))))))))))))))
theorem zw_wsX10_lease : GoodIn lw_tbl wsX10_lease := (zgc zm_1729 (goodIn_app (goodIn_app (goodIn_app (goodIn_app zw_wsX10_lease_r1 zw_wsX10_lease_r2) zw_wsX100) zw_wsX70) zw_wsJx4a65c0))
theorem zm_1726 : zgo (Cond.methodLink RL 207 yX10_lease) := ⟨List.mem_of_getElem? (i := 1726) (by decide +kernel), by decide +kernel⟩
theorem zm_1727 : zgo (Cond.instanceMethod yX10_lease) := ⟨List.mem_of_getElem? (i := 1727) (by decide +kernel), by decide +kernel⟩
theorem zm_1728 : zgo (Cond.selects RX10 yX10_lease yX10_lease) := ⟨List.mem_of_getElem? (i := 1728) (by decide +kernel), by decide +kernel⟩
theorem gL_law_X10_lease : GoodIn lw_tbl (wsV RL 207 RX10 yX10_lease wsX10_lease) := goodIn_app (a := [Cond.methodLink RL 207 yX10_lease, Cond.instanceMethod yX10_lease, Cond.selects RX10 yX10_lease yX10_lease, Cond.initialized RX10]) (zgc zm_1726 (zgc zm_1727 (zgc zm_1728 (zgc zm_73 zgn)))) zw_wsX10_lease
theorem zm_815 : zgo (Cond.codeWith yL_hitch cL_hitch 5 (some .int) [(0, 10, 13, 23), (0, 10, 17, 15), (0, 10, 21, 17)]) := ⟨List.mem_of_getElem? (i := 815) (by decide +kernel), by decide +kernel⟩
theorem zm_816 : zgo (Cond.methodLink RL 43 yX6_hitch) := ⟨List.mem_of_getElem? (i := 816) (by decide +kernel), by decide +kernel⟩
theorem zm_817 : zgo (Cond.instanceMethod yX6_hitch) := ⟨List.mem_of_getElem? (i := 817) (by decide +kernel), by decide +kernel⟩
theorem zm_818 : zgo (Cond.selects RX6 yX6_hitch yX6_hitch) := ⟨List.mem_of_getElem? (i := 818) (by decide +kernel), by decide +kernel⟩
theorem zm_819 : zgo (Cond.code yX6_hitch cX6_hitch 5 (some .int)) := ⟨List.mem_of_getElem? (i := 819) (by decide +kernel), by decide +kernel⟩
theorem zm_241 : zgo (Cond.fieldLink RX6 134 "Gangline$Dog" "age" "I") := ⟨List.mem_of_getElem? (i := 241) (by decide +kernel), by decide +kernel⟩
theorem zm_190 : zgo (Cond.fieldLink RX6 137 "Gangline$Party" "count" "I") := ⟨List.mem_of_getElem? (i := 190) (by decide +kernel), by decide +kernel⟩
theorem zw_wsL_hitch_r1 : GoodIn lw_tbl wsL_hitch_r1 := (zgc zm_656 (zgc zm_816 (zgc zm_817 (zgc zm_818 (zgc zm_69 (zgc zm_819 (zgc zm_298 (zgc zm_759 (zgc zm_296 (zgc zm_158 (zgc zm_234 (zgc zm_241 (zgc zm_262 (zgc zm_190 (zgc zm_784 (zgc zm_786 (zgc zm_24 (zgc zm_787 (zgc zm_688 (zgc zm_91 (zgc zm_299 (zgc zm_800 (zgc zm_802 (zgc zm_26 zgn))))))))))))))))))))))))
theorem zm_820 : zgo (Cond.methodLink RX6 140 yX2_enlist) := ⟨List.mem_of_getElem? (i := 820) (by decide +kernel), by decide +kernel⟩
theorem zm_821 : zgo (Cond.instanceMethod yX2_enlist) := ⟨List.mem_of_getElem? (i := 821) (by decide +kernel), by decide +kernel⟩
theorem zm_822 : zgo (Cond.selects RX2 yX2_enlist yX2_enlist) := ⟨List.mem_of_getElem? (i := 822) (by decide +kernel), by decide +kernel⟩
theorem zm_823 : zgo (Cond.code yX2_enlist cX2_enlist 2 none) := ⟨List.mem_of_getElem? (i := 823) (by decide +kernel), by decide +kernel⟩
theorem zw_wsL_hitch_r2 : GoodIn lw_tbl wsL_hitch_r2 := (zgc zm_803 (zgc zm_297 (zgc zm_590 (zgc zm_591 (zgc zm_592 (zgc zm_593 (zgc zm_81 (zgc zm_609 (zgc zm_610 (zgc zm_611 (zgc zm_612 (zgc zm_82 (zgc zm_820 (zgc zm_821 (zgc zm_822 (zgc zm_71 (zgc zm_823 (zgc zm_189 (zgc zm_187 zgn)))))))))))))))))))
theorem zw_wsL_hitch : GoodIn lw_tbl wsL_hitch := (zgc zm_815 (goodIn_app (goodIn_app (goodIn_app (goodIn_app (goodIn_app (goodIn_app (goodIn_app (goodIn_app (goodIn_app zw_wsL_hitch_r1 zw_wsL_hitch_r2) zw_wsX60) zw_wsX50) zw_wsX20) zw_wsX00) zx_0) zx_4) zx_2) zx_3))
theorem zm_813 : zgo (Cond.methodLink RL 208 yL_hitch) := ⟨List.mem_of_getElem? (i := 813) (by decide +kernel), by decide +kernel⟩
theorem zm_814 : zgo (Cond.static yL_hitch) := ⟨List.mem_of_getElem? (i := 814) (by decide +kernel), by decide +kernel⟩
theorem gL_law_L_hitch : GoodIn lw_tbl (va_wsS RL 208 yL_hitch wsL_hitch) := goodIn_app (a := [Cond.methodLink RL 208 yL_hitch, Cond.static yL_hitch, Cond.initialized RL]) (zgc zm_813 (zgc zm_814 (zgc zm_68 zgn))) zw_wsL_hitch
theorem zm_1737 : zgo (Cond.code yX10_hitch cX10_hitch 6 (some .int)) := ⟨List.mem_of_getElem? (i := 1737) (by decide +kernel), by decide +kernel⟩
theorem zw_wsX10_hitch_r1 : GoodIn lw_tbl wsX10_hitch_r1 := (zgc zm_1285 (zgc zm_1651 (zgc zm_1284 (zgc zm_1397 (zgc zm_1647 (zgc zm_1649 (zgc zm_46 (zgc zm_73 (zgc zm_1650 (zgc zm_1403 (zgc zm_1406 (zgc zm_1408 (zgc zm_76 (zgc zm_1410 (zgc zm_1269 (zgc zm_1325 (zgc zm_1326 (zgc zm_1327 (zgc zm_1730 (zgc zm_1732 (zgc zm_47 (zgc zm_1733 (zgc zm_1518 (zgc zm_1521 zgn))))))))))))))))))))))))
theorem zw_wsX10_hitch_r2 : GoodIn lw_tbl wsX10_hitch_r2 := (zgc zm_1523 (zgc zm_1525 (zgc zm_1526 (zgc zm_1527 (zgc zm_94 (zgc zm_1528 (zgc zm_1529 (zgc zm_1530 (zgc zm_95 (zgc zm_1531 (zgc zm_1532 (zgc zm_1533 (zgc zm_1534 (zgc zm_1535 (zgc zm_1266 (zgc zm_1411 (zgc zm_1413 (zgc zm_42 (zgc zm_1414 (zgc zm_1281 (zgc zm_1442 (zgc zm_1445 (zgc zm_1447 (zgc zm_1449 zgn))))))))))))))))))))))))
theorem zw_wsX10_hitch_r3 : GoodIn lw_tbl wsX10_hitch_r3 := (zgc zm_1273 (zgc zm_1272 (zgc zm_1450 (zgc zm_1452 (zgc zm_43 (zgc zm_1453 (zgc zm_1454 (zgc zm_1456 (zgc zm_44 (zgc zm_1457 (zgc zm_1458 (zgc zm_1460 (zgc zm_45 (zgc zm_1461 (zgc zm_1264 (zgc zm_1509 (zgc zm_409 (zgc zm_88 (zgc zm_410 (zgc zm_1510 (zgc zm_1462 (zgc zm_1463 (zgc zm_87 (zgc zm_1464 zgn))))))))))))))))))))))))
theorem zw_wsX10_hitch_r4 : GoodIn lw_tbl wsX10_hitch_r4 := (zgc zm_1465 (zgc zm_1466 (zgc zm_1467 (zgc zm_1468 (zgc zm_1469 (zgc zm_1470 (zgc zm_1471 (zgc zm_89 (zgc zm_1472 (zgc zm_1473 (zgc zm_2495 (zgc zm_1474 (zgc zm_1498 (zgc zm_1499 (zgc zm_1500 (zgc zm_1501 (zgc zm_1502 (zgc zm_1504 (zgc zm_1505 (zgc zm_463 (zgc zm_464 (zgc zm_1506 (zgc zm_1508 (zgc zm_1507 zgn))))))))))))))))))))))))
theorem zw_wsX10_hitch_r5 : GoodIn lw_tbl wsX10_hitch_r5 := (zgc zm_90 zgn)
theorem zw_wsX10_hitch : GoodIn lw_tbl wsX10_hitch := (zgc zm_1737 (goodIn_app (goodIn_app (goodIn_app (goodIn_app (goodIn_app zw_wsX10_hitch_r1 (goodIn_app zw_wsX10_hitch_r2 (goodIn_app zw_wsX10_hitch_r3 (goodIn_app zw_wsX10_hitch_r4 zw_wsX10_hitch_r5)))) zw_wsX100) zw_wsX90) zw_wsX70) zw_wsJx4a65c0))
theorem zm_1734 : zgo (Cond.methodLink RL 210 yX10_hitch) := ⟨List.mem_of_getElem? (i := 1734) (by decide +kernel), by decide +kernel⟩
theorem zm_1735 : zgo (Cond.instanceMethod yX10_hitch) := ⟨List.mem_of_getElem? (i := 1735) (by decide +kernel), by decide +kernel⟩
theorem zm_1736 : zgo (Cond.selects RX10 yX10_hitch yX10_hitch) := ⟨List.mem_of_getElem? (i := 1736) (by decide +kernel), by decide +kernel⟩
theorem gL_law_X10_hitch : GoodIn lw_tbl (wsV RL 210 RX10 yX10_hitch wsX10_hitch) := goodIn_app (a := [Cond.methodLink RL 210 yX10_hitch, Cond.instanceMethod yX10_hitch, Cond.selects RX10 yX10_hitch yX10_hitch, Cond.initialized RX10]) (zgc zm_1734 (zgc zm_1735 (zgc zm_1736 (zgc zm_73 zgn)))) zw_wsX10_hitch
theorem zm_826 : zgo (Cond.codeWith yL_send cL_send 6 (some .int) [(0, 12, 15, 23), (0, 12, 19, 13), (0, 12, 23, 15), (0, 12, 27, 17)]) := ⟨List.mem_of_getElem? (i := 826) (by decide +kernel), by decide +kernel⟩
theorem zm_827 : zgo (Cond.methodLink RL 46 yX6_send) := ⟨List.mem_of_getElem? (i := 827) (by decide +kernel), by decide +kernel⟩
theorem zm_828 : zgo (Cond.instanceMethod yX6_send) := ⟨List.mem_of_getElem? (i := 828) (by decide +kernel), by decide +kernel⟩
theorem zm_829 : zgo (Cond.selects RX6 yX6_send yX6_send) := ⟨List.mem_of_getElem? (i := 829) (by decide +kernel), by decide +kernel⟩
theorem zm_830 : zgo (Cond.code yX6_send cX6_send 6 (some .int)) := ⟨List.mem_of_getElem? (i := 830) (by decide +kernel), by decide +kernel⟩
theorem zm_186 : zgo (Cond.fieldLink RX6 155 "Gangline$Party" "stock" "[I") := ⟨List.mem_of_getElem? (i := 186) (by decide +kernel), by decide +kernel⟩
theorem zw_wsL_send_r1 : GoodIn lw_tbl wsL_send_r1 := (zgc zm_656 (zgc zm_827 (zgc zm_828 (zgc zm_829 (zgc zm_69 (zgc zm_830 (zgc zm_612 (zgc zm_82 (zgc zm_298 (zgc zm_759 (zgc zm_158 (zgc zm_186 (zgc zm_784 (zgc zm_786 (zgc zm_24 (zgc zm_787 (zgc zm_688 (zgc zm_91 (zgc zm_299 (zgc zm_737 (zgc zm_739 (zgc zm_23 (zgc zm_740 (zgc zm_293 zgn))))))))))))))))))))))))
theorem zm_831 : zgo (Cond.methodLink RX6 144 yX2_sent) := ⟨List.mem_of_getElem? (i := 831) (by decide +kernel), by decide +kernel⟩
theorem zm_832 : zgo (Cond.instanceMethod yX2_sent) := ⟨List.mem_of_getElem? (i := 832) (by decide +kernel), by decide +kernel⟩
theorem zm_833 : zgo (Cond.selects RX2 yX2_sent yX2_sent) := ⟨List.mem_of_getElem? (i := 833) (by decide +kernel), by decide +kernel⟩
theorem zm_834 : zgo (Cond.code yX2_sent cX2_sent 3 (some .int)) := ⟨List.mem_of_getElem? (i := 834) (by decide +kernel), by decide +kernel⟩
theorem zw_wsL_send_r2 : GoodIn lw_tbl wsL_send_r2 := (zgc zm_511 (zgc zm_512 (zgc zm_513 (zgc zm_514 (zgc zm_80 (zgc zm_590 (zgc zm_591 (zgc zm_592 (zgc zm_593 (zgc zm_81 (zgc zm_831 (zgc zm_832 (zgc zm_833 (zgc zm_71 (zgc zm_834 (zgc zm_185 zgn))))))))))))))))
theorem zw_wsL_send : GoodIn lw_tbl wsL_send := (zgc zm_826 (goodIn_app (goodIn_app (goodIn_app (goodIn_app (goodIn_app (goodIn_app (goodIn_app (goodIn_app (goodIn_app zw_wsL_send_r1 zw_wsL_send_r2) zw_wsX60) zw_wsX50) zw_wsX20) zx_0) zx_3) zx_4) zx_1) zx_2))
theorem zm_824 : zgo (Cond.methodLink RL 211 yL_send) := ⟨List.mem_of_getElem? (i := 824) (by decide +kernel), by decide +kernel⟩
theorem zm_825 : zgo (Cond.static yL_send) := ⟨List.mem_of_getElem? (i := 825) (by decide +kernel), by decide +kernel⟩
theorem gL_law_L_send : GoodIn lw_tbl (va_wsS RL 211 yL_send wsL_send) := goodIn_app (a := [Cond.methodLink RL 211 yL_send, Cond.static yL_send, Cond.initialized RL]) (zgc zm_824 (zgc zm_825 (zgc zm_68 zgn))) zw_wsL_send
theorem zm_1741 : zgo (Cond.code yX10_send cX10_send 7 (some .int)) := ⟨List.mem_of_getElem? (i := 1741) (by decide +kernel), by decide +kernel⟩
theorem zm_1746 : zgo (Cond.constantLong RX10 143 (300)) := ⟨List.mem_of_getElem? (i := 1746) (by decide +kernel), by decide +kernel⟩
theorem zw_wsX10_send_r1 : GoodIn lw_tbl wsX10_send_r1 := (zgc zm_1282 (zgc zm_1284 (zgc zm_1397 (zgc zm_1746 (zgc zm_1647 (zgc zm_1649 (zgc zm_46 (zgc zm_73 (zgc zm_1650 (zgc zm_1403 (zgc zm_1406 (zgc zm_1408 (zgc zm_76 (zgc zm_1410 (zgc zm_1269 (zgc zm_1325 (zgc zm_1326 (zgc zm_1327 (zgc zm_1518 (zgc zm_1521 (zgc zm_1523 (zgc zm_1525 (zgc zm_1526 (zgc zm_1527 zgn))))))))))))))))))))))))
theorem zm_1742 : zgo (Cond.methodLink RX10 140 yX9_sentInAll) := ⟨List.mem_of_getElem? (i := 1742) (by decide +kernel), by decide +kernel⟩
theorem zm_1743 : zgo (Cond.instanceMethod yX9_sentInAll) := ⟨List.mem_of_getElem? (i := 1743) (by decide +kernel), by decide +kernel⟩
theorem zm_1744 : zgo (Cond.selects RX9 yX9_sentInAll yX9_sentInAll) := ⟨List.mem_of_getElem? (i := 1744) (by decide +kernel), by decide +kernel⟩
theorem zm_1745 : zgo (Cond.code yX9_sentInAll cX9_sentInAll 6 (some .int)) := ⟨List.mem_of_getElem? (i := 1745) (by decide +kernel), by decide +kernel⟩
theorem zw_wsX10_send_r2 : GoodIn lw_tbl wsX10_send_r2 := (zgc zm_94 (zgc zm_1528 (zgc zm_1529 (zgc zm_1530 (zgc zm_95 (zgc zm_1531 (zgc zm_1532 (zgc zm_1533 (zgc zm_1534 (zgc zm_1535 (zgc zm_1266 (zgc zm_1742 (zgc zm_1743 (zgc zm_1744 (zgc zm_98 (zgc zm_1745 (zgc zm_1562 (zgc zm_1411 (zgc zm_1413 (zgc zm_42 (zgc zm_1414 (zgc zm_1281 zgn))))))))))))))))))))))
theorem zw_wsX10_send : GoodIn lw_tbl wsX10_send := (zgc zm_1741 (goodIn_app (goodIn_app (goodIn_app (goodIn_app (goodIn_app zw_wsX10_send_r1 zw_wsX10_send_r2) zw_wsX100) zw_wsX90) zw_wsJx4a65c0) zx_0))
theorem zm_1738 : zgo (Cond.methodLink RL 213 yX10_send) := ⟨List.mem_of_getElem? (i := 1738) (by decide +kernel), by decide +kernel⟩
theorem zm_1739 : zgo (Cond.instanceMethod yX10_send) := ⟨List.mem_of_getElem? (i := 1739) (by decide +kernel), by decide +kernel⟩
theorem zm_1740 : zgo (Cond.selects RX10 yX10_send yX10_send) := ⟨List.mem_of_getElem? (i := 1740) (by decide +kernel), by decide +kernel⟩
theorem gL_law_X10_send : GoodIn lw_tbl (wsV RL 213 RX10 yX10_send wsX10_send) := goodIn_app (a := [Cond.methodLink RL 213 yX10_send, Cond.instanceMethod yX10_send, Cond.selects RX10 yX10_send yX10_send, Cond.initialized RX10]) (zgc zm_1738 (zgc zm_1739 (zgc zm_1740 (zgc zm_73 zgn)))) zw_wsX10_send
theorem zm_838 : zgo (Cond.codeWith yL_begin cL_begin 5 (some .int) [(0, 10, 13, 23), (0, 10, 17, 13), (0, 10, 21, 15)]) := ⟨List.mem_of_getElem? (i := 838) (by decide +kernel), by decide +kernel⟩
theorem zm_839 : zgo (Cond.methodLink RL 49 yX6_begin) := ⟨List.mem_of_getElem? (i := 839) (by decide +kernel), by decide +kernel⟩
theorem zm_840 : zgo (Cond.instanceMethod yX6_begin) := ⟨List.mem_of_getElem? (i := 840) (by decide +kernel), by decide +kernel⟩
theorem zm_841 : zgo (Cond.selects RX6 yX6_begin yX6_begin) := ⟨List.mem_of_getElem? (i := 841) (by decide +kernel), by decide +kernel⟩
theorem zm_842 : zgo (Cond.code yX6_begin cX6_begin 5 (some .int)) := ⟨List.mem_of_getElem? (i := 842) (by decide +kernel), by decide +kernel⟩
theorem zm_160 : zgo (Cond.fieldLink RX6 164 "Gangline$Party" "beganAt" "I") := ⟨List.mem_of_getElem? (i := 160) (by decide +kernel), by decide +kernel⟩
theorem zm_162 : zgo (Cond.fieldLink RX6 167 "Gangline$Party" "minute" "I") := ⟨List.mem_of_getElem? (i := 162) (by decide +kernel), by decide +kernel⟩
theorem zm_166 : zgo (Cond.fieldLink RX6 170 "Gangline$Party" "kilos" "I") := ⟨List.mem_of_getElem? (i := 166) (by decide +kernel), by decide +kernel⟩
theorem zm_302 : zgo (Cond.fieldLink RX6 176 "Gangline" "dogsBegun" "I") := ⟨List.mem_of_getElem? (i := 302) (by decide +kernel), by decide +kernel⟩
theorem zw_wsL_begin_r1 : GoodIn lw_tbl wsL_begin_r1 := (zgc zm_656 (zgc zm_839 (zgc zm_840 (zgc zm_841 (zgc zm_69 (zgc zm_842 (zgc zm_298 (zgc zm_759 (zgc zm_158 (zgc zm_293 (zgc zm_190 (zgc zm_160 (zgc zm_162 (zgc zm_166 (zgc zm_188 (zgc zm_262 (zgc zm_302 (zgc zm_784 (zgc zm_786 (zgc zm_24 (zgc zm_787 (zgc zm_688 (zgc zm_91 (zgc zm_299 zgn))))))))))))))))))))))))
theorem zm_843 : zgo (Cond.methodLink RX6 158 yX6_isLongTaken) := ⟨List.mem_of_getElem? (i := 843) (by decide +kernel), by decide +kernel⟩
theorem zm_845 : zgo (Cond.instanceMethod yX6_isLongTaken) := ⟨List.mem_of_getElem? (i := 845) (by decide +kernel), by decide +kernel⟩
theorem zm_27 : zgo (Cond.selects RX6 yX6_isLongTaken yX6_isLongTaken) := ⟨List.mem_of_getElem? (i := 27) (by decide +kernel), by decide +kernel⟩
theorem zm_846 : zgo (Cond.code yX6_isLongTaken cX6_isLongTaken 2 (some .boolean)) := ⟨List.mem_of_getElem? (i := 846) (by decide +kernel), by decide +kernel⟩
theorem zm_182 : zgo (Cond.fieldLink RX6 442 "Gangline$Party" "longTaken" "Z") := ⟨List.mem_of_getElem? (i := 182) (by decide +kernel), by decide +kernel⟩
theorem zm_489 : zgo (Cond.methodLink RX6 161 yX6_teamsBegun) := ⟨List.mem_of_getElem? (i := 489) (by decide +kernel), by decide +kernel⟩
theorem zm_491 : zgo (Cond.instanceMethod yX6_teamsBegun) := ⟨List.mem_of_getElem? (i := 491) (by decide +kernel), by decide +kernel⟩
theorem zm_17 : zgo (Cond.selects RX6 yX6_teamsBegun yX6_teamsBegun) := ⟨List.mem_of_getElem? (i := 17) (by decide +kernel), by decide +kernel⟩
theorem zm_492 : zgo (Cond.code yX6_teamsBegun cX6_teamsBegun 3 (some .int)) := ⟨List.mem_of_getElem? (i := 492) (by decide +kernel), by decide +kernel⟩
theorem zm_847 : zgo (Cond.methodLink RX6 173 yX0_freshen) := ⟨List.mem_of_getElem? (i := 847) (by decide +kernel), by decide +kernel⟩
theorem zm_848 : zgo (Cond.instanceMethod yX0_freshen) := ⟨List.mem_of_getElem? (i := 848) (by decide +kernel), by decide +kernel⟩
theorem zm_849 : zgo (Cond.selects RX0 yX0_freshen yX0_freshen) := ⟨List.mem_of_getElem? (i := 849) (by decide +kernel), by decide +kernel⟩
theorem zm_850 : zgo (Cond.code yX0_freshen cX0_freshen 1 none) := ⟨List.mem_of_getElem? (i := 850) (by decide +kernel), by decide +kernel⟩
theorem zw_wsL_begin_r2 : GoodIn lw_tbl wsL_begin_r2 := (zgc zm_511 (zgc zm_512 (zgc zm_513 (zgc zm_514 (zgc zm_80 (zgc zm_843 (zgc zm_845 (zgc zm_27 (zgc zm_846 (zgc zm_182 (zgc zm_590 (zgc zm_591 (zgc zm_592 (zgc zm_593 (zgc zm_81 (zgc zm_489 (zgc zm_491 (zgc zm_17 (zgc zm_492 (zgc zm_847 (zgc zm_848 (zgc zm_849 (zgc zm_72 (zgc zm_850 zgn))))))))))))))))))))))))
theorem zw_wsL_begin_r3 : GoodIn lw_tbl wsL_begin_r3 := (zgc zm_246 (zgc zm_249 (zgc zm_252 (zgc zm_255 zgn))))
theorem zw_wsL_begin : GoodIn lw_tbl wsL_begin := (zgc zm_838 (goodIn_app (goodIn_app (goodIn_app (goodIn_app (goodIn_app (goodIn_app (goodIn_app (goodIn_app (goodIn_app zw_wsL_begin_r1 (goodIn_app zw_wsL_begin_r2 zw_wsL_begin_r3)) zw_wsX60) zw_wsX50) zw_wsX20) zw_wsX00) zx_0) zx_4) zx_1) zx_2))
theorem zm_836 : zgo (Cond.methodLink RL 214 yL_begin) := ⟨List.mem_of_getElem? (i := 836) (by decide +kernel), by decide +kernel⟩
theorem zm_837 : zgo (Cond.static yL_begin) := ⟨List.mem_of_getElem? (i := 837) (by decide +kernel), by decide +kernel⟩
theorem gL_law_L_begin : GoodIn lw_tbl (va_wsS RL 214 yL_begin wsL_begin) := goodIn_app (a := [Cond.methodLink RL 214 yL_begin, Cond.static yL_begin, Cond.initialized RL]) (zgc zm_836 (zgc zm_837 (zgc zm_68 zgn))) zw_wsL_begin
theorem zm_1750 : zgo (Cond.code yX10_begin cX10_begin 7 (some .int)) := ⟨List.mem_of_getElem? (i := 1750) (by decide +kernel), by decide +kernel⟩
theorem zm_1290 : zgo (Cond.fieldLink RX10 149 "GanglineModel" "isClosed" "Z") := ⟨List.mem_of_getElem? (i := 1290) (by decide +kernel), by decide +kernel⟩
theorem zm_1760 : zgo (Cond.constantLong RX10 155 (200)) := ⟨List.mem_of_getElem? (i := 1760) (by decide +kernel), by decide +kernel⟩
theorem zm_1289 : zgo (Cond.fieldLink RX10 157 "GanglineModel" "begun" "I") := ⟨List.mem_of_getElem? (i := 1289) (by decide +kernel), by decide +kernel⟩
theorem zm_1288 : zgo (Cond.fieldLink RX10 169 "GanglineModel" "lastBegun" "I") := ⟨List.mem_of_getElem? (i := 1288) (by decide +kernel), by decide +kernel⟩
theorem zm_1291 : zgo (Cond.fieldLink RX10 172 "GanglineModel" "dogsBegun" "I") := ⟨List.mem_of_getElem? (i := 1291) (by decide +kernel), by decide +kernel⟩
theorem zw_wsX10_begin_r1 : GoodIn lw_tbl wsX10_begin_r1 := (zgc zm_1284 (zgc zm_1397 (zgc zm_1290 (zgc zm_1282 (zgc zm_1760 (zgc zm_1289 (zgc zm_1288 (zgc zm_1291 (zgc zm_1651 (zgc zm_1647 (zgc zm_1649 (zgc zm_46 (zgc zm_73 (zgc zm_1650 (zgc zm_1403 (zgc zm_1406 (zgc zm_1408 (zgc zm_76 (zgc zm_1410 (zgc zm_1269 (zgc zm_1325 (zgc zm_1326 (zgc zm_1327 (zgc zm_1518 zgn))))))))))))))))))))))))
theorem zm_1752 : zgo (Cond.methodLink RX10 152 ⟨"java/util/List", "isEmpty", "()Z"⟩) := ⟨List.mem_of_getElem? (i := 1752) (by decide +kernel), by decide +kernel⟩
theorem zm_1755 : zgo (Cond.selects RJx4a65c ⟨"java/util/List", "isEmpty", "()Z"⟩ yJx4a65c_isEmpty_aae02) := ⟨List.mem_of_getElem? (i := 1755) (by decide +kernel), by decide +kernel⟩
theorem zm_1757 : zgo (Cond.instanceMethod yJx4a65c_isEmpty_aae02) := ⟨List.mem_of_getElem? (i := 1757) (by decide +kernel), by decide +kernel⟩
theorem zm_1759 : zgo (Cond.code yJx4a65c_isEmpty_aae02 cJx4a65c_isEmpty_aae02 1 (some .boolean)) := ⟨List.mem_of_getElem? (i := 1759) (by decide +kernel), by decide +kernel⟩
theorem zw_wsX10_begin_r2 : GoodIn lw_tbl wsX10_begin_r2 := (zgc zm_1521 (zgc zm_1523 (zgc zm_1525 (zgc zm_1526 (zgc zm_1527 (zgc zm_94 (zgc zm_1528 (zgc zm_1529 (zgc zm_1530 (zgc zm_95 (zgc zm_1531 (zgc zm_1532 (zgc zm_1533 (zgc zm_1534 (zgc zm_1535 (zgc zm_1266 (zgc zm_1752 (zgc zm_1755 (zgc zm_1757 (zgc zm_1759 (zgc zm_1411 (zgc zm_1413 (zgc zm_42 (zgc zm_1414 zgn))))))))))))))))))))))))
theorem zw_wsX10_begin_r3 : GoodIn lw_tbl wsX10_begin_r3 := (zgc zm_1281 (zgc zm_1335 (zgc zm_1339 (zgc zm_1341 (zgc zm_1343 (zgc zm_1344 (zgc zm_1345 (zgc zm_84 (zgc zm_1346 (zgc zm_1347 (zgc zm_1348 (zgc zm_1353 (zgc zm_1349 (zgc zm_114 (zgc zm_115 (zgc zm_1351 (zgc zm_1271 (zgc zm_1272 (zgc zm_1352 (zgc zm_1364 (zgc zm_1368 (zgc zm_1370 (zgc zm_1372 (zgc zm_1350 zgn))))))))))))))))))))))))
theorem zm_1761 : zgo (Cond.methodLink RX10 175 yX7_begins) := ⟨List.mem_of_getElem? (i := 1761) (by decide +kernel), by decide +kernel⟩
theorem zm_1762 : zgo (Cond.instanceMethod yX7_begins) := ⟨List.mem_of_getElem? (i := 1762) (by decide +kernel), by decide +kernel⟩
theorem zm_1763 : zgo (Cond.selects RX7 yX7_begins yX7_begins) := ⟨List.mem_of_getElem? (i := 1763) (by decide +kernel), by decide +kernel⟩
theorem zm_1764 : zgo (Cond.code yX7_begins cX7_begins 1 none) := ⟨List.mem_of_getElem? (i := 1764) (by decide +kernel), by decide +kernel⟩
theorem zw_wsX10_begin_r4 : GoodIn lw_tbl wsX10_begin_r4 := (zgc zm_1374 (zgc zm_1377 (zgc zm_1379 (zgc zm_1381 (zgc zm_1267 (zgc zm_1382 (zgc zm_1383 (zgc zm_1384 (zgc zm_1385 (zgc zm_1761 (zgc zm_1762 (zgc zm_1763 (zgc zm_99 (zgc zm_1764 (zgc zm_1674 (zgc zm_1676 (zgc zm_1678 (zgc zm_1680 (zgc zm_1685 zgn)))))))))))))))))))
theorem zw_wsX10_begin : GoodIn lw_tbl wsX10_begin := (zgc zm_1750 (goodIn_app (goodIn_app (goodIn_app (goodIn_app (goodIn_app (goodIn_app zw_wsX10_begin_r1 (goodIn_app zw_wsX10_begin_r2 (goodIn_app zw_wsX10_begin_r3 zw_wsX10_begin_r4))) zw_wsX100) zw_wsX90) zw_wsJx4a65c0) zw_wsJx354110) zw_wsX70))
theorem zm_1747 : zgo (Cond.methodLink RL 216 yX10_begin) := ⟨List.mem_of_getElem? (i := 1747) (by decide +kernel), by decide +kernel⟩
theorem zm_1748 : zgo (Cond.instanceMethod yX10_begin) := ⟨List.mem_of_getElem? (i := 1748) (by decide +kernel), by decide +kernel⟩
theorem zm_1749 : zgo (Cond.selects RX10 yX10_begin yX10_begin) := ⟨List.mem_of_getElem? (i := 1749) (by decide +kernel), by decide +kernel⟩
theorem gL_law_X10_begin : GoodIn lw_tbl (wsV RL 216 RX10 yX10_begin wsX10_begin) := goodIn_app (a := [Cond.methodLink RL 216 yX10_begin, Cond.instanceMethod yX10_begin, Cond.selects RX10 yX10_begin yX10_begin, Cond.initialized RX10]) (zgc zm_1747 (zgc zm_1748 (zgc zm_1749 (zgc zm_73 zgn)))) zw_wsX10_begin
theorem zm_853 : zgo (Cond.codeWith yL_run cL_run 4 (some .int) [(0, 9, 12, 23), (0, 9, 15, 15)]) := ⟨List.mem_of_getElem? (i := 853) (by decide +kernel), by decide +kernel⟩
theorem zm_854 : zgo (Cond.methodLink RL 52 yX6_run) := ⟨List.mem_of_getElem? (i := 854) (by decide +kernel), by decide +kernel⟩
theorem zm_855 : zgo (Cond.instanceMethod yX6_run) := ⟨List.mem_of_getElem? (i := 855) (by decide +kernel), by decide +kernel⟩
theorem zm_856 : zgo (Cond.selects RX6 yX6_run yX6_run) := ⟨List.mem_of_getElem? (i := 856) (by decide +kernel), by decide +kernel⟩
theorem zm_857 : zgo (Cond.code yX6_run cX6_run 4 (some .int)) := ⟨List.mem_of_getElem? (i := 857) (by decide +kernel), by decide +kernel⟩
theorem zm_380 : zgo (Cond.methodLink RX6 179 yX6_goLeg) := ⟨List.mem_of_getElem? (i := 380) (by decide +kernel), by decide +kernel⟩
theorem zm_382 : zgo (Cond.instanceMethod yX6_goLeg) := ⟨List.mem_of_getElem? (i := 382) (by decide +kernel), by decide +kernel⟩
theorem zm_4 : zgo (Cond.selects RX6 yX6_goLeg yX6_goLeg) := ⟨List.mem_of_getElem? (i := 4) (by decide +kernel), by decide +kernel⟩
theorem zm_383 : zgo (Cond.code yX6_goLeg cX6_goLeg 6 (some .char)) := ⟨List.mem_of_getElem? (i := 383) (by decide +kernel), by decide +kernel⟩
theorem zm_164 : zgo (Cond.fieldLink RX6 217 "Gangline$Party" "checkpoint" "I") := ⟨List.mem_of_getElem? (i := 164) (by decide +kernel), by decide +kernel⟩
theorem zm_176 : zgo (Cond.fieldLink RX6 210 "Gangline$Party" "bootsOn" "Z") := ⟨List.mem_of_getElem? (i := 176) (by decide +kernel), by decide +kernel⟩
theorem zm_634 : zgo (Cond.fieldLink RX6 491 "Gangline$Leg" "length" "I") := ⟨List.mem_of_getElem? (i := 634) (by decide +kernel), by decide +kernel⟩
theorem zw_wsL_run_r1 : GoodIn lw_tbl wsL_run_r1 := (zgc zm_656 (zgc zm_854 (zgc zm_855 (zgc zm_856 (zgc zm_69 (zgc zm_857 (zgc zm_298 (zgc zm_759 (zgc zm_162 (zgc zm_784 (zgc zm_786 (zgc zm_24 (zgc zm_787 (zgc zm_688 (zgc zm_91 (zgc zm_299 (zgc zm_380 (zgc zm_382 (zgc zm_4 (zgc zm_383 (zgc zm_292 (zgc zm_164 (zgc zm_176 (zgc zm_634 zgn))))))))))))))))))))))))
theorem zm_168 : zgo (Cond.fieldLink RX6 336 "Gangline$Party" "sleep" "I") := ⟨List.mem_of_getElem? (i := 168) (by decide +kernel), by decide +kernel⟩
theorem zm_408 : zgo (Cond.methodLink RX6 406 Lib.Math.max.name) := ⟨List.mem_of_getElem? (i := 408) (by decide +kernel), by decide +kernel⟩
theorem zm_170 : zgo (Cond.fieldLink RX6 236 "Gangline$Party" "breaks" "I") := ⟨List.mem_of_getElem? (i := 170) (by decide +kernel), by decide +kernel⟩
theorem zm_638 : zgo (Cond.fieldLink RX6 488 "Gangline$Leg" "climb" "I") := ⟨List.mem_of_getElem? (i := 638) (by decide +kernel), by decide +kernel⟩
theorem zm_174 : zgo (Cond.fieldLink RX6 342 "Gangline$Party" "bootsLeft" "I") := ⟨List.mem_of_getElem? (i := 174) (by decide +kernel), by decide +kernel⟩
theorem zm_384 : zgo (Cond.methodLink RX6 507 yX6_barToGo) := ⟨List.mem_of_getElem? (i := 384) (by decide +kernel), by decide +kernel⟩
theorem zm_386 : zgo (Cond.instanceMethod yX6_barToGo) := ⟨List.mem_of_getElem? (i := 386) (by decide +kernel), by decide +kernel⟩
theorem zm_5 : zgo (Cond.selects RX6 yX6_barToGo yX6_barToGo) := ⟨List.mem_of_getElem? (i := 5) (by decide +kernel), by decide +kernel⟩
theorem zm_387 : zgo (Cond.code yX6_barToGo cX6_barToGo 2 (some .char)) := ⟨List.mem_of_getElem? (i := 387) (by decide +kernel), by decide +kernel⟩
theorem zm_388 : zgo (Cond.methodLink RX6 213 yX6_isOnWay) := ⟨List.mem_of_getElem? (i := 388) (by decide +kernel), by decide +kernel⟩
theorem zm_390 : zgo (Cond.instanceMethod yX6_isOnWay) := ⟨List.mem_of_getElem? (i := 390) (by decide +kernel), by decide +kernel⟩
theorem zm_6 : zgo (Cond.selects RX6 yX6_isOnWay yX6_isOnWay) := ⟨List.mem_of_getElem? (i := 6) (by decide +kernel), by decide +kernel⟩
theorem zm_391 : zgo (Cond.code yX6_isOnWay cX6_isOnWay 2 (some .boolean)) := ⟨List.mem_of_getElem? (i := 391) (by decide +kernel), by decide +kernel⟩
theorem zm_392 : zgo (Cond.methodLink RX6 445 yX2_hasSpent) := ⟨List.mem_of_getElem? (i := 392) (by decide +kernel), by decide +kernel⟩
theorem zm_393 : zgo (Cond.instanceMethod yX2_hasSpent) := ⟨List.mem_of_getElem? (i := 393) (by decide +kernel), by decide +kernel⟩
theorem zm_394 : zgo (Cond.selects RX2 yX2_hasSpent yX2_hasSpent) := ⟨List.mem_of_getElem? (i := 394) (by decide +kernel), by decide +kernel⟩
theorem zm_395 : zgo (Cond.code yX2_hasSpent cX2_hasSpent 2 (some .boolean)) := ⟨List.mem_of_getElem? (i := 395) (by decide +kernel), by decide +kernel⟩
theorem zw_wsL_run_r2 : GoodIn lw_tbl wsL_run_r2 := (zgc zm_168 (zgc zm_408 (zgc zm_409 (zgc zm_88 (zgc zm_410 (zgc zm_170 (zgc zm_638 (zgc zm_174 (zgc zm_384 (zgc zm_386 (zgc zm_5 (zgc zm_387 (zgc zm_190 (zgc zm_388 (zgc zm_390 (zgc zm_6 (zgc zm_391 (zgc zm_158 (zgc zm_293 (zgc zm_392 (zgc zm_393 (zgc zm_394 (zgc zm_71 (zgc zm_395 zgn))))))))))))))))))))))))
theorem zm_396 : zgo (Cond.methodLink RX2 79 yX0_isSpent) := ⟨List.mem_of_getElem? (i := 396) (by decide +kernel), by decide +kernel⟩
theorem zm_397 : zgo (Cond.instanceMethod yX0_isSpent) := ⟨List.mem_of_getElem? (i := 397) (by decide +kernel), by decide +kernel⟩
theorem zm_398 : zgo (Cond.selects RX0 yX0_isSpent yX0_isSpent) := ⟨List.mem_of_getElem? (i := 398) (by decide +kernel), by decide +kernel⟩
theorem zm_399 : zgo (Cond.code yX0_isSpent cX0_isSpent 1 (some .boolean)) := ⟨List.mem_of_getElem? (i := 399) (by decide +kernel), by decide +kernel⟩
theorem zm_400 : zgo (Cond.methodLink RX6 503 yX6_owesMust) := ⟨List.mem_of_getElem? (i := 400) (by decide +kernel), by decide +kernel⟩
theorem zm_402 : zgo (Cond.instanceMethod yX6_owesMust) := ⟨List.mem_of_getElem? (i := 402) (by decide +kernel), by decide +kernel⟩
theorem zm_7 : zgo (Cond.selects RX6 yX6_owesMust yX6_owesMust) := ⟨List.mem_of_getElem? (i := 7) (by decide +kernel), by decide +kernel⟩
theorem zm_403 : zgo (Cond.code yX6_owesMust cX6_owesMust 3 (some .boolean)) := ⟨List.mem_of_getElem? (i := 403) (by decide +kernel), by decide +kernel⟩
theorem zm_184 : zgo (Cond.fieldLink RX6 469 "Gangline$Party" "mustTaken" "Z") := ⟨List.mem_of_getElem? (i := 184) (by decide +kernel), by decide +kernel⟩
theorem zm_404 : zgo (Cond.methodLink RX6 482 yX6_strongest) := ⟨List.mem_of_getElem? (i := 404) (by decide +kernel), by decide +kernel⟩
theorem zm_406 : zgo (Cond.instanceMethod yX6_strongest) := ⟨List.mem_of_getElem? (i := 406) (by decide +kernel), by decide +kernel⟩
theorem zm_8 : zgo (Cond.selects RX6 yX6_strongest yX6_strongest) := ⟨List.mem_of_getElem? (i := 8) (by decide +kernel), by decide +kernel⟩
theorem zm_407 : zgo (Cond.code yX6_strongest cX6_strongest 7 (some .int)) := ⟨List.mem_of_getElem? (i := 407) (by decide +kernel), by decide +kernel⟩
theorem zm_714 : zgo (Cond.fieldLink RX6 472 "Gangline$Storm" "leg" "I") := ⟨List.mem_of_getElem? (i := 714) (by decide +kernel), by decide +kernel⟩
theorem zm_716 : zgo (Cond.fieldLink RX6 475 "Gangline$Storm" "from" "I") := ⟨List.mem_of_getElem? (i := 716) (by decide +kernel), by decide +kernel⟩
theorem zw_wsL_run_r3 : GoodIn lw_tbl wsL_run_r3 := (zgc zm_189 (zgc zm_187 (zgc zm_396 (zgc zm_397 (zgc zm_398 (zgc zm_72 (zgc zm_399 (zgc zm_246 (zgc zm_249 (zgc zm_252 (zgc zm_400 (zgc zm_402 (zgc zm_7 (zgc zm_403 (zgc zm_641 (zgc zm_184 (zgc zm_404 (zgc zm_406 (zgc zm_8 (zgc zm_407 (zgc zm_295 (zgc zm_294 (zgc zm_714 (zgc zm_716 zgn))))))))))))))))))))))))
theorem zm_718 : zgo (Cond.fieldLink RX6 478 "Gangline$Storm" "to" "I") := ⟨List.mem_of_getElem? (i := 718) (by decide +kernel), by decide +kernel⟩
theorem zm_720 : zgo (Cond.fieldLink RX6 481 "Gangline$Storm" "strength" "I") := ⟨List.mem_of_getElem? (i := 720) (by decide +kernel), by decide +kernel⟩
theorem zm_411 : zgo (Cond.methodLink RX6 366 yX6_minutesOfLeg) := ⟨List.mem_of_getElem? (i := 411) (by decide +kernel), by decide +kernel⟩
theorem zm_413 : zgo (Cond.instanceMethod yX6_minutesOfLeg) := ⟨List.mem_of_getElem? (i := 413) (by decide +kernel), by decide +kernel⟩
theorem zm_9 : zgo (Cond.selects RX6 yX6_minutesOfLeg yX6_minutesOfLeg) := ⟨List.mem_of_getElem? (i := 9) (by decide +kernel), by decide +kernel⟩
theorem zm_414 : zgo (Cond.code yX6_minutesOfLeg cX6_minutesOfLeg 6 (some .int)) := ⟨List.mem_of_getElem? (i := 414) (by decide +kernel), by decide +kernel⟩
theorem zm_636 : zgo (Cond.fieldLink RX6 485 "Gangline$Leg" "surface" "I") := ⟨List.mem_of_getElem? (i := 636) (by decide +kernel), by decide +kernel⟩
theorem zm_415 : zgo (Cond.methodLink RX6 494 yX2_load) := ⟨List.mem_of_getElem? (i := 415) (by decide +kernel), by decide +kernel⟩
theorem zm_416 : zgo (Cond.instanceMethod yX2_load) := ⟨List.mem_of_getElem? (i := 416) (by decide +kernel), by decide +kernel⟩
theorem zm_417 : zgo (Cond.selects RX2 yX2_load yX2_load) := ⟨List.mem_of_getElem? (i := 417) (by decide +kernel), by decide +kernel⟩
theorem zm_418 : zgo (Cond.code yX2_load cX2_load 1 (some .int)) := ⟨List.mem_of_getElem? (i := 418) (by decide +kernel), by decide +kernel⟩
theorem zm_419 : zgo (Cond.methodLink RX6 497 yX2_pulls) := ⟨List.mem_of_getElem? (i := 419) (by decide +kernel), by decide +kernel⟩
theorem zm_420 : zgo (Cond.instanceMethod yX2_pulls) := ⟨List.mem_of_getElem? (i := 420) (by decide +kernel), by decide +kernel⟩
theorem zm_421 : zgo (Cond.selects RX2 yX2_pulls yX2_pulls) := ⟨List.mem_of_getElem? (i := 421) (by decide +kernel), by decide +kernel⟩
theorem zm_422 : zgo (Cond.code yX2_pulls cX2_pulls 3 (some .int)) := ⟨List.mem_of_getElem? (i := 422) (by decide +kernel), by decide +kernel⟩
theorem zm_423 : zgo (Cond.methodLink RX2 83 yX0_pull) := ⟨List.mem_of_getElem? (i := 423) (by decide +kernel), by decide +kernel⟩
theorem zm_424 : zgo (Cond.instanceMethod yX0_pull) := ⟨List.mem_of_getElem? (i := 424) (by decide +kernel), by decide +kernel⟩
theorem zm_425 : zgo (Cond.selects RX0 yX0_pull yX0_pull) := ⟨List.mem_of_getElem? (i := 425) (by decide +kernel), by decide +kernel⟩
theorem zm_426 : zgo (Cond.code yX0_pull cX0_pull 1 (some .int)) := ⟨List.mem_of_getElem? (i := 426) (by decide +kernel), by decide +kernel⟩
theorem zm_427 : zgo (Cond.methodLink RX6 500 yX2_bestLead) := ⟨List.mem_of_getElem? (i := 427) (by decide +kernel), by decide +kernel⟩
theorem zm_428 : zgo (Cond.instanceMethod yX2_bestLead) := ⟨List.mem_of_getElem? (i := 428) (by decide +kernel), by decide +kernel⟩
theorem zm_429 : zgo (Cond.selects RX2 yX2_bestLead yX2_bestLead) := ⟨List.mem_of_getElem? (i := 429) (by decide +kernel), by decide +kernel⟩
theorem zw_wsL_run_r4 : GoodIn lw_tbl wsL_run_r4 := (zgc zm_718 (zgc zm_720 (zgc zm_411 (zgc zm_413 (zgc zm_9 (zgc zm_414 (zgc zm_636 (zgc zm_415 (zgc zm_416 (zgc zm_417 (zgc zm_418 (zgc zm_165 (zgc zm_419 (zgc zm_420 (zgc zm_421 (zgc zm_422 (zgc zm_423 (zgc zm_424 (zgc zm_425 (zgc zm_426 (zgc zm_235 (zgc zm_427 (zgc zm_428 (zgc zm_429 zgn))))))))))))))))))))))))
theorem zm_430 : zgo (Cond.code yX2_bestLead cX2_bestLead 3 (some .int)) := ⟨List.mem_of_getElem? (i := 430) (by decide +kernel), by decide +kernel⟩
theorem zm_238 : zgo (Cond.fieldLink RX2 87 "Gangline$Dog" "lead" "I") := ⟨List.mem_of_getElem? (i := 238) (by decide +kernel), by decide +kernel⟩
theorem zm_431 : zgo (Cond.methodLink RX2 90 Lib.Math.max.name) := ⟨List.mem_of_getElem? (i := 431) (by decide +kernel), by decide +kernel⟩
theorem zm_432 : zgo (Cond.methodLink RX6 510 yX6_feetWorn) := ⟨List.mem_of_getElem? (i := 432) (by decide +kernel), by decide +kernel⟩
theorem zm_433 : zgo (Cond.static yX6_feetWorn) := ⟨List.mem_of_getElem? (i := 433) (by decide +kernel), by decide +kernel⟩
theorem zm_434 : zgo (Cond.code yX6_feetWorn cX6_feetWorn 3 (some .int)) := ⟨List.mem_of_getElem? (i := 434) (by decide +kernel), by decide +kernel⟩
theorem zm_435 : zgo (Cond.methodLink RX6 514 yX6_waterLost) := ⟨List.mem_of_getElem? (i := 435) (by decide +kernel), by decide +kernel⟩
theorem zm_436 : zgo (Cond.static yX6_waterLost) := ⟨List.mem_of_getElem? (i := 436) (by decide +kernel), by decide +kernel⟩
theorem zm_437 : zgo (Cond.code yX6_waterLost cX6_waterLost 2 (some .int)) := ⟨List.mem_of_getElem? (i := 437) (by decide +kernel), by decide +kernel⟩
theorem zm_438 : zgo (Cond.methodLink RX6 518 yX2_wearOut) := ⟨List.mem_of_getElem? (i := 438) (by decide +kernel), by decide +kernel⟩
theorem zm_439 : zgo (Cond.instanceMethod yX2_wearOut) := ⟨List.mem_of_getElem? (i := 439) (by decide +kernel), by decide +kernel⟩
theorem zm_440 : zgo (Cond.selects RX2 yX2_wearOut yX2_wearOut) := ⟨List.mem_of_getElem? (i := 440) (by decide +kernel), by decide +kernel⟩
theorem zm_441 : zgo (Cond.code yX2_wearOut cX2_wearOut 6 none) := ⟨List.mem_of_getElem? (i := 441) (by decide +kernel), by decide +kernel⟩
theorem zm_247 : zgo (Cond.fieldLink RX2 99 "Gangline$Dog" "feet" "I") := ⟨List.mem_of_getElem? (i := 247) (by decide +kernel), by decide +kernel⟩
theorem zm_250 : zgo (Cond.fieldLink RX2 105 "Gangline$Dog" "food" "I") := ⟨List.mem_of_getElem? (i := 250) (by decide +kernel), by decide +kernel⟩
theorem zm_253 : zgo (Cond.fieldLink RX2 108 "Gangline$Dog" "water" "I") := ⟨List.mem_of_getElem? (i := 253) (by decide +kernel), by decide +kernel⟩
theorem zm_256 : zgo (Cond.fieldLink RX2 102 "Gangline$Dog" "trust" "I") := ⟨List.mem_of_getElem? (i := 256) (by decide +kernel), by decide +kernel⟩
theorem zm_261 : zgo (Cond.fieldLink RX2 76 "Gangline$Dog" "state" "C") := ⟨List.mem_of_getElem? (i := 261) (by decide +kernel), by decide +kernel⟩
theorem zm_442 : zgo (Cond.methodLink RX6 521 yX6_arrive) := ⟨List.mem_of_getElem? (i := 442) (by decide +kernel), by decide +kernel⟩
theorem zm_444 : zgo (Cond.instanceMethod yX6_arrive) := ⟨List.mem_of_getElem? (i := 444) (by decide +kernel), by decide +kernel⟩
theorem zm_10 : zgo (Cond.selects RX6 yX6_arrive yX6_arrive) := ⟨List.mem_of_getElem? (i := 10) (by decide +kernel), by decide +kernel⟩
theorem zm_445 : zgo (Cond.code yX6_arrive cX6_arrive 2 none) := ⟨List.mem_of_getElem? (i := 445) (by decide +kernel), by decide +kernel⟩
theorem zw_wsL_run_r5 : GoodIn lw_tbl wsL_run_r5 := (zgc zm_430 (zgc zm_238 (zgc zm_431 (zgc zm_432 (zgc zm_433 (zgc zm_434 (zgc zm_640 (zgc zm_435 (zgc zm_436 (zgc zm_437 (zgc zm_438 (zgc zm_439 (zgc zm_440 (zgc zm_441 (zgc zm_247 (zgc zm_250 (zgc zm_253 (zgc zm_256 (zgc zm_261 (zgc zm_442 (zgc zm_444 (zgc zm_10 (zgc zm_445 (zgc zm_182 zgn))))))))))))))))))))))))
theorem zm_446 : zgo (Cond.methodLink RX6 524 yX2_hasDead) := ⟨List.mem_of_getElem? (i := 446) (by decide +kernel), by decide +kernel⟩
theorem zm_447 : zgo (Cond.instanceMethod yX2_hasDead) := ⟨List.mem_of_getElem? (i := 447) (by decide +kernel), by decide +kernel⟩
theorem zm_448 : zgo (Cond.selects RX2 yX2_hasDead yX2_hasDead) := ⟨List.mem_of_getElem? (i := 448) (by decide +kernel), by decide +kernel⟩
theorem zm_449 : zgo (Cond.code yX2_hasDead cX2_hasDead 2 (some .boolean)) := ⟨List.mem_of_getElem? (i := 449) (by decide +kernel), by decide +kernel⟩
theorem zm_450 : zgo (Cond.methodLink RX6 225 yX2_endRace) := ⟨List.mem_of_getElem? (i := 450) (by decide +kernel), by decide +kernel⟩
theorem zm_451 : zgo (Cond.instanceMethod yX2_endRace) := ⟨List.mem_of_getElem? (i := 451) (by decide +kernel), by decide +kernel⟩
theorem zm_452 : zgo (Cond.selects RX2 yX2_endRace yX2_endRace) := ⟨List.mem_of_getElem? (i := 452) (by decide +kernel), by decide +kernel⟩
theorem zm_453 : zgo (Cond.code yX2_endRace cX2_endRace 3 none) := ⟨List.mem_of_getElem? (i := 453) (by decide +kernel), by decide +kernel⟩
theorem zm_858 : zgo (Cond.methodLink RX6 183 yX6_settle) := ⟨List.mem_of_getElem? (i := 858) (by decide +kernel), by decide +kernel⟩
theorem zm_860 : zgo (Cond.instanceMethod yX6_settle) := ⟨List.mem_of_getElem? (i := 860) (by decide +kernel), by decide +kernel⟩
theorem zm_28 : zgo (Cond.selects RX6 yX6_settle yX6_settle) := ⟨List.mem_of_getElem? (i := 28) (by decide +kernel), by decide +kernel⟩
theorem zm_861 : zgo (Cond.code yX6_settle cX6_settle 3 none) := ⟨List.mem_of_getElem? (i := 861) (by decide +kernel), by decide +kernel⟩
theorem zm_765 : zgo (Cond.fieldLink RX6 272 "Gangline$Team" "why" "C") := ⟨List.mem_of_getElem? (i := 765) (by decide +kernel), by decide +kernel⟩
theorem zw_wsL_run_r6 : GoodIn lw_tbl wsL_run_r6 := (zgc zm_446 (zgc zm_447 (zgc zm_448 (zgc zm_449 (zgc zm_450 (zgc zm_451 (zgc zm_452 (zgc zm_453 (zgc zm_157 (zgc zm_858 (zgc zm_860 (zgc zm_28 (zgc zm_861 (zgc zm_612 (zgc zm_82 (zgc zm_765 (zgc zm_590 (zgc zm_591 (zgc zm_592 (zgc zm_593 (zgc zm_81 zgn)))))))))))))))))))))
set_option maxRecDepth 20000 in
theorem zx_5 : GoodIn lw_tbl ((vx_atM "java/lang/ArithmeticException" ["java/lang/RuntimeException", "java/lang/Exception"]).filter goodWord) := fun w h => ⟨(show ∀ w ∈ (vx_atM "java/lang/ArithmeticException" ["java/lang/RuntimeException", "java/lang/Exception"]).filter goodWord, w ∈ lw_tbl by decide +kernel) w h, good_of_word (List.mem_filter.mp h).2⟩
theorem zw_wsL_run : GoodIn lw_tbl wsL_run := (zgc zm_853 (goodIn_app (goodIn_app (goodIn_app (goodIn_app (goodIn_app (goodIn_app (goodIn_app (goodIn_app (goodIn_app (goodIn_app (goodIn_app (goodIn_app zw_wsL_run_r1 (goodIn_app zw_wsL_run_r2 (goodIn_app zw_wsL_run_r3 (goodIn_app zw_wsL_run_r4 (goodIn_app zw_wsL_run_r5 zw_wsL_run_r6))))) zw_wsX60) zw_wsX50) zw_wsX20) zw_wsX10) zw_wsX00) zw_wsX40) zx_0) zx_4) zx_5) zx_3) zx_2))
theorem zm_851 : zgo (Cond.methodLink RL 217 yL_run) := ⟨List.mem_of_getElem? (i := 851) (by decide +kernel), by decide +kernel⟩
theorem zm_852 : zgo (Cond.static yL_run) := ⟨List.mem_of_getElem? (i := 852) (by decide +kernel), by decide +kernel⟩
theorem gL_law_L_run : GoodIn lw_tbl (va_wsS RL 217 yL_run wsL_run) := goodIn_app (a := [Cond.methodLink RL 217 yL_run, Cond.static yL_run, Cond.initialized RL]) (zgc zm_851 (zgc zm_852 (zgc zm_68 zgn))) zw_wsL_run
theorem zm_1768 : zgo (Cond.code yX10_run cX10_run 4 (some .int)) := ⟨List.mem_of_getElem? (i := 1768) (by decide +kernel), by decide +kernel⟩
theorem zw_wsX10_run_r1 : GoodIn lw_tbl wsX10_run_r1 := (zgc zm_1284 (zgc zm_1397 (zgc zm_1647 (zgc zm_1649 (zgc zm_46 (zgc zm_73 (zgc zm_1650 (zgc zm_1403 (zgc zm_1406 (zgc zm_1408 (zgc zm_76 (zgc zm_1410 (zgc zm_1269 (zgc zm_1325 (zgc zm_1326 (zgc zm_1327 (zgc zm_1518 (zgc zm_1521 (zgc zm_1523 (zgc zm_1525 (zgc zm_1526 (zgc zm_1527 (zgc zm_94 (zgc zm_1528 zgn))))))))))))))))))))))))
theorem zm_1769 : zgo (Cond.methodLink RX10 290 yX10_tells) := ⟨List.mem_of_getElem? (i := 1769) (by decide +kernel), by decide +kernel⟩
theorem zm_1771 : zgo (Cond.instanceMethod yX10_tells) := ⟨List.mem_of_getElem? (i := 1771) (by decide +kernel), by decide +kernel⟩
theorem zm_48 : zgo (Cond.selects RX10 yX10_tells yX10_tells) := ⟨List.mem_of_getElem? (i := 48) (by decide +kernel), by decide +kernel⟩
theorem zm_1772 : zgo (Cond.code yX10_tells cX10_tells 6 (some .char)) := ⟨List.mem_of_getElem? (i := 1772) (by decide +kernel), by decide +kernel⟩
theorem zm_1773 : zgo (Cond.methodLink RX10 283 yX10_does) := ⟨List.mem_of_getElem? (i := 1773) (by decide +kernel), by decide +kernel⟩
theorem zm_1775 : zgo (Cond.instanceMethod yX10_does) := ⟨List.mem_of_getElem? (i := 1775) (by decide +kernel), by decide +kernel⟩
theorem zm_49 : zgo (Cond.selects RX10 yX10_does yX10_does) := ⟨List.mem_of_getElem? (i := 49) (by decide +kernel), by decide +kernel⟩
theorem zm_1776 : zgo (Cond.code yX10_does cX10_does 6 (some .char)) := ⟨List.mem_of_getElem? (i := 1776) (by decide +kernel), by decide +kernel⟩
theorem zm_1777 : zgo (Cond.methodLink RX10 258 yX10_runFault) := ⟨List.mem_of_getElem? (i := 1777) (by decide +kernel), by decide +kernel⟩
theorem zm_1779 : zgo (Cond.instanceMethod yX10_runFault) := ⟨List.mem_of_getElem? (i := 1779) (by decide +kernel), by decide +kernel⟩
theorem zm_50 : zgo (Cond.selects RX10 yX10_runFault yX10_runFault) := ⟨List.mem_of_getElem? (i := 50) (by decide +kernel), by decide +kernel⟩
theorem zm_1780 : zgo (Cond.code yX10_runFault cX10_runFault 2 (some .char)) := ⟨List.mem_of_getElem? (i := 1780) (by decide +kernel), by decide +kernel⟩
theorem zw_wsX10_run_r2 : GoodIn lw_tbl wsX10_run_r2 := (zgc zm_1529 (zgc zm_1530 (zgc zm_95 (zgc zm_1531 (zgc zm_1532 (zgc zm_1533 (zgc zm_1534 (zgc zm_1535 (zgc zm_1266 (zgc zm_1769 (zgc zm_1771 (zgc zm_48 (zgc zm_1772 (zgc zm_1290 (zgc zm_1773 (zgc zm_1775 (zgc zm_49 (zgc zm_1776 (zgc zm_1651 (zgc zm_1777 (zgc zm_1779 (zgc zm_50 (zgc zm_1780 (zgc zm_1282 zgn))))))))))))))))))))))))
theorem zm_1781 : zgo (Cond.methodLink RX10 210 yX9_hasStopped) := ⟨List.mem_of_getElem? (i := 1781) (by decide +kernel), by decide +kernel⟩
theorem zm_1782 : zgo (Cond.instanceMethod yX9_hasStopped) := ⟨List.mem_of_getElem? (i := 1782) (by decide +kernel), by decide +kernel⟩
theorem zm_1783 : zgo (Cond.selects RX9 yX9_hasStopped yX9_hasStopped) := ⟨List.mem_of_getElem? (i := 1783) (by decide +kernel), by decide +kernel⟩
theorem zm_1784 : zgo (Cond.code yX9_hasStopped cX9_hasStopped 4 (some .boolean)) := ⟨List.mem_of_getElem? (i := 1784) (by decide +kernel), by decide +kernel⟩
theorem zm_1791 : zgo (Cond.classLink RX9 67 "GanglineModel$Dog") := ⟨List.mem_of_getElem? (i := 1791) (by decide +kernel), by decide +kernel⟩
theorem zm_1786 : zgo (Cond.methodLink RX9 51 ⟨"java/util/List", "iterator", "()Ljava/util/Iterator;"⟩) := ⟨List.mem_of_getElem? (i := 1786) (by decide +kernel), by decide +kernel⟩
theorem zw_wsX10_run_r3 : GoodIn lw_tbl wsX10_run_r3 := (zgc zm_1415 (zgc zm_1398 (zgc zm_1399 (zgc zm_1400 (zgc zm_98 (zgc zm_1401 (zgc zm_1564 (zgc zm_1781 (zgc zm_1782 (zgc zm_1783 (zgc zm_1784 (zgc zm_1558 (zgc zm_1791 (zgc zm_1786 (zgc zm_1339 (zgc zm_1341 (zgc zm_1343 (zgc zm_1344 (zgc zm_1345 (zgc zm_84 (zgc zm_1346 (zgc zm_1347 (zgc zm_1348 (zgc zm_1353 zgn))))))))))))))))))))))))
theorem zm_1788 : zgo (Cond.methodLink RX9 57 ⟨"java/util/Iterator", "hasNext", "()Z"⟩) := ⟨List.mem_of_getElem? (i := 1788) (by decide +kernel), by decide +kernel⟩
theorem zm_1790 : zgo (Cond.methodLink RX9 63 ⟨"java/util/Iterator", "next", "()Ljava/lang/Object;"⟩) := ⟨List.mem_of_getElem? (i := 1790) (by decide +kernel), by decide +kernel⟩
theorem zm_1792 : zgo (Cond.methodLink RX9 133 yX7_mustStop) := ⟨List.mem_of_getElem? (i := 1792) (by decide +kernel), by decide +kernel⟩
theorem zm_1793 : zgo (Cond.instanceMethod yX7_mustStop) := ⟨List.mem_of_getElem? (i := 1793) (by decide +kernel), by decide +kernel⟩
theorem zm_1794 : zgo (Cond.selects RX7 yX7_mustStop yX7_mustStop) := ⟨List.mem_of_getElem? (i := 1794) (by decide +kernel), by decide +kernel⟩
theorem zw_wsX10_run_r4 : GoodIn lw_tbl wsX10_run_r4 := (zgc zm_1349 (zgc zm_114 (zgc zm_115 (zgc zm_1351 (zgc zm_1271 (zgc zm_1272 (zgc zm_1352 (zgc zm_1788 (zgc zm_1368 (zgc zm_1370 (zgc zm_1372 (zgc zm_1350 (zgc zm_1790 (zgc zm_1377 (zgc zm_1379 (zgc zm_1381 (zgc zm_1267 (zgc zm_1382 (zgc zm_1383 (zgc zm_1384 (zgc zm_1385 (zgc zm_1792 (zgc zm_1793 (zgc zm_1794 zgn))))))))))))))))))))))))
theorem zm_1795 : zgo (Cond.code yX7_mustStop cX7_mustStop 1 (some .boolean)) := ⟨List.mem_of_getElem? (i := 1795) (by decide +kernel), by decide +kernel⟩
theorem zm_1796 : zgo (Cond.methodLink RX10 182 yX10_stormOn) := ⟨List.mem_of_getElem? (i := 1796) (by decide +kernel), by decide +kernel⟩
theorem zm_1798 : zgo (Cond.instanceMethod yX10_stormOn) := ⟨List.mem_of_getElem? (i := 1798) (by decide +kernel), by decide +kernel⟩
theorem zm_51 : zgo (Cond.selects RX10 yX10_stormOn yX10_stormOn) := ⟨List.mem_of_getElem? (i := 51) (by decide +kernel), by decide +kernel⟩
theorem zm_1799 : zgo (Cond.code yX10_stormOn cX10_stormOn 6 (some .int)) := ⟨List.mem_of_getElem? (i := 1799) (by decide +kernel), by decide +kernel⟩
theorem zm_1800 : zgo (Cond.classLink RX10 178 "[I") := ⟨List.mem_of_getElem? (i := 1800) (by decide +kernel), by decide +kernel⟩
theorem zm_1801 : zgo (Cond.methodLink RX10 35 Lib.Math.max.name) := ⟨List.mem_of_getElem? (i := 1801) (by decide +kernel), by decide +kernel⟩
theorem zm_1802 : zgo (Cond.methodLink RX10 262 yX10_runs) := ⟨List.mem_of_getElem? (i := 1802) (by decide +kernel), by decide +kernel⟩
theorem zm_1804 : zgo (Cond.instanceMethod yX10_runs) := ⟨List.mem_of_getElem? (i := 1804) (by decide +kernel), by decide +kernel⟩
theorem zm_52 : zgo (Cond.selects RX10 yX10_runs yX10_runs) := ⟨List.mem_of_getElem? (i := 52) (by decide +kernel), by decide +kernel⟩
theorem zm_1805 : zgo (Cond.code yX10_runs cX10_runs 7 none) := ⟨List.mem_of_getElem? (i := 1805) (by decide +kernel), by decide +kernel⟩
theorem zm_1806 : zgo (Cond.methodLink RX10 235 yX10_minutesOf) := ⟨List.mem_of_getElem? (i := 1806) (by decide +kernel), by decide +kernel⟩
theorem zm_1808 : zgo (Cond.instanceMethod yX10_minutesOf) := ⟨List.mem_of_getElem? (i := 1808) (by decide +kernel), by decide +kernel⟩
theorem zw_wsX10_run_r5 : GoodIn lw_tbl wsX10_run_r5 := (zgc zm_99 (zgc zm_1795 (zgc zm_1674 (zgc zm_1676 (zgc zm_1678 (zgc zm_1796 (zgc zm_1798 (zgc zm_51 (zgc zm_1799 (zgc zm_1283 (zgc zm_1800 (zgc zm_1801 (zgc zm_409 (zgc zm_88 (zgc zm_410 (zgc zm_1335 (zgc zm_1364 (zgc zm_1374 (zgc zm_1802 (zgc zm_1804 (zgc zm_52 (zgc zm_1805 (zgc zm_1806 (zgc zm_1808 zgn))))))))))))))))))))))))
theorem zm_53 : zgo (Cond.selects RX10 yX10_minutesOf yX10_minutesOf) := ⟨List.mem_of_getElem? (i := 53) (by decide +kernel), by decide +kernel⟩
theorem zm_1809 : zgo (Cond.code yX10_minutesOf cX10_minutesOf 8 (some .int)) := ⟨List.mem_of_getElem? (i := 1809) (by decide +kernel), by decide +kernel⟩
theorem zm_1810 : zgo (Cond.methodLink RX10 186 yX7_pull) := ⟨List.mem_of_getElem? (i := 1810) (by decide +kernel), by decide +kernel⟩
theorem zm_1811 : zgo (Cond.instanceMethod yX7_pull) := ⟨List.mem_of_getElem? (i := 1811) (by decide +kernel), by decide +kernel⟩
theorem zm_1812 : zgo (Cond.selects RX7 yX7_pull yX7_pull) := ⟨List.mem_of_getElem? (i := 1812) (by decide +kernel), by decide +kernel⟩
theorem zm_1813 : zgo (Cond.code yX7_pull cX7_pull 1 (some .int)) := ⟨List.mem_of_getElem? (i := 1813) (by decide +kernel), by decide +kernel⟩
theorem zm_1814 : zgo (Cond.methodLink RX10 198 yX10_load) := ⟨List.mem_of_getElem? (i := 1814) (by decide +kernel), by decide +kernel⟩
theorem zm_1816 : zgo (Cond.instanceMethod yX10_load) := ⟨List.mem_of_getElem? (i := 1816) (by decide +kernel), by decide +kernel⟩
theorem zm_54 : zgo (Cond.selects RX10 yX10_load yX10_load) := ⟨List.mem_of_getElem? (i := 54) (by decide +kernel), by decide +kernel⟩
theorem zm_1817 : zgo (Cond.code yX10_load cX10_load 2 (some .int)) := ⟨List.mem_of_getElem? (i := 1817) (by decide +kernel), by decide +kernel⟩
theorem zm_1818 : zgo (Cond.methodLink RX10 207 yX9_bestLead) := ⟨List.mem_of_getElem? (i := 1818) (by decide +kernel), by decide +kernel⟩
theorem zm_1819 : zgo (Cond.instanceMethod yX9_bestLead) := ⟨List.mem_of_getElem? (i := 1819) (by decide +kernel), by decide +kernel⟩
theorem zm_1820 : zgo (Cond.selects RX9 yX9_bestLead yX9_bestLead) := ⟨List.mem_of_getElem? (i := 1820) (by decide +kernel), by decide +kernel⟩
theorem zm_1821 : zgo (Cond.code yX9_bestLead cX9_bestLead 3 (some .int)) := ⟨List.mem_of_getElem? (i := 1821) (by decide +kernel), by decide +kernel⟩
theorem zm_1826 : zgo (Cond.methodLink RX9 127 Lib.Math.max.name) := ⟨List.mem_of_getElem? (i := 1826) (by decide +kernel), by decide +kernel⟩
theorem zm_1823 : zgo (Cond.methodLink RX9 116 ⟨"java/util/List", "size", "()I"⟩) := ⟨List.mem_of_getElem? (i := 1823) (by decide +kernel), by decide +kernel⟩
theorem zm_1825 : zgo (Cond.methodLink RX9 120 ⟨"java/util/List", "get", "(I)Ljava/lang/Object;"⟩) := ⟨List.mem_of_getElem? (i := 1825) (by decide +kernel), by decide +kernel⟩
theorem zm_1827 : zgo (Cond.methodLink RX10 238 yX10_wears) := ⟨List.mem_of_getElem? (i := 1827) (by decide +kernel), by decide +kernel⟩
theorem zm_1829 : zgo (Cond.instanceMethod yX10_wears) := ⟨List.mem_of_getElem? (i := 1829) (by decide +kernel), by decide +kernel⟩
theorem zm_55 : zgo (Cond.selects RX10 yX10_wears yX10_wears) := ⟨List.mem_of_getElem? (i := 55) (by decide +kernel), by decide +kernel⟩
theorem zm_1830 : zgo (Cond.code yX10_wears cX10_wears 6 none) := ⟨List.mem_of_getElem? (i := 1830) (by decide +kernel), by decide +kernel⟩
theorem zm_1831 : zgo (Cond.methodLink RX10 219 yX10_held) := ⟨List.mem_of_getElem? (i := 1831) (by decide +kernel), by decide +kernel⟩
theorem zm_1832 : zgo (Cond.static yX10_held) := ⟨List.mem_of_getElem? (i := 1832) (by decide +kernel), by decide +kernel⟩
theorem zw_wsX10_run_r6 : GoodIn lw_tbl wsX10_run_r6 := (zgc zm_53 (zgc zm_1809 (zgc zm_1810 (zgc zm_1811 (zgc zm_1812 (zgc zm_1813 (zgc zm_1670 (zgc zm_1814 (zgc zm_1816 (zgc zm_54 (zgc zm_1817 (zgc zm_1818 (zgc zm_1819 (zgc zm_1820 (zgc zm_1821 (zgc zm_1826 (zgc zm_1823 (zgc zm_1825 (zgc zm_1827 (zgc zm_1829 (zgc zm_55 (zgc zm_1830 (zgc zm_1831 (zgc zm_1832 zgn))))))))))))))))))))))))
theorem zm_1833 : zgo (Cond.code yX10_held cX10_held 1 (some .int)) := ⟨List.mem_of_getElem? (i := 1833) (by decide +kernel), by decide +kernel⟩
theorem zm_1834 : zgo (Cond.methodLink RX10 29 Lib.Math.min.name) := ⟨List.mem_of_getElem? (i := 1834) (by decide +kernel), by decide +kernel⟩
theorem zm_1835 : zgo (Cond.methodLink RX10 245 yX9_hasDead) := ⟨List.mem_of_getElem? (i := 1835) (by decide +kernel), by decide +kernel⟩
theorem zm_1836 : zgo (Cond.instanceMethod yX9_hasDead) := ⟨List.mem_of_getElem? (i := 1836) (by decide +kernel), by decide +kernel⟩
theorem zm_1837 : zgo (Cond.selects RX9 yX9_hasDead yX9_hasDead) := ⟨List.mem_of_getElem? (i := 1837) (by decide +kernel), by decide +kernel⟩
theorem zm_1838 : zgo (Cond.code yX9_hasDead cX9_hasDead 4 (some .boolean)) := ⟨List.mem_of_getElem? (i := 1838) (by decide +kernel), by decide +kernel⟩
theorem zm_1839 : zgo (Cond.methodLink RX10 248 yX9_ends) := ⟨List.mem_of_getElem? (i := 1839) (by decide +kernel), by decide +kernel⟩
theorem zm_1840 : zgo (Cond.instanceMethod yX9_ends) := ⟨List.mem_of_getElem? (i := 1840) (by decide +kernel), by decide +kernel⟩
theorem zm_1841 : zgo (Cond.selects RX9 yX9_ends yX9_ends) := ⟨List.mem_of_getElem? (i := 1841) (by decide +kernel), by decide +kernel⟩
theorem zm_1842 : zgo (Cond.code yX9_ends cX9_ends 4 none) := ⟨List.mem_of_getElem? (i := 1842) (by decide +kernel), by decide +kernel⟩
theorem zm_1843 : zgo (Cond.methodLink RX10 266 yX10_camps) := ⟨List.mem_of_getElem? (i := 1843) (by decide +kernel), by decide +kernel⟩
theorem zm_1844 : zgo (Cond.static yX10_camps) := ⟨List.mem_of_getElem? (i := 1844) (by decide +kernel), by decide +kernel⟩
theorem zm_1845 : zgo (Cond.code yX10_camps cX10_camps 5 none) := ⟨List.mem_of_getElem? (i := 1845) (by decide +kernel), by decide +kernel⟩
theorem zm_1846 : zgo (Cond.methodLink RX10 270 yX10_feeds) := ⟨List.mem_of_getElem? (i := 1846) (by decide +kernel), by decide +kernel⟩
theorem zm_1847 : zgo (Cond.static yX10_feeds) := ⟨List.mem_of_getElem? (i := 1847) (by decide +kernel), by decide +kernel⟩
theorem zm_1848 : zgo (Cond.code yX10_feeds cX10_feeds 5 (some .char)) := ⟨List.mem_of_getElem? (i := 1848) (by decide +kernel), by decide +kernel⟩
theorem zm_1849 : zgo (Cond.methodLink RX10 274 yX10_restsLong) := ⟨List.mem_of_getElem? (i := 1849) (by decide +kernel), by decide +kernel⟩
theorem zm_1851 : zgo (Cond.instanceMethod yX10_restsLong) := ⟨List.mem_of_getElem? (i := 1851) (by decide +kernel), by decide +kernel⟩
theorem zm_56 : zgo (Cond.selects RX10 yX10_restsLong yX10_restsLong) := ⟨List.mem_of_getElem? (i := 56) (by decide +kernel), by decide +kernel⟩
theorem zm_1852 : zgo (Cond.code yX10_restsLong cX10_restsLong 3 (some .char)) := ⟨List.mem_of_getElem? (i := 1852) (by decide +kernel), by decide +kernel⟩
theorem zm_1853 : zgo (Cond.methodLink RX10 280 yX10_longOf) := ⟨List.mem_of_getElem? (i := 1853) (by decide +kernel), by decide +kernel⟩
theorem zm_1855 : zgo (Cond.instanceMethod yX10_longOf) := ⟨List.mem_of_getElem? (i := 1855) (by decide +kernel), by decide +kernel⟩
theorem zw_wsX10_run_r7 : GoodIn lw_tbl wsX10_run_r7 := (zgc zm_1833 (zgc zm_1834 (zgc zm_463 (zgc zm_464 (zgc zm_1835 (zgc zm_1836 (zgc zm_1837 (zgc zm_1838 (zgc zm_1839 (zgc zm_1840 (zgc zm_1841 (zgc zm_1842 (zgc zm_1843 (zgc zm_1844 (zgc zm_1845 (zgc zm_1846 (zgc zm_1847 (zgc zm_1848 (zgc zm_1849 (zgc zm_1851 (zgc zm_56 (zgc zm_1852 (zgc zm_1853 (zgc zm_1855 zgn))))))))))))))))))))))))
theorem zm_57 : zgo (Cond.selects RX10 yX10_longOf yX10_longOf) := ⟨List.mem_of_getElem? (i := 57) (by decide +kernel), by decide +kernel⟩
theorem zm_1856 : zgo (Cond.code yX10_longOf cX10_longOf 2 (some .int)) := ⟨List.mem_of_getElem? (i := 1856) (by decide +kernel), by decide +kernel⟩
theorem zm_1857 : zgo (Cond.methodLink RX10 277 yX10_restsMust) := ⟨List.mem_of_getElem? (i := 1857) (by decide +kernel), by decide +kernel⟩
theorem zm_1859 : zgo (Cond.instanceMethod yX10_restsMust) := ⟨List.mem_of_getElem? (i := 1859) (by decide +kernel), by decide +kernel⟩
theorem zm_58 : zgo (Cond.selects RX10 yX10_restsMust yX10_restsMust) := ⟨List.mem_of_getElem? (i := 58) (by decide +kernel), by decide +kernel⟩
theorem zm_1860 : zgo (Cond.code yX10_restsMust cX10_restsMust 2 (some .char)) := ⟨List.mem_of_getElem? (i := 1860) (by decide +kernel), by decide +kernel⟩
theorem zw_wsX10_run_r8 : GoodIn lw_tbl wsX10_run_r8 := (zgc zm_57 (zgc zm_1856 (zgc zm_1288 (zgc zm_1857 (zgc zm_1859 (zgc zm_58 (zgc zm_1860 (zgc zm_1411 (zgc zm_1413 (zgc zm_42 (zgc zm_1414 (zgc zm_1281 zgn))))))))))))
theorem zw_wsX10_run : GoodIn lw_tbl wsX10_run := (zgc zm_1768 (goodIn_app (goodIn_app (goodIn_app (goodIn_app (goodIn_app (goodIn_app (goodIn_app (goodIn_app (goodIn_app zw_wsX10_run_r1 (goodIn_app zw_wsX10_run_r2 (goodIn_app zw_wsX10_run_r3 (goodIn_app zw_wsX10_run_r4 (goodIn_app zw_wsX10_run_r5 (goodIn_app zw_wsX10_run_r6 (goodIn_app zw_wsX10_run_r7 zw_wsX10_run_r8))))))) zw_wsX100) zw_wsX90) zw_wsJx4a65c0) zw_wsX70) zw_wsX80) zw_wsJx354110) zx_0) zx_5))
theorem zm_1765 : zgo (Cond.methodLink RL 220 yX10_run) := ⟨List.mem_of_getElem? (i := 1765) (by decide +kernel), by decide +kernel⟩
theorem zm_1766 : zgo (Cond.instanceMethod yX10_run) := ⟨List.mem_of_getElem? (i := 1766) (by decide +kernel), by decide +kernel⟩
theorem zm_1767 : zgo (Cond.selects RX10 yX10_run yX10_run) := ⟨List.mem_of_getElem? (i := 1767) (by decide +kernel), by decide +kernel⟩
theorem gL_law_X10_run : GoodIn lw_tbl (wsV RL 220 RX10 yX10_run wsX10_run) := goodIn_app (a := [Cond.methodLink RL 220 yX10_run, Cond.instanceMethod yX10_run, Cond.selects RX10 yX10_run yX10_run, Cond.initialized RX10]) (zgc zm_1765 (zgc zm_1766 (zgc zm_1767 (zgc zm_73 zgn)))) zw_wsX10_run
theorem zm_865 : zgo (Cond.codeWith yL_camp cL_camp 5 (some .int) [(0, 10, 13, 23), (0, 10, 17, 13), (0, 10, 21, 15)]) := ⟨List.mem_of_getElem? (i := 865) (by decide +kernel), by decide +kernel⟩
theorem zm_866 : zgo (Cond.methodLink RL 56 yX6_camp) := ⟨List.mem_of_getElem? (i := 866) (by decide +kernel), by decide +kernel⟩
theorem zm_867 : zgo (Cond.instanceMethod yX6_camp) := ⟨List.mem_of_getElem? (i := 867) (by decide +kernel), by decide +kernel⟩
theorem zm_868 : zgo (Cond.selects RX6 yX6_camp yX6_camp) := ⟨List.mem_of_getElem? (i := 868) (by decide +kernel), by decide +kernel⟩
theorem zm_869 : zgo (Cond.code yX6_camp cX6_camp 4 (some .int)) := ⟨List.mem_of_getElem? (i := 869) (by decide +kernel), by decide +kernel⟩
theorem zm_454 : zgo (Cond.methodLink RX6 187 yX6_makeCamp) := ⟨List.mem_of_getElem? (i := 454) (by decide +kernel), by decide +kernel⟩
theorem zm_456 : zgo (Cond.instanceMethod yX6_makeCamp) := ⟨List.mem_of_getElem? (i := 456) (by decide +kernel), by decide +kernel⟩
theorem zm_11 : zgo (Cond.selects RX6 yX6_makeCamp yX6_makeCamp) := ⟨List.mem_of_getElem? (i := 11) (by decide +kernel), by decide +kernel⟩
theorem zw_wsL_camp_r1 : GoodIn lw_tbl wsL_camp_r1 := (zgc zm_656 (zgc zm_866 (zgc zm_867 (zgc zm_868 (zgc zm_69 (zgc zm_869 (zgc zm_298 (zgc zm_759 (zgc zm_162 (zgc zm_784 (zgc zm_786 (zgc zm_24 (zgc zm_787 (zgc zm_688 (zgc zm_91 (zgc zm_299 (zgc zm_511 (zgc zm_512 (zgc zm_513 (zgc zm_514 (zgc zm_80 (zgc zm_454 (zgc zm_456 (zgc zm_11 zgn))))))))))))))))))))))))
theorem zm_457 : zgo (Cond.code yX6_makeCamp cX6_makeCamp 3 (some .char)) := ⟨List.mem_of_getElem? (i := 457) (by decide +kernel), by decide +kernel⟩
theorem zm_458 : zgo (Cond.methodLink RX6 527 yX2_restFor) := ⟨List.mem_of_getElem? (i := 458) (by decide +kernel), by decide +kernel⟩
theorem zm_459 : zgo (Cond.instanceMethod yX2_restFor) := ⟨List.mem_of_getElem? (i := 459) (by decide +kernel), by decide +kernel⟩
theorem zm_460 : zgo (Cond.selects RX2 yX2_restFor yX2_restFor) := ⟨List.mem_of_getElem? (i := 460) (by decide +kernel), by decide +kernel⟩
theorem zm_461 : zgo (Cond.code yX2_restFor cX2_restFor 6 none) := ⟨List.mem_of_getElem? (i := 461) (by decide +kernel), by decide +kernel⟩
theorem zm_462 : zgo (Cond.methodLink RX2 96 Lib.Math.min.name) := ⟨List.mem_of_getElem? (i := 462) (by decide +kernel), by decide +kernel⟩
theorem zw_wsL_camp_r2 : GoodIn lw_tbl wsL_camp_r2 := (zgc zm_457 (zgc zm_388 (zgc zm_390 (zgc zm_6 (zgc zm_391 (zgc zm_158 (zgc zm_164 (zgc zm_293 (zgc zm_458 (zgc zm_459 (zgc zm_460 (zgc zm_71 (zgc zm_461 (zgc zm_161 (zgc zm_167 (zgc zm_462 (zgc zm_463 (zgc zm_88 (zgc zm_464 (zgc zm_189 (zgc zm_187 (zgc zm_247 (zgc zm_256 (zgc zm_858 zgn))))))))))))))))))))))))
theorem zw_wsL_camp_r3 : GoodIn lw_tbl wsL_camp_r3 := (zgc zm_860 (zgc zm_28 (zgc zm_861 (zgc zm_612 (zgc zm_82 (zgc zm_765 (zgc zm_590 (zgc zm_591 (zgc zm_592 (zgc zm_593 (zgc zm_81 zgn)))))))))))
theorem zw_wsL_camp : GoodIn lw_tbl wsL_camp := (zgc zm_865 (goodIn_app (goodIn_app (goodIn_app (goodIn_app (goodIn_app (goodIn_app (goodIn_app (goodIn_app (goodIn_app (goodIn_app zw_wsL_camp_r1 (goodIn_app zw_wsL_camp_r2 zw_wsL_camp_r3)) zw_wsX60) zw_wsX50) zw_wsX20) zw_wsX00) zx_0) zx_4) zx_1) zx_3) zx_2))
theorem zm_863 : zgo (Cond.methodLink RL 221 yL_camp) := ⟨List.mem_of_getElem? (i := 863) (by decide +kernel), by decide +kernel⟩
theorem zm_864 : zgo (Cond.static yL_camp) := ⟨List.mem_of_getElem? (i := 864) (by decide +kernel), by decide +kernel⟩
theorem gL_law_L_camp : GoodIn lw_tbl (va_wsS RL 221 yL_camp wsL_camp) := goodIn_app (a := [Cond.methodLink RL 221 yL_camp, Cond.static yL_camp, Cond.initialized RL]) (zgc zm_863 (zgc zm_864 (zgc zm_68 zgn))) zw_wsL_camp
theorem zm_1864 : zgo (Cond.code yX10_camp cX10_camp 6 (some .int)) := ⟨List.mem_of_getElem? (i := 1864) (by decide +kernel), by decide +kernel⟩
theorem zm_1865 : zgo (Cond.constantLong RX10 294 (30)) := ⟨List.mem_of_getElem? (i := 1865) (by decide +kernel), by decide +kernel⟩
theorem zw_wsX10_camp_r1 : GoodIn lw_tbl wsX10_camp_r1 := (zgc zm_1865 (zgc zm_1284 (zgc zm_1397 (zgc zm_1647 (zgc zm_1649 (zgc zm_46 (zgc zm_73 (zgc zm_1650 (zgc zm_1403 (zgc zm_1406 (zgc zm_1408 (zgc zm_76 (zgc zm_1410 (zgc zm_1269 (zgc zm_1325 (zgc zm_1326 (zgc zm_1327 (zgc zm_1769 (zgc zm_1771 (zgc zm_48 (zgc zm_1772 (zgc zm_1290 (zgc zm_1518 (zgc zm_1521 zgn))))))))))))))))))))))))
theorem zw_wsX10_camp_r2 : GoodIn lw_tbl wsX10_camp_r2 := (zgc zm_1523 (zgc zm_1525 (zgc zm_1526 (zgc zm_1527 (zgc zm_94 (zgc zm_1528 (zgc zm_1529 (zgc zm_1530 (zgc zm_95 (zgc zm_1531 (zgc zm_1532 (zgc zm_1533 (zgc zm_1534 (zgc zm_1535 (zgc zm_1266 (zgc zm_1773 (zgc zm_1775 (zgc zm_49 (zgc zm_1776 (zgc zm_1651 (zgc zm_1777 (zgc zm_1779 (zgc zm_50 (zgc zm_1780 zgn))))))))))))))))))))))))
theorem zw_wsX10_camp_r3 : GoodIn lw_tbl wsX10_camp_r3 := (zgc zm_1282 (zgc zm_1415 (zgc zm_1398 (zgc zm_1399 (zgc zm_1400 (zgc zm_98 (zgc zm_1401 (zgc zm_1564 (zgc zm_1781 (zgc zm_1782 (zgc zm_1783 (zgc zm_1784 (zgc zm_1558 (zgc zm_1791 (zgc zm_1786 (zgc zm_1339 (zgc zm_1341 (zgc zm_1343 (zgc zm_1344 (zgc zm_1345 (zgc zm_84 (zgc zm_1346 (zgc zm_1347 (zgc zm_1348 zgn))))))))))))))))))))))))
theorem zw_wsX10_camp_r4 : GoodIn lw_tbl wsX10_camp_r4 := (zgc zm_1353 (zgc zm_1349 (zgc zm_114 (zgc zm_115 (zgc zm_1351 (zgc zm_1271 (zgc zm_1272 (zgc zm_1352 (zgc zm_1788 (zgc zm_1368 (zgc zm_1370 (zgc zm_1372 (zgc zm_1350 (zgc zm_1790 (zgc zm_1377 (zgc zm_1379 (zgc zm_1381 (zgc zm_1267 (zgc zm_1382 (zgc zm_1383 (zgc zm_1384 (zgc zm_1385 (zgc zm_1792 (zgc zm_1793 zgn))))))))))))))))))))))))
theorem zw_wsX10_camp_r5 : GoodIn lw_tbl wsX10_camp_r5 := (zgc zm_1794 (zgc zm_99 (zgc zm_1795 (zgc zm_1674 (zgc zm_1676 (zgc zm_1678 (zgc zm_1796 (zgc zm_1798 (zgc zm_51 (zgc zm_1799 (zgc zm_1283 (zgc zm_1800 (zgc zm_1801 (zgc zm_409 (zgc zm_88 (zgc zm_410 (zgc zm_1335 (zgc zm_1364 (zgc zm_1374 (zgc zm_1802 (zgc zm_1804 (zgc zm_52 (zgc zm_1805 (zgc zm_1806 zgn))))))))))))))))))))))))
theorem zw_wsX10_camp_r6 : GoodIn lw_tbl wsX10_camp_r6 := (zgc zm_1808 (zgc zm_53 (zgc zm_1809 (zgc zm_1810 (zgc zm_1811 (zgc zm_1812 (zgc zm_1813 (zgc zm_1670 (zgc zm_1814 (zgc zm_1816 (zgc zm_54 (zgc zm_1817 (zgc zm_1818 (zgc zm_1819 (zgc zm_1820 (zgc zm_1821 (zgc zm_1826 (zgc zm_1823 (zgc zm_1825 (zgc zm_1827 (zgc zm_1829 (zgc zm_55 (zgc zm_1830 (zgc zm_1831 zgn))))))))))))))))))))))))
theorem zw_wsX10_camp_r7 : GoodIn lw_tbl wsX10_camp_r7 := (zgc zm_1832 (zgc zm_1833 (zgc zm_1834 (zgc zm_463 (zgc zm_464 (zgc zm_1835 (zgc zm_1836 (zgc zm_1837 (zgc zm_1838 (zgc zm_1839 (zgc zm_1840 (zgc zm_1841 (zgc zm_1842 (zgc zm_1843 (zgc zm_1844 (zgc zm_1845 (zgc zm_1846 (zgc zm_1847 (zgc zm_1848 (zgc zm_1849 (zgc zm_1851 (zgc zm_56 (zgc zm_1852 (zgc zm_1853 zgn))))))))))))))))))))))))
theorem zw_wsX10_camp_r8 : GoodIn lw_tbl wsX10_camp_r8 := (zgc zm_1855 (zgc zm_57 (zgc zm_1856 (zgc zm_1288 (zgc zm_1857 (zgc zm_1859 (zgc zm_58 (zgc zm_1860 (zgc zm_1411 (zgc zm_1413 (zgc zm_42 (zgc zm_1414 (zgc zm_1281 zgn)))))))))))))
theorem zw_wsX10_camp : GoodIn lw_tbl wsX10_camp := (zgc zm_1864 (goodIn_app (goodIn_app (goodIn_app (goodIn_app (goodIn_app (goodIn_app (goodIn_app (goodIn_app (goodIn_app zw_wsX10_camp_r1 (goodIn_app zw_wsX10_camp_r2 (goodIn_app zw_wsX10_camp_r3 (goodIn_app zw_wsX10_camp_r4 (goodIn_app zw_wsX10_camp_r5 (goodIn_app zw_wsX10_camp_r6 (goodIn_app zw_wsX10_camp_r7 zw_wsX10_camp_r8))))))) zw_wsX100) zw_wsX90) zw_wsJx4a65c0) zw_wsX70) zw_wsX80) zw_wsJx354110) zx_0) zx_5))
theorem zm_1861 : zgo (Cond.methodLink RL 223 yX10_camp) := ⟨List.mem_of_getElem? (i := 1861) (by decide +kernel), by decide +kernel⟩
theorem zm_1862 : zgo (Cond.instanceMethod yX10_camp) := ⟨List.mem_of_getElem? (i := 1862) (by decide +kernel), by decide +kernel⟩
theorem zm_1863 : zgo (Cond.selects RX10 yX10_camp yX10_camp) := ⟨List.mem_of_getElem? (i := 1863) (by decide +kernel), by decide +kernel⟩
theorem gL_law_X10_camp : GoodIn lw_tbl (wsV RL 223 RX10 yX10_camp wsX10_camp) := goodIn_app (a := [Cond.methodLink RL 223 yX10_camp, Cond.instanceMethod yX10_camp, Cond.selects RX10 yX10_camp yX10_camp, Cond.initialized RX10]) (zgc zm_1861 (zgc zm_1862 (zgc zm_1863 (zgc zm_73 zgn)))) zw_wsX10_camp
theorem zm_872 : zgo (Cond.codeWith yL_restLong cL_restLong 4 (some .int) [(0, 9, 12, 23), (0, 9, 15, 15)]) := ⟨List.mem_of_getElem? (i := 872) (by decide +kernel), by decide +kernel⟩
theorem zm_873 : zgo (Cond.methodLink RL 59 yX6_restLong) := ⟨List.mem_of_getElem? (i := 873) (by decide +kernel), by decide +kernel⟩
theorem zm_874 : zgo (Cond.instanceMethod yX6_restLong) := ⟨List.mem_of_getElem? (i := 874) (by decide +kernel), by decide +kernel⟩
theorem zm_875 : zgo (Cond.selects RX6 yX6_restLong yX6_restLong) := ⟨List.mem_of_getElem? (i := 875) (by decide +kernel), by decide +kernel⟩
theorem zm_876 : zgo (Cond.code yX6_restLong cX6_restLong 4 (some .int)) := ⟨List.mem_of_getElem? (i := 876) (by decide +kernel), by decide +kernel⟩
theorem zm_481 : zgo (Cond.methodLink RX6 191 yX6_takeLong) := ⟨List.mem_of_getElem? (i := 481) (by decide +kernel), by decide +kernel⟩
theorem zm_483 : zgo (Cond.instanceMethod yX6_takeLong) := ⟨List.mem_of_getElem? (i := 483) (by decide +kernel), by decide +kernel⟩
theorem zm_15 : zgo (Cond.selects RX6 yX6_takeLong yX6_takeLong) := ⟨List.mem_of_getElem? (i := 15) (by decide +kernel), by decide +kernel⟩
theorem zm_484 : zgo (Cond.code yX6_takeLong cX6_takeLong 2 (some .char)) := ⟨List.mem_of_getElem? (i := 484) (by decide +kernel), by decide +kernel⟩
theorem zw_wsL_restLong_r1 : GoodIn lw_tbl wsL_restLong_r1 := (zgc zm_656 (zgc zm_873 (zgc zm_874 (zgc zm_875 (zgc zm_69 (zgc zm_876 (zgc zm_298 (zgc zm_759 (zgc zm_162 (zgc zm_784 (zgc zm_786 (zgc zm_24 (zgc zm_787 (zgc zm_688 (zgc zm_91 (zgc zm_299 (zgc zm_481 (zgc zm_483 (zgc zm_15 (zgc zm_484 (zgc zm_164 (zgc zm_182 (zgc zm_388 (zgc zm_390 zgn))))))))))))))))))))))))
theorem zm_485 : zgo (Cond.methodLink RX6 530 yX6_longMinutes) := ⟨List.mem_of_getElem? (i := 485) (by decide +kernel), by decide +kernel⟩
theorem zm_487 : zgo (Cond.instanceMethod yX6_longMinutes) := ⟨List.mem_of_getElem? (i := 487) (by decide +kernel), by decide +kernel⟩
theorem zm_16 : zgo (Cond.selects RX6 yX6_longMinutes yX6_longMinutes) := ⟨List.mem_of_getElem? (i := 16) (by decide +kernel), by decide +kernel⟩
theorem zm_488 : zgo (Cond.code yX6_longMinutes cX6_longMinutes 3 (some .int)) := ⟨List.mem_of_getElem? (i := 488) (by decide +kernel), by decide +kernel⟩
theorem zw_wsL_restLong_r2 : GoodIn lw_tbl wsL_restLong_r2 := (zgc zm_6 (zgc zm_391 (zgc zm_158 (zgc zm_293 (zgc zm_485 (zgc zm_487 (zgc zm_16 (zgc zm_488 (zgc zm_160 (zgc zm_489 (zgc zm_491 (zgc zm_17 (zgc zm_492 (zgc zm_458 (zgc zm_459 (zgc zm_460 (zgc zm_71 (zgc zm_461 (zgc zm_161 (zgc zm_167 (zgc zm_462 (zgc zm_463 (zgc zm_88 (zgc zm_464 zgn))))))))))))))))))))))))
theorem zw_wsL_restLong_r3 : GoodIn lw_tbl wsL_restLong_r3 := (zgc zm_189 (zgc zm_187 (zgc zm_247 (zgc zm_256 (zgc zm_858 (zgc zm_860 (zgc zm_28 (zgc zm_861 (zgc zm_612 (zgc zm_82 (zgc zm_765 (zgc zm_590 (zgc zm_591 (zgc zm_592 (zgc zm_593 (zgc zm_81 zgn))))))))))))))))
theorem zw_wsL_restLong : GoodIn lw_tbl wsL_restLong := (zgc zm_872 (goodIn_app (goodIn_app (goodIn_app (goodIn_app (goodIn_app (goodIn_app (goodIn_app (goodIn_app (goodIn_app zw_wsL_restLong_r1 (goodIn_app zw_wsL_restLong_r2 zw_wsL_restLong_r3)) zw_wsX60) zw_wsX50) zw_wsX20) zw_wsX00) zx_0) zx_4) zx_3) zx_2))
theorem zm_870 : zgo (Cond.methodLink RL 224 yL_restLong) := ⟨List.mem_of_getElem? (i := 870) (by decide +kernel), by decide +kernel⟩
theorem zm_871 : zgo (Cond.static yL_restLong) := ⟨List.mem_of_getElem? (i := 871) (by decide +kernel), by decide +kernel⟩
theorem gL_law_L_restLong : GoodIn lw_tbl (va_wsS RL 224 yL_restLong wsL_restLong) := goodIn_app (a := [Cond.methodLink RL 224 yL_restLong, Cond.static yL_restLong, Cond.initialized RL]) (zgc zm_870 (zgc zm_871 (zgc zm_68 zgn))) zw_wsL_restLong
theorem zm_1869 : zgo (Cond.code yX10_restLong cX10_restLong 4 (some .int)) := ⟨List.mem_of_getElem? (i := 1869) (by decide +kernel), by decide +kernel⟩
theorem zw_wsX10_restLong_r1 : GoodIn lw_tbl wsX10_restLong_r1 := (zgc zm_1284 (zgc zm_1397 (zgc zm_1647 (zgc zm_1649 (zgc zm_46 (zgc zm_73 (zgc zm_1650 (zgc zm_1403 (zgc zm_1406 (zgc zm_1408 (zgc zm_76 (zgc zm_1410 (zgc zm_1269 (zgc zm_1325 (zgc zm_1326 (zgc zm_1327 (zgc zm_1518 (zgc zm_1521 (zgc zm_1523 (zgc zm_1525 (zgc zm_1526 (zgc zm_1527 (zgc zm_94 (zgc zm_1528 zgn))))))))))))))))))))))))
theorem zw_wsX10_restLong_r2 : GoodIn lw_tbl wsX10_restLong_r2 := (zgc zm_1529 (zgc zm_1530 (zgc zm_95 (zgc zm_1531 (zgc zm_1532 (zgc zm_1533 (zgc zm_1534 (zgc zm_1535 (zgc zm_1266 (zgc zm_1769 (zgc zm_1771 (zgc zm_48 (zgc zm_1772 (zgc zm_1290 (zgc zm_1773 (zgc zm_1775 (zgc zm_49 (zgc zm_1776 (zgc zm_1651 (zgc zm_1777 (zgc zm_1779 (zgc zm_50 (zgc zm_1780 (zgc zm_1282 zgn))))))))))))))))))))))))
theorem zw_wsX10_restLong_r3 : GoodIn lw_tbl wsX10_restLong_r3 := (zgc zm_1415 (zgc zm_1398 (zgc zm_1399 (zgc zm_1400 (zgc zm_98 (zgc zm_1401 (zgc zm_1564 (zgc zm_1781 (zgc zm_1782 (zgc zm_1783 (zgc zm_1784 (zgc zm_1558 (zgc zm_1791 (zgc zm_1786 (zgc zm_1339 (zgc zm_1341 (zgc zm_1343 (zgc zm_1344 (zgc zm_1345 (zgc zm_84 (zgc zm_1346 (zgc zm_1347 (zgc zm_1348 (zgc zm_1353 zgn))))))))))))))))))))))))
theorem zw_wsX10_restLong_r4 : GoodIn lw_tbl wsX10_restLong_r4 := (zgc zm_1349 (zgc zm_114 (zgc zm_115 (zgc zm_1351 (zgc zm_1271 (zgc zm_1272 (zgc zm_1352 (zgc zm_1788 (zgc zm_1368 (zgc zm_1370 (zgc zm_1372 (zgc zm_1350 (zgc zm_1790 (zgc zm_1377 (zgc zm_1379 (zgc zm_1381 (zgc zm_1267 (zgc zm_1382 (zgc zm_1383 (zgc zm_1384 (zgc zm_1385 (zgc zm_1792 (zgc zm_1793 (zgc zm_1794 zgn))))))))))))))))))))))))
theorem zw_wsX10_restLong_r5 : GoodIn lw_tbl wsX10_restLong_r5 := (zgc zm_99 (zgc zm_1795 (zgc zm_1674 (zgc zm_1676 (zgc zm_1678 (zgc zm_1796 (zgc zm_1798 (zgc zm_51 (zgc zm_1799 (zgc zm_1283 (zgc zm_1800 (zgc zm_1801 (zgc zm_409 (zgc zm_88 (zgc zm_410 (zgc zm_1335 (zgc zm_1364 (zgc zm_1374 (zgc zm_1802 (zgc zm_1804 (zgc zm_52 (zgc zm_1805 (zgc zm_1806 (zgc zm_1808 zgn))))))))))))))))))))))))
theorem zw_wsX10_restLong_r6 : GoodIn lw_tbl wsX10_restLong_r6 := (zgc zm_53 (zgc zm_1809 (zgc zm_1810 (zgc zm_1811 (zgc zm_1812 (zgc zm_1813 (zgc zm_1670 (zgc zm_1814 (zgc zm_1816 (zgc zm_54 (zgc zm_1817 (zgc zm_1818 (zgc zm_1819 (zgc zm_1820 (zgc zm_1821 (zgc zm_1826 (zgc zm_1823 (zgc zm_1825 (zgc zm_1827 (zgc zm_1829 (zgc zm_55 (zgc zm_1830 (zgc zm_1831 (zgc zm_1832 zgn))))))))))))))))))))))))
theorem zw_wsX10_restLong_r7 : GoodIn lw_tbl wsX10_restLong_r7 := (zgc zm_1833 (zgc zm_1834 (zgc zm_463 (zgc zm_464 (zgc zm_1835 (zgc zm_1836 (zgc zm_1837 (zgc zm_1838 (zgc zm_1839 (zgc zm_1840 (zgc zm_1841 (zgc zm_1842 (zgc zm_1843 (zgc zm_1844 (zgc zm_1845 (zgc zm_1846 (zgc zm_1847 (zgc zm_1848 (zgc zm_1849 (zgc zm_1851 (zgc zm_56 (zgc zm_1852 (zgc zm_1853 (zgc zm_1855 zgn))))))))))))))))))))))))
theorem zw_wsX10_restLong_r8 : GoodIn lw_tbl wsX10_restLong_r8 := (zgc zm_57 (zgc zm_1856 (zgc zm_1288 (zgc zm_1857 (zgc zm_1859 (zgc zm_58 (zgc zm_1860 (zgc zm_1411 (zgc zm_1413 (zgc zm_42 (zgc zm_1414 (zgc zm_1281 zgn))))))))))))
theorem zw_wsX10_restLong : GoodIn lw_tbl wsX10_restLong := (zgc zm_1869 (goodIn_app (goodIn_app (goodIn_app (goodIn_app (goodIn_app (goodIn_app (goodIn_app (goodIn_app (goodIn_app zw_wsX10_restLong_r1 (goodIn_app zw_wsX10_restLong_r2 (goodIn_app zw_wsX10_restLong_r3 (goodIn_app zw_wsX10_restLong_r4 (goodIn_app zw_wsX10_restLong_r5 (goodIn_app zw_wsX10_restLong_r6 (goodIn_app zw_wsX10_restLong_r7 zw_wsX10_restLong_r8))))))) zw_wsX100) zw_wsX90) zw_wsJx4a65c0) zw_wsX70) zw_wsX80) zw_wsJx354110) zx_0) zx_5))
theorem zm_1866 : zgo (Cond.methodLink RL 226 yX10_restLong) := ⟨List.mem_of_getElem? (i := 1866) (by decide +kernel), by decide +kernel⟩
theorem zm_1867 : zgo (Cond.instanceMethod yX10_restLong) := ⟨List.mem_of_getElem? (i := 1867) (by decide +kernel), by decide +kernel⟩
theorem zm_1868 : zgo (Cond.selects RX10 yX10_restLong yX10_restLong) := ⟨List.mem_of_getElem? (i := 1868) (by decide +kernel), by decide +kernel⟩
theorem gL_law_X10_restLong : GoodIn lw_tbl (wsV RL 226 RX10 yX10_restLong wsX10_restLong) := goodIn_app (a := [Cond.methodLink RL 226 yX10_restLong, Cond.instanceMethod yX10_restLong, Cond.selects RX10 yX10_restLong yX10_restLong, Cond.initialized RX10]) (zgc zm_1866 (zgc zm_1867 (zgc zm_1868 (zgc zm_73 zgn)))) zw_wsX10_restLong
theorem zm_879 : zgo (Cond.codeWith yL_restMust cL_restMust 4 (some .int) [(0, 9, 12, 23), (0, 9, 15, 15)]) := ⟨List.mem_of_getElem? (i := 879) (by decide +kernel), by decide +kernel⟩
theorem zm_880 : zgo (Cond.methodLink RL 62 yX6_restMust) := ⟨List.mem_of_getElem? (i := 880) (by decide +kernel), by decide +kernel⟩
theorem zm_881 : zgo (Cond.instanceMethod yX6_restMust) := ⟨List.mem_of_getElem? (i := 881) (by decide +kernel), by decide +kernel⟩
theorem zm_882 : zgo (Cond.selects RX6 yX6_restMust yX6_restMust) := ⟨List.mem_of_getElem? (i := 882) (by decide +kernel), by decide +kernel⟩
theorem zm_883 : zgo (Cond.code yX6_restMust cX6_restMust 3 (some .int)) := ⟨List.mem_of_getElem? (i := 883) (by decide +kernel), by decide +kernel⟩
theorem zm_493 : zgo (Cond.methodLink RX6 194 yX6_takeMust) := ⟨List.mem_of_getElem? (i := 493) (by decide +kernel), by decide +kernel⟩
theorem zm_495 : zgo (Cond.instanceMethod yX6_takeMust) := ⟨List.mem_of_getElem? (i := 495) (by decide +kernel), by decide +kernel⟩
theorem zm_18 : zgo (Cond.selects RX6 yX6_takeMust yX6_takeMust) := ⟨List.mem_of_getElem? (i := 18) (by decide +kernel), by decide +kernel⟩
theorem zm_496 : zgo (Cond.code yX6_takeMust cX6_takeMust 2 (some .char)) := ⟨List.mem_of_getElem? (i := 496) (by decide +kernel), by decide +kernel⟩
theorem zw_wsL_restMust_r1 : GoodIn lw_tbl wsL_restMust_r1 := (zgc zm_656 (zgc zm_880 (zgc zm_881 (zgc zm_882 (zgc zm_69 (zgc zm_883 (zgc zm_298 (zgc zm_759 (zgc zm_162 (zgc zm_784 (zgc zm_786 (zgc zm_24 (zgc zm_787 (zgc zm_688 (zgc zm_91 (zgc zm_299 (zgc zm_493 (zgc zm_495 (zgc zm_18 (zgc zm_496 (zgc zm_164 (zgc zm_184 (zgc zm_388 (zgc zm_390 zgn))))))))))))))))))))))))
theorem zw_wsL_restMust_r2 : GoodIn lw_tbl wsL_restMust_r2 := (zgc zm_6 (zgc zm_391 (zgc zm_158 (zgc zm_293 (zgc zm_400 (zgc zm_402 (zgc zm_7 (zgc zm_403 (zgc zm_292 (zgc zm_641 (zgc zm_458 (zgc zm_459 (zgc zm_460 (zgc zm_71 (zgc zm_461 (zgc zm_161 (zgc zm_167 (zgc zm_462 (zgc zm_463 (zgc zm_88 (zgc zm_464 (zgc zm_189 (zgc zm_187 (zgc zm_247 zgn))))))))))))))))))))))))
theorem zw_wsL_restMust_r3 : GoodIn lw_tbl wsL_restMust_r3 := (zgc zm_256 (zgc zm_858 (zgc zm_860 (zgc zm_28 (zgc zm_861 (zgc zm_612 (zgc zm_82 (zgc zm_765 (zgc zm_590 (zgc zm_591 (zgc zm_592 (zgc zm_593 (zgc zm_81 zgn)))))))))))))
theorem zw_wsL_restMust : GoodIn lw_tbl wsL_restMust := (zgc zm_879 (goodIn_app (goodIn_app (goodIn_app (goodIn_app (goodIn_app (goodIn_app (goodIn_app (goodIn_app (goodIn_app (goodIn_app zw_wsL_restMust_r1 (goodIn_app zw_wsL_restMust_r2 zw_wsL_restMust_r3)) zw_wsX60) zw_wsX50) zw_wsX20) zw_wsX10) zw_wsX00) zx_0) zx_4) zx_3) zx_2))
theorem zm_877 : zgo (Cond.methodLink RL 227 yL_restMust) := ⟨List.mem_of_getElem? (i := 877) (by decide +kernel), by decide +kernel⟩
theorem zm_878 : zgo (Cond.static yL_restMust) := ⟨List.mem_of_getElem? (i := 878) (by decide +kernel), by decide +kernel⟩
theorem gL_law_L_restMust : GoodIn lw_tbl (va_wsS RL 227 yL_restMust wsL_restMust) := goodIn_app (a := [Cond.methodLink RL 227 yL_restMust, Cond.static yL_restMust, Cond.initialized RL]) (zgc zm_877 (zgc zm_878 (zgc zm_68 zgn))) zw_wsL_restMust
theorem zm_1873 : zgo (Cond.code yX10_restMust cX10_restMust 3 (some .int)) := ⟨List.mem_of_getElem? (i := 1873) (by decide +kernel), by decide +kernel⟩
theorem zw_wsX10_restMust_r1 : GoodIn lw_tbl wsX10_restMust_r1 := (zgc zm_1284 (zgc zm_1397 (zgc zm_1647 (zgc zm_1649 (zgc zm_46 (zgc zm_73 (zgc zm_1650 (zgc zm_1403 (zgc zm_1406 (zgc zm_1408 (zgc zm_76 (zgc zm_1410 (zgc zm_1269 (zgc zm_1325 (zgc zm_1326 (zgc zm_1327 (zgc zm_1769 (zgc zm_1771 (zgc zm_48 (zgc zm_1772 (zgc zm_1290 (zgc zm_1518 (zgc zm_1521 (zgc zm_1523 zgn))))))))))))))))))))))))
theorem zw_wsX10_restMust_r2 : GoodIn lw_tbl wsX10_restMust_r2 := (zgc zm_1525 (zgc zm_1526 (zgc zm_1527 (zgc zm_94 (zgc zm_1528 (zgc zm_1529 (zgc zm_1530 (zgc zm_95 (zgc zm_1531 (zgc zm_1532 (zgc zm_1533 (zgc zm_1534 (zgc zm_1535 (zgc zm_1266 (zgc zm_1773 (zgc zm_1775 (zgc zm_49 (zgc zm_1776 (zgc zm_1651 (zgc zm_1777 (zgc zm_1779 (zgc zm_50 (zgc zm_1780 (zgc zm_1282 zgn))))))))))))))))))))))))
theorem zw_wsX10_restMust_r3 : GoodIn lw_tbl wsX10_restMust_r3 := (zgc zm_1415 (zgc zm_1398 (zgc zm_1399 (zgc zm_1400 (zgc zm_98 (zgc zm_1401 (zgc zm_1564 (zgc zm_1781 (zgc zm_1782 (zgc zm_1783 (zgc zm_1784 (zgc zm_1558 (zgc zm_1791 (zgc zm_1786 (zgc zm_1339 (zgc zm_1341 (zgc zm_1343 (zgc zm_1344 (zgc zm_1345 (zgc zm_84 (zgc zm_1346 (zgc zm_1347 (zgc zm_1348 (zgc zm_1353 zgn))))))))))))))))))))))))
theorem zw_wsX10_restMust_r4 : GoodIn lw_tbl wsX10_restMust_r4 := (zgc zm_1349 (zgc zm_114 (zgc zm_115 (zgc zm_1351 (zgc zm_1271 (zgc zm_1272 (zgc zm_1352 (zgc zm_1788 (zgc zm_1368 (zgc zm_1370 (zgc zm_1372 (zgc zm_1350 (zgc zm_1790 (zgc zm_1377 (zgc zm_1379 (zgc zm_1381 (zgc zm_1267 (zgc zm_1382 (zgc zm_1383 (zgc zm_1384 (zgc zm_1385 (zgc zm_1792 (zgc zm_1793 (zgc zm_1794 zgn))))))))))))))))))))))))
theorem zw_wsX10_restMust_r5 : GoodIn lw_tbl wsX10_restMust_r5 := (zgc zm_99 (zgc zm_1795 (zgc zm_1674 (zgc zm_1676 (zgc zm_1678 (zgc zm_1796 (zgc zm_1798 (zgc zm_51 (zgc zm_1799 (zgc zm_1283 (zgc zm_1800 (zgc zm_1801 (zgc zm_409 (zgc zm_88 (zgc zm_410 (zgc zm_1335 (zgc zm_1364 (zgc zm_1374 (zgc zm_1802 (zgc zm_1804 (zgc zm_52 (zgc zm_1805 (zgc zm_1806 (zgc zm_1808 zgn))))))))))))))))))))))))
theorem zw_wsX10_restMust_r6 : GoodIn lw_tbl wsX10_restMust_r6 := (zgc zm_53 (zgc zm_1809 (zgc zm_1810 (zgc zm_1811 (zgc zm_1812 (zgc zm_1813 (zgc zm_1670 (zgc zm_1814 (zgc zm_1816 (zgc zm_54 (zgc zm_1817 (zgc zm_1818 (zgc zm_1819 (zgc zm_1820 (zgc zm_1821 (zgc zm_1826 (zgc zm_1823 (zgc zm_1825 (zgc zm_1827 (zgc zm_1829 (zgc zm_55 (zgc zm_1830 (zgc zm_1831 (zgc zm_1832 zgn))))))))))))))))))))))))
theorem zw_wsX10_restMust_r7 : GoodIn lw_tbl wsX10_restMust_r7 := (zgc zm_1833 (zgc zm_1834 (zgc zm_463 (zgc zm_464 (zgc zm_1835 (zgc zm_1836 (zgc zm_1837 (zgc zm_1838 (zgc zm_1839 (zgc zm_1840 (zgc zm_1841 (zgc zm_1842 (zgc zm_1843 (zgc zm_1844 (zgc zm_1845 (zgc zm_1846 (zgc zm_1847 (zgc zm_1848 (zgc zm_1849 (zgc zm_1851 (zgc zm_56 (zgc zm_1852 (zgc zm_1853 (zgc zm_1855 zgn))))))))))))))))))))))))
theorem zw_wsX10_restMust_r8 : GoodIn lw_tbl wsX10_restMust_r8 := (zgc zm_57 (zgc zm_1856 (zgc zm_1288 (zgc zm_1857 (zgc zm_1859 (zgc zm_58 (zgc zm_1860 (zgc zm_1411 (zgc zm_1413 (zgc zm_42 (zgc zm_1414 (zgc zm_1281 zgn))))))))))))
theorem zw_wsX10_restMust : GoodIn lw_tbl wsX10_restMust := (zgc zm_1873 (goodIn_app (goodIn_app (goodIn_app (goodIn_app (goodIn_app (goodIn_app (goodIn_app (goodIn_app (goodIn_app zw_wsX10_restMust_r1 (goodIn_app zw_wsX10_restMust_r2 (goodIn_app zw_wsX10_restMust_r3 (goodIn_app zw_wsX10_restMust_r4 (goodIn_app zw_wsX10_restMust_r5 (goodIn_app zw_wsX10_restMust_r6 (goodIn_app zw_wsX10_restMust_r7 zw_wsX10_restMust_r8))))))) zw_wsX100) zw_wsX90) zw_wsJx4a65c0) zw_wsX70) zw_wsX80) zw_wsJx354110) zx_0) zx_5))
theorem zm_1870 : zgo (Cond.methodLink RL 229 yX10_restMust) := ⟨List.mem_of_getElem? (i := 1870) (by decide +kernel), by decide +kernel⟩
theorem zm_1871 : zgo (Cond.instanceMethod yX10_restMust) := ⟨List.mem_of_getElem? (i := 1871) (by decide +kernel), by decide +kernel⟩
theorem zm_1872 : zgo (Cond.selects RX10 yX10_restMust yX10_restMust) := ⟨List.mem_of_getElem? (i := 1872) (by decide +kernel), by decide +kernel⟩
theorem gL_law_X10_restMust : GoodIn lw_tbl (wsV RL 229 RX10 yX10_restMust wsX10_restMust) := goodIn_app (a := [Cond.methodLink RL 229 yX10_restMust, Cond.instanceMethod yX10_restMust, Cond.selects RX10 yX10_restMust yX10_restMust, Cond.initialized RX10]) (zgc zm_1870 (zgc zm_1871 (zgc zm_1872 (zgc zm_73 zgn)))) zw_wsX10_restMust
theorem zm_886 : zgo (Cond.codeWith yL_take cL_take 5 (some .int) [(0, 10, 13, 23), (0, 10, 17, 13), (0, 10, 21, 15), (0, 10, 25, 17)]) := ⟨List.mem_of_getElem? (i := 886) (by decide +kernel), by decide +kernel⟩
theorem zm_887 : zgo (Cond.methodLink RL 65 yX6_take) := ⟨List.mem_of_getElem? (i := 887) (by decide +kernel), by decide +kernel⟩
theorem zm_888 : zgo (Cond.instanceMethod yX6_take) := ⟨List.mem_of_getElem? (i := 888) (by decide +kernel), by decide +kernel⟩
theorem zm_889 : zgo (Cond.selects RX6 yX6_take yX6_take) := ⟨List.mem_of_getElem? (i := 889) (by decide +kernel), by decide +kernel⟩
theorem zm_890 : zgo (Cond.code yX6_take cX6_take 4 (some .int)) := ⟨List.mem_of_getElem? (i := 890) (by decide +kernel), by decide +kernel⟩
theorem zm_497 : zgo (Cond.methodLink RX6 197 yX6_loadUp) := ⟨List.mem_of_getElem? (i := 497) (by decide +kernel), by decide +kernel⟩
theorem zm_499 : zgo (Cond.instanceMethod yX6_loadUp) := ⟨List.mem_of_getElem? (i := 499) (by decide +kernel), by decide +kernel⟩
theorem zm_19 : zgo (Cond.selects RX6 yX6_loadUp yX6_loadUp) := ⟨List.mem_of_getElem? (i := 19) (by decide +kernel), by decide +kernel⟩
theorem zw_wsL_take_r1 : GoodIn lw_tbl wsL_take_r1 := (zgc zm_656 (zgc zm_887 (zgc zm_888 (zgc zm_889 (zgc zm_69 (zgc zm_890 (zgc zm_298 (zgc zm_759 (zgc zm_166 (zgc zm_784 (zgc zm_786 (zgc zm_24 (zgc zm_787 (zgc zm_688 (zgc zm_91 (zgc zm_299 (zgc zm_511 (zgc zm_512 (zgc zm_513 (zgc zm_514 (zgc zm_80 (zgc zm_497 (zgc zm_499 (zgc zm_19 zgn))))))))))))))))))))))))
theorem zm_500 : zgo (Cond.code yX6_loadUp cX6_loadUp 3 (some .char)) := ⟨List.mem_of_getElem? (i := 500) (by decide +kernel), by decide +kernel⟩
theorem zw_wsL_take_r2 : GoodIn lw_tbl wsL_take_r2 := (zgc zm_500 (zgc zm_186 (zgc zm_164 (zgc zm_388 (zgc zm_390 (zgc zm_6 (zgc zm_391 (zgc zm_158 (zgc zm_293 (zgc zm_858 (zgc zm_860 (zgc zm_28 (zgc zm_861 (zgc zm_612 (zgc zm_82 (zgc zm_765 (zgc zm_590 (zgc zm_591 (zgc zm_592 (zgc zm_593 (zgc zm_81 zgn)))))))))))))))))))))
theorem zw_wsL_take : GoodIn lw_tbl wsL_take := (zgc zm_886 (goodIn_app (goodIn_app (goodIn_app (goodIn_app (goodIn_app (goodIn_app (goodIn_app (goodIn_app (goodIn_app zw_wsL_take_r1 zw_wsL_take_r2) zw_wsX60) zw_wsX50) zw_wsX20) zx_0) zx_4) zx_1) zx_3) zx_2))
theorem zm_884 : zgo (Cond.methodLink RL 230 yL_take) := ⟨List.mem_of_getElem? (i := 884) (by decide +kernel), by decide +kernel⟩
theorem zm_885 : zgo (Cond.static yL_take) := ⟨List.mem_of_getElem? (i := 885) (by decide +kernel), by decide +kernel⟩
theorem gL_law_L_take : GoodIn lw_tbl (va_wsS RL 230 yL_take wsL_take) := goodIn_app (a := [Cond.methodLink RL 230 yL_take, Cond.static yL_take, Cond.initialized RL]) (zgc zm_884 (zgc zm_885 (zgc zm_68 zgn))) zw_wsL_take
theorem zm_1877 : zgo (Cond.code yX10_take cX10_take 6 (some .int)) := ⟨List.mem_of_getElem? (i := 1877) (by decide +kernel), by decide +kernel⟩
theorem zw_wsX10_take_r1 : GoodIn lw_tbl wsX10_take_r1 := (zgc zm_1746 (zgc zm_1284 (zgc zm_1397 (zgc zm_1647 (zgc zm_1649 (zgc zm_46 (zgc zm_73 (zgc zm_1650 (zgc zm_1403 (zgc zm_1406 (zgc zm_1408 (zgc zm_76 (zgc zm_1410 (zgc zm_1269 (zgc zm_1325 (zgc zm_1326 (zgc zm_1327 (zgc zm_1769 (zgc zm_1771 (zgc zm_48 (zgc zm_1772 (zgc zm_1290 (zgc zm_1518 (zgc zm_1521 zgn))))))))))))))))))))))))
theorem zw_wsX10_take_r2 : GoodIn lw_tbl wsX10_take_r2 := (zgc zm_1523 (zgc zm_1525 (zgc zm_1526 (zgc zm_1527 (zgc zm_94 (zgc zm_1528 (zgc zm_1529 (zgc zm_1530 (zgc zm_95 (zgc zm_1531 (zgc zm_1532 (zgc zm_1533 (zgc zm_1534 (zgc zm_1535 (zgc zm_1266 (zgc zm_1773 (zgc zm_1775 (zgc zm_49 (zgc zm_1776 (zgc zm_1651 (zgc zm_1777 (zgc zm_1779 (zgc zm_50 (zgc zm_1780 zgn))))))))))))))))))))))))
theorem zw_wsX10_take_r3 : GoodIn lw_tbl wsX10_take_r3 := (zgc zm_1282 (zgc zm_1415 (zgc zm_1398 (zgc zm_1399 (zgc zm_1400 (zgc zm_98 (zgc zm_1401 (zgc zm_1564 (zgc zm_1781 (zgc zm_1782 (zgc zm_1783 (zgc zm_1784 (zgc zm_1558 (zgc zm_1791 (zgc zm_1786 (zgc zm_1339 (zgc zm_1341 (zgc zm_1343 (zgc zm_1344 (zgc zm_1345 (zgc zm_84 (zgc zm_1346 (zgc zm_1347 (zgc zm_1348 zgn))))))))))))))))))))))))
theorem zw_wsX10_take_r4 : GoodIn lw_tbl wsX10_take_r4 := (zgc zm_1353 (zgc zm_1349 (zgc zm_114 (zgc zm_115 (zgc zm_1351 (zgc zm_1271 (zgc zm_1272 (zgc zm_1352 (zgc zm_1788 (zgc zm_1368 (zgc zm_1370 (zgc zm_1372 (zgc zm_1350 (zgc zm_1790 (zgc zm_1377 (zgc zm_1379 (zgc zm_1381 (zgc zm_1267 (zgc zm_1382 (zgc zm_1383 (zgc zm_1384 (zgc zm_1385 (zgc zm_1792 (zgc zm_1793 zgn))))))))))))))))))))))))
theorem zw_wsX10_take_r5 : GoodIn lw_tbl wsX10_take_r5 := (zgc zm_1794 (zgc zm_99 (zgc zm_1795 (zgc zm_1674 (zgc zm_1676 (zgc zm_1678 (zgc zm_1796 (zgc zm_1798 (zgc zm_51 (zgc zm_1799 (zgc zm_1283 (zgc zm_1800 (zgc zm_1801 (zgc zm_409 (zgc zm_88 (zgc zm_410 (zgc zm_1335 (zgc zm_1364 (zgc zm_1374 (zgc zm_1802 (zgc zm_1804 (zgc zm_52 (zgc zm_1805 (zgc zm_1806 zgn))))))))))))))))))))))))
theorem zw_wsX10_take_r6 : GoodIn lw_tbl wsX10_take_r6 := (zgc zm_1808 (zgc zm_53 (zgc zm_1809 (zgc zm_1810 (zgc zm_1811 (zgc zm_1812 (zgc zm_1813 (zgc zm_1670 (zgc zm_1814 (zgc zm_1816 (zgc zm_54 (zgc zm_1817 (zgc zm_1818 (zgc zm_1819 (zgc zm_1820 (zgc zm_1821 (zgc zm_1826 (zgc zm_1823 (zgc zm_1825 (zgc zm_1827 (zgc zm_1829 (zgc zm_55 (zgc zm_1830 (zgc zm_1831 zgn))))))))))))))))))))))))
theorem zw_wsX10_take_r7 : GoodIn lw_tbl wsX10_take_r7 := (zgc zm_1832 (zgc zm_1833 (zgc zm_1834 (zgc zm_463 (zgc zm_464 (zgc zm_1835 (zgc zm_1836 (zgc zm_1837 (zgc zm_1838 (zgc zm_1839 (zgc zm_1840 (zgc zm_1841 (zgc zm_1842 (zgc zm_1843 (zgc zm_1844 (zgc zm_1845 (zgc zm_1846 (zgc zm_1847 (zgc zm_1848 (zgc zm_1849 (zgc zm_1851 (zgc zm_56 (zgc zm_1852 (zgc zm_1853 zgn))))))))))))))))))))))))
theorem zw_wsX10_take_r8 : GoodIn lw_tbl wsX10_take_r8 := (zgc zm_1855 (zgc zm_57 (zgc zm_1856 (zgc zm_1288 (zgc zm_1857 (zgc zm_1859 (zgc zm_58 (zgc zm_1860 (zgc zm_1411 (zgc zm_1413 (zgc zm_42 (zgc zm_1414 (zgc zm_1281 zgn)))))))))))))
theorem zw_wsX10_take : GoodIn lw_tbl wsX10_take := (zgc zm_1877 (goodIn_app (goodIn_app (goodIn_app (goodIn_app (goodIn_app (goodIn_app (goodIn_app (goodIn_app (goodIn_app zw_wsX10_take_r1 (goodIn_app zw_wsX10_take_r2 (goodIn_app zw_wsX10_take_r3 (goodIn_app zw_wsX10_take_r4 (goodIn_app zw_wsX10_take_r5 (goodIn_app zw_wsX10_take_r6 (goodIn_app zw_wsX10_take_r7 zw_wsX10_take_r8))))))) zw_wsX100) zw_wsX90) zw_wsJx4a65c0) zw_wsX70) zw_wsX80) zw_wsJx354110) zx_0) zx_5))
theorem zm_1874 : zgo (Cond.methodLink RL 232 yX10_take) := ⟨List.mem_of_getElem? (i := 1874) (by decide +kernel), by decide +kernel⟩
theorem zm_1875 : zgo (Cond.instanceMethod yX10_take) := ⟨List.mem_of_getElem? (i := 1875) (by decide +kernel), by decide +kernel⟩
theorem zm_1876 : zgo (Cond.selects RX10 yX10_take yX10_take) := ⟨List.mem_of_getElem? (i := 1876) (by decide +kernel), by decide +kernel⟩
theorem gL_law_X10_take : GoodIn lw_tbl (wsV RL 232 RX10 yX10_take wsX10_take) := goodIn_app (a := [Cond.methodLink RL 232 yX10_take, Cond.instanceMethod yX10_take, Cond.selects RX10 yX10_take yX10_take, Cond.initialized RX10]) (zgc zm_1874 (zgc zm_1875 (zgc zm_1876 (zgc zm_73 zgn)))) zw_wsX10_take
theorem zm_893 : zgo (Cond.codeWith yL_feed cL_feed 5 (some .int) [(0, 10, 13, 23), (0, 10, 17, 13), (0, 10, 21, 15), (0, 10, 25, 17)]) := ⟨List.mem_of_getElem? (i := 893) (by decide +kernel), by decide +kernel⟩
theorem zm_894 : zgo (Cond.methodLink RL 68 yX6_feed) := ⟨List.mem_of_getElem? (i := 894) (by decide +kernel), by decide +kernel⟩
theorem zm_895 : zgo (Cond.instanceMethod yX6_feed) := ⟨List.mem_of_getElem? (i := 895) (by decide +kernel), by decide +kernel⟩
theorem zm_896 : zgo (Cond.selects RX6 yX6_feed yX6_feed) := ⟨List.mem_of_getElem? (i := 896) (by decide +kernel), by decide +kernel⟩
theorem zm_897 : zgo (Cond.code yX6_feed cX6_feed 4 (some .int)) := ⟨List.mem_of_getElem? (i := 897) (by decide +kernel), by decide +kernel⟩
theorem zm_465 : zgo (Cond.methodLink RX6 200 yX6_giveFood) := ⟨List.mem_of_getElem? (i := 465) (by decide +kernel), by decide +kernel⟩
theorem zm_467 : zgo (Cond.instanceMethod yX6_giveFood) := ⟨List.mem_of_getElem? (i := 467) (by decide +kernel), by decide +kernel⟩
theorem zm_12 : zgo (Cond.selects RX6 yX6_giveFood yX6_giveFood) := ⟨List.mem_of_getElem? (i := 12) (by decide +kernel), by decide +kernel⟩
theorem zw_wsL_feed_r1 : GoodIn lw_tbl wsL_feed_r1 := (zgc zm_656 (zgc zm_894 (zgc zm_895 (zgc zm_896 (zgc zm_69 (zgc zm_897 (zgc zm_298 (zgc zm_759 (zgc zm_166 (zgc zm_784 (zgc zm_786 (zgc zm_24 (zgc zm_787 (zgc zm_688 (zgc zm_91 (zgc zm_299 (zgc zm_511 (zgc zm_512 (zgc zm_513 (zgc zm_514 (zgc zm_80 (zgc zm_465 (zgc zm_467 (zgc zm_12 zgn))))))))))))))))))))))))
theorem zm_468 : zgo (Cond.code yX6_giveFood cX6_giveFood 3 (some .char)) := ⟨List.mem_of_getElem? (i := 468) (by decide +kernel), by decide +kernel⟩
theorem zm_469 : zgo (Cond.methodLink RX6 533 yX2_nourish) := ⟨List.mem_of_getElem? (i := 469) (by decide +kernel), by decide +kernel⟩
theorem zm_470 : zgo (Cond.instanceMethod yX2_nourish) := ⟨List.mem_of_getElem? (i := 470) (by decide +kernel), by decide +kernel⟩
theorem zm_471 : zgo (Cond.selects RX2 yX2_nourish yX2_nourish) := ⟨List.mem_of_getElem? (i := 471) (by decide +kernel), by decide +kernel⟩
theorem zm_472 : zgo (Cond.code yX2_nourish cX2_nourish 4 none) := ⟨List.mem_of_getElem? (i := 472) (by decide +kernel), by decide +kernel⟩
theorem zw_wsL_feed_r2 : GoodIn lw_tbl wsL_feed_r2 := (zgc zm_468 (zgc zm_190 (zgc zm_162 (zgc zm_388 (zgc zm_390 (zgc zm_6 (zgc zm_391 (zgc zm_158 (zgc zm_164 (zgc zm_293 (zgc zm_469 (zgc zm_470 (zgc zm_471 (zgc zm_71 (zgc zm_472 (zgc zm_189 (zgc zm_187 (zgc zm_250 (zgc zm_462 (zgc zm_463 (zgc zm_88 (zgc zm_464 (zgc zm_253 (zgc zm_858 zgn))))))))))))))))))))))))
theorem zw_wsL_feed_r3 : GoodIn lw_tbl wsL_feed_r3 := (zgc zm_860 (zgc zm_28 (zgc zm_861 (zgc zm_612 (zgc zm_82 (zgc zm_765 (zgc zm_590 (zgc zm_591 (zgc zm_592 (zgc zm_593 (zgc zm_81 zgn)))))))))))
theorem zw_wsL_feed : GoodIn lw_tbl wsL_feed := (zgc zm_893 (goodIn_app (goodIn_app (goodIn_app (goodIn_app (goodIn_app (goodIn_app (goodIn_app (goodIn_app (goodIn_app (goodIn_app zw_wsL_feed_r1 (goodIn_app zw_wsL_feed_r2 zw_wsL_feed_r3)) zw_wsX60) zw_wsX50) zw_wsX20) zw_wsX00) zx_0) zx_4) zx_1) zx_3) zx_2))
theorem zm_891 : zgo (Cond.methodLink RL 233 yL_feed) := ⟨List.mem_of_getElem? (i := 891) (by decide +kernel), by decide +kernel⟩
theorem zm_892 : zgo (Cond.static yL_feed) := ⟨List.mem_of_getElem? (i := 892) (by decide +kernel), by decide +kernel⟩
theorem gL_law_L_feed : GoodIn lw_tbl (va_wsS RL 233 yL_feed wsL_feed) := goodIn_app (a := [Cond.methodLink RL 233 yL_feed, Cond.static yL_feed, Cond.initialized RL]) (zgc zm_891 (zgc zm_892 (zgc zm_68 zgn))) zw_wsL_feed
theorem zm_1881 : zgo (Cond.code yX10_feed cX10_feed 6 (some .int)) := ⟨List.mem_of_getElem? (i := 1881) (by decide +kernel), by decide +kernel⟩
theorem zm_1882 : zgo (Cond.constantLong RX10 296 (3)) := ⟨List.mem_of_getElem? (i := 1882) (by decide +kernel), by decide +kernel⟩
theorem zw_wsX10_feed_r1 : GoodIn lw_tbl wsX10_feed_r1 := (zgc zm_1882 (zgc zm_1284 (zgc zm_1397 (zgc zm_1647 (zgc zm_1649 (zgc zm_46 (zgc zm_73 (zgc zm_1650 (zgc zm_1403 (zgc zm_1406 (zgc zm_1408 (zgc zm_76 (zgc zm_1410 (zgc zm_1269 (zgc zm_1325 (zgc zm_1326 (zgc zm_1327 (zgc zm_1769 (zgc zm_1771 (zgc zm_48 (zgc zm_1772 (zgc zm_1290 (zgc zm_1518 (zgc zm_1521 zgn))))))))))))))))))))))))
theorem zw_wsX10_feed_r2 : GoodIn lw_tbl wsX10_feed_r2 := (zgc zm_1523 (zgc zm_1525 (zgc zm_1526 (zgc zm_1527 (zgc zm_94 (zgc zm_1528 (zgc zm_1529 (zgc zm_1530 (zgc zm_95 (zgc zm_1531 (zgc zm_1532 (zgc zm_1533 (zgc zm_1534 (zgc zm_1535 (zgc zm_1266 (zgc zm_1773 (zgc zm_1775 (zgc zm_49 (zgc zm_1776 (zgc zm_1651 (zgc zm_1777 (zgc zm_1779 (zgc zm_50 (zgc zm_1780 zgn))))))))))))))))))))))))
theorem zw_wsX10_feed_r3 : GoodIn lw_tbl wsX10_feed_r3 := (zgc zm_1282 (zgc zm_1415 (zgc zm_1398 (zgc zm_1399 (zgc zm_1400 (zgc zm_98 (zgc zm_1401 (zgc zm_1564 (zgc zm_1781 (zgc zm_1782 (zgc zm_1783 (zgc zm_1784 (zgc zm_1558 (zgc zm_1791 (zgc zm_1786 (zgc zm_1339 (zgc zm_1341 (zgc zm_1343 (zgc zm_1344 (zgc zm_1345 (zgc zm_84 (zgc zm_1346 (zgc zm_1347 (zgc zm_1348 zgn))))))))))))))))))))))))
theorem zw_wsX10_feed_r4 : GoodIn lw_tbl wsX10_feed_r4 := (zgc zm_1353 (zgc zm_1349 (zgc zm_114 (zgc zm_115 (zgc zm_1351 (zgc zm_1271 (zgc zm_1272 (zgc zm_1352 (zgc zm_1788 (zgc zm_1368 (zgc zm_1370 (zgc zm_1372 (zgc zm_1350 (zgc zm_1790 (zgc zm_1377 (zgc zm_1379 (zgc zm_1381 (zgc zm_1267 (zgc zm_1382 (zgc zm_1383 (zgc zm_1384 (zgc zm_1385 (zgc zm_1792 (zgc zm_1793 zgn))))))))))))))))))))))))
theorem zw_wsX10_feed_r5 : GoodIn lw_tbl wsX10_feed_r5 := (zgc zm_1794 (zgc zm_99 (zgc zm_1795 (zgc zm_1674 (zgc zm_1676 (zgc zm_1678 (zgc zm_1796 (zgc zm_1798 (zgc zm_51 (zgc zm_1799 (zgc zm_1283 (zgc zm_1800 (zgc zm_1801 (zgc zm_409 (zgc zm_88 (zgc zm_410 (zgc zm_1335 (zgc zm_1364 (zgc zm_1374 (zgc zm_1802 (zgc zm_1804 (zgc zm_52 (zgc zm_1805 (zgc zm_1806 zgn))))))))))))))))))))))))
theorem zw_wsX10_feed_r6 : GoodIn lw_tbl wsX10_feed_r6 := (zgc zm_1808 (zgc zm_53 (zgc zm_1809 (zgc zm_1810 (zgc zm_1811 (zgc zm_1812 (zgc zm_1813 (zgc zm_1670 (zgc zm_1814 (zgc zm_1816 (zgc zm_54 (zgc zm_1817 (zgc zm_1818 (zgc zm_1819 (zgc zm_1820 (zgc zm_1821 (zgc zm_1826 (zgc zm_1823 (zgc zm_1825 (zgc zm_1827 (zgc zm_1829 (zgc zm_55 (zgc zm_1830 (zgc zm_1831 zgn))))))))))))))))))))))))
theorem zw_wsX10_feed_r7 : GoodIn lw_tbl wsX10_feed_r7 := (zgc zm_1832 (zgc zm_1833 (zgc zm_1834 (zgc zm_463 (zgc zm_464 (zgc zm_1835 (zgc zm_1836 (zgc zm_1837 (zgc zm_1838 (zgc zm_1839 (zgc zm_1840 (zgc zm_1841 (zgc zm_1842 (zgc zm_1843 (zgc zm_1844 (zgc zm_1845 (zgc zm_1846 (zgc zm_1847 (zgc zm_1848 (zgc zm_1849 (zgc zm_1851 (zgc zm_56 (zgc zm_1852 (zgc zm_1853 zgn))))))))))))))))))))))))
theorem zw_wsX10_feed_r8 : GoodIn lw_tbl wsX10_feed_r8 := (zgc zm_1855 (zgc zm_57 (zgc zm_1856 (zgc zm_1288 (zgc zm_1857 (zgc zm_1859 (zgc zm_58 (zgc zm_1860 (zgc zm_1411 (zgc zm_1413 (zgc zm_42 (zgc zm_1414 (zgc zm_1281 zgn)))))))))))))
theorem zw_wsX10_feed : GoodIn lw_tbl wsX10_feed := (zgc zm_1881 (goodIn_app (goodIn_app (goodIn_app (goodIn_app (goodIn_app (goodIn_app (goodIn_app (goodIn_app (goodIn_app zw_wsX10_feed_r1 (goodIn_app zw_wsX10_feed_r2 (goodIn_app zw_wsX10_feed_r3 (goodIn_app zw_wsX10_feed_r4 (goodIn_app zw_wsX10_feed_r5 (goodIn_app zw_wsX10_feed_r6 (goodIn_app zw_wsX10_feed_r7 zw_wsX10_feed_r8))))))) zw_wsX100) zw_wsX90) zw_wsJx4a65c0) zw_wsX70) zw_wsX80) zw_wsJx354110) zx_0) zx_5))
theorem zm_1878 : zgo (Cond.methodLink RL 235 yX10_feed) := ⟨List.mem_of_getElem? (i := 1878) (by decide +kernel), by decide +kernel⟩
theorem zm_1879 : zgo (Cond.instanceMethod yX10_feed) := ⟨List.mem_of_getElem? (i := 1879) (by decide +kernel), by decide +kernel⟩
theorem zm_1880 : zgo (Cond.selects RX10 yX10_feed yX10_feed) := ⟨List.mem_of_getElem? (i := 1880) (by decide +kernel), by decide +kernel⟩
theorem gL_law_X10_feed : GoodIn lw_tbl (wsV RL 235 RX10 yX10_feed wsX10_feed) := goodIn_app (a := [Cond.methodLink RL 235 yX10_feed, Cond.instanceMethod yX10_feed, Cond.selects RX10 yX10_feed yX10_feed, Cond.initialized RX10]) (zgc zm_1878 (zgc zm_1879 (zgc zm_1880 (zgc zm_73 zgn)))) zw_wsX10_feed
theorem zm_900 : zgo (Cond.codeWith yL_melt cL_melt 4 (some .int) [(0, 9, 12, 23), (0, 9, 15, 15)]) := ⟨List.mem_of_getElem? (i := 900) (by decide +kernel), by decide +kernel⟩
theorem zm_901 : zgo (Cond.methodLink RL 71 yX6_melt) := ⟨List.mem_of_getElem? (i := 901) (by decide +kernel), by decide +kernel⟩
theorem zm_902 : zgo (Cond.instanceMethod yX6_melt) := ⟨List.mem_of_getElem? (i := 902) (by decide +kernel), by decide +kernel⟩
theorem zm_903 : zgo (Cond.selects RX6 yX6_melt yX6_melt) := ⟨List.mem_of_getElem? (i := 903) (by decide +kernel), by decide +kernel⟩
theorem zm_904 : zgo (Cond.code yX6_melt cX6_melt 3 (some .int)) := ⟨List.mem_of_getElem? (i := 904) (by decide +kernel), by decide +kernel⟩
theorem zm_473 : zgo (Cond.methodLink RX6 203 yX6_giveWater) := ⟨List.mem_of_getElem? (i := 473) (by decide +kernel), by decide +kernel⟩
theorem zm_475 : zgo (Cond.instanceMethod yX6_giveWater) := ⟨List.mem_of_getElem? (i := 475) (by decide +kernel), by decide +kernel⟩
theorem zm_13 : zgo (Cond.selects RX6 yX6_giveWater yX6_giveWater) := ⟨List.mem_of_getElem? (i := 13) (by decide +kernel), by decide +kernel⟩
theorem zm_476 : zgo (Cond.code yX6_giveWater cX6_giveWater 2 (some .char)) := ⟨List.mem_of_getElem? (i := 476) (by decide +kernel), by decide +kernel⟩
theorem zw_wsL_melt_r1 : GoodIn lw_tbl wsL_melt_r1 := (zgc zm_656 (zgc zm_901 (zgc zm_902 (zgc zm_903 (zgc zm_69 (zgc zm_904 (zgc zm_298 (zgc zm_759 (zgc zm_162 (zgc zm_784 (zgc zm_786 (zgc zm_24 (zgc zm_787 (zgc zm_688 (zgc zm_91 (zgc zm_299 (zgc zm_473 (zgc zm_475 (zgc zm_13 (zgc zm_476 (zgc zm_388 (zgc zm_390 (zgc zm_6 (zgc zm_391 zgn))))))))))))))))))))))))
theorem zw_wsL_melt_r2 : GoodIn lw_tbl wsL_melt_r2 := (zgc zm_158 (zgc zm_164 (zgc zm_293 (zgc zm_469 (zgc zm_470 (zgc zm_471 (zgc zm_71 (zgc zm_472 (zgc zm_189 (zgc zm_187 (zgc zm_250 (zgc zm_462 (zgc zm_463 (zgc zm_88 (zgc zm_464 (zgc zm_253 (zgc zm_858 (zgc zm_860 (zgc zm_28 (zgc zm_861 (zgc zm_612 (zgc zm_82 (zgc zm_765 (zgc zm_590 zgn))))))))))))))))))))))))
theorem zw_wsL_melt_r3 : GoodIn lw_tbl wsL_melt_r3 := (zgc zm_591 (zgc zm_592 (zgc zm_593 (zgc zm_81 zgn))))
theorem zw_wsL_melt : GoodIn lw_tbl wsL_melt := (zgc zm_900 (goodIn_app (goodIn_app (goodIn_app (goodIn_app (goodIn_app (goodIn_app (goodIn_app (goodIn_app (goodIn_app zw_wsL_melt_r1 (goodIn_app zw_wsL_melt_r2 zw_wsL_melt_r3)) zw_wsX60) zw_wsX50) zw_wsX20) zw_wsX00) zx_0) zx_4) zx_3) zx_2))
theorem zm_898 : zgo (Cond.methodLink RL 236 yL_melt) := ⟨List.mem_of_getElem? (i := 898) (by decide +kernel), by decide +kernel⟩
theorem zm_899 : zgo (Cond.static yL_melt) := ⟨List.mem_of_getElem? (i := 899) (by decide +kernel), by decide +kernel⟩
theorem gL_law_L_melt : GoodIn lw_tbl (va_wsS RL 236 yL_melt wsL_melt) := goodIn_app (a := [Cond.methodLink RL 236 yL_melt, Cond.static yL_melt, Cond.initialized RL]) (zgc zm_898 (zgc zm_899 (zgc zm_68 zgn))) zw_wsL_melt
theorem zm_1886 : zgo (Cond.code yX10_melt cX10_melt 3 (some .int)) := ⟨List.mem_of_getElem? (i := 1886) (by decide +kernel), by decide +kernel⟩
theorem zw_wsX10_melt_r1 : GoodIn lw_tbl wsX10_melt_r1 := (zgc zm_1284 (zgc zm_1397 (zgc zm_1647 (zgc zm_1649 (zgc zm_46 (zgc zm_73 (zgc zm_1650 (zgc zm_1403 (zgc zm_1406 (zgc zm_1408 (zgc zm_76 (zgc zm_1410 (zgc zm_1269 (zgc zm_1325 (zgc zm_1326 (zgc zm_1327 (zgc zm_1769 (zgc zm_1771 (zgc zm_48 (zgc zm_1772 (zgc zm_1290 (zgc zm_1518 (zgc zm_1521 (zgc zm_1523 zgn))))))))))))))))))))))))
theorem zw_wsX10_melt_r2 : GoodIn lw_tbl wsX10_melt_r2 := (zgc zm_1525 (zgc zm_1526 (zgc zm_1527 (zgc zm_94 (zgc zm_1528 (zgc zm_1529 (zgc zm_1530 (zgc zm_95 (zgc zm_1531 (zgc zm_1532 (zgc zm_1533 (zgc zm_1534 (zgc zm_1535 (zgc zm_1266 (zgc zm_1773 (zgc zm_1775 (zgc zm_49 (zgc zm_1776 (zgc zm_1651 (zgc zm_1777 (zgc zm_1779 (zgc zm_50 (zgc zm_1780 (zgc zm_1282 zgn))))))))))))))))))))))))
theorem zw_wsX10_melt_r3 : GoodIn lw_tbl wsX10_melt_r3 := (zgc zm_1415 (zgc zm_1398 (zgc zm_1399 (zgc zm_1400 (zgc zm_98 (zgc zm_1401 (zgc zm_1564 (zgc zm_1781 (zgc zm_1782 (zgc zm_1783 (zgc zm_1784 (zgc zm_1558 (zgc zm_1791 (zgc zm_1786 (zgc zm_1339 (zgc zm_1341 (zgc zm_1343 (zgc zm_1344 (zgc zm_1345 (zgc zm_84 (zgc zm_1346 (zgc zm_1347 (zgc zm_1348 (zgc zm_1353 zgn))))))))))))))))))))))))
theorem zw_wsX10_melt_r4 : GoodIn lw_tbl wsX10_melt_r4 := (zgc zm_1349 (zgc zm_114 (zgc zm_115 (zgc zm_1351 (zgc zm_1271 (zgc zm_1272 (zgc zm_1352 (zgc zm_1788 (zgc zm_1368 (zgc zm_1370 (zgc zm_1372 (zgc zm_1350 (zgc zm_1790 (zgc zm_1377 (zgc zm_1379 (zgc zm_1381 (zgc zm_1267 (zgc zm_1382 (zgc zm_1383 (zgc zm_1384 (zgc zm_1385 (zgc zm_1792 (zgc zm_1793 (zgc zm_1794 zgn))))))))))))))))))))))))
theorem zw_wsX10_melt_r5 : GoodIn lw_tbl wsX10_melt_r5 := (zgc zm_99 (zgc zm_1795 (zgc zm_1674 (zgc zm_1676 (zgc zm_1678 (zgc zm_1796 (zgc zm_1798 (zgc zm_51 (zgc zm_1799 (zgc zm_1283 (zgc zm_1800 (zgc zm_1801 (zgc zm_409 (zgc zm_88 (zgc zm_410 (zgc zm_1335 (zgc zm_1364 (zgc zm_1374 (zgc zm_1802 (zgc zm_1804 (zgc zm_52 (zgc zm_1805 (zgc zm_1806 (zgc zm_1808 zgn))))))))))))))))))))))))
theorem zw_wsX10_melt_r6 : GoodIn lw_tbl wsX10_melt_r6 := (zgc zm_53 (zgc zm_1809 (zgc zm_1810 (zgc zm_1811 (zgc zm_1812 (zgc zm_1813 (zgc zm_1670 (zgc zm_1814 (zgc zm_1816 (zgc zm_54 (zgc zm_1817 (zgc zm_1818 (zgc zm_1819 (zgc zm_1820 (zgc zm_1821 (zgc zm_1826 (zgc zm_1823 (zgc zm_1825 (zgc zm_1827 (zgc zm_1829 (zgc zm_55 (zgc zm_1830 (zgc zm_1831 (zgc zm_1832 zgn))))))))))))))))))))))))
theorem zw_wsX10_melt_r7 : GoodIn lw_tbl wsX10_melt_r7 := (zgc zm_1833 (zgc zm_1834 (zgc zm_463 (zgc zm_464 (zgc zm_1835 (zgc zm_1836 (zgc zm_1837 (zgc zm_1838 (zgc zm_1839 (zgc zm_1840 (zgc zm_1841 (zgc zm_1842 (zgc zm_1843 (zgc zm_1844 (zgc zm_1845 (zgc zm_1846 (zgc zm_1847 (zgc zm_1848 (zgc zm_1849 (zgc zm_1851 (zgc zm_56 (zgc zm_1852 (zgc zm_1853 (zgc zm_1855 zgn))))))))))))))))))))))))
theorem zw_wsX10_melt_r8 : GoodIn lw_tbl wsX10_melt_r8 := (zgc zm_57 (zgc zm_1856 (zgc zm_1288 (zgc zm_1857 (zgc zm_1859 (zgc zm_58 (zgc zm_1860 (zgc zm_1411 (zgc zm_1413 (zgc zm_42 (zgc zm_1414 (zgc zm_1281 zgn))))))))))))
theorem zw_wsX10_melt : GoodIn lw_tbl wsX10_melt := (zgc zm_1886 (goodIn_app (goodIn_app (goodIn_app (goodIn_app (goodIn_app (goodIn_app (goodIn_app (goodIn_app (goodIn_app zw_wsX10_melt_r1 (goodIn_app zw_wsX10_melt_r2 (goodIn_app zw_wsX10_melt_r3 (goodIn_app zw_wsX10_melt_r4 (goodIn_app zw_wsX10_melt_r5 (goodIn_app zw_wsX10_melt_r6 (goodIn_app zw_wsX10_melt_r7 zw_wsX10_melt_r8))))))) zw_wsX100) zw_wsX90) zw_wsJx4a65c0) zw_wsX70) zw_wsX80) zw_wsJx354110) zx_0) zx_5))
theorem zm_1883 : zgo (Cond.methodLink RL 238 yX10_melt) := ⟨List.mem_of_getElem? (i := 1883) (by decide +kernel), by decide +kernel⟩
theorem zm_1884 : zgo (Cond.instanceMethod yX10_melt) := ⟨List.mem_of_getElem? (i := 1884) (by decide +kernel), by decide +kernel⟩
theorem zm_1885 : zgo (Cond.selects RX10 yX10_melt yX10_melt) := ⟨List.mem_of_getElem? (i := 1885) (by decide +kernel), by decide +kernel⟩
theorem gL_law_X10_melt : GoodIn lw_tbl (wsV RL 238 RX10 yX10_melt wsX10_melt) := goodIn_app (a := [Cond.methodLink RL 238 yX10_melt, Cond.instanceMethod yX10_melt, Cond.selects RX10 yX10_melt yX10_melt, Cond.initialized RX10]) (zgc zm_1883 (zgc zm_1884 (zgc zm_1885 (zgc zm_73 zgn)))) zw_wsX10_melt
theorem zm_907 : zgo (Cond.codeWith yL_boots cL_boots 5 (some .int) [(0, 17, 20, 23), (0, 17, 24, 15)]) := ⟨List.mem_of_getElem? (i := 907) (by decide +kernel), by decide +kernel⟩
theorem zm_908 : zgo (Cond.methodLink RL 74 yX6_boots) := ⟨List.mem_of_getElem? (i := 908) (by decide +kernel), by decide +kernel⟩
theorem zm_909 : zgo (Cond.instanceMethod yX6_boots) := ⟨List.mem_of_getElem? (i := 909) (by decide +kernel), by decide +kernel⟩
theorem zm_910 : zgo (Cond.selects RX6 yX6_boots yX6_boots) := ⟨List.mem_of_getElem? (i := 910) (by decide +kernel), by decide +kernel⟩
theorem zm_911 : zgo (Cond.code yX6_boots cX6_boots 4 (some .boolean)) := ⟨List.mem_of_getElem? (i := 911) (by decide +kernel), by decide +kernel⟩
theorem zm_477 : zgo (Cond.methodLink RX6 206 yX6_putBoots) := ⟨List.mem_of_getElem? (i := 477) (by decide +kernel), by decide +kernel⟩
theorem zm_479 : zgo (Cond.instanceMethod yX6_putBoots) := ⟨List.mem_of_getElem? (i := 479) (by decide +kernel), by decide +kernel⟩
theorem zm_14 : zgo (Cond.selects RX6 yX6_putBoots yX6_putBoots) := ⟨List.mem_of_getElem? (i := 14) (by decide +kernel), by decide +kernel⟩
theorem zm_480 : zgo (Cond.code yX6_putBoots cX6_putBoots 3 (some .char)) := ⟨List.mem_of_getElem? (i := 480) (by decide +kernel), by decide +kernel⟩
theorem zw_wsL_boots_r1 : GoodIn lw_tbl wsL_boots_r1 := (zgc zm_656 (zgc zm_908 (zgc zm_909 (zgc zm_910 (zgc zm_69 (zgc zm_911 (zgc zm_298 (zgc zm_759 (zgc zm_176 (zgc zm_784 (zgc zm_786 (zgc zm_24 (zgc zm_787 (zgc zm_688 (zgc zm_91 (zgc zm_299 (zgc zm_477 (zgc zm_479 (zgc zm_14 (zgc zm_480 (zgc zm_174 (zgc zm_388 (zgc zm_390 (zgc zm_6 zgn))))))))))))))))))))))))
theorem zw_wsL_boots_r2 : GoodIn lw_tbl wsL_boots_r2 := (zgc zm_391 (zgc zm_158 (zgc zm_164 (zgc zm_293 (zgc zm_858 (zgc zm_860 (zgc zm_28 (zgc zm_861 (zgc zm_612 (zgc zm_82 (zgc zm_765 (zgc zm_590 (zgc zm_591 (zgc zm_592 (zgc zm_593 (zgc zm_81 zgn))))))))))))))))
theorem zw_wsL_boots : GoodIn lw_tbl wsL_boots := (zgc zm_907 (goodIn_app (goodIn_app (goodIn_app (goodIn_app (goodIn_app (goodIn_app (goodIn_app (goodIn_app zw_wsL_boots_r1 zw_wsL_boots_r2) zw_wsX60) zw_wsX50) zw_wsX20) zx_0) zx_4) zx_3) zx_2))
theorem zm_905 : zgo (Cond.methodLink RL 239 yL_boots) := ⟨List.mem_of_getElem? (i := 905) (by decide +kernel), by decide +kernel⟩
theorem zm_906 : zgo (Cond.static yL_boots) := ⟨List.mem_of_getElem? (i := 906) (by decide +kernel), by decide +kernel⟩
theorem gL_law_L_boots : GoodIn lw_tbl (va_wsS RL 239 yL_boots wsL_boots) := goodIn_app (a := [Cond.methodLink RL 239 yL_boots, Cond.static yL_boots, Cond.initialized RL]) (zgc zm_905 (zgc zm_906 (zgc zm_68 zgn))) zw_wsL_boots
theorem zm_1890 : zgo (Cond.code yX10_boots cX10_boots 4 (some .boolean)) := ⟨List.mem_of_getElem? (i := 1890) (by decide +kernel), by decide +kernel⟩
theorem zw_wsX10_boots_r1 : GoodIn lw_tbl wsX10_boots_r1 := (zgc zm_1284 (zgc zm_1397 (zgc zm_1647 (zgc zm_1649 (zgc zm_46 (zgc zm_73 (zgc zm_1650 (zgc zm_1403 (zgc zm_1406 (zgc zm_1408 (zgc zm_76 (zgc zm_1410 (zgc zm_1269 (zgc zm_1325 (zgc zm_1326 (zgc zm_1327 (zgc zm_1769 (zgc zm_1771 (zgc zm_48 (zgc zm_1772 (zgc zm_1290 (zgc zm_1518 (zgc zm_1521 (zgc zm_1523 zgn))))))))))))))))))))))))
theorem zw_wsX10_boots_r2 : GoodIn lw_tbl wsX10_boots_r2 := (zgc zm_1525 (zgc zm_1526 (zgc zm_1527 (zgc zm_94 (zgc zm_1528 (zgc zm_1529 (zgc zm_1530 (zgc zm_95 (zgc zm_1531 (zgc zm_1532 (zgc zm_1533 (zgc zm_1534 (zgc zm_1535 (zgc zm_1266 (zgc zm_1773 (zgc zm_1775 (zgc zm_49 (zgc zm_1776 (zgc zm_1651 (zgc zm_1777 (zgc zm_1779 (zgc zm_50 (zgc zm_1780 (zgc zm_1282 zgn))))))))))))))))))))))))
theorem zw_wsX10_boots_r3 : GoodIn lw_tbl wsX10_boots_r3 := (zgc zm_1415 (zgc zm_1398 (zgc zm_1399 (zgc zm_1400 (zgc zm_98 (zgc zm_1401 (zgc zm_1564 (zgc zm_1781 (zgc zm_1782 (zgc zm_1783 (zgc zm_1784 (zgc zm_1558 (zgc zm_1791 (zgc zm_1786 (zgc zm_1339 (zgc zm_1341 (zgc zm_1343 (zgc zm_1344 (zgc zm_1345 (zgc zm_84 (zgc zm_1346 (zgc zm_1347 (zgc zm_1348 (zgc zm_1353 zgn))))))))))))))))))))))))
theorem zw_wsX10_boots_r4 : GoodIn lw_tbl wsX10_boots_r4 := (zgc zm_1349 (zgc zm_114 (zgc zm_115 (zgc zm_1351 (zgc zm_1271 (zgc zm_1272 (zgc zm_1352 (zgc zm_1788 (zgc zm_1368 (zgc zm_1370 (zgc zm_1372 (zgc zm_1350 (zgc zm_1790 (zgc zm_1377 (zgc zm_1379 (zgc zm_1381 (zgc zm_1267 (zgc zm_1382 (zgc zm_1383 (zgc zm_1384 (zgc zm_1385 (zgc zm_1792 (zgc zm_1793 (zgc zm_1794 zgn))))))))))))))))))))))))
theorem zw_wsX10_boots_r5 : GoodIn lw_tbl wsX10_boots_r5 := (zgc zm_99 (zgc zm_1795 (zgc zm_1674 (zgc zm_1676 (zgc zm_1678 (zgc zm_1796 (zgc zm_1798 (zgc zm_51 (zgc zm_1799 (zgc zm_1283 (zgc zm_1800 (zgc zm_1801 (zgc zm_409 (zgc zm_88 (zgc zm_410 (zgc zm_1335 (zgc zm_1364 (zgc zm_1374 (zgc zm_1802 (zgc zm_1804 (zgc zm_52 (zgc zm_1805 (zgc zm_1806 (zgc zm_1808 zgn))))))))))))))))))))))))
theorem zw_wsX10_boots_r6 : GoodIn lw_tbl wsX10_boots_r6 := (zgc zm_53 (zgc zm_1809 (zgc zm_1810 (zgc zm_1811 (zgc zm_1812 (zgc zm_1813 (zgc zm_1670 (zgc zm_1814 (zgc zm_1816 (zgc zm_54 (zgc zm_1817 (zgc zm_1818 (zgc zm_1819 (zgc zm_1820 (zgc zm_1821 (zgc zm_1826 (zgc zm_1823 (zgc zm_1825 (zgc zm_1827 (zgc zm_1829 (zgc zm_55 (zgc zm_1830 (zgc zm_1831 (zgc zm_1832 zgn))))))))))))))))))))))))
theorem zw_wsX10_boots_r7 : GoodIn lw_tbl wsX10_boots_r7 := (zgc zm_1833 (zgc zm_1834 (zgc zm_463 (zgc zm_464 (zgc zm_1835 (zgc zm_1836 (zgc zm_1837 (zgc zm_1838 (zgc zm_1839 (zgc zm_1840 (zgc zm_1841 (zgc zm_1842 (zgc zm_1843 (zgc zm_1844 (zgc zm_1845 (zgc zm_1846 (zgc zm_1847 (zgc zm_1848 (zgc zm_1849 (zgc zm_1851 (zgc zm_56 (zgc zm_1852 (zgc zm_1853 (zgc zm_1855 zgn))))))))))))))))))))))))
theorem zw_wsX10_boots_r8 : GoodIn lw_tbl wsX10_boots_r8 := (zgc zm_57 (zgc zm_1856 (zgc zm_1288 (zgc zm_1857 (zgc zm_1859 (zgc zm_58 (zgc zm_1860 (zgc zm_1411 (zgc zm_1413 (zgc zm_42 (zgc zm_1414 (zgc zm_1281 zgn))))))))))))
theorem zw_wsX10_boots : GoodIn lw_tbl wsX10_boots := (zgc zm_1890 (goodIn_app (goodIn_app (goodIn_app (goodIn_app (goodIn_app (goodIn_app (goodIn_app (goodIn_app (goodIn_app zw_wsX10_boots_r1 (goodIn_app zw_wsX10_boots_r2 (goodIn_app zw_wsX10_boots_r3 (goodIn_app zw_wsX10_boots_r4 (goodIn_app zw_wsX10_boots_r5 (goodIn_app zw_wsX10_boots_r6 (goodIn_app zw_wsX10_boots_r7 zw_wsX10_boots_r8))))))) zw_wsX100) zw_wsX90) zw_wsJx4a65c0) zw_wsX70) zw_wsX80) zw_wsJx354110) zx_0) zx_5))
theorem zm_1887 : zgo (Cond.methodLink RL 241 yX10_boots) := ⟨List.mem_of_getElem? (i := 1887) (by decide +kernel), by decide +kernel⟩
theorem zm_1888 : zgo (Cond.instanceMethod yX10_boots) := ⟨List.mem_of_getElem? (i := 1888) (by decide +kernel), by decide +kernel⟩
theorem zm_1889 : zgo (Cond.selects RX10 yX10_boots yX10_boots) := ⟨List.mem_of_getElem? (i := 1889) (by decide +kernel), by decide +kernel⟩
theorem gL_law_X10_boots : GoodIn lw_tbl (wsV RL 241 RX10 yX10_boots wsX10_boots) := goodIn_app (a := [Cond.methodLink RL 241 yX10_boots, Cond.instanceMethod yX10_boots, Cond.selects RX10 yX10_boots yX10_boots, Cond.initialized RX10]) (zgc zm_1887 (zgc zm_1888 (zgc zm_1889 (zgc zm_73 zgn)))) zw_wsX10_boots
theorem zm_914 : zgo (Cond.codeWith yL_give cL_give 6 (some .int) [(0, 12, 15, 23), (0, 12, 19, 13), (0, 12, 23, 15), (0, 12, 27, 17)]) := ⟨List.mem_of_getElem? (i := 914) (by decide +kernel), by decide +kernel⟩
theorem zm_915 : zgo (Cond.methodLink RL 77 yX6_give) := ⟨List.mem_of_getElem? (i := 915) (by decide +kernel), by decide +kernel⟩
theorem zm_916 : zgo (Cond.instanceMethod yX6_give) := ⟨List.mem_of_getElem? (i := 916) (by decide +kernel), by decide +kernel⟩
theorem zm_917 : zgo (Cond.selects RX6 yX6_give yX6_give) := ⟨List.mem_of_getElem? (i := 917) (by decide +kernel), by decide +kernel⟩
theorem zm_918 : zgo (Cond.code yX6_give cX6_give 6 (some .int)) := ⟨List.mem_of_getElem? (i := 918) (by decide +kernel), by decide +kernel⟩
theorem zw_wsL_give_r1 : GoodIn lw_tbl wsL_give_r1 := (zgc zm_656 (zgc zm_915 (zgc zm_916 (zgc zm_917 (zgc zm_69 (zgc zm_918 (zgc zm_612 (zgc zm_82 (zgc zm_298 (zgc zm_759 (zgc zm_164 (zgc zm_166 (zgc zm_784 (zgc zm_786 (zgc zm_24 (zgc zm_787 (zgc zm_688 (zgc zm_91 (zgc zm_299 (zgc zm_511 (zgc zm_512 (zgc zm_513 (zgc zm_514 (zgc zm_80 zgn))))))))))))))))))))))))
theorem zw_wsL_give_r2 : GoodIn lw_tbl wsL_give_r2 := (zgc zm_388 (zgc zm_390 (zgc zm_6 (zgc zm_391 (zgc zm_158 (zgc zm_293 (zgc zm_590 (zgc zm_591 (zgc zm_592 (zgc zm_593 (zgc zm_81 zgn)))))))))))
theorem zw_wsL_give : GoodIn lw_tbl wsL_give := (zgc zm_914 (goodIn_app (goodIn_app (goodIn_app (goodIn_app (goodIn_app (goodIn_app (goodIn_app (goodIn_app (goodIn_app zw_wsL_give_r1 zw_wsL_give_r2) zw_wsX60) zw_wsX50) zw_wsX20) zx_0) zx_3) zx_4) zx_1) zx_2))
theorem zm_912 : zgo (Cond.methodLink RL 242 yL_give) := ⟨List.mem_of_getElem? (i := 912) (by decide +kernel), by decide +kernel⟩
theorem zm_913 : zgo (Cond.static yL_give) := ⟨List.mem_of_getElem? (i := 913) (by decide +kernel), by decide +kernel⟩
theorem gL_law_L_give : GoodIn lw_tbl (va_wsS RL 242 yL_give wsL_give) := goodIn_app (a := [Cond.methodLink RL 242 yL_give, Cond.static yL_give, Cond.initialized RL]) (zgc zm_912 (zgc zm_913 (zgc zm_68 zgn))) zw_wsL_give
theorem zm_1894 : zgo (Cond.code yX10_give cX10_give 9 (some .int)) := ⟨List.mem_of_getElem? (i := 1894) (by decide +kernel), by decide +kernel⟩
theorem zw_wsX10_give_r1 : GoodIn lw_tbl wsX10_give_r1 := (zgc zm_1284 (zgc zm_1397 (zgc zm_1760 (zgc zm_1647 (zgc zm_1649 (zgc zm_46 (zgc zm_73 (zgc zm_1650 (zgc zm_1403 (zgc zm_1406 (zgc zm_1408 (zgc zm_76 (zgc zm_1410 (zgc zm_1269 (zgc zm_1325 (zgc zm_1326 (zgc zm_1327 (zgc zm_1518 (zgc zm_1521 (zgc zm_1523 (zgc zm_1525 (zgc zm_1526 (zgc zm_1527 (zgc zm_94 zgn))))))))))))))))))))))))
theorem zw_wsX10_give_r2 : GoodIn lw_tbl wsX10_give_r2 := (zgc zm_1528 (zgc zm_1529 (zgc zm_1530 (zgc zm_95 (zgc zm_1531 (zgc zm_1532 (zgc zm_1533 (zgc zm_1534 (zgc zm_1535 (zgc zm_1266 (zgc zm_1398 (zgc zm_1399 (zgc zm_1400 (zgc zm_98 (zgc zm_1401 (zgc zm_1564 (zgc zm_1411 (zgc zm_1413 (zgc zm_42 (zgc zm_1414 (zgc zm_1281 zgn)))))))))))))))))))))
theorem zw_wsX10_give : GoodIn lw_tbl wsX10_give := (zgc zm_1894 (goodIn_app (goodIn_app (goodIn_app (goodIn_app zw_wsX10_give_r1 zw_wsX10_give_r2) zw_wsX100) zw_wsX90) zw_wsJx4a65c0))
theorem zm_1891 : zgo (Cond.methodLink RL 244 yX10_give) := ⟨List.mem_of_getElem? (i := 1891) (by decide +kernel), by decide +kernel⟩
theorem zm_1892 : zgo (Cond.instanceMethod yX10_give) := ⟨List.mem_of_getElem? (i := 1892) (by decide +kernel), by decide +kernel⟩
theorem zm_1893 : zgo (Cond.selects RX10 yX10_give yX10_give) := ⟨List.mem_of_getElem? (i := 1893) (by decide +kernel), by decide +kernel⟩
theorem gL_law_X10_give : GoodIn lw_tbl (wsV RL 244 RX10 yX10_give wsX10_give) := goodIn_app (a := [Cond.methodLink RL 244 yX10_give, Cond.instanceMethod yX10_give, Cond.selects RX10 yX10_give yX10_give, Cond.initialized RX10]) (zgc zm_1891 (zgc zm_1892 (zgc zm_1893 (zgc zm_73 zgn)))) zw_wsX10_give
theorem zm_922 : zgo (Cond.codeWith yL_help cL_help 4 (some .int) [(0, 9, 12, 23), (0, 9, 15, 15)]) := ⟨List.mem_of_getElem? (i := 922) (by decide +kernel), by decide +kernel⟩
theorem zm_923 : zgo (Cond.methodLink RL 80 yX6_help) := ⟨List.mem_of_getElem? (i := 923) (by decide +kernel), by decide +kernel⟩
theorem zm_924 : zgo (Cond.instanceMethod yX6_help) := ⟨List.mem_of_getElem? (i := 924) (by decide +kernel), by decide +kernel⟩
theorem zm_925 : zgo (Cond.selects RX6 yX6_help yX6_help) := ⟨List.mem_of_getElem? (i := 925) (by decide +kernel), by decide +kernel⟩
theorem zm_926 : zgo (Cond.code yX6_help cX6_help 3 (some .int)) := ⟨List.mem_of_getElem? (i := 926) (by decide +kernel), by decide +kernel⟩
theorem zm_180 : zgo (Cond.fieldLink RX6 222 "Gangline$Party" "helps" "I") := ⟨List.mem_of_getElem? (i := 180) (by decide +kernel), by decide +kernel⟩
theorem zw_wsL_help_r1 : GoodIn lw_tbl wsL_help_r1 := (zgc zm_656 (zgc zm_923 (zgc zm_924 (zgc zm_925 (zgc zm_69 (zgc zm_926 (zgc zm_298 (zgc zm_759 (zgc zm_180 (zgc zm_784 (zgc zm_786 (zgc zm_24 (zgc zm_787 (zgc zm_688 (zgc zm_91 (zgc zm_299 (zgc zm_388 (zgc zm_390 (zgc zm_6 (zgc zm_391 (zgc zm_158 (zgc zm_164 (zgc zm_293 (zgc zm_590 zgn))))))))))))))))))))))))
theorem zm_927 : zgo (Cond.methodLink RX6 229 yX6_penaltiesOf) := ⟨List.mem_of_getElem? (i := 927) (by decide +kernel), by decide +kernel⟩
theorem zm_928 : zgo (Cond.static yX6_penaltiesOf) := ⟨List.mem_of_getElem? (i := 928) (by decide +kernel), by decide +kernel⟩
theorem zm_929 : zgo (Cond.code yX6_penaltiesOf cX6_penaltiesOf 1 (some .int)) := ⟨List.mem_of_getElem? (i := 929) (by decide +kernel), by decide +kernel⟩
theorem zw_wsL_help_r2 : GoodIn lw_tbl wsL_help_r2 := (zgc zm_591 (zgc zm_592 (zgc zm_593 (zgc zm_81 (zgc zm_450 (zgc zm_451 (zgc zm_452 (zgc zm_71 (zgc zm_453 (zgc zm_157 (zgc zm_189 (zgc zm_187 (zgc zm_261 (zgc zm_927 (zgc zm_928 (zgc zm_929 zgn))))))))))))))))
theorem zw_wsL_help : GoodIn lw_tbl wsL_help := (zgc zm_922 (goodIn_app (goodIn_app (goodIn_app (goodIn_app (goodIn_app (goodIn_app (goodIn_app (goodIn_app zw_wsL_help_r1 zw_wsL_help_r2) zw_wsX60) zw_wsX50) zw_wsX20) zw_wsX00) zx_0) zx_4) zx_2))
theorem zm_920 : zgo (Cond.methodLink RL 245 yL_help) := ⟨List.mem_of_getElem? (i := 920) (by decide +kernel), by decide +kernel⟩
theorem zm_921 : zgo (Cond.static yL_help) := ⟨List.mem_of_getElem? (i := 921) (by decide +kernel), by decide +kernel⟩
theorem gL_law_L_help : GoodIn lw_tbl (va_wsS RL 245 yL_help wsL_help) := goodIn_app (a := [Cond.methodLink RL 245 yL_help, Cond.static yL_help, Cond.initialized RL]) (zgc zm_920 (zgc zm_921 (zgc zm_68 zgn))) zw_wsL_help
theorem zm_1898 : zgo (Cond.code yX10_help cX10_help 3 (some .int)) := ⟨List.mem_of_getElem? (i := 1898) (by decide +kernel), by decide +kernel⟩
theorem zm_1899 : zgo (Cond.methodLink RX10 298 yX10_onFault) := ⟨List.mem_of_getElem? (i := 1899) (by decide +kernel), by decide +kernel⟩
theorem zm_1901 : zgo (Cond.instanceMethod yX10_onFault) := ⟨List.mem_of_getElem? (i := 1901) (by decide +kernel), by decide +kernel⟩
theorem zm_59 : zgo (Cond.selects RX10 yX10_onFault yX10_onFault) := ⟨List.mem_of_getElem? (i := 59) (by decide +kernel), by decide +kernel⟩
theorem zm_1902 : zgo (Cond.code yX10_onFault cX10_onFault 2 (some .int)) := ⟨List.mem_of_getElem? (i := 1902) (by decide +kernel), by decide +kernel⟩
theorem zw_wsX10_help_r1 : GoodIn lw_tbl wsX10_help_r1 := (zgc zm_1284 (zgc zm_1397 (zgc zm_1899 (zgc zm_1901 (zgc zm_59 (zgc zm_73 (zgc zm_1902 (zgc zm_1647 (zgc zm_1649 (zgc zm_46 (zgc zm_1650 (zgc zm_1403 (zgc zm_1406 (zgc zm_1408 (zgc zm_76 (zgc zm_1410 (zgc zm_1269 (zgc zm_1325 (zgc zm_1326 (zgc zm_1327 (zgc zm_1518 (zgc zm_1521 (zgc zm_1523 (zgc zm_1525 zgn))))))))))))))))))))))))
theorem zw_wsX10_help_r2 : GoodIn lw_tbl wsX10_help_r2 := (zgc zm_1526 (zgc zm_1527 (zgc zm_94 (zgc zm_1528 (zgc zm_1529 (zgc zm_1530 (zgc zm_95 (zgc zm_1531 (zgc zm_1532 (zgc zm_1533 (zgc zm_1534 (zgc zm_1535 (zgc zm_1266 (zgc zm_1398 (zgc zm_1399 (zgc zm_1400 (zgc zm_98 (zgc zm_1401 (zgc zm_1564 (zgc zm_1411 (zgc zm_1413 (zgc zm_42 (zgc zm_1414 (zgc zm_1281 zgn))))))))))))))))))))))))
theorem zw_wsX10_help_r3 : GoodIn lw_tbl wsX10_help_r3 := (zgc zm_1839 (zgc zm_1840 (zgc zm_1841 (zgc zm_1842 (zgc zm_1558 (zgc zm_1791 (zgc zm_1786 (zgc zm_1339 (zgc zm_1341 (zgc zm_1343 (zgc zm_1344 (zgc zm_1345 (zgc zm_84 (zgc zm_1346 (zgc zm_1347 (zgc zm_1348 (zgc zm_1353 (zgc zm_1349 (zgc zm_114 (zgc zm_115 (zgc zm_1351 (zgc zm_1271 (zgc zm_1272 (zgc zm_1352 zgn))))))))))))))))))))))))
theorem zw_wsX10_help_r4 : GoodIn lw_tbl wsX10_help_r4 := (zgc zm_1788 (zgc zm_1368 (zgc zm_1370 (zgc zm_1372 (zgc zm_1350 (zgc zm_1790 (zgc zm_1377 (zgc zm_1379 (zgc zm_1381 (zgc zm_1267 (zgc zm_1382 (zgc zm_1383 (zgc zm_1384 (zgc zm_1385 zgn))))))))))))))
theorem zw_wsX10_help : GoodIn lw_tbl wsX10_help := (zgc zm_1898 (goodIn_app (goodIn_app (goodIn_app (goodIn_app (goodIn_app (goodIn_app zw_wsX10_help_r1 (goodIn_app zw_wsX10_help_r2 (goodIn_app zw_wsX10_help_r3 zw_wsX10_help_r4))) zw_wsX100) zw_wsX90) zw_wsJx4a65c0) zw_wsX70) zw_wsJx354110))
theorem zm_1895 : zgo (Cond.methodLink RL 247 yX10_help) := ⟨List.mem_of_getElem? (i := 1895) (by decide +kernel), by decide +kernel⟩
theorem zm_1896 : zgo (Cond.instanceMethod yX10_help) := ⟨List.mem_of_getElem? (i := 1896) (by decide +kernel), by decide +kernel⟩
theorem zm_1897 : zgo (Cond.selects RX10 yX10_help yX10_help) := ⟨List.mem_of_getElem? (i := 1897) (by decide +kernel), by decide +kernel⟩
theorem gL_law_X10_help : GoodIn lw_tbl (wsV RL 247 RX10 yX10_help wsX10_help) := goodIn_app (a := [Cond.methodLink RL 247 yX10_help, Cond.instanceMethod yX10_help, Cond.selects RX10 yX10_help yX10_help, Cond.initialized RX10]) (zgc zm_1895 (zgc zm_1896 (zgc zm_1897 (zgc zm_73 zgn)))) zw_wsX10_help
theorem zm_932 : zgo (Cond.codeWith yL_mend cL_mend 4 (some .int) [(0, 9, 12, 23), (0, 9, 15, 15), (0, 9, 18, 17)]) := ⟨List.mem_of_getElem? (i := 932) (by decide +kernel), by decide +kernel⟩
theorem zm_933 : zgo (Cond.methodLink RL 83 yX6_mend) := ⟨List.mem_of_getElem? (i := 933) (by decide +kernel), by decide +kernel⟩
theorem zm_934 : zgo (Cond.instanceMethod yX6_mend) := ⟨List.mem_of_getElem? (i := 934) (by decide +kernel), by decide +kernel⟩
theorem zm_935 : zgo (Cond.selects RX6 yX6_mend yX6_mend) := ⟨List.mem_of_getElem? (i := 935) (by decide +kernel), by decide +kernel⟩
theorem zm_936 : zgo (Cond.code yX6_mend cX6_mend 3 (some .int)) := ⟨List.mem_of_getElem? (i := 936) (by decide +kernel), by decide +kernel⟩
theorem zm_937 : zgo (Cond.methodLink RX6 233 yX6_repair) := ⟨List.mem_of_getElem? (i := 937) (by decide +kernel), by decide +kernel⟩
theorem zm_939 : zgo (Cond.instanceMethod yX6_repair) := ⟨List.mem_of_getElem? (i := 939) (by decide +kernel), by decide +kernel⟩
theorem zm_29 : zgo (Cond.selects RX6 yX6_repair yX6_repair) := ⟨List.mem_of_getElem? (i := 29) (by decide +kernel), by decide +kernel⟩
theorem zm_940 : zgo (Cond.code yX6_repair cX6_repair 2 (some .char)) := ⟨List.mem_of_getElem? (i := 940) (by decide +kernel), by decide +kernel⟩
theorem zm_172 : zgo (Cond.fieldLink RX6 339 "Gangline$Party" "parts" "I") := ⟨List.mem_of_getElem? (i := 172) (by decide +kernel), by decide +kernel⟩
theorem zw_wsL_mend_r1 : GoodIn lw_tbl wsL_mend_r1 := (zgc zm_656 (zgc zm_933 (zgc zm_934 (zgc zm_935 (zgc zm_69 (zgc zm_936 (zgc zm_298 (zgc zm_759 (zgc zm_170 (zgc zm_784 (zgc zm_786 (zgc zm_24 (zgc zm_787 (zgc zm_688 (zgc zm_91 (zgc zm_299 (zgc zm_937 (zgc zm_939 (zgc zm_29 (zgc zm_940 (zgc zm_172 (zgc zm_162 (zgc zm_408 (zgc zm_409 zgn))))))))))))))))))))))))
theorem zw_wsL_mend_r2 : GoodIn lw_tbl wsL_mend_r2 := (zgc zm_88 (zgc zm_410 (zgc zm_388 (zgc zm_390 (zgc zm_6 (zgc zm_391 (zgc zm_158 (zgc zm_164 (zgc zm_293 (zgc zm_858 (zgc zm_860 (zgc zm_28 (zgc zm_861 (zgc zm_612 (zgc zm_82 (zgc zm_765 (zgc zm_590 (zgc zm_591 (zgc zm_592 (zgc zm_593 (zgc zm_81 zgn)))))))))))))))))))))
theorem zw_wsL_mend : GoodIn lw_tbl wsL_mend := (zgc zm_932 (goodIn_app (goodIn_app (goodIn_app (goodIn_app (goodIn_app (goodIn_app (goodIn_app (goodIn_app zw_wsL_mend_r1 zw_wsL_mend_r2) zw_wsX60) zw_wsX50) zw_wsX20) zx_0) zx_4) zx_3) zx_2))
theorem zm_930 : zgo (Cond.methodLink RL 248 yL_mend) := ⟨List.mem_of_getElem? (i := 930) (by decide +kernel), by decide +kernel⟩
theorem zm_931 : zgo (Cond.static yL_mend) := ⟨List.mem_of_getElem? (i := 931) (by decide +kernel), by decide +kernel⟩
theorem gL_law_L_mend : GoodIn lw_tbl (va_wsS RL 248 yL_mend wsL_mend) := goodIn_app (a := [Cond.methodLink RL 248 yL_mend, Cond.static yL_mend, Cond.initialized RL]) (zgc zm_930 (zgc zm_931 (zgc zm_68 zgn))) zw_wsL_mend
theorem zm_1906 : zgo (Cond.code yX10_mend cX10_mend 4 (some .int)) := ⟨List.mem_of_getElem? (i := 1906) (by decide +kernel), by decide +kernel⟩
theorem zw_wsX10_mend_r1 : GoodIn lw_tbl wsX10_mend_r1 := (zgc zm_1284 (zgc zm_1397 (zgc zm_1801 (zgc zm_409 (zgc zm_88 (zgc zm_410 (zgc zm_1899 (zgc zm_1901 (zgc zm_59 (zgc zm_73 (zgc zm_1902 (zgc zm_1647 (zgc zm_1649 (zgc zm_46 (zgc zm_1650 (zgc zm_1403 (zgc zm_1406 (zgc zm_1408 (zgc zm_76 (zgc zm_1410 (zgc zm_1269 (zgc zm_1325 (zgc zm_1326 (zgc zm_1327 zgn))))))))))))))))))))))))
theorem zw_wsX10_mend_r2 : GoodIn lw_tbl wsX10_mend_r2 := (zgc zm_1518 (zgc zm_1521 (zgc zm_1523 (zgc zm_1525 (zgc zm_1526 (zgc zm_1527 (zgc zm_94 (zgc zm_1528 (zgc zm_1529 (zgc zm_1530 (zgc zm_95 (zgc zm_1531 (zgc zm_1532 (zgc zm_1533 (zgc zm_1534 (zgc zm_1535 (zgc zm_1266 (zgc zm_1398 (zgc zm_1399 (zgc zm_1400 (zgc zm_98 (zgc zm_1401 (zgc zm_1564 (zgc zm_1411 zgn))))))))))))))))))))))))
theorem zw_wsX10_mend_r3 : GoodIn lw_tbl wsX10_mend_r3 := (zgc zm_1413 (zgc zm_42 (zgc zm_1414 (zgc zm_1281 zgn))))
theorem zw_wsX10_mend : GoodIn lw_tbl wsX10_mend := (zgc zm_1906 (goodIn_app (goodIn_app (goodIn_app (goodIn_app zw_wsX10_mend_r1 (goodIn_app zw_wsX10_mend_r2 zw_wsX10_mend_r3)) zw_wsX100) zw_wsX90) zw_wsJx4a65c0))
theorem zm_1903 : zgo (Cond.methodLink RL 250 yX10_mend) := ⟨List.mem_of_getElem? (i := 1903) (by decide +kernel), by decide +kernel⟩
theorem zm_1904 : zgo (Cond.instanceMethod yX10_mend) := ⟨List.mem_of_getElem? (i := 1904) (by decide +kernel), by decide +kernel⟩
theorem zm_1905 : zgo (Cond.selects RX10 yX10_mend yX10_mend) := ⟨List.mem_of_getElem? (i := 1905) (by decide +kernel), by decide +kernel⟩
theorem gL_law_X10_mend : GoodIn lw_tbl (wsV RL 250 RX10 yX10_mend wsX10_mend) := goodIn_app (a := [Cond.methodLink RL 250 yX10_mend, Cond.instanceMethod yX10_mend, Cond.selects RX10 yX10_mend yX10_mend, Cond.initialized RX10]) (zgc zm_1903 (zgc zm_1904 (zgc zm_1905 (zgc zm_73 zgn)))) zw_wsX10_mend
theorem zm_943 : zgo (Cond.codeWith yL_exchange cL_exchange 4 (some .int) [(0, 9, 12, 23), (0, 9, 15, 15), (0, 9, 18, 17)]) := ⟨List.mem_of_getElem? (i := 943) (by decide +kernel), by decide +kernel⟩
theorem zm_944 : zgo (Cond.methodLink RL 86 yX6_exchange) := ⟨List.mem_of_getElem? (i := 944) (by decide +kernel), by decide +kernel⟩
theorem zm_945 : zgo (Cond.instanceMethod yX6_exchange) := ⟨List.mem_of_getElem? (i := 945) (by decide +kernel), by decide +kernel⟩
theorem zm_946 : zgo (Cond.selects RX6 yX6_exchange yX6_exchange) := ⟨List.mem_of_getElem? (i := 946) (by decide +kernel), by decide +kernel⟩
theorem zm_947 : zgo (Cond.code yX6_exchange cX6_exchange 3 (some .int)) := ⟨List.mem_of_getElem? (i := 947) (by decide +kernel), by decide +kernel⟩
theorem zm_178 : zgo (Cond.fieldLink RX6 242 "Gangline$Party" "exchanges" "I") := ⟨List.mem_of_getElem? (i := 178) (by decide +kernel), by decide +kernel⟩
theorem zm_948 : zgo (Cond.methodLink RX6 239 yX6_changeSled) := ⟨List.mem_of_getElem? (i := 948) (by decide +kernel), by decide +kernel⟩
theorem zm_950 : zgo (Cond.instanceMethod yX6_changeSled) := ⟨List.mem_of_getElem? (i := 950) (by decide +kernel), by decide +kernel⟩
theorem zm_30 : zgo (Cond.selects RX6 yX6_changeSled yX6_changeSled) := ⟨List.mem_of_getElem? (i := 30) (by decide +kernel), by decide +kernel⟩
theorem zm_951 : zgo (Cond.code yX6_changeSled cX6_changeSled 2 (some .char)) := ⟨List.mem_of_getElem? (i := 951) (by decide +kernel), by decide +kernel⟩
theorem zw_wsL_exchange_r1 : GoodIn lw_tbl wsL_exchange_r1 := (zgc zm_656 (zgc zm_944 (zgc zm_945 (zgc zm_946 (zgc zm_69 (zgc zm_947 (zgc zm_298 (zgc zm_759 (zgc zm_178 (zgc zm_784 (zgc zm_786 (zgc zm_24 (zgc zm_787 (zgc zm_688 (zgc zm_91 (zgc zm_299 (zgc zm_948 (zgc zm_950 (zgc zm_30 (zgc zm_951 (zgc zm_170 (zgc zm_388 (zgc zm_390 (zgc zm_6 zgn))))))))))))))))))))))))
theorem zw_wsL_exchange_r2 : GoodIn lw_tbl wsL_exchange_r2 := (zgc zm_391 (zgc zm_158 (zgc zm_164 (zgc zm_293 (zgc zm_858 (zgc zm_860 (zgc zm_28 (zgc zm_861 (zgc zm_612 (zgc zm_82 (zgc zm_765 (zgc zm_590 (zgc zm_591 (zgc zm_592 (zgc zm_593 (zgc zm_81 zgn))))))))))))))))
theorem zw_wsL_exchange : GoodIn lw_tbl wsL_exchange := (zgc zm_943 (goodIn_app (goodIn_app (goodIn_app (goodIn_app (goodIn_app (goodIn_app (goodIn_app (goodIn_app zw_wsL_exchange_r1 zw_wsL_exchange_r2) zw_wsX60) zw_wsX50) zw_wsX20) zx_0) zx_4) zx_3) zx_2))
theorem zm_941 : zgo (Cond.methodLink RL 251 yL_exchange) := ⟨List.mem_of_getElem? (i := 941) (by decide +kernel), by decide +kernel⟩
theorem zm_942 : zgo (Cond.static yL_exchange) := ⟨List.mem_of_getElem? (i := 942) (by decide +kernel), by decide +kernel⟩
theorem gL_law_L_exchange : GoodIn lw_tbl (va_wsS RL 251 yL_exchange wsL_exchange) := goodIn_app (a := [Cond.methodLink RL 251 yL_exchange, Cond.static yL_exchange, Cond.initialized RL]) (zgc zm_941 (zgc zm_942 (zgc zm_68 zgn))) zw_wsL_exchange
theorem zm_1910 : zgo (Cond.code yX10_exchange cX10_exchange 4 (some .int)) := ⟨List.mem_of_getElem? (i := 1910) (by decide +kernel), by decide +kernel⟩
theorem zw_wsX10_exchange_r1 : GoodIn lw_tbl wsX10_exchange_r1 := (zgc zm_1284 (zgc zm_1397 (zgc zm_1899 (zgc zm_1901 (zgc zm_59 (zgc zm_73 (zgc zm_1902 (zgc zm_1647 (zgc zm_1649 (zgc zm_46 (zgc zm_1650 (zgc zm_1403 (zgc zm_1406 (zgc zm_1408 (zgc zm_76 (zgc zm_1410 (zgc zm_1269 (zgc zm_1325 (zgc zm_1326 (zgc zm_1327 (zgc zm_1518 (zgc zm_1521 (zgc zm_1523 (zgc zm_1525 zgn))))))))))))))))))))))))
theorem zw_wsX10_exchange_r2 : GoodIn lw_tbl wsX10_exchange_r2 := (zgc zm_1526 (zgc zm_1527 (zgc zm_94 (zgc zm_1528 (zgc zm_1529 (zgc zm_1530 (zgc zm_95 (zgc zm_1531 (zgc zm_1532 (zgc zm_1533 (zgc zm_1534 (zgc zm_1535 (zgc zm_1266 (zgc zm_1398 (zgc zm_1399 (zgc zm_1400 (zgc zm_98 (zgc zm_1401 (zgc zm_1564 (zgc zm_1411 (zgc zm_1413 (zgc zm_42 (zgc zm_1414 (zgc zm_1281 zgn))))))))))))))))))))))))
theorem zw_wsX10_exchange : GoodIn lw_tbl wsX10_exchange := (zgc zm_1910 (goodIn_app (goodIn_app (goodIn_app (goodIn_app zw_wsX10_exchange_r1 zw_wsX10_exchange_r2) zw_wsX100) zw_wsX90) zw_wsJx4a65c0))
theorem zm_1907 : zgo (Cond.methodLink RL 253 yX10_exchange) := ⟨List.mem_of_getElem? (i := 1907) (by decide +kernel), by decide +kernel⟩
theorem zm_1908 : zgo (Cond.instanceMethod yX10_exchange) := ⟨List.mem_of_getElem? (i := 1908) (by decide +kernel), by decide +kernel⟩
theorem zm_1909 : zgo (Cond.selects RX10 yX10_exchange yX10_exchange) := ⟨List.mem_of_getElem? (i := 1909) (by decide +kernel), by decide +kernel⟩
theorem gL_law_X10_exchange : GoodIn lw_tbl (wsV RL 253 RX10 yX10_exchange wsX10_exchange) := goodIn_app (a := [Cond.methodLink RL 253 yX10_exchange, Cond.instanceMethod yX10_exchange, Cond.selects RX10 yX10_exchange yX10_exchange, Cond.initialized RX10]) (zgc zm_1907 (zgc zm_1908 (zgc zm_1909 (zgc zm_73 zgn)))) zw_wsX10_exchange
theorem zm_954 : zgo (Cond.codeWith yL_drop cL_drop 5 (some .int) [(0, 10, 13, 23), (0, 10, 17, 15)]) := ⟨List.mem_of_getElem? (i := 954) (by decide +kernel), by decide +kernel⟩
theorem zm_955 : zgo (Cond.methodLink RL 89 yX6_drop) := ⟨List.mem_of_getElem? (i := 955) (by decide +kernel), by decide +kernel⟩
theorem zm_956 : zgo (Cond.instanceMethod yX6_drop) := ⟨List.mem_of_getElem? (i := 956) (by decide +kernel), by decide +kernel⟩
theorem zm_957 : zgo (Cond.selects RX6 yX6_drop yX6_drop) := ⟨List.mem_of_getElem? (i := 957) (by decide +kernel), by decide +kernel⟩
theorem zm_958 : zgo (Cond.code yX6_drop cX6_drop 5 (some .int)) := ⟨List.mem_of_getElem? (i := 958) (by decide +kernel), by decide +kernel⟩
theorem zm_356 : zgo (Cond.methodLink RX6 245 yX2_placeOf) := ⟨List.mem_of_getElem? (i := 356) (by decide +kernel), by decide +kernel⟩
theorem zw_wsL_drop_r1 : GoodIn lw_tbl wsL_drop_r1 := (zgc zm_656 (zgc zm_955 (zgc zm_956 (zgc zm_957 (zgc zm_69 (zgc zm_958 (zgc zm_298 (zgc zm_759 (zgc zm_296 (zgc zm_262 (zgc zm_190 (zgc zm_784 (zgc zm_786 (zgc zm_24 (zgc zm_787 (zgc zm_688 (zgc zm_91 (zgc zm_299 (zgc zm_800 (zgc zm_802 (zgc zm_26 (zgc zm_803 (zgc zm_297 (zgc zm_356 zgn))))))))))))))))))))))))
theorem zm_357 : zgo (Cond.instanceMethod yX2_placeOf) := ⟨List.mem_of_getElem? (i := 357) (by decide +kernel), by decide +kernel⟩
theorem zm_358 : zgo (Cond.selects RX2 yX2_placeOf yX2_placeOf) := ⟨List.mem_of_getElem? (i := 358) (by decide +kernel), by decide +kernel⟩
theorem zm_359 : zgo (Cond.code yX2_placeOf cX2_placeOf 3 (some .int)) := ⟨List.mem_of_getElem? (i := 359) (by decide +kernel), by decide +kernel⟩
theorem zm_959 : zgo (Cond.methodLink RX6 248 yX2_release) := ⟨List.mem_of_getElem? (i := 959) (by decide +kernel), by decide +kernel⟩
theorem zm_960 : zgo (Cond.instanceMethod yX2_release) := ⟨List.mem_of_getElem? (i := 960) (by decide +kernel), by decide +kernel⟩
theorem zm_961 : zgo (Cond.selects RX2 yX2_release yX2_release) := ⟨List.mem_of_getElem? (i := 961) (by decide +kernel), by decide +kernel⟩
theorem zm_962 : zgo (Cond.code yX2_release cX2_release 3 none) := ⟨List.mem_of_getElem? (i := 962) (by decide +kernel), by decide +kernel⟩
theorem zw_wsL_drop_r2 : GoodIn lw_tbl wsL_drop_r2 := (zgc zm_357 (zgc zm_358 (zgc zm_71 (zgc zm_359 (zgc zm_189 (zgc zm_187 (zgc zm_388 (zgc zm_390 (zgc zm_6 (zgc zm_391 (zgc zm_158 (zgc zm_164 (zgc zm_293 (zgc zm_590 (zgc zm_591 (zgc zm_592 (zgc zm_593 (zgc zm_81 (zgc zm_959 (zgc zm_960 (zgc zm_961 (zgc zm_962 zgn))))))))))))))))))))))
theorem zw_wsL_drop : GoodIn lw_tbl wsL_drop := (zgc zm_954 (goodIn_app (goodIn_app (goodIn_app (goodIn_app (goodIn_app (goodIn_app (goodIn_app (goodIn_app zw_wsL_drop_r1 zw_wsL_drop_r2) zw_wsX60) zw_wsX50) zw_wsX00) zw_wsX20) zx_0) zx_4) zx_2))
theorem zm_952 : zgo (Cond.methodLink RL 254 yL_drop) := ⟨List.mem_of_getElem? (i := 952) (by decide +kernel), by decide +kernel⟩
theorem zm_953 : zgo (Cond.static yL_drop) := ⟨List.mem_of_getElem? (i := 953) (by decide +kernel), by decide +kernel⟩
theorem gL_law_L_drop : GoodIn lw_tbl (va_wsS RL 254 yL_drop wsL_drop) := goodIn_app (a := [Cond.methodLink RL 254 yL_drop, Cond.static yL_drop, Cond.initialized RL]) (zgc zm_952 (zgc zm_953 (zgc zm_68 zgn))) zw_wsL_drop
theorem zm_1914 : zgo (Cond.code yX10_drop cX10_drop 6 (some .int)) := ⟨List.mem_of_getElem? (i := 1914) (by decide +kernel), by decide +kernel⟩
theorem zw_wsX10_drop_r1 : GoodIn lw_tbl wsX10_drop_r1 := (zgc zm_1284 (zgc zm_1397 (zgc zm_1285 (zgc zm_1651 (zgc zm_1647 (zgc zm_1649 (zgc zm_46 (zgc zm_73 (zgc zm_1650 (zgc zm_1403 (zgc zm_1406 (zgc zm_1408 (zgc zm_76 (zgc zm_1410 (zgc zm_1269 (zgc zm_1325 (zgc zm_1326 (zgc zm_1327 (zgc zm_1730 (zgc zm_1732 (zgc zm_47 (zgc zm_1733 (zgc zm_1518 (zgc zm_1521 zgn))))))))))))))))))))))))
theorem zm_1916 : zgo (Cond.methodLink RX10 313 ⟨"java/util/List", "contains", "(Ljava/lang/Object;)Z"⟩) := ⟨List.mem_of_getElem? (i := 1916) (by decide +kernel), by decide +kernel⟩
theorem zm_1919 : zgo (Cond.selects RJx4a65c ⟨"java/util/List", "contains", "(Ljava/lang/Object;)Z"⟩ yJx4a65c_contains_9ea2d) := ⟨List.mem_of_getElem? (i := 1919) (by decide +kernel), by decide +kernel⟩
theorem zm_1921 : zgo (Cond.instanceMethod yJx4a65c_contains_9ea2d) := ⟨List.mem_of_getElem? (i := 1921) (by decide +kernel), by decide +kernel⟩
theorem zw_wsX10_drop_r2 : GoodIn lw_tbl wsX10_drop_r2 := (zgc zm_1523 (zgc zm_1525 (zgc zm_1526 (zgc zm_1527 (zgc zm_94 (zgc zm_1528 (zgc zm_1529 (zgc zm_1530 (zgc zm_95 (zgc zm_1531 (zgc zm_1532 (zgc zm_1533 (zgc zm_1534 (zgc zm_1535 (zgc zm_1266 (zgc zm_1398 (zgc zm_1399 (zgc zm_1400 (zgc zm_98 (zgc zm_1401 (zgc zm_1564 (zgc zm_1916 (zgc zm_1919 (zgc zm_1921 zgn))))))))))))))))))))))))
theorem zm_1923 : zgo (Cond.code yJx4a65c_contains_9ea2d cJx4a65c_contains_9ea2d 2 (some .boolean)) := ⟨List.mem_of_getElem? (i := 1923) (by decide +kernel), by decide +kernel⟩
theorem zm_1924 : zgo (Cond.methodLink RJx4a65c 85 yJx4a65c_indexOf_e47da) := ⟨List.mem_of_getElem? (i := 1924) (by decide +kernel), by decide +kernel⟩
theorem zm_1925 : zgo (Cond.instanceMethod yJx4a65c_indexOf_e47da) := ⟨List.mem_of_getElem? (i := 1925) (by decide +kernel), by decide +kernel⟩
theorem zm_1926 : zgo (Cond.selects RJx4a65c yJx4a65c_indexOf_e47da yJx4a65c_indexOf_e47da) := ⟨List.mem_of_getElem? (i := 1926) (by decide +kernel), by decide +kernel⟩
theorem zm_1927 : zgo (Cond.code yJx4a65c_indexOf_e47da cJx4a65c_indexOf_e47da 2 (some .int)) := ⟨List.mem_of_getElem? (i := 1927) (by decide +kernel), by decide +kernel⟩
theorem zm_1928 : zgo (Cond.methodLink RJx4a65c 89 yJx4a65c_indexOfRange_bf822) := ⟨List.mem_of_getElem? (i := 1928) (by decide +kernel), by decide +kernel⟩
theorem zm_1929 : zgo (Cond.instanceMethod yJx4a65c_indexOfRange_bf822) := ⟨List.mem_of_getElem? (i := 1929) (by decide +kernel), by decide +kernel⟩
theorem zm_1930 : zgo (Cond.selects RJx4a65c yJx4a65c_indexOfRange_bf822 yJx4a65c_indexOfRange_bf822) := ⟨List.mem_of_getElem? (i := 1930) (by decide +kernel), by decide +kernel⟩
theorem zm_1931 : zgo (Cond.code yJx4a65c_indexOfRange_bf822 cJx4a65c_indexOfRange_bf822 6 (some .int)) := ⟨List.mem_of_getElem? (i := 1931) (by decide +kernel), by decide +kernel⟩
theorem zm_1933 : zgo (Cond.methodLink RJx4a65c 93 ⟨"java/lang/Object", "equals", "(Ljava/lang/Object;)Z"⟩) := ⟨List.mem_of_getElem? (i := 1933) (by decide +kernel), by decide +kernel⟩
theorem zm_1935 : zgo (Cond.sameMethod "java/lang/Object" "java/lang/Object" "equals" "(Ljava/lang/Object;)Z") := ⟨List.mem_of_getElem? (i := 1935) (by decide +kernel), by decide +kernel⟩
theorem zm_1952 : zgo (Cond.selects RJ0 ⟨"java/lang/Object", "equals", "(Ljava/lang/Object;)Z"⟩ yJ0_equals_9ea2d) := ⟨List.mem_of_getElem? (i := 1952) (by decide +kernel), by decide +kernel⟩
theorem zm_1953 : zgo (Cond.instanceMethod yJ0_equals_9ea2d) := ⟨List.mem_of_getElem? (i := 1953) (by decide +kernel), by decide +kernel⟩
theorem zm_93 : zgo (Cond.initialized RJ0) := ⟨List.mem_of_getElem? (i := 93) (by decide +kernel), by decide +kernel⟩
theorem zm_1954 : zgo (Cond.code yJ0_equals_9ea2d cJ0_equals_9ea2d 3 (some .boolean)) := ⟨List.mem_of_getElem? (i := 1954) (by decide +kernel), by decide +kernel⟩
theorem zm_1955 : zgo (Cond.classLink RJ0 10 "java/lang/String") := ⟨List.mem_of_getElem? (i := 1955) (by decide +kernel), by decide +kernel⟩
theorem zm_1956 : zgo (Cond.fieldLink RJ0 38 "java/lang/String" "COMPACT_STRINGS" "Z") := ⟨List.mem_of_getElem? (i := 1956) (by decide +kernel), by decide +kernel⟩
theorem zm_2401 : zgo (Cond.fieldLink RJ0 15 "java/lang/String" "coder" "B") := ⟨List.mem_of_getElem? (i := 2401) (by decide +kernel), by decide +kernel⟩
theorem zm_2400 : zgo (Cond.fieldLink RJ0 9 "java/lang/String" "value" "[B") := ⟨List.mem_of_getElem? (i := 2400) (by decide +kernel), by decide +kernel⟩
theorem zm_1958 : zgo (Cond.methodLink RJ0 541 yJ1_equals_b5fdf) := ⟨List.mem_of_getElem? (i := 1958) (by decide +kernel), by decide +kernel⟩
theorem zm_1959 : zgo (Cond.static yJ1_equals_b5fdf) := ⟨List.mem_of_getElem? (i := 1959) (by decide +kernel), by decide +kernel⟩
theorem zm_100 : zgo (Cond.initialized RJ1) := ⟨List.mem_of_getElem? (i := 100) (by decide +kernel), by decide +kernel⟩
theorem zm_1960 : zgo (Cond.code yJ1_equals_b5fdf cJ1_equals_b5fdf 3 (some .boolean)) := ⟨List.mem_of_getElem? (i := 1960) (by decide +kernel), by decide +kernel⟩
theorem zw_wsX10_drop_r3 : GoodIn lw_tbl wsX10_drop_r3 := (zgc zm_1923 (zgc zm_1924 (zgc zm_1925 (zgc zm_1926 (zgc zm_1927 (zgc zm_1928 (zgc zm_1929 (zgc zm_1930 (zgc zm_1931 (zgc zm_1933 (zgc zm_1935 (zgc zm_1952 (zgc zm_1953 (zgc zm_93 (zgc zm_1954 (zgc zm_1955 (zgc zm_1956 (zgc zm_2401 (zgc zm_2400 (zgc zm_1958 (zgc zm_1959 (zgc zm_100 (zgc zm_1960 (zgc zm_1411 zgn))))))))))))))))))))))))
theorem zm_1965 : zgo (Cond.methodLink RX10 316 ⟨"java/util/List", "remove", "(Ljava/lang/Object;)Z"⟩) := ⟨List.mem_of_getElem? (i := 1965) (by decide +kernel), by decide +kernel⟩
theorem zm_1968 : zgo (Cond.selects RJx4a65c ⟨"java/util/List", "remove", "(Ljava/lang/Object;)Z"⟩ yJx4a65c_remove_9ea2d) := ⟨List.mem_of_getElem? (i := 1968) (by decide +kernel), by decide +kernel⟩
theorem zm_1970 : zgo (Cond.instanceMethod yJx4a65c_remove_9ea2d) := ⟨List.mem_of_getElem? (i := 1970) (by decide +kernel), by decide +kernel⟩
theorem zm_1972 : zgo (Cond.code yJx4a65c_remove_9ea2d cJx4a65c_remove_9ea2d 5 (some .boolean)) := ⟨List.mem_of_getElem? (i := 1972) (by decide +kernel), by decide +kernel⟩
theorem zm_1973 : zgo (Cond.methodLink RJx4a65c 144 yJx4a65c_fastRemove_b59b0) := ⟨List.mem_of_getElem? (i := 1973) (by decide +kernel), by decide +kernel⟩
theorem zm_1975 : zgo (Cond.instanceMethod yJx4a65c_fastRemove_b59b0) := ⟨List.mem_of_getElem? (i := 1975) (by decide +kernel), by decide +kernel⟩
theorem zm_60 : zgo (Cond.selects RJx4a65c yJx4a65c_fastRemove_b59b0 yJx4a65c_fastRemove_b59b0) := ⟨List.mem_of_getElem? (i := 60) (by decide +kernel), by decide +kernel⟩
theorem zm_1976 : zgo (Cond.code yJx4a65c_fastRemove_b59b0 cJx4a65c_fastRemove_b59b0 4 none) := ⟨List.mem_of_getElem? (i := 1976) (by decide +kernel), by decide +kernel⟩
theorem zm_1977 : zgo (Cond.methodLink RJx4a65c 112 arraycopyName) := ⟨List.mem_of_getElem? (i := 1977) (by decide +kernel), by decide +kernel⟩
theorem zw_wsX10_drop_r4 : GoodIn lw_tbl wsX10_drop_r4 := (zgc zm_1413 (zgc zm_42 (zgc zm_1414 (zgc zm_1281 (zgc zm_1965 (zgc zm_1968 (zgc zm_1970 (zgc zm_1972 (zgc zm_1973 (zgc zm_1975 (zgc zm_60 (zgc zm_1976 (zgc zm_1273 (zgc zm_1272 (zgc zm_1977 (zgc zm_1508 (zgc zm_1507 (zgc zm_90 zgn))))))))))))))))))
theorem zw_wsX10_drop : GoodIn lw_tbl wsX10_drop := (zgc zm_1914 (goodIn_app (goodIn_app (goodIn_app (goodIn_app (goodIn_app (goodIn_app zw_wsX10_drop_r1 (goodIn_app zw_wsX10_drop_r2 (goodIn_app zw_wsX10_drop_r3 zw_wsX10_drop_r4))) zw_wsX100) zw_wsX90) zw_wsX70) zw_wsJx4a65c0) zw_wsJ00))
theorem zm_1911 : zgo (Cond.methodLink RL 256 yX10_drop) := ⟨List.mem_of_getElem? (i := 1911) (by decide +kernel), by decide +kernel⟩
theorem zm_1912 : zgo (Cond.instanceMethod yX10_drop) := ⟨List.mem_of_getElem? (i := 1912) (by decide +kernel), by decide +kernel⟩
theorem zm_1913 : zgo (Cond.selects RX10 yX10_drop yX10_drop) := ⟨List.mem_of_getElem? (i := 1913) (by decide +kernel), by decide +kernel⟩
theorem gL_law_X10_drop : GoodIn lw_tbl (wsV RL 256 RX10 yX10_drop wsX10_drop) := goodIn_app (a := [Cond.methodLink RL 256 yX10_drop, Cond.instanceMethod yX10_drop, Cond.selects RX10 yX10_drop yX10_drop, Cond.initialized RX10]) (zgc zm_1911 (zgc zm_1912 (zgc zm_1913 (zgc zm_73 zgn)))) zw_wsX10_drop
theorem zm_965 : zgo (Cond.codeWith yL_scratch cL_scratch 4 (some .int) [(0, 16, 19, 23)]) := ⟨List.mem_of_getElem? (i := 965) (by decide +kernel), by decide +kernel⟩
theorem zm_966 : zgo (Cond.methodLink RL 92 yX6_scratch) := ⟨List.mem_of_getElem? (i := 966) (by decide +kernel), by decide +kernel⟩
theorem zm_967 : zgo (Cond.instanceMethod yX6_scratch) := ⟨List.mem_of_getElem? (i := 967) (by decide +kernel), by decide +kernel⟩
theorem zm_968 : zgo (Cond.selects RX6 yX6_scratch yX6_scratch) := ⟨List.mem_of_getElem? (i := 968) (by decide +kernel), by decide +kernel⟩
theorem zm_969 : zgo (Cond.code yX6_scratch cX6_scratch 4 (some .boolean)) := ⟨List.mem_of_getElem? (i := 969) (by decide +kernel), by decide +kernel⟩
theorem zw_wsL_scratch_r1 : GoodIn lw_tbl wsL_scratch_r1 := (zgc zm_656 (zgc zm_966 (zgc zm_967 (zgc zm_968 (zgc zm_69 (zgc zm_969 (zgc zm_298 (zgc zm_759 (zgc zm_158 (zgc zm_784 (zgc zm_786 (zgc zm_24 (zgc zm_787 (zgc zm_688 (zgc zm_91 (zgc zm_299 (zgc zm_450 (zgc zm_451 (zgc zm_452 (zgc zm_71 (zgc zm_453 (zgc zm_157 (zgc zm_189 (zgc zm_187 zgn))))))))))))))))))))))))
theorem zw_wsL_scratch_r2 : GoodIn lw_tbl wsL_scratch_r2 := (zgc zm_261 zgn)
theorem zw_wsL_scratch : GoodIn lw_tbl wsL_scratch := (zgc zm_965 (goodIn_app (goodIn_app (goodIn_app (goodIn_app (goodIn_app (goodIn_app (goodIn_app zw_wsL_scratch_r1 zw_wsL_scratch_r2) zw_wsX60) zw_wsX50) zw_wsX20) zw_wsX00) zx_0) zx_4))
theorem zm_963 : zgo (Cond.methodLink RL 257 yL_scratch) := ⟨List.mem_of_getElem? (i := 963) (by decide +kernel), by decide +kernel⟩
theorem zm_964 : zgo (Cond.static yL_scratch) := ⟨List.mem_of_getElem? (i := 964) (by decide +kernel), by decide +kernel⟩
theorem gL_law_L_scratch : GoodIn lw_tbl (va_wsS RL 257 yL_scratch wsL_scratch) := goodIn_app (a := [Cond.methodLink RL 257 yL_scratch, Cond.static yL_scratch, Cond.initialized RL]) (zgc zm_963 (zgc zm_964 (zgc zm_68 zgn))) zw_wsL_scratch
theorem zm_1981 : zgo (Cond.code yX10_scratch cX10_scratch 3 (some .boolean)) := ⟨List.mem_of_getElem? (i := 1981) (by decide +kernel), by decide +kernel⟩
theorem zw_wsX10_scratch_r1 : GoodIn lw_tbl wsX10_scratch_r1 := (zgc zm_1284 (zgc zm_1397 (zgc zm_1647 (zgc zm_1649 (zgc zm_46 (zgc zm_73 (zgc zm_1650 (zgc zm_1403 (zgc zm_1406 (zgc zm_1408 (zgc zm_76 (zgc zm_1410 (zgc zm_1269 (zgc zm_1325 (zgc zm_1326 (zgc zm_1327 (zgc zm_1518 (zgc zm_1521 (zgc zm_1523 (zgc zm_1525 (zgc zm_1526 (zgc zm_1527 (zgc zm_94 (zgc zm_1528 zgn))))))))))))))))))))))))
theorem zw_wsX10_scratch_r2 : GoodIn lw_tbl wsX10_scratch_r2 := (zgc zm_1529 (zgc zm_1530 (zgc zm_95 (zgc zm_1531 (zgc zm_1532 (zgc zm_1533 (zgc zm_1534 (zgc zm_1535 (zgc zm_1266 (zgc zm_1398 (zgc zm_1399 (zgc zm_1400 (zgc zm_98 (zgc zm_1401 (zgc zm_1564 (zgc zm_1839 (zgc zm_1840 (zgc zm_1841 (zgc zm_1842 (zgc zm_1558 (zgc zm_1791 (zgc zm_1786 (zgc zm_1339 (zgc zm_1341 zgn))))))))))))))))))))))))
theorem zw_wsX10_scratch_r3 : GoodIn lw_tbl wsX10_scratch_r3 := (zgc zm_1343 (zgc zm_1344 (zgc zm_1345 (zgc zm_84 (zgc zm_1346 (zgc zm_1347 (zgc zm_1348 (zgc zm_1353 (zgc zm_1349 (zgc zm_114 (zgc zm_115 (zgc zm_1351 (zgc zm_1271 (zgc zm_1272 (zgc zm_1352 (zgc zm_1788 (zgc zm_1368 (zgc zm_1370 (zgc zm_1372 (zgc zm_1350 (zgc zm_1790 (zgc zm_1377 (zgc zm_1379 (zgc zm_1381 zgn))))))))))))))))))))))))
theorem zw_wsX10_scratch_r4 : GoodIn lw_tbl wsX10_scratch_r4 := (zgc zm_1267 (zgc zm_1382 (zgc zm_1383 (zgc zm_1384 (zgc zm_1385 (zgc zm_1411 (zgc zm_1413 (zgc zm_42 (zgc zm_1414 (zgc zm_1281 zgn))))))))))
theorem zw_wsX10_scratch : GoodIn lw_tbl wsX10_scratch := (zgc zm_1981 (goodIn_app (goodIn_app (goodIn_app (goodIn_app (goodIn_app (goodIn_app zw_wsX10_scratch_r1 (goodIn_app zw_wsX10_scratch_r2 (goodIn_app zw_wsX10_scratch_r3 zw_wsX10_scratch_r4))) zw_wsX100) zw_wsJx4a65c0) zw_wsX90) zw_wsX70) zw_wsJx354110))
theorem zm_1978 : zgo (Cond.methodLink RL 259 yX10_scratch) := ⟨List.mem_of_getElem? (i := 1978) (by decide +kernel), by decide +kernel⟩
theorem zm_1979 : zgo (Cond.instanceMethod yX10_scratch) := ⟨List.mem_of_getElem? (i := 1979) (by decide +kernel), by decide +kernel⟩
theorem zm_1980 : zgo (Cond.selects RX10 yX10_scratch yX10_scratch) := ⟨List.mem_of_getElem? (i := 1980) (by decide +kernel), by decide +kernel⟩
theorem gL_law_X10_scratch : GoodIn lw_tbl (wsV RL 259 RX10 yX10_scratch wsX10_scratch) := goodIn_app (a := [Cond.methodLink RL 259 yX10_scratch, Cond.instanceMethod yX10_scratch, Cond.selects RX10 yX10_scratch yX10_scratch, Cond.initialized RX10]) (zgc zm_1978 (zgc zm_1979 (zgc zm_1980 (zgc zm_73 zgn)))) zw_wsX10_scratch
theorem zm_972 : zgo (Cond.codeWith yL_order cL_order 6 (some .int) [(0, 12, 15, 23), (0, 12, 19, 13), (0, 12, 23, 17)]) := ⟨List.mem_of_getElem? (i := 972) (by decide +kernel), by decide +kernel⟩
theorem zm_973 : zgo (Cond.methodLink RL 96 yX6_order) := ⟨List.mem_of_getElem? (i := 973) (by decide +kernel), by decide +kernel⟩
theorem zm_974 : zgo (Cond.instanceMethod yX6_order) := ⟨List.mem_of_getElem? (i := 974) (by decide +kernel), by decide +kernel⟩
theorem zm_975 : zgo (Cond.selects RX6 yX6_order yX6_order) := ⟨List.mem_of_getElem? (i := 975) (by decide +kernel), by decide +kernel⟩
theorem zm_976 : zgo (Cond.code yX6_order cX6_order 5 (some .int)) := ⟨List.mem_of_getElem? (i := 976) (by decide +kernel), by decide +kernel⟩
theorem zm_761 : zgo (Cond.fieldLink RX6 260 "Gangline$Team" "plan" "LGangline$Plan;") := ⟨List.mem_of_getElem? (i := 761) (by decide +kernel), by decide +kernel⟩
theorem zm_137 : zgo (Cond.fieldLink RX6 263 "Gangline$Plan" "count" "I") := ⟨List.mem_of_getElem? (i := 137) (by decide +kernel), by decide +kernel⟩
theorem zm_977 : zgo (Cond.methodLink RX6 251 yX6_isOrder) := ⟨List.mem_of_getElem? (i := 977) (by decide +kernel), by decide +kernel⟩
theorem zm_978 : zgo (Cond.static yX6_isOrder) := ⟨List.mem_of_getElem? (i := 978) (by decide +kernel), by decide +kernel⟩
theorem zm_979 : zgo (Cond.code yX6_isOrder cX6_isOrder 2 (some .boolean)) := ⟨List.mem_of_getElem? (i := 979) (by decide +kernel), by decide +kernel⟩
theorem zw_wsL_order_r1 : GoodIn lw_tbl wsL_order_r1 := (zgc zm_656 (zgc zm_973 (zgc zm_974 (zgc zm_975 (zgc zm_69 (zgc zm_976 (zgc zm_514 (zgc zm_80 (zgc zm_298 (zgc zm_761 (zgc zm_137 (zgc zm_784 (zgc zm_786 (zgc zm_24 (zgc zm_787 (zgc zm_688 (zgc zm_91 (zgc zm_299 (zgc zm_977 (zgc zm_978 (zgc zm_979 (zgc zm_609 (zgc zm_610 (zgc zm_611 zgn))))))))))))))))))))))))
theorem zm_981 : zgo (Cond.methodLink RX6 264 yX3_put) := ⟨List.mem_of_getElem? (i := 981) (by decide +kernel), by decide +kernel⟩
theorem zm_982 : zgo (Cond.instanceMethod yX3_put) := ⟨List.mem_of_getElem? (i := 982) (by decide +kernel), by decide +kernel⟩
theorem zm_983 : zgo (Cond.selects RX3 yX3_put yX3_put) := ⟨List.mem_of_getElem? (i := 983) (by decide +kernel), by decide +kernel⟩
theorem zm_984 : zgo (Cond.code yX3_put cX3_put 3 none) := ⟨List.mem_of_getElem? (i := 984) (by decide +kernel), by decide +kernel⟩
theorem zm_136 : zgo (Cond.fieldLink RX3 19 "Gangline$Plan" "count" "I") := ⟨List.mem_of_getElem? (i := 136) (by decide +kernel), by decide +kernel⟩
theorem zw_wsL_order_r2 : GoodIn lw_tbl wsL_order_r2 := (zgc zm_612 (zgc zm_82 (zgc zm_981 (zgc zm_982 (zgc zm_983 (zgc zm_70 (zgc zm_984 (zgc zm_136 (zgc zm_132 (zgc zm_134 zgn))))))))))
theorem zw_wsL_order : GoodIn lw_tbl wsL_order := (zgc zm_972 (goodIn_app (goodIn_app (goodIn_app (goodIn_app (goodIn_app (goodIn_app (goodIn_app (goodIn_app zw_wsL_order_r1 zw_wsL_order_r2) zw_wsX60) zw_wsX50) zw_wsX30) zx_0) zx_1) zx_4) zx_3))
theorem zm_970 : zgo (Cond.methodLink RL 260 yL_order) := ⟨List.mem_of_getElem? (i := 970) (by decide +kernel), by decide +kernel⟩
theorem zm_971 : zgo (Cond.static yL_order) := ⟨List.mem_of_getElem? (i := 971) (by decide +kernel), by decide +kernel⟩
theorem gL_law_L_order : GoodIn lw_tbl (va_wsS RL 260 yL_order wsL_order) := goodIn_app (a := [Cond.methodLink RL 260 yL_order, Cond.static yL_order, Cond.initialized RL]) (zgc zm_970 (zgc zm_971 (zgc zm_68 zgn))) zw_wsL_order
theorem zm_1985 : zgo (Cond.code yX10_order cX10_order 5 (some .int)) := ⟨List.mem_of_getElem? (i := 1985) (by decide +kernel), by decide +kernel⟩
theorem zm_1986 : zgo (Cond.methodLink RX10 326 yX10_isOrder) := ⟨List.mem_of_getElem? (i := 1986) (by decide +kernel), by decide +kernel⟩
theorem zm_1987 : zgo (Cond.static yX10_isOrder) := ⟨List.mem_of_getElem? (i := 1987) (by decide +kernel), by decide +kernel⟩
theorem zm_1988 : zgo (Cond.code yX10_isOrder cX10_isOrder 2 (some .boolean)) := ⟨List.mem_of_getElem? (i := 1988) (by decide +kernel), by decide +kernel⟩
theorem zm_1990 : zgo (Cond.methodLink RX10 321 yJ0_indexOf_0f7a4) := ⟨List.mem_of_getElem? (i := 1990) (by decide +kernel), by decide +kernel⟩
theorem zw_wsX10_order_r1 : GoodIn lw_tbl wsX10_order_r1 := (zgc zm_1284 (zgc zm_1397 (zgc zm_146 (zgc zm_1647 (zgc zm_1649 (zgc zm_46 (zgc zm_73 (zgc zm_1650 (zgc zm_1403 (zgc zm_1406 (zgc zm_1408 (zgc zm_76 (zgc zm_1410 (zgc zm_1269 (zgc zm_1325 (zgc zm_1326 (zgc zm_1327 (zgc zm_1986 (zgc zm_1987 (zgc zm_1988 (zgc zm_1865 (zgc zm_1882 (zgc zm_1746 (zgc zm_1990 zgn))))))))))))))))))))))))
theorem zm_1991 : zgo (Cond.instanceMethod yJ0_indexOf_0f7a4) := ⟨List.mem_of_getElem? (i := 1991) (by decide +kernel), by decide +kernel⟩
theorem zm_1992 : zgo (Cond.selects RJ0 yJ0_indexOf_0f7a4 yJ0_indexOf_0f7a4) := ⟨List.mem_of_getElem? (i := 1992) (by decide +kernel), by decide +kernel⟩
theorem zm_1993 : zgo (Cond.code yJ0_indexOf_0f7a4 cJ0_indexOf_0f7a4 2 (some .int)) := ⟨List.mem_of_getElem? (i := 1993) (by decide +kernel), by decide +kernel⟩
theorem zm_1994 : zgo (Cond.methodLink RJ0 633 yJ0_indexOf_7cf53) := ⟨List.mem_of_getElem? (i := 1994) (by decide +kernel), by decide +kernel⟩
theorem zm_1995 : zgo (Cond.instanceMethod yJ0_indexOf_7cf53) := ⟨List.mem_of_getElem? (i := 1995) (by decide +kernel), by decide +kernel⟩
theorem zm_1996 : zgo (Cond.selects RJ0 yJ0_indexOf_7cf53 yJ0_indexOf_7cf53) := ⟨List.mem_of_getElem? (i := 1996) (by decide +kernel), by decide +kernel⟩
theorem zm_1997 : zgo (Cond.code yJ0_indexOf_7cf53 cJ0_indexOf_7cf53 3 (some .int)) := ⟨List.mem_of_getElem? (i := 1997) (by decide +kernel), by decide +kernel⟩
theorem zm_1998 : zgo (Cond.methodLink RJ0 492 yJ0_isLatin1_aae02) := ⟨List.mem_of_getElem? (i := 1998) (by decide +kernel), by decide +kernel⟩
theorem zm_1999 : zgo (Cond.instanceMethod yJ0_isLatin1_aae02) := ⟨List.mem_of_getElem? (i := 1999) (by decide +kernel), by decide +kernel⟩
theorem zm_2000 : zgo (Cond.selects RJ0 yJ0_isLatin1_aae02 yJ0_isLatin1_aae02) := ⟨List.mem_of_getElem? (i := 2000) (by decide +kernel), by decide +kernel⟩
theorem zm_2001 : zgo (Cond.code yJ0_isLatin1_aae02 cJ0_isLatin1_aae02 1 (some .boolean)) := ⟨List.mem_of_getElem? (i := 2001) (by decide +kernel), by decide +kernel⟩
theorem zm_2002 : zgo (Cond.methodLink RJ0 505 yJ0_length_8abf5) := ⟨List.mem_of_getElem? (i := 2002) (by decide +kernel), by decide +kernel⟩
theorem zm_2003 : zgo (Cond.instanceMethod yJ0_length_8abf5) := ⟨List.mem_of_getElem? (i := 2003) (by decide +kernel), by decide +kernel⟩
theorem zm_2004 : zgo (Cond.selects RJ0 yJ0_length_8abf5 yJ0_length_8abf5) := ⟨List.mem_of_getElem? (i := 2004) (by decide +kernel), by decide +kernel⟩
theorem zm_2005 : zgo (Cond.code yJ0_length_8abf5 cJ0_length_8abf5 1 (some .int)) := ⟨List.mem_of_getElem? (i := 2005) (by decide +kernel), by decide +kernel⟩
theorem zm_2006 : zgo (Cond.methodLink RJ0 335 yJ0_coder_7d493) := ⟨List.mem_of_getElem? (i := 2006) (by decide +kernel), by decide +kernel⟩
theorem zm_2007 : zgo (Cond.instanceMethod yJ0_coder_7d493) := ⟨List.mem_of_getElem? (i := 2007) (by decide +kernel), by decide +kernel⟩
theorem zm_2008 : zgo (Cond.selects RJ0 yJ0_coder_7d493 yJ0_coder_7d493) := ⟨List.mem_of_getElem? (i := 2008) (by decide +kernel), by decide +kernel⟩
theorem zm_2009 : zgo (Cond.code yJ0_coder_7d493 cJ0_coder_7d493 1 (some .byte)) := ⟨List.mem_of_getElem? (i := 2009) (by decide +kernel), by decide +kernel⟩
theorem zm_2010 : zgo (Cond.methodLink RJ0 637 yJ1_indexOf_4cfef) := ⟨List.mem_of_getElem? (i := 2010) (by decide +kernel), by decide +kernel⟩
theorem zw_wsX10_order_r2 : GoodIn lw_tbl wsX10_order_r2 := (zgc zm_1991 (zgc zm_1992 (zgc zm_93 (zgc zm_1993 (zgc zm_1994 (zgc zm_1995 (zgc zm_1996 (zgc zm_1997 (zgc zm_2400 (zgc zm_1998 (zgc zm_1999 (zgc zm_2000 (zgc zm_2001 (zgc zm_1956 (zgc zm_2401 (zgc zm_2002 (zgc zm_2003 (zgc zm_2004 (zgc zm_2005 (zgc zm_2006 (zgc zm_2007 (zgc zm_2008 (zgc zm_2009 (zgc zm_2010 zgn))))))))))))))))))))))))
theorem zm_2011 : zgo (Cond.static yJ1_indexOf_4cfef) := ⟨List.mem_of_getElem? (i := 2011) (by decide +kernel), by decide +kernel⟩
theorem zm_2012 : zgo (Cond.code yJ1_indexOf_4cfef cJ1_indexOf_4cfef 4 (some .int)) := ⟨List.mem_of_getElem? (i := 2012) (by decide +kernel), by decide +kernel⟩
theorem zm_2016 : zgo (Cond.methodLink RJ1 92 Lib.Math.max.name) := ⟨List.mem_of_getElem? (i := 2016) (by decide +kernel), by decide +kernel⟩
theorem zm_2017 : zgo (Cond.methodLink RJ1 38 Lib.Math.min.name) := ⟨List.mem_of_getElem? (i := 2017) (by decide +kernel), by decide +kernel⟩
theorem zm_2013 : zgo (Cond.methodLink RJ1 88 yJ1_canEncode_9a6ad) := ⟨List.mem_of_getElem? (i := 2013) (by decide +kernel), by decide +kernel⟩
theorem zm_2014 : zgo (Cond.static yJ1_canEncode_9a6ad) := ⟨List.mem_of_getElem? (i := 2014) (by decide +kernel), by decide +kernel⟩
theorem zm_2015 : zgo (Cond.code yJ1_canEncode_9a6ad cJ1_canEncode_9a6ad 1 (some .boolean)) := ⟨List.mem_of_getElem? (i := 2015) (by decide +kernel), by decide +kernel⟩
theorem zm_2018 : zgo (Cond.methodLink RJ1 95 yJ1_indexOfChar_4cfef) := ⟨List.mem_of_getElem? (i := 2018) (by decide +kernel), by decide +kernel⟩
theorem zm_2019 : zgo (Cond.static yJ1_indexOfChar_4cfef) := ⟨List.mem_of_getElem? (i := 2019) (by decide +kernel), by decide +kernel⟩
theorem zm_2020 : zgo (Cond.code yJ1_indexOfChar_4cfef cJ1_indexOfChar_4cfef 6 (some .int)) := ⟨List.mem_of_getElem? (i := 2020) (by decide +kernel), by decide +kernel⟩
theorem zm_2021 : zgo (Cond.methodLink RJ0 640 yJ2_indexOf_4cfef) := ⟨List.mem_of_getElem? (i := 2021) (by decide +kernel), by decide +kernel⟩
theorem zm_2022 : zgo (Cond.static yJ2_indexOf_4cfef) := ⟨List.mem_of_getElem? (i := 2022) (by decide +kernel), by decide +kernel⟩
theorem zm_101 : zgo (Cond.initialized RJ2) := ⟨List.mem_of_getElem? (i := 101) (by decide +kernel), by decide +kernel⟩
theorem zm_2023 : zgo (Cond.code yJ2_indexOf_4cfef cJ2_indexOf_4cfef 4 (some .int)) := ⟨List.mem_of_getElem? (i := 2023) (by decide +kernel), by decide +kernel⟩
theorem zm_2024 : zgo (Cond.methodLink RJ2 224 Lib.Math.max.name) := ⟨List.mem_of_getElem? (i := 2024) (by decide +kernel), by decide +kernel⟩
theorem zm_2025 : zgo (Cond.methodLink RJ2 183 Lib.Math.min.name) := ⟨List.mem_of_getElem? (i := 2025) (by decide +kernel), by decide +kernel⟩
theorem zm_2026 : zgo (Cond.constant RJ2 227 (65536)) := ⟨List.mem_of_getElem? (i := 2026) (by decide +kernel), by decide +kernel⟩
theorem zm_2027 : zgo (Cond.methodLink RJ2 228 yJ2_indexOfChar_4cfef) := ⟨List.mem_of_getElem? (i := 2027) (by decide +kernel), by decide +kernel⟩
theorem zw_wsX10_order_r3 : GoodIn lw_tbl wsX10_order_r3 := (zgc zm_2011 (zgc zm_100 (zgc zm_2012 (zgc zm_2016 (zgc zm_409 (zgc zm_88 (zgc zm_410 (zgc zm_2017 (zgc zm_463 (zgc zm_464 (zgc zm_2013 (zgc zm_2014 (zgc zm_2015 (zgc zm_2018 (zgc zm_2019 (zgc zm_2020 (zgc zm_2021 (zgc zm_2022 (zgc zm_101 (zgc zm_2023 (zgc zm_2024 (zgc zm_2025 (zgc zm_2026 (zgc zm_2027 zgn))))))))))))))))))))))))
theorem zm_2028 : zgo (Cond.static yJ2_indexOfChar_4cfef) := ⟨List.mem_of_getElem? (i := 2028) (by decide +kernel), by decide +kernel⟩
theorem zm_2029 : zgo (Cond.code yJ2_indexOfChar_4cfef cJ2_indexOfChar_4cfef 4 (some .int)) := ⟨List.mem_of_getElem? (i := 2029) (by decide +kernel), by decide +kernel⟩
theorem zm_2030 : zgo (Cond.methodLink RJ2 96 yJ2_checkBoundsBeginEnd_d044e) := ⟨List.mem_of_getElem? (i := 2030) (by decide +kernel), by decide +kernel⟩
theorem zm_2031 : zgo (Cond.static yJ2_checkBoundsBeginEnd_d044e) := ⟨List.mem_of_getElem? (i := 2031) (by decide +kernel), by decide +kernel⟩
theorem zm_2032 : zgo (Cond.code yJ2_checkBoundsBeginEnd_d044e cJ2_checkBoundsBeginEnd_d044e 3 none) := ⟨List.mem_of_getElem? (i := 2032) (by decide +kernel), by decide +kernel⟩
theorem zm_2033 : zgo (Cond.methodLink RJ2 48 yJ2_length_9d52b) := ⟨List.mem_of_getElem? (i := 2033) (by decide +kernel), by decide +kernel⟩
theorem zm_2034 : zgo (Cond.static yJ2_length_9d52b) := ⟨List.mem_of_getElem? (i := 2034) (by decide +kernel), by decide +kernel⟩
theorem zm_2035 : zgo (Cond.code yJ2_length_9d52b cJ2_length_9d52b 1 (some .int)) := ⟨List.mem_of_getElem? (i := 2035) (by decide +kernel), by decide +kernel⟩
theorem zm_2036 : zgo (Cond.methodLink RJ2 241 yJ0_checkBoundsBeginEnd_23922) := ⟨List.mem_of_getElem? (i := 2036) (by decide +kernel), by decide +kernel⟩
theorem zm_2037 : zgo (Cond.static yJ0_checkBoundsBeginEnd_23922) := ⟨List.mem_of_getElem? (i := 2037) (by decide +kernel), by decide +kernel⟩
theorem zm_2038 : zgo (Cond.code yJ0_checkBoundsBeginEnd_23922 cJ0_checkBoundsBeginEnd_23922 3 none) := ⟨List.mem_of_getElem? (i := 2038) (by decide +kernel), by decide +kernel⟩
theorem zm_2039 : zgo (Cond.fieldLink RJ0 1053 "jdk/internal/util/Preconditions" "SIOOBE_FORMATTER" "Ljava/util/function/BiFunction;") := ⟨List.mem_of_getElem? (i := 2039) (by decide +kernel), by decide +kernel⟩
theorem zm_2041 : zgo (Cond.methodLink RJ0 1062 yJ3_checkFromToIndex_8c36e) := ⟨List.mem_of_getElem? (i := 2041) (by decide +kernel), by decide +kernel⟩
theorem zm_2042 : zgo (Cond.static yJ3_checkFromToIndex_8c36e) := ⟨List.mem_of_getElem? (i := 2042) (by decide +kernel), by decide +kernel⟩
theorem zm_2043 : zgo (Cond.code yJ3_checkFromToIndex_8c36e cJ3_checkFromToIndex_8c36e 4 (some .int)) := ⟨List.mem_of_getElem? (i := 2043) (by decide +kernel), by decide +kernel⟩
theorem zm_2044 : zgo (Cond.methodLink RJ2 244 yJ2_indexOfCharUnsafe_4cfef) := ⟨List.mem_of_getElem? (i := 2044) (by decide +kernel), by decide +kernel⟩
theorem zm_2045 : zgo (Cond.static yJ2_indexOfCharUnsafe_4cfef) := ⟨List.mem_of_getElem? (i := 2045) (by decide +kernel), by decide +kernel⟩
theorem zm_2046 : zgo (Cond.code yJ2_indexOfCharUnsafe_4cfef cJ2_indexOfCharUnsafe_4cfef 5 (some .int)) := ⟨List.mem_of_getElem? (i := 2046) (by decide +kernel), by decide +kernel⟩
theorem zm_2047 : zgo (Cond.methodLink RJ2 71 yJ2_getChar_3b067) := ⟨List.mem_of_getElem? (i := 2047) (by decide +kernel), by decide +kernel⟩
theorem zm_2048 : zgo (Cond.static yJ2_getChar_3b067) := ⟨List.mem_of_getElem? (i := 2048) (by decide +kernel), by decide +kernel⟩
theorem zm_2049 : zgo (Cond.code yJ2_getChar_3b067 cJ2_getChar_3b067 2 (some .char)) := ⟨List.mem_of_getElem? (i := 2049) (by decide +kernel), by decide +kernel⟩
theorem zm_2050 : zgo (Cond.fieldLink RJ2 44 "java/lang/StringUTF16" "$assertionsDisabled" "Z") := ⟨List.mem_of_getElem? (i := 2050) (by decide +kernel), by decide +kernel⟩
theorem zm_2052 : zgo (Cond.fieldLink RJ2 59 "java/lang/StringUTF16" "HI_BYTE_SHIFT" "I") := ⟨List.mem_of_getElem? (i := 2052) (by decide +kernel), by decide +kernel⟩
theorem zw_wsX10_order_r4 : GoodIn lw_tbl wsX10_order_r4 := (zgc zm_2028 (zgc zm_2029 (zgc zm_2030 (zgc zm_2031 (zgc zm_2032 (zgc zm_2033 (zgc zm_2034 (zgc zm_2035 (zgc zm_2036 (zgc zm_2037 (zgc zm_2038 (zgc zm_2039 (zgc zm_2041 (zgc zm_2042 (zgc zm_95 (zgc zm_2043 (zgc zm_2044 (zgc zm_2045 (zgc zm_2046 (zgc zm_2047 (zgc zm_2048 (zgc zm_2049 (zgc zm_2050 (zgc zm_2052 zgn))))))))))))))))))))))))
theorem zm_2054 : zgo (Cond.fieldLink RJ2 63 "java/lang/StringUTF16" "LO_BYTE_SHIFT" "I") := ⟨List.mem_of_getElem? (i := 2054) (by decide +kernel), by decide +kernel⟩
theorem zm_2056 : zgo (Cond.methodLink RJ2 232 yJ2_indexOfSupplementary_4cfef) := ⟨List.mem_of_getElem? (i := 2056) (by decide +kernel), by decide +kernel⟩
theorem zm_2057 : zgo (Cond.static yJ2_indexOfSupplementary_4cfef) := ⟨List.mem_of_getElem? (i := 2057) (by decide +kernel), by decide +kernel⟩
theorem zm_2058 : zgo (Cond.code yJ2_indexOfSupplementary_4cfef cJ2_indexOfSupplementary_4cfef 7 (some .int)) := ⟨List.mem_of_getElem? (i := 2058) (by decide +kernel), by decide +kernel⟩
theorem zm_2059 : zgo (Cond.methodLink RJ2 164 yJ11_isValidCodePoint_9a6ad) := ⟨List.mem_of_getElem? (i := 2059) (by decide +kernel), by decide +kernel⟩
theorem zm_2060 : zgo (Cond.static yJ11_isValidCodePoint_9a6ad) := ⟨List.mem_of_getElem? (i := 2060) (by decide +kernel), by decide +kernel⟩
theorem zm_102 : zgo (Cond.initialized RJ11) := ⟨List.mem_of_getElem? (i := 102) (by decide +kernel), by decide +kernel⟩
theorem zm_2061 : zgo (Cond.code yJ11_isValidCodePoint_9a6ad cJ11_isValidCodePoint_9a6ad 2 (some .boolean)) := ⟨List.mem_of_getElem? (i := 2061) (by decide +kernel), by decide +kernel⟩
theorem zm_2062 : zgo (Cond.methodLink RJ2 157 yJ11_highSurrogate_5068e) := ⟨List.mem_of_getElem? (i := 2062) (by decide +kernel), by decide +kernel⟩
theorem zm_2063 : zgo (Cond.static yJ11_highSurrogate_5068e) := ⟨List.mem_of_getElem? (i := 2063) (by decide +kernel), by decide +kernel⟩
theorem zm_2064 : zgo (Cond.code yJ11_highSurrogate_5068e cJ11_highSurrogate_5068e 1 (some .char)) := ⟨List.mem_of_getElem? (i := 2064) (by decide +kernel), by decide +kernel⟩
theorem zm_2065 : zgo (Cond.constant RJ11 110 (55232)) := ⟨List.mem_of_getElem? (i := 2065) (by decide +kernel), by decide +kernel⟩
theorem zm_2066 : zgo (Cond.methodLink RJ2 161 yJ11_lowSurrogate_5068e) := ⟨List.mem_of_getElem? (i := 2066) (by decide +kernel), by decide +kernel⟩
theorem zm_2067 : zgo (Cond.static yJ11_lowSurrogate_5068e) := ⟨List.mem_of_getElem? (i := 2067) (by decide +kernel), by decide +kernel⟩
theorem zm_2068 : zgo (Cond.code yJ11_lowSurrogate_5068e cJ11_lowSurrogate_5068e 1 (some .char)) := ⟨List.mem_of_getElem? (i := 2068) (by decide +kernel), by decide +kernel⟩
theorem zm_2069 : zgo (Cond.constant RJ11 76 (56320)) := ⟨List.mem_of_getElem? (i := 2069) (by decide +kernel), by decide +kernel⟩
theorem zw_wsX10_order_r5 : GoodIn lw_tbl wsX10_order_r5 := (zgc zm_2054 (zgc zm_2056 (zgc zm_2057 (zgc zm_2058 (zgc zm_2059 (zgc zm_2060 (zgc zm_102 (zgc zm_2061 (zgc zm_2062 (zgc zm_2063 (zgc zm_2064 (zgc zm_2065 (zgc zm_2066 (zgc zm_2067 (zgc zm_2068 (zgc zm_2069 (zgc zm_1518 (zgc zm_1521 (zgc zm_1523 (zgc zm_1525 (zgc zm_1526 (zgc zm_1527 (zgc zm_94 (zgc zm_1528 zgn))))))))))))))))))))))))
theorem zw_wsX10_order_r6 : GoodIn lw_tbl wsX10_order_r6 := (zgc zm_1529 (zgc zm_1530 (zgc zm_1531 (zgc zm_1532 (zgc zm_1533 (zgc zm_1534 (zgc zm_1535 (zgc zm_1266 (zgc zm_1411 (zgc zm_1413 (zgc zm_42 (zgc zm_1414 (zgc zm_1281 (zgc zm_1442 (zgc zm_1445 (zgc zm_1447 (zgc zm_1449 (zgc zm_1273 (zgc zm_1272 (zgc zm_1450 (zgc zm_1452 (zgc zm_43 (zgc zm_1453 (zgc zm_1454 zgn))))))))))))))))))))))))
theorem zw_wsX10_order_r7 : GoodIn lw_tbl wsX10_order_r7 := (zgc zm_1456 (zgc zm_44 (zgc zm_1457 (zgc zm_1458 (zgc zm_1460 (zgc zm_45 (zgc zm_1461 (zgc zm_1264 (zgc zm_1509 (zgc zm_1510 (zgc zm_1462 (zgc zm_1463 (zgc zm_87 (zgc zm_1464 (zgc zm_1465 (zgc zm_1466 (zgc zm_1467 (zgc zm_1468 (zgc zm_1469 (zgc zm_1470 (zgc zm_1471 (zgc zm_89 (zgc zm_1472 (zgc zm_1473 zgn))))))))))))))))))))))))
theorem zw_wsX10_order_r8 : GoodIn lw_tbl wsX10_order_r8 := (zgc zm_2495 (zgc zm_1474 (zgc zm_1498 (zgc zm_1499 (zgc zm_1500 (zgc zm_1501 (zgc zm_1502 (zgc zm_1504 (zgc zm_1505 (zgc zm_1506 (zgc zm_1508 (zgc zm_1507 (zgc zm_90 zgn)))))))))))))
theorem zw_wsX10_order : GoodIn lw_tbl wsX10_order := (zgc zm_1985 (goodIn_app (goodIn_app (goodIn_app (goodIn_app (goodIn_app (goodIn_app zw_wsX10_order_r1 (goodIn_app zw_wsX10_order_r2 (goodIn_app zw_wsX10_order_r3 (goodIn_app zw_wsX10_order_r4 (goodIn_app zw_wsX10_order_r5 (goodIn_app zw_wsX10_order_r6 (goodIn_app zw_wsX10_order_r7 zw_wsX10_order_r8))))))) zw_wsX100) zw_wsX90) zw_wsJx4a65c0) zw_wsJ00) zx_0))
theorem zm_1982 : zgo (Cond.methodLink RL 263 yX10_order) := ⟨List.mem_of_getElem? (i := 1982) (by decide +kernel), by decide +kernel⟩
theorem zm_1983 : zgo (Cond.instanceMethod yX10_order) := ⟨List.mem_of_getElem? (i := 1983) (by decide +kernel), by decide +kernel⟩
theorem zm_1984 : zgo (Cond.selects RX10 yX10_order yX10_order) := ⟨List.mem_of_getElem? (i := 1984) (by decide +kernel), by decide +kernel⟩
theorem gL_law_X10_order : GoodIn lw_tbl (wsV RL 263 RX10 yX10_order wsX10_order) := goodIn_app (a := [Cond.methodLink RL 263 yX10_order, Cond.instanceMethod yX10_order, Cond.selects RX10 yX10_order yX10_order, Cond.initialized RX10]) (zgc zm_1982 (zgc zm_1983 (zgc zm_1984 (zgc zm_73 zgn)))) zw_wsX10_order
theorem zm_987 : zgo (Cond.codeWith yL_clear cL_clear 4 (some .int) [(0, 9, 12, 23)]) := ⟨List.mem_of_getElem? (i := 987) (by decide +kernel), by decide +kernel⟩
theorem zm_988 : zgo (.methodLink RL 100 yX6_clear) := ⟨List.mem_of_getElem? (i := 988) (by decide +kernel), by decide +kernel⟩
theorem zm_989 : zgo (.instanceMethod yX6_clear) := ⟨List.mem_of_getElem? (i := 989) (by decide +kernel), by decide +kernel⟩
theorem zm_990 : zgo (.selects RX6 yX6_clear yX6_clear) := ⟨List.mem_of_getElem? (i := 990) (by decide +kernel), by decide +kernel⟩
theorem zm_991 : zgo (.code yX6_clear cX6_clear 4 (some .int)) := ⟨List.mem_of_getElem? (i := 991) (by decide +kernel), by decide +kernel⟩
theorem zw_wsL_clear : GoodIn lw_tbl wsL_clear := (zgc zm_987 (goodIn_app (goodIn_app (goodIn_app (goodIn_app (goodIn_app (zgc zm_656 (zgc zm_988 (zgc zm_989 (zgc zm_990 (zgc zm_69 (zgc zm_991 (zgc zm_298 (zgc zm_761 (zgc zm_137 (zgc zm_784 (zgc zm_786 (zgc zm_24 (zgc zm_787 (zgc zm_688 (zgc zm_91 (zgc zm_299 zgn)))))))))))))))) zw_wsX60) zw_wsX50) zw_wsX30) zx_0) zx_4))
theorem zm_985 : zgo (Cond.methodLink RL 264 yL_clear) := ⟨List.mem_of_getElem? (i := 985) (by decide +kernel), by decide +kernel⟩
theorem zm_986 : zgo (Cond.static yL_clear) := ⟨List.mem_of_getElem? (i := 986) (by decide +kernel), by decide +kernel⟩
theorem gL_law_L_clear : GoodIn lw_tbl (va_wsS RL 264 yL_clear wsL_clear) := goodIn_app (a := [Cond.methodLink RL 264 yL_clear, Cond.static yL_clear, Cond.initialized RL]) (zgc zm_985 (zgc zm_986 (zgc zm_68 zgn))) zw_wsL_clear
theorem zm_2073 : zgo (Cond.code yX10_clear cX10_clear 3 (some .int)) := ⟨List.mem_of_getElem? (i := 2073) (by decide +kernel), by decide +kernel⟩
theorem zw_wsX10_clear_r1 : GoodIn lw_tbl wsX10_clear_r1 := (zgc zm_1284 (zgc zm_1397 (zgc zm_1647 (zgc zm_1649 (zgc zm_46 (zgc zm_73 (zgc zm_1650 (zgc zm_1403 (zgc zm_1406 (zgc zm_1408 (zgc zm_76 (zgc zm_1410 (zgc zm_1269 (zgc zm_1325 (zgc zm_1326 (zgc zm_1327 (zgc zm_1411 (zgc zm_1413 (zgc zm_42 (zgc zm_1414 (zgc zm_1281 (zgc zm_1518 (zgc zm_1521 (zgc zm_1523 zgn))))))))))))))))))))))))
theorem zm_2075 : zgo (Cond.methodLink RX10 333 ⟨"java/util/List", "clear", "()V"⟩) := ⟨List.mem_of_getElem? (i := 2075) (by decide +kernel), by decide +kernel⟩
theorem zm_2078 : zgo (Cond.selects RJx4a65c ⟨"java/util/List", "clear", "()V"⟩ yJx4a65c_clear_da8c8) := ⟨List.mem_of_getElem? (i := 2078) (by decide +kernel), by decide +kernel⟩
theorem zm_2080 : zgo (Cond.instanceMethod yJx4a65c_clear_da8c8) := ⟨List.mem_of_getElem? (i := 2080) (by decide +kernel), by decide +kernel⟩
theorem zm_2082 : zgo (Cond.code yJx4a65c_clear_da8c8 cJx4a65c_clear_da8c8 4 none) := ⟨List.mem_of_getElem? (i := 2082) (by decide +kernel), by decide +kernel⟩
theorem zw_wsX10_clear_r2 : GoodIn lw_tbl wsX10_clear_r2 := (zgc zm_1525 (zgc zm_1526 (zgc zm_1527 (zgc zm_94 (zgc zm_1528 (zgc zm_1529 (zgc zm_1530 (zgc zm_95 (zgc zm_1531 (zgc zm_1532 (zgc zm_1533 (zgc zm_1534 (zgc zm_1535 (zgc zm_1266 (zgc zm_2075 (zgc zm_2078 (zgc zm_2080 (zgc zm_2082 (zgc zm_1273 (zgc zm_1272 zgn))))))))))))))))))))
theorem zw_wsX10_clear : GoodIn lw_tbl wsX10_clear := (zgc zm_2073 (goodIn_app (goodIn_app (goodIn_app (goodIn_app zw_wsX10_clear_r1 zw_wsX10_clear_r2) zw_wsX100) zw_wsX90) zw_wsJx4a65c0))
theorem zm_2070 : zgo (Cond.methodLink RL 266 yX10_clear) := ⟨List.mem_of_getElem? (i := 2070) (by decide +kernel), by decide +kernel⟩
theorem zm_2071 : zgo (Cond.instanceMethod yX10_clear) := ⟨List.mem_of_getElem? (i := 2071) (by decide +kernel), by decide +kernel⟩
theorem zm_2072 : zgo (Cond.selects RX10 yX10_clear yX10_clear) := ⟨List.mem_of_getElem? (i := 2072) (by decide +kernel), by decide +kernel⟩
theorem gL_law_X10_clear : GoodIn lw_tbl (wsV RL 266 RX10 yX10_clear wsX10_clear) := goodIn_app (a := [Cond.methodLink RL 266 yX10_clear, Cond.instanceMethod yX10_clear, Cond.selects RX10 yX10_clear yX10_clear, Cond.initialized RX10]) (zgc zm_2070 (zgc zm_2071 (zgc zm_2072 (zgc zm_73 zgn)))) zw_wsX10_clear
theorem zm_994 : zgo (Cond.codeWith yL_isAdmitted cL_isAdmitted 4 (some .int) [(0, 16, 19, 23)]) := ⟨List.mem_of_getElem? (i := 994) (by decide +kernel), by decide +kernel⟩
theorem zm_995 : zgo (Cond.methodLink RL 103 yX6_isAdmitted) := ⟨List.mem_of_getElem? (i := 995) (by decide +kernel), by decide +kernel⟩
theorem zm_996 : zgo (Cond.instanceMethod yX6_isAdmitted) := ⟨List.mem_of_getElem? (i := 996) (by decide +kernel), by decide +kernel⟩
theorem zm_997 : zgo (Cond.selects RX6 yX6_isAdmitted yX6_isAdmitted) := ⟨List.mem_of_getElem? (i := 997) (by decide +kernel), by decide +kernel⟩
theorem zm_998 : zgo (Cond.code yX6_isAdmitted cX6_isAdmitted 3 (some .boolean)) := ⟨List.mem_of_getElem? (i := 998) (by decide +kernel), by decide +kernel⟩
theorem zm_360 : zgo (Cond.methodLink RX6 268 yX6_tryPlan) := ⟨List.mem_of_getElem? (i := 360) (by decide +kernel), by decide +kernel⟩
theorem zm_362 : zgo (Cond.instanceMethod yX6_tryPlan) := ⟨List.mem_of_getElem? (i := 362) (by decide +kernel), by decide +kernel⟩
theorem zm_1 : zgo (Cond.selects RX6 yX6_tryPlan yX6_tryPlan) := ⟨List.mem_of_getElem? (i := 1) (by decide +kernel), by decide +kernel⟩
theorem zm_363 : zgo (Cond.code yX6_tryPlan cX6_tryPlan 2 (some .char)) := ⟨List.mem_of_getElem? (i := 363) (by decide +kernel), by decide +kernel⟩
theorem zm_364 : zgo (Cond.methodLink RX6 293 yX2_becomeLike) := ⟨List.mem_of_getElem? (i := 364) (by decide +kernel), by decide +kernel⟩
theorem zm_365 : zgo (Cond.instanceMethod yX2_becomeLike) := ⟨List.mem_of_getElem? (i := 365) (by decide +kernel), by decide +kernel⟩
theorem zw_wsL_isAdmitted_r1 : GoodIn lw_tbl wsL_isAdmitted_r1 := (zgc zm_656 (zgc zm_995 (zgc zm_996 (zgc zm_997 (zgc zm_69 (zgc zm_998 (zgc zm_298 (zgc zm_765 (zgc zm_784 (zgc zm_786 (zgc zm_24 (zgc zm_787 (zgc zm_688 (zgc zm_91 (zgc zm_299 (zgc zm_360 (zgc zm_362 (zgc zm_1 (zgc zm_363 (zgc zm_303 (zgc zm_759 (zgc zm_761 (zgc zm_364 (zgc zm_365 zgn))))))))))))))))))))))))
theorem zm_366 : zgo (Cond.selects RX2 yX2_becomeLike yX2_becomeLike) := ⟨List.mem_of_getElem? (i := 366) (by decide +kernel), by decide +kernel⟩
theorem zm_367 : zgo (Cond.code yX2_becomeLike cX2_becomeLike 3 none) := ⟨List.mem_of_getElem? (i := 367) (by decide +kernel), by decide +kernel⟩
theorem zm_368 : zgo (Cond.methodLink RX2 72 yX0_becomeLike) := ⟨List.mem_of_getElem? (i := 368) (by decide +kernel), by decide +kernel⟩
theorem zm_369 : zgo (Cond.instanceMethod yX0_becomeLike) := ⟨List.mem_of_getElem? (i := 369) (by decide +kernel), by decide +kernel⟩
theorem zm_370 : zgo (Cond.selects RX0 yX0_becomeLike yX0_becomeLike) := ⟨List.mem_of_getElem? (i := 370) (by decide +kernel), by decide +kernel⟩
theorem zw_wsL_isAdmitted_r2 : GoodIn lw_tbl wsL_isAdmitted_r2 := (zgc zm_366 (zgc zm_71 (zgc zm_367 (zgc zm_157 (zgc zm_159 (zgc zm_161 (zgc zm_163 (zgc zm_165 (zgc zm_167 (zgc zm_169 (zgc zm_171 (zgc zm_173 (zgc zm_175 (zgc zm_177 (zgc zm_179 (zgc zm_181 (zgc zm_183 (zgc zm_189 (zgc zm_185 (zgc zm_187 (zgc zm_368 (zgc zm_369 (zgc zm_370 (zgc zm_72 zgn))))))))))))))))))))))))
theorem zm_371 : zgo (Cond.code yX0_becomeLike cX0_becomeLike 2 none) := ⟨List.mem_of_getElem? (i := 371) (by decide +kernel), by decide +kernel⟩
theorem zm_372 : zgo (Cond.methodLink RX6 536 yX6_tryOrders) := ⟨List.mem_of_getElem? (i := 372) (by decide +kernel), by decide +kernel⟩
theorem zm_374 : zgo (Cond.instanceMethod yX6_tryOrders) := ⟨List.mem_of_getElem? (i := 374) (by decide +kernel), by decide +kernel⟩
theorem zm_2 : zgo (Cond.selects RX6 yX6_tryOrders yX6_tryOrders) := ⟨List.mem_of_getElem? (i := 2) (by decide +kernel), by decide +kernel⟩
theorem zm_375 : zgo (Cond.code yX6_tryOrders cX6_tryOrders 5 (some .char)) := ⟨List.mem_of_getElem? (i := 375) (by decide +kernel), by decide +kernel⟩
theorem zm_133 : zgo (Cond.fieldLink RX6 278 "Gangline$Plan" "kinds" "[C") := ⟨List.mem_of_getElem? (i := 133) (by decide +kernel), by decide +kernel⟩
theorem zm_135 : zgo (Cond.fieldLink RX6 282 "Gangline$Plan" "numbers" "[I") := ⟨List.mem_of_getElem? (i := 135) (by decide +kernel), by decide +kernel⟩
theorem zm_376 : zgo (Cond.methodLink RX6 285 yX6_obey) := ⟨List.mem_of_getElem? (i := 376) (by decide +kernel), by decide +kernel⟩
theorem zm_378 : zgo (Cond.instanceMethod yX6_obey) := ⟨List.mem_of_getElem? (i := 378) (by decide +kernel), by decide +kernel⟩
theorem zm_3 : zgo (Cond.selects RX6 yX6_obey yX6_obey) := ⟨List.mem_of_getElem? (i := 3) (by decide +kernel), by decide +kernel⟩
theorem zm_379 : zgo (Cond.code yX6_obey cX6_obey 4 (some .char)) := ⟨List.mem_of_getElem? (i := 379) (by decide +kernel), by decide +kernel⟩
theorem zw_wsL_isAdmitted_r3 : GoodIn lw_tbl wsL_isAdmitted_r3 := (zgc zm_371 (zgc zm_235 (zgc zm_237 (zgc zm_246 (zgc zm_249 (zgc zm_252 (zgc zm_255 (zgc zm_260 (zgc zm_372 (zgc zm_374 (zgc zm_2 (zgc zm_375 (zgc zm_137 (zgc zm_133 (zgc zm_135 (zgc zm_376 (zgc zm_378 (zgc zm_3 (zgc zm_379 (zgc zm_380 (zgc zm_382 (zgc zm_4 (zgc zm_383 (zgc zm_292 zgn))))))))))))))))))))))))
theorem zw_wsL_isAdmitted_r4 : GoodIn lw_tbl wsL_isAdmitted_r4 := (zgc zm_164 (zgc zm_162 (zgc zm_176 (zgc zm_634 (zgc zm_168 (zgc zm_408 (zgc zm_409 (zgc zm_88 (zgc zm_410 (zgc zm_170 (zgc zm_638 (zgc zm_174 (zgc zm_384 (zgc zm_386 (zgc zm_5 (zgc zm_387 (zgc zm_190 (zgc zm_388 (zgc zm_390 (zgc zm_6 (zgc zm_391 (zgc zm_158 (zgc zm_293 (zgc zm_392 zgn))))))))))))))))))))))))
theorem zw_wsL_isAdmitted_r5 : GoodIn lw_tbl wsL_isAdmitted_r5 := (zgc zm_393 (zgc zm_394 (zgc zm_395 (zgc zm_396 (zgc zm_397 (zgc zm_398 (zgc zm_399 (zgc zm_400 (zgc zm_402 (zgc zm_7 (zgc zm_403 (zgc zm_641 (zgc zm_184 (zgc zm_404 (zgc zm_406 (zgc zm_8 (zgc zm_407 (zgc zm_295 (zgc zm_294 (zgc zm_714 (zgc zm_716 (zgc zm_718 (zgc zm_720 (zgc zm_411 zgn))))))))))))))))))))))))
theorem zw_wsL_isAdmitted_r6 : GoodIn lw_tbl wsL_isAdmitted_r6 := (zgc zm_413 (zgc zm_9 (zgc zm_414 (zgc zm_636 (zgc zm_415 (zgc zm_416 (zgc zm_417 (zgc zm_418 (zgc zm_419 (zgc zm_420 (zgc zm_421 (zgc zm_422 (zgc zm_423 (zgc zm_424 (zgc zm_425 (zgc zm_426 (zgc zm_427 (zgc zm_428 (zgc zm_429 (zgc zm_430 (zgc zm_238 (zgc zm_431 (zgc zm_432 (zgc zm_433 zgn))))))))))))))))))))))))
theorem zw_wsL_isAdmitted_r7 : GoodIn lw_tbl wsL_isAdmitted_r7 := (zgc zm_434 (zgc zm_640 (zgc zm_435 (zgc zm_436 (zgc zm_437 (zgc zm_438 (zgc zm_439 (zgc zm_440 (zgc zm_441 (zgc zm_247 (zgc zm_250 (zgc zm_253 (zgc zm_256 (zgc zm_261 (zgc zm_442 (zgc zm_444 (zgc zm_10 (zgc zm_445 (zgc zm_182 (zgc zm_446 (zgc zm_447 (zgc zm_448 (zgc zm_449 (zgc zm_450 zgn))))))))))))))))))))))))
theorem zw_wsL_isAdmitted_r8 : GoodIn lw_tbl wsL_isAdmitted_r8 := (zgc zm_451 (zgc zm_452 (zgc zm_453 (zgc zm_454 (zgc zm_456 (zgc zm_11 (zgc zm_457 (zgc zm_458 (zgc zm_459 (zgc zm_460 (zgc zm_461 (zgc zm_462 (zgc zm_463 (zgc zm_464 (zgc zm_465 (zgc zm_467 (zgc zm_12 (zgc zm_468 (zgc zm_166 (zgc zm_469 (zgc zm_470 (zgc zm_471 (zgc zm_472 (zgc zm_473 zgn))))))))))))))))))))))))
theorem zw_wsL_isAdmitted_r9 : GoodIn lw_tbl wsL_isAdmitted_r9 := (zgc zm_475 (zgc zm_13 (zgc zm_476 (zgc zm_477 (zgc zm_479 (zgc zm_14 (zgc zm_480 (zgc zm_481 (zgc zm_483 (zgc zm_15 (zgc zm_484 (zgc zm_485 (zgc zm_487 (zgc zm_16 (zgc zm_488 (zgc zm_160 (zgc zm_489 (zgc zm_491 (zgc zm_17 (zgc zm_492 (zgc zm_493 (zgc zm_495 (zgc zm_18 (zgc zm_496 zgn))))))))))))))))))))))))
theorem zw_wsL_isAdmitted_r10 : GoodIn lw_tbl wsL_isAdmitted_r10 := (zgc zm_497 (zgc zm_499 (zgc zm_19 (zgc zm_500 (zgc zm_186 zgn)))))
theorem zw_wsL_isAdmitted : GoodIn lw_tbl wsL_isAdmitted := (zgc zm_994 (goodIn_app (goodIn_app (goodIn_app (goodIn_app (goodIn_app (goodIn_app (goodIn_app (goodIn_app (goodIn_app (goodIn_app (goodIn_app zw_wsL_isAdmitted_r1 (goodIn_app zw_wsL_isAdmitted_r2 (goodIn_app zw_wsL_isAdmitted_r3 (goodIn_app zw_wsL_isAdmitted_r4 (goodIn_app zw_wsL_isAdmitted_r5 (goodIn_app zw_wsL_isAdmitted_r6 (goodIn_app zw_wsL_isAdmitted_r7 (goodIn_app zw_wsL_isAdmitted_r8 (goodIn_app zw_wsL_isAdmitted_r9 zw_wsL_isAdmitted_r10))))))))) zw_wsX60) zw_wsX50) zw_wsX20) zw_wsX00) zw_wsX30) zw_wsX10) zw_wsX40) zx_0) zx_4) zx_5))
theorem zm_992 : zgo (Cond.methodLink RL 267 yL_isAdmitted) := ⟨List.mem_of_getElem? (i := 992) (by decide +kernel), by decide +kernel⟩
theorem zm_993 : zgo (Cond.static yL_isAdmitted) := ⟨List.mem_of_getElem? (i := 993) (by decide +kernel), by decide +kernel⟩
theorem gL_law_L_isAdmitted : GoodIn lw_tbl (va_wsS RL 267 yL_isAdmitted wsL_isAdmitted) := goodIn_app (a := [Cond.methodLink RL 267 yL_isAdmitted, Cond.static yL_isAdmitted, Cond.initialized RL]) (zgc zm_992 (zgc zm_993 (zgc zm_68 zgn))) zw_wsL_isAdmitted
theorem zm_2086 : zgo (Cond.code yX10_isAdmitted cX10_isAdmitted 2 (some .boolean)) := ⟨List.mem_of_getElem? (i := 2086) (by decide +kernel), by decide +kernel⟩
theorem zm_2087 : zgo (Cond.methodLink RX10 344 yX10_planned) := ⟨List.mem_of_getElem? (i := 2087) (by decide +kernel), by decide +kernel⟩
theorem zm_2089 : zgo (Cond.instanceMethod yX10_planned) := ⟨List.mem_of_getElem? (i := 2089) (by decide +kernel), by decide +kernel⟩
theorem zm_61 : zgo (Cond.selects RX10 yX10_planned yX10_planned) := ⟨List.mem_of_getElem? (i := 61) (by decide +kernel), by decide +kernel⟩
theorem zm_2090 : zgo (Cond.code yX10_planned cX10_planned 3 (some .char)) := ⟨List.mem_of_getElem? (i := 2090) (by decide +kernel), by decide +kernel⟩
theorem zw_wsX10_isAdmitted_r1 : GoodIn lw_tbl wsX10_isAdmitted_r1 := (zgc zm_1647 (zgc zm_1649 (zgc zm_46 (zgc zm_73 (zgc zm_1650 (zgc zm_1284 (zgc zm_1403 (zgc zm_1406 (zgc zm_1408 (zgc zm_76 (zgc zm_1410 (zgc zm_1269 (zgc zm_1325 (zgc zm_1326 (zgc zm_1327 (zgc zm_1411 (zgc zm_1413 (zgc zm_42 (zgc zm_1414 (zgc zm_1281 (zgc zm_2087 (zgc zm_2089 (zgc zm_61 (zgc zm_2090 zgn))))))))))))))))))))))))
theorem zm_2091 : zgo (Cond.methodLink RX10 336 yX9_copy) := ⟨List.mem_of_getElem? (i := 2091) (by decide +kernel), by decide +kernel⟩
theorem zm_2092 : zgo (Cond.instanceMethod yX9_copy) := ⟨List.mem_of_getElem? (i := 2092) (by decide +kernel), by decide +kernel⟩
theorem zm_2093 : zgo (Cond.selects RX9 yX9_copy yX9_copy) := ⟨List.mem_of_getElem? (i := 2093) (by decide +kernel), by decide +kernel⟩
theorem zm_2094 : zgo (Cond.code yX9_copy cX9_copy 4 (some (.object "GanglineModel$Team"))) := ⟨List.mem_of_getElem? (i := 2094) (by decide +kernel), by decide +kernel⟩
theorem zm_2095 : zgo (Cond.classLink RX9 13 RX9) := ⟨List.mem_of_getElem? (i := 2095) (by decide +kernel), by decide +kernel⟩
theorem zw_wsX10_isAdmitted_r2 : GoodIn lw_tbl wsX10_isAdmitted_r2 := (zgc zm_1397 (zgc zm_1518 (zgc zm_1521 (zgc zm_1523 (zgc zm_1525 (zgc zm_1526 (zgc zm_1527 (zgc zm_94 (zgc zm_1528 (zgc zm_1529 (zgc zm_1530 (zgc zm_95 (zgc zm_1531 (zgc zm_1532 (zgc zm_1533 (zgc zm_1534 (zgc zm_1535 (zgc zm_1266 (zgc zm_2091 (zgc zm_2092 (zgc zm_2093 (zgc zm_98 (zgc zm_2094 (zgc zm_2095 zgn))))))))))))))))))))))))
theorem zm_2105 : zgo (Cond.methodLink RX9 77 ⟨"[I", "clone", "()Ljava/lang/Object;"⟩) := ⟨List.mem_of_getElem? (i := 2105) (by decide +kernel), by decide +kernel⟩
theorem zm_2106 : zgo (Cond.sameMethod "[I" "java/lang/Object" "clone" "()Ljava/lang/Object;") := ⟨List.mem_of_getElem? (i := 2106) (by decide +kernel), by decide +kernel⟩
theorem zm_2107 : zgo (Cond.native ⟨"java/lang/Object", "clone", "()Ljava/lang/Object;"⟩) := ⟨List.mem_of_getElem? (i := 2107) (by decide +kernel), by decide +kernel⟩
theorem zm_2108 : zgo (Cond.instanceMethod ⟨"java/lang/Object", "clone", "()Ljava/lang/Object;"⟩) := ⟨List.mem_of_getElem? (i := 2108) (by decide +kernel), by decide +kernel⟩
theorem zm_2109 : zgo (Cond.selects "[I" ⟨"[I", "clone", "()Ljava/lang/Object;"⟩ ⟨"java/lang/Object", "clone", "()Ljava/lang/Object;"⟩) := ⟨List.mem_of_getElem? (i := 2109) (by decide +kernel), by decide +kernel⟩
theorem zm_2111 : zgo (Cond.classLink RX9 78 "[I") := ⟨List.mem_of_getElem? (i := 2111) (by decide +kernel), by decide +kernel⟩
theorem zm_1566 : zgo (Cond.fieldLink RX9 81 "GanglineModel$Team" "minute" "I") := ⟨List.mem_of_getElem? (i := 1566) (by decide +kernel), by decide +kernel⟩
theorem zm_1568 : zgo (Cond.fieldLink RX9 84 "GanglineModel$Team" "begunAt" "I") := ⟨List.mem_of_getElem? (i := 1568) (by decide +kernel), by decide +kernel⟩
theorem zm_1570 : zgo (Cond.fieldLink RX9 87 "GanglineModel$Team" "checkpoint" "I") := ⟨List.mem_of_getElem? (i := 1570) (by decide +kernel), by decide +kernel⟩
theorem zm_1572 : zgo (Cond.fieldLink RX9 90 "GanglineModel$Team" "kilos" "I") := ⟨List.mem_of_getElem? (i := 1572) (by decide +kernel), by decide +kernel⟩
theorem zm_1576 : zgo (Cond.fieldLink RX9 93 "GanglineModel$Team" "breaks" "I") := ⟨List.mem_of_getElem? (i := 1576) (by decide +kernel), by decide +kernel⟩
theorem zm_1582 : zgo (Cond.fieldLink RX9 96 "GanglineModel$Team" "areOn" "Z") := ⟨List.mem_of_getElem? (i := 1582) (by decide +kernel), by decide +kernel⟩
theorem zm_1590 : zgo (Cond.fieldLink RX9 100 "GanglineModel$Team" "hasLong" "Z") := ⟨List.mem_of_getElem? (i := 1590) (by decide +kernel), by decide +kernel⟩
theorem zm_1592 : zgo (Cond.fieldLink RX9 103 "GanglineModel$Team" "rests" "I") := ⟨List.mem_of_getElem? (i := 1592) (by decide +kernel), by decide +kernel⟩
theorem zm_2096 : zgo (Cond.methodLink RX9 48 yX9_init) := ⟨List.mem_of_getElem? (i := 2096) (by decide +kernel), by decide +kernel⟩
theorem zw_wsX10_isAdmitted_r3 : GoodIn lw_tbl wsX10_isAdmitted_r3 := (zgc zm_1549 (zgc zm_1556 (zgc zm_1558 (zgc zm_1791 (zgc zm_1562 (zgc zm_2105 (zgc zm_2106 (zgc zm_2107 (zgc zm_2108 (zgc zm_2109 (zgc zm_2111 (zgc zm_1564 (zgc zm_1566 (zgc zm_1568 (zgc zm_1570 (zgc zm_1572 (zgc zm_1574 (zgc zm_1576 (zgc zm_1578 (zgc zm_1580 (zgc zm_1582 (zgc zm_1590 (zgc zm_1592 (zgc zm_2096 zgn))))))))))))))))))))))))
theorem zw_wsX10_isAdmitted_r4 : GoodIn lw_tbl wsX10_isAdmitted_r4 := (zgc zm_1551 (zgc zm_1552 (zgc zm_1553 (zgc zm_114 (zgc zm_115 (zgc zm_1554 (zgc zm_1253 (zgc zm_1560 (zgc zm_146 (zgc zm_1584 (zgc zm_1594 (zgc zm_1555 (zgc zm_1255 (zgc zm_1256 (zgc zm_1264 (zgc zm_1257 (zgc zm_1258 (zgc zm_75 (zgc zm_1259 (zgc zm_1270 (zgc zm_1260 (zgc zm_1261 (zgc zm_74 (zgc zm_1262 zgn))))))))))))))))))))))))
theorem zw_wsX10_isAdmitted_r5 : GoodIn lw_tbl wsX10_isAdmitted_r5 := (zgc zm_1263 (zgc zm_1786 (zgc zm_1339 (zgc zm_1341 (zgc zm_1343 (zgc zm_1344 (zgc zm_1345 (zgc zm_84 (zgc zm_1346 (zgc zm_1347 (zgc zm_1348 (zgc zm_1353 (zgc zm_1349 (zgc zm_1351 (zgc zm_1271 (zgc zm_1272 (zgc zm_1352 (zgc zm_1788 (zgc zm_1368 (zgc zm_1370 (zgc zm_1372 (zgc zm_1350 (zgc zm_1790 (zgc zm_1377 zgn))))))))))))))))))))))))
theorem zm_2097 : zgo (Cond.methodLink RX9 69 yX7_copy) := ⟨List.mem_of_getElem? (i := 2097) (by decide +kernel), by decide +kernel⟩
theorem zm_2098 : zgo (Cond.instanceMethod yX7_copy) := ⟨List.mem_of_getElem? (i := 2098) (by decide +kernel), by decide +kernel⟩
theorem zm_2099 : zgo (Cond.selects RX7 yX7_copy yX7_copy) := ⟨List.mem_of_getElem? (i := 2099) (by decide +kernel), by decide +kernel⟩
theorem zm_2100 : zgo (Cond.code yX7_copy cX7_copy 2 (some (.object "GanglineModel$Dog"))) := ⟨List.mem_of_getElem? (i := 2100) (by decide +kernel), by decide +kernel⟩
theorem zm_2101 : zgo (Cond.classLink RX7 10 RX7) := ⟨List.mem_of_getElem? (i := 2101) (by decide +kernel), by decide +kernel⟩
theorem zw_wsX10_isAdmitted_r6 : GoodIn lw_tbl wsX10_isAdmitted_r6 := (zgc zm_1379 (zgc zm_1381 (zgc zm_1267 (zgc zm_1382 (zgc zm_1383 (zgc zm_1384 (zgc zm_1385 (zgc zm_2097 (zgc zm_2098 (zgc zm_2099 (zgc zm_99 (zgc zm_2100 (zgc zm_2101 (zgc zm_1652 (zgc zm_1657 (zgc zm_1659 (zgc zm_1670 (zgc zm_1661 (zgc zm_1672 (zgc zm_1664 (zgc zm_1666 (zgc zm_1674 (zgc zm_1676 (zgc zm_1678 zgn))))))))))))))))))))))))
theorem zm_2102 : zgo (Cond.methodLink RX7 55 yX7_init) := ⟨List.mem_of_getElem? (i := 2102) (by decide +kernel), by decide +kernel⟩
theorem zm_2104 : zgo (Cond.methodLink RX9 73 ⟨"java/util/List", "add", "(Ljava/lang/Object;)Z"⟩) := ⟨List.mem_of_getElem? (i := 2104) (by decide +kernel), by decide +kernel⟩
theorem zw_wsX10_isAdmitted_r7 : GoodIn lw_tbl wsX10_isAdmitted_r7 := (zgc zm_1680 (zgc zm_1685 (zgc zm_2102 (zgc zm_1654 (zgc zm_1655 (zgc zm_1656 (zgc zm_1683 (zgc zm_1668 (zgc zm_2104 (zgc zm_1445 (zgc zm_1447 (zgc zm_1449 (zgc zm_1273 (zgc zm_1450 (zgc zm_1452 (zgc zm_43 (zgc zm_1453 (zgc zm_1454 (zgc zm_1456 (zgc zm_44 (zgc zm_1457 (zgc zm_1458 (zgc zm_1460 (zgc zm_45 zgn))))))))))))))))))))))))
theorem zw_wsX10_isAdmitted_r8 : GoodIn lw_tbl wsX10_isAdmitted_r8 := (zgc zm_1461 (zgc zm_1509 (zgc zm_409 (zgc zm_88 (zgc zm_410 (zgc zm_1510 (zgc zm_1462 (zgc zm_1463 (zgc zm_87 (zgc zm_1464 (zgc zm_1465 (zgc zm_1466 (zgc zm_1467 (zgc zm_1468 (zgc zm_1469 (zgc zm_1470 (zgc zm_1471 (zgc zm_89 (zgc zm_1472 (zgc zm_1473 (zgc zm_2495 (zgc zm_1474 (zgc zm_1498 (zgc zm_1499 zgn))))))))))))))))))))))))
theorem zm_2112 : zgo (Cond.methodLink RX10 340 yX10_tries) := ⟨List.mem_of_getElem? (i := 2112) (by decide +kernel), by decide +kernel⟩
theorem zm_2114 : zgo (Cond.instanceMethod yX10_tries) := ⟨List.mem_of_getElem? (i := 2114) (by decide +kernel), by decide +kernel⟩
theorem zm_62 : zgo (Cond.selects RX10 yX10_tries yX10_tries) := ⟨List.mem_of_getElem? (i := 62) (by decide +kernel), by decide +kernel⟩
theorem zm_2115 : zgo (Cond.code yX10_tries cX10_tries 6 (some .char)) := ⟨List.mem_of_getElem? (i := 2115) (by decide +kernel), by decide +kernel⟩
theorem zw_wsX10_isAdmitted_r9 : GoodIn lw_tbl wsX10_isAdmitted_r9 := (zgc zm_1500 (zgc zm_1501 (zgc zm_1502 (zgc zm_1504 (zgc zm_1505 (zgc zm_463 (zgc zm_464 (zgc zm_1506 (zgc zm_1508 (zgc zm_1507 (zgc zm_90 (zgc zm_2112 (zgc zm_2114 (zgc zm_62 (zgc zm_2115 (zgc zm_1800 (zgc zm_1335 (zgc zm_1364 (zgc zm_1374 (zgc zm_1773 (zgc zm_1775 (zgc zm_49 (zgc zm_1776 (zgc zm_1651 zgn))))))))))))))))))))))))
theorem zw_wsX10_isAdmitted_r10 : GoodIn lw_tbl wsX10_isAdmitted_r10 := (zgc zm_1777 (zgc zm_1779 (zgc zm_50 (zgc zm_1780 (zgc zm_1282 (zgc zm_1415 (zgc zm_1398 (zgc zm_1399 (zgc zm_1400 (zgc zm_1401 (zgc zm_1781 (zgc zm_1782 (zgc zm_1783 (zgc zm_1784 (zgc zm_1792 (zgc zm_1793 (zgc zm_1794 (zgc zm_1795 (zgc zm_1796 (zgc zm_1798 (zgc zm_51 (zgc zm_1799 (zgc zm_1283 (zgc zm_1801 zgn))))))))))))))))))))))))
theorem zw_wsX10_isAdmitted_r11 : GoodIn lw_tbl wsX10_isAdmitted_r11 := (zgc zm_1802 (zgc zm_1804 (zgc zm_52 (zgc zm_1805 (zgc zm_1806 (zgc zm_1808 (zgc zm_53 (zgc zm_1809 (zgc zm_1810 (zgc zm_1811 (zgc zm_1812 (zgc zm_1813 (zgc zm_1814 (zgc zm_1816 (zgc zm_54 (zgc zm_1817 (zgc zm_1818 (zgc zm_1819 (zgc zm_1820 (zgc zm_1821 (zgc zm_1826 (zgc zm_1823 (zgc zm_1825 (zgc zm_1827 zgn))))))))))))))))))))))))
theorem zw_wsX10_isAdmitted_r12 : GoodIn lw_tbl wsX10_isAdmitted_r12 := (zgc zm_1829 (zgc zm_55 (zgc zm_1830 (zgc zm_1831 (zgc zm_1832 (zgc zm_1833 (zgc zm_1834 (zgc zm_1835 (zgc zm_1836 (zgc zm_1837 (zgc zm_1838 (zgc zm_1839 (zgc zm_1840 (zgc zm_1841 (zgc zm_1842 (zgc zm_1843 (zgc zm_1844 (zgc zm_1845 (zgc zm_1846 (zgc zm_1847 (zgc zm_1848 (zgc zm_1849 (zgc zm_1851 (zgc zm_56 zgn))))))))))))))))))))))))
theorem zw_wsX10_isAdmitted_r13 : GoodIn lw_tbl wsX10_isAdmitted_r13 := (zgc zm_1852 (zgc zm_1853 (zgc zm_1855 (zgc zm_57 (zgc zm_1856 (zgc zm_1288 (zgc zm_1857 (zgc zm_1859 (zgc zm_58 (zgc zm_1860 zgn))))))))))
theorem zw_wsX10_isAdmitted : GoodIn lw_tbl wsX10_isAdmitted := (zgc zm_2086 (goodIn_app (goodIn_app (goodIn_app (goodIn_app (goodIn_app (goodIn_app (goodIn_app (goodIn_app (goodIn_app zw_wsX10_isAdmitted_r1 (goodIn_app zw_wsX10_isAdmitted_r2 (goodIn_app zw_wsX10_isAdmitted_r3 (goodIn_app zw_wsX10_isAdmitted_r4 (goodIn_app zw_wsX10_isAdmitted_r5 (goodIn_app zw_wsX10_isAdmitted_r6 (goodIn_app zw_wsX10_isAdmitted_r7 (goodIn_app zw_wsX10_isAdmitted_r8 (goodIn_app zw_wsX10_isAdmitted_r9 (goodIn_app zw_wsX10_isAdmitted_r10 (goodIn_app zw_wsX10_isAdmitted_r11 (goodIn_app zw_wsX10_isAdmitted_r12 zw_wsX10_isAdmitted_r13)))))))))))) zw_wsX100) zw_wsJx4a65c0) zw_wsX90) zw_wsJx354110) zw_wsX70) zw_wsX80) zx_0) zx_5))
theorem zm_2083 : zgo (Cond.methodLink RL 269 yX10_isAdmitted) := ⟨List.mem_of_getElem? (i := 2083) (by decide +kernel), by decide +kernel⟩
theorem zm_2084 : zgo (Cond.instanceMethod yX10_isAdmitted) := ⟨List.mem_of_getElem? (i := 2084) (by decide +kernel), by decide +kernel⟩
theorem zm_2085 : zgo (Cond.selects RX10 yX10_isAdmitted yX10_isAdmitted) := ⟨List.mem_of_getElem? (i := 2085) (by decide +kernel), by decide +kernel⟩
theorem gL_law_X10_isAdmitted : GoodIn lw_tbl (wsV RL 269 RX10 yX10_isAdmitted wsX10_isAdmitted) := goodIn_app (a := [Cond.methodLink RL 269 yX10_isAdmitted, Cond.instanceMethod yX10_isAdmitted, Cond.selects RX10 yX10_isAdmitted yX10_isAdmitted, Cond.initialized RX10]) (zgc zm_2083 (zgc zm_2084 (zgc zm_2085 (zgc zm_73 zgn)))) zw_wsX10_isAdmitted
theorem zm_1001 : zgo (Cond.codeWith yL_forecast cL_forecast 4 (some .int) [(0, 9, 12, 23), (0, 9, 15, 109)]) := ⟨List.mem_of_getElem? (i := 1001) (by decide +kernel), by decide +kernel⟩
theorem zm_1003 : zgo (Cond.methodLink RL 106 yX6_forecast) := ⟨List.mem_of_getElem? (i := 1003) (by decide +kernel), by decide +kernel⟩
theorem zm_1004 : zgo (Cond.instanceMethod yX6_forecast) := ⟨List.mem_of_getElem? (i := 1004) (by decide +kernel), by decide +kernel⟩
theorem zm_1005 : zgo (Cond.selects RX6 yX6_forecast yX6_forecast) := ⟨List.mem_of_getElem? (i := 1005) (by decide +kernel), by decide +kernel⟩
theorem zm_1006 : zgo (Cond.code yX6_forecast cX6_forecast 2 (some .int)) := ⟨List.mem_of_getElem? (i := 1006) (by decide +kernel), by decide +kernel⟩
theorem zw_wsL_forecast_r1 : GoodIn lw_tbl wsL_forecast_r1 := (zgc zm_656 (zgc zm_1003 (zgc zm_1004 (zgc zm_1005 (zgc zm_69 (zgc zm_1006 (zgc zm_298 (zgc zm_303 (zgc zm_162 (zgc zm_759 (zgc zm_784 (zgc zm_786 (zgc zm_24 (zgc zm_787 (zgc zm_688 (zgc zm_91 (zgc zm_299 (zgc zm_360 (zgc zm_362 (zgc zm_1 (zgc zm_363 (zgc zm_761 (zgc zm_364 (zgc zm_365 zgn))))))))))))))))))))))))
theorem zw_wsL_forecast_r2 : GoodIn lw_tbl wsL_forecast_r2 := (zgc zm_366 (zgc zm_71 (zgc zm_367 (zgc zm_157 (zgc zm_159 (zgc zm_161 (zgc zm_163 (zgc zm_165 (zgc zm_167 (zgc zm_169 (zgc zm_171 (zgc zm_173 (zgc zm_175 (zgc zm_177 (zgc zm_179 (zgc zm_181 (zgc zm_183 (zgc zm_189 (zgc zm_185 (zgc zm_187 (zgc zm_368 (zgc zm_369 (zgc zm_370 (zgc zm_72 zgn))))))))))))))))))))))))
theorem zw_wsL_forecast_r3 : GoodIn lw_tbl wsL_forecast_r3 := (zgc zm_371 (zgc zm_235 (zgc zm_237 (zgc zm_246 (zgc zm_249 (zgc zm_252 (zgc zm_255 (zgc zm_260 (zgc zm_372 (zgc zm_374 (zgc zm_2 (zgc zm_375 (zgc zm_137 (zgc zm_133 (zgc zm_135 (zgc zm_376 (zgc zm_378 (zgc zm_3 (zgc zm_379 (zgc zm_380 (zgc zm_382 (zgc zm_4 (zgc zm_383 (zgc zm_292 zgn))))))))))))))))))))))))
theorem zw_wsL_forecast_r4 : GoodIn lw_tbl wsL_forecast_r4 := (zgc zm_164 (zgc zm_176 (zgc zm_634 (zgc zm_168 (zgc zm_408 (zgc zm_409 (zgc zm_88 (zgc zm_410 (zgc zm_170 (zgc zm_638 (zgc zm_174 (zgc zm_384 (zgc zm_386 (zgc zm_5 (zgc zm_387 (zgc zm_190 (zgc zm_388 (zgc zm_390 (zgc zm_6 (zgc zm_391 (zgc zm_158 (zgc zm_293 (zgc zm_392 (zgc zm_393 zgn))))))))))))))))))))))))
theorem zw_wsL_forecast_r5 : GoodIn lw_tbl wsL_forecast_r5 := (zgc zm_394 (zgc zm_395 (zgc zm_396 (zgc zm_397 (zgc zm_398 (zgc zm_399 (zgc zm_400 (zgc zm_402 (zgc zm_7 (zgc zm_403 (zgc zm_641 (zgc zm_184 (zgc zm_404 (zgc zm_406 (zgc zm_8 (zgc zm_407 (zgc zm_295 (zgc zm_294 (zgc zm_714 (zgc zm_716 (zgc zm_718 (zgc zm_720 (zgc zm_411 (zgc zm_413 zgn))))))))))))))))))))))))
theorem zw_wsL_forecast_r6 : GoodIn lw_tbl wsL_forecast_r6 := (zgc zm_9 (zgc zm_414 (zgc zm_636 (zgc zm_415 (zgc zm_416 (zgc zm_417 (zgc zm_418 (zgc zm_419 (zgc zm_420 (zgc zm_421 (zgc zm_422 (zgc zm_423 (zgc zm_424 (zgc zm_425 (zgc zm_426 (zgc zm_427 (zgc zm_428 (zgc zm_429 (zgc zm_430 (zgc zm_238 (zgc zm_431 (zgc zm_432 (zgc zm_433 (zgc zm_434 zgn))))))))))))))))))))))))
theorem zw_wsL_forecast_r7 : GoodIn lw_tbl wsL_forecast_r7 := (zgc zm_640 (zgc zm_435 (zgc zm_436 (zgc zm_437 (zgc zm_438 (zgc zm_439 (zgc zm_440 (zgc zm_441 (zgc zm_247 (zgc zm_250 (zgc zm_253 (zgc zm_256 (zgc zm_261 (zgc zm_442 (zgc zm_444 (zgc zm_10 (zgc zm_445 (zgc zm_182 (zgc zm_446 (zgc zm_447 (zgc zm_448 (zgc zm_449 (zgc zm_450 (zgc zm_451 zgn))))))))))))))))))))))))
theorem zw_wsL_forecast_r8 : GoodIn lw_tbl wsL_forecast_r8 := (zgc zm_452 (zgc zm_453 (zgc zm_454 (zgc zm_456 (zgc zm_11 (zgc zm_457 (zgc zm_458 (zgc zm_459 (zgc zm_460 (zgc zm_461 (zgc zm_462 (zgc zm_463 (zgc zm_464 (zgc zm_465 (zgc zm_467 (zgc zm_12 (zgc zm_468 (zgc zm_166 (zgc zm_469 (zgc zm_470 (zgc zm_471 (zgc zm_472 (zgc zm_473 (zgc zm_475 zgn))))))))))))))))))))))))
theorem zw_wsL_forecast_r9 : GoodIn lw_tbl wsL_forecast_r9 := (zgc zm_13 (zgc zm_476 (zgc zm_477 (zgc zm_479 (zgc zm_14 (zgc zm_480 (zgc zm_481 (zgc zm_483 (zgc zm_15 (zgc zm_484 (zgc zm_485 (zgc zm_487 (zgc zm_16 (zgc zm_488 (zgc zm_160 (zgc zm_489 (zgc zm_491 (zgc zm_17 (zgc zm_492 (zgc zm_493 (zgc zm_495 (zgc zm_18 (zgc zm_496 (zgc zm_497 zgn))))))))))))))))))))))))
theorem zm_1007 : zgo (Cond.methodLink RX6 275 yX6_needAdmitted) := ⟨List.mem_of_getElem? (i := 1007) (by decide +kernel), by decide +kernel⟩
theorem zm_1009 : zgo (Cond.instanceMethod yX6_needAdmitted) := ⟨List.mem_of_getElem? (i := 1009) (by decide +kernel), by decide +kernel⟩
theorem zm_31 : zgo (Cond.selects RX6 yX6_needAdmitted yX6_needAdmitted) := ⟨List.mem_of_getElem? (i := 31) (by decide +kernel), by decide +kernel⟩
theorem zm_1010 : zgo (Cond.code yX6_needAdmitted cX6_needAdmitted 3 none) := ⟨List.mem_of_getElem? (i := 1010) (by decide +kernel), by decide +kernel⟩
theorem zm_1011 : zgo (Cond.classLink RX6 301 "java/util/NoSuchElementException") := ⟨List.mem_of_getElem? (i := 1011) (by decide +kernel), by decide +kernel⟩
theorem zm_85 : zgo (Cond.initialized "java/util/NoSuchElementException") := ⟨List.mem_of_getElem? (i := 85) (by decide +kernel), by decide +kernel⟩
theorem zw_wsL_forecast_r10 : GoodIn lw_tbl wsL_forecast_r10 := (zgc zm_499 (zgc zm_19 (zgc zm_500 (zgc zm_186 (zgc zm_1007 (zgc zm_1009 (zgc zm_31 (zgc zm_1010 (zgc zm_1011 (zgc zm_85 (zgc zm_765 zgn)))))))))))
theorem zw_zwL_forecast : GoodIn lw_tbl zwL_forecast := (zgc zm_1001 (goodIn_app (goodIn_app (goodIn_app (goodIn_app (goodIn_app (goodIn_app (goodIn_app (goodIn_app (goodIn_app (goodIn_app (goodIn_app (goodIn_app zw_wsL_forecast_r1 (goodIn_app zw_wsL_forecast_r2 (goodIn_app zw_wsL_forecast_r3 (goodIn_app zw_wsL_forecast_r4 (goodIn_app zw_wsL_forecast_r5 (goodIn_app zw_wsL_forecast_r6 (goodIn_app zw_wsL_forecast_r7 (goodIn_app zw_wsL_forecast_r8 (goodIn_app zw_wsL_forecast_r9 zw_wsL_forecast_r10))))))))) zw_wsX60) zw_wsX20) zw_wsX50) zw_wsX00) zw_wsX30) zw_wsX10) zw_wsX40) zx_0) zx_4) zx_5) zgn))
theorem zm_999 : zgo (Cond.methodLink RL 270 yL_forecast) := ⟨List.mem_of_getElem? (i := 999) (by decide +kernel), by decide +kernel⟩
theorem zm_1000 : zgo (Cond.static yL_forecast) := ⟨List.mem_of_getElem? (i := 1000) (by decide +kernel), by decide +kernel⟩
theorem gL_law_L_forecast : GoodIn lw_tbl (va_wsS RL 270 yL_forecast zwL_forecast) := goodIn_app (a := [Cond.methodLink RL 270 yL_forecast, Cond.static yL_forecast, Cond.initialized RL]) (zgc zm_999 (zgc zm_1000 (zgc zm_68 zgn))) zw_zwL_forecast
theorem zm_2119 : zgo (Cond.code yX10_forecast cX10_forecast 6 (some .int)) := ⟨List.mem_of_getElem? (i := 2119) (by decide +kernel), by decide +kernel⟩
theorem zw_wsX10_forecast_r1 : GoodIn lw_tbl wsX10_forecast_r1 := (zgc zm_1284 (zgc zm_1397 (zgc zm_1647 (zgc zm_1649 (zgc zm_46 (zgc zm_73 (zgc zm_1650 (zgc zm_1403 (zgc zm_1406 (zgc zm_1408 (zgc zm_76 (zgc zm_1410 (zgc zm_1269 (zgc zm_1325 (zgc zm_1326 (zgc zm_1327 (zgc zm_2087 (zgc zm_2089 (zgc zm_61 (zgc zm_2090 (zgc zm_1518 (zgc zm_1521 (zgc zm_1523 (zgc zm_1525 zgn))))))))))))))))))))))))
theorem zw_wsX10_forecast_r2 : GoodIn lw_tbl wsX10_forecast_r2 := (zgc zm_1526 (zgc zm_1527 (zgc zm_94 (zgc zm_1528 (zgc zm_1529 (zgc zm_1530 (zgc zm_95 (zgc zm_1531 (zgc zm_1532 (zgc zm_1533 (zgc zm_1534 (zgc zm_1535 (zgc zm_1266 (zgc zm_2091 (zgc zm_2092 (zgc zm_2093 (zgc zm_98 (zgc zm_2094 (zgc zm_2095 (zgc zm_1549 (zgc zm_1556 (zgc zm_1558 (zgc zm_1791 (zgc zm_1562 zgn))))))))))))))))))))))))
theorem zw_wsX10_forecast_r3 : GoodIn lw_tbl wsX10_forecast_r3 := (zgc zm_2105 (zgc zm_2106 (zgc zm_2107 (zgc zm_2108 (zgc zm_2109 (zgc zm_2111 (zgc zm_1564 (zgc zm_1566 (zgc zm_1568 (zgc zm_1570 (zgc zm_1572 (zgc zm_1574 (zgc zm_1576 (zgc zm_1578 (zgc zm_1580 (zgc zm_1582 (zgc zm_1590 (zgc zm_1592 (zgc zm_2096 (zgc zm_1551 (zgc zm_1552 (zgc zm_1553 (zgc zm_114 (zgc zm_115 zgn))))))))))))))))))))))))
theorem zw_wsX10_forecast_r4 : GoodIn lw_tbl wsX10_forecast_r4 := (zgc zm_1554 (zgc zm_1253 (zgc zm_1560 (zgc zm_146 (zgc zm_1584 (zgc zm_1594 (zgc zm_1555 (zgc zm_1255 (zgc zm_1256 (zgc zm_1264 (zgc zm_1257 (zgc zm_1258 (zgc zm_75 (zgc zm_1259 (zgc zm_1270 (zgc zm_1260 (zgc zm_1261 (zgc zm_74 (zgc zm_1262 (zgc zm_1263 (zgc zm_1786 (zgc zm_1339 (zgc zm_1341 (zgc zm_1343 zgn))))))))))))))))))))))))
theorem zw_wsX10_forecast_r5 : GoodIn lw_tbl wsX10_forecast_r5 := (zgc zm_1344 (zgc zm_1345 (zgc zm_84 (zgc zm_1346 (zgc zm_1347 (zgc zm_1348 (zgc zm_1353 (zgc zm_1349 (zgc zm_1351 (zgc zm_1271 (zgc zm_1272 (zgc zm_1352 (zgc zm_1788 (zgc zm_1368 (zgc zm_1370 (zgc zm_1372 (zgc zm_1350 (zgc zm_1790 (zgc zm_1377 (zgc zm_1379 (zgc zm_1381 (zgc zm_1267 (zgc zm_1382 (zgc zm_1383 zgn))))))))))))))))))))))))
theorem zw_wsX10_forecast_r6 : GoodIn lw_tbl wsX10_forecast_r6 := (zgc zm_1384 (zgc zm_1385 (zgc zm_2097 (zgc zm_2098 (zgc zm_2099 (zgc zm_99 (zgc zm_2100 (zgc zm_2101 (zgc zm_1652 (zgc zm_1657 (zgc zm_1659 (zgc zm_1670 (zgc zm_1661 (zgc zm_1672 (zgc zm_1664 (zgc zm_1666 (zgc zm_1674 (zgc zm_1676 (zgc zm_1678 (zgc zm_1680 (zgc zm_1685 (zgc zm_2102 (zgc zm_1654 (zgc zm_1655 zgn))))))))))))))))))))))))
theorem zw_wsX10_forecast_r7 : GoodIn lw_tbl wsX10_forecast_r7 := (zgc zm_1656 (zgc zm_1683 (zgc zm_1668 (zgc zm_2104 (zgc zm_1445 (zgc zm_1447 (zgc zm_1449 (zgc zm_1273 (zgc zm_1450 (zgc zm_1452 (zgc zm_43 (zgc zm_1453 (zgc zm_1454 (zgc zm_1456 (zgc zm_44 (zgc zm_1457 (zgc zm_1458 (zgc zm_1460 (zgc zm_45 (zgc zm_1461 (zgc zm_1509 (zgc zm_409 (zgc zm_88 (zgc zm_410 zgn))))))))))))))))))))))))
theorem zw_wsX10_forecast_r8 : GoodIn lw_tbl wsX10_forecast_r8 := (zgc zm_1510 (zgc zm_1462 (zgc zm_1463 (zgc zm_87 (zgc zm_1464 (zgc zm_1465 (zgc zm_1466 (zgc zm_1467 (zgc zm_1468 (zgc zm_1469 (zgc zm_1470 (zgc zm_1471 (zgc zm_89 (zgc zm_1472 (zgc zm_1473 (zgc zm_2495 (zgc zm_1474 (zgc zm_1498 (zgc zm_1499 (zgc zm_1500 (zgc zm_1501 (zgc zm_1502 (zgc zm_1504 (zgc zm_1505 zgn))))))))))))))))))))))))
theorem zw_wsX10_forecast_r9 : GoodIn lw_tbl wsX10_forecast_r9 := (zgc zm_463 (zgc zm_464 (zgc zm_1506 (zgc zm_1508 (zgc zm_1507 (zgc zm_90 (zgc zm_2112 (zgc zm_2114 (zgc zm_62 (zgc zm_2115 (zgc zm_1800 (zgc zm_1335 (zgc zm_1364 (zgc zm_1374 (zgc zm_1773 (zgc zm_1775 (zgc zm_49 (zgc zm_1776 (zgc zm_1651 (zgc zm_1777 (zgc zm_1779 (zgc zm_50 (zgc zm_1780 (zgc zm_1282 zgn))))))))))))))))))))))))
theorem zw_wsX10_forecast_r10 : GoodIn lw_tbl wsX10_forecast_r10 := (zgc zm_1415 (zgc zm_1398 (zgc zm_1399 (zgc zm_1400 (zgc zm_1401 (zgc zm_1781 (zgc zm_1782 (zgc zm_1783 (zgc zm_1784 (zgc zm_1792 (zgc zm_1793 (zgc zm_1794 (zgc zm_1795 (zgc zm_1796 (zgc zm_1798 (zgc zm_51 (zgc zm_1799 (zgc zm_1283 (zgc zm_1801 (zgc zm_1802 (zgc zm_1804 (zgc zm_52 (zgc zm_1805 (zgc zm_1806 zgn))))))))))))))))))))))))
theorem zw_wsX10_forecast_r11 : GoodIn lw_tbl wsX10_forecast_r11 := (zgc zm_1808 (zgc zm_53 (zgc zm_1809 (zgc zm_1810 (zgc zm_1811 (zgc zm_1812 (zgc zm_1813 (zgc zm_1814 (zgc zm_1816 (zgc zm_54 (zgc zm_1817 (zgc zm_1818 (zgc zm_1819 (zgc zm_1820 (zgc zm_1821 (zgc zm_1826 (zgc zm_1823 (zgc zm_1825 (zgc zm_1827 (zgc zm_1829 (zgc zm_55 (zgc zm_1830 (zgc zm_1831 (zgc zm_1832 zgn))))))))))))))))))))))))
theorem zw_wsX10_forecast_r12 : GoodIn lw_tbl wsX10_forecast_r12 := (zgc zm_1833 (zgc zm_1834 (zgc zm_1835 (zgc zm_1836 (zgc zm_1837 (zgc zm_1838 (zgc zm_1839 (zgc zm_1840 (zgc zm_1841 (zgc zm_1842 (zgc zm_1843 (zgc zm_1844 (zgc zm_1845 (zgc zm_1846 (zgc zm_1847 (zgc zm_1848 (zgc zm_1849 (zgc zm_1851 (zgc zm_56 (zgc zm_1852 (zgc zm_1853 (zgc zm_1855 (zgc zm_57 (zgc zm_1856 zgn))))))))))))))))))))))))
theorem zw_wsX10_forecast_r13 : GoodIn lw_tbl wsX10_forecast_r13 := (zgc zm_1288 (zgc zm_1857 (zgc zm_1859 (zgc zm_58 (zgc zm_1860 (zgc zm_1411 (zgc zm_1413 (zgc zm_42 (zgc zm_1414 (zgc zm_1281 zgn))))))))))
theorem zw_wsX10_forecast : GoodIn lw_tbl wsX10_forecast := (zgc zm_2119 (goodIn_app (goodIn_app (goodIn_app (goodIn_app (goodIn_app (goodIn_app (goodIn_app (goodIn_app (goodIn_app zw_wsX10_forecast_r1 (goodIn_app zw_wsX10_forecast_r2 (goodIn_app zw_wsX10_forecast_r3 (goodIn_app zw_wsX10_forecast_r4 (goodIn_app zw_wsX10_forecast_r5 (goodIn_app zw_wsX10_forecast_r6 (goodIn_app zw_wsX10_forecast_r7 (goodIn_app zw_wsX10_forecast_r8 (goodIn_app zw_wsX10_forecast_r9 (goodIn_app zw_wsX10_forecast_r10 (goodIn_app zw_wsX10_forecast_r11 (goodIn_app zw_wsX10_forecast_r12 zw_wsX10_forecast_r13)))))))))))) zw_wsX100) zw_wsX90) zw_wsJx4a65c0) zw_wsJx354110) zw_wsX70) zw_wsX80) zx_0) zx_5))
theorem zm_2116 : zgo (Cond.methodLink RL 272 yX10_forecast) := ⟨List.mem_of_getElem? (i := 2116) (by decide +kernel), by decide +kernel⟩
theorem zm_2117 : zgo (Cond.instanceMethod yX10_forecast) := ⟨List.mem_of_getElem? (i := 2117) (by decide +kernel), by decide +kernel⟩
theorem zm_2118 : zgo (Cond.selects RX10 yX10_forecast yX10_forecast) := ⟨List.mem_of_getElem? (i := 2118) (by decide +kernel), by decide +kernel⟩
theorem gL_law_X10_forecast : GoodIn lw_tbl (wsV RL 272 RX10 yX10_forecast wsX10_forecast) := goodIn_app (a := [Cond.methodLink RL 272 yX10_forecast, Cond.instanceMethod yX10_forecast, Cond.selects RX10 yX10_forecast yX10_forecast, Cond.initialized RX10]) (zgc zm_2116 (zgc zm_2117 (zgc zm_2118 (zgc zm_73 zgn)))) zw_wsX10_forecast
theorem zm_1029 : zgo (Cond.codeWith yL_follow cL_follow 4 (some .int) [(0, 9, 12, 23), (0, 9, 15, 109)]) := ⟨List.mem_of_getElem? (i := 1029) (by decide +kernel), by decide +kernel⟩
theorem zm_1030 : zgo (Cond.methodLink RL 111 yX6_follow) := ⟨List.mem_of_getElem? (i := 1030) (by decide +kernel), by decide +kernel⟩
theorem zm_1031 : zgo (Cond.instanceMethod yX6_follow) := ⟨List.mem_of_getElem? (i := 1031) (by decide +kernel), by decide +kernel⟩
theorem zm_1032 : zgo (Cond.selects RX6 yX6_follow yX6_follow) := ⟨List.mem_of_getElem? (i := 1032) (by decide +kernel), by decide +kernel⟩
theorem zm_1033 : zgo (Cond.code yX6_follow cX6_follow 4 (some .int)) := ⟨List.mem_of_getElem? (i := 1033) (by decide +kernel), by decide +kernel⟩
theorem zw_wsL_follow_r1 : GoodIn lw_tbl wsL_follow_r1 := (zgc zm_656 (zgc zm_1030 (zgc zm_1031 (zgc zm_1032 (zgc zm_69 (zgc zm_1033 (zgc zm_298 (zgc zm_761 (zgc zm_137 (zgc zm_759 (zgc zm_133 (zgc zm_135 (zgc zm_162 (zgc zm_784 (zgc zm_786 (zgc zm_24 (zgc zm_787 (zgc zm_688 (zgc zm_91 (zgc zm_299 (zgc zm_360 (zgc zm_362 (zgc zm_1 (zgc zm_363 zgn))))))))))))))))))))))))
theorem zw_wsL_follow_r2 : GoodIn lw_tbl wsL_follow_r2 := (zgc zm_303 (zgc zm_364 (zgc zm_365 (zgc zm_366 (zgc zm_71 (zgc zm_367 (zgc zm_157 (zgc zm_159 (zgc zm_161 (zgc zm_163 (zgc zm_165 (zgc zm_167 (zgc zm_169 (zgc zm_171 (zgc zm_173 (zgc zm_175 (zgc zm_177 (zgc zm_179 (zgc zm_181 (zgc zm_183 (zgc zm_189 (zgc zm_185 (zgc zm_187 (zgc zm_368 zgn))))))))))))))))))))))))
theorem zw_wsL_follow_r3 : GoodIn lw_tbl wsL_follow_r3 := (zgc zm_369 (zgc zm_370 (zgc zm_72 (zgc zm_371 (zgc zm_235 (zgc zm_237 (zgc zm_246 (zgc zm_249 (zgc zm_252 (zgc zm_255 (zgc zm_260 (zgc zm_372 (zgc zm_374 (zgc zm_2 (zgc zm_375 (zgc zm_376 (zgc zm_378 (zgc zm_3 (zgc zm_379 (zgc zm_380 (zgc zm_382 (zgc zm_4 (zgc zm_383 (zgc zm_292 zgn))))))))))))))))))))))))
theorem zw_wsL_follow_r4 : GoodIn lw_tbl wsL_follow_r4 := (zgc zm_164 (zgc zm_176 (zgc zm_634 (zgc zm_168 (zgc zm_408 (zgc zm_409 (zgc zm_88 (zgc zm_410 (zgc zm_170 (zgc zm_638 (zgc zm_174 (zgc zm_384 (zgc zm_386 (zgc zm_5 (zgc zm_387 (zgc zm_190 (zgc zm_388 (zgc zm_390 (zgc zm_6 (zgc zm_391 (zgc zm_158 (zgc zm_293 (zgc zm_392 (zgc zm_393 zgn))))))))))))))))))))))))
theorem zw_wsL_follow_r5 : GoodIn lw_tbl wsL_follow_r5 := (zgc zm_394 (zgc zm_395 (zgc zm_396 (zgc zm_397 (zgc zm_398 (zgc zm_399 (zgc zm_400 (zgc zm_402 (zgc zm_7 (zgc zm_403 (zgc zm_641 (zgc zm_184 (zgc zm_404 (zgc zm_406 (zgc zm_8 (zgc zm_407 (zgc zm_295 (zgc zm_294 (zgc zm_714 (zgc zm_716 (zgc zm_718 (zgc zm_720 (zgc zm_411 (zgc zm_413 zgn))))))))))))))))))))))))
theorem zw_wsL_follow_r6 : GoodIn lw_tbl wsL_follow_r6 := (zgc zm_9 (zgc zm_414 (zgc zm_636 (zgc zm_415 (zgc zm_416 (zgc zm_417 (zgc zm_418 (zgc zm_419 (zgc zm_420 (zgc zm_421 (zgc zm_422 (zgc zm_423 (zgc zm_424 (zgc zm_425 (zgc zm_426 (zgc zm_427 (zgc zm_428 (zgc zm_429 (zgc zm_430 (zgc zm_238 (zgc zm_431 (zgc zm_432 (zgc zm_433 (zgc zm_434 zgn))))))))))))))))))))))))
theorem zw_wsL_follow_r7 : GoodIn lw_tbl wsL_follow_r7 := (zgc zm_640 (zgc zm_435 (zgc zm_436 (zgc zm_437 (zgc zm_438 (zgc zm_439 (zgc zm_440 (zgc zm_441 (zgc zm_247 (zgc zm_250 (zgc zm_253 (zgc zm_256 (zgc zm_261 (zgc zm_442 (zgc zm_444 (zgc zm_10 (zgc zm_445 (zgc zm_182 (zgc zm_446 (zgc zm_447 (zgc zm_448 (zgc zm_449 (zgc zm_450 (zgc zm_451 zgn))))))))))))))))))))))))
theorem zw_wsL_follow_r8 : GoodIn lw_tbl wsL_follow_r8 := (zgc zm_452 (zgc zm_453 (zgc zm_454 (zgc zm_456 (zgc zm_11 (zgc zm_457 (zgc zm_458 (zgc zm_459 (zgc zm_460 (zgc zm_461 (zgc zm_462 (zgc zm_463 (zgc zm_464 (zgc zm_465 (zgc zm_467 (zgc zm_12 (zgc zm_468 (zgc zm_166 (zgc zm_469 (zgc zm_470 (zgc zm_471 (zgc zm_472 (zgc zm_473 (zgc zm_475 zgn))))))))))))))))))))))))
theorem zw_wsL_follow_r9 : GoodIn lw_tbl wsL_follow_r9 := (zgc zm_13 (zgc zm_476 (zgc zm_477 (zgc zm_479 (zgc zm_14 (zgc zm_480 (zgc zm_481 (zgc zm_483 (zgc zm_15 (zgc zm_484 (zgc zm_485 (zgc zm_487 (zgc zm_16 (zgc zm_488 (zgc zm_160 (zgc zm_489 (zgc zm_491 (zgc zm_17 (zgc zm_492 (zgc zm_493 (zgc zm_495 (zgc zm_18 (zgc zm_496 (zgc zm_497 zgn))))))))))))))))))))))))
theorem zw_wsL_follow_r10 : GoodIn lw_tbl wsL_follow_r10 := (zgc zm_499 (zgc zm_19 (zgc zm_500 (zgc zm_186 (zgc zm_1007 (zgc zm_1009 (zgc zm_31 (zgc zm_1010 (zgc zm_1011 (zgc zm_85 (zgc zm_765 zgn)))))))))))
theorem zw_zwL_follow : GoodIn lw_tbl zwL_follow := (zgc zm_1029 (goodIn_app (goodIn_app (goodIn_app (goodIn_app (goodIn_app (goodIn_app (goodIn_app (goodIn_app (goodIn_app (goodIn_app (goodIn_app (goodIn_app zw_wsL_follow_r1 (goodIn_app zw_wsL_follow_r2 (goodIn_app zw_wsL_follow_r3 (goodIn_app zw_wsL_follow_r4 (goodIn_app zw_wsL_follow_r5 (goodIn_app zw_wsL_follow_r6 (goodIn_app zw_wsL_follow_r7 (goodIn_app zw_wsL_follow_r8 (goodIn_app zw_wsL_follow_r9 zw_wsL_follow_r10))))))))) zw_wsX60) zw_wsX50) zw_wsX30) zw_wsX20) zw_wsX00) zw_wsX10) zw_wsX40) zx_0) zx_4) zx_5) zgn))
theorem zm_1027 : zgo (Cond.methodLink RL 273 yL_follow) := ⟨List.mem_of_getElem? (i := 1027) (by decide +kernel), by decide +kernel⟩
theorem zm_1028 : zgo (Cond.static yL_follow) := ⟨List.mem_of_getElem? (i := 1028) (by decide +kernel), by decide +kernel⟩
theorem gL_law_L_follow : GoodIn lw_tbl (va_wsS RL 273 yL_follow zwL_follow) := goodIn_app (a := [Cond.methodLink RL 273 yL_follow, Cond.static yL_follow, Cond.initialized RL]) (zgc zm_1027 (zgc zm_1028 (zgc zm_68 zgn))) zw_zwL_follow
theorem zm_2123 : zgo (Cond.code yX10_follow cX10_follow 7 (some .int)) := ⟨List.mem_of_getElem? (i := 2123) (by decide +kernel), by decide +kernel⟩
theorem zw_wsX10_follow_r1 : GoodIn lw_tbl wsX10_follow_r1 := (zgc zm_1284 (zgc zm_1397 (zgc zm_1800 (zgc zm_1647 (zgc zm_1649 (zgc zm_46 (zgc zm_73 (zgc zm_1650 (zgc zm_1403 (zgc zm_1406 (zgc zm_1408 (zgc zm_76 (zgc zm_1410 (zgc zm_1269 (zgc zm_1325 (zgc zm_1326 (zgc zm_1327 (zgc zm_2087 (zgc zm_2089 (zgc zm_61 (zgc zm_2090 (zgc zm_1518 (zgc zm_1521 (zgc zm_1523 zgn))))))))))))))))))))))))
theorem zw_wsX10_follow_r2 : GoodIn lw_tbl wsX10_follow_r2 := (zgc zm_1525 (zgc zm_1526 (zgc zm_1527 (zgc zm_94 (zgc zm_1528 (zgc zm_1529 (zgc zm_1530 (zgc zm_95 (zgc zm_1531 (zgc zm_1532 (zgc zm_1533 (zgc zm_1534 (zgc zm_1535 (zgc zm_1266 (zgc zm_2091 (zgc zm_2092 (zgc zm_2093 (zgc zm_98 (zgc zm_2094 (zgc zm_2095 (zgc zm_1549 (zgc zm_1556 (zgc zm_1558 (zgc zm_1791 zgn))))))))))))))))))))))))
theorem zw_wsX10_follow_r3 : GoodIn lw_tbl wsX10_follow_r3 := (zgc zm_1562 (zgc zm_2105 (zgc zm_2106 (zgc zm_2107 (zgc zm_2108 (zgc zm_2109 (zgc zm_2111 (zgc zm_1564 (zgc zm_1566 (zgc zm_1568 (zgc zm_1570 (zgc zm_1572 (zgc zm_1574 (zgc zm_1576 (zgc zm_1578 (zgc zm_1580 (zgc zm_1582 (zgc zm_1590 (zgc zm_1592 (zgc zm_2096 (zgc zm_1551 (zgc zm_1552 (zgc zm_1553 (zgc zm_114 zgn))))))))))))))))))))))))
theorem zw_wsX10_follow_r4 : GoodIn lw_tbl wsX10_follow_r4 := (zgc zm_115 (zgc zm_1554 (zgc zm_1253 (zgc zm_1560 (zgc zm_146 (zgc zm_1584 (zgc zm_1594 (zgc zm_1555 (zgc zm_1255 (zgc zm_1256 (zgc zm_1264 (zgc zm_1257 (zgc zm_1258 (zgc zm_75 (zgc zm_1259 (zgc zm_1270 (zgc zm_1260 (zgc zm_1261 (zgc zm_74 (zgc zm_1262 (zgc zm_1263 (zgc zm_1786 (zgc zm_1339 (zgc zm_1341 zgn))))))))))))))))))))))))
theorem zw_wsX10_follow_r5 : GoodIn lw_tbl wsX10_follow_r5 := (zgc zm_1343 (zgc zm_1344 (zgc zm_1345 (zgc zm_84 (zgc zm_1346 (zgc zm_1347 (zgc zm_1348 (zgc zm_1353 (zgc zm_1349 (zgc zm_1351 (zgc zm_1271 (zgc zm_1272 (zgc zm_1352 (zgc zm_1788 (zgc zm_1368 (zgc zm_1370 (zgc zm_1372 (zgc zm_1350 (zgc zm_1790 (zgc zm_1377 (zgc zm_1379 (zgc zm_1381 (zgc zm_1267 (zgc zm_1382 zgn))))))))))))))))))))))))
theorem zw_wsX10_follow_r6 : GoodIn lw_tbl wsX10_follow_r6 := (zgc zm_1383 (zgc zm_1384 (zgc zm_1385 (zgc zm_2097 (zgc zm_2098 (zgc zm_2099 (zgc zm_99 (zgc zm_2100 (zgc zm_2101 (zgc zm_1652 (zgc zm_1657 (zgc zm_1659 (zgc zm_1670 (zgc zm_1661 (zgc zm_1672 (zgc zm_1664 (zgc zm_1666 (zgc zm_1674 (zgc zm_1676 (zgc zm_1678 (zgc zm_1680 (zgc zm_1685 (zgc zm_2102 (zgc zm_1654 zgn))))))))))))))))))))))))
theorem zw_wsX10_follow_r7 : GoodIn lw_tbl wsX10_follow_r7 := (zgc zm_1655 (zgc zm_1656 (zgc zm_1683 (zgc zm_1668 (zgc zm_2104 (zgc zm_1445 (zgc zm_1447 (zgc zm_1449 (zgc zm_1273 (zgc zm_1450 (zgc zm_1452 (zgc zm_43 (zgc zm_1453 (zgc zm_1454 (zgc zm_1456 (zgc zm_44 (zgc zm_1457 (zgc zm_1458 (zgc zm_1460 (zgc zm_45 (zgc zm_1461 (zgc zm_1509 (zgc zm_409 (zgc zm_88 zgn))))))))))))))))))))))))
theorem zw_wsX10_follow_r8 : GoodIn lw_tbl wsX10_follow_r8 := (zgc zm_410 (zgc zm_1510 (zgc zm_1462 (zgc zm_1463 (zgc zm_87 (zgc zm_1464 (zgc zm_1465 (zgc zm_1466 (zgc zm_1467 (zgc zm_1468 (zgc zm_1469 (zgc zm_1470 (zgc zm_1471 (zgc zm_89 (zgc zm_1472 (zgc zm_1473 (zgc zm_2495 (zgc zm_1474 (zgc zm_1498 (zgc zm_1499 (zgc zm_1500 (zgc zm_1501 (zgc zm_1502 (zgc zm_1504 zgn))))))))))))))))))))))))
theorem zw_wsX10_follow_r9 : GoodIn lw_tbl wsX10_follow_r9 := (zgc zm_1505 (zgc zm_463 (zgc zm_464 (zgc zm_1506 (zgc zm_1508 (zgc zm_1507 (zgc zm_90 (zgc zm_2112 (zgc zm_2114 (zgc zm_62 (zgc zm_2115 (zgc zm_1335 (zgc zm_1364 (zgc zm_1374 (zgc zm_1773 (zgc zm_1775 (zgc zm_49 (zgc zm_1776 (zgc zm_1651 (zgc zm_1777 (zgc zm_1779 (zgc zm_50 (zgc zm_1780 (zgc zm_1282 zgn))))))))))))))))))))))))
theorem zw_wsX10_follow_r10 : GoodIn lw_tbl wsX10_follow_r10 := (zgc zm_1415 (zgc zm_1398 (zgc zm_1399 (zgc zm_1400 (zgc zm_1401 (zgc zm_1781 (zgc zm_1782 (zgc zm_1783 (zgc zm_1784 (zgc zm_1792 (zgc zm_1793 (zgc zm_1794 (zgc zm_1795 (zgc zm_1796 (zgc zm_1798 (zgc zm_51 (zgc zm_1799 (zgc zm_1283 (zgc zm_1801 (zgc zm_1802 (zgc zm_1804 (zgc zm_52 (zgc zm_1805 (zgc zm_1806 zgn))))))))))))))))))))))))
theorem zw_wsX10_follow_r11 : GoodIn lw_tbl wsX10_follow_r11 := (zgc zm_1808 (zgc zm_53 (zgc zm_1809 (zgc zm_1810 (zgc zm_1811 (zgc zm_1812 (zgc zm_1813 (zgc zm_1814 (zgc zm_1816 (zgc zm_54 (zgc zm_1817 (zgc zm_1818 (zgc zm_1819 (zgc zm_1820 (zgc zm_1821 (zgc zm_1826 (zgc zm_1823 (zgc zm_1825 (zgc zm_1827 (zgc zm_1829 (zgc zm_55 (zgc zm_1830 (zgc zm_1831 (zgc zm_1832 zgn))))))))))))))))))))))))
theorem zw_wsX10_follow_r12 : GoodIn lw_tbl wsX10_follow_r12 := (zgc zm_1833 (zgc zm_1834 (zgc zm_1835 (zgc zm_1836 (zgc zm_1837 (zgc zm_1838 (zgc zm_1839 (zgc zm_1840 (zgc zm_1841 (zgc zm_1842 (zgc zm_1843 (zgc zm_1844 (zgc zm_1845 (zgc zm_1846 (zgc zm_1847 (zgc zm_1848 (zgc zm_1849 (zgc zm_1851 (zgc zm_56 (zgc zm_1852 (zgc zm_1853 (zgc zm_1855 (zgc zm_57 (zgc zm_1856 zgn))))))))))))))))))))))))
theorem zw_wsX10_follow_r13 : GoodIn lw_tbl wsX10_follow_r13 := (zgc zm_1288 (zgc zm_1857 (zgc zm_1859 (zgc zm_58 (zgc zm_1860 (zgc zm_1411 (zgc zm_1413 (zgc zm_42 (zgc zm_1414 (zgc zm_1281 (zgc zm_1769 (zgc zm_1771 (zgc zm_48 (zgc zm_1772 (zgc zm_1290 (zgc zm_2075 (zgc zm_2078 (zgc zm_2080 (zgc zm_2082 zgn)))))))))))))))))))
theorem zw_wsX10_follow : GoodIn lw_tbl wsX10_follow := (zgc zm_2123 (goodIn_app (goodIn_app (goodIn_app (goodIn_app (goodIn_app (goodIn_app (goodIn_app (goodIn_app (goodIn_app zw_wsX10_follow_r1 (goodIn_app zw_wsX10_follow_r2 (goodIn_app zw_wsX10_follow_r3 (goodIn_app zw_wsX10_follow_r4 (goodIn_app zw_wsX10_follow_r5 (goodIn_app zw_wsX10_follow_r6 (goodIn_app zw_wsX10_follow_r7 (goodIn_app zw_wsX10_follow_r8 (goodIn_app zw_wsX10_follow_r9 (goodIn_app zw_wsX10_follow_r10 (goodIn_app zw_wsX10_follow_r11 (goodIn_app zw_wsX10_follow_r12 zw_wsX10_follow_r13)))))))))))) zw_wsX100) zw_wsX90) zw_wsJx4a65c0) zw_wsJx354110) zw_wsX70) zw_wsX80) zx_0) zx_5))
theorem zm_2120 : zgo (Cond.methodLink RL 275 yX10_follow) := ⟨List.mem_of_getElem? (i := 2120) (by decide +kernel), by decide +kernel⟩
theorem zm_2121 : zgo (Cond.instanceMethod yX10_follow) := ⟨List.mem_of_getElem? (i := 2121) (by decide +kernel), by decide +kernel⟩
theorem zm_2122 : zgo (Cond.selects RX10 yX10_follow yX10_follow) := ⟨List.mem_of_getElem? (i := 2122) (by decide +kernel), by decide +kernel⟩
theorem gL_law_X10_follow : GoodIn lw_tbl (wsV RL 275 RX10 yX10_follow wsX10_follow) := goodIn_app (a := [Cond.methodLink RL 275 yX10_follow, Cond.instanceMethod yX10_follow, Cond.selects RX10 yX10_follow yX10_follow, Cond.initialized RX10]) (zgc zm_2120 (zgc zm_2121 (zgc zm_2122 (zgc zm_73 zgn)))) zw_wsX10_follow
theorem zm_1036 : zgo (Cond.codeWith yL_bestPlan cL_bestPlan 5 (some .int) [(0, 10, 13, 23), (0, 10, 17, 13), (0, 10, 21, 109)]) := ⟨List.mem_of_getElem? (i := 1036) (by decide +kernel), by decide +kernel⟩
theorem zm_1037 : zgo (Cond.methodLink RL 114 yX6_bestPlan) := ⟨List.mem_of_getElem? (i := 1037) (by decide +kernel), by decide +kernel⟩
theorem zm_1038 : zgo (Cond.instanceMethod yX6_bestPlan) := ⟨List.mem_of_getElem? (i := 1038) (by decide +kernel), by decide +kernel⟩
theorem zm_1039 : zgo (Cond.selects RX6 yX6_bestPlan yX6_bestPlan) := ⟨List.mem_of_getElem? (i := 1039) (by decide +kernel), by decide +kernel⟩
theorem zm_1040 : zgo (Cond.code yX6_bestPlan cX6_bestPlan 5 (some .int)) := ⟨List.mem_of_getElem? (i := 1040) (by decide +kernel), by decide +kernel⟩
theorem zm_1041 : zgo (Cond.constant RX6 289 (2147483647)) := ⟨List.mem_of_getElem? (i := 1041) (by decide +kernel), by decide +kernel⟩
theorem zm_307 : zgo (Cond.fieldLink RX6 290 "Gangline" "bestMinute" "I") := ⟨List.mem_of_getElem? (i := 307) (by decide +kernel), by decide +kernel⟩
theorem zw_wsL_bestPlan_r1 : GoodIn lw_tbl wsL_bestPlan_r1 := (zgc zm_656 (zgc zm_1037 (zgc zm_1038 (zgc zm_1039 (zgc zm_69 (zgc zm_1040 (zgc zm_1011 (zgc zm_85 (zgc zm_298 (zgc zm_1041 (zgc zm_307 (zgc zm_303 (zgc zm_759 (zgc zm_761 (zgc zm_137 (zgc zm_306 (zgc zm_784 (zgc zm_786 (zgc zm_24 (zgc zm_787 (zgc zm_688 (zgc zm_91 (zgc zm_299 (zgc zm_511 zgn))))))))))))))))))))))))
theorem zw_wsL_bestPlan_r2 : GoodIn lw_tbl wsL_bestPlan_r2 := (zgc zm_512 (zgc zm_513 (zgc zm_514 (zgc zm_80 (zgc zm_364 (zgc zm_365 (zgc zm_366 (zgc zm_71 (zgc zm_367 (zgc zm_157 (zgc zm_159 (zgc zm_161 (zgc zm_163 (zgc zm_165 (zgc zm_167 (zgc zm_169 (zgc zm_171 (zgc zm_173 (zgc zm_175 (zgc zm_177 (zgc zm_179 (zgc zm_181 (zgc zm_183 (zgc zm_189 zgn))))))))))))))))))))))))
theorem zm_1042 : zgo (Cond.methodLink RX6 297 yX6_search) := ⟨List.mem_of_getElem? (i := 1042) (by decide +kernel), by decide +kernel⟩
theorem zm_1043 : zgo (Cond.static yX6_search) := ⟨List.mem_of_getElem? (i := 1043) (by decide +kernel), by decide +kernel⟩
theorem zm_1044 : zgo (Cond.code yX6_search cX6_search 5 none) := ⟨List.mem_of_getElem? (i := 1044) (by decide +kernel), by decide +kernel⟩
theorem zm_1045 : zgo (Cond.methodLink RX6 306 yX6_putChoice) := ⟨List.mem_of_getElem? (i := 1045) (by decide +kernel), by decide +kernel⟩
theorem zm_1046 : zgo (Cond.static yX6_putChoice) := ⟨List.mem_of_getElem? (i := 1046) (by decide +kernel), by decide +kernel⟩
theorem zm_1047 : zgo (Cond.code yX6_putChoice cX6_putChoice 3 none) := ⟨List.mem_of_getElem? (i := 1047) (by decide +kernel), by decide +kernel⟩
theorem zw_wsL_bestPlan_r3 : GoodIn lw_tbl wsL_bestPlan_r3 := (zgc zm_185 (zgc zm_187 (zgc zm_368 (zgc zm_369 (zgc zm_370 (zgc zm_72 (zgc zm_371 (zgc zm_235 (zgc zm_237 (zgc zm_246 (zgc zm_249 (zgc zm_252 (zgc zm_255 (zgc zm_260 (zgc zm_1042 (zgc zm_1043 (zgc zm_1044 (zgc zm_305 (zgc zm_304 (zgc zm_162 (zgc zm_1045 (zgc zm_1046 (zgc zm_1047 (zgc zm_981 zgn))))))))))))))))))))))))
theorem zw_wsL_bestPlan_r4 : GoodIn lw_tbl wsL_bestPlan_r4 := (zgc zm_982 (zgc zm_983 (zgc zm_70 (zgc zm_984 (zgc zm_136 (zgc zm_132 (zgc zm_134 (zgc zm_372 (zgc zm_374 (zgc zm_2 (zgc zm_375 (zgc zm_133 (zgc zm_135 (zgc zm_376 (zgc zm_378 (zgc zm_3 (zgc zm_379 (zgc zm_380 (zgc zm_382 (zgc zm_4 (zgc zm_383 (zgc zm_292 (zgc zm_164 (zgc zm_176 zgn))))))))))))))))))))))))
theorem zw_wsL_bestPlan_r5 : GoodIn lw_tbl wsL_bestPlan_r5 := (zgc zm_634 (zgc zm_168 (zgc zm_408 (zgc zm_409 (zgc zm_88 (zgc zm_410 (zgc zm_170 (zgc zm_638 (zgc zm_174 (zgc zm_384 (zgc zm_386 (zgc zm_5 (zgc zm_387 (zgc zm_190 (zgc zm_388 (zgc zm_390 (zgc zm_6 (zgc zm_391 (zgc zm_158 (zgc zm_293 (zgc zm_392 (zgc zm_393 (zgc zm_394 (zgc zm_395 zgn))))))))))))))))))))))))
theorem zw_wsL_bestPlan_r6 : GoodIn lw_tbl wsL_bestPlan_r6 := (zgc zm_396 (zgc zm_397 (zgc zm_398 (zgc zm_399 (zgc zm_400 (zgc zm_402 (zgc zm_7 (zgc zm_403 (zgc zm_641 (zgc zm_184 (zgc zm_404 (zgc zm_406 (zgc zm_8 (zgc zm_407 (zgc zm_295 (zgc zm_294 (zgc zm_714 (zgc zm_716 (zgc zm_718 (zgc zm_720 (zgc zm_411 (zgc zm_413 (zgc zm_9 (zgc zm_414 zgn))))))))))))))))))))))))
theorem zw_wsL_bestPlan_r7 : GoodIn lw_tbl wsL_bestPlan_r7 := (zgc zm_636 (zgc zm_415 (zgc zm_416 (zgc zm_417 (zgc zm_418 (zgc zm_419 (zgc zm_420 (zgc zm_421 (zgc zm_422 (zgc zm_423 (zgc zm_424 (zgc zm_425 (zgc zm_426 (zgc zm_427 (zgc zm_428 (zgc zm_429 (zgc zm_430 (zgc zm_238 (zgc zm_431 (zgc zm_432 (zgc zm_433 (zgc zm_434 (zgc zm_640 (zgc zm_435 zgn))))))))))))))))))))))))
theorem zw_wsL_bestPlan_r8 : GoodIn lw_tbl wsL_bestPlan_r8 := (zgc zm_436 (zgc zm_437 (zgc zm_438 (zgc zm_439 (zgc zm_440 (zgc zm_441 (zgc zm_247 (zgc zm_250 (zgc zm_253 (zgc zm_256 (zgc zm_261 (zgc zm_442 (zgc zm_444 (zgc zm_10 (zgc zm_445 (zgc zm_182 (zgc zm_446 (zgc zm_447 (zgc zm_448 (zgc zm_449 (zgc zm_450 (zgc zm_451 (zgc zm_452 (zgc zm_453 zgn))))))))))))))))))))))))
theorem zw_wsL_bestPlan_r9 : GoodIn lw_tbl wsL_bestPlan_r9 := (zgc zm_454 (zgc zm_456 (zgc zm_11 (zgc zm_457 (zgc zm_458 (zgc zm_459 (zgc zm_460 (zgc zm_461 (zgc zm_462 (zgc zm_463 (zgc zm_464 (zgc zm_465 (zgc zm_467 (zgc zm_12 (zgc zm_468 (zgc zm_166 (zgc zm_469 (zgc zm_470 (zgc zm_471 (zgc zm_472 (zgc zm_473 (zgc zm_475 (zgc zm_13 (zgc zm_476 zgn))))))))))))))))))))))))
theorem zw_wsL_bestPlan_r10 : GoodIn lw_tbl wsL_bestPlan_r10 := (zgc zm_477 (zgc zm_479 (zgc zm_14 (zgc zm_480 (zgc zm_481 (zgc zm_483 (zgc zm_15 (zgc zm_484 (zgc zm_485 (zgc zm_487 (zgc zm_16 (zgc zm_488 (zgc zm_160 (zgc zm_489 (zgc zm_491 (zgc zm_17 (zgc zm_492 (zgc zm_493 (zgc zm_495 (zgc zm_18 (zgc zm_496 (zgc zm_497 (zgc zm_499 (zgc zm_19 zgn))))))))))))))))))))))))
theorem zm_1048 : zgo (Cond.methodLink RX6 540 yX6_keepBest) := ⟨List.mem_of_getElem? (i := 1048) (by decide +kernel), by decide +kernel⟩
theorem zm_1050 : zgo (Cond.instanceMethod yX6_keepBest) := ⟨List.mem_of_getElem? (i := 1050) (by decide +kernel), by decide +kernel⟩
theorem zm_32 : zgo (Cond.selects RX6 yX6_keepBest yX6_keepBest) := ⟨List.mem_of_getElem? (i := 32) (by decide +kernel), by decide +kernel⟩
theorem zm_1051 : zgo (Cond.code yX6_keepBest cX6_keepBest 4 none) := ⟨List.mem_of_getElem? (i := 1051) (by decide +kernel), by decide +kernel⟩
theorem zw_wsL_bestPlan_r11 : GoodIn lw_tbl wsL_bestPlan_r11 := (zgc zm_500 (zgc zm_186 (zgc zm_1048 (zgc zm_1050 (zgc zm_32 (zgc zm_1051 zgn))))))
theorem zw_zwL_bestPlan : GoodIn lw_tbl zwL_bestPlan := (zgc zm_1036 (goodIn_app (goodIn_app (goodIn_app (goodIn_app (goodIn_app (goodIn_app (goodIn_app (goodIn_app (goodIn_app (goodIn_app (goodIn_app (goodIn_app (goodIn_app zw_wsL_bestPlan_r1 (goodIn_app zw_wsL_bestPlan_r2 (goodIn_app zw_wsL_bestPlan_r3 (goodIn_app zw_wsL_bestPlan_r4 (goodIn_app zw_wsL_bestPlan_r5 (goodIn_app zw_wsL_bestPlan_r6 (goodIn_app zw_wsL_bestPlan_r7 (goodIn_app zw_wsL_bestPlan_r8 (goodIn_app zw_wsL_bestPlan_r9 (goodIn_app zw_wsL_bestPlan_r10 zw_wsL_bestPlan_r11)))))))))) zw_wsX60) zw_wsX50) zw_wsX30) zw_wsX20) zw_wsX00) zw_wsX10) zw_wsX40) zx_0) zgn) zx_4) zx_1) zx_5))
theorem zm_1034 : zgo (Cond.methodLink RL 276 yL_bestPlan) := ⟨List.mem_of_getElem? (i := 1034) (by decide +kernel), by decide +kernel⟩
theorem zm_1035 : zgo (Cond.static yL_bestPlan) := ⟨List.mem_of_getElem? (i := 1035) (by decide +kernel), by decide +kernel⟩
theorem gL_law_L_bestPlan : GoodIn lw_tbl (va_wsS RL 276 yL_bestPlan zwL_bestPlan) := goodIn_app (a := [Cond.methodLink RL 276 yL_bestPlan, Cond.static yL_bestPlan, Cond.initialized RL]) (zgc zm_1034 (zgc zm_1035 (zgc zm_68 zgn))) zw_zwL_bestPlan
theorem zm_2127 : zgo (Cond.code yX10_bestPlan cX10_bestPlan 12 (some .int)) := ⟨List.mem_of_getElem? (i := 2127) (by decide +kernel), by decide +kernel⟩
theorem zw_wsX10_bestPlan_r1 : GoodIn lw_tbl wsX10_bestPlan_r1 := (zgc zm_1882 (zgc zm_1252 (zgc zm_1253 (zgc zm_76 (zgc zm_1284 (zgc zm_1397 (zgc zm_1647 (zgc zm_1649 (zgc zm_46 (zgc zm_73 (zgc zm_1650 (zgc zm_1403 (zgc zm_1406 (zgc zm_1408 (zgc zm_1410 (zgc zm_1269 (zgc zm_1325 (zgc zm_1326 (zgc zm_1327 (zgc zm_1254 (zgc zm_1255 (zgc zm_1256 (zgc zm_1264 (zgc zm_1266 zgn))))))))))))))))))))))))
theorem zm_2128 : zgo (Cond.methodLink RX10 348 yX10_adds) := ⟨List.mem_of_getElem? (i := 2128) (by decide +kernel), by decide +kernel⟩
theorem zm_2129 : zgo (Cond.static yX10_adds) := ⟨List.mem_of_getElem? (i := 2129) (by decide +kernel), by decide +kernel⟩
theorem zm_2130 : zgo (Cond.code yX10_adds cX10_adds 2 none) := ⟨List.mem_of_getElem? (i := 2130) (by decide +kernel), by decide +kernel⟩
theorem zw_wsX10_bestPlan_r2 : GoodIn lw_tbl wsX10_bestPlan_r2 := (zgc zm_1257 (zgc zm_1258 (zgc zm_75 (zgc zm_1259 (zgc zm_1270 (zgc zm_1260 (zgc zm_1261 (zgc zm_74 (zgc zm_1262 (zgc zm_1263 (zgc zm_114 (zgc zm_115 (zgc zm_2128 (zgc zm_2129 (zgc zm_2130 (zgc zm_146 (zgc zm_1442 (zgc zm_1445 (zgc zm_1447 (zgc zm_1449 (zgc zm_1273 (zgc zm_1272 (zgc zm_1450 (zgc zm_1452 zgn))))))))))))))))))))))))
theorem zw_wsX10_bestPlan_r3 : GoodIn lw_tbl wsX10_bestPlan_r3 := (zgc zm_43 (zgc zm_1453 (zgc zm_1454 (zgc zm_1456 (zgc zm_44 (zgc zm_1457 (zgc zm_1458 (zgc zm_1460 (zgc zm_45 (zgc zm_1461 (zgc zm_1509 (zgc zm_409 (zgc zm_88 (zgc zm_410 (zgc zm_1510 (zgc zm_1462 (zgc zm_1463 (zgc zm_87 (zgc zm_1464 (zgc zm_1465 (zgc zm_1466 (zgc zm_1467 (zgc zm_1468 (zgc zm_1469 zgn))))))))))))))))))))))))
theorem zw_wsX10_bestPlan_r4 : GoodIn lw_tbl wsX10_bestPlan_r4 := (zgc zm_1470 (zgc zm_1471 (zgc zm_89 (zgc zm_1472 (zgc zm_1473 (zgc zm_2495 (zgc zm_1474 (zgc zm_1498 (zgc zm_1499 (zgc zm_1500 (zgc zm_1501 (zgc zm_1502 (zgc zm_1504 (zgc zm_1505 (zgc zm_463 (zgc zm_464 (zgc zm_1506 (zgc zm_1508 (zgc zm_1507 (zgc zm_90 (zgc zm_1518 (zgc zm_1521 (zgc zm_1523 (zgc zm_1525 zgn))))))))))))))))))))))))
theorem zw_wsX10_bestPlan_r5 : GoodIn lw_tbl wsX10_bestPlan_r5 := (zgc zm_1526 (zgc zm_1527 (zgc zm_94 (zgc zm_1528 (zgc zm_1529 (zgc zm_1530 (zgc zm_95 (zgc zm_1531 (zgc zm_1532 (zgc zm_1533 (zgc zm_1534 (zgc zm_1535 (zgc zm_2091 (zgc zm_2092 (zgc zm_2093 (zgc zm_98 (zgc zm_2094 (zgc zm_2095 (zgc zm_1549 (zgc zm_1556 (zgc zm_1558 (zgc zm_1791 (zgc zm_1562 (zgc zm_2105 zgn))))))))))))))))))))))))
theorem zw_wsX10_bestPlan_r6 : GoodIn lw_tbl wsX10_bestPlan_r6 := (zgc zm_2106 (zgc zm_2107 (zgc zm_2108 (zgc zm_2109 (zgc zm_2111 (zgc zm_1564 (zgc zm_1566 (zgc zm_1568 (zgc zm_1570 (zgc zm_1572 (zgc zm_1574 (zgc zm_1576 (zgc zm_1578 (zgc zm_1580 (zgc zm_1582 (zgc zm_1590 (zgc zm_1592 (zgc zm_2096 (zgc zm_1551 (zgc zm_1552 (zgc zm_1553 (zgc zm_1554 (zgc zm_1560 (zgc zm_1584 zgn))))))))))))))))))))))))
theorem zw_wsX10_bestPlan_r7 : GoodIn lw_tbl wsX10_bestPlan_r7 := (zgc zm_1594 (zgc zm_1555 (zgc zm_1786 (zgc zm_1339 (zgc zm_1341 (zgc zm_1343 (zgc zm_1344 (zgc zm_1345 (zgc zm_84 (zgc zm_1346 (zgc zm_1347 (zgc zm_1348 (zgc zm_1353 (zgc zm_1349 (zgc zm_1351 (zgc zm_1271 (zgc zm_1352 (zgc zm_1788 (zgc zm_1368 (zgc zm_1370 (zgc zm_1372 (zgc zm_1350 (zgc zm_1790 (zgc zm_1377 zgn))))))))))))))))))))))))
theorem zw_wsX10_bestPlan_r8 : GoodIn lw_tbl wsX10_bestPlan_r8 := (zgc zm_1379 (zgc zm_1381 (zgc zm_1267 (zgc zm_1382 (zgc zm_1383 (zgc zm_1384 (zgc zm_1385 (zgc zm_2097 (zgc zm_2098 (zgc zm_2099 (zgc zm_99 (zgc zm_2100 (zgc zm_2101 (zgc zm_1652 (zgc zm_1657 (zgc zm_1659 (zgc zm_1670 (zgc zm_1661 (zgc zm_1672 (zgc zm_1664 (zgc zm_1666 (zgc zm_1674 (zgc zm_1676 (zgc zm_1678 zgn))))))))))))))))))))))))
theorem zw_wsX10_bestPlan_r9 : GoodIn lw_tbl wsX10_bestPlan_r9 := (zgc zm_1680 (zgc zm_1685 (zgc zm_2102 (zgc zm_1654 (zgc zm_1655 (zgc zm_1656 (zgc zm_1683 (zgc zm_1668 (zgc zm_2104 (zgc zm_2112 (zgc zm_2114 (zgc zm_62 (zgc zm_2115 (zgc zm_1800 (zgc zm_1335 (zgc zm_1364 (zgc zm_1374 (zgc zm_1773 (zgc zm_1775 (zgc zm_49 (zgc zm_1776 (zgc zm_1651 (zgc zm_1777 (zgc zm_1779 zgn))))))))))))))))))))))))
theorem zw_wsX10_bestPlan_r10 : GoodIn lw_tbl wsX10_bestPlan_r10 := (zgc zm_50 (zgc zm_1780 (zgc zm_1282 (zgc zm_1415 (zgc zm_1398 (zgc zm_1399 (zgc zm_1400 (zgc zm_1401 (zgc zm_1781 (zgc zm_1782 (zgc zm_1783 (zgc zm_1784 (zgc zm_1792 (zgc zm_1793 (zgc zm_1794 (zgc zm_1795 (zgc zm_1796 (zgc zm_1798 (zgc zm_51 (zgc zm_1799 (zgc zm_1283 (zgc zm_1801 (zgc zm_1802 (zgc zm_1804 zgn))))))))))))))))))))))))
theorem zw_wsX10_bestPlan_r11 : GoodIn lw_tbl wsX10_bestPlan_r11 := (zgc zm_52 (zgc zm_1805 (zgc zm_1806 (zgc zm_1808 (zgc zm_53 (zgc zm_1809 (zgc zm_1810 (zgc zm_1811 (zgc zm_1812 (zgc zm_1813 (zgc zm_1814 (zgc zm_1816 (zgc zm_54 (zgc zm_1817 (zgc zm_1818 (zgc zm_1819 (zgc zm_1820 (zgc zm_1821 (zgc zm_1826 (zgc zm_1823 (zgc zm_1825 (zgc zm_1827 (zgc zm_1829 (zgc zm_55 zgn))))))))))))))))))))))))
theorem zw_wsX10_bestPlan_r12 : GoodIn lw_tbl wsX10_bestPlan_r12 := (zgc zm_1830 (zgc zm_1831 (zgc zm_1832 (zgc zm_1833 (zgc zm_1834 (zgc zm_1835 (zgc zm_1836 (zgc zm_1837 (zgc zm_1838 (zgc zm_1839 (zgc zm_1840 (zgc zm_1841 (zgc zm_1842 (zgc zm_1843 (zgc zm_1844 (zgc zm_1845 (zgc zm_1846 (zgc zm_1847 (zgc zm_1848 (zgc zm_1849 (zgc zm_1851 (zgc zm_56 (zgc zm_1852 (zgc zm_1853 zgn))))))))))))))))))))))))
theorem zm_2132 : zgo (Cond.methodLink RX10 352 ⟨"java/util/List", "addAll", "(Ljava/util/Collection;)Z"⟩) := ⟨List.mem_of_getElem? (i := 2132) (by decide +kernel), by decide +kernel⟩
theorem zm_2135 : zgo (Cond.selects RJx4a65c ⟨"java/util/List", "addAll", "(Ljava/util/Collection;)Z"⟩ yJx4a65c_addAll_f0b43) := ⟨List.mem_of_getElem? (i := 2135) (by decide +kernel), by decide +kernel⟩
theorem zm_2137 : zgo (Cond.instanceMethod yJx4a65c_addAll_f0b43) := ⟨List.mem_of_getElem? (i := 2137) (by decide +kernel), by decide +kernel⟩
theorem zm_2139 : zgo (Cond.code yJx4a65c_addAll_f0b43 cJx4a65c_addAll_f0b43 6 (some .boolean)) := ⟨List.mem_of_getElem? (i := 2139) (by decide +kernel), by decide +kernel⟩
theorem zm_2141 : zgo (Cond.methodLink RJx4a65c 42 ⟨"java/util/Collection", "toArray", "()[Ljava/lang/Object;"⟩) := ⟨List.mem_of_getElem? (i := 2141) (by decide +kernel), by decide +kernel⟩
theorem zm_2145 : zgo (Cond.selects RJx4a65c ⟨"java/util/Collection", "toArray", "()[Ljava/lang/Object;"⟩ yJx4a65c_toArray_d5877) := ⟨List.mem_of_getElem? (i := 2145) (by decide +kernel), by decide +kernel⟩
theorem zw_wsX10_bestPlan_r13 : GoodIn lw_tbl wsX10_bestPlan_r13 := (zgc zm_1855 (zgc zm_57 (zgc zm_1856 (zgc zm_1288 (zgc zm_1857 (zgc zm_1859 (zgc zm_58 (zgc zm_1860 (zgc zm_1411 (zgc zm_1413 (zgc zm_42 (zgc zm_1414 (zgc zm_1281 (zgc zm_2075 (zgc zm_2078 (zgc zm_2080 (zgc zm_2082 (zgc zm_2132 (zgc zm_2135 (zgc zm_2137 (zgc zm_2139 (zgc zm_1977 (zgc zm_2141 (zgc zm_2145 zgn))))))))))))))))))))))))
theorem zm_2147 : zgo (Cond.instanceMethod yJx4a65c_toArray_d5877) := ⟨List.mem_of_getElem? (i := 2147) (by decide +kernel), by decide +kernel⟩
theorem zm_2149 : zgo (Cond.code yJx4a65c_toArray_d5877 cJx4a65c_toArray_d5877 1 (some (.array (.object "java/lang/Object")))) := ⟨List.mem_of_getElem? (i := 2149) (by decide +kernel), by decide +kernel⟩
theorem zw_wsX10_bestPlan_r14 : GoodIn lw_tbl wsX10_bestPlan_r14 := (zgc zm_2147 (zgc zm_2149 zgn))
theorem zw_wsX10_bestPlan : GoodIn lw_tbl wsX10_bestPlan := (zgc zm_2127 (goodIn_app (goodIn_app (goodIn_app (goodIn_app (goodIn_app (goodIn_app (goodIn_app (goodIn_app (goodIn_app zw_wsX10_bestPlan_r1 (goodIn_app zw_wsX10_bestPlan_r2 (goodIn_app zw_wsX10_bestPlan_r3 (goodIn_app zw_wsX10_bestPlan_r4 (goodIn_app zw_wsX10_bestPlan_r5 (goodIn_app zw_wsX10_bestPlan_r6 (goodIn_app zw_wsX10_bestPlan_r7 (goodIn_app zw_wsX10_bestPlan_r8 (goodIn_app zw_wsX10_bestPlan_r9 (goodIn_app zw_wsX10_bestPlan_r10 (goodIn_app zw_wsX10_bestPlan_r11 (goodIn_app zw_wsX10_bestPlan_r12 (goodIn_app zw_wsX10_bestPlan_r13 zw_wsX10_bestPlan_r14))))))))))))) zw_wsJx4a65c0) zw_wsX100) zw_wsX90) zw_wsJx354110) zw_wsX70) zw_wsX80) zx_5) zx_0))
theorem zm_2124 : zgo (Cond.methodLink RL 278 yX10_bestPlan) := ⟨List.mem_of_getElem? (i := 2124) (by decide +kernel), by decide +kernel⟩
theorem zm_2125 : zgo (Cond.instanceMethod yX10_bestPlan) := ⟨List.mem_of_getElem? (i := 2125) (by decide +kernel), by decide +kernel⟩
theorem zm_2126 : zgo (Cond.selects RX10 yX10_bestPlan yX10_bestPlan) := ⟨List.mem_of_getElem? (i := 2126) (by decide +kernel), by decide +kernel⟩
theorem gL_law_X10_bestPlan : GoodIn lw_tbl (wsV RL 278 RX10 yX10_bestPlan wsX10_bestPlan) := goodIn_app (a := [Cond.methodLink RL 278 yX10_bestPlan, Cond.instanceMethod yX10_bestPlan, Cond.selects RX10 yX10_bestPlan yX10_bestPlan, Cond.initialized RX10]) (zgc zm_2124 (zgc zm_2125 (zgc zm_2126 (zgc zm_73 zgn)))) zw_wsX10_bestPlan
theorem zm_1055 : zgo (Cond.codeWith yL_why cL_why 4 (some .int) [(0, 9, 12, 23)]) := ⟨List.mem_of_getElem? (i := 1055) (by decide +kernel), by decide +kernel⟩
theorem zm_1056 : zgo (.methodLink RL 117 yX6_why) := ⟨List.mem_of_getElem? (i := 1056) (by decide +kernel), by decide +kernel⟩
theorem zm_1057 : zgo (.instanceMethod yX6_why) := ⟨List.mem_of_getElem? (i := 1057) (by decide +kernel), by decide +kernel⟩
theorem zm_1058 : zgo (.selects RX6 yX6_why yX6_why) := ⟨List.mem_of_getElem? (i := 1058) (by decide +kernel), by decide +kernel⟩
theorem zm_1059 : zgo (.code yX6_why cX6_why 2 (some .char)) := ⟨List.mem_of_getElem? (i := 1059) (by decide +kernel), by decide +kernel⟩
theorem zw_wsL_why : GoodIn lw_tbl wsL_why := (zgc zm_1055 (goodIn_app (goodIn_app (goodIn_app (goodIn_app (zgc zm_656 (zgc zm_1056 (zgc zm_1057 (zgc zm_1058 (zgc zm_69 (zgc zm_1059 (zgc zm_298 (zgc zm_765 (zgc zm_784 (zgc zm_786 (zgc zm_24 (zgc zm_787 (zgc zm_688 (zgc zm_91 (zgc zm_299 zgn))))))))))))))) zw_wsX60) zw_wsX50) zx_0) zx_4))
theorem zm_1053 : zgo (Cond.methodLink RL 279 yL_why) := ⟨List.mem_of_getElem? (i := 1053) (by decide +kernel), by decide +kernel⟩
theorem zm_1054 : zgo (Cond.static yL_why) := ⟨List.mem_of_getElem? (i := 1054) (by decide +kernel), by decide +kernel⟩
theorem gL_law_L_why : GoodIn lw_tbl (va_wsS RL 279 yL_why wsL_why) := goodIn_app (a := [Cond.methodLink RL 279 yL_why, Cond.static yL_why, Cond.initialized RL]) (zgc zm_1053 (zgc zm_1054 (zgc zm_68 zgn))) zw_wsL_why
theorem zm_2153 : zgo (Cond.code yX10_why cX10_why 2 (some .char)) := ⟨List.mem_of_getElem? (i := 2153) (by decide +kernel), by decide +kernel⟩
theorem zw_wsX10_why_r1 : GoodIn lw_tbl wsX10_why_r1 := (zgc zm_1284 (zgc zm_1397 (zgc zm_1647 (zgc zm_1649 (zgc zm_46 (zgc zm_73 (zgc zm_1650 (zgc zm_1403 (zgc zm_1406 (zgc zm_1408 (zgc zm_76 (zgc zm_1410 (zgc zm_1269 (zgc zm_1325 (zgc zm_1326 (zgc zm_1327 (zgc zm_1411 (zgc zm_1413 (zgc zm_42 (zgc zm_1414 (zgc zm_1281 (zgc zm_1518 (zgc zm_1521 (zgc zm_1523 zgn))))))))))))))))))))))))
theorem zw_wsX10_why_r2 : GoodIn lw_tbl wsX10_why_r2 := (zgc zm_1525 (zgc zm_1526 (zgc zm_1527 (zgc zm_94 (zgc zm_1528 (zgc zm_1529 (zgc zm_1530 (zgc zm_95 (zgc zm_1531 (zgc zm_1532 (zgc zm_1533 (zgc zm_1534 (zgc zm_1535 (zgc zm_1266 zgn))))))))))))))
theorem zw_wsX10_why : GoodIn lw_tbl wsX10_why := (zgc zm_2153 (goodIn_app (goodIn_app (goodIn_app (goodIn_app zw_wsX10_why_r1 zw_wsX10_why_r2) zw_wsX100) zw_wsX90) zw_wsJx4a65c0))
theorem zm_2150 : zgo (Cond.methodLink RL 281 yX10_why) := ⟨List.mem_of_getElem? (i := 2150) (by decide +kernel), by decide +kernel⟩
theorem zm_2151 : zgo (Cond.instanceMethod yX10_why) := ⟨List.mem_of_getElem? (i := 2151) (by decide +kernel), by decide +kernel⟩
theorem zm_2152 : zgo (Cond.selects RX10 yX10_why yX10_why) := ⟨List.mem_of_getElem? (i := 2152) (by decide +kernel), by decide +kernel⟩
theorem gL_law_X10_why : GoodIn lw_tbl (wsV RL 281 RX10 yX10_why wsX10_why) := goodIn_app (a := [Cond.methodLink RL 281 yX10_why, Cond.instanceMethod yX10_why, Cond.selects RX10 yX10_why yX10_why, Cond.initialized RX10]) (zgc zm_2150 (zgc zm_2151 (zgc zm_2152 (zgc zm_73 zgn)))) zw_wsX10_why
theorem zm_1062 : zgo (Cond.codeWith yL_dogOf cL_dogOf 5 (some .int) [(0, 10, 13, 23), (0, 10, 17, 13)]) := ⟨List.mem_of_getElem? (i := 1062) (by decide +kernel), by decide +kernel⟩
theorem zm_1063 : zgo (Cond.methodLink RL 121 yX6_dogOf) := ⟨List.mem_of_getElem? (i := 1063) (by decide +kernel), by decide +kernel⟩
theorem zm_1064 : zgo (Cond.instanceMethod yX6_dogOf) := ⟨List.mem_of_getElem? (i := 1064) (by decide +kernel), by decide +kernel⟩
theorem zm_1065 : zgo (Cond.selects RX6 yX6_dogOf yX6_dogOf) := ⟨List.mem_of_getElem? (i := 1065) (by decide +kernel), by decide +kernel⟩
theorem zm_1066 : zgo (Cond.code yX6_dogOf cX6_dogOf 4 (some .int)) := ⟨List.mem_of_getElem? (i := 1066) (by decide +kernel), by decide +kernel⟩
theorem zm_248 : zgo (Cond.fieldLink RX6 310 "Gangline$Dog" "feet" "I") := ⟨List.mem_of_getElem? (i := 248) (by decide +kernel), by decide +kernel⟩
theorem zm_251 : zgo (Cond.fieldLink RX6 313 "Gangline$Dog" "food" "I") := ⟨List.mem_of_getElem? (i := 251) (by decide +kernel), by decide +kernel⟩
theorem zm_254 : zgo (Cond.fieldLink RX6 316 "Gangline$Dog" "water" "I") := ⟨List.mem_of_getElem? (i := 254) (by decide +kernel), by decide +kernel⟩
theorem zm_257 : zgo (Cond.fieldLink RX6 319 "Gangline$Dog" "trust" "I") := ⟨List.mem_of_getElem? (i := 257) (by decide +kernel), by decide +kernel⟩
theorem zm_236 : zgo (Cond.fieldLink RX6 322 "Gangline$Dog" "strength" "I") := ⟨List.mem_of_getElem? (i := 236) (by decide +kernel), by decide +kernel⟩
theorem zm_239 : zgo (Cond.fieldLink RX6 325 "Gangline$Dog" "lead" "I") := ⟨List.mem_of_getElem? (i := 239) (by decide +kernel), by decide +kernel⟩
theorem zw_wsL_dogOf_r1 : GoodIn lw_tbl wsL_dogOf_r1 := (zgc zm_656 (zgc zm_1063 (zgc zm_1064 (zgc zm_1065 (zgc zm_69 (zgc zm_1066 (zgc zm_514 (zgc zm_80 (zgc zm_296 (zgc zm_248 (zgc zm_251 (zgc zm_254 (zgc zm_257 (zgc zm_236 (zgc zm_239 (zgc zm_241 (zgc zm_234 (zgc zm_800 (zgc zm_802 (zgc zm_26 (zgc zm_803 (zgc zm_688 (zgc zm_91 (zgc zm_297 zgn))))))))))))))))))))))))
theorem zm_1067 : zgo (Cond.methodLink RX6 328 yX0_pull) := ⟨List.mem_of_getElem? (i := 1067) (by decide +kernel), by decide +kernel⟩
theorem zw_wsL_dogOf_r2 : GoodIn lw_tbl wsL_dogOf_r2 := (zgc zm_1067 (zgc zm_424 (zgc zm_425 (zgc zm_72 (zgc zm_426 (zgc zm_235 (zgc zm_249 (zgc zm_252 (zgc zm_246 zgn)))))))))
theorem zw_wsL_dogOf : GoodIn lw_tbl wsL_dogOf := (zgc zm_1062 (goodIn_app (goodIn_app (goodIn_app (goodIn_app (goodIn_app (goodIn_app zw_wsL_dogOf_r1 zw_wsL_dogOf_r2) zw_wsX60) zw_wsX00) zx_0) zx_1) zx_4))
theorem zm_1060 : zgo (Cond.methodLink RL 282 yL_dogOf) := ⟨List.mem_of_getElem? (i := 1060) (by decide +kernel), by decide +kernel⟩
theorem zm_1061 : zgo (Cond.static yL_dogOf) := ⟨List.mem_of_getElem? (i := 1061) (by decide +kernel), by decide +kernel⟩
theorem gL_law_L_dogOf : GoodIn lw_tbl (va_wsS RL 282 yL_dogOf wsL_dogOf) := goodIn_app (a := [Cond.methodLink RL 282 yL_dogOf, Cond.static yL_dogOf, Cond.initialized RL]) (zgc zm_1060 (zgc zm_1061 (zgc zm_68 zgn))) zw_wsL_dogOf
theorem zm_2157 : zgo (Cond.code yX10_dogOf cX10_dogOf 6 (some .int)) := ⟨List.mem_of_getElem? (i := 2157) (by decide +kernel), by decide +kernel⟩
theorem zw_wsX10_dogOf_r1 : GoodIn lw_tbl wsX10_dogOf_r1 := (zgc zm_1285 (zgc zm_1651 (zgc zm_146 (zgc zm_1990 (zgc zm_1991 (zgc zm_1992 (zgc zm_93 (zgc zm_1993 (zgc zm_1994 (zgc zm_1995 (zgc zm_1996 (zgc zm_1997 (zgc zm_2400 (zgc zm_1998 (zgc zm_1999 (zgc zm_2000 (zgc zm_2001 (zgc zm_1956 (zgc zm_2401 (zgc zm_2002 (zgc zm_2003 (zgc zm_2004 (zgc zm_2005 (zgc zm_2006 zgn))))))))))))))))))))))))
theorem zw_wsX10_dogOf_r2 : GoodIn lw_tbl wsX10_dogOf_r2 := (zgc zm_2007 (zgc zm_2008 (zgc zm_2009 (zgc zm_2010 (zgc zm_2011 (zgc zm_100 (zgc zm_2012 (zgc zm_2016 (zgc zm_409 (zgc zm_88 (zgc zm_410 (zgc zm_2017 (zgc zm_463 (zgc zm_464 (zgc zm_2013 (zgc zm_2014 (zgc zm_2015 (zgc zm_2018 (zgc zm_2019 (zgc zm_2020 (zgc zm_2021 (zgc zm_2022 (zgc zm_101 (zgc zm_2023 zgn))))))))))))))))))))))))
theorem zw_wsX10_dogOf_r3 : GoodIn lw_tbl wsX10_dogOf_r3 := (zgc zm_2024 (zgc zm_2025 (zgc zm_2026 (zgc zm_2027 (zgc zm_2028 (zgc zm_2029 (zgc zm_2030 (zgc zm_2031 (zgc zm_2032 (zgc zm_2033 (zgc zm_2034 (zgc zm_2035 (zgc zm_2036 (zgc zm_2037 (zgc zm_2038 (zgc zm_2039 (zgc zm_2041 (zgc zm_2042 (zgc zm_95 (zgc zm_2043 (zgc zm_2044 (zgc zm_2045 (zgc zm_2046 (zgc zm_2047 zgn))))))))))))))))))))))))
theorem zw_wsX10_dogOf_r4 : GoodIn lw_tbl wsX10_dogOf_r4 := (zgc zm_2048 (zgc zm_2049 (zgc zm_2050 (zgc zm_2052 (zgc zm_2054 (zgc zm_2056 (zgc zm_2057 (zgc zm_2058 (zgc zm_2059 (zgc zm_2060 (zgc zm_102 (zgc zm_2061 (zgc zm_2062 (zgc zm_2063 (zgc zm_2064 (zgc zm_2065 (zgc zm_2066 (zgc zm_2067 (zgc zm_2068 (zgc zm_2069 (zgc zm_1730 (zgc zm_1732 (zgc zm_47 (zgc zm_73 zgn))))))))))))))))))))))))
theorem zw_wsX10_dogOf_r5 : GoodIn lw_tbl wsX10_dogOf_r5 := (zgc zm_1733 (zgc zm_1403 (zgc zm_1406 (zgc zm_1408 (zgc zm_76 (zgc zm_1410 (zgc zm_1269 (zgc zm_1325 (zgc zm_1326 (zgc zm_1327 (zgc zm_1411 (zgc zm_1413 (zgc zm_42 (zgc zm_1414 (zgc zm_1281 (zgc zm_1518 (zgc zm_1521 (zgc zm_1523 (zgc zm_1525 (zgc zm_1526 (zgc zm_1527 (zgc zm_94 (zgc zm_1528 (zgc zm_1529 zgn))))))))))))))))))))))))
theorem zw_wsX10_dogOf_r6 : GoodIn lw_tbl wsX10_dogOf_r6 := (zgc zm_1530 (zgc zm_1531 (zgc zm_1532 (zgc zm_1533 (zgc zm_1534 (zgc zm_1535 (zgc zm_1266 (zgc zm_1810 (zgc zm_1811 (zgc zm_1812 (zgc zm_99 (zgc zm_1813 (zgc zm_1670 (zgc zm_1676 (zgc zm_1678 (zgc zm_1674 zgn))))))))))))))))
theorem zw_wsX10_dogOf : GoodIn lw_tbl wsX10_dogOf := (zgc zm_2157 (goodIn_app (goodIn_app (goodIn_app (goodIn_app (goodIn_app (goodIn_app zw_wsX10_dogOf_r1 (goodIn_app zw_wsX10_dogOf_r2 (goodIn_app zw_wsX10_dogOf_r3 (goodIn_app zw_wsX10_dogOf_r4 (goodIn_app zw_wsX10_dogOf_r5 zw_wsX10_dogOf_r6))))) zw_wsX100) zw_wsX70) zw_wsJ00) zw_wsJx4a65c0) zx_0))
theorem zm_2154 : zgo (Cond.methodLink RL 285 yX10_dogOf) := ⟨List.mem_of_getElem? (i := 2154) (by decide +kernel), by decide +kernel⟩
theorem zm_2155 : zgo (Cond.instanceMethod yX10_dogOf) := ⟨List.mem_of_getElem? (i := 2155) (by decide +kernel), by decide +kernel⟩
theorem zm_2156 : zgo (Cond.selects RX10 yX10_dogOf yX10_dogOf) := ⟨List.mem_of_getElem? (i := 2156) (by decide +kernel), by decide +kernel⟩
theorem gL_law_X10_dogOf : GoodIn lw_tbl (wsV RL 285 RX10 yX10_dogOf wsX10_dogOf) := goodIn_app (a := [Cond.methodLink RL 285 yX10_dogOf, Cond.instanceMethod yX10_dogOf, Cond.selects RX10 yX10_dogOf yX10_dogOf, Cond.initialized RX10]) (zgc zm_2154 (zgc zm_2155 (zgc zm_2156 (zgc zm_73 zgn)))) zw_wsX10_dogOf
theorem zm_1071 : zgo (Cond.codeWith yL_stateOf cL_stateOf 4 (some .int) [(0, 9, 12, 23)]) := ⟨List.mem_of_getElem? (i := 1071) (by decide +kernel), by decide +kernel⟩
theorem zm_1072 : zgo (.methodLink RL 125 yX6_stateOf) := ⟨List.mem_of_getElem? (i := 1072) (by decide +kernel), by decide +kernel⟩
theorem zm_1073 : zgo (.instanceMethod yX6_stateOf) := ⟨List.mem_of_getElem? (i := 1073) (by decide +kernel), by decide +kernel⟩
theorem zm_1074 : zgo (.selects RX6 yX6_stateOf yX6_stateOf) := ⟨List.mem_of_getElem? (i := 1074) (by decide +kernel), by decide +kernel⟩
theorem zm_1075 : zgo (.code yX6_stateOf cX6_stateOf 2 (some .char)) := ⟨List.mem_of_getElem? (i := 1075) (by decide +kernel), by decide +kernel⟩
theorem zw_wsL_stateOf : GoodIn lw_tbl wsL_stateOf := (zgc zm_1071 (goodIn_app (goodIn_app (goodIn_app (goodIn_app (zgc zm_656 (zgc zm_1072 (zgc zm_1073 (zgc zm_1074 (zgc zm_69 (zgc zm_1075 (zgc zm_296 (zgc zm_262 (zgc zm_800 (zgc zm_802 (zgc zm_26 (zgc zm_803 (zgc zm_688 (zgc zm_91 (zgc zm_297 zgn))))))))))))))) zw_wsX60) zw_wsX00) zx_0) zx_4))
theorem zm_1069 : zgo (Cond.methodLink RL 286 yL_stateOf) := ⟨List.mem_of_getElem? (i := 1069) (by decide +kernel), by decide +kernel⟩
theorem zm_1070 : zgo (Cond.static yL_stateOf) := ⟨List.mem_of_getElem? (i := 1070) (by decide +kernel), by decide +kernel⟩
theorem gL_law_L_stateOf : GoodIn lw_tbl (va_wsS RL 286 yL_stateOf wsL_stateOf) := goodIn_app (a := [Cond.methodLink RL 286 yL_stateOf, Cond.static yL_stateOf, Cond.initialized RL]) (zgc zm_1069 (zgc zm_1070 (zgc zm_68 zgn))) zw_wsL_stateOf
theorem zm_2162 : zgo (Cond.code yX10_stateOf cX10_stateOf 3 (some .char)) := ⟨List.mem_of_getElem? (i := 2162) (by decide +kernel), by decide +kernel⟩
theorem zw_wsX10_stateOf_r1 : GoodIn lw_tbl wsX10_stateOf_r1 := (zgc zm_1285 (zgc zm_1651 (zgc zm_1730 (zgc zm_1732 (zgc zm_47 (zgc zm_73 (zgc zm_1733 (zgc zm_1403 (zgc zm_1406 (zgc zm_1408 (zgc zm_76 (zgc zm_1410 (zgc zm_1269 (zgc zm_1325 (zgc zm_1326 (zgc zm_1327 (zgc zm_1411 (zgc zm_1413 (zgc zm_42 (zgc zm_1414 (zgc zm_1281 (zgc zm_1518 (zgc zm_1521 (zgc zm_1523 zgn))))))))))))))))))))))))
theorem zw_wsX10_stateOf_r2 : GoodIn lw_tbl wsX10_stateOf_r2 := (zgc zm_1525 (zgc zm_1526 (zgc zm_1527 (zgc zm_94 (zgc zm_1528 (zgc zm_1529 (zgc zm_1530 (zgc zm_95 (zgc zm_1531 (zgc zm_1532 (zgc zm_1533 (zgc zm_1534 (zgc zm_1535 (zgc zm_1266 zgn))))))))))))))
theorem zw_wsX10_stateOf : GoodIn lw_tbl wsX10_stateOf := (zgc zm_2162 (goodIn_app (goodIn_app (goodIn_app (goodIn_app zw_wsX10_stateOf_r1 zw_wsX10_stateOf_r2) zw_wsX100) zw_wsX70) zw_wsJx4a65c0))
theorem zm_2159 : zgo (Cond.methodLink RL 288 yX10_stateOf) := ⟨List.mem_of_getElem? (i := 2159) (by decide +kernel), by decide +kernel⟩
theorem zm_2160 : zgo (Cond.instanceMethod yX10_stateOf) := ⟨List.mem_of_getElem? (i := 2160) (by decide +kernel), by decide +kernel⟩
theorem zm_2161 : zgo (Cond.selects RX10 yX10_stateOf yX10_stateOf) := ⟨List.mem_of_getElem? (i := 2161) (by decide +kernel), by decide +kernel⟩
theorem gL_law_X10_stateOf : GoodIn lw_tbl (wsV RL 288 RX10 yX10_stateOf wsX10_stateOf) := goodIn_app (a := [Cond.methodLink RL 288 yX10_stateOf, Cond.instanceMethod yX10_stateOf, Cond.selects RX10 yX10_stateOf yX10_stateOf, Cond.initialized RX10]) (zgc zm_2159 (zgc zm_2160 (zgc zm_2161 (zgc zm_73 zgn)))) zw_wsX10_stateOf
theorem zm_1078 : zgo (Cond.codeWith yL_mustStop cL_mustStop 4 (some .int) [(0, 16, 19, 23)]) := ⟨List.mem_of_getElem? (i := 1078) (by decide +kernel), by decide +kernel⟩
theorem zm_1079 : zgo (.methodLink RL 128 yX6_mustStop) := ⟨List.mem_of_getElem? (i := 1079) (by decide +kernel), by decide +kernel⟩
theorem zm_1080 : zgo (.instanceMethod yX6_mustStop) := ⟨List.mem_of_getElem? (i := 1080) (by decide +kernel), by decide +kernel⟩
theorem zm_1081 : zgo (.selects RX6 yX6_mustStop yX6_mustStop) := ⟨List.mem_of_getElem? (i := 1081) (by decide +kernel), by decide +kernel⟩
theorem zm_1082 : zgo (.code yX6_mustStop cX6_mustStop 2 (some .boolean)) := ⟨List.mem_of_getElem? (i := 1082) (by decide +kernel), by decide +kernel⟩
theorem zm_1083 : zgo (.methodLink RX6 333 yX0_isSpent) := ⟨List.mem_of_getElem? (i := 1083) (by decide +kernel), by decide +kernel⟩
theorem zw_wsL_mustStop : GoodIn lw_tbl wsL_mustStop := (zgc zm_1078 (goodIn_app (goodIn_app (goodIn_app (goodIn_app (zgc zm_656 (zgc zm_1079 (zgc zm_1080 (zgc zm_1081 (zgc zm_69 (zgc zm_1082 (zgc zm_296 (zgc zm_800 (zgc zm_802 (zgc zm_26 (zgc zm_803 (zgc zm_688 (zgc zm_91 (zgc zm_297 (zgc zm_1083 (zgc zm_397 (zgc zm_398 (zgc zm_72 (zgc zm_399 (zgc zm_246 (zgc zm_249 (zgc zm_252 zgn)))))))))))))))))))))) zw_wsX60) zw_wsX00) zx_0) zx_4))
theorem zm_1076 : zgo (Cond.methodLink RL 289 yL_mustStop) := ⟨List.mem_of_getElem? (i := 1076) (by decide +kernel), by decide +kernel⟩
theorem zm_1077 : zgo (Cond.static yL_mustStop) := ⟨List.mem_of_getElem? (i := 1077) (by decide +kernel), by decide +kernel⟩
theorem gL_law_L_mustStop : GoodIn lw_tbl (va_wsS RL 289 yL_mustStop wsL_mustStop) := goodIn_app (a := [Cond.methodLink RL 289 yL_mustStop, Cond.static yL_mustStop, Cond.initialized RL]) (zgc zm_1076 (zgc zm_1077 (zgc zm_68 zgn))) zw_wsL_mustStop
theorem zm_2166 : zgo (Cond.code yX10_mustStop cX10_mustStop 2 (some .boolean)) := ⟨List.mem_of_getElem? (i := 2166) (by decide +kernel), by decide +kernel⟩
theorem zw_wsX10_mustStop_r1 : GoodIn lw_tbl wsX10_mustStop_r1 := (zgc zm_1285 (zgc zm_1651 (zgc zm_1730 (zgc zm_1732 (zgc zm_47 (zgc zm_73 (zgc zm_1733 (zgc zm_1403 (zgc zm_1406 (zgc zm_1408 (zgc zm_76 (zgc zm_1410 (zgc zm_1269 (zgc zm_1325 (zgc zm_1326 (zgc zm_1327 (zgc zm_1411 (zgc zm_1413 (zgc zm_42 (zgc zm_1414 (zgc zm_1281 (zgc zm_1518 (zgc zm_1521 (zgc zm_1523 zgn))))))))))))))))))))))))
theorem zm_2167 : zgo (Cond.methodLink RX10 364 yX7_mustStop) := ⟨List.mem_of_getElem? (i := 2167) (by decide +kernel), by decide +kernel⟩
theorem zw_wsX10_mustStop_r2 : GoodIn lw_tbl wsX10_mustStop_r2 := (zgc zm_1525 (zgc zm_1526 (zgc zm_1527 (zgc zm_94 (zgc zm_1528 (zgc zm_1529 (zgc zm_1530 (zgc zm_95 (zgc zm_1531 (zgc zm_1532 (zgc zm_1533 (zgc zm_1534 (zgc zm_1535 (zgc zm_1266 (zgc zm_2167 (zgc zm_1793 (zgc zm_1794 (zgc zm_99 (zgc zm_1795 (zgc zm_1674 (zgc zm_1676 (zgc zm_1678 zgn))))))))))))))))))))))
theorem zw_wsX10_mustStop : GoodIn lw_tbl wsX10_mustStop := (zgc zm_2166 (goodIn_app (goodIn_app (goodIn_app (goodIn_app zw_wsX10_mustStop_r1 zw_wsX10_mustStop_r2) zw_wsX100) zw_wsJx4a65c0) zw_wsX70))
theorem zm_2163 : zgo (Cond.methodLink RL 291 yX10_mustStop) := ⟨List.mem_of_getElem? (i := 2163) (by decide +kernel), by decide +kernel⟩
theorem zm_2164 : zgo (Cond.instanceMethod yX10_mustStop) := ⟨List.mem_of_getElem? (i := 2164) (by decide +kernel), by decide +kernel⟩
theorem zm_2165 : zgo (Cond.selects RX10 yX10_mustStop yX10_mustStop) := ⟨List.mem_of_getElem? (i := 2165) (by decide +kernel), by decide +kernel⟩
theorem gL_law_X10_mustStop : GoodIn lw_tbl (wsV RL 291 RX10 yX10_mustStop wsX10_mustStop) := goodIn_app (a := [Cond.methodLink RL 291 yX10_mustStop, Cond.instanceMethod yX10_mustStop, Cond.selects RX10 yX10_mustStop yX10_mustStop, Cond.initialized RX10]) (zgc zm_2163 (zgc zm_2164 (zgc zm_2165 (zgc zm_73 zgn)))) zw_wsX10_mustStop
theorem zm_1086 : zgo (Cond.codeWith yL_teamOf cL_teamOf 5 (some .int) [(0, 10, 13, 23), (0, 10, 17, 13)]) := ⟨List.mem_of_getElem? (i := 1086) (by decide +kernel), by decide +kernel⟩
theorem zm_1087 : zgo (Cond.methodLink RL 131 yX6_teamOf) := ⟨List.mem_of_getElem? (i := 1087) (by decide +kernel), by decide +kernel⟩
theorem zm_1088 : zgo (Cond.instanceMethod yX6_teamOf) := ⟨List.mem_of_getElem? (i := 1088) (by decide +kernel), by decide +kernel⟩
theorem zm_1089 : zgo (Cond.selects RX6 yX6_teamOf yX6_teamOf) := ⟨List.mem_of_getElem? (i := 1089) (by decide +kernel), by decide +kernel⟩
theorem zm_1090 : zgo (Cond.code yX6_teamOf cX6_teamOf 4 (some .int)) := ⟨List.mem_of_getElem? (i := 1090) (by decide +kernel), by decide +kernel⟩
theorem zm_762 : zgo (Cond.fieldLink RX6 345 "Gangline$Team" "earned" "I") := ⟨List.mem_of_getElem? (i := 762) (by decide +kernel), by decide +kernel⟩
theorem zw_wsL_teamOf_r1 : GoodIn lw_tbl wsL_teamOf_r1 := (zgc zm_656 (zgc zm_1087 (zgc zm_1088 (zgc zm_1089 (zgc zm_69 (zgc zm_1090 (zgc zm_514 (zgc zm_80 (zgc zm_298 (zgc zm_759 (zgc zm_162 (zgc zm_164 (zgc zm_166 (zgc zm_168 (zgc zm_170 (zgc zm_172 (zgc zm_174 (zgc zm_190 (zgc zm_762 (zgc zm_784 (zgc zm_786 (zgc zm_24 (zgc zm_787 (zgc zm_688 zgn))))))))))))))))))))))))
theorem zm_1091 : zgo (Cond.methodLink RX6 348 yX6_racesFinished) := ⟨List.mem_of_getElem? (i := 1091) (by decide +kernel), by decide +kernel⟩
theorem zm_1092 : zgo (Cond.static yX6_racesFinished) := ⟨List.mem_of_getElem? (i := 1092) (by decide +kernel), by decide +kernel⟩
theorem zm_1093 : zgo (Cond.code yX6_racesFinished cX6_racesFinished 1 (some .int)) := ⟨List.mem_of_getElem? (i := 1093) (by decide +kernel), by decide +kernel⟩
theorem zm_763 : zgo (Cond.fieldLink RX6 377 "Gangline$Team" "finished" "I") := ⟨List.mem_of_getElem? (i := 763) (by decide +kernel), by decide +kernel⟩
theorem zw_wsL_teamOf_r2 : GoodIn lw_tbl wsL_teamOf_r2 := (zgc zm_91 (zgc zm_299 (zgc zm_1091 (zgc zm_1092 (zgc zm_1093 (zgc zm_763 (zgc zm_158 zgn)))))))
theorem zw_wsL_teamOf : GoodIn lw_tbl wsL_teamOf := (zgc zm_1086 (goodIn_app (goodIn_app (goodIn_app (goodIn_app (goodIn_app (goodIn_app (goodIn_app zw_wsL_teamOf_r1 zw_wsL_teamOf_r2) zw_wsX60) zw_wsX50) zw_wsX20) zx_0) zx_1) zx_4))
theorem zm_1084 : zgo (Cond.methodLink RL 292 yL_teamOf) := ⟨List.mem_of_getElem? (i := 1084) (by decide +kernel), by decide +kernel⟩
theorem zm_1085 : zgo (Cond.static yL_teamOf) := ⟨List.mem_of_getElem? (i := 1085) (by decide +kernel), by decide +kernel⟩
theorem gL_law_L_teamOf : GoodIn lw_tbl (va_wsS RL 292 yL_teamOf wsL_teamOf) := goodIn_app (a := [Cond.methodLink RL 292 yL_teamOf, Cond.static yL_teamOf, Cond.initialized RL]) (zgc zm_1084 (zgc zm_1085 (zgc zm_68 zgn))) zw_wsL_teamOf
theorem zm_2171 : zgo (Cond.code yX10_teamOf cX10_teamOf 6 (some .int)) := ⟨List.mem_of_getElem? (i := 2171) (by decide +kernel), by decide +kernel⟩
theorem zw_wsX10_teamOf_r1 : GoodIn lw_tbl wsX10_teamOf_r1 := (zgc zm_1284 (zgc zm_1397 (zgc zm_146 (zgc zm_1990 (zgc zm_1991 (zgc zm_1992 (zgc zm_93 (zgc zm_1993 (zgc zm_1994 (zgc zm_1995 (zgc zm_1996 (zgc zm_1997 (zgc zm_2400 (zgc zm_1998 (zgc zm_1999 (zgc zm_2000 (zgc zm_2001 (zgc zm_1956 (zgc zm_2401 (zgc zm_2002 (zgc zm_2003 (zgc zm_2004 (zgc zm_2005 (zgc zm_2006 zgn))))))))))))))))))))))))
theorem zw_wsX10_teamOf_r2 : GoodIn lw_tbl wsX10_teamOf_r2 := (zgc zm_2007 (zgc zm_2008 (zgc zm_2009 (zgc zm_2010 (zgc zm_2011 (zgc zm_100 (zgc zm_2012 (zgc zm_2016 (zgc zm_409 (zgc zm_88 (zgc zm_410 (zgc zm_2017 (zgc zm_463 (zgc zm_464 (zgc zm_2013 (zgc zm_2014 (zgc zm_2015 (zgc zm_2018 (zgc zm_2019 (zgc zm_2020 (zgc zm_2021 (zgc zm_2022 (zgc zm_101 (zgc zm_2023 zgn))))))))))))))))))))))))
theorem zw_wsX10_teamOf_r3 : GoodIn lw_tbl wsX10_teamOf_r3 := (zgc zm_2024 (zgc zm_2025 (zgc zm_2026 (zgc zm_2027 (zgc zm_2028 (zgc zm_2029 (zgc zm_2030 (zgc zm_2031 (zgc zm_2032 (zgc zm_2033 (zgc zm_2034 (zgc zm_2035 (zgc zm_2036 (zgc zm_2037 (zgc zm_2038 (zgc zm_2039 (zgc zm_2041 (zgc zm_2042 (zgc zm_95 (zgc zm_2043 (zgc zm_2044 (zgc zm_2045 (zgc zm_2046 (zgc zm_2047 zgn))))))))))))))))))))))))
theorem zw_wsX10_teamOf_r4 : GoodIn lw_tbl wsX10_teamOf_r4 := (zgc zm_2048 (zgc zm_2049 (zgc zm_2050 (zgc zm_2052 (zgc zm_2054 (zgc zm_2056 (zgc zm_2057 (zgc zm_2058 (zgc zm_2059 (zgc zm_2060 (zgc zm_102 (zgc zm_2061 (zgc zm_2062 (zgc zm_2063 (zgc zm_2064 (zgc zm_2065 (zgc zm_2066 (zgc zm_2067 (zgc zm_2068 (zgc zm_2069 (zgc zm_1647 (zgc zm_1649 (zgc zm_46 (zgc zm_73 zgn))))))))))))))))))))))))
theorem zw_wsX10_teamOf_r5 : GoodIn lw_tbl wsX10_teamOf_r5 := (zgc zm_1650 (zgc zm_1403 (zgc zm_1406 (zgc zm_1408 (zgc zm_76 (zgc zm_1410 (zgc zm_1269 (zgc zm_1325 (zgc zm_1326 (zgc zm_1327 (zgc zm_1411 (zgc zm_1413 (zgc zm_42 (zgc zm_1414 (zgc zm_1281 (zgc zm_1518 (zgc zm_1521 (zgc zm_1523 (zgc zm_1525 (zgc zm_1526 (zgc zm_1527 (zgc zm_94 (zgc zm_1528 (zgc zm_1529 zgn))))))))))))))))))))))))
theorem zw_wsX10_teamOf_r6 : GoodIn lw_tbl wsX10_teamOf_r6 := (zgc zm_1530 (zgc zm_1531 (zgc zm_1532 (zgc zm_1533 (zgc zm_1534 (zgc zm_1535 (zgc zm_1266 zgn)))))))
theorem zw_wsX10_teamOf : GoodIn lw_tbl wsX10_teamOf := (zgc zm_2171 (goodIn_app (goodIn_app (goodIn_app (goodIn_app (goodIn_app (goodIn_app zw_wsX10_teamOf_r1 (goodIn_app zw_wsX10_teamOf_r2 (goodIn_app zw_wsX10_teamOf_r3 (goodIn_app zw_wsX10_teamOf_r4 (goodIn_app zw_wsX10_teamOf_r5 zw_wsX10_teamOf_r6))))) zw_wsX100) zw_wsX90) zw_wsJ00) zw_wsJx4a65c0) zx_0))
theorem zm_2168 : zgo (Cond.methodLink RL 294 yX10_teamOf) := ⟨List.mem_of_getElem? (i := 2168) (by decide +kernel), by decide +kernel⟩
theorem zm_2169 : zgo (Cond.instanceMethod yX10_teamOf) := ⟨List.mem_of_getElem? (i := 2169) (by decide +kernel), by decide +kernel⟩
theorem zm_2170 : zgo (Cond.selects RX10 yX10_teamOf yX10_teamOf) := ⟨List.mem_of_getElem? (i := 2170) (by decide +kernel), by decide +kernel⟩
theorem gL_law_X10_teamOf : GoodIn lw_tbl (wsV RL 294 RX10 yX10_teamOf wsX10_teamOf) := goodIn_app (a := [Cond.methodLink RL 294 yX10_teamOf, Cond.instanceMethod yX10_teamOf, Cond.selects RX10 yX10_teamOf yX10_teamOf, Cond.initialized RX10]) (zgc zm_2168 (zgc zm_2169 (zgc zm_2170 (zgc zm_73 zgn)))) zw_wsX10_teamOf
theorem zm_1097 : zgo (Cond.codeWith yL_raceOf cL_raceOf 4 (some .int) [(0, 9, 12, 23)]) := ⟨List.mem_of_getElem? (i := 1097) (by decide +kernel), by decide +kernel⟩
theorem zm_1098 : zgo (.methodLink RL 134 yX6_raceOf) := ⟨List.mem_of_getElem? (i := 1098) (by decide +kernel), by decide +kernel⟩
theorem zm_1099 : zgo (.instanceMethod yX6_raceOf) := ⟨List.mem_of_getElem? (i := 1099) (by decide +kernel), by decide +kernel⟩
theorem zm_1100 : zgo (.selects RX6 yX6_raceOf yX6_raceOf) := ⟨List.mem_of_getElem? (i := 1100) (by decide +kernel), by decide +kernel⟩
theorem zm_1101 : zgo (.code yX6_raceOf cX6_raceOf 2 (some .char)) := ⟨List.mem_of_getElem? (i := 1101) (by decide +kernel), by decide +kernel⟩
theorem zw_wsL_raceOf : GoodIn lw_tbl wsL_raceOf := (zgc zm_1097 (goodIn_app (goodIn_app (goodIn_app (goodIn_app (goodIn_app (zgc zm_656 (zgc zm_1098 (zgc zm_1099 (zgc zm_1100 (zgc zm_69 (zgc zm_1101 (zgc zm_298 (zgc zm_759 (zgc zm_158 (zgc zm_784 (zgc zm_786 (zgc zm_24 (zgc zm_787 (zgc zm_688 (zgc zm_91 (zgc zm_299 zgn)))))))))))))))) zw_wsX60) zw_wsX50) zw_wsX20) zx_0) zx_4))
theorem zm_1095 : zgo (Cond.methodLink RL 295 yL_raceOf) := ⟨List.mem_of_getElem? (i := 1095) (by decide +kernel), by decide +kernel⟩
theorem zm_1096 : zgo (Cond.static yL_raceOf) := ⟨List.mem_of_getElem? (i := 1096) (by decide +kernel), by decide +kernel⟩
theorem gL_law_L_raceOf : GoodIn lw_tbl (va_wsS RL 295 yL_raceOf wsL_raceOf) := goodIn_app (a := [Cond.methodLink RL 295 yL_raceOf, Cond.static yL_raceOf, Cond.initialized RL]) (zgc zm_1095 (zgc zm_1096 (zgc zm_68 zgn))) zw_wsL_raceOf
theorem zm_2176 : zgo (Cond.code yX10_raceOf cX10_raceOf 2 (some .char)) := ⟨List.mem_of_getElem? (i := 2176) (by decide +kernel), by decide +kernel⟩
theorem zw_wsX10_raceOf_r1 : GoodIn lw_tbl wsX10_raceOf_r1 := (zgc zm_1284 (zgc zm_1397 (zgc zm_1647 (zgc zm_1649 (zgc zm_46 (zgc zm_73 (zgc zm_1650 (zgc zm_1403 (zgc zm_1406 (zgc zm_1408 (zgc zm_76 (zgc zm_1410 (zgc zm_1269 (zgc zm_1325 (zgc zm_1326 (zgc zm_1327 (zgc zm_1411 (zgc zm_1413 (zgc zm_42 (zgc zm_1414 (zgc zm_1281 (zgc zm_1518 (zgc zm_1521 (zgc zm_1523 zgn))))))))))))))))))))))))
theorem zw_wsX10_raceOf_r2 : GoodIn lw_tbl wsX10_raceOf_r2 := (zgc zm_1525 (zgc zm_1526 (zgc zm_1527 (zgc zm_94 (zgc zm_1528 (zgc zm_1529 (zgc zm_1530 (zgc zm_95 (zgc zm_1531 (zgc zm_1532 (zgc zm_1533 (zgc zm_1534 (zgc zm_1535 (zgc zm_1266 zgn))))))))))))))
theorem zw_wsX10_raceOf : GoodIn lw_tbl wsX10_raceOf := (zgc zm_2176 (goodIn_app (goodIn_app (goodIn_app (goodIn_app zw_wsX10_raceOf_r1 zw_wsX10_raceOf_r2) zw_wsX100) zw_wsX90) zw_wsJx4a65c0))
theorem zm_2173 : zgo (Cond.methodLink RL 297 yX10_raceOf) := ⟨List.mem_of_getElem? (i := 2173) (by decide +kernel), by decide +kernel⟩
theorem zm_2174 : zgo (Cond.instanceMethod yX10_raceOf) := ⟨List.mem_of_getElem? (i := 2174) (by decide +kernel), by decide +kernel⟩
theorem zm_2175 : zgo (Cond.selects RX10 yX10_raceOf yX10_raceOf) := ⟨List.mem_of_getElem? (i := 2175) (by decide +kernel), by decide +kernel⟩
theorem gL_law_X10_raceOf : GoodIn lw_tbl (wsV RL 297 RX10 yX10_raceOf wsX10_raceOf) := goodIn_app (a := [Cond.methodLink RL 297 yX10_raceOf, Cond.instanceMethod yX10_raceOf, Cond.selects RX10 yX10_raceOf yX10_raceOf, Cond.initialized RX10]) (zgc zm_2173 (zgc zm_2174 (zgc zm_2175 (zgc zm_73 zgn)))) zw_wsX10_raceOf
theorem zm_1104 : zgo (Cond.codeWith yL_owed cL_owed 4 (some .int) [(0, 9, 12, 23)]) := ⟨List.mem_of_getElem? (i := 1104) (by decide +kernel), by decide +kernel⟩
theorem zm_1105 : zgo (Cond.methodLink RL 137 yX6_owed) := ⟨List.mem_of_getElem? (i := 1105) (by decide +kernel), by decide +kernel⟩
theorem zm_1106 : zgo (Cond.instanceMethod yX6_owed) := ⟨List.mem_of_getElem? (i := 1106) (by decide +kernel), by decide +kernel⟩
theorem zm_1107 : zgo (Cond.selects RX6 yX6_owed yX6_owed) := ⟨List.mem_of_getElem? (i := 1107) (by decide +kernel), by decide +kernel⟩
theorem zm_1108 : zgo (Cond.code yX6_owed cX6_owed 2 (some .int)) := ⟨List.mem_of_getElem? (i := 1108) (by decide +kernel), by decide +kernel⟩
theorem zm_1109 : zgo (Cond.methodLink RX6 354 yX6_owedOf) := ⟨List.mem_of_getElem? (i := 1109) (by decide +kernel), by decide +kernel⟩
theorem zm_1111 : zgo (Cond.instanceMethod yX6_owedOf) := ⟨List.mem_of_getElem? (i := 1111) (by decide +kernel), by decide +kernel⟩
theorem zm_33 : zgo (Cond.selects RX6 yX6_owedOf yX6_owedOf) := ⟨List.mem_of_getElem? (i := 33) (by decide +kernel), by decide +kernel⟩
theorem zm_1112 : zgo (Cond.code yX6_owedOf cX6_owedOf 4 (some .int)) := ⟨List.mem_of_getElem? (i := 1112) (by decide +kernel), by decide +kernel⟩
theorem zw_wsL_owed_r1 : GoodIn lw_tbl wsL_owed_r1 := (zgc zm_656 (zgc zm_1105 (zgc zm_1106 (zgc zm_1107 (zgc zm_69 (zgc zm_1108 (zgc zm_298 (zgc zm_759 (zgc zm_784 (zgc zm_786 (zgc zm_24 (zgc zm_787 (zgc zm_688 (zgc zm_91 (zgc zm_299 (zgc zm_1109 (zgc zm_1111 (zgc zm_33 (zgc zm_1112 (zgc zm_182 (zgc zm_164 (zgc zm_293 (zgc zm_927 (zgc zm_928 zgn))))))))))))))))))))))))
theorem zw_wsL_owed_r2 : GoodIn lw_tbl wsL_owed_r2 := (zgc zm_929 (zgc zm_180 (zgc zm_388 (zgc zm_390 (zgc zm_6 (zgc zm_391 (zgc zm_158 (zgc zm_485 (zgc zm_487 (zgc zm_16 (zgc zm_488 (zgc zm_160 (zgc zm_489 (zgc zm_491 (zgc zm_17 (zgc zm_492 (zgc zm_400 (zgc zm_402 (zgc zm_7 (zgc zm_403 (zgc zm_292 (zgc zm_641 (zgc zm_184 zgn)))))))))))))))))))))))
theorem zw_wsL_owed : GoodIn lw_tbl wsL_owed := (zgc zm_1104 (goodIn_app (goodIn_app (goodIn_app (goodIn_app (goodIn_app (goodIn_app (goodIn_app zw_wsL_owed_r1 zw_wsL_owed_r2) zw_wsX60) zw_wsX50) zw_wsX20) zw_wsX10) zx_0) zx_4))
theorem zm_1102 : zgo (Cond.methodLink RL 298 yL_owed) := ⟨List.mem_of_getElem? (i := 1102) (by decide +kernel), by decide +kernel⟩
theorem zm_1103 : zgo (Cond.static yL_owed) := ⟨List.mem_of_getElem? (i := 1103) (by decide +kernel), by decide +kernel⟩
theorem gL_law_L_owed : GoodIn lw_tbl (va_wsS RL 298 yL_owed wsL_owed) := goodIn_app (a := [Cond.methodLink RL 298 yL_owed, Cond.static yL_owed, Cond.initialized RL]) (zgc zm_1102 (zgc zm_1103 (zgc zm_68 zgn))) zw_wsL_owed
theorem zm_2180 : zgo (Cond.code yX10_owed cX10_owed 2 (some .int)) := ⟨List.mem_of_getElem? (i := 2180) (by decide +kernel), by decide +kernel⟩
theorem zw_wsX10_owed_r1 : GoodIn lw_tbl wsX10_owed_r1 := (zgc zm_1284 (zgc zm_1397 (zgc zm_1647 (zgc zm_1649 (zgc zm_46 (zgc zm_73 (zgc zm_1650 (zgc zm_1403 (zgc zm_1406 (zgc zm_1408 (zgc zm_76 (zgc zm_1410 (zgc zm_1269 (zgc zm_1325 (zgc zm_1326 (zgc zm_1327 (zgc zm_1411 (zgc zm_1413 (zgc zm_42 (zgc zm_1414 (zgc zm_1281 (zgc zm_1518 (zgc zm_1521 (zgc zm_1523 zgn))))))))))))))))))))))))
theorem zm_2181 : zgo (Cond.methodLink RX10 372 yX10_owedBy) := ⟨List.mem_of_getElem? (i := 2181) (by decide +kernel), by decide +kernel⟩
theorem zm_2183 : zgo (Cond.instanceMethod yX10_owedBy) := ⟨List.mem_of_getElem? (i := 2183) (by decide +kernel), by decide +kernel⟩
theorem zm_63 : zgo (Cond.selects RX10 yX10_owedBy yX10_owedBy) := ⟨List.mem_of_getElem? (i := 63) (by decide +kernel), by decide +kernel⟩
theorem zm_2184 : zgo (Cond.code yX10_owedBy cX10_owedBy 4 (some .int)) := ⟨List.mem_of_getElem? (i := 2184) (by decide +kernel), by decide +kernel⟩
theorem zw_wsX10_owed_r2 : GoodIn lw_tbl wsX10_owed_r2 := (zgc zm_1525 (zgc zm_1526 (zgc zm_1527 (zgc zm_94 (zgc zm_1528 (zgc zm_1529 (zgc zm_1530 (zgc zm_95 (zgc zm_1531 (zgc zm_1532 (zgc zm_1533 (zgc zm_1534 (zgc zm_1535 (zgc zm_1266 (zgc zm_2181 (zgc zm_2183 (zgc zm_63 (zgc zm_2184 (zgc zm_1282 (zgc zm_1415 (zgc zm_1398 (zgc zm_1399 (zgc zm_1400 (zgc zm_98 zgn))))))))))))))))))))))))
theorem zw_wsX10_owed_r3 : GoodIn lw_tbl wsX10_owed_r3 := (zgc zm_1401 (zgc zm_1564 (zgc zm_1853 (zgc zm_1855 (zgc zm_57 (zgc zm_1856 (zgc zm_1288 zgn)))))))
theorem zw_wsX10_owed : GoodIn lw_tbl wsX10_owed := (zgc zm_2180 (goodIn_app (goodIn_app (goodIn_app (goodIn_app (goodIn_app zw_wsX10_owed_r1 (goodIn_app zw_wsX10_owed_r2 zw_wsX10_owed_r3)) zw_wsX100) zw_wsJx4a65c0) zw_wsX90) zw_wsX80))
theorem zm_2177 : zgo (Cond.methodLink RL 300 yX10_owed) := ⟨List.mem_of_getElem? (i := 2177) (by decide +kernel), by decide +kernel⟩
theorem zm_2178 : zgo (Cond.instanceMethod yX10_owed) := ⟨List.mem_of_getElem? (i := 2178) (by decide +kernel), by decide +kernel⟩
theorem zm_2179 : zgo (Cond.selects RX10 yX10_owed yX10_owed) := ⟨List.mem_of_getElem? (i := 2179) (by decide +kernel), by decide +kernel⟩
theorem gL_law_X10_owed : GoodIn lw_tbl (wsV RL 300 RX10 yX10_owed wsX10_owed) := goodIn_app (a := [Cond.methodLink RL 300 yX10_owed, Cond.instanceMethod yX10_owed, Cond.selects RX10 yX10_owed yX10_owed, Cond.initialized RX10]) (zgc zm_2177 (zgc zm_2178 (zgc zm_2179 (zgc zm_73 zgn)))) zw_wsX10_owed
theorem zm_1115 : zgo (Cond.codeWith yL_standing cL_standing 4 (some .int) [(0, 9, 12, 23)]) := ⟨List.mem_of_getElem? (i := 1115) (by decide +kernel), by decide +kernel⟩
theorem zm_1116 : zgo (Cond.methodLink RL 140 yX6_standing) := ⟨List.mem_of_getElem? (i := 1116) (by decide +kernel), by decide +kernel⟩
theorem zm_1117 : zgo (Cond.instanceMethod yX6_standing) := ⟨List.mem_of_getElem? (i := 1117) (by decide +kernel), by decide +kernel⟩
theorem zm_1118 : zgo (Cond.selects RX6 yX6_standing yX6_standing) := ⟨List.mem_of_getElem? (i := 1118) (by decide +kernel), by decide +kernel⟩
theorem zm_1119 : zgo (Cond.code yX6_standing cX6_standing 3 (some .int)) := ⟨List.mem_of_getElem? (i := 1119) (by decide +kernel), by decide +kernel⟩
theorem zm_1120 : zgo (Cond.methodLink RX6 357 yX6_teamAt) := ⟨List.mem_of_getElem? (i := 1120) (by decide +kernel), by decide +kernel⟩
theorem zm_1122 : zgo (Cond.instanceMethod yX6_teamAt) := ⟨List.mem_of_getElem? (i := 1122) (by decide +kernel), by decide +kernel⟩
theorem zm_34 : zgo (Cond.selects RX6 yX6_teamAt yX6_teamAt) := ⟨List.mem_of_getElem? (i := 34) (by decide +kernel), by decide +kernel⟩
theorem zm_1123 : zgo (Cond.code yX6_teamAt cX6_teamAt 3 (some .int)) := ⟨List.mem_of_getElem? (i := 1123) (by decide +kernel), by decide +kernel⟩
theorem zm_1124 : zgo (Cond.methodLink RX6 543 yX6_hasPlace) := ⟨List.mem_of_getElem? (i := 1124) (by decide +kernel), by decide +kernel⟩
theorem zm_1125 : zgo (Cond.static yX6_hasPlace) := ⟨List.mem_of_getElem? (i := 1125) (by decide +kernel), by decide +kernel⟩
theorem zm_1126 : zgo (Cond.code yX6_hasPlace cX6_hasPlace 1 (some .boolean)) := ⟨List.mem_of_getElem? (i := 1126) (by decide +kernel), by decide +kernel⟩
theorem zm_1127 : zgo (Cond.methodLink RX6 549 yX6_rankOf) := ⟨List.mem_of_getElem? (i := 1127) (by decide +kernel), by decide +kernel⟩
theorem zm_1129 : zgo (Cond.instanceMethod yX6_rankOf) := ⟨List.mem_of_getElem? (i := 1129) (by decide +kernel), by decide +kernel⟩
theorem zm_35 : zgo (Cond.selects RX6 yX6_rankOf yX6_rankOf) := ⟨List.mem_of_getElem? (i := 35) (by decide +kernel), by decide +kernel⟩
theorem zm_1130 : zgo (Cond.code yX6_rankOf cX6_rankOf 4 (some .int)) := ⟨List.mem_of_getElem? (i := 1130) (by decide +kernel), by decide +kernel⟩
theorem zm_1131 : zgo (Cond.methodLink RX6 546 yX6_isAhead) := ⟨List.mem_of_getElem? (i := 1131) (by decide +kernel), by decide +kernel⟩
theorem zw_wsL_standing_r1 : GoodIn lw_tbl wsL_standing_r1 := (zgc zm_656 (zgc zm_1116 (zgc zm_1117 (zgc zm_1118 (zgc zm_69 (zgc zm_1119 (zgc zm_688 (zgc zm_91 (zgc zm_1120 (zgc zm_1122 (zgc zm_34 (zgc zm_1123 (zgc zm_299 (zgc zm_298 (zgc zm_759 (zgc zm_1124 (zgc zm_1125 (zgc zm_1126 (zgc zm_158 (zgc zm_1127 (zgc zm_1129 (zgc zm_35 (zgc zm_1130 (zgc zm_1131 zgn))))))))))))))))))))))))
theorem zm_1133 : zgo (Cond.instanceMethod yX6_isAhead) := ⟨List.mem_of_getElem? (i := 1133) (by decide +kernel), by decide +kernel⟩
theorem zm_36 : zgo (Cond.selects RX6 yX6_isAhead yX6_isAhead) := ⟨List.mem_of_getElem? (i := 36) (by decide +kernel), by decide +kernel⟩
theorem zm_1134 : zgo (Cond.code yX6_isAhead cX6_isAhead 6 (some .boolean)) := ⟨List.mem_of_getElem? (i := 1134) (by decide +kernel), by decide +kernel⟩
theorem zw_wsL_standing_r2 : GoodIn lw_tbl wsL_standing_r2 := (zgc zm_1133 (zgc zm_36 (zgc zm_1134 (zgc zm_164 (zgc zm_162 (zgc zm_1109 (zgc zm_1111 (zgc zm_33 (zgc zm_1112 (zgc zm_182 (zgc zm_293 (zgc zm_927 (zgc zm_928 (zgc zm_929 (zgc zm_180 (zgc zm_388 (zgc zm_390 (zgc zm_6 (zgc zm_391 (zgc zm_485 (zgc zm_487 (zgc zm_16 (zgc zm_488 (zgc zm_160 zgn))))))))))))))))))))))))
theorem zw_wsL_standing_r3 : GoodIn lw_tbl wsL_standing_r3 := (zgc zm_489 (zgc zm_491 (zgc zm_17 (zgc zm_492 (zgc zm_400 (zgc zm_402 (zgc zm_7 (zgc zm_403 (zgc zm_292 (zgc zm_641 (zgc zm_184 zgn)))))))))))
theorem zw_wsL_standing : GoodIn lw_tbl wsL_standing := (zgc zm_1115 (goodIn_app (goodIn_app (goodIn_app (goodIn_app (goodIn_app (goodIn_app (goodIn_app zw_wsL_standing_r1 (goodIn_app zw_wsL_standing_r2 zw_wsL_standing_r3)) zw_wsX60) zw_wsX50) zw_wsX20) zw_wsX10) zx_0) zx_4))
theorem zm_1113 : zgo (Cond.methodLink RL 301 yL_standing) := ⟨List.mem_of_getElem? (i := 1113) (by decide +kernel), by decide +kernel⟩
theorem zm_1114 : zgo (Cond.static yL_standing) := ⟨List.mem_of_getElem? (i := 1114) (by decide +kernel), by decide +kernel⟩
theorem gL_law_L_standing : GoodIn lw_tbl (va_wsS RL 301 yL_standing wsL_standing) := goodIn_app (a := [Cond.methodLink RL 301 yL_standing, Cond.static yL_standing, Cond.initialized RL]) (zgc zm_1113 (zgc zm_1114 (zgc zm_68 zgn))) zw_wsL_standing
theorem zm_2188 : zgo (Cond.code yX10_standing cX10_standing 3 (some .int)) := ⟨List.mem_of_getElem? (i := 2188) (by decide +kernel), by decide +kernel⟩
theorem zm_2189 : zgo (Cond.methodLink RX10 382 yX10_standings) := ⟨List.mem_of_getElem? (i := 2189) (by decide +kernel), by decide +kernel⟩
theorem zm_2191 : zgo (Cond.instanceMethod yX10_standings) := ⟨List.mem_of_getElem? (i := 2191) (by decide +kernel), by decide +kernel⟩
theorem zm_64 : zgo (Cond.selects RX10 yX10_standings yX10_standings) := ⟨List.mem_of_getElem? (i := 64) (by decide +kernel), by decide +kernel⟩
theorem zm_2192 : zgo (Cond.code yX10_standings cX10_standings 5 (some (.object "java/util/List"))) := ⟨List.mem_of_getElem? (i := 2192) (by decide +kernel), by decide +kernel⟩
theorem zw_wsX10_standing_r1 : GoodIn lw_tbl wsX10_standing_r1 := (zgc zm_1397 (zgc zm_2189 (zgc zm_2191 (zgc zm_64 (zgc zm_73 (zgc zm_2192 (zgc zm_1252 (zgc zm_1253 (zgc zm_76 (zgc zm_1284 (zgc zm_1254 (zgc zm_1255 (zgc zm_1256 (zgc zm_1264 (zgc zm_1266 (zgc zm_1257 (zgc zm_1258 (zgc zm_75 (zgc zm_1259 (zgc zm_1270 (zgc zm_1260 (zgc zm_1261 (zgc zm_74 (zgc zm_1262 zgn))))))))))))))))))))))))
theorem zw_wsX10_standing_r2 : GoodIn lw_tbl wsX10_standing_r2 := (zgc zm_1263 (zgc zm_114 (zgc zm_115 (zgc zm_1335 (zgc zm_1339 (zgc zm_1341 (zgc zm_1343 (zgc zm_1344 (zgc zm_1345 (zgc zm_84 (zgc zm_1346 (zgc zm_1347 (zgc zm_1348 (zgc zm_1353 (zgc zm_1349 (zgc zm_1351 (zgc zm_1271 (zgc zm_1272 (zgc zm_1352 (zgc zm_1364 (zgc zm_1368 (zgc zm_1370 (zgc zm_1372 (zgc zm_1350 zgn))))))))))))))))))))))))
theorem zw_wsX10_standing_r3 : GoodIn lw_tbl wsX10_standing_r3 := (zgc zm_1374 (zgc zm_1377 (zgc zm_1379 (zgc zm_1381 (zgc zm_1267 (zgc zm_1382 (zgc zm_1383 (zgc zm_1384 (zgc zm_1385 (zgc zm_1398 (zgc zm_1399 (zgc zm_1400 (zgc zm_98 (zgc zm_1401 (zgc zm_1564 (zgc zm_1403 (zgc zm_1406 (zgc zm_1408 (zgc zm_1410 (zgc zm_1269 (zgc zm_1518 (zgc zm_1521 (zgc zm_1523 (zgc zm_1525 zgn))))))))))))))))))))))))
theorem zm_2193 : zgo (Cond.methodLink RX10 375 yX10_isAhead) := ⟨List.mem_of_getElem? (i := 2193) (by decide +kernel), by decide +kernel⟩
theorem zm_2195 : zgo (Cond.instanceMethod yX10_isAhead) := ⟨List.mem_of_getElem? (i := 2195) (by decide +kernel), by decide +kernel⟩
theorem zm_65 : zgo (Cond.selects RX10 yX10_isAhead yX10_isAhead) := ⟨List.mem_of_getElem? (i := 65) (by decide +kernel), by decide +kernel⟩
theorem zm_2196 : zgo (Cond.code yX10_isAhead cX10_isAhead 5 (some .boolean)) := ⟨List.mem_of_getElem? (i := 2196) (by decide +kernel), by decide +kernel⟩
theorem zw_wsX10_standing_r4 : GoodIn lw_tbl wsX10_standing_r4 := (zgc zm_1526 (zgc zm_1527 (zgc zm_94 (zgc zm_1528 (zgc zm_1529 (zgc zm_1530 (zgc zm_95 (zgc zm_1531 (zgc zm_1532 (zgc zm_1533 (zgc zm_1534 (zgc zm_1535 (zgc zm_2193 (zgc zm_2195 (zgc zm_65 (zgc zm_2196 (zgc zm_2181 (zgc zm_2183 (zgc zm_63 (zgc zm_2184 (zgc zm_1282 (zgc zm_1415 (zgc zm_1853 (zgc zm_1855 zgn))))))))))))))))))))))))
theorem zm_2198 : zgo (Cond.methodLink RX10 379 ⟨"java/util/List", "add", "(ILjava/lang/Object;)V"⟩) := ⟨List.mem_of_getElem? (i := 2198) (by decide +kernel), by decide +kernel⟩
theorem zm_2201 : zgo (Cond.selects RJx4a65c ⟨"java/util/List", "add", "(ILjava/lang/Object;)V"⟩ yJx4a65c_add_7a177) := ⟨List.mem_of_getElem? (i := 2201) (by decide +kernel), by decide +kernel⟩
theorem zm_2203 : zgo (Cond.instanceMethod yJx4a65c_add_7a177) := ⟨List.mem_of_getElem? (i := 2203) (by decide +kernel), by decide +kernel⟩
theorem zm_2205 : zgo (Cond.code yJx4a65c_add_7a177 cJx4a65c_add_7a177 5 none) := ⟨List.mem_of_getElem? (i := 2205) (by decide +kernel), by decide +kernel⟩
theorem zm_2206 : zgo (Cond.methodLink RJx4a65c 135 yJx4a65c_rangeCheckForAdd_d00df) := ⟨List.mem_of_getElem? (i := 2206) (by decide +kernel), by decide +kernel⟩
theorem zm_2208 : zgo (Cond.instanceMethod yJx4a65c_rangeCheckForAdd_d00df) := ⟨List.mem_of_getElem? (i := 2208) (by decide +kernel), by decide +kernel⟩
theorem zm_66 : zgo (Cond.selects RJx4a65c yJx4a65c_rangeCheckForAdd_d00df yJx4a65c_rangeCheckForAdd_d00df) := ⟨List.mem_of_getElem? (i := 66) (by decide +kernel), by decide +kernel⟩
theorem zm_2209 : zgo (Cond.code yJx4a65c_rangeCheckForAdd_d00df cJx4a65c_rangeCheckForAdd_d00df 2 none) := ⟨List.mem_of_getElem? (i := 2209) (by decide +kernel), by decide +kernel⟩
theorem zw_wsX10_standing_r5 : GoodIn lw_tbl wsX10_standing_r5 := (zgc zm_57 (zgc zm_1856 (zgc zm_1288 (zgc zm_2198 (zgc zm_2201 (zgc zm_2203 (zgc zm_2205 (zgc zm_1273 (zgc zm_1977 (zgc zm_1508 (zgc zm_1507 (zgc zm_90 (zgc zm_2206 (zgc zm_2208 (zgc zm_66 (zgc zm_2209 (zgc zm_1454 (zgc zm_1456 (zgc zm_44 (zgc zm_1457 (zgc zm_1458 (zgc zm_1460 (zgc zm_45 (zgc zm_1461 zgn))))))))))))))))))))))))
theorem zw_wsX10_standing_r6 : GoodIn lw_tbl wsX10_standing_r6 := (zgc zm_1509 (zgc zm_409 (zgc zm_88 (zgc zm_410 (zgc zm_1510 (zgc zm_1462 (zgc zm_1463 (zgc zm_87 (zgc zm_1464 (zgc zm_1465 (zgc zm_1466 (zgc zm_1467 (zgc zm_1468 (zgc zm_1469 (zgc zm_1470 (zgc zm_1471 (zgc zm_89 (zgc zm_1472 (zgc zm_1473 (zgc zm_2495 (zgc zm_1474 (zgc zm_1498 (zgc zm_1499 (zgc zm_1500 zgn))))))))))))))))))))))))
theorem zw_wsX10_standing_r7 : GoodIn lw_tbl wsX10_standing_r7 := (zgc zm_1501 (zgc zm_1502 (zgc zm_1504 (zgc zm_1505 (zgc zm_463 (zgc zm_464 (zgc zm_1506 (zgc zm_1325 (zgc zm_1326 (zgc zm_1327 (zgc zm_1411 (zgc zm_1413 (zgc zm_42 (zgc zm_1414 (zgc zm_1281 zgn)))))))))))))))
theorem zw_wsX10_standing : GoodIn lw_tbl wsX10_standing := (zgc zm_2188 (goodIn_app (goodIn_app (goodIn_app (goodIn_app (goodIn_app (goodIn_app zw_wsX10_standing_r1 (goodIn_app zw_wsX10_standing_r2 (goodIn_app zw_wsX10_standing_r3 (goodIn_app zw_wsX10_standing_r4 (goodIn_app zw_wsX10_standing_r5 (goodIn_app zw_wsX10_standing_r6 zw_wsX10_standing_r7)))))) zw_wsX90) zw_wsJx4a65c0) zw_wsX100) zw_wsJx354110) zw_wsX80))
theorem zm_2185 : zgo (Cond.methodLink RL 303 yX10_standing) := ⟨List.mem_of_getElem? (i := 2185) (by decide +kernel), by decide +kernel⟩
theorem zm_2186 : zgo (Cond.instanceMethod yX10_standing) := ⟨List.mem_of_getElem? (i := 2186) (by decide +kernel), by decide +kernel⟩
theorem zm_2187 : zgo (Cond.selects RX10 yX10_standing yX10_standing) := ⟨List.mem_of_getElem? (i := 2187) (by decide +kernel), by decide +kernel⟩
theorem gL_law_X10_standing : GoodIn lw_tbl (wsV RL 303 RX10 yX10_standing wsX10_standing) := goodIn_app (a := [Cond.methodLink RL 303 yX10_standing, Cond.instanceMethod yX10_standing, Cond.selects RX10 yX10_standing yX10_standing, Cond.initialized RX10]) (zgc zm_2185 (zgc zm_2186 (zgc zm_2187 (zgc zm_73 zgn)))) zw_wsX10_standing
theorem zm_1138 : zgo (Cond.codeWith yL_estimate cL_estimate 4 (some .int) [(0, 9, 12, 23), (0, 9, 15, 15)]) := ⟨List.mem_of_getElem? (i := 1138) (by decide +kernel), by decide +kernel⟩
theorem zm_1139 : zgo (Cond.methodLink RL 143 yX6_estimate) := ⟨List.mem_of_getElem? (i := 1139) (by decide +kernel), by decide +kernel⟩
theorem zm_1140 : zgo (Cond.instanceMethod yX6_estimate) := ⟨List.mem_of_getElem? (i := 1140) (by decide +kernel), by decide +kernel⟩
theorem zm_1141 : zgo (Cond.selects RX6 yX6_estimate yX6_estimate) := ⟨List.mem_of_getElem? (i := 1141) (by decide +kernel), by decide +kernel⟩
theorem zm_1142 : zgo (Cond.code yX6_estimate cX6_estimate 3 (some .int)) := ⟨List.mem_of_getElem? (i := 1142) (by decide +kernel), by decide +kernel⟩
theorem zw_wsL_estimate_r1 : GoodIn lw_tbl wsL_estimate_r1 := (zgc zm_656 (zgc zm_1139 (zgc zm_1140 (zgc zm_1141 (zgc zm_69 (zgc zm_1142 (zgc zm_298 (zgc zm_759 (zgc zm_784 (zgc zm_786 (zgc zm_24 (zgc zm_787 (zgc zm_688 (zgc zm_91 (zgc zm_299 (zgc zm_388 (zgc zm_390 (zgc zm_6 (zgc zm_391 (zgc zm_158 (zgc zm_164 (zgc zm_293 (zgc zm_590 (zgc zm_591 zgn))))))))))))))))))))))))
theorem zw_wsL_estimate_r2 : GoodIn lw_tbl wsL_estimate_r2 := (zgc zm_592 (zgc zm_593 (zgc zm_81 (zgc zm_411 (zgc zm_413 (zgc zm_9 (zgc zm_414 (zgc zm_292 (zgc zm_162 (zgc zm_636 (zgc zm_638 (zgc zm_408 (zgc zm_409 (zgc zm_88 (zgc zm_410 (zgc zm_634 (zgc zm_170 (zgc zm_168 (zgc zm_404 (zgc zm_406 (zgc zm_8 (zgc zm_407 (zgc zm_295 (zgc zm_294 zgn))))))))))))))))))))))))
theorem zw_wsL_estimate_r3 : GoodIn lw_tbl wsL_estimate_r3 := (zgc zm_714 (zgc zm_716 (zgc zm_718 (zgc zm_720 (zgc zm_415 (zgc zm_416 (zgc zm_417 (zgc zm_71 (zgc zm_418 (zgc zm_165 (zgc zm_419 (zgc zm_420 (zgc zm_421 (zgc zm_422 (zgc zm_189 (zgc zm_187 (zgc zm_423 (zgc zm_424 (zgc zm_425 (zgc zm_72 (zgc zm_426 (zgc zm_235 (zgc zm_249 (zgc zm_252 zgn))))))))))))))))))))))))
theorem zw_wsL_estimate_r4 : GoodIn lw_tbl wsL_estimate_r4 := (zgc zm_246 (zgc zm_427 (zgc zm_428 (zgc zm_429 (zgc zm_430 (zgc zm_238 (zgc zm_431 zgn)))))))
theorem zw_wsL_estimate : GoodIn lw_tbl wsL_estimate := (zgc zm_1138 (goodIn_app (goodIn_app (goodIn_app (goodIn_app (goodIn_app (goodIn_app (goodIn_app (goodIn_app (goodIn_app (goodIn_app (goodIn_app zw_wsL_estimate_r1 (goodIn_app zw_wsL_estimate_r2 (goodIn_app zw_wsL_estimate_r3 zw_wsL_estimate_r4))) zw_wsX60) zw_wsX50) zw_wsX20) zw_wsX10) zw_wsX40) zw_wsX00) zx_0) zx_4) zx_2) zx_5))
theorem zm_1136 : zgo (Cond.methodLink RL 304 yL_estimate) := ⟨List.mem_of_getElem? (i := 1136) (by decide +kernel), by decide +kernel⟩
theorem zm_1137 : zgo (Cond.static yL_estimate) := ⟨List.mem_of_getElem? (i := 1137) (by decide +kernel), by decide +kernel⟩
theorem gL_law_L_estimate : GoodIn lw_tbl (va_wsS RL 304 yL_estimate wsL_estimate) := goodIn_app (a := [Cond.methodLink RL 304 yL_estimate, Cond.static yL_estimate, Cond.initialized RL]) (zgc zm_1136 (zgc zm_1137 (zgc zm_68 zgn))) zw_wsL_estimate
theorem zm_2411 : zgo (Cond.code yX10_estimate cX10_estimate 2 (some .int)) := ⟨List.mem_of_getElem? (i := 2411) (by decide +kernel), by decide +kernel⟩
theorem zw_wsX10_estimate_r1 : GoodIn lw_tbl wsX10_estimate_r1 := (zgc zm_1284 (zgc zm_1397 (zgc zm_1899 (zgc zm_1901 (zgc zm_59 (zgc zm_73 (zgc zm_1902 (zgc zm_1647 (zgc zm_1649 (zgc zm_46 (zgc zm_1650 (zgc zm_1403 (zgc zm_1406 (zgc zm_1408 (zgc zm_76 (zgc zm_1410 (zgc zm_1269 (zgc zm_1325 (zgc zm_1326 (zgc zm_1327 (zgc zm_1518 (zgc zm_1521 (zgc zm_1523 (zgc zm_1525 zgn))))))))))))))))))))))))
theorem zw_wsX10_estimate_r2 : GoodIn lw_tbl wsX10_estimate_r2 := (zgc zm_1526 (zgc zm_1527 (zgc zm_94 (zgc zm_1528 (zgc zm_1529 (zgc zm_1530 (zgc zm_95 (zgc zm_1531 (zgc zm_1532 (zgc zm_1533 (zgc zm_1534 (zgc zm_1535 (zgc zm_1266 (zgc zm_1398 (zgc zm_1399 (zgc zm_1400 (zgc zm_98 (zgc zm_1401 (zgc zm_1564 (zgc zm_1411 (zgc zm_1413 (zgc zm_42 (zgc zm_1414 (zgc zm_1281 zgn))))))))))))))))))))))))
theorem zw_wsX10_estimate_r3 : GoodIn lw_tbl wsX10_estimate_r3 := (zgc zm_1806 (zgc zm_1808 (zgc zm_53 (zgc zm_1809 (zgc zm_1282 (zgc zm_1415 (zgc zm_1651 (zgc zm_1801 (zgc zm_409 (zgc zm_88 (zgc zm_410 (zgc zm_1796 (zgc zm_1798 (zgc zm_51 (zgc zm_1799 (zgc zm_1283 (zgc zm_1800 (zgc zm_1335 (zgc zm_1339 (zgc zm_1341 (zgc zm_1343 (zgc zm_1344 (zgc zm_1345 (zgc zm_84 zgn))))))))))))))))))))))))
theorem zw_wsX10_estimate_r4 : GoodIn lw_tbl wsX10_estimate_r4 := (zgc zm_1346 (zgc zm_1347 (zgc zm_1348 (zgc zm_1353 (zgc zm_1349 (zgc zm_114 (zgc zm_115 (zgc zm_1351 (zgc zm_1271 (zgc zm_1272 (zgc zm_1352 (zgc zm_1364 (zgc zm_1368 (zgc zm_1370 (zgc zm_1372 (zgc zm_1350 (zgc zm_1374 (zgc zm_1377 (zgc zm_1379 (zgc zm_1381 (zgc zm_1267 (zgc zm_1382 (zgc zm_1383 (zgc zm_1384 zgn))))))))))))))))))))))))
theorem zw_wsX10_estimate_r5 : GoodIn lw_tbl wsX10_estimate_r5 := (zgc zm_1385 (zgc zm_1810 (zgc zm_1811 (zgc zm_1812 (zgc zm_99 (zgc zm_1813 (zgc zm_1670 (zgc zm_1676 (zgc zm_1678 (zgc zm_1674 (zgc zm_1814 (zgc zm_1816 (zgc zm_54 (zgc zm_1817 (zgc zm_1818 (zgc zm_1819 (zgc zm_1820 (zgc zm_1821 (zgc zm_1558 (zgc zm_1791 (zgc zm_1826 (zgc zm_1823 (zgc zm_1825 zgn)))))))))))))))))))))))
theorem zw_wsX10_estimate : GoodIn lw_tbl wsX10_estimate := (zgc zm_2411 (goodIn_app (goodIn_app (goodIn_app (goodIn_app (goodIn_app (goodIn_app (goodIn_app (goodIn_app (goodIn_app zw_wsX10_estimate_r1 (goodIn_app zw_wsX10_estimate_r2 (goodIn_app zw_wsX10_estimate_r3 (goodIn_app zw_wsX10_estimate_r4 zw_wsX10_estimate_r5)))) zw_wsX100) zw_wsJx4a65c0) zw_wsX90) zw_wsX80) zw_wsJx354110) zw_wsX70) zx_5) zx_0))
theorem zm_2408 : zgo (Cond.methodLink RL 306 yX10_estimate) := ⟨List.mem_of_getElem? (i := 2408) (by decide +kernel), by decide +kernel⟩
theorem zm_2409 : zgo (Cond.instanceMethod yX10_estimate) := ⟨List.mem_of_getElem? (i := 2409) (by decide +kernel), by decide +kernel⟩
theorem zm_2410 : zgo (Cond.selects RX10 yX10_estimate yX10_estimate) := ⟨List.mem_of_getElem? (i := 2410) (by decide +kernel), by decide +kernel⟩
theorem gL_law_X10_estimate : GoodIn lw_tbl (wsV RL 306 RX10 yX10_estimate wsX10_estimate) := goodIn_app (a := [Cond.methodLink RL 306 yX10_estimate, Cond.instanceMethod yX10_estimate, Cond.selects RX10 yX10_estimate yX10_estimate, Cond.initialized RX10]) (zgc zm_2408 (zgc zm_2409 (zgc zm_2410 (zgc zm_73 zgn)))) zw_wsX10_estimate
theorem zm_1145 : zgo (Cond.codeWith yL_purse cL_purse 4 (some .int) [(0, 8, 11, 13)]) := ⟨List.mem_of_getElem? (i := 1145) (by decide +kernel), by decide +kernel⟩
theorem zm_1146 : zgo (.methodLink RL 146 yX6_purse) := ⟨List.mem_of_getElem? (i := 1146) (by decide +kernel), by decide +kernel⟩
theorem zm_1147 : zgo (.instanceMethod yX6_purse) := ⟨List.mem_of_getElem? (i := 1147) (by decide +kernel), by decide +kernel⟩
theorem zm_1148 : zgo (.selects RX6 yX6_purse yX6_purse) := ⟨List.mem_of_getElem? (i := 1148) (by decide +kernel), by decide +kernel⟩
theorem zm_1149 : zgo (.code yX6_purse cX6_purse 2 (some .long)) := ⟨List.mem_of_getElem? (i := 1149) (by decide +kernel), by decide +kernel⟩
theorem zm_1150 : zgo (.constant RX6 369 (99999)) := ⟨List.mem_of_getElem? (i := 1150) (by decide +kernel), by decide +kernel⟩
theorem zm_300 : zgo (.fieldLink RX6 370 "Gangline" "purse" "J") := ⟨List.mem_of_getElem? (i := 300) (by decide +kernel), by decide +kernel⟩
theorem zw_wsL_purse : GoodIn lw_tbl wsL_purse := (zgc zm_1145 (goodIn_app (goodIn_app (goodIn_app (zgc zm_504 (zgc zm_1146 (zgc zm_1147 (zgc zm_1148 (zgc zm_69 (zgc zm_1149 (zgc zm_1150 (zgc zm_300 (zgc zm_511 (zgc zm_512 (zgc zm_513 (zgc zm_514 (zgc zm_80 zgn))))))))))))) zw_wsX60) zx_0) zx_1))
theorem zm_1143 : zgo (Cond.methodLink RL 307 yL_purse) := ⟨List.mem_of_getElem? (i := 1143) (by decide +kernel), by decide +kernel⟩
theorem zm_1144 : zgo (Cond.static yL_purse) := ⟨List.mem_of_getElem? (i := 1144) (by decide +kernel), by decide +kernel⟩
theorem gL_law_L_purse : GoodIn lw_tbl (va_wsS RL 307 yL_purse wsL_purse) := goodIn_app (a := [Cond.methodLink RL 307 yL_purse, Cond.static yL_purse, Cond.initialized RL]) (zgc zm_1143 (zgc zm_1144 (zgc zm_68 zgn))) zw_wsL_purse
theorem zm_2415 : zgo (Cond.code yX10_purse cX10_purse 2 (some .long)) := ⟨List.mem_of_getElem? (i := 2415) (by decide +kernel), by decide +kernel⟩
theorem zm_2416 : zgo (.constantLong RX10 389 (99999)) := ⟨List.mem_of_getElem? (i := 2416) (by decide +kernel), by decide +kernel⟩
theorem zm_1287 : zgo (.fieldLink RX10 391 "GanglineModel" "purse" "J") := ⟨List.mem_of_getElem? (i := 1287) (by decide +kernel), by decide +kernel⟩
theorem zw_wsX10_purse : GoodIn lw_tbl wsX10_purse := (zgc zm_2415 (goodIn_app (zgc zm_2416 (zgc zm_1287 (zgc zm_1325 (zgc zm_1326 (zgc zm_73 (zgc zm_1327 (zgc zm_1411 (zgc zm_1413 (zgc zm_42 (zgc zm_1414 (zgc zm_1281 zgn))))))))))) zw_wsX100))
theorem zm_2412 : zgo (Cond.methodLink RL 309 yX10_purse) := ⟨List.mem_of_getElem? (i := 2412) (by decide +kernel), by decide +kernel⟩
theorem zm_2413 : zgo (Cond.instanceMethod yX10_purse) := ⟨List.mem_of_getElem? (i := 2413) (by decide +kernel), by decide +kernel⟩
theorem zm_2414 : zgo (Cond.selects RX10 yX10_purse yX10_purse) := ⟨List.mem_of_getElem? (i := 2414) (by decide +kernel), by decide +kernel⟩
theorem gL_law_X10_purse : GoodIn lw_tbl (wsV RL 309 RX10 yX10_purse wsX10_purse) := goodIn_app (a := [Cond.methodLink RL 309 yX10_purse, Cond.instanceMethod yX10_purse, Cond.selects RX10 yX10_purse yX10_purse, Cond.initialized RX10]) (zgc zm_2412 (zgc zm_2413 (zgc zm_2414 (zgc zm_73 zgn)))) zw_wsX10_purse
theorem zm_1153 : zgo (Cond.codeWith yL_endYear cL_endYear 3 (some .int) [(0, 8, 11, 15)]) := ⟨List.mem_of_getElem? (i := 1153) (by decide +kernel), by decide +kernel⟩
theorem zm_505 : zgo (Cond.classLink RL 15 "java/lang/UnsupportedOperationException") := ⟨List.mem_of_getElem? (i := 505) (by decide +kernel), by decide +kernel⟩
theorem zm_1154 : zgo (Cond.methodLink RL 150 yX6_endYear) := ⟨List.mem_of_getElem? (i := 1154) (by decide +kernel), by decide +kernel⟩
theorem zm_1155 : zgo (Cond.instanceMethod yX6_endYear) := ⟨List.mem_of_getElem? (i := 1155) (by decide +kernel), by decide +kernel⟩
theorem zm_1156 : zgo (Cond.selects RX6 yX6_endYear yX6_endYear) := ⟨List.mem_of_getElem? (i := 1156) (by decide +kernel), by decide +kernel⟩
theorem zm_1157 : zgo (Cond.code yX6_endYear cX6_endYear 2 (some .int)) := ⟨List.mem_of_getElem? (i := 1157) (by decide +kernel), by decide +kernel⟩
theorem zm_301 : zgo (Cond.fieldLink RX6 386 "Gangline" "year" "I") := ⟨List.mem_of_getElem? (i := 301) (by decide +kernel), by decide +kernel⟩
theorem zw_wsL_endYear_r1 : GoodIn lw_tbl wsL_endYear_r1 := (zgc zm_505 (zgc zm_1154 (zgc zm_1155 (zgc zm_1156 (zgc zm_69 (zgc zm_1157 (zgc zm_299 (zgc zm_298 (zgc zm_763 (zgc zm_759 (zgc zm_761 (zgc zm_137 (zgc zm_297 (zgc zm_296 (zgc zm_295 (zgc zm_302 (zgc zm_301 (zgc zm_586 (zgc zm_588 (zgc zm_21 (zgc zm_589 (zgc zm_158 (zgc zm_590 (zgc zm_591 zgn))))))))))))))))))))))))
theorem zm_1158 : zgo (Cond.methodLink RX6 374 yX6_shareOut) := ⟨List.mem_of_getElem? (i := 1158) (by decide +kernel), by decide +kernel⟩
theorem zm_1160 : zgo (Cond.instanceMethod yX6_shareOut) := ⟨List.mem_of_getElem? (i := 1160) (by decide +kernel), by decide +kernel⟩
theorem zm_37 : zgo (Cond.selects RX6 yX6_shareOut yX6_shareOut) := ⟨List.mem_of_getElem? (i := 37) (by decide +kernel), by decide +kernel⟩
theorem zm_1161 : zgo (Cond.code yX6_shareOut cX6_shareOut 3 none) := ⟨List.mem_of_getElem? (i := 1161) (by decide +kernel), by decide +kernel⟩
theorem zm_1162 : zgo (Cond.constantLong RX6 552 (2)) := ⟨List.mem_of_getElem? (i := 1162) (by decide +kernel), by decide +kernel⟩
theorem zm_1167 : zgo (Cond.constantLong RX6 558 (3)) := ⟨List.mem_of_getElem? (i := 1167) (by decide +kernel), by decide +kernel⟩
theorem zm_1168 : zgo (Cond.constantLong RX6 560 (10)) := ⟨List.mem_of_getElem? (i := 1168) (by decide +kernel), by decide +kernel⟩
theorem zm_1163 : zgo (Cond.methodLink RX6 554 yX6_payPlace) := ⟨List.mem_of_getElem? (i := 1163) (by decide +kernel), by decide +kernel⟩
theorem zm_1165 : zgo (Cond.instanceMethod yX6_payPlace) := ⟨List.mem_of_getElem? (i := 1165) (by decide +kernel), by decide +kernel⟩
theorem zm_38 : zgo (Cond.selects RX6 yX6_payPlace yX6_payPlace) := ⟨List.mem_of_getElem? (i := 38) (by decide +kernel), by decide +kernel⟩
theorem zm_1166 : zgo (Cond.code yX6_payPlace cX6_payPlace 5 none) := ⟨List.mem_of_getElem? (i := 1166) (by decide +kernel), by decide +kernel⟩
theorem zw_wsL_endYear_r2 : GoodIn lw_tbl wsL_endYear_r2 := (zgc zm_592 (zgc zm_593 (zgc zm_81 (zgc zm_1158 (zgc zm_1160 (zgc zm_37 (zgc zm_1161 (zgc zm_300 (zgc zm_1162 (zgc zm_1167 (zgc zm_1168 (zgc zm_1163 (zgc zm_1165 (zgc zm_38 (zgc zm_1166 (zgc zm_762 (zgc zm_1120 (zgc zm_1122 (zgc zm_34 (zgc zm_1123 (zgc zm_1124 (zgc zm_1125 (zgc zm_1126 (zgc zm_1127 zgn))))))))))))))))))))))))
theorem zw_wsL_endYear_r3 : GoodIn lw_tbl wsL_endYear_r3 := (zgc zm_1129 (zgc zm_35 (zgc zm_1130 (zgc zm_1131 (zgc zm_1133 (zgc zm_36 (zgc zm_1134 (zgc zm_164 (zgc zm_162 (zgc zm_1109 (zgc zm_1111 (zgc zm_33 (zgc zm_1112 (zgc zm_182 (zgc zm_293 (zgc zm_927 (zgc zm_928 (zgc zm_929 (zgc zm_180 (zgc zm_388 (zgc zm_390 (zgc zm_6 (zgc zm_391 (zgc zm_485 zgn))))))))))))))))))))))))
theorem zm_1169 : zgo (Cond.methodLink RX6 380 yX2_startOver) := ⟨List.mem_of_getElem? (i := 1169) (by decide +kernel), by decide +kernel⟩
theorem zw_wsL_endYear_r4 : GoodIn lw_tbl wsL_endYear_r4 := (zgc zm_487 (zgc zm_16 (zgc zm_488 (zgc zm_160 (zgc zm_489 (zgc zm_491 (zgc zm_17 (zgc zm_492 (zgc zm_400 (zgc zm_402 (zgc zm_7 (zgc zm_403 (zgc zm_292 (zgc zm_641 (zgc zm_184 (zgc zm_1091 (zgc zm_1092 (zgc zm_1093 (zgc zm_1169 (zgc zm_154 (zgc zm_155 (zgc zm_71 (zgc zm_156 (zgc zm_157 zgn))))))))))))))))))))))))
theorem zm_1170 : zgo (Cond.methodLink RX6 383 yX6_endYearOf) := ⟨List.mem_of_getElem? (i := 1170) (by decide +kernel), by decide +kernel⟩
theorem zm_1171 : zgo (Cond.static yX6_endYearOf) := ⟨List.mem_of_getElem? (i := 1171) (by decide +kernel), by decide +kernel⟩
theorem zm_1172 : zgo (Cond.code yX6_endYearOf cX6_endYearOf 1 none) := ⟨List.mem_of_getElem? (i := 1172) (by decide +kernel), by decide +kernel⟩
theorem zm_232 : zgo (Cond.fieldLink RX6 411 "Gangline$Dog" "kennel" "I") := ⟨List.mem_of_getElem? (i := 232) (by decide +kernel), by decide +kernel⟩
theorem zm_259 : zgo (Cond.fieldLink RX6 395 "Gangline$Dog" "littered" "Z") := ⟨List.mem_of_getElem? (i := 259) (by decide +kernel), by decide +kernel⟩
theorem zw_wsL_endYear_r5 : GoodIn lw_tbl wsL_endYear_r5 := (zgc zm_159 (zgc zm_161 (zgc zm_163 (zgc zm_165 (zgc zm_167 (zgc zm_169 (zgc zm_171 (zgc zm_173 (zgc zm_175 (zgc zm_177 (zgc zm_179 (zgc zm_181 (zgc zm_183 (zgc zm_189 (zgc zm_185 (zgc zm_187 (zgc zm_1170 (zgc zm_1171 (zgc zm_1172 (zgc zm_232 (zgc zm_234 (zgc zm_259 (zgc zm_262 (zgc zm_241 zgn))))))))))))))))))))))))
theorem zw_wsL_endYear : GoodIn lw_tbl wsL_endYear := (zgc zm_1153 (goodIn_app (goodIn_app (goodIn_app (goodIn_app (goodIn_app (goodIn_app (goodIn_app (goodIn_app (goodIn_app zw_wsL_endYear_r1 (goodIn_app zw_wsL_endYear_r2 (goodIn_app zw_wsL_endYear_r3 (goodIn_app zw_wsL_endYear_r4 zw_wsL_endYear_r5)))) zw_wsX60) zw_wsX50) zw_wsX30) zw_wsX20) zw_wsX10) zw_wsX00) zx_0) zx_2))
theorem zm_1151 : zgo (Cond.methodLink RL 310 yL_endYear) := ⟨List.mem_of_getElem? (i := 1151) (by decide +kernel), by decide +kernel⟩
theorem zm_1152 : zgo (Cond.static yL_endYear) := ⟨List.mem_of_getElem? (i := 1152) (by decide +kernel), by decide +kernel⟩
theorem gL_law_L_endYear : GoodIn lw_tbl (va_wsS RL 310 yL_endYear wsL_endYear) := goodIn_app (a := [Cond.methodLink RL 310 yL_endYear, Cond.static yL_endYear, Cond.initialized RL]) (zgc zm_1151 (zgc zm_1152 (zgc zm_68 zgn))) zw_wsL_endYear
theorem zm_2420 : zgo (Cond.code yX10_endYear cX10_endYear 8 (some .int)) := ⟨List.mem_of_getElem? (i := 2420) (by decide +kernel), by decide +kernel⟩
theorem zm_2421 : zgo (Cond.constantLong RX10 395 (10)) := ⟨List.mem_of_getElem? (i := 2421) (by decide +kernel), by decide +kernel⟩
theorem zm_1286 : zgo (Cond.fieldLink RX10 403 "GanglineModel" "year" "I") := ⟨List.mem_of_getElem? (i := 1286) (by decide +kernel), by decide +kernel⟩
theorem zw_wsX10_endYear_r1 : GoodIn lw_tbl wsX10_endYear_r1 := (zgc zm_146 (zgc zm_1287 (zgc zm_2421 (zgc zm_1397 (zgc zm_1284 (zgc zm_1285 (zgc zm_1651 (zgc zm_1283 (zgc zm_1288 (zgc zm_1289 (zgc zm_1291 (zgc zm_1290 (zgc zm_1286 (zgc zm_1330 (zgc zm_1332 (zgc zm_41 (zgc zm_73 (zgc zm_1333 (zgc zm_1335 (zgc zm_1339 (zgc zm_1341 (zgc zm_76 (zgc zm_1343 (zgc zm_1344 zgn))))))))))))))))))))))))
theorem zw_wsX10_endYear_r2 : GoodIn lw_tbl wsX10_endYear_r2 := (zgc zm_1345 (zgc zm_84 (zgc zm_1346 (zgc zm_1347 (zgc zm_1348 (zgc zm_1353 (zgc zm_1349 (zgc zm_114 (zgc zm_115 (zgc zm_1351 (zgc zm_1271 (zgc zm_1272 (zgc zm_1352 (zgc zm_1364 (zgc zm_1368 (zgc zm_1370 (zgc zm_1372 (zgc zm_1350 (zgc zm_1374 (zgc zm_1377 (zgc zm_1379 (zgc zm_1381 (zgc zm_1267 (zgc zm_1382 zgn))))))))))))))))))))))))
theorem zw_wsX10_endYear_r3 : GoodIn lw_tbl wsX10_endYear_r3 := (zgc zm_1383 (zgc zm_1384 (zgc zm_1385 (zgc zm_1398 (zgc zm_1399 (zgc zm_1400 (zgc zm_98 (zgc zm_1401 (zgc zm_1564 (zgc zm_1411 (zgc zm_1413 (zgc zm_42 (zgc zm_1414 (zgc zm_1281 (zgc zm_2189 (zgc zm_2191 (zgc zm_64 (zgc zm_2192 (zgc zm_1252 (zgc zm_1253 (zgc zm_1254 (zgc zm_1255 (zgc zm_1256 (zgc zm_1264 zgn))))))))))))))))))))))))
theorem zw_wsX10_endYear_r4 : GoodIn lw_tbl wsX10_endYear_r4 := (zgc zm_1266 (zgc zm_1257 (zgc zm_1258 (zgc zm_75 (zgc zm_1259 (zgc zm_1270 (zgc zm_1260 (zgc zm_1261 (zgc zm_74 (zgc zm_1262 (zgc zm_1263 (zgc zm_1403 (zgc zm_1406 (zgc zm_1408 (zgc zm_1410 (zgc zm_1269 (zgc zm_1518 (zgc zm_1521 (zgc zm_1523 (zgc zm_1525 (zgc zm_1526 (zgc zm_1527 (zgc zm_94 (zgc zm_1528 zgn))))))))))))))))))))))))
theorem zw_wsX10_endYear_r5 : GoodIn lw_tbl wsX10_endYear_r5 := (zgc zm_1529 (zgc zm_1530 (zgc zm_95 (zgc zm_1531 (zgc zm_1532 (zgc zm_1533 (zgc zm_1534 (zgc zm_1535 (zgc zm_2193 (zgc zm_2195 (zgc zm_65 (zgc zm_2196 (zgc zm_2181 (zgc zm_2183 (zgc zm_63 (zgc zm_2184 (zgc zm_1282 (zgc zm_1415 (zgc zm_1853 (zgc zm_1855 (zgc zm_57 (zgc zm_1856 (zgc zm_2198 (zgc zm_2201 zgn))))))))))))))))))))))))
theorem zw_wsX10_endYear_r6 : GoodIn lw_tbl wsX10_endYear_r6 := (zgc zm_2203 (zgc zm_2205 (zgc zm_1273 (zgc zm_1977 (zgc zm_1508 (zgc zm_1507 (zgc zm_90 (zgc zm_2206 (zgc zm_2208 (zgc zm_66 (zgc zm_2209 (zgc zm_1454 (zgc zm_1456 (zgc zm_44 (zgc zm_1457 (zgc zm_1458 (zgc zm_1460 (zgc zm_45 (zgc zm_1461 (zgc zm_1509 (zgc zm_409 (zgc zm_88 (zgc zm_410 (zgc zm_1510 zgn))))))))))))))))))))))))
theorem zw_wsX10_endYear_r7 : GoodIn lw_tbl wsX10_endYear_r7 := (zgc zm_1462 (zgc zm_1463 (zgc zm_87 (zgc zm_1464 (zgc zm_1465 (zgc zm_1466 (zgc zm_1467 (zgc zm_1468 (zgc zm_1469 (zgc zm_1470 (zgc zm_1471 (zgc zm_89 (zgc zm_1472 (zgc zm_1473 (zgc zm_2495 (zgc zm_1474 (zgc zm_1498 (zgc zm_1499 (zgc zm_1500 (zgc zm_1501 (zgc zm_1502 (zgc zm_1504 (zgc zm_1505 (zgc zm_463 zgn))))))))))))))))))))))))
theorem zm_2422 : zgo (Cond.methodLink RX10 397 yX9_anew) := ⟨List.mem_of_getElem? (i := 2422) (by decide +kernel), by decide +kernel⟩
theorem zm_2423 : zgo (Cond.instanceMethod yX9_anew) := ⟨List.mem_of_getElem? (i := 2423) (by decide +kernel), by decide +kernel⟩
theorem zm_2424 : zgo (Cond.selects RX9 yX9_anew yX9_anew) := ⟨List.mem_of_getElem? (i := 2424) (by decide +kernel), by decide +kernel⟩
theorem zm_2425 : zgo (Cond.code yX9_anew cX9_anew 1 none) := ⟨List.mem_of_getElem? (i := 2425) (by decide +kernel), by decide +kernel⟩
theorem zm_1586 : zgo (Cond.fieldLink RX9 109 "GanglineModel$Team" "penalties" "I") := ⟨List.mem_of_getElem? (i := 1586) (by decide +kernel), by decide +kernel⟩
theorem zm_1588 : zgo (Cond.fieldLink RX9 112 "GanglineModel$Team" "helps" "I") := ⟨List.mem_of_getElem? (i := 1588) (by decide +kernel), by decide +kernel⟩
theorem zm_2427 : zgo (Cond.methodLink RX9 106 ⟨"java/util/List", "clear", "()V"⟩) := ⟨List.mem_of_getElem? (i := 2427) (by decide +kernel), by decide +kernel⟩
theorem zw_wsX10_endYear_r8 : GoodIn lw_tbl wsX10_endYear_r8 := (zgc zm_464 (zgc zm_1506 (zgc zm_2422 (zgc zm_2423 (zgc zm_2424 (zgc zm_2425 (zgc zm_1558 (zgc zm_1560 (zgc zm_1562 (zgc zm_1566 (zgc zm_1568 (zgc zm_1570 (zgc zm_1572 (zgc zm_1574 (zgc zm_1576 (zgc zm_1578 (zgc zm_1580 (zgc zm_1582 (zgc zm_1584 (zgc zm_1586 (zgc zm_1588 (zgc zm_1590 (zgc zm_1592 (zgc zm_2427 zgn))))))))))))))))))))))))
theorem zw_wsX10_endYear_r9 : GoodIn lw_tbl wsX10_endYear_r9 := (zgc zm_2078 (zgc zm_2080 (zgc zm_2082 (zgc zm_2075 zgn))))
theorem zw_wsX10_endYear : GoodIn lw_tbl wsX10_endYear := (zgc zm_2420 (goodIn_app (goodIn_app (goodIn_app (goodIn_app (goodIn_app (goodIn_app (goodIn_app (goodIn_app zw_wsX10_endYear_r1 (goodIn_app zw_wsX10_endYear_r2 (goodIn_app zw_wsX10_endYear_r3 (goodIn_app zw_wsX10_endYear_r4 (goodIn_app zw_wsX10_endYear_r5 (goodIn_app zw_wsX10_endYear_r6 (goodIn_app zw_wsX10_endYear_r7 (goodIn_app zw_wsX10_endYear_r8 zw_wsX10_endYear_r9)))))))) zw_wsX100) zw_wsX90) zw_wsX70) zw_wsJx354110) zw_wsJx4a65c0) zw_wsX80) zx_0))
theorem zm_2417 : zgo (Cond.methodLink RL 312 yX10_endYear) := ⟨List.mem_of_getElem? (i := 2417) (by decide +kernel), by decide +kernel⟩
theorem zm_2418 : zgo (Cond.instanceMethod yX10_endYear) := ⟨List.mem_of_getElem? (i := 2418) (by decide +kernel), by decide +kernel⟩
theorem zm_2419 : zgo (Cond.selects RX10 yX10_endYear yX10_endYear) := ⟨List.mem_of_getElem? (i := 2419) (by decide +kernel), by decide +kernel⟩
theorem gL_law_X10_endYear : GoodIn lw_tbl (wsV RL 312 RX10 yX10_endYear wsX10_endYear) := goodIn_app (a := [Cond.methodLink RL 312 yX10_endYear, Cond.instanceMethod yX10_endYear, Cond.selects RX10 yX10_endYear yX10_endYear, Cond.initialized RX10]) (zgc zm_2417 (zgc zm_2418 (zgc zm_2419 (zgc zm_73 zgn)))) zw_wsX10_endYear
theorem zm_1175 : zgo (Cond.codeWith yL_litter cL_litter 5 (some .int) [(0, 10, 13, 23), (0, 10, 17, 13), (0, 10, 21, 15), (0, 10, 25, 17)]) := ⟨List.mem_of_getElem? (i := 1175) (by decide +kernel), by decide +kernel⟩
theorem zm_1176 : zgo (Cond.methodLink RL 153 yX6_litter) := ⟨List.mem_of_getElem? (i := 1176) (by decide +kernel), by decide +kernel⟩
theorem zm_1177 : zgo (Cond.instanceMethod yX6_litter) := ⟨List.mem_of_getElem? (i := 1177) (by decide +kernel), by decide +kernel⟩
theorem zm_1178 : zgo (Cond.selects RX6 yX6_litter yX6_litter) := ⟨List.mem_of_getElem? (i := 1178) (by decide +kernel), by decide +kernel⟩
theorem zm_1179 : zgo (Cond.code yX6_litter cX6_litter 7 (some .int)) := ⟨List.mem_of_getElem? (i := 1179) (by decide +kernel), by decide +kernel⟩
theorem zm_243 : zgo (Cond.fieldLink RX6 414 "Gangline$Dog" "mother" "I") := ⟨List.mem_of_getElem? (i := 243) (by decide +kernel), by decide +kernel⟩
theorem zm_245 : zgo (Cond.fieldLink RX6 417 "Gangline$Dog" "father" "I") := ⟨List.mem_of_getElem? (i := 245) (by decide +kernel), by decide +kernel⟩
theorem zw_wsL_litter_r1 : GoodIn lw_tbl wsL_litter_r1 := (zgc zm_656 (zgc zm_1176 (zgc zm_1177 (zgc zm_1178 (zgc zm_69 (zgc zm_1179 (zgc zm_514 (zgc zm_80 (zgc zm_296 (zgc zm_259 (zgc zm_297 (zgc zm_236 (zgc zm_408 (zgc zm_409 (zgc zm_88 (zgc zm_410 (zgc zm_239 (zgc zm_120 (zgc zm_226 (zgc zm_72 (zgc zm_232 (zgc zm_243 (zgc zm_245 (zgc zm_800 zgn))))))))))))))))))))))))
theorem zm_1181 : zgo (Cond.methodLink RX6 391 yX6_canBreed) := ⟨List.mem_of_getElem? (i := 1181) (by decide +kernel), by decide +kernel⟩
theorem zm_1182 : zgo (Cond.static yX6_canBreed) := ⟨List.mem_of_getElem? (i := 1182) (by decide +kernel), by decide +kernel⟩
theorem zm_1183 : zgo (Cond.code yX6_canBreed cX6_canBreed 1 (some .boolean)) := ⟨List.mem_of_getElem? (i := 1183) (by decide +kernel), by decide +kernel⟩
theorem zw_wsL_litter_r2 : GoodIn lw_tbl wsL_litter_r2 := (zgc zm_802 (zgc zm_26 (zgc zm_803 (zgc zm_688 (zgc zm_91 (zgc zm_1181 (zgc zm_1182 (zgc zm_1183 (zgc zm_241 (zgc zm_805 (zgc zm_806 (zgc zm_807 (zgc zm_808 (zgc zm_260 (zgc zm_809 (zgc zm_810 (zgc zm_811 (zgc zm_812 (zgc zm_590 (zgc zm_591 (zgc zm_592 (zgc zm_593 (zgc zm_81 (zgc zm_609 zgn))))))))))))))))))))))))
theorem zm_1184 : zgo (Cond.methodLink RX6 398 yX6_kinship) := ⟨List.mem_of_getElem? (i := 1184) (by decide +kernel), by decide +kernel⟩
theorem zm_1186 : zgo (Cond.instanceMethod yX6_kinship) := ⟨List.mem_of_getElem? (i := 1186) (by decide +kernel), by decide +kernel⟩
theorem zm_39 : zgo (Cond.selects RX6 yX6_kinship yX6_kinship) := ⟨List.mem_of_getElem? (i := 39) (by decide +kernel), by decide +kernel⟩
theorem zm_1187 : zgo (Cond.code yX6_kinship cX6_kinship 5 (some .boolean)) := ⟨List.mem_of_getElem? (i := 1187) (by decide +kernel), by decide +kernel⟩
theorem zm_1188 : zgo (Cond.methodLink RX6 562 yX0_isParent) := ⟨List.mem_of_getElem? (i := 1188) (by decide +kernel), by decide +kernel⟩
theorem zm_1189 : zgo (Cond.instanceMethod yX0_isParent) := ⟨List.mem_of_getElem? (i := 1189) (by decide +kernel), by decide +kernel⟩
theorem zm_1190 : zgo (Cond.selects RX0 yX0_isParent yX0_isParent) := ⟨List.mem_of_getElem? (i := 1190) (by decide +kernel), by decide +kernel⟩
theorem zm_1191 : zgo (Cond.code yX0_isParent cX0_isParent 2 (some .boolean)) := ⟨List.mem_of_getElem? (i := 1191) (by decide +kernel), by decide +kernel⟩
theorem zm_1192 : zgo (Cond.methodLink RX6 402 yX6_meanUp) := ⟨List.mem_of_getElem? (i := 1192) (by decide +kernel), by decide +kernel⟩
theorem zm_1193 : zgo (Cond.static yX6_meanUp) := ⟨List.mem_of_getElem? (i := 1193) (by decide +kernel), by decide +kernel⟩
theorem zm_1194 : zgo (Cond.code yX6_meanUp cX6_meanUp 2 (some .int)) := ⟨List.mem_of_getElem? (i := 1194) (by decide +kernel), by decide +kernel⟩
theorem zw_wsL_litter_r3 : GoodIn lw_tbl wsL_litter_r3 := (zgc zm_610 (zgc zm_611 (zgc zm_612 (zgc zm_82 (zgc zm_1184 (zgc zm_1186 (zgc zm_39 (zgc zm_1187 (zgc zm_1188 (zgc zm_1189 (zgc zm_1190 (zgc zm_1191 (zgc zm_242 (zgc zm_244 (zgc zm_1192 (zgc zm_1193 (zgc zm_1194 (zgc zm_227 (zgc zm_228 (zgc zm_229 (zgc zm_230 (zgc zm_114 (zgc zm_115 (zgc zm_246 zgn))))))))))))))))))))))))
theorem zw_wsL_litter_r4 : GoodIn lw_tbl wsL_litter_r4 := (zgc zm_249 (zgc zm_252 (zgc zm_255 (zgc zm_231 (zgc zm_233 (zgc zm_235 (zgc zm_237 (zgc zm_240 (zgc zm_789 (zgc zm_791 (zgc zm_25 (zgc zm_792 zgn))))))))))))
theorem zw_wsL_litter : GoodIn lw_tbl wsL_litter := (zgc zm_1175 (goodIn_app (goodIn_app (goodIn_app (goodIn_app (goodIn_app (goodIn_app (goodIn_app (goodIn_app zw_wsL_litter_r1 (goodIn_app zw_wsL_litter_r2 (goodIn_app zw_wsL_litter_r3 zw_wsL_litter_r4))) zw_wsX60) zw_wsX00) zx_0) zx_1) zx_4) zx_2) zx_3))
theorem zm_1173 : zgo (Cond.methodLink RL 313 yL_litter) := ⟨List.mem_of_getElem? (i := 1173) (by decide +kernel), by decide +kernel⟩
theorem zm_1174 : zgo (Cond.static yL_litter) := ⟨List.mem_of_getElem? (i := 1174) (by decide +kernel), by decide +kernel⟩
theorem gL_law_L_litter : GoodIn lw_tbl (va_wsS RL 313 yL_litter wsL_litter) := goodIn_app (a := [Cond.methodLink RL 313 yL_litter, Cond.static yL_litter, Cond.initialized RL]) (zgc zm_1173 (zgc zm_1174 (zgc zm_68 zgn))) zw_wsL_litter
theorem zm_2431 : zgo (Cond.code yX10_litter cX10_litter 10 (some .int)) := ⟨List.mem_of_getElem? (i := 2431) (by decide +kernel), by decide +kernel⟩
theorem zw_wsX10_litter_r1 : GoodIn lw_tbl wsX10_litter_r1 := (zgc zm_1285 (zgc zm_1651 (zgc zm_1286 (zgc zm_1801 (zgc zm_409 (zgc zm_88 (zgc zm_410 (zgc zm_1651 (zgc zm_1652 (zgc zm_99 (zgc zm_1730 (zgc zm_1732 (zgc zm_47 (zgc zm_73 (zgc zm_1733 (zgc zm_1403 (zgc zm_1406 (zgc zm_1408 (zgc zm_76 (zgc zm_1410 (zgc zm_1269 (zgc zm_1325 (zgc zm_1326 (zgc zm_1327 zgn))))))))))))))))))))))))
theorem zm_2432 : zgo (Cond.methodLink RX10 413 yX10_canBreed) := ⟨List.mem_of_getElem? (i := 2432) (by decide +kernel), by decide +kernel⟩
theorem zm_2433 : zgo (Cond.static yX10_canBreed) := ⟨List.mem_of_getElem? (i := 2433) (by decide +kernel), by decide +kernel⟩
theorem zm_2434 : zgo (Cond.code yX10_canBreed cX10_canBreed 1 (some .boolean)) := ⟨List.mem_of_getElem? (i := 2434) (by decide +kernel), by decide +kernel⟩
theorem zw_wsX10_litter_r2 : GoodIn lw_tbl wsX10_litter_r2 := (zgc zm_1518 (zgc zm_1521 (zgc zm_1523 (zgc zm_1525 (zgc zm_1526 (zgc zm_1527 (zgc zm_94 (zgc zm_1528 (zgc zm_1529 (zgc zm_1530 (zgc zm_95 (zgc zm_1531 (zgc zm_1532 (zgc zm_1533 (zgc zm_1534 (zgc zm_1535 (zgc zm_1266 (zgc zm_2432 (zgc zm_2433 (zgc zm_2434 (zgc zm_1411 (zgc zm_1413 (zgc zm_42 (zgc zm_1414 zgn))))))))))))))))))))))))
theorem zm_2435 : zgo (Cond.methodLink RX10 420 yX10_areKin) := ⟨List.mem_of_getElem? (i := 2435) (by decide +kernel), by decide +kernel⟩
theorem zm_2436 : zgo (Cond.static yX10_areKin) := ⟨List.mem_of_getElem? (i := 2436) (by decide +kernel), by decide +kernel⟩
theorem zm_2437 : zgo (Cond.code yX10_areKin cX10_areKin 5 (some .boolean)) := ⟨List.mem_of_getElem? (i := 2437) (by decide +kernel), by decide +kernel⟩
theorem zw_wsX10_litter_r3 : GoodIn lw_tbl wsX10_litter_r3 := (zgc zm_1281 (zgc zm_2435 (zgc zm_2436 (zgc zm_2437 (zgc zm_1653 (zgc zm_1654 (zgc zm_1655 (zgc zm_1656 (zgc zm_114 (zgc zm_115 (zgc zm_1674 (zgc zm_1676 (zgc zm_1678 (zgc zm_1680 (zgc zm_1683 (zgc zm_1685 (zgc zm_1657 (zgc zm_1659 (zgc zm_1661 (zgc zm_1664 (zgc zm_1666 (zgc zm_1670 (zgc zm_1672 (zgc zm_1668 zgn))))))))))))))))))))))))
theorem zw_wsX10_litter_r4 : GoodIn lw_tbl wsX10_litter_r4 := (zgc zm_1442 (zgc zm_1445 (zgc zm_1447 (zgc zm_1449 (zgc zm_1273 (zgc zm_1272 (zgc zm_1450 (zgc zm_1452 (zgc zm_43 (zgc zm_1453 (zgc zm_1454 (zgc zm_1456 (zgc zm_44 (zgc zm_1457 (zgc zm_1458 (zgc zm_1460 (zgc zm_45 (zgc zm_1461 (zgc zm_1264 (zgc zm_1509 (zgc zm_1510 (zgc zm_1462 (zgc zm_1463 (zgc zm_87 zgn))))))))))))))))))))))))
theorem zw_wsX10_litter_r5 : GoodIn lw_tbl wsX10_litter_r5 := (zgc zm_1464 (zgc zm_1465 (zgc zm_1466 (zgc zm_1467 (zgc zm_1468 (zgc zm_1469 (zgc zm_1470 (zgc zm_1471 (zgc zm_89 (zgc zm_1472 (zgc zm_1473 (zgc zm_2495 (zgc zm_1474 (zgc zm_1498 (zgc zm_1499 (zgc zm_1500 (zgc zm_1501 (zgc zm_1502 (zgc zm_1504 (zgc zm_1505 (zgc zm_463 (zgc zm_464 (zgc zm_1506 (zgc zm_1508 zgn))))))))))))))))))))))))
theorem zw_wsX10_litter_r6 : GoodIn lw_tbl wsX10_litter_r6 := (zgc zm_1507 (zgc zm_90 zgn))
theorem zw_wsX10_litter : GoodIn lw_tbl wsX10_litter := (zgc zm_2431 (goodIn_app (goodIn_app (goodIn_app (goodIn_app zw_wsX10_litter_r1 (goodIn_app zw_wsX10_litter_r2 (goodIn_app zw_wsX10_litter_r3 (goodIn_app zw_wsX10_litter_r4 (goodIn_app zw_wsX10_litter_r5 zw_wsX10_litter_r6))))) zw_wsX100) zw_wsX70) zw_wsJx4a65c0))
theorem zm_2428 : zgo (Cond.methodLink RL 315 yX10_litter) := ⟨List.mem_of_getElem? (i := 2428) (by decide +kernel), by decide +kernel⟩
theorem zm_2429 : zgo (Cond.instanceMethod yX10_litter) := ⟨List.mem_of_getElem? (i := 2429) (by decide +kernel), by decide +kernel⟩
theorem zm_2430 : zgo (Cond.selects RX10 yX10_litter yX10_litter) := ⟨List.mem_of_getElem? (i := 2430) (by decide +kernel), by decide +kernel⟩
theorem gL_law_X10_litter : GoodIn lw_tbl (wsV RL 315 RX10 yX10_litter wsX10_litter) := goodIn_app (a := [Cond.methodLink RL 315 yX10_litter, Cond.instanceMethod yX10_litter, Cond.selects RX10 yX10_litter yX10_litter, Cond.initialized RX10]) (zgc zm_2428 (zgc zm_2429 (zgc zm_2430 (zgc zm_73 zgn)))) zw_wsX10_litter
theorem zm_1197 : zgo (Cond.codeWith yL_areKin cL_areKin 5 (some .int) [(0, 17, 20, 23)]) := ⟨List.mem_of_getElem? (i := 1197) (by decide +kernel), by decide +kernel⟩
theorem zm_1198 : zgo (Cond.methodLink RL 156 yX6_areKin) := ⟨List.mem_of_getElem? (i := 1198) (by decide +kernel), by decide +kernel⟩
theorem zm_1199 : zgo (Cond.instanceMethod yX6_areKin) := ⟨List.mem_of_getElem? (i := 1199) (by decide +kernel), by decide +kernel⟩
theorem zm_1200 : zgo (Cond.selects RX6 yX6_areKin yX6_areKin) := ⟨List.mem_of_getElem? (i := 1200) (by decide +kernel), by decide +kernel⟩
theorem zm_1201 : zgo (Cond.code yX6_areKin cX6_areKin 3 (some .boolean)) := ⟨List.mem_of_getElem? (i := 1201) (by decide +kernel), by decide +kernel⟩
theorem zw_wsL_areKin_r1 : GoodIn lw_tbl wsL_areKin_r1 := (zgc zm_656 (zgc zm_1198 (zgc zm_1199 (zgc zm_1200 (zgc zm_69 (zgc zm_1201 (zgc zm_800 (zgc zm_802 (zgc zm_26 (zgc zm_803 (zgc zm_688 (zgc zm_91 (zgc zm_297 (zgc zm_1184 (zgc zm_1186 (zgc zm_39 (zgc zm_1187 (zgc zm_296 (zgc zm_243 (zgc zm_245 (zgc zm_1188 (zgc zm_1189 (zgc zm_1190 (zgc zm_72 zgn))))))))))))))))))))))))
theorem zw_wsL_areKin_r2 : GoodIn lw_tbl wsL_areKin_r2 := (zgc zm_1191 (zgc zm_242 (zgc zm_244 zgn)))
theorem zw_wsL_areKin : GoodIn lw_tbl wsL_areKin := (zgc zm_1197 (goodIn_app (goodIn_app (goodIn_app (goodIn_app (goodIn_app zw_wsL_areKin_r1 zw_wsL_areKin_r2) zw_wsX60) zw_wsX00) zx_0) zx_4))
theorem zm_1195 : zgo (Cond.methodLink RL 316 yL_areKin) := ⟨List.mem_of_getElem? (i := 1195) (by decide +kernel), by decide +kernel⟩
theorem zm_1196 : zgo (Cond.static yL_areKin) := ⟨List.mem_of_getElem? (i := 1196) (by decide +kernel), by decide +kernel⟩
theorem gL_law_L_areKin : GoodIn lw_tbl (va_wsS RL 316 yL_areKin wsL_areKin) := goodIn_app (a := [Cond.methodLink RL 316 yL_areKin, Cond.static yL_areKin, Cond.initialized RL]) (zgc zm_1195 (zgc zm_1196 (zgc zm_68 zgn))) zw_wsL_areKin
theorem zm_2441 : zgo (Cond.code yX10_areKin_ cX10_areKin_ 4 (some .boolean)) := ⟨List.mem_of_getElem? (i := 2441) (by decide +kernel), by decide +kernel⟩
theorem zw_wsX10_areKin__r1 : GoodIn lw_tbl wsX10_areKin__r1 := (zgc zm_1285 (zgc zm_1651 (zgc zm_1730 (zgc zm_1732 (zgc zm_47 (zgc zm_73 (zgc zm_1733 (zgc zm_1403 (zgc zm_1406 (zgc zm_1408 (zgc zm_76 (zgc zm_1410 (zgc zm_1269 (zgc zm_1325 (zgc zm_1326 (zgc zm_1327 (zgc zm_1411 (zgc zm_1413 (zgc zm_42 (zgc zm_1414 (zgc zm_1281 (zgc zm_1518 (zgc zm_1521 (zgc zm_1523 zgn))))))))))))))))))))))))
theorem zw_wsX10_areKin__r2 : GoodIn lw_tbl wsX10_areKin__r2 := (zgc zm_1525 (zgc zm_1526 (zgc zm_1527 (zgc zm_94 (zgc zm_1528 (zgc zm_1529 (zgc zm_1530 (zgc zm_95 (zgc zm_1531 (zgc zm_1532 (zgc zm_1533 (zgc zm_1534 (zgc zm_1535 (zgc zm_1266 (zgc zm_2435 (zgc zm_2436 (zgc zm_2437 zgn)))))))))))))))))
theorem zw_wsX10_areKin_ : GoodIn lw_tbl wsX10_areKin_ := (zgc zm_2441 (goodIn_app (goodIn_app (goodIn_app (goodIn_app zw_wsX10_areKin__r1 zw_wsX10_areKin__r2) zw_wsX100) zw_wsJx4a65c0) zw_wsX70))
theorem zm_2438 : zgo (Cond.methodLink RL 318 yX10_areKin_) := ⟨List.mem_of_getElem? (i := 2438) (by decide +kernel), by decide +kernel⟩
theorem zm_2439 : zgo (Cond.instanceMethod yX10_areKin_) := ⟨List.mem_of_getElem? (i := 2439) (by decide +kernel), by decide +kernel⟩
theorem zm_2440 : zgo (Cond.selects RX10 yX10_areKin_ yX10_areKin_) := ⟨List.mem_of_getElem? (i := 2440) (by decide +kernel), by decide +kernel⟩
theorem gL_law_X10_areKin_ : GoodIn lw_tbl (wsV RL 318 RX10 yX10_areKin_ wsX10_areKin_) := goodIn_app (a := [Cond.methodLink RL 318 yX10_areKin_, Cond.instanceMethod yX10_areKin_, Cond.selects RX10 yX10_areKin_ yX10_areKin_, Cond.initialized RX10]) (zgc zm_2438 (zgc zm_2439 (zgc zm_2440 (zgc zm_73 zgn)))) zw_wsX10_areKin_
theorem zm_1204 : zgo (Cond.codeWith yL_train cL_train 5 (some .int) [(0, 10, 13, 23), (0, 10, 17, 13), (0, 10, 21, 15)]) := ⟨List.mem_of_getElem? (i := 1204) (by decide +kernel), by decide +kernel⟩
theorem zm_1205 : zgo (Cond.methodLink RL 160 yX6_train) := ⟨List.mem_of_getElem? (i := 1205) (by decide +kernel), by decide +kernel⟩
theorem zm_1206 : zgo (Cond.instanceMethod yX6_train) := ⟨List.mem_of_getElem? (i := 1206) (by decide +kernel), by decide +kernel⟩
theorem zm_1207 : zgo (Cond.selects RX6 yX6_train yX6_train) := ⟨List.mem_of_getElem? (i := 1207) (by decide +kernel), by decide +kernel⟩
theorem zm_1208 : zgo (Cond.code yX6_train cX6_train 5 (some .int)) := ⟨List.mem_of_getElem? (i := 1208) (by decide +kernel), by decide +kernel⟩
theorem zm_258 : zgo (Cond.fieldLink RX6 420 "Gangline$Dog" "kilometres" "I") := ⟨List.mem_of_getElem? (i := 258) (by decide +kernel), by decide +kernel⟩
theorem zm_1209 : zgo (Cond.methodLink RX6 423 Lib.Math.min.name) := ⟨List.mem_of_getElem? (i := 1209) (by decide +kernel), by decide +kernel⟩
theorem zw_wsL_train_r1 : GoodIn lw_tbl wsL_train_r1 := (zgc zm_656 (zgc zm_1205 (zgc zm_1206 (zgc zm_1207 (zgc zm_69 (zgc zm_1208 (zgc zm_296 (zgc zm_258 (zgc zm_236 (zgc zm_1209 (zgc zm_463 (zgc zm_88 (zgc zm_464 (zgc zm_800 (zgc zm_802 (zgc zm_26 (zgc zm_803 (zgc zm_688 (zgc zm_91 (zgc zm_297 (zgc zm_511 (zgc zm_512 (zgc zm_513 (zgc zm_514 zgn))))))))))))))))))))))))
theorem zw_wsL_train_r2 : GoodIn lw_tbl wsL_train_r2 := (zgc zm_80 (zgc zm_805 (zgc zm_806 (zgc zm_807 (zgc zm_72 (zgc zm_808 (zgc zm_260 (zgc zm_809 (zgc zm_810 (zgc zm_811 (zgc zm_812 (zgc zm_590 (zgc zm_591 (zgc zm_592 (zgc zm_593 (zgc zm_81 zgn))))))))))))))))
theorem zw_wsL_train : GoodIn lw_tbl wsL_train := (zgc zm_1204 (goodIn_app (goodIn_app (goodIn_app (goodIn_app (goodIn_app (goodIn_app (goodIn_app zw_wsL_train_r1 zw_wsL_train_r2) zw_wsX60) zw_wsX00) zx_0) zx_4) zx_1) zx_2))
theorem zm_1202 : zgo (Cond.methodLink RL 319 yL_train) := ⟨List.mem_of_getElem? (i := 1202) (by decide +kernel), by decide +kernel⟩
theorem zm_1203 : zgo (Cond.static yL_train) := ⟨List.mem_of_getElem? (i := 1203) (by decide +kernel), by decide +kernel⟩
theorem gL_law_L_train : GoodIn lw_tbl (va_wsS RL 319 yL_train wsL_train) := goodIn_app (a := [Cond.methodLink RL 319 yL_train, Cond.static yL_train, Cond.initialized RL]) (zgc zm_1202 (zgc zm_1203 (zgc zm_68 zgn))) zw_wsL_train
theorem zm_2445 : zgo (Cond.code yX10_train cX10_train 7 (some .int)) := ⟨List.mem_of_getElem? (i := 2445) (by decide +kernel), by decide +kernel⟩
theorem zm_2446 : zgo (Cond.constantLong RX10 424 (100)) := ⟨List.mem_of_getElem? (i := 2446) (by decide +kernel), by decide +kernel⟩
theorem zw_wsX10_train_r1 : GoodIn lw_tbl wsX10_train_r1 := (zgc zm_1285 (zgc zm_1651 (zgc zm_2446 (zgc zm_1834 (zgc zm_463 (zgc zm_88 (zgc zm_464 (zgc zm_1730 (zgc zm_1732 (zgc zm_47 (zgc zm_73 (zgc zm_1733 (zgc zm_1403 (zgc zm_1406 (zgc zm_1408 (zgc zm_76 (zgc zm_1410 (zgc zm_1269 (zgc zm_1325 (zgc zm_1326 (zgc zm_1327 (zgc zm_1518 (zgc zm_1521 (zgc zm_1523 zgn))))))))))))))))))))))))
theorem zw_wsX10_train_r2 : GoodIn lw_tbl wsX10_train_r2 := (zgc zm_1525 (zgc zm_1526 (zgc zm_1527 (zgc zm_94 (zgc zm_1528 (zgc zm_1529 (zgc zm_1530 (zgc zm_95 (zgc zm_1531 (zgc zm_1532 (zgc zm_1533 (zgc zm_1534 (zgc zm_1535 (zgc zm_1266 (zgc zm_1411 (zgc zm_1413 (zgc zm_42 (zgc zm_1414 (zgc zm_1281 zgn)))))))))))))))))))
theorem zw_wsX10_train : GoodIn lw_tbl wsX10_train := (zgc zm_2445 (goodIn_app (goodIn_app (goodIn_app (goodIn_app zw_wsX10_train_r1 zw_wsX10_train_r2) zw_wsX100) zw_wsX70) zw_wsJx4a65c0))
theorem zm_2442 : zgo (Cond.methodLink RL 321 yX10_train) := ⟨List.mem_of_getElem? (i := 2442) (by decide +kernel), by decide +kernel⟩
theorem zm_2443 : zgo (Cond.instanceMethod yX10_train) := ⟨List.mem_of_getElem? (i := 2443) (by decide +kernel), by decide +kernel⟩
theorem zm_2444 : zgo (Cond.selects RX10 yX10_train yX10_train) := ⟨List.mem_of_getElem? (i := 2444) (by decide +kernel), by decide +kernel⟩
theorem gL_law_X10_train : GoodIn lw_tbl (wsV RL 321 RX10 yX10_train wsX10_train) := goodIn_app (a := [Cond.methodLink RL 321 yX10_train, Cond.instanceMethod yX10_train, Cond.selects RX10 yX10_train yX10_train, Cond.initialized RX10]) (zgc zm_2442 (zgc zm_2443 (zgc zm_2444 (zgc zm_73 zgn)))) zw_wsX10_train
theorem zm_1212 : zgo (Cond.codeWith yL_inShare cL_inShare 3 (some .int) [(0, 8, 11, 167)]) := ⟨List.mem_of_getElem? (i := 1212) (by decide +kernel), by decide +kernel⟩
theorem zm_1213 : zgo (.classLink RL 167 "java/lang/ArithmeticException") := ⟨List.mem_of_getElem? (i := 1213) (by decide +kernel), by decide +kernel⟩
theorem zm_1227 : zgo (.methodLink RL 163 yX6_inShare) := ⟨List.mem_of_getElem? (i := 1227) (by decide +kernel), by decide +kernel⟩
theorem zm_1228 : zgo (.instanceMethod yX6_inShare) := ⟨List.mem_of_getElem? (i := 1228) (by decide +kernel), by decide +kernel⟩
theorem zm_1229 : zgo (.selects RX6 yX6_inShare yX6_inShare) := ⟨List.mem_of_getElem? (i := 1229) (by decide +kernel), by decide +kernel⟩
theorem zm_1230 : zgo (.code yX6_inShare cX6_inShare 1 (some .float)) := ⟨List.mem_of_getElem? (i := 1230) (by decide +kernel), by decide +kernel⟩
theorem zm_1231 : zgo (.classLink RX6 426 "java/lang/ArithmeticException") := ⟨List.mem_of_getElem? (i := 1231) (by decide +kernel), by decide +kernel⟩
theorem zm_107 : zgo (.initialized "java/lang/ArithmeticException") := ⟨List.mem_of_getElem? (i := 107) (by decide +kernel), by decide +kernel⟩
theorem zm_1234 : zgo (.methodLink RX6 431 yX6_dogsInRace) := ⟨List.mem_of_getElem? (i := 1234) (by decide +kernel), by decide +kernel⟩
theorem zm_1236 : zgo (.instanceMethod yX6_dogsInRace) := ⟨List.mem_of_getElem? (i := 1236) (by decide +kernel), by decide +kernel⟩
theorem zm_40 : zgo (.selects RX6 yX6_dogsInRace yX6_dogsInRace) := ⟨List.mem_of_getElem? (i := 40) (by decide +kernel), by decide +kernel⟩
theorem zm_1237 : zgo (.code yX6_dogsInRace cX6_dogsInRace 3 (some .int)) := ⟨List.mem_of_getElem? (i := 1237) (by decide +kernel), by decide +kernel⟩
set_option maxRecDepth 20000 in
theorem zx_6 : GoodIn lw_tbl ((vx_atS RX6 430 "java/lang/ArithmeticException" ["java/lang/RuntimeException", "java/lang/Exception"]).filter goodWord) := fun w h => ⟨(show ∀ w ∈ (vx_atS RX6 430 "java/lang/ArithmeticException" ["java/lang/RuntimeException", "java/lang/Exception"]).filter goodWord, w ∈ lw_tbl by decide +kernel) w h, good_of_word (List.mem_filter.mp h).2⟩
theorem zw_wsL_inShare : GoodIn lw_tbl wsL_inShare := (zgc zm_1212 (goodIn_app (goodIn_app (goodIn_app (goodIn_app (zgc zm_1213 (zgc zm_1227 (zgc zm_1228 (zgc zm_1229 (zgc zm_69 (zgc zm_1230 (zgc zm_1231 (zgc zm_107 (zgc zm_302 (zgc zm_1234 (zgc zm_1236 (zgc zm_40 (zgc zm_1237 (zgc zm_297 (zgc zm_296 (zgc zm_262 zgn)))))))))))))))) zw_wsX60) zw_wsX00) zx_0) zx_6))
theorem zm_1210 : zgo (Cond.methodLink RL 322 yL_inShare) := ⟨List.mem_of_getElem? (i := 1210) (by decide +kernel), by decide +kernel⟩
theorem zm_1211 : zgo (Cond.static yL_inShare) := ⟨List.mem_of_getElem? (i := 1211) (by decide +kernel), by decide +kernel⟩
theorem gL_law_L_inShare : GoodIn lw_tbl (va_wsS RL 322 yL_inShare wsL_inShare) := goodIn_app (a := [Cond.methodLink RL 322 yL_inShare, Cond.static yL_inShare, Cond.initialized RL]) (zgc zm_1210 (zgc zm_1211 (zgc zm_68 zgn))) zw_wsL_inShare
theorem zm_2450 : zgo (Cond.code yX10_inShare cX10_inShare 4 (some .float)) := ⟨List.mem_of_getElem? (i := 2450) (by decide +kernel), by decide +kernel⟩
theorem zw_wsX10_inShare_r1 : GoodIn lw_tbl wsX10_inShare_r1 := (zgc zm_1284 (zgc zm_1397 (zgc zm_1291 (zgc zm_1335 (zgc zm_1339 (zgc zm_1341 (zgc zm_76 (zgc zm_1343 (zgc zm_1344 (zgc zm_1345 (zgc zm_84 (zgc zm_1346 (zgc zm_1347 (zgc zm_1348 (zgc zm_1353 (zgc zm_1349 (zgc zm_114 (zgc zm_115 (zgc zm_1351 (zgc zm_1271 (zgc zm_1272 (zgc zm_1352 (zgc zm_1364 (zgc zm_1368 zgn))))))))))))))))))))))))
theorem zw_wsX10_inShare_r2 : GoodIn lw_tbl wsX10_inShare_r2 := (zgc zm_1370 (zgc zm_1372 (zgc zm_1350 (zgc zm_1374 (zgc zm_1377 (zgc zm_1379 (zgc zm_1381 (zgc zm_1267 (zgc zm_1382 (zgc zm_1383 (zgc zm_1384 (zgc zm_1385 (zgc zm_1398 (zgc zm_1399 (zgc zm_1400 (zgc zm_98 (zgc zm_1401 (zgc zm_1564 (zgc zm_1403 (zgc zm_1406 (zgc zm_1408 (zgc zm_1410 (zgc zm_1269 (zgc zm_1411 zgn))))))))))))))))))))))))
theorem zw_wsX10_inShare_r3 : GoodIn lw_tbl wsX10_inShare_r3 := (zgc zm_1413 (zgc zm_42 (zgc zm_73 (zgc zm_1414 (zgc zm_1281 zgn)))))
theorem zw_wsX10_inShare : GoodIn lw_tbl wsX10_inShare := (zgc zm_2450 (goodIn_app (goodIn_app (goodIn_app (goodIn_app (goodIn_app zw_wsX10_inShare_r1 (goodIn_app zw_wsX10_inShare_r2 zw_wsX10_inShare_r3)) zw_wsX100) zw_wsX90) zw_wsJx354110) zw_wsJx4a65c0))
theorem zm_2447 : zgo (Cond.methodLink RL 325 yX10_inShare) := ⟨List.mem_of_getElem? (i := 2447) (by decide +kernel), by decide +kernel⟩
theorem zm_2448 : zgo (Cond.instanceMethod yX10_inShare) := ⟨List.mem_of_getElem? (i := 2448) (by decide +kernel), by decide +kernel⟩
theorem zm_2449 : zgo (Cond.selects RX10 yX10_inShare yX10_inShare) := ⟨List.mem_of_getElem? (i := 2449) (by decide +kernel), by decide +kernel⟩
theorem gL_law_X10_inShare : GoodIn lw_tbl (wsV RL 325 RX10 yX10_inShare wsX10_inShare) := goodIn_app (a := [Cond.methodLink RL 325 yX10_inShare, Cond.instanceMethod yX10_inShare, Cond.selects RX10 yX10_inShare yX10_inShare, Cond.initialized RX10]) (zgc zm_2447 (zgc zm_2448 (zgc zm_2449 (zgc zm_73 zgn)))) zw_wsX10_inShare
theorem zm_1240 : zgo (Cond.codeWith yL_meanFeet cL_meanFeet 3 (some .int) [(0, 7, 10, 167)]) := ⟨List.mem_of_getElem? (i := 1240) (by decide +kernel), by decide +kernel⟩
theorem zm_1241 : zgo (.methodLink RL 169 yX6_meanFeet) := ⟨List.mem_of_getElem? (i := 1241) (by decide +kernel), by decide +kernel⟩
theorem zm_1242 : zgo (.instanceMethod yX6_meanFeet) := ⟨List.mem_of_getElem? (i := 1242) (by decide +kernel), by decide +kernel⟩
theorem zm_1243 : zgo (.selects RX6 yX6_meanFeet yX6_meanFeet) := ⟨List.mem_of_getElem? (i := 1243) (by decide +kernel), by decide +kernel⟩
theorem zm_1244 : zgo (.code yX6_meanFeet cX6_meanFeet 4 (some .double)) := ⟨List.mem_of_getElem? (i := 1244) (by decide +kernel), by decide +kernel⟩
theorem zw_wsL_meanFeet : GoodIn lw_tbl wsL_meanFeet := (zgc zm_1240 (goodIn_app (goodIn_app (goodIn_app (goodIn_app (zgc zm_1213 (zgc zm_1241 (zgc zm_1242 (zgc zm_1243 (zgc zm_69 (zgc zm_1244 (zgc zm_1231 (zgc zm_107 (zgc zm_297 (zgc zm_296 (zgc zm_262 (zgc zm_248 (zgc zm_1234 (zgc zm_1236 (zgc zm_40 (zgc zm_1237 zgn)))))))))))))))) zw_wsX60) zw_wsX00) zx_0) zx_6))
theorem zm_1238 : zgo (Cond.methodLink RL 326 yL_meanFeet) := ⟨List.mem_of_getElem? (i := 1238) (by decide +kernel), by decide +kernel⟩
theorem zm_1239 : zgo (Cond.static yL_meanFeet) := ⟨List.mem_of_getElem? (i := 1239) (by decide +kernel), by decide +kernel⟩
theorem gL_law_L_meanFeet : GoodIn lw_tbl (va_wsS RL 326 yL_meanFeet wsL_meanFeet) := goodIn_app (a := [Cond.methodLink RL 326 yL_meanFeet, Cond.static yL_meanFeet, Cond.initialized RL]) (zgc zm_1238 (zgc zm_1239 (zgc zm_68 zgn))) zw_wsL_meanFeet
theorem zm_2454 : zgo (Cond.code yX10_meanFeet cX10_meanFeet 7 (some .double)) := ⟨List.mem_of_getElem? (i := 2454) (by decide +kernel), by decide +kernel⟩
theorem zw_wsX10_meanFeet_r1 : GoodIn lw_tbl wsX10_meanFeet_r1 := (zgc zm_1284 (zgc zm_1397 (zgc zm_1651 (zgc zm_1335 (zgc zm_1339 (zgc zm_1341 (zgc zm_76 (zgc zm_1343 (zgc zm_1344 (zgc zm_1345 (zgc zm_84 (zgc zm_1346 (zgc zm_1347 (zgc zm_1348 (zgc zm_1353 (zgc zm_1349 (zgc zm_114 (zgc zm_115 (zgc zm_1351 (zgc zm_1271 (zgc zm_1272 (zgc zm_1352 (zgc zm_1364 (zgc zm_1368 zgn))))))))))))))))))))))))
theorem zw_wsX10_meanFeet_r2 : GoodIn lw_tbl wsX10_meanFeet_r2 := (zgc zm_1370 (zgc zm_1372 (zgc zm_1350 (zgc zm_1374 (zgc zm_1377 (zgc zm_1379 (zgc zm_1381 (zgc zm_1267 (zgc zm_1382 (zgc zm_1383 (zgc zm_1384 (zgc zm_1385 (zgc zm_1398 (zgc zm_1399 (zgc zm_1400 (zgc zm_98 (zgc zm_1401 (zgc zm_1564 (zgc zm_1411 (zgc zm_1413 (zgc zm_42 (zgc zm_73 (zgc zm_1414 (zgc zm_1281 zgn))))))))))))))))))))))))
theorem zw_wsX10_meanFeet : GoodIn lw_tbl wsX10_meanFeet := (zgc zm_2454 (goodIn_app (goodIn_app (goodIn_app (goodIn_app (goodIn_app (goodIn_app zw_wsX10_meanFeet_r1 zw_wsX10_meanFeet_r2) zw_wsX100) zw_wsX90) zw_wsX70) zw_wsJx354110) zw_wsJx4a65c0))
theorem zm_2451 : zgo (Cond.methodLink RL 328 yX10_meanFeet) := ⟨List.mem_of_getElem? (i := 2451) (by decide +kernel), by decide +kernel⟩
theorem zm_2452 : zgo (Cond.instanceMethod yX10_meanFeet) := ⟨List.mem_of_getElem? (i := 2452) (by decide +kernel), by decide +kernel⟩
theorem zm_2453 : zgo (Cond.selects RX10 yX10_meanFeet yX10_meanFeet) := ⟨List.mem_of_getElem? (i := 2453) (by decide +kernel), by decide +kernel⟩
theorem gL_law_X10_meanFeet : GoodIn lw_tbl (wsV RL 328 RX10 yX10_meanFeet wsX10_meanFeet) := goodIn_app (a := [Cond.methodLink RL 328 yX10_meanFeet, Cond.instanceMethod yX10_meanFeet, Cond.selects RX10 yX10_meanFeet yX10_meanFeet, Cond.initialized RX10]) (zgc zm_2451 (zgc zm_2452 (zgc zm_2453 (zgc zm_73 zgn)))) zw_wsX10_meanFeet
theorem zm_344 : zgo (Cond.code yX6_isTrue cX6_isTrue 3 (some .boolean)) := ⟨List.mem_of_getElem? (i := 344) (by decide +kernel), by decide +kernel⟩
theorem zm_345 : zgo (Cond.methodLink RX6 436 yX0_isInRanges) := ⟨List.mem_of_getElem? (i := 345) (by decide +kernel), by decide +kernel⟩
theorem zm_346 : zgo (Cond.instanceMethod yX0_isInRanges) := ⟨List.mem_of_getElem? (i := 346) (by decide +kernel), by decide +kernel⟩
theorem zm_347 : zgo (Cond.selects RX0 yX0_isInRanges yX0_isInRanges) := ⟨List.mem_of_getElem? (i := 347) (by decide +kernel), by decide +kernel⟩
theorem zm_348 : zgo (Cond.code yX0_isInRanges cX0_isInRanges 1 (some .boolean)) := ⟨List.mem_of_getElem? (i := 348) (by decide +kernel), by decide +kernel⟩
theorem zm_349 : zgo (Cond.methodLink RX0 53 yX0_isPart) := ⟨List.mem_of_getElem? (i := 349) (by decide +kernel), by decide +kernel⟩
theorem zm_350 : zgo (Cond.static yX0_isPart) := ⟨List.mem_of_getElem? (i := 350) (by decide +kernel), by decide +kernel⟩
theorem zw_wsX6_isTrue_r1 : GoodIn lw_tbl wsX6_isTrue_r1 := (zgc zm_297 (zgc zm_296 (zgc zm_299 (zgc zm_298 (zgc zm_759 (zgc zm_158 (zgc zm_182 (zgc zm_761 (zgc zm_137 (zgc zm_303 (zgc zm_345 (zgc zm_346 (zgc zm_347 (zgc zm_72 (zgc zm_348 (zgc zm_246 (zgc zm_249 (zgc zm_252 (zgc zm_255 (zgc zm_235 (zgc zm_237 (zgc zm_240 (zgc zm_349 (zgc zm_350 zgn))))))))))))))))))))))))
theorem zm_351 : zgo (Cond.code yX0_isPart cX0_isPart 1 (some .boolean)) := ⟨List.mem_of_getElem? (i := 351) (by decide +kernel), by decide +kernel⟩
theorem zm_352 : zgo (Cond.methodLink RX6 439 yX6_teamsWith) := ⟨List.mem_of_getElem? (i := 352) (by decide +kernel), by decide +kernel⟩
theorem zm_354 : zgo (Cond.instanceMethod yX6_teamsWith) := ⟨List.mem_of_getElem? (i := 354) (by decide +kernel), by decide +kernel⟩
theorem zm_0 : zgo (Cond.selects RX6 yX6_teamsWith yX6_teamsWith) := ⟨List.mem_of_getElem? (i := 0) (by decide +kernel), by decide +kernel⟩
theorem zm_355 : zgo (Cond.code yX6_teamsWith cX6_teamsWith 4 (some .int)) := ⟨List.mem_of_getElem? (i := 355) (by decide +kernel), by decide +kernel⟩
theorem zw_wsX6_isTrue_r2 : GoodIn lw_tbl wsX6_isTrue_r2 := (zgc zm_351 (zgc zm_352 (zgc zm_354 (zgc zm_0 (zgc zm_69 (zgc zm_355 (zgc zm_356 (zgc zm_357 (zgc zm_358 (zgc zm_71 (zgc zm_359 (zgc zm_189 (zgc zm_187 (zgc zm_360 (zgc zm_362 (zgc zm_1 (zgc zm_363 (zgc zm_364 (zgc zm_365 (zgc zm_366 (zgc zm_367 (zgc zm_157 (zgc zm_159 (zgc zm_161 zgn))))))))))))))))))))))))
theorem zw_wsX6_isTrue_r3 : GoodIn lw_tbl wsX6_isTrue_r3 := (zgc zm_163 (zgc zm_165 (zgc zm_167 (zgc zm_169 (zgc zm_171 (zgc zm_173 (zgc zm_175 (zgc zm_177 (zgc zm_179 (zgc zm_181 (zgc zm_183 (zgc zm_185 (zgc zm_368 (zgc zm_369 (zgc zm_370 (zgc zm_371 (zgc zm_260 (zgc zm_372 (zgc zm_374 (zgc zm_2 (zgc zm_375 (zgc zm_133 (zgc zm_135 (zgc zm_376 zgn))))))))))))))))))))))))
theorem zw_wsX6_isTrue_r4 : GoodIn lw_tbl wsX6_isTrue_r4 := (zgc zm_378 (zgc zm_3 (zgc zm_379 (zgc zm_380 (zgc zm_382 (zgc zm_4 (zgc zm_383 (zgc zm_292 (zgc zm_164 (zgc zm_162 (zgc zm_176 (zgc zm_634 (zgc zm_168 (zgc zm_408 (zgc zm_409 (zgc zm_88 (zgc zm_410 (zgc zm_170 (zgc zm_638 (zgc zm_174 (zgc zm_384 (zgc zm_386 (zgc zm_5 (zgc zm_387 zgn))))))))))))))))))))))))
theorem zw_wsX6_isTrue_r5 : GoodIn lw_tbl wsX6_isTrue_r5 := (zgc zm_190 (zgc zm_388 (zgc zm_390 (zgc zm_6 (zgc zm_391 (zgc zm_293 (zgc zm_392 (zgc zm_393 (zgc zm_394 (zgc zm_395 (zgc zm_396 (zgc zm_397 (zgc zm_398 (zgc zm_399 (zgc zm_400 (zgc zm_402 (zgc zm_7 (zgc zm_403 (zgc zm_641 (zgc zm_184 (zgc zm_404 (zgc zm_406 (zgc zm_8 (zgc zm_407 zgn))))))))))))))))))))))))
theorem zw_wsX6_isTrue_r6 : GoodIn lw_tbl wsX6_isTrue_r6 := (zgc zm_295 (zgc zm_294 (zgc zm_714 (zgc zm_716 (zgc zm_718 (zgc zm_720 (zgc zm_411 (zgc zm_413 (zgc zm_9 (zgc zm_414 (zgc zm_636 (zgc zm_415 (zgc zm_416 (zgc zm_417 (zgc zm_418 (zgc zm_419 (zgc zm_420 (zgc zm_421 (zgc zm_422 (zgc zm_423 (zgc zm_424 (zgc zm_425 (zgc zm_426 (zgc zm_427 zgn))))))))))))))))))))))))
theorem zw_wsX6_isTrue_r7 : GoodIn lw_tbl wsX6_isTrue_r7 := (zgc zm_428 (zgc zm_429 (zgc zm_430 (zgc zm_238 (zgc zm_431 (zgc zm_432 (zgc zm_433 (zgc zm_434 (zgc zm_640 (zgc zm_435 (zgc zm_436 (zgc zm_437 (zgc zm_438 (zgc zm_439 (zgc zm_440 (zgc zm_441 (zgc zm_247 (zgc zm_250 (zgc zm_253 (zgc zm_256 (zgc zm_261 (zgc zm_442 (zgc zm_444 (zgc zm_10 zgn))))))))))))))))))))))))
theorem zw_wsX6_isTrue_r8 : GoodIn lw_tbl wsX6_isTrue_r8 := (zgc zm_445 (zgc zm_446 (zgc zm_447 (zgc zm_448 (zgc zm_449 (zgc zm_450 (zgc zm_451 (zgc zm_452 (zgc zm_453 (zgc zm_454 (zgc zm_456 (zgc zm_11 (zgc zm_457 (zgc zm_458 (zgc zm_459 (zgc zm_460 (zgc zm_461 (zgc zm_462 (zgc zm_463 (zgc zm_464 (zgc zm_465 (zgc zm_467 (zgc zm_12 (zgc zm_468 zgn))))))))))))))))))))))))
theorem zw_wsX6_isTrue_r9 : GoodIn lw_tbl wsX6_isTrue_r9 := (zgc zm_166 (zgc zm_469 (zgc zm_470 (zgc zm_471 (zgc zm_472 (zgc zm_473 (zgc zm_475 (zgc zm_13 (zgc zm_476 (zgc zm_477 (zgc zm_479 (zgc zm_14 (zgc zm_480 (zgc zm_481 (zgc zm_483 (zgc zm_15 (zgc zm_484 (zgc zm_485 (zgc zm_487 (zgc zm_16 (zgc zm_488 (zgc zm_160 (zgc zm_489 (zgc zm_491 zgn))))))))))))))))))))))))
theorem zw_wsX6_isTrue_r10 : GoodIn lw_tbl wsX6_isTrue_r10 := (zgc zm_17 (zgc zm_492 (zgc zm_493 (zgc zm_495 (zgc zm_18 (zgc zm_496 (zgc zm_497 (zgc zm_499 (zgc zm_19 (zgc zm_500 (zgc zm_186 zgn)))))))))))
theorem zw_wsX6_isTrue : GoodIn lw_tbl wsX6_isTrue := (zgc zm_344 (goodIn_app (goodIn_app (goodIn_app (goodIn_app (goodIn_app (goodIn_app (goodIn_app (goodIn_app (goodIn_app (goodIn_app zw_wsX6_isTrue_r1 (goodIn_app zw_wsX6_isTrue_r2 (goodIn_app zw_wsX6_isTrue_r3 (goodIn_app zw_wsX6_isTrue_r4 (goodIn_app zw_wsX6_isTrue_r5 (goodIn_app zw_wsX6_isTrue_r6 (goodIn_app zw_wsX6_isTrue_r7 (goodIn_app zw_wsX6_isTrue_r8 (goodIn_app zw_wsX6_isTrue_r9 zw_wsX6_isTrue_r10))))))))) zw_wsX60) zw_wsX50) zw_wsX20) zw_wsX30) zw_wsX00) zw_wsX10) zw_wsX40) zx_0) zx_5))
theorem zm_341 : zgo (Cond.methodLink RL 329 yX6_isTrue) := ⟨List.mem_of_getElem? (i := 341) (by decide +kernel), by decide +kernel⟩
theorem zm_342 : zgo (Cond.instanceMethod yX6_isTrue) := ⟨List.mem_of_getElem? (i := 342) (by decide +kernel), by decide +kernel⟩
theorem zm_343 : zgo (Cond.selects RX6 yX6_isTrue yX6_isTrue) := ⟨List.mem_of_getElem? (i := 343) (by decide +kernel), by decide +kernel⟩
theorem gL_law_X6_isTrue : GoodIn lw_tbl (wsV RL 329 RX6 yX6_isTrue wsX6_isTrue) := goodIn_app (a := [Cond.methodLink RL 329 yX6_isTrue, Cond.instanceMethod yX6_isTrue, Cond.selects RX6 yX6_isTrue yX6_isTrue, Cond.initialized RX6]) (zgc zm_341 (zgc zm_342 (zgc zm_343 (zgc zm_69 zgn)))) zw_wsX6_isTrue
theorem zm_2458 : zgo (Cond.code yX10_isTrue cX10_isTrue 1 (some .boolean)) := ⟨List.mem_of_getElem? (i := 2458) (by decide +kernel), by decide +kernel⟩
theorem zw_wsX10_isTrue : GoodIn lw_tbl wsX10_isTrue := (zgc zm_2458 (goodIn_app (zgc zm_1281 zgn) zw_wsX100))
theorem zm_2455 : zgo (Cond.methodLink RL 333 yX10_isTrue) := ⟨List.mem_of_getElem? (i := 2455) (by decide +kernel), by decide +kernel⟩
theorem zm_2456 : zgo (Cond.instanceMethod yX10_isTrue) := ⟨List.mem_of_getElem? (i := 2456) (by decide +kernel), by decide +kernel⟩
theorem zm_2457 : zgo (Cond.selects RX10 yX10_isTrue yX10_isTrue) := ⟨List.mem_of_getElem? (i := 2457) (by decide +kernel), by decide +kernel⟩
theorem gL_law_X10_isTrue : GoodIn lw_tbl (wsV RL 333 RX10 yX10_isTrue wsX10_isTrue) := goodIn_app (a := [Cond.methodLink RL 333 yX10_isTrue, Cond.instanceMethod yX10_isTrue, Cond.selects RX10 yX10_isTrue yX10_isTrue, Cond.initialized RX10]) (zgc zm_2455 (zgc zm_2456 (zgc zm_2457 (zgc zm_73 zgn)))) zw_wsX10_isTrue
