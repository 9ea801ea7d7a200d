/-! the commands: objects of the start -/
def cmN : List String := ["COAL", "BELLOWS", "PIECE", "TOOL", "IN", "OUT", "HAMMER", "QUENCH", "TEST", "BIRD", "SCRAP", "WAIT"]
def wdK (j : Nat) : Nat := ([67, 75, 80, 85, 88, 91, 94, 99, 102, 105, 110, 113] : List Nat).getD j 0
def shK (j : Nat) : Nat := ([69, 77, 82, 77, 69, 69, 96, 69, 69, 107, 69, 69] : List Nat).getD j 0
def cmA (g : mG) (j : Nat) : Nat := stA g "BirdForge$Command" (cmN.getD j "") "LBirdForge$Command;"
def coA (g : mG) : Nat := stA g "BirdForge" "COMMANDS" "[LBirdForge$Command;"
def wdL (j : Nat) : Nat := ([5, 8, 6, 5, 3, 4, 7, 7, 5, 5, 6, 5] : List Nat).getD j 0
def shL (j : Nat) : Nat := ([1, 1, 1, 1, 1, 1, 2, 1, 1, 4, 1, 1] : List Nat).getD j 0
def wdB : Nat → Nat → Int32
  | 0 => by_67
  | 1 => by_75
  | 2 => by_80
  | 3 => by_85
  | 4 => by_88
  | 5 => by_91
  | 6 => by_94
  | 7 => by_99
  | 8 => by_102
  | 9 => by_105
  | 10 => by_110
  | 11 => by_113
  | _ => fun _ => 0
def shB : Nat → Nat → Int32
  | 0 => by_69
  | 1 => by_77
  | 2 => by_82
  | 3 => by_77
  | 4 => by_69
  | 5 => by_69
  | 6 => by_96
  | 7 => by_69
  | 8 => by_69
  | 9 => by_107
  | 10 => by_69
  | 11 => by_69
  | _ => fun _ => 0
theorem fl_265 : (.exactly (.static "BirdForge$Command" "COAL" "LBirdForge$Command;") "BirdForge$Command" : Cond) ∈ FC := List.mem_of_getElem? (i := 265) (by decide +kernel)
theorem fl_273 : (.exactly (.static "BirdForge$Command" "BELLOWS" "LBirdForge$Command;") "BirdForge$Command" : Cond) ∈ FC := List.mem_of_getElem? (i := 273) (by decide +kernel)
theorem fl_282 : (.exactly (.static "BirdForge$Command" "PIECE" "LBirdForge$Command;") "BirdForge$Command" : Cond) ∈ FC := List.mem_of_getElem? (i := 282) (by decide +kernel)
theorem fl_292 : (.exactly (.static "BirdForge$Command" "TOOL" "LBirdForge$Command;") "BirdForge$Command" : Cond) ∈ FC := List.mem_of_getElem? (i := 292) (by decide +kernel)
theorem fl_303 : (.exactly (.static "BirdForge$Command" "IN" "LBirdForge$Command;") "BirdForge$Command" : Cond) ∈ FC := List.mem_of_getElem? (i := 303) (by decide +kernel)
theorem fl_315 : (.exactly (.static "BirdForge$Command" "OUT" "LBirdForge$Command;") "BirdForge$Command" : Cond) ∈ FC := List.mem_of_getElem? (i := 315) (by decide +kernel)
theorem fl_328 : (.exactly (.static "BirdForge$Command" "HAMMER" "LBirdForge$Command;") "BirdForge$Command" : Cond) ∈ FC := List.mem_of_getElem? (i := 328) (by decide +kernel)
theorem fl_342 : (.exactly (.static "BirdForge$Command" "QUENCH" "LBirdForge$Command;") "BirdForge$Command" : Cond) ∈ FC := List.mem_of_getElem? (i := 342) (by decide +kernel)
theorem fl_357 : (.exactly (.static "BirdForge$Command" "TEST" "LBirdForge$Command;") "BirdForge$Command" : Cond) ∈ FC := List.mem_of_getElem? (i := 357) (by decide +kernel)
theorem fl_373 : (.exactly (.static "BirdForge$Command" "BIRD" "LBirdForge$Command;") "BirdForge$Command" : Cond) ∈ FC := List.mem_of_getElem? (i := 373) (by decide +kernel)
theorem fl_390 : (.exactly (.static "BirdForge$Command" "SCRAP" "LBirdForge$Command;") "BirdForge$Command" : Cond) ∈ FC := List.mem_of_getElem? (i := 390) (by decide +kernel)
theorem fl_6 : (.exactly (.static "BirdForge$Command" "WAIT" "LBirdForge$Command;") "BirdForge$Command" : Cond) ∈ FC := List.mem_of_getElem? (i := 6) (by decide +kernel)
theorem fl_267 : (.eq (.field (.static "BirdForge$Command" "COAL" "LBirdForge$Command;") "BirdForge$Command" "word" "Ljava/lang/String;") (.string "BirdForge$Command" 67) : Cond) ∈ FC := List.mem_of_getElem? (i := 267) (by decide +kernel)
theorem fl_275 : (.eq (.field (.static "BirdForge$Command" "BELLOWS" "LBirdForge$Command;") "BirdForge$Command" "word" "Ljava/lang/String;") (.string "BirdForge$Command" 75) : Cond) ∈ FC := List.mem_of_getElem? (i := 275) (by decide +kernel)
theorem fl_284 : (.eq (.field (.static "BirdForge$Command" "PIECE" "LBirdForge$Command;") "BirdForge$Command" "word" "Ljava/lang/String;") (.string "BirdForge$Command" 80) : Cond) ∈ FC := List.mem_of_getElem? (i := 284) (by decide +kernel)
theorem fl_294 : (.eq (.field (.static "BirdForge$Command" "TOOL" "LBirdForge$Command;") "BirdForge$Command" "word" "Ljava/lang/String;") (.string "BirdForge$Command" 85) : Cond) ∈ FC := List.mem_of_getElem? (i := 294) (by decide +kernel)
theorem fl_305 : (.eq (.field (.static "BirdForge$Command" "IN" "LBirdForge$Command;") "BirdForge$Command" "word" "Ljava/lang/String;") (.string "BirdForge$Command" 88) : Cond) ∈ FC := List.mem_of_getElem? (i := 305) (by decide +kernel)
theorem fl_317 : (.eq (.field (.static "BirdForge$Command" "OUT" "LBirdForge$Command;") "BirdForge$Command" "word" "Ljava/lang/String;") (.string "BirdForge$Command" 91) : Cond) ∈ FC := List.mem_of_getElem? (i := 317) (by decide +kernel)
theorem fl_330 : (.eq (.field (.static "BirdForge$Command" "HAMMER" "LBirdForge$Command;") "BirdForge$Command" "word" "Ljava/lang/String;") (.string "BirdForge$Command" 94) : Cond) ∈ FC := List.mem_of_getElem? (i := 330) (by decide +kernel)
theorem fl_344 : (.eq (.field (.static "BirdForge$Command" "QUENCH" "LBirdForge$Command;") "BirdForge$Command" "word" "Ljava/lang/String;") (.string "BirdForge$Command" 99) : Cond) ∈ FC := List.mem_of_getElem? (i := 344) (by decide +kernel)
theorem fl_359 : (.eq (.field (.static "BirdForge$Command" "TEST" "LBirdForge$Command;") "BirdForge$Command" "word" "Ljava/lang/String;") (.string "BirdForge$Command" 102) : Cond) ∈ FC := List.mem_of_getElem? (i := 359) (by decide +kernel)
theorem fl_375 : (.eq (.field (.static "BirdForge$Command" "BIRD" "LBirdForge$Command;") "BirdForge$Command" "word" "Ljava/lang/String;") (.string "BirdForge$Command" 105) : Cond) ∈ FC := List.mem_of_getElem? (i := 375) (by decide +kernel)
theorem fl_392 : (.eq (.field (.static "BirdForge$Command" "SCRAP" "LBirdForge$Command;") "BirdForge$Command" "word" "Ljava/lang/String;") (.string "BirdForge$Command" 110) : Cond) ∈ FC := List.mem_of_getElem? (i := 392) (by decide +kernel)
theorem fl_8 : (.eq (.field (.static "BirdForge$Command" "WAIT" "LBirdForge$Command;") "BirdForge$Command" "word" "Ljava/lang/String;") (.string "BirdForge$Command" 113) : Cond) ∈ FC := List.mem_of_getElem? (i := 8) (by decide +kernel)
theorem fl_268 : (.eq (.field (.static "BirdForge$Command" "COAL" "LBirdForge$Command;") "BirdForge$Command" "shape" "Ljava/lang/String;") (.string "BirdForge$Command" 69) : Cond) ∈ FC := List.mem_of_getElem? (i := 268) (by decide +kernel)
theorem fl_276 : (.eq (.field (.static "BirdForge$Command" "BELLOWS" "LBirdForge$Command;") "BirdForge$Command" "shape" "Ljava/lang/String;") (.string "BirdForge$Command" 77) : Cond) ∈ FC := List.mem_of_getElem? (i := 276) (by decide +kernel)
theorem fl_285 : (.eq (.field (.static "BirdForge$Command" "PIECE" "LBirdForge$Command;") "BirdForge$Command" "shape" "Ljava/lang/String;") (.string "BirdForge$Command" 82) : Cond) ∈ FC := List.mem_of_getElem? (i := 285) (by decide +kernel)
theorem fl_295 : (.eq (.field (.static "BirdForge$Command" "TOOL" "LBirdForge$Command;") "BirdForge$Command" "shape" "Ljava/lang/String;") (.string "BirdForge$Command" 77) : Cond) ∈ FC := List.mem_of_getElem? (i := 295) (by decide +kernel)
theorem fl_306 : (.eq (.field (.static "BirdForge$Command" "IN" "LBirdForge$Command;") "BirdForge$Command" "shape" "Ljava/lang/String;") (.string "BirdForge$Command" 69) : Cond) ∈ FC := List.mem_of_getElem? (i := 306) (by decide +kernel)
theorem fl_318 : (.eq (.field (.static "BirdForge$Command" "OUT" "LBirdForge$Command;") "BirdForge$Command" "shape" "Ljava/lang/String;") (.string "BirdForge$Command" 69) : Cond) ∈ FC := List.mem_of_getElem? (i := 318) (by decide +kernel)
theorem fl_331 : (.eq (.field (.static "BirdForge$Command" "HAMMER" "LBirdForge$Command;") "BirdForge$Command" "shape" "Ljava/lang/String;") (.string "BirdForge$Command" 96) : Cond) ∈ FC := List.mem_of_getElem? (i := 331) (by decide +kernel)
theorem fl_345 : (.eq (.field (.static "BirdForge$Command" "QUENCH" "LBirdForge$Command;") "BirdForge$Command" "shape" "Ljava/lang/String;") (.string "BirdForge$Command" 69) : Cond) ∈ FC := List.mem_of_getElem? (i := 345) (by decide +kernel)
theorem fl_360 : (.eq (.field (.static "BirdForge$Command" "TEST" "LBirdForge$Command;") "BirdForge$Command" "shape" "Ljava/lang/String;") (.string "BirdForge$Command" 69) : Cond) ∈ FC := List.mem_of_getElem? (i := 360) (by decide +kernel)
theorem fl_376 : (.eq (.field (.static "BirdForge$Command" "BIRD" "LBirdForge$Command;") "BirdForge$Command" "shape" "Ljava/lang/String;") (.string "BirdForge$Command" 107) : Cond) ∈ FC := List.mem_of_getElem? (i := 376) (by decide +kernel)
theorem fl_393 : (.eq (.field (.static "BirdForge$Command" "SCRAP" "LBirdForge$Command;") "BirdForge$Command" "shape" "Ljava/lang/String;") (.string "BirdForge$Command" 69) : Cond) ∈ FC := List.mem_of_getElem? (i := 393) (by decide +kernel)
theorem fl_9 : (.eq (.field (.static "BirdForge$Command" "WAIT" "LBirdForge$Command;") "BirdForge$Command" "shape" "Ljava/lang/String;") (.string "BirdForge$Command" 69) : Cond) ∈ FC := List.mem_of_getElem? (i := 9) (by decide +kernel)
theorem fl_266 : (.eq (.field (.static "BirdForge$Command" "COAL" "LBirdForge$Command;") "java/lang/Enum" "ordinal" "I") (.int 0) : Cond) ∈ FC := List.mem_of_getElem? (i := 266) (by decide +kernel)
theorem fl_274 : (.eq (.field (.static "BirdForge$Command" "BELLOWS" "LBirdForge$Command;") "java/lang/Enum" "ordinal" "I") (.int 1) : Cond) ∈ FC := List.mem_of_getElem? (i := 274) (by decide +kernel)
theorem fl_283 : (.eq (.field (.static "BirdForge$Command" "PIECE" "LBirdForge$Command;") "java/lang/Enum" "ordinal" "I") (.int 2) : Cond) ∈ FC := List.mem_of_getElem? (i := 283) (by decide +kernel)
theorem fl_293 : (.eq (.field (.static "BirdForge$Command" "TOOL" "LBirdForge$Command;") "java/lang/Enum" "ordinal" "I") (.int 3) : Cond) ∈ FC := List.mem_of_getElem? (i := 293) (by decide +kernel)
theorem fl_304 : (.eq (.field (.static "BirdForge$Command" "IN" "LBirdForge$Command;") "java/lang/Enum" "ordinal" "I") (.int 4) : Cond) ∈ FC := List.mem_of_getElem? (i := 304) (by decide +kernel)
theorem fl_316 : (.eq (.field (.static "BirdForge$Command" "OUT" "LBirdForge$Command;") "java/lang/Enum" "ordinal" "I") (.int 5) : Cond) ∈ FC := List.mem_of_getElem? (i := 316) (by decide +kernel)
theorem fl_329 : (.eq (.field (.static "BirdForge$Command" "HAMMER" "LBirdForge$Command;") "java/lang/Enum" "ordinal" "I") (.int 6) : Cond) ∈ FC := List.mem_of_getElem? (i := 329) (by decide +kernel)
theorem fl_343 : (.eq (.field (.static "BirdForge$Command" "QUENCH" "LBirdForge$Command;") "java/lang/Enum" "ordinal" "I") (.int 7) : Cond) ∈ FC := List.mem_of_getElem? (i := 343) (by decide +kernel)
theorem fl_358 : (.eq (.field (.static "BirdForge$Command" "TEST" "LBirdForge$Command;") "java/lang/Enum" "ordinal" "I") (.int 8) : Cond) ∈ FC := List.mem_of_getElem? (i := 358) (by decide +kernel)
theorem fl_374 : (.eq (.field (.static "BirdForge$Command" "BIRD" "LBirdForge$Command;") "java/lang/Enum" "ordinal" "I") (.int 9) : Cond) ∈ FC := List.mem_of_getElem? (i := 374) (by decide +kernel)
theorem fl_391 : (.eq (.field (.static "BirdForge$Command" "SCRAP" "LBirdForge$Command;") "java/lang/Enum" "ordinal" "I") (.int 10) : Cond) ∈ FC := List.mem_of_getElem? (i := 391) (by decide +kernel)
theorem fl_7 : (.eq (.field (.static "BirdForge$Command" "WAIT" "LBirdForge$Command;") "java/lang/Enum" "ordinal" "I") (.int 11) : Cond) ∈ FC := List.mem_of_getElem? (i := 7) (by decide +kernel)
theorem cm_word {l : Launch} {g : mG} (hO : mO l g) : ∀ j, j < 12 → oF g "BirdForge$Command" "word" "Ljava/lang/String;" (.ref (srA g "BirdForge$Command" (wdK j))) (cmA g j) := by
  intro j hj
  match j, hj with
  | 0, _ => exact of_str hO fl_265 fl_267 fl_1423
  | 1, _ => exact of_str hO fl_273 fl_275 fl_1432
  | 2, _ => exact of_str hO fl_282 fl_284 fl_1449
  | 3, _ => exact of_str hO fl_292 fl_294 fl_1464
  | 4, _ => exact of_str hO fl_303 fl_305 fl_1473
  | 5, _ => exact of_str hO fl_315 fl_317 fl_1480
  | 6, _ => exact of_str hO fl_328 fl_330 fl_1488
  | 7, _ => exact of_str hO fl_342 fl_344 fl_1505
  | 8, _ => exact of_str hO fl_357 fl_359 fl_1516
  | 9, _ => exact of_str hO fl_373 fl_375 fl_1525
  | 10, _ => exact of_str hO fl_390 fl_392 fl_1542
  | 11, _ => exact of_str hO fl_6 fl_8 fl_1409
  | k + 12, h => exact absurd h (by omega)
theorem cm_shape {l : Launch} {g : mG} (hO : mO l g) : ∀ j, j < 12 → oF g "BirdForge$Command" "shape" "Ljava/lang/String;" (.ref (srA g "BirdForge$Command" (shK j))) (cmA g j) := by
  intro j hj
  match j, hj with
  | 0, _ => exact of_str hO fl_265 fl_268 fl_1418
  | 1, _ => exact of_str hO fl_273 fl_276 fl_1444
  | 2, _ => exact of_str hO fl_282 fl_285 fl_1459
  | 3, _ => exact of_str hO fl_292 fl_295 fl_1444
  | 4, _ => exact of_str hO fl_303 fl_306 fl_1418
  | 5, _ => exact of_str hO fl_315 fl_318 fl_1418
  | 6, _ => exact of_str hO fl_328 fl_331 fl_1499
  | 7, _ => exact of_str hO fl_342 fl_345 fl_1418
  | 8, _ => exact of_str hO fl_357 fl_360 fl_1418
  | 9, _ => exact of_str hO fl_373 fl_376 fl_1534
  | 10, _ => exact of_str hO fl_390 fl_393 fl_1418
  | 11, _ => exact of_str hO fl_6 fl_9 fl_1418
  | k + 12, h => exact absurd h (by omega)
theorem cm_ord {l : Launch} {g : mG} (hO : mO l g) : ∀ j, j < 12 → oF g "java/lang/Enum" "ordinal" "I" (.int (nI j)) (cmA g j) := by
  intro j hj
  match j, hj with
  | 0, _ => exact of_int hO fl_265 fl_266
  | 1, _ => exact of_int hO fl_273 fl_274
  | 2, _ => exact of_int hO fl_282 fl_283
  | 3, _ => exact of_int hO fl_292 fl_293
  | 4, _ => exact of_int hO fl_303 fl_304
  | 5, _ => exact of_int hO fl_315 fl_316
  | 6, _ => exact of_int hO fl_328 fl_329
  | 7, _ => exact of_int hO fl_342 fl_343
  | 8, _ => exact of_int hO fl_357 fl_358
  | 9, _ => exact of_int hO fl_373 fl_374
  | 10, _ => exact of_int hO fl_390 fl_391
  | 11, _ => exact of_int hO fl_6 fl_7
  | k + 12, h => exact absurd h (by omega)
theorem cm_wS {l : Launch} {g : mG} (hO : mO l g) : ∀ j, j < 12 → oS g (srA g "BirdForge$Command" (wdK j)) (svA g "BirdForge$Command" (wdK j)) (wdL j) (wdB j) := by
  intro j hj
  match j, hj with
  | 0, _ => exact sS_67 hO
  | 1, _ => exact sS_75 hO
  | 2, _ => exact sS_80 hO
  | 3, _ => exact sS_85 hO
  | 4, _ => exact sS_88 hO
  | 5, _ => exact sS_91 hO
  | 6, _ => exact sS_94 hO
  | 7, _ => exact sS_99 hO
  | 8, _ => exact sS_102 hO
  | 9, _ => exact sS_105 hO
  | 10, _ => exact sS_110 hO
  | 11, _ => exact sS_113 hO
  | k + 12, h => exact absurd h (by omega)
theorem cm_sS {l : Launch} {g : mG} (hO : mO l g) : ∀ j, j < 12 → oS g (srA g "BirdForge$Command" (shK j)) (svA g "BirdForge$Command" (shK j)) (shL j) (shB j) := by
  intro j hj
  match j, hj with
  | 0, _ => exact sS_69 hO
  | 1, _ => exact sS_77 hO
  | 2, _ => exact sS_82 hO
  | 3, _ => exact sS_77 hO
  | 4, _ => exact sS_69 hO
  | 5, _ => exact sS_69 hO
  | 6, _ => exact sS_96 hO
  | 7, _ => exact sS_69 hO
  | 8, _ => exact sS_69 hO
  | 9, _ => exact sS_107 hO
  | 10, _ => exact sS_69 hO
  | 11, _ => exact sS_69 hO
  | k + 12, h => exact absurd h (by omega)
theorem wdL_8 : ∀ j, j < 12 → wdL j ≤ 8 ∧ 1 ≤ wdL j := by decide
theorem shL_4 : ∀ j, j < 12 → shL j ≤ 4 ∧ 1 ≤ shL j := by decide
theorem st_O {l : Launch} {g : mG} (hO : mO l g) {C n d E : String} (hx : Cond.exactly (.static C n d) E ∈ FC) : oO g E (stA g C n d) ∧ ∃ b : Addr, (Jvm.Cond.and given_1 narrow_1).before #[Value.ref b] g.2.2 = true ∧ (Term.static C n d).eval #[Value.ref b] g.2.2 none [] g.2.2 = some (.ref (stA g C n d)) := by
  obtain ⟨-, -, b, h, hw⟩ := hO
  obtain ⟨a, c, cell, k, q1, -⟩ := Cond.exactly_spec (flat_of_before _ h _ hx)
  have e : stA g C n d = a := by
    have q : (Term.static C n d).eval #[] g.2.2 none [] g.2.2 = some (.ref a) := q1
    unfold stA
    rw [q]
  rw [e]
  exact ⟨va_Oof (flat_of_before _ h _ hx) q1 (mO_old g), b, h, q1⟩
theorem cm_O {l : Launch} {g : mG} (hO : mO l g) : ∀ j, j < 12 → oO g "BirdForge$Command" (cmA g j) := by
  intro j hj
  match j, hj with
  | 0, _ => exact (st_O hO fl_265).1
  | 1, _ => exact (st_O hO fl_273).1
  | 2, _ => exact (st_O hO fl_282).1
  | 3, _ => exact (st_O hO fl_292).1
  | 4, _ => exact (st_O hO fl_303).1
  | 5, _ => exact (st_O hO fl_315).1
  | 6, _ => exact (st_O hO fl_328).1
  | 7, _ => exact (st_O hO fl_342).1
  | 8, _ => exact (st_O hO fl_357).1
  | 9, _ => exact (st_O hO fl_373).1
  | 10, _ => exact (st_O hO fl_390).1
  | 11, _ => exact (st_O hO fl_6).1
  | k + 12, h => exact absurd h (by omega)
theorem fl_238 : (.eq (.elem (.static "BirdForge" "COMMANDS" "[LBirdForge$Command;") (.int 0)) (.static "BirdForge$Command" "COAL" "LBirdForge$Command;") : Cond) ∈ FC := List.mem_of_getElem? (i := 238) (by decide +kernel)
theorem fl_239 : (.eq (.elem (.static "BirdForge" "COMMANDS" "[LBirdForge$Command;") (.int 1)) (.static "BirdForge$Command" "BELLOWS" "LBirdForge$Command;") : Cond) ∈ FC := List.mem_of_getElem? (i := 239) (by decide +kernel)
theorem fl_240 : (.eq (.elem (.static "BirdForge" "COMMANDS" "[LBirdForge$Command;") (.int 2)) (.static "BirdForge$Command" "PIECE" "LBirdForge$Command;") : Cond) ∈ FC := List.mem_of_getElem? (i := 240) (by decide +kernel)
theorem fl_241 : (.eq (.elem (.static "BirdForge" "COMMANDS" "[LBirdForge$Command;") (.int 3)) (.static "BirdForge$Command" "TOOL" "LBirdForge$Command;") : Cond) ∈ FC := List.mem_of_getElem? (i := 241) (by decide +kernel)
theorem fl_242 : (.eq (.elem (.static "BirdForge" "COMMANDS" "[LBirdForge$Command;") (.int 4)) (.static "BirdForge$Command" "IN" "LBirdForge$Command;") : Cond) ∈ FC := List.mem_of_getElem? (i := 242) (by decide +kernel)
theorem fl_243 : (.eq (.elem (.static "BirdForge" "COMMANDS" "[LBirdForge$Command;") (.int 5)) (.static "BirdForge$Command" "OUT" "LBirdForge$Command;") : Cond) ∈ FC := List.mem_of_getElem? (i := 243) (by decide +kernel)
theorem fl_244 : (.eq (.elem (.static "BirdForge" "COMMANDS" "[LBirdForge$Command;") (.int 6)) (.static "BirdForge$Command" "HAMMER" "LBirdForge$Command;") : Cond) ∈ FC := List.mem_of_getElem? (i := 244) (by decide +kernel)
theorem fl_245 : (.eq (.elem (.static "BirdForge" "COMMANDS" "[LBirdForge$Command;") (.int 7)) (.static "BirdForge$Command" "QUENCH" "LBirdForge$Command;") : Cond) ∈ FC := List.mem_of_getElem? (i := 245) (by decide +kernel)
theorem fl_246 : (.eq (.elem (.static "BirdForge" "COMMANDS" "[LBirdForge$Command;") (.int 8)) (.static "BirdForge$Command" "TEST" "LBirdForge$Command;") : Cond) ∈ FC := List.mem_of_getElem? (i := 246) (by decide +kernel)
theorem fl_247 : (.eq (.elem (.static "BirdForge" "COMMANDS" "[LBirdForge$Command;") (.int 9)) (.static "BirdForge$Command" "BIRD" "LBirdForge$Command;") : Cond) ∈ FC := List.mem_of_getElem? (i := 247) (by decide +kernel)
theorem fl_248 : (.eq (.elem (.static "BirdForge" "COMMANDS" "[LBirdForge$Command;") (.int 10)) (.static "BirdForge$Command" "SCRAP" "LBirdForge$Command;") : Cond) ∈ FC := List.mem_of_getElem? (i := 248) (by decide +kernel)
theorem fl_249 : (.eq (.elem (.static "BirdForge" "COMMANDS" "[LBirdForge$Command;") (.int 11)) (.static "BirdForge$Command" "WAIT" "LBirdForge$Command;") : Cond) ∈ FC := List.mem_of_getElem? (i := 249) (by decide +kernel)
theorem fl_235 : (.arrayOf (.static "BirdForge" "COMMANDS" "[LBirdForge$Command;") (.object "BirdForge$Command") : Cond) ∈ FC := List.mem_of_getElem? (i := 235) (by decide +kernel)
theorem fl_236 : (.eq (.length (.static "BirdForge" "COMMANDS" "[LBirdForge$Command;")) (.int 12) : Cond) ∈ FC := List.mem_of_getElem? (i := 236) (by decide +kernel)
theorem fl_234 : (.exactly (.static "BirdForge" "COMMANDS" "[LBirdForge$Command;") "[LBirdForge$Command;" : Cond) ∈ FC := List.mem_of_getElem? (i := 234) (by decide +kernel)
theorem co_T {l : Launch} {g : mG} (hO : mO l g) : oT g (.object "BirdForge$Command") (coA g) 12 (fun j => .ref (cmA g j)) := by
  obtain ⟨b, h, q1⟩ := (st_O hO fl_234).2
  have F := flat_of_before _ h
  have hel : ∀ j, j < 12 → (Term.elem (.static "BirdForge" "COMMANDS" "[LBirdForge$Command;") (.int (Int32.ofNat j))).eval #[Value.ref b] g.2.2 none [] g.2.2 = some (.ref (cmA g j)) := by
    intro j hj
    match j, hj with
    | 0, _ =>
      obtain ⟨b2, h2, q2⟩ := (st_O hO fl_265).2
      exact va_eqv (F _ fl_238) q2
    | 1, _ =>
      obtain ⟨b2, h2, q2⟩ := (st_O hO fl_273).2
      exact va_eqv (F _ fl_239) q2
    | 2, _ =>
      obtain ⟨b2, h2, q2⟩ := (st_O hO fl_282).2
      exact va_eqv (F _ fl_240) q2
    | 3, _ =>
      obtain ⟨b2, h2, q2⟩ := (st_O hO fl_292).2
      exact va_eqv (F _ fl_241) q2
    | 4, _ =>
      obtain ⟨b2, h2, q2⟩ := (st_O hO fl_303).2
      exact va_eqv (F _ fl_242) q2
    | 5, _ =>
      obtain ⟨b2, h2, q2⟩ := (st_O hO fl_315).2
      exact va_eqv (F _ fl_243) q2
    | 6, _ =>
      obtain ⟨b2, h2, q2⟩ := (st_O hO fl_328).2
      exact va_eqv (F _ fl_244) q2
    | 7, _ =>
      obtain ⟨b2, h2, q2⟩ := (st_O hO fl_342).2
      exact va_eqv (F _ fl_245) q2
    | 8, _ =>
      obtain ⟨b2, h2, q2⟩ := (st_O hO fl_357).2
      exact va_eqv (F _ fl_246) q2
    | 9, _ =>
      obtain ⟨b2, h2, q2⟩ := (st_O hO fl_373).2
      exact va_eqv (F _ fl_247) q2
    | 10, _ =>
      obtain ⟨b2, h2, q2⟩ := (st_O hO fl_390).2
      exact va_eqv (F _ fl_248) q2
    | 11, _ =>
      obtain ⟨b2, h2, q2⟩ := (st_O hO fl_6).2
      exact va_eqv (F _ fl_249) q2
    | k + 12, h => exact absurd h (by omega)
  obtain ⟨t, r1, hT⟩ := va_Tof (f := fun j => .ref (cmA g j)) (N := 12) (by decide) (F _ fl_235) (va_eqt (F _ fl_236)) hel (mO_old g)
  have e : coA g = t := by
    have h9 := q1.symm.trans r1
    cases h9
    rfl
  rw [e]
  exact hT
theorem co_Z {l : Launch} {g : mG} (hO : mO l g) : va_Z "BirdForge" "COMMANDS" "[LBirdForge$Command;" (.ref (coA g)) (fun a => (gH g).size ≤ a) g.2.2 (gH g) := (st_ref hO wd_1355 wd_1 fl_234).1
theorem v_getsN {l : Launch} {g : mG} {x : mCx} {m : mM} {cc : ByteArray} {y : MethodName} {rm : Room} {nL : Nat} {ce sl pc : Nat} {lv : List (Nat × Value)} {st : List Value} {C n d host : String} {index : Nat} {v : Value} (hX : mX l g x cc y rm nL) (hdg : decode cc pc = .ok (.getstatic index, 3)) (hZ : va_Z C n d v (fun q => (gH g).size ≤ q) g.2.2 (gH g)) (hw : Cond.fieldLinkNest y.cls index C n d host ∈ lw_tbl) (kk : mV g x m ce sl (pc + 3) lv (v :: st)) : mV g x m ce sl pc lv st := by
  obtain ⟨p, l', e, R, s, md, args, below, meth, c, Q⟩ := x
  obtain ⟨rfl, hx, hb, hml, ⟨hown, hnm⟩, hts, hvm, rfl, hO, hH9⟩ := hX
  exact fun H locs ls hP hz hL hl => va_getsN hx hb (mV_Z hZ hvm hH9.2) (mV_S hP hz hL hH9.2) hown (mN hO hvm hw rfl) (fun _ h => h) hdg (kk H locs ls hP hz hL hl)
