/-! THE COMMANDS and the strings of the start -/
abbrev FC : List Cond := flatC (Jvm.Cond.and given_1 narrow_1)
def srA (g : mG) (C : String) (K : Nat) : Nat := match (Term.string C K).eval #[] g.2.2 none [] g.2.2 with
  | some (.ref a) => a
  | _ => 0
def svA (g : mG) (C : String) (K : Nat) : Nat := match (Term.field (Term.string C K) "java/lang/String" "value" "[B").eval #[] g.2.2 none [] g.2.2 with
  | some (.ref a) => a
  | _ => 0
theorem sr_e {g : mG} {C : String} {K a : Nat} (h : (Term.string C K).eval #[] g.2.2 none [] g.2.2 = some (.ref a)) : srA g C K = a := by
  unfold srA
  rw [h]
theorem sv_e {g : mG} {C : String} {K a : Nat} (h : (Term.field (Term.string C K) "java/lang/String" "value" "[B").eval #[] g.2.2 none [] g.2.2 = some (.ref a)) : svA g C K = a := by
  unfold svA
  rw [h]
theorem sr_S {l : Launch} {g : mG} {C : String} {K L : Nat} {byt : Nat → Int32} (hO : mO l g) (hL : L < 2 ^ 31) (w1 : Cond.exactly (.string C K) "java/lang/String" ∈ FC) (w2 : Cond.eq (.field (.string C K) "java/lang/String" "coder" "B") (.int 0) ∈ FC) (w3 : Cond.arrayOf (.field (.string C K) "java/lang/String" "value" "[B") .byte ∈ FC) (w4 : Cond.eq (.length (.field (.string C K) "java/lang/String" "value" "[B")) (.int (Int32.ofNat L)) ∈ FC)
    (w5 : ∀ j, j < L → Cond.eq (.elem (.field (.string C K) "java/lang/String" "value" "[B") (.int (Int32.ofNat j))) (.int (byt j)) ∈ FC) : oS g (srA g C K) (svA g C K) L byt := by
  obtain ⟨-, -, b, h, hw⟩ := hO
  have F := flat_of_before _ h
  obtain ⟨a, c, cell, k, q1, -⟩ := Cond.exactly_spec (F _ w1)
  obtain ⟨t, r1, hT⟩ := va_Tof (f := fun j => .int (byt j)) hL (F _ w3) (va_eqt (F _ w4)) (fun j hj => va_eqt (F _ (w5 j hj))) (mO_old g)
  have e1 : srA g C K = a := sr_e q1
  have e2 : svA g C K = t := sv_e r1
  rw [e1, e2]
  exact ⟨va_Oof (F _ w1) q1 (mO_old g), vk_OFof q1 (va_eqt (F _ w2)) (mO_old g), vk_OFof q1 r1 (mO_old g), hT, hL⟩
theorem sr_ev {l : Launch} {g : mG} {C : String} {K : Nat} (hO : mO l g) (w1 : Cond.exactly (.string C K) "java/lang/String" ∈ FC) : ∃ b : Addr, (Term.string C K).eval #[Value.ref b] g.2.2 none [] g.2.2 = some (.ref (srA g C K)) := by
  obtain ⟨-, -, b, h, hw⟩ := hO
  obtain ⟨a, c, cell, k, q1, -⟩ := Cond.exactly_spec (flat_of_before _ h _ w1)
  have e1 : srA g C K = a := sr_e q1
  rw [e1]
  exact ⟨b, q1⟩
/-- an object constant's fields -/
theorem of_int {l : Launch} {g : mG} {C n d E o n' d' : String} {z : Int32} (hO : mO l g) (hx : Cond.exactly (.static C n d) E ∈ FC) (hf : Cond.eq (.field (.static C n d) o n' d') (.int z) ∈ FC) : oF g o n' d' (.int z) (stA g C n d) := by
  obtain ⟨-, -, b, h, hw⟩ := hO
  obtain ⟨a, c, cell, k, q1, -⟩ := Cond.exactly_spec (flat_of_before _ h _ hx)
  have e : stA g C n d = a := by
    have q : (Term.static C n d).eval #[] g.2.2 none [] g.2.2 = some (.ref a) := q1
    unfold stA
    rw [q]
  rw [e]
  exact vk_OFof q1 (va_eqt (flat_of_before _ h _ hf)) (mO_old g)
theorem of_str {l : Launch} {g : mG} {C n d E o n' d' C' : String} {K : Nat} (hO : mO l g) (hx : Cond.exactly (.static C n d) E ∈ FC) (hf : Cond.eq (.field (.static C n d) o n' d') (.string C' K) ∈ FC) (w1 : Cond.exactly (.string C' K) "java/lang/String" ∈ FC) : oF g o n' d' (.ref (srA g C' K)) (stA g C n d) := by
  obtain ⟨-, -, b, h, hw⟩ := hO
  obtain ⟨a, c, cell, k, q1, -⟩ := Cond.exactly_spec (flat_of_before _ h _ hx)
  have e : stA g C n d = a := by
    have q : (Term.static C n d).eval #[] g.2.2 none [] g.2.2 = some (.ref a) := q1
    unfold stA
    rw [q]
  obtain ⟨a2, c2, cell2, k2, q2, -⟩ := Cond.exactly_spec (flat_of_before _ h _ w1)
  have e1 : srA g C' K = a2 := sr_e q2
  rw [e, e1]
  exact vk_OFof q1 (va_eqv (flat_of_before _ h _ hf) q2) (mO_old g)
theorem fl_1423 : (.exactly (.string "BirdForge$Command" 67) "java/lang/String" : Cond) ∈ FC := List.mem_of_getElem? (i := 1423) (by decide +kernel)
theorem fl_1424 : (.eq (.field (.string "BirdForge$Command" 67) "java/lang/String" "coder" "B") (.int 0) : Cond) ∈ FC := List.mem_of_getElem? (i := 1424) (by decide +kernel)
theorem fl_1425 : (.arrayOf (.field (.string "BirdForge$Command" 67) "java/lang/String" "value" "[B") .byte : Cond) ∈ FC := List.mem_of_getElem? (i := 1425) (by decide +kernel)
theorem fl_1426 : (.eq (.length (.field (.string "BirdForge$Command" 67) "java/lang/String" "value" "[B")) (.int 5) : Cond) ∈ FC := List.mem_of_getElem? (i := 1426) (by decide +kernel)
theorem fl_1427 : (.eq (.elem (.field (.string "BirdForge$Command" 67) "java/lang/String" "value" "[B") (.int 0)) (.int 99) : Cond) ∈ FC := List.mem_of_getElem? (i := 1427) (by decide +kernel)
theorem fl_1428 : (.eq (.elem (.field (.string "BirdForge$Command" 67) "java/lang/String" "value" "[B") (.int 1)) (.int 111) : Cond) ∈ FC := List.mem_of_getElem? (i := 1428) (by decide +kernel)
theorem fl_1429 : (.eq (.elem (.field (.string "BirdForge$Command" 67) "java/lang/String" "value" "[B") (.int 2)) (.int 97) : Cond) ∈ FC := List.mem_of_getElem? (i := 1429) (by decide +kernel)
theorem fl_1430 : (.eq (.elem (.field (.string "BirdForge$Command" 67) "java/lang/String" "value" "[B") (.int 3)) (.int 108) : Cond) ∈ FC := List.mem_of_getElem? (i := 1430) (by decide +kernel)
theorem fl_1431 : (.eq (.elem (.field (.string "BirdForge$Command" 67) "java/lang/String" "value" "[B") (.int 4)) (.int 32) : Cond) ∈ FC := List.mem_of_getElem? (i := 1431) (by decide +kernel)
def by_67 : Nat → Int32 := fun j => ([99, 111, 97, 108, 32] : List Int32).getD j 0
theorem sS_67 {l : Launch} {g : mG} (hO : mO l g) : oS g (srA g "BirdForge$Command" 67) (svA g "BirdForge$Command" 67) 5 by_67 := by
  refine sr_S hO (by decide) fl_1423 fl_1424 fl_1425 fl_1426 (fun j hj => ?_)
  match j, hj with
  | 0, _ => exact fl_1427
  | 1, _ => exact fl_1428
  | 2, _ => exact fl_1429
  | 3, _ => exact fl_1430
  | 4, _ => exact fl_1431
  | k + 5, h => exact absurd h (by omega)
theorem fl_1418 : (.exactly (.string "BirdForge$Command" 69) "java/lang/String" : Cond) ∈ FC := List.mem_of_getElem? (i := 1418) (by decide +kernel)
theorem fl_1419 : (.eq (.field (.string "BirdForge$Command" 69) "java/lang/String" "coder" "B") (.int 0) : Cond) ∈ FC := List.mem_of_getElem? (i := 1419) (by decide +kernel)
theorem fl_1420 : (.arrayOf (.field (.string "BirdForge$Command" 69) "java/lang/String" "value" "[B") .byte : Cond) ∈ FC := List.mem_of_getElem? (i := 1420) (by decide +kernel)
theorem fl_1421 : (.eq (.length (.field (.string "BirdForge$Command" 69) "java/lang/String" "value" "[B")) (.int 1) : Cond) ∈ FC := List.mem_of_getElem? (i := 1421) (by decide +kernel)
theorem fl_1422 : (.eq (.elem (.field (.string "BirdForge$Command" 69) "java/lang/String" "value" "[B") (.int 0)) (.int 110) : Cond) ∈ FC := List.mem_of_getElem? (i := 1422) (by decide +kernel)
def by_69 : Nat → Int32 := fun j => ([110] : List Int32).getD j 0
theorem sS_69 {l : Launch} {g : mG} (hO : mO l g) : oS g (srA g "BirdForge$Command" 69) (svA g "BirdForge$Command" 69) 1 by_69 := by
  refine sr_S hO (by decide) fl_1418 fl_1419 fl_1420 fl_1421 (fun j hj => ?_)
  match j, hj with
  | 0, _ => exact fl_1422
  | k + 1, h => exact absurd h (by omega)
theorem fl_1432 : (.exactly (.string "BirdForge$Command" 75) "java/lang/String" : Cond) ∈ FC := List.mem_of_getElem? (i := 1432) (by decide +kernel)
theorem fl_1433 : (.eq (.field (.string "BirdForge$Command" 75) "java/lang/String" "coder" "B") (.int 0) : Cond) ∈ FC := List.mem_of_getElem? (i := 1433) (by decide +kernel)
theorem fl_1434 : (.arrayOf (.field (.string "BirdForge$Command" 75) "java/lang/String" "value" "[B") .byte : Cond) ∈ FC := List.mem_of_getElem? (i := 1434) (by decide +kernel)
theorem fl_1435 : (.eq (.length (.field (.string "BirdForge$Command" 75) "java/lang/String" "value" "[B")) (.int 8) : Cond) ∈ FC := List.mem_of_getElem? (i := 1435) (by decide +kernel)
theorem fl_1436 : (.eq (.elem (.field (.string "BirdForge$Command" 75) "java/lang/String" "value" "[B") (.int 0)) (.int 98) : Cond) ∈ FC := List.mem_of_getElem? (i := 1436) (by decide +kernel)
theorem fl_1437 : (.eq (.elem (.field (.string "BirdForge$Command" 75) "java/lang/String" "value" "[B") (.int 1)) (.int 101) : Cond) ∈ FC := List.mem_of_getElem? (i := 1437) (by decide +kernel)
theorem fl_1438 : (.eq (.elem (.field (.string "BirdForge$Command" 75) "java/lang/String" "value" "[B") (.int 2)) (.int 108) : Cond) ∈ FC := List.mem_of_getElem? (i := 1438) (by decide +kernel)
theorem fl_1439 : (.eq (.elem (.field (.string "BirdForge$Command" 75) "java/lang/String" "value" "[B") (.int 3)) (.int 108) : Cond) ∈ FC := List.mem_of_getElem? (i := 1439) (by decide +kernel)
theorem fl_1440 : (.eq (.elem (.field (.string "BirdForge$Command" 75) "java/lang/String" "value" "[B") (.int 4)) (.int 111) : Cond) ∈ FC := List.mem_of_getElem? (i := 1440) (by decide +kernel)
theorem fl_1441 : (.eq (.elem (.field (.string "BirdForge$Command" 75) "java/lang/String" "value" "[B") (.int 5)) (.int 119) : Cond) ∈ FC := List.mem_of_getElem? (i := 1441) (by decide +kernel)
theorem fl_1442 : (.eq (.elem (.field (.string "BirdForge$Command" 75) "java/lang/String" "value" "[B") (.int 6)) (.int 115) : Cond) ∈ FC := List.mem_of_getElem? (i := 1442) (by decide +kernel)
theorem fl_1443 : (.eq (.elem (.field (.string "BirdForge$Command" 75) "java/lang/String" "value" "[B") (.int 7)) (.int 32) : Cond) ∈ FC := List.mem_of_getElem? (i := 1443) (by decide +kernel)
def by_75 : Nat → Int32 := fun j => ([98, 101, 108, 108, 111, 119, 115, 32] : List Int32).getD j 0
theorem sS_75 {l : Launch} {g : mG} (hO : mO l g) : oS g (srA g "BirdForge$Command" 75) (svA g "BirdForge$Command" 75) 8 by_75 := by
  refine sr_S hO (by decide) fl_1432 fl_1433 fl_1434 fl_1435 (fun j hj => ?_)
  match j, hj with
  | 0, _ => exact fl_1436
  | 1, _ => exact fl_1437
  | 2, _ => exact fl_1438
  | 3, _ => exact fl_1439
  | 4, _ => exact fl_1440
  | 5, _ => exact fl_1441
  | 6, _ => exact fl_1442
  | 7, _ => exact fl_1443
  | k + 8, h => exact absurd h (by omega)
theorem fl_1444 : (.exactly (.string "BirdForge$Command" 77) "java/lang/String" : Cond) ∈ FC := List.mem_of_getElem? (i := 1444) (by decide +kernel)
theorem fl_1445 : (.eq (.field (.string "BirdForge$Command" 77) "java/lang/String" "coder" "B") (.int 0) : Cond) ∈ FC := List.mem_of_getElem? (i := 1445) (by decide +kernel)
theorem fl_1446 : (.arrayOf (.field (.string "BirdForge$Command" 77) "java/lang/String" "value" "[B") .byte : Cond) ∈ FC := List.mem_of_getElem? (i := 1446) (by decide +kernel)
theorem fl_1447 : (.eq (.length (.field (.string "BirdForge$Command" 77) "java/lang/String" "value" "[B")) (.int 1) : Cond) ∈ FC := List.mem_of_getElem? (i := 1447) (by decide +kernel)
theorem fl_1448 : (.eq (.elem (.field (.string "BirdForge$Command" 77) "java/lang/String" "value" "[B") (.int 0)) (.int 100) : Cond) ∈ FC := List.mem_of_getElem? (i := 1448) (by decide +kernel)
def by_77 : Nat → Int32 := fun j => ([100] : List Int32).getD j 0
theorem sS_77 {l : Launch} {g : mG} (hO : mO l g) : oS g (srA g "BirdForge$Command" 77) (svA g "BirdForge$Command" 77) 1 by_77 := by
  refine sr_S hO (by decide) fl_1444 fl_1445 fl_1446 fl_1447 (fun j hj => ?_)
  match j, hj with
  | 0, _ => exact fl_1448
  | k + 1, h => exact absurd h (by omega)
theorem fl_1449 : (.exactly (.string "BirdForge$Command" 80) "java/lang/String" : Cond) ∈ FC := List.mem_of_getElem? (i := 1449) (by decide +kernel)
theorem fl_1450 : (.eq (.field (.string "BirdForge$Command" 80) "java/lang/String" "coder" "B") (.int 0) : Cond) ∈ FC := List.mem_of_getElem? (i := 1450) (by decide +kernel)
theorem fl_1451 : (.arrayOf (.field (.string "BirdForge$Command" 80) "java/lang/String" "value" "[B") .byte : Cond) ∈ FC := List.mem_of_getElem? (i := 1451) (by decide +kernel)
theorem fl_1452 : (.eq (.length (.field (.string "BirdForge$Command" 80) "java/lang/String" "value" "[B")) (.int 6) : Cond) ∈ FC := List.mem_of_getElem? (i := 1452) (by decide +kernel)
theorem fl_1453 : (.eq (.elem (.field (.string "BirdForge$Command" 80) "java/lang/String" "value" "[B") (.int 0)) (.int 112) : Cond) ∈ FC := List.mem_of_getElem? (i := 1453) (by decide +kernel)
theorem fl_1454 : (.eq (.elem (.field (.string "BirdForge$Command" 80) "java/lang/String" "value" "[B") (.int 1)) (.int 105) : Cond) ∈ FC := List.mem_of_getElem? (i := 1454) (by decide +kernel)
theorem fl_1455 : (.eq (.elem (.field (.string "BirdForge$Command" 80) "java/lang/String" "value" "[B") (.int 2)) (.int 101) : Cond) ∈ FC := List.mem_of_getElem? (i := 1455) (by decide +kernel)
theorem fl_1456 : (.eq (.elem (.field (.string "BirdForge$Command" 80) "java/lang/String" "value" "[B") (.int 3)) (.int 99) : Cond) ∈ FC := List.mem_of_getElem? (i := 1456) (by decide +kernel)
theorem fl_1457 : (.eq (.elem (.field (.string "BirdForge$Command" 80) "java/lang/String" "value" "[B") (.int 4)) (.int 101) : Cond) ∈ FC := List.mem_of_getElem? (i := 1457) (by decide +kernel)
theorem fl_1458 : (.eq (.elem (.field (.string "BirdForge$Command" 80) "java/lang/String" "value" "[B") (.int 5)) (.int 32) : Cond) ∈ FC := List.mem_of_getElem? (i := 1458) (by decide +kernel)
def by_80 : Nat → Int32 := fun j => ([112, 105, 101, 99, 101, 32] : List Int32).getD j 0
theorem sS_80 {l : Launch} {g : mG} (hO : mO l g) : oS g (srA g "BirdForge$Command" 80) (svA g "BirdForge$Command" 80) 6 by_80 := by
  refine sr_S hO (by decide) fl_1449 fl_1450 fl_1451 fl_1452 (fun j hj => ?_)
  match j, hj with
  | 0, _ => exact fl_1453
  | 1, _ => exact fl_1454
  | 2, _ => exact fl_1455
  | 3, _ => exact fl_1456
  | 4, _ => exact fl_1457
  | 5, _ => exact fl_1458
  | k + 6, h => exact absurd h (by omega)
theorem fl_1459 : (.exactly (.string "BirdForge$Command" 82) "java/lang/String" : Cond) ∈ FC := List.mem_of_getElem? (i := 1459) (by decide +kernel)
theorem fl_1460 : (.eq (.field (.string "BirdForge$Command" 82) "java/lang/String" "coder" "B") (.int 0) : Cond) ∈ FC := List.mem_of_getElem? (i := 1460) (by decide +kernel)
theorem fl_1461 : (.arrayOf (.field (.string "BirdForge$Command" 82) "java/lang/String" "value" "[B") .byte : Cond) ∈ FC := List.mem_of_getElem? (i := 1461) (by decide +kernel)
theorem fl_1462 : (.eq (.length (.field (.string "BirdForge$Command" 82) "java/lang/String" "value" "[B")) (.int 1) : Cond) ∈ FC := List.mem_of_getElem? (i := 1462) (by decide +kernel)
theorem fl_1463 : (.eq (.elem (.field (.string "BirdForge$Command" 82) "java/lang/String" "value" "[B") (.int 0)) (.int 107) : Cond) ∈ FC := List.mem_of_getElem? (i := 1463) (by decide +kernel)
def by_82 : Nat → Int32 := fun j => ([107] : List Int32).getD j 0
theorem sS_82 {l : Launch} {g : mG} (hO : mO l g) : oS g (srA g "BirdForge$Command" 82) (svA g "BirdForge$Command" 82) 1 by_82 := by
  refine sr_S hO (by decide) fl_1459 fl_1460 fl_1461 fl_1462 (fun j hj => ?_)
  match j, hj with
  | 0, _ => exact fl_1463
  | k + 1, h => exact absurd h (by omega)
theorem fl_1464 : (.exactly (.string "BirdForge$Command" 85) "java/lang/String" : Cond) ∈ FC := List.mem_of_getElem? (i := 1464) (by decide +kernel)
theorem fl_1465 : (.eq (.field (.string "BirdForge$Command" 85) "java/lang/String" "coder" "B") (.int 0) : Cond) ∈ FC := List.mem_of_getElem? (i := 1465) (by decide +kernel)
theorem fl_1466 : (.arrayOf (.field (.string "BirdForge$Command" 85) "java/lang/String" "value" "[B") .byte : Cond) ∈ FC := List.mem_of_getElem? (i := 1466) (by decide +kernel)
theorem fl_1467 : (.eq (.length (.field (.string "BirdForge$Command" 85) "java/lang/String" "value" "[B")) (.int 5) : Cond) ∈ FC := List.mem_of_getElem? (i := 1467) (by decide +kernel)
theorem fl_1468 : (.eq (.elem (.field (.string "BirdForge$Command" 85) "java/lang/String" "value" "[B") (.int 0)) (.int 116) : Cond) ∈ FC := List.mem_of_getElem? (i := 1468) (by decide +kernel)
theorem fl_1469 : (.eq (.elem (.field (.string "BirdForge$Command" 85) "java/lang/String" "value" "[B") (.int 1)) (.int 111) : Cond) ∈ FC := List.mem_of_getElem? (i := 1469) (by decide +kernel)
theorem fl_1470 : (.eq (.elem (.field (.string "BirdForge$Command" 85) "java/lang/String" "value" "[B") (.int 2)) (.int 111) : Cond) ∈ FC := List.mem_of_getElem? (i := 1470) (by decide +kernel)
theorem fl_1471 : (.eq (.elem (.field (.string "BirdForge$Command" 85) "java/lang/String" "value" "[B") (.int 3)) (.int 108) : Cond) ∈ FC := List.mem_of_getElem? (i := 1471) (by decide +kernel)
theorem fl_1472 : (.eq (.elem (.field (.string "BirdForge$Command" 85) "java/lang/String" "value" "[B") (.int 4)) (.int 32) : Cond) ∈ FC := List.mem_of_getElem? (i := 1472) (by decide +kernel)
def by_85 : Nat → Int32 := fun j => ([116, 111, 111, 108, 32] : List Int32).getD j 0
theorem sS_85 {l : Launch} {g : mG} (hO : mO l g) : oS g (srA g "BirdForge$Command" 85) (svA g "BirdForge$Command" 85) 5 by_85 := by
  refine sr_S hO (by decide) fl_1464 fl_1465 fl_1466 fl_1467 (fun j hj => ?_)
  match j, hj with
  | 0, _ => exact fl_1468
  | 1, _ => exact fl_1469
  | 2, _ => exact fl_1470
  | 3, _ => exact fl_1471
  | 4, _ => exact fl_1472
  | k + 5, h => exact absurd h (by omega)
theorem fl_1473 : (.exactly (.string "BirdForge$Command" 88) "java/lang/String" : Cond) ∈ FC := List.mem_of_getElem? (i := 1473) (by decide +kernel)
theorem fl_1474 : (.eq (.field (.string "BirdForge$Command" 88) "java/lang/String" "coder" "B") (.int 0) : Cond) ∈ FC := List.mem_of_getElem? (i := 1474) (by decide +kernel)
theorem fl_1475 : (.arrayOf (.field (.string "BirdForge$Command" 88) "java/lang/String" "value" "[B") .byte : Cond) ∈ FC := List.mem_of_getElem? (i := 1475) (by decide +kernel)
theorem fl_1476 : (.eq (.length (.field (.string "BirdForge$Command" 88) "java/lang/String" "value" "[B")) (.int 3) : Cond) ∈ FC := List.mem_of_getElem? (i := 1476) (by decide +kernel)
theorem fl_1477 : (.eq (.elem (.field (.string "BirdForge$Command" 88) "java/lang/String" "value" "[B") (.int 0)) (.int 105) : Cond) ∈ FC := List.mem_of_getElem? (i := 1477) (by decide +kernel)
theorem fl_1478 : (.eq (.elem (.field (.string "BirdForge$Command" 88) "java/lang/String" "value" "[B") (.int 1)) (.int 110) : Cond) ∈ FC := List.mem_of_getElem? (i := 1478) (by decide +kernel)
theorem fl_1479 : (.eq (.elem (.field (.string "BirdForge$Command" 88) "java/lang/String" "value" "[B") (.int 2)) (.int 32) : Cond) ∈ FC := List.mem_of_getElem? (i := 1479) (by decide +kernel)
def by_88 : Nat → Int32 := fun j => ([105, 110, 32] : List Int32).getD j 0
theorem sS_88 {l : Launch} {g : mG} (hO : mO l g) : oS g (srA g "BirdForge$Command" 88) (svA g "BirdForge$Command" 88) 3 by_88 := by
  refine sr_S hO (by decide) fl_1473 fl_1474 fl_1475 fl_1476 (fun j hj => ?_)
  match j, hj with
  | 0, _ => exact fl_1477
  | 1, _ => exact fl_1478
  | 2, _ => exact fl_1479
  | k + 3, h => exact absurd h (by omega)
theorem fl_1480 : (.exactly (.string "BirdForge$Command" 91) "java/lang/String" : Cond) ∈ FC := List.mem_of_getElem? (i := 1480) (by decide +kernel)
theorem fl_1481 : (.eq (.field (.string "BirdForge$Command" 91) "java/lang/String" "coder" "B") (.int 0) : Cond) ∈ FC := List.mem_of_getElem? (i := 1481) (by decide +kernel)
theorem fl_1482 : (.arrayOf (.field (.string "BirdForge$Command" 91) "java/lang/String" "value" "[B") .byte : Cond) ∈ FC := List.mem_of_getElem? (i := 1482) (by decide +kernel)
theorem fl_1483 : (.eq (.length (.field (.string "BirdForge$Command" 91) "java/lang/String" "value" "[B")) (.int 4) : Cond) ∈ FC := List.mem_of_getElem? (i := 1483) (by decide +kernel)
theorem fl_1484 : (.eq (.elem (.field (.string "BirdForge$Command" 91) "java/lang/String" "value" "[B") (.int 0)) (.int 111) : Cond) ∈ FC := List.mem_of_getElem? (i := 1484) (by decide +kernel)
theorem fl_1485 : (.eq (.elem (.field (.string "BirdForge$Command" 91) "java/lang/String" "value" "[B") (.int 1)) (.int 117) : Cond) ∈ FC := List.mem_of_getElem? (i := 1485) (by decide +kernel)
theorem fl_1486 : (.eq (.elem (.field (.string "BirdForge$Command" 91) "java/lang/String" "value" "[B") (.int 2)) (.int 116) : Cond) ∈ FC := List.mem_of_getElem? (i := 1486) (by decide +kernel)
theorem fl_1487 : (.eq (.elem (.field (.string "BirdForge$Command" 91) "java/lang/String" "value" "[B") (.int 3)) (.int 32) : Cond) ∈ FC := List.mem_of_getElem? (i := 1487) (by decide +kernel)
def by_91 : Nat → Int32 := fun j => ([111, 117, 116, 32] : List Int32).getD j 0
theorem sS_91 {l : Launch} {g : mG} (hO : mO l g) : oS g (srA g "BirdForge$Command" 91) (svA g "BirdForge$Command" 91) 4 by_91 := by
  refine sr_S hO (by decide) fl_1480 fl_1481 fl_1482 fl_1483 (fun j hj => ?_)
  match j, hj with
  | 0, _ => exact fl_1484
  | 1, _ => exact fl_1485
  | 2, _ => exact fl_1486
  | 3, _ => exact fl_1487
  | k + 4, h => exact absurd h (by omega)
theorem fl_1488 : (.exactly (.string "BirdForge$Command" 94) "java/lang/String" : Cond) ∈ FC := List.mem_of_getElem? (i := 1488) (by decide +kernel)
theorem fl_1489 : (.eq (.field (.string "BirdForge$Command" 94) "java/lang/String" "coder" "B") (.int 0) : Cond) ∈ FC := List.mem_of_getElem? (i := 1489) (by decide +kernel)
theorem fl_1490 : (.arrayOf (.field (.string "BirdForge$Command" 94) "java/lang/String" "value" "[B") .byte : Cond) ∈ FC := List.mem_of_getElem? (i := 1490) (by decide +kernel)
theorem fl_1491 : (.eq (.length (.field (.string "BirdForge$Command" 94) "java/lang/String" "value" "[B")) (.int 7) : Cond) ∈ FC := List.mem_of_getElem? (i := 1491) (by decide +kernel)
theorem fl_1492 : (.eq (.elem (.field (.string "BirdForge$Command" 94) "java/lang/String" "value" "[B") (.int 0)) (.int 104) : Cond) ∈ FC := List.mem_of_getElem? (i := 1492) (by decide +kernel)
theorem fl_1493 : (.eq (.elem (.field (.string "BirdForge$Command" 94) "java/lang/String" "value" "[B") (.int 1)) (.int 97) : Cond) ∈ FC := List.mem_of_getElem? (i := 1493) (by decide +kernel)
theorem fl_1494 : (.eq (.elem (.field (.string "BirdForge$Command" 94) "java/lang/String" "value" "[B") (.int 2)) (.int 109) : Cond) ∈ FC := List.mem_of_getElem? (i := 1494) (by decide +kernel)
theorem fl_1495 : (.eq (.elem (.field (.string "BirdForge$Command" 94) "java/lang/String" "value" "[B") (.int 3)) (.int 109) : Cond) ∈ FC := List.mem_of_getElem? (i := 1495) (by decide +kernel)
theorem fl_1496 : (.eq (.elem (.field (.string "BirdForge$Command" 94) "java/lang/String" "value" "[B") (.int 4)) (.int 101) : Cond) ∈ FC := List.mem_of_getElem? (i := 1496) (by decide +kernel)
theorem fl_1497 : (.eq (.elem (.field (.string "BirdForge$Command" 94) "java/lang/String" "value" "[B") (.int 5)) (.int 114) : Cond) ∈ FC := List.mem_of_getElem? (i := 1497) (by decide +kernel)
theorem fl_1498 : (.eq (.elem (.field (.string "BirdForge$Command" 94) "java/lang/String" "value" "[B") (.int 6)) (.int 32) : Cond) ∈ FC := List.mem_of_getElem? (i := 1498) (by decide +kernel)
def by_94 : Nat → Int32 := fun j => ([104, 97, 109, 109, 101, 114, 32] : List Int32).getD j 0
theorem sS_94 {l : Launch} {g : mG} (hO : mO l g) : oS g (srA g "BirdForge$Command" 94) (svA g "BirdForge$Command" 94) 7 by_94 := by
  refine sr_S hO (by decide) fl_1488 fl_1489 fl_1490 fl_1491 (fun j hj => ?_)
  match j, hj with
  | 0, _ => exact fl_1492
  | 1, _ => exact fl_1493
  | 2, _ => exact fl_1494
  | 3, _ => exact fl_1495
  | 4, _ => exact fl_1496
  | 5, _ => exact fl_1497
  | 6, _ => exact fl_1498
  | k + 7, h => exact absurd h (by omega)
theorem fl_1499 : (.exactly (.string "BirdForge$Command" 96) "java/lang/String" : Cond) ∈ FC := List.mem_of_getElem? (i := 1499) (by decide +kernel)
theorem fl_1500 : (.eq (.field (.string "BirdForge$Command" 96) "java/lang/String" "coder" "B") (.int 0) : Cond) ∈ FC := List.mem_of_getElem? (i := 1500) (by decide +kernel)
theorem fl_1501 : (.arrayOf (.field (.string "BirdForge$Command" 96) "java/lang/String" "value" "[B") .byte : Cond) ∈ FC := List.mem_of_getElem? (i := 1501) (by decide +kernel)
theorem fl_1502 : (.eq (.length (.field (.string "BirdForge$Command" 96) "java/lang/String" "value" "[B")) (.int 2) : Cond) ∈ FC := List.mem_of_getElem? (i := 1502) (by decide +kernel)
theorem fl_1503 : (.eq (.elem (.field (.string "BirdForge$Command" 96) "java/lang/String" "value" "[B") (.int 0)) (.int 110) : Cond) ∈ FC := List.mem_of_getElem? (i := 1503) (by decide +kernel)
theorem fl_1504 : (.eq (.elem (.field (.string "BirdForge$Command" 96) "java/lang/String" "value" "[B") (.int 1)) (.int 100) : Cond) ∈ FC := List.mem_of_getElem? (i := 1504) (by decide +kernel)
def by_96 : Nat → Int32 := fun j => ([110, 100] : List Int32).getD j 0
theorem sS_96 {l : Launch} {g : mG} (hO : mO l g) : oS g (srA g "BirdForge$Command" 96) (svA g "BirdForge$Command" 96) 2 by_96 := by
  refine sr_S hO (by decide) fl_1499 fl_1500 fl_1501 fl_1502 (fun j hj => ?_)
  match j, hj with
  | 0, _ => exact fl_1503
  | 1, _ => exact fl_1504
  | k + 2, h => exact absurd h (by omega)
theorem fl_1505 : (.exactly (.string "BirdForge$Command" 99) "java/lang/String" : Cond) ∈ FC := List.mem_of_getElem? (i := 1505) (by decide +kernel)
theorem fl_1506 : (.eq (.field (.string "BirdForge$Command" 99) "java/lang/String" "coder" "B") (.int 0) : Cond) ∈ FC := List.mem_of_getElem? (i := 1506) (by decide +kernel)
theorem fl_1507 : (.arrayOf (.field (.string "BirdForge$Command" 99) "java/lang/String" "value" "[B") .byte : Cond) ∈ FC := List.mem_of_getElem? (i := 1507) (by decide +kernel)
theorem fl_1508 : (.eq (.length (.field (.string "BirdForge$Command" 99) "java/lang/String" "value" "[B")) (.int 7) : Cond) ∈ FC := List.mem_of_getElem? (i := 1508) (by decide +kernel)
theorem fl_1509 : (.eq (.elem (.field (.string "BirdForge$Command" 99) "java/lang/String" "value" "[B") (.int 0)) (.int 113) : Cond) ∈ FC := List.mem_of_getElem? (i := 1509) (by decide +kernel)
theorem fl_1510 : (.eq (.elem (.field (.string "BirdForge$Command" 99) "java/lang/String" "value" "[B") (.int 1)) (.int 117) : Cond) ∈ FC := List.mem_of_getElem? (i := 1510) (by decide +kernel)
theorem fl_1511 : (.eq (.elem (.field (.string "BirdForge$Command" 99) "java/lang/String" "value" "[B") (.int 2)) (.int 101) : Cond) ∈ FC := List.mem_of_getElem? (i := 1511) (by decide +kernel)
theorem fl_1512 : (.eq (.elem (.field (.string "BirdForge$Command" 99) "java/lang/String" "value" "[B") (.int 3)) (.int 110) : Cond) ∈ FC := List.mem_of_getElem? (i := 1512) (by decide +kernel)
theorem fl_1513 : (.eq (.elem (.field (.string "BirdForge$Command" 99) "java/lang/String" "value" "[B") (.int 4)) (.int 99) : Cond) ∈ FC := List.mem_of_getElem? (i := 1513) (by decide +kernel)
theorem fl_1514 : (.eq (.elem (.field (.string "BirdForge$Command" 99) "java/lang/String" "value" "[B") (.int 5)) (.int 104) : Cond) ∈ FC := List.mem_of_getElem? (i := 1514) (by decide +kernel)
theorem fl_1515 : (.eq (.elem (.field (.string "BirdForge$Command" 99) "java/lang/String" "value" "[B") (.int 6)) (.int 32) : Cond) ∈ FC := List.mem_of_getElem? (i := 1515) (by decide +kernel)
def by_99 : Nat → Int32 := fun j => ([113, 117, 101, 110, 99, 104, 32] : List Int32).getD j 0
theorem sS_99 {l : Launch} {g : mG} (hO : mO l g) : oS g (srA g "BirdForge$Command" 99) (svA g "BirdForge$Command" 99) 7 by_99 := by
  refine sr_S hO (by decide) fl_1505 fl_1506 fl_1507 fl_1508 (fun j hj => ?_)
  match j, hj with
  | 0, _ => exact fl_1509
  | 1, _ => exact fl_1510
  | 2, _ => exact fl_1511
  | 3, _ => exact fl_1512
  | 4, _ => exact fl_1513
  | 5, _ => exact fl_1514
  | 6, _ => exact fl_1515
  | k + 7, h => exact absurd h (by omega)
theorem fl_1516 : (.exactly (.string "BirdForge$Command" 102) "java/lang/String" : Cond) ∈ FC := List.mem_of_getElem? (i := 1516) (by decide +kernel)
theorem fl_1517 : (.eq (.field (.string "BirdForge$Command" 102) "java/lang/String" "coder" "B") (.int 0) : Cond) ∈ FC := List.mem_of_getElem? (i := 1517) (by decide +kernel)
theorem fl_1518 : (.arrayOf (.field (.string "BirdForge$Command" 102) "java/lang/String" "value" "[B") .byte : Cond) ∈ FC := List.mem_of_getElem? (i := 1518) (by decide +kernel)
theorem fl_1519 : (.eq (.length (.field (.string "BirdForge$Command" 102) "java/lang/String" "value" "[B")) (.int 5) : Cond) ∈ FC := List.mem_of_getElem? (i := 1519) (by decide +kernel)
theorem fl_1520 : (.eq (.elem (.field (.string "BirdForge$Command" 102) "java/lang/String" "value" "[B") (.int 0)) (.int 116) : Cond) ∈ FC := List.mem_of_getElem? (i := 1520) (by decide +kernel)
theorem fl_1521 : (.eq (.elem (.field (.string "BirdForge$Command" 102) "java/lang/String" "value" "[B") (.int 1)) (.int 101) : Cond) ∈ FC := List.mem_of_getElem? (i := 1521) (by decide +kernel)
theorem fl_1522 : (.eq (.elem (.field (.string "BirdForge$Command" 102) "java/lang/String" "value" "[B") (.int 2)) (.int 115) : Cond) ∈ FC := List.mem_of_getElem? (i := 1522) (by decide +kernel)
theorem fl_1523 : (.eq (.elem (.field (.string "BirdForge$Command" 102) "java/lang/String" "value" "[B") (.int 3)) (.int 116) : Cond) ∈ FC := List.mem_of_getElem? (i := 1523) (by decide +kernel)
theorem fl_1524 : (.eq (.elem (.field (.string "BirdForge$Command" 102) "java/lang/String" "value" "[B") (.int 4)) (.int 32) : Cond) ∈ FC := List.mem_of_getElem? (i := 1524) (by decide +kernel)
def by_102 : Nat → Int32 := fun j => ([116, 101, 115, 116, 32] : List Int32).getD j 0
theorem sS_102 {l : Launch} {g : mG} (hO : mO l g) : oS g (srA g "BirdForge$Command" 102) (svA g "BirdForge$Command" 102) 5 by_102 := by
  refine sr_S hO (by decide) fl_1516 fl_1517 fl_1518 fl_1519 (fun j hj => ?_)
  match j, hj with
  | 0, _ => exact fl_1520
  | 1, _ => exact fl_1521
  | 2, _ => exact fl_1522
  | 3, _ => exact fl_1523
  | 4, _ => exact fl_1524
  | k + 5, h => exact absurd h (by omega)
theorem fl_1525 : (.exactly (.string "BirdForge$Command" 105) "java/lang/String" : Cond) ∈ FC := List.mem_of_getElem? (i := 1525) (by decide +kernel)
theorem fl_1526 : (.eq (.field (.string "BirdForge$Command" 105) "java/lang/String" "coder" "B") (.int 0) : Cond) ∈ FC := List.mem_of_getElem? (i := 1526) (by decide +kernel)
theorem fl_1527 : (.arrayOf (.field (.string "BirdForge$Command" 105) "java/lang/String" "value" "[B") .byte : Cond) ∈ FC := List.mem_of_getElem? (i := 1527) (by decide +kernel)
theorem fl_1528 : (.eq (.length (.field (.string "BirdForge$Command" 105) "java/lang/String" "value" "[B")) (.int 5) : Cond) ∈ FC := List.mem_of_getElem? (i := 1528) (by decide +kernel)
theorem fl_1529 : (.eq (.elem (.field (.string "BirdForge$Command" 105) "java/lang/String" "value" "[B") (.int 0)) (.int 98) : Cond) ∈ FC := List.mem_of_getElem? (i := 1529) (by decide +kernel)
theorem fl_1530 : (.eq (.elem (.field (.string "BirdForge$Command" 105) "java/lang/String" "value" "[B") (.int 1)) (.int 105) : Cond) ∈ FC := List.mem_of_getElem? (i := 1530) (by decide +kernel)
theorem fl_1531 : (.eq (.elem (.field (.string "BirdForge$Command" 105) "java/lang/String" "value" "[B") (.int 2)) (.int 114) : Cond) ∈ FC := List.mem_of_getElem? (i := 1531) (by decide +kernel)
theorem fl_1532 : (.eq (.elem (.field (.string "BirdForge$Command" 105) "java/lang/String" "value" "[B") (.int 3)) (.int 100) : Cond) ∈ FC := List.mem_of_getElem? (i := 1532) (by decide +kernel)
theorem fl_1533 : (.eq (.elem (.field (.string "BirdForge$Command" 105) "java/lang/String" "value" "[B") (.int 4)) (.int 32) : Cond) ∈ FC := List.mem_of_getElem? (i := 1533) (by decide +kernel)
def by_105 : Nat → Int32 := fun j => ([98, 105, 114, 100, 32] : List Int32).getD j 0
theorem sS_105 {l : Launch} {g : mG} (hO : mO l g) : oS g (srA g "BirdForge$Command" 105) (svA g "BirdForge$Command" 105) 5 by_105 := by
  refine sr_S hO (by decide) fl_1525 fl_1526 fl_1527 fl_1528 (fun j hj => ?_)
  match j, hj with
  | 0, _ => exact fl_1529
  | 1, _ => exact fl_1530
  | 2, _ => exact fl_1531
  | 3, _ => exact fl_1532
  | 4, _ => exact fl_1533
  | k + 5, h => exact absurd h (by omega)
theorem fl_1534 : (.exactly (.string "BirdForge$Command" 107) "java/lang/String" : Cond) ∈ FC := List.mem_of_getElem? (i := 1534) (by decide +kernel)
theorem fl_1535 : (.eq (.field (.string "BirdForge$Command" 107) "java/lang/String" "coder" "B") (.int 0) : Cond) ∈ FC := List.mem_of_getElem? (i := 1535) (by decide +kernel)
theorem fl_1536 : (.arrayOf (.field (.string "BirdForge$Command" 107) "java/lang/String" "value" "[B") .byte : Cond) ∈ FC := List.mem_of_getElem? (i := 1536) (by decide +kernel)
theorem fl_1537 : (.eq (.length (.field (.string "BirdForge$Command" 107) "java/lang/String" "value" "[B")) (.int 4) : Cond) ∈ FC := List.mem_of_getElem? (i := 1537) (by decide +kernel)
theorem fl_1538 : (.eq (.elem (.field (.string "BirdForge$Command" 107) "java/lang/String" "value" "[B") (.int 0)) (.int 110) : Cond) ∈ FC := List.mem_of_getElem? (i := 1538) (by decide +kernel)
theorem fl_1539 : (.eq (.elem (.field (.string "BirdForge$Command" 107) "java/lang/String" "value" "[B") (.int 1)) (.int 110) : Cond) ∈ FC := List.mem_of_getElem? (i := 1539) (by decide +kernel)
theorem fl_1540 : (.eq (.elem (.field (.string "BirdForge$Command" 107) "java/lang/String" "value" "[B") (.int 2)) (.int 110) : Cond) ∈ FC := List.mem_of_getElem? (i := 1540) (by decide +kernel)
theorem fl_1541 : (.eq (.elem (.field (.string "BirdForge$Command" 107) "java/lang/String" "value" "[B") (.int 3)) (.int 110) : Cond) ∈ FC := List.mem_of_getElem? (i := 1541) (by decide +kernel)
def by_107 : Nat → Int32 := fun j => ([110, 110, 110, 110] : List Int32).getD j 0
theorem sS_107 {l : Launch} {g : mG} (hO : mO l g) : oS g (srA g "BirdForge$Command" 107) (svA g "BirdForge$Command" 107) 4 by_107 := by
  refine sr_S hO (by decide) fl_1534 fl_1535 fl_1536 fl_1537 (fun j hj => ?_)
  match j, hj with
  | 0, _ => exact fl_1538
  | 1, _ => exact fl_1539
  | 2, _ => exact fl_1540
  | 3, _ => exact fl_1541
  | k + 4, h => exact absurd h (by omega)
theorem fl_1542 : (.exactly (.string "BirdForge$Command" 110) "java/lang/String" : Cond) ∈ FC := List.mem_of_getElem? (i := 1542) (by decide +kernel)
theorem fl_1543 : (.eq (.field (.string "BirdForge$Command" 110) "java/lang/String" "coder" "B") (.int 0) : Cond) ∈ FC := List.mem_of_getElem? (i := 1543) (by decide +kernel)
theorem fl_1544 : (.arrayOf (.field (.string "BirdForge$Command" 110) "java/lang/String" "value" "[B") .byte : Cond) ∈ FC := List.mem_of_getElem? (i := 1544) (by decide +kernel)
theorem fl_1545 : (.eq (.length (.field (.string "BirdForge$Command" 110) "java/lang/String" "value" "[B")) (.int 6) : Cond) ∈ FC := List.mem_of_getElem? (i := 1545) (by decide +kernel)
theorem fl_1546 : (.eq (.elem (.field (.string "BirdForge$Command" 110) "java/lang/String" "value" "[B") (.int 0)) (.int 115) : Cond) ∈ FC := List.mem_of_getElem? (i := 1546) (by decide +kernel)
theorem fl_1547 : (.eq (.elem (.field (.string "BirdForge$Command" 110) "java/lang/String" "value" "[B") (.int 1)) (.int 99) : Cond) ∈ FC := List.mem_of_getElem? (i := 1547) (by decide +kernel)
theorem fl_1548 : (.eq (.elem (.field (.string "BirdForge$Command" 110) "java/lang/String" "value" "[B") (.int 2)) (.int 114) : Cond) ∈ FC := List.mem_of_getElem? (i := 1548) (by decide +kernel)
theorem fl_1549 : (.eq (.elem (.field (.string "BirdForge$Command" 110) "java/lang/String" "value" "[B") (.int 3)) (.int 97) : Cond) ∈ FC := List.mem_of_getElem? (i := 1549) (by decide +kernel)
theorem fl_1550 : (.eq (.elem (.field (.string "BirdForge$Command" 110) "java/lang/String" "value" "[B") (.int 4)) (.int 112) : Cond) ∈ FC := List.mem_of_getElem? (i := 1550) (by decide +kernel)
theorem fl_1551 : (.eq (.elem (.field (.string "BirdForge$Command" 110) "java/lang/String" "value" "[B") (.int 5)) (.int 32) : Cond) ∈ FC := List.mem_of_getElem? (i := 1551) (by decide +kernel)
def by_110 : Nat → Int32 := fun j => ([115, 99, 114, 97, 112, 32] : List Int32).getD j 0
theorem sS_110 {l : Launch} {g : mG} (hO : mO l g) : oS g (srA g "BirdForge$Command" 110) (svA g "BirdForge$Command" 110) 6 by_110 := by
  refine sr_S hO (by decide) fl_1542 fl_1543 fl_1544 fl_1545 (fun j hj => ?_)
  match j, hj with
  | 0, _ => exact fl_1546
  | 1, _ => exact fl_1547
  | 2, _ => exact fl_1548
  | 3, _ => exact fl_1549
  | 4, _ => exact fl_1550
  | 5, _ => exact fl_1551
  | k + 6, h => exact absurd h (by omega)
theorem fl_1409 : (.exactly (.string "BirdForge$Command" 113) "java/lang/String" : Cond) ∈ FC := List.mem_of_getElem? (i := 1409) (by decide +kernel)
theorem fl_1410 : (.eq (.field (.string "BirdForge$Command" 113) "java/lang/String" "coder" "B") (.int 0) : Cond) ∈ FC := List.mem_of_getElem? (i := 1410) (by decide +kernel)
theorem fl_1411 : (.arrayOf (.field (.string "BirdForge$Command" 113) "java/lang/String" "value" "[B") .byte : Cond) ∈ FC := List.mem_of_getElem? (i := 1411) (by decide +kernel)
theorem fl_1412 : (.eq (.length (.field (.string "BirdForge$Command" 113) "java/lang/String" "value" "[B")) (.int 5) : Cond) ∈ FC := List.mem_of_getElem? (i := 1412) (by decide +kernel)
theorem fl_1413 : (.eq (.elem (.field (.string "BirdForge$Command" 113) "java/lang/String" "value" "[B") (.int 0)) (.int 119) : Cond) ∈ FC := List.mem_of_getElem? (i := 1413) (by decide +kernel)
theorem fl_1414 : (.eq (.elem (.field (.string "BirdForge$Command" 113) "java/lang/String" "value" "[B") (.int 1)) (.int 97) : Cond) ∈ FC := List.mem_of_getElem? (i := 1414) (by decide +kernel)
theorem fl_1415 : (.eq (.elem (.field (.string "BirdForge$Command" 113) "java/lang/String" "value" "[B") (.int 2)) (.int 105) : Cond) ∈ FC := List.mem_of_getElem? (i := 1415) (by decide +kernel)
theorem fl_1416 : (.eq (.elem (.field (.string "BirdForge$Command" 113) "java/lang/String" "value" "[B") (.int 3)) (.int 116) : Cond) ∈ FC := List.mem_of_getElem? (i := 1416) (by decide +kernel)
theorem fl_1417 : (.eq (.elem (.field (.string "BirdForge$Command" 113) "java/lang/String" "value" "[B") (.int 4)) (.int 32) : Cond) ∈ FC := List.mem_of_getElem? (i := 1417) (by decide +kernel)
def by_113 : Nat → Int32 := fun j => ([119, 97, 105, 116, 32] : List Int32).getD j 0
theorem sS_113 {l : Launch} {g : mG} (hO : mO l g) : oS g (srA g "BirdForge$Command" 113) (svA g "BirdForge$Command" 113) 5 by_113 := by
  refine sr_S hO (by decide) fl_1409 fl_1410 fl_1411 fl_1412 (fun j hj => ?_)
  match j, hj with
  | 0, _ => exact fl_1413
  | 1, _ => exact fl_1414
  | 2, _ => exact fl_1415
  | 3, _ => exact fl_1416
  | 4, _ => exact fl_1417
  | k + 5, h => exact absurd h (by omega)
