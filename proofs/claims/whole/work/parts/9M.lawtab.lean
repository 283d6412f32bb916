/-! the law's body, as a table of rows -/
theorem w_13 : (Cond.classLink "SnapStacksLaw" (7 : Nat) "SnapStacks") ∈ lwg := mw 67 (by decide +kernel) rfl
theorem w_14 : (Cond.instantiable "SnapStacks" (6 : Nat)) ∈ lwg := mw 68 (by decide +kernel) rfl
theorem w_15 : (Cond.methodLink "SnapStacksLaw" (9 : Nat) ({ cls := "SnapStacks", name := "<init>", desc := "()V" } : MethodName)) ∈ lwg := mw 69 (by decide +kernel) rfl
theorem w_16 : (Cond.instanceMethod ({ cls := "SnapStacks", name := "<init>", desc := "()V" } : MethodName)) ∈ lwg := mw 70 (by decide +kernel) rfl
theorem w_17 : (Cond.code ({ cls := "SnapStacks", name := "<init>", desc := "()V" } : MethodName) prog_1_method_1_code (1 : Nat) (Option.none : Option ClassFile.FieldType)) ∈ lwg := mw 71 (by decide +kernel) rfl
theorem w_272 : (Cond.methodLink "SnapStacksLaw" (13 : Nat) ({ cls := "SnapStacks", name := "metal", desc := "(II)I" } : MethodName)) ∈ lwg := mw 326 (by decide +kernel) rfl
theorem w_273 : (Cond.instanceMethod ({ cls := "SnapStacks", name := "metal", desc := "(II)I" } : MethodName)) ∈ lwg := mw 327 (by decide +kernel) rfl
theorem w_274 : (Cond.selects "SnapStacks" ({ cls := "SnapStacks", name := "metal", desc := "(II)I" } : MethodName) ({ cls := "SnapStacks", name := "metal", desc := "(II)I" } : MethodName)) ∈ lwg := mw 328 (by decide +kernel) rfl
theorem w_275 : (Cond.code ({ cls := "SnapStacks", name := "metal", desc := "(II)I" } : MethodName) prog_1_method_2_code (4 : Nat) (Option.some ClassFile.FieldType.int)) ∈ lwg := mw 329 (by decide +kernel) rfl
theorem w_304 : (Cond.methodLink "SnapStacksLaw" (18 : Nat) ({ cls := "SnapStacks", name := "part", desc := "(IIII)I" } : MethodName)) ∈ lwg := mw 358 (by decide +kernel) rfl
theorem w_305 : (Cond.instanceMethod ({ cls := "SnapStacks", name := "part", desc := "(IIII)I" } : MethodName)) ∈ lwg := mw 359 (by decide +kernel) rfl
theorem w_306 : (Cond.selects "SnapStacks" ({ cls := "SnapStacks", name := "part", desc := "(IIII)I" } : MethodName) ({ cls := "SnapStacks", name := "part", desc := "(IIII)I" } : MethodName)) ∈ lwg := mw 360 (by decide +kernel) rfl
theorem w_307 : (Cond.code ({ cls := "SnapStacks", name := "part", desc := "(IIII)I" } : MethodName) prog_1_method_3_code (6 : Nat) (Option.some ClassFile.FieldType.int)) ∈ lwg := mw 361 (by decide +kernel) rfl
theorem w_316 : (Cond.methodLink "SnapStacksLaw" (23 : Nat) ({ cls := "SnapStacks", name := "cut", desc := "(II)I" } : MethodName)) ∈ lwg := mw 370 (by decide +kernel) rfl
theorem w_317 : (Cond.instanceMethod ({ cls := "SnapStacks", name := "cut", desc := "(II)I" } : MethodName)) ∈ lwg := mw 371 (by decide +kernel) rfl
theorem w_318 : (Cond.selects "SnapStacks" ({ cls := "SnapStacks", name := "cut", desc := "(II)I" } : MethodName) ({ cls := "SnapStacks", name := "cut", desc := "(II)I" } : MethodName)) ∈ lwg := mw 372 (by decide +kernel) rfl
theorem w_319 : (Cond.code ({ cls := "SnapStacks", name := "cut", desc := "(II)I" } : MethodName) prog_1_method_4_code (4 : Nat) (Option.some ClassFile.FieldType.int)) ∈ lwg := mw 373 (by decide +kernel) rfl
theorem w_321 : (Cond.methodLink "SnapStacksLaw" (27 : Nat) ({ cls := "SnapStacks", name := "bounds", desc := "(IIII)I" } : MethodName)) ∈ lwg := mw 375 (by decide +kernel) rfl
theorem w_322 : (Cond.instanceMethod ({ cls := "SnapStacks", name := "bounds", desc := "(IIII)I" } : MethodName)) ∈ lwg := mw 376 (by decide +kernel) rfl
theorem w_323 : (Cond.selects "SnapStacks" ({ cls := "SnapStacks", name := "bounds", desc := "(IIII)I" } : MethodName) ({ cls := "SnapStacks", name := "bounds", desc := "(IIII)I" } : MethodName)) ∈ lwg := mw 377 (by decide +kernel) rfl
theorem w_324 : (Cond.code ({ cls := "SnapStacks", name := "bounds", desc := "(IIII)I" } : MethodName) prog_1_method_5_code (6 : Nat) (Option.some ClassFile.FieldType.int)) ∈ lwg := mw 378 (by decide +kernel) rfl
theorem w_343 : (Cond.methodLink "SnapStacksLaw" (31 : Nat) ({ cls := "SnapStacks", name := "contact", desc := "(II)I" } : MethodName)) ∈ lwg := mw 397 (by decide +kernel) rfl
theorem w_344 : (Cond.instanceMethod ({ cls := "SnapStacks", name := "contact", desc := "(II)I" } : MethodName)) ∈ lwg := mw 398 (by decide +kernel) rfl
theorem w_345 : (Cond.selects "SnapStacks" ({ cls := "SnapStacks", name := "contact", desc := "(II)I" } : MethodName) ({ cls := "SnapStacks", name := "contact", desc := "(II)I" } : MethodName)) ∈ lwg := mw 399 (by decide +kernel) rfl
theorem w_346 : (Cond.code ({ cls := "SnapStacks", name := "contact", desc := "(II)I" } : MethodName) prog_1_method_6_code (4 : Nat) (Option.some ClassFile.FieldType.int)) ∈ lwg := mw 400 (by decide +kernel) rfl
theorem w_354 : (Cond.methodLink "SnapStacksLaw" (35 : Nat) ({ cls := "SnapStacks", name := "heat", desc := "(III)I" } : MethodName)) ∈ lwg := mw 408 (by decide +kernel) rfl
theorem w_355 : (Cond.instanceMethod ({ cls := "SnapStacks", name := "heat", desc := "(III)I" } : MethodName)) ∈ lwg := mw 409 (by decide +kernel) rfl
theorem w_356 : (Cond.selects "SnapStacks" ({ cls := "SnapStacks", name := "heat", desc := "(III)I" } : MethodName) ({ cls := "SnapStacks", name := "heat", desc := "(III)I" } : MethodName)) ∈ lwg := mw 410 (by decide +kernel) rfl
theorem w_357 : (Cond.code ({ cls := "SnapStacks", name := "heat", desc := "(III)I" } : MethodName) prog_1_method_7_code (6 : Nat) (Option.some ClassFile.FieldType.int)) ∈ lwg := mw 411 (by decide +kernel) rfl
theorem w_358 : (Cond.methodLink "SnapStacksLaw" (40 : Nat) ({ cls := "SnapStacks", name := "outside", desc := "(I)I" } : MethodName)) ∈ lwg := mw 412 (by decide +kernel) rfl
theorem w_359 : (Cond.instanceMethod ({ cls := "SnapStacks", name := "outside", desc := "(I)I" } : MethodName)) ∈ lwg := mw 413 (by decide +kernel) rfl
theorem w_360 : (Cond.selects "SnapStacks" ({ cls := "SnapStacks", name := "outside", desc := "(I)I" } : MethodName) ({ cls := "SnapStacks", name := "outside", desc := "(I)I" } : MethodName)) ∈ lwg := mw 414 (by decide +kernel) rfl
theorem w_361 : (Cond.code ({ cls := "SnapStacks", name := "outside", desc := "(I)I" } : MethodName) prog_1_method_8_code (3 : Nat) (Option.some ClassFile.FieldType.int)) ∈ lwg := mw 415 (by decide +kernel) rfl
theorem w_365 : (Cond.methodLink "SnapStacksLaw" (45 : Nat) ({ cls := "SnapStacks", name := "warm", desc := "(II)I" } : MethodName)) ∈ lwg := mw 419 (by decide +kernel) rfl
theorem w_366 : (Cond.instanceMethod ({ cls := "SnapStacks", name := "warm", desc := "(II)I" } : MethodName)) ∈ lwg := mw 420 (by decide +kernel) rfl
theorem w_367 : (Cond.selects "SnapStacks" ({ cls := "SnapStacks", name := "warm", desc := "(II)I" } : MethodName) ({ cls := "SnapStacks", name := "warm", desc := "(II)I" } : MethodName)) ∈ lwg := mw 421 (by decide +kernel) rfl
theorem w_368 : (Cond.code ({ cls := "SnapStacks", name := "warm", desc := "(II)I" } : MethodName) prog_1_method_9_code (5 : Nat) (Option.some ClassFile.FieldType.int)) ∈ lwg := mw 422 (by decide +kernel) rfl
theorem w_369 : (Cond.methodLink "SnapStacksLaw" (49 : Nat) ({ cls := "SnapStacks", name := "opening", desc := "(II)I" } : MethodName)) ∈ lwg := mw 423 (by decide +kernel) rfl
theorem w_370 : (Cond.instanceMethod ({ cls := "SnapStacks", name := "opening", desc := "(II)I" } : MethodName)) ∈ lwg := mw 424 (by decide +kernel) rfl
theorem w_371 : (Cond.selects "SnapStacks" ({ cls := "SnapStacks", name := "opening", desc := "(II)I" } : MethodName) ({ cls := "SnapStacks", name := "opening", desc := "(II)I" } : MethodName)) ∈ lwg := mw 425 (by decide +kernel) rfl
theorem w_372 : (Cond.code ({ cls := "SnapStacks", name := "opening", desc := "(II)I" } : MethodName) prog_1_method_10_code (3 : Nat) (Option.some ClassFile.FieldType.int)) ∈ lwg := mw 426 (by decide +kernel) rfl
theorem w_378 : (Cond.methodLink "SnapStacksLaw" (53 : Nat) ({ cls := "SnapStacks", name := "set", desc := "(II)I" } : MethodName)) ∈ lwg := mw 432 (by decide +kernel) rfl
theorem w_379 : (Cond.instanceMethod ({ cls := "SnapStacks", name := "set", desc := "(II)I" } : MethodName)) ∈ lwg := mw 433 (by decide +kernel) rfl
theorem w_380 : (Cond.selects "SnapStacks" ({ cls := "SnapStacks", name := "set", desc := "(II)I" } : MethodName) ({ cls := "SnapStacks", name := "set", desc := "(II)I" } : MethodName)) ∈ lwg := mw 434 (by decide +kernel) rfl
theorem w_381 : (Cond.code ({ cls := "SnapStacks", name := "set", desc := "(II)I" } : MethodName) prog_1_method_11_code (4 : Nat) (Option.some ClassFile.FieldType.int)) ∈ lwg := mw 435 (by decide +kernel) rfl
theorem w_385 : (Cond.methodLink "SnapStacksLaw" (57 : Nat) ({ cls := "SnapStacks", name := "tick", desc := "(I)I" } : MethodName)) ∈ lwg := mw 439 (by decide +kernel) rfl
theorem w_386 : (Cond.instanceMethod ({ cls := "SnapStacks", name := "tick", desc := "(I)I" } : MethodName)) ∈ lwg := mw 440 (by decide +kernel) rfl
theorem w_387 : (Cond.selects "SnapStacks" ({ cls := "SnapStacks", name := "tick", desc := "(I)I" } : MethodName) ({ cls := "SnapStacks", name := "tick", desc := "(I)I" } : MethodName)) ∈ lwg := mw 441 (by decide +kernel) rfl
theorem w_388 : (Cond.code ({ cls := "SnapStacks", name := "tick", desc := "(I)I" } : MethodName) prog_1_method_12_code (4 : Nat) (Option.some ClassFile.FieldType.int)) ∈ lwg := mw 442 (by decide +kernel) rfl
theorem w_438 : (Cond.methodLink "SnapStacksLaw" (61 : Nat) ({ cls := "SnapStacks", name := "stripOf", desc := "(II)I" } : MethodName)) ∈ lwg := mw 492 (by decide +kernel) rfl
theorem w_439 : (Cond.instanceMethod ({ cls := "SnapStacks", name := "stripOf", desc := "(II)I" } : MethodName)) ∈ lwg := mw 493 (by decide +kernel) rfl
theorem w_440 : (Cond.selects "SnapStacks" ({ cls := "SnapStacks", name := "stripOf", desc := "(II)I" } : MethodName) ({ cls := "SnapStacks", name := "stripOf", desc := "(II)I" } : MethodName)) ∈ lwg := mw 494 (by decide +kernel) rfl
theorem w_441 : (Cond.code ({ cls := "SnapStacks", name := "stripOf", desc := "(II)I" } : MethodName) prog_1_method_13_code (4 : Nat) (Option.some ClassFile.FieldType.int)) ∈ lwg := mw 495 (by decide +kernel) rfl
theorem w_447 : (Cond.methodLink "SnapStacksLaw" (65 : Nat) ({ cls := "SnapStacks", name := "partOf", desc := "(III)I" } : MethodName)) ∈ lwg := mw 501 (by decide +kernel) rfl
theorem w_448 : (Cond.instanceMethod ({ cls := "SnapStacks", name := "partOf", desc := "(III)I" } : MethodName)) ∈ lwg := mw 502 (by decide +kernel) rfl
theorem w_449 : (Cond.selects "SnapStacks" ({ cls := "SnapStacks", name := "partOf", desc := "(III)I" } : MethodName) ({ cls := "SnapStacks", name := "partOf", desc := "(III)I" } : MethodName)) ∈ lwg := mw 503 (by decide +kernel) rfl
theorem w_450 : (Cond.code ({ cls := "SnapStacks", name := "partOf", desc := "(III)I" } : MethodName) prog_1_method_14_code (5 : Nat) (Option.some ClassFile.FieldType.int)) ∈ lwg := mw 504 (by decide +kernel) rfl
theorem w_453 : (Cond.methodLink "SnapStacksLaw" (69 : Nat) ({ cls := "SnapStacks", name := "roomOf", desc := "(II)I" } : MethodName)) ∈ lwg := mw 507 (by decide +kernel) rfl
theorem w_454 : (Cond.instanceMethod ({ cls := "SnapStacks", name := "roomOf", desc := "(II)I" } : MethodName)) ∈ lwg := mw 508 (by decide +kernel) rfl
theorem w_455 : (Cond.selects "SnapStacks" ({ cls := "SnapStacks", name := "roomOf", desc := "(II)I" } : MethodName) ({ cls := "SnapStacks", name := "roomOf", desc := "(II)I" } : MethodName)) ∈ lwg := mw 509 (by decide +kernel) rfl
theorem w_456 : (Cond.code ({ cls := "SnapStacks", name := "roomOf", desc := "(II)I" } : MethodName) prog_1_method_15_code (4 : Nat) (Option.some ClassFile.FieldType.int)) ∈ lwg := mw 510 (by decide +kernel) rfl
theorem w_457 : (Cond.methodLink "SnapStacksLaw" (73 : Nat) ({ cls := "SnapStacks", name := "count", desc := "(I)I" } : MethodName)) ∈ lwg := mw 511 (by decide +kernel) rfl
theorem w_458 : (Cond.instanceMethod ({ cls := "SnapStacks", name := "count", desc := "(I)I" } : MethodName)) ∈ lwg := mw 512 (by decide +kernel) rfl
theorem w_459 : (Cond.selects "SnapStacks" ({ cls := "SnapStacks", name := "count", desc := "(I)I" } : MethodName) ({ cls := "SnapStacks", name := "count", desc := "(I)I" } : MethodName)) ∈ lwg := mw 513 (by decide +kernel) rfl
theorem w_460 : (Cond.code ({ cls := "SnapStacks", name := "count", desc := "(I)I" } : MethodName) prog_1_method_16_code (2 : Nat) (Option.some ClassFile.FieldType.int)) ∈ lwg := mw 514 (by decide +kernel) rfl
theorem w_469 : (Cond.methodLink "SnapStacksLaw" (77 : Nat) ({ cls := "SnapStacks", name := "bend", desc := "(II)I" } : MethodName)) ∈ lwg := mw 523 (by decide +kernel) rfl
theorem w_470 : (Cond.instanceMethod ({ cls := "SnapStacks", name := "bend", desc := "(II)I" } : MethodName)) ∈ lwg := mw 524 (by decide +kernel) rfl
theorem w_471 : (Cond.selects "SnapStacks" ({ cls := "SnapStacks", name := "bend", desc := "(II)I" } : MethodName) ({ cls := "SnapStacks", name := "bend", desc := "(II)I" } : MethodName)) ∈ lwg := mw 525 (by decide +kernel) rfl
theorem w_472 : (Cond.code ({ cls := "SnapStacks", name := "bend", desc := "(II)I" } : MethodName) prog_1_method_17_code (3 : Nat) (Option.some ClassFile.FieldType.int)) ∈ lwg := mw 526 (by decide +kernel) rfl
theorem w_474 : (Cond.methodLink "SnapStacksLaw" (81 : Nat) ({ cls := "SnapStacks", name := "tripsAt", desc := "(II)I" } : MethodName)) ∈ lwg := mw 528 (by decide +kernel) rfl
theorem w_475 : (Cond.instanceMethod ({ cls := "SnapStacks", name := "tripsAt", desc := "(II)I" } : MethodName)) ∈ lwg := mw 529 (by decide +kernel) rfl
theorem w_476 : (Cond.selects "SnapStacks" ({ cls := "SnapStacks", name := "tripsAt", desc := "(II)I" } : MethodName) ({ cls := "SnapStacks", name := "tripsAt", desc := "(II)I" } : MethodName)) ∈ lwg := mw 530 (by decide +kernel) rfl
theorem w_477 : (Cond.code ({ cls := "SnapStacks", name := "tripsAt", desc := "(II)I" } : MethodName) prog_1_method_18_code (5 : Nat) (Option.some ClassFile.FieldType.int)) ∈ lwg := mw 531 (by decide +kernel) rfl
theorem w_489 : (Cond.methodLink "SnapStacksLaw" (85 : Nat) ({ cls := "SnapStacks", name := "loop", desc := "(I)I" } : MethodName)) ∈ lwg := mw 543 (by decide +kernel) rfl
theorem w_490 : (Cond.instanceMethod ({ cls := "SnapStacks", name := "loop", desc := "(I)I" } : MethodName)) ∈ lwg := mw 544 (by decide +kernel) rfl
theorem w_491 : (Cond.selects "SnapStacks" ({ cls := "SnapStacks", name := "loop", desc := "(I)I" } : MethodName) ({ cls := "SnapStacks", name := "loop", desc := "(I)I" } : MethodName)) ∈ lwg := mw 545 (by decide +kernel) rfl
theorem w_492 : (Cond.code ({ cls := "SnapStacks", name := "loop", desc := "(I)I" } : MethodName) prog_1_method_19_code (2 : Nat) (Option.some ClassFile.FieldType.int)) ∈ lwg := mw 546 (by decide +kernel) rfl
theorem w_513 : (Cond.methodLink "SnapStacksLaw" (89 : Nat) ({ cls := "SnapStacks", name := "stack", desc := "(III)I" } : MethodName)) ∈ lwg := mw 567 (by decide +kernel) rfl
theorem w_514 : (Cond.instanceMethod ({ cls := "SnapStacks", name := "stack", desc := "(III)I" } : MethodName)) ∈ lwg := mw 568 (by decide +kernel) rfl
theorem w_515 : (Cond.selects "SnapStacks" ({ cls := "SnapStacks", name := "stack", desc := "(III)I" } : MethodName) ({ cls := "SnapStacks", name := "stack", desc := "(III)I" } : MethodName)) ∈ lwg := mw 569 (by decide +kernel) rfl
theorem w_516 : (Cond.code ({ cls := "SnapStacks", name := "stack", desc := "(III)I" } : MethodName) prog_1_method_20_code (5 : Nat) (Option.some ClassFile.FieldType.int)) ∈ lwg := mw 570 (by decide +kernel) rfl
theorem w_577 : (Cond.methodLink "SnapStacksLaw" (93 : Nat) ({ cls := "SnapStacks", name := "undo", desc := "()I" } : MethodName)) ∈ lwg := mw 631 (by decide +kernel) rfl
theorem w_578 : (Cond.instanceMethod ({ cls := "SnapStacks", name := "undo", desc := "()I" } : MethodName)) ∈ lwg := mw 632 (by decide +kernel) rfl
theorem w_579 : (Cond.selects "SnapStacks" ({ cls := "SnapStacks", name := "undo", desc := "()I" } : MethodName) ({ cls := "SnapStacks", name := "undo", desc := "()I" } : MethodName)) ∈ lwg := mw 633 (by decide +kernel) rfl
theorem w_580 : (Cond.code ({ cls := "SnapStacks", name := "undo", desc := "()I" } : MethodName) prog_1_method_21_code (1 : Nat) (Option.some ClassFile.FieldType.int)) ∈ lwg := mw 634 (by decide +kernel) rfl
theorem w_585 : (Cond.methodLink "SnapStacksLaw" (98 : Nat) ({ cls := "SnapStacks", name := "type", desc := "(I)I" } : MethodName)) ∈ lwg := mw 639 (by decide +kernel) rfl
theorem w_586 : (Cond.instanceMethod ({ cls := "SnapStacks", name := "type", desc := "(I)I" } : MethodName)) ∈ lwg := mw 640 (by decide +kernel) rfl
theorem w_587 : (Cond.selects "SnapStacks" ({ cls := "SnapStacks", name := "type", desc := "(I)I" } : MethodName) ({ cls := "SnapStacks", name := "type", desc := "(I)I" } : MethodName)) ∈ lwg := mw 641 (by decide +kernel) rfl
theorem w_588 : (Cond.code ({ cls := "SnapStacks", name := "type", desc := "(I)I" } : MethodName) prog_1_method_22_code (2 : Nat) (Option.some ClassFile.FieldType.int)) ∈ lwg := mw 642 (by decide +kernel) rfl
theorem w_593 : (Cond.methodLink "SnapStacksLaw" (102 : Nat) ({ cls := "SnapStacks", name := "clearText", desc := "()I" } : MethodName)) ∈ lwg := mw 647 (by decide +kernel) rfl
theorem w_594 : (Cond.instanceMethod ({ cls := "SnapStacks", name := "clearText", desc := "()I" } : MethodName)) ∈ lwg := mw 648 (by decide +kernel) rfl
theorem w_595 : (Cond.selects "SnapStacks" ({ cls := "SnapStacks", name := "clearText", desc := "()I" } : MethodName) ({ cls := "SnapStacks", name := "clearText", desc := "()I" } : MethodName)) ∈ lwg := mw 649 (by decide +kernel) rfl
theorem w_596 : (Cond.code ({ cls := "SnapStacks", name := "clearText", desc := "()I" } : MethodName) prog_1_method_23_code (2 : Nat) (Option.some ClassFile.FieldType.int)) ∈ lwg := mw 650 (by decide +kernel) rfl
theorem w_597 : (Cond.methodLink "SnapStacksLaw" (106 : Nat) ({ cls := "SnapStacks", name := "fault", desc := "(I)I" } : MethodName)) ∈ lwg := mw 651 (by decide +kernel) rfl
theorem w_598 : (Cond.instanceMethod ({ cls := "SnapStacks", name := "fault", desc := "(I)I" } : MethodName)) ∈ lwg := mw 652 (by decide +kernel) rfl
theorem w_599 : (Cond.selects "SnapStacks" ({ cls := "SnapStacks", name := "fault", desc := "(I)I" } : MethodName) ({ cls := "SnapStacks", name := "fault", desc := "(I)I" } : MethodName)) ∈ lwg := mw 653 (by decide +kernel) rfl
theorem w_600 : (Cond.code ({ cls := "SnapStacks", name := "fault", desc := "(I)I" } : MethodName) prog_1_method_24_code (3 : Nat) (Option.some ClassFile.FieldType.int)) ∈ lwg := mw 654 (by decide +kernel) rfl
theorem w_615 : (Cond.methodLink "SnapStacksLaw" (110 : Nat) ({ cls := "SnapStacks", name := "read", desc := "(I)I" } : MethodName)) ∈ lwg := mw 669 (by decide +kernel) rfl
theorem w_616 : (Cond.instanceMethod ({ cls := "SnapStacks", name := "read", desc := "(I)I" } : MethodName)) ∈ lwg := mw 670 (by decide +kernel) rfl
theorem w_617 : (Cond.selects "SnapStacks" ({ cls := "SnapStacks", name := "read", desc := "(I)I" } : MethodName) ({ cls := "SnapStacks", name := "read", desc := "(I)I" } : MethodName)) ∈ lwg := mw 671 (by decide +kernel) rfl
theorem w_618 : (Cond.code ({ cls := "SnapStacks", name := "read", desc := "(I)I" } : MethodName) prog_1_method_25_code (4 : Nat) (Option.some ClassFile.FieldType.int)) ∈ lwg := mw 672 (by decide +kernel) rfl
theorem w_635 : (Cond.classLink "SnapStacksLaw" (10 : Nat) "SnapStacksModel") ∈ lwg := mw 689 (by decide +kernel) rfl
theorem w_636 : (Cond.instantiable "SnapStacksModel" (15 : Nat)) ∈ lwg := mw 690 (by decide +kernel) rfl
theorem w_637 : (Cond.methodLink "SnapStacksLaw" (12 : Nat) ({ cls := "SnapStacksModel", name := "<init>", desc := "()V" } : MethodName)) ∈ lwg := mw 691 (by decide +kernel) rfl
theorem w_638 : (Cond.instanceMethod ({ cls := "SnapStacksModel", name := "<init>", desc := "()V" } : MethodName)) ∈ lwg := mw 692 (by decide +kernel) rfl
theorem w_639 : (Cond.code ({ cls := "SnapStacksModel", name := "<init>", desc := "()V" } : MethodName) prog_10_method_1_code (2 : Nat) (Option.none : Option ClassFile.FieldType)) ∈ lwg := mw 693 (by decide +kernel) rfl
theorem w_694 : (Cond.methodLink "SnapStacksLaw" (17 : Nat) ({ cls := "SnapStacksModel", name := "metal", desc := "(II)I" } : MethodName)) ∈ lwg := mw 748 (by decide +kernel) rfl
theorem w_695 : (Cond.instanceMethod ({ cls := "SnapStacksModel", name := "metal", desc := "(II)I" } : MethodName)) ∈ lwg := mw 749 (by decide +kernel) rfl
theorem w_696 : (Cond.selects "SnapStacksModel" ({ cls := "SnapStacksModel", name := "metal", desc := "(II)I" } : MethodName) ({ cls := "SnapStacksModel", name := "metal", desc := "(II)I" } : MethodName)) ∈ lwg := mw 750 (by decide +kernel) rfl
theorem w_697 : (Cond.code ({ cls := "SnapStacksModel", name := "metal", desc := "(II)I" } : MethodName) prog_10_method_29_code (3 : Nat) (Option.some ClassFile.FieldType.int)) ∈ lwg := mw 751 (by decide +kernel) rfl
theorem w_718 : (Cond.methodLink "SnapStacksLaw" (22 : Nat) ({ cls := "SnapStacksModel", name := "part", desc := "(IIII)I" } : MethodName)) ∈ lwg := mw 772 (by decide +kernel) rfl
theorem w_719 : (Cond.instanceMethod ({ cls := "SnapStacksModel", name := "part", desc := "(IIII)I" } : MethodName)) ∈ lwg := mw 773 (by decide +kernel) rfl
theorem w_720 : (Cond.selects "SnapStacksModel" ({ cls := "SnapStacksModel", name := "part", desc := "(IIII)I" } : MethodName) ({ cls := "SnapStacksModel", name := "part", desc := "(IIII)I" } : MethodName)) ∈ lwg := mw 774 (by decide +kernel) rfl
theorem w_721 : (Cond.code ({ cls := "SnapStacksModel", name := "part", desc := "(IIII)I" } : MethodName) prog_10_method_31_code (6 : Nat) (Option.some ClassFile.FieldType.int)) ∈ lwg := mw 775 (by decide +kernel) rfl
theorem w_737 : (Cond.methodLink "SnapStacksLaw" (26 : Nat) ({ cls := "SnapStacksModel", name := "cut", desc := "(II)I" } : MethodName)) ∈ lwg := mw 791 (by decide +kernel) rfl
theorem w_738 : (Cond.instanceMethod ({ cls := "SnapStacksModel", name := "cut", desc := "(II)I" } : MethodName)) ∈ lwg := mw 792 (by decide +kernel) rfl
theorem w_739 : (Cond.selects "SnapStacksModel" ({ cls := "SnapStacksModel", name := "cut", desc := "(II)I" } : MethodName) ({ cls := "SnapStacksModel", name := "cut", desc := "(II)I" } : MethodName)) ∈ lwg := mw 793 (by decide +kernel) rfl
theorem w_740 : (Cond.code ({ cls := "SnapStacksModel", name := "cut", desc := "(II)I" } : MethodName) prog_10_method_32_code (3 : Nat) (Option.some ClassFile.FieldType.int)) ∈ lwg := mw 794 (by decide +kernel) rfl
theorem w_746 : (Cond.methodLink "SnapStacksLaw" (30 : Nat) ({ cls := "SnapStacksModel", name := "bounds", desc := "(IIII)I" } : MethodName)) ∈ lwg := mw 800 (by decide +kernel) rfl
theorem w_747 : (Cond.instanceMethod ({ cls := "SnapStacksModel", name := "bounds", desc := "(IIII)I" } : MethodName)) ∈ lwg := mw 801 (by decide +kernel) rfl
theorem w_748 : (Cond.selects "SnapStacksModel" ({ cls := "SnapStacksModel", name := "bounds", desc := "(IIII)I" } : MethodName) ({ cls := "SnapStacksModel", name := "bounds", desc := "(IIII)I" } : MethodName)) ∈ lwg := mw 802 (by decide +kernel) rfl
theorem w_749 : (Cond.code ({ cls := "SnapStacksModel", name := "bounds", desc := "(IIII)I" } : MethodName) prog_10_method_34_code (6 : Nat) (Option.some ClassFile.FieldType.int)) ∈ lwg := mw 803 (by decide +kernel) rfl
theorem w_774 : (Cond.methodLink "SnapStacksLaw" (34 : Nat) ({ cls := "SnapStacksModel", name := "contact", desc := "(II)I" } : MethodName)) ∈ lwg := mw 828 (by decide +kernel) rfl
theorem w_775 : (Cond.instanceMethod ({ cls := "SnapStacksModel", name := "contact", desc := "(II)I" } : MethodName)) ∈ lwg := mw 829 (by decide +kernel) rfl
theorem w_776 : (Cond.selects "SnapStacksModel" ({ cls := "SnapStacksModel", name := "contact", desc := "(II)I" } : MethodName) ({ cls := "SnapStacksModel", name := "contact", desc := "(II)I" } : MethodName)) ∈ lwg := mw 830 (by decide +kernel) rfl
theorem w_777 : (Cond.code ({ cls := "SnapStacksModel", name := "contact", desc := "(II)I" } : MethodName) prog_10_method_35_code (3 : Nat) (Option.some ClassFile.FieldType.int)) ∈ lwg := mw 831 (by decide +kernel) rfl
theorem w_786 : (Cond.methodLink "SnapStacksLaw" (39 : Nat) ({ cls := "SnapStacksModel", name := "heat", desc := "(III)I" } : MethodName)) ∈ lwg := mw 840 (by decide +kernel) rfl
theorem w_787 : (Cond.instanceMethod ({ cls := "SnapStacksModel", name := "heat", desc := "(III)I" } : MethodName)) ∈ lwg := mw 841 (by decide +kernel) rfl
theorem w_788 : (Cond.selects "SnapStacksModel" ({ cls := "SnapStacksModel", name := "heat", desc := "(III)I" } : MethodName) ({ cls := "SnapStacksModel", name := "heat", desc := "(III)I" } : MethodName)) ∈ lwg := mw 842 (by decide +kernel) rfl
theorem w_789 : (Cond.code ({ cls := "SnapStacksModel", name := "heat", desc := "(III)I" } : MethodName) prog_10_method_36_code (5 : Nat) (Option.some ClassFile.FieldType.int)) ∈ lwg := mw 843 (by decide +kernel) rfl
theorem w_790 : (Cond.methodLink "SnapStacksLaw" (44 : Nat) ({ cls := "SnapStacksModel", name := "outside", desc := "(I)I" } : MethodName)) ∈ lwg := mw 844 (by decide +kernel) rfl
theorem w_791 : (Cond.instanceMethod ({ cls := "SnapStacksModel", name := "outside", desc := "(I)I" } : MethodName)) ∈ lwg := mw 845 (by decide +kernel) rfl
theorem w_792 : (Cond.selects "SnapStacksModel" ({ cls := "SnapStacksModel", name := "outside", desc := "(I)I" } : MethodName) ({ cls := "SnapStacksModel", name := "outside", desc := "(I)I" } : MethodName)) ∈ lwg := mw 846 (by decide +kernel) rfl
theorem w_793 : (Cond.code ({ cls := "SnapStacksModel", name := "outside", desc := "(I)I" } : MethodName) prog_10_method_38_code (2 : Nat) (Option.some ClassFile.FieldType.int)) ∈ lwg := mw 847 (by decide +kernel) rfl
theorem w_797 : (Cond.methodLink "SnapStacksLaw" (48 : Nat) ({ cls := "SnapStacksModel", name := "warm", desc := "(II)I" } : MethodName)) ∈ lwg := mw 851 (by decide +kernel) rfl
theorem w_798 : (Cond.instanceMethod ({ cls := "SnapStacksModel", name := "warm", desc := "(II)I" } : MethodName)) ∈ lwg := mw 852 (by decide +kernel) rfl
theorem w_799 : (Cond.selects "SnapStacksModel" ({ cls := "SnapStacksModel", name := "warm", desc := "(II)I" } : MethodName) ({ cls := "SnapStacksModel", name := "warm", desc := "(II)I" } : MethodName)) ∈ lwg := mw 853 (by decide +kernel) rfl
theorem w_800 : (Cond.code ({ cls := "SnapStacksModel", name := "warm", desc := "(II)I" } : MethodName) prog_10_method_39_code (3 : Nat) (Option.some ClassFile.FieldType.int)) ∈ lwg := mw 854 (by decide +kernel) rfl
theorem w_801 : (Cond.methodLink "SnapStacksLaw" (52 : Nat) ({ cls := "SnapStacksModel", name := "opening", desc := "(II)I" } : MethodName)) ∈ lwg := mw 855 (by decide +kernel) rfl
theorem w_802 : (Cond.instanceMethod ({ cls := "SnapStacksModel", name := "opening", desc := "(II)I" } : MethodName)) ∈ lwg := mw 856 (by decide +kernel) rfl
theorem w_803 : (Cond.selects "SnapStacksModel" ({ cls := "SnapStacksModel", name := "opening", desc := "(II)I" } : MethodName) ({ cls := "SnapStacksModel", name := "opening", desc := "(II)I" } : MethodName)) ∈ lwg := mw 857 (by decide +kernel) rfl
theorem w_804 : (Cond.code ({ cls := "SnapStacksModel", name := "opening", desc := "(II)I" } : MethodName) prog_10_method_40_code (3 : Nat) (Option.some ClassFile.FieldType.int)) ∈ lwg := mw 858 (by decide +kernel) rfl
theorem w_805 : (Cond.methodLink "SnapStacksLaw" (56 : Nat) ({ cls := "SnapStacksModel", name := "set", desc := "(II)I" } : MethodName)) ∈ lwg := mw 859 (by decide +kernel) rfl
theorem w_806 : (Cond.instanceMethod ({ cls := "SnapStacksModel", name := "set", desc := "(II)I" } : MethodName)) ∈ lwg := mw 860 (by decide +kernel) rfl
theorem w_807 : (Cond.selects "SnapStacksModel" ({ cls := "SnapStacksModel", name := "set", desc := "(II)I" } : MethodName) ({ cls := "SnapStacksModel", name := "set", desc := "(II)I" } : MethodName)) ∈ lwg := mw 861 (by decide +kernel) rfl
theorem w_808 : (Cond.code ({ cls := "SnapStacksModel", name := "set", desc := "(II)I" } : MethodName) prog_10_method_41_code (4 : Nat) (Option.some ClassFile.FieldType.int)) ∈ lwg := mw 862 (by decide +kernel) rfl
theorem w_809 : (Cond.methodLink "SnapStacksLaw" (60 : Nat) ({ cls := "SnapStacksModel", name := "tick", desc := "(I)I" } : MethodName)) ∈ lwg := mw 863 (by decide +kernel) rfl
theorem w_810 : (Cond.instanceMethod ({ cls := "SnapStacksModel", name := "tick", desc := "(I)I" } : MethodName)) ∈ lwg := mw 864 (by decide +kernel) rfl
theorem w_811 : (Cond.selects "SnapStacksModel" ({ cls := "SnapStacksModel", name := "tick", desc := "(I)I" } : MethodName) ({ cls := "SnapStacksModel", name := "tick", desc := "(I)I" } : MethodName)) ∈ lwg := mw 865 (by decide +kernel) rfl
theorem w_812 : (Cond.code ({ cls := "SnapStacksModel", name := "tick", desc := "(I)I" } : MethodName) prog_10_method_42_code (2 : Nat) (Option.some ClassFile.FieldType.int)) ∈ lwg := mw 866 (by decide +kernel) rfl
theorem w_845 : (Cond.methodLink "SnapStacksLaw" (64 : Nat) ({ cls := "SnapStacksModel", name := "stripOf", desc := "(II)I" } : MethodName)) ∈ lwg := mw 899 (by decide +kernel) rfl
theorem w_846 : (Cond.instanceMethod ({ cls := "SnapStacksModel", name := "stripOf", desc := "(II)I" } : MethodName)) ∈ lwg := mw 900 (by decide +kernel) rfl
theorem w_847 : (Cond.selects "SnapStacksModel" ({ cls := "SnapStacksModel", name := "stripOf", desc := "(II)I" } : MethodName) ({ cls := "SnapStacksModel", name := "stripOf", desc := "(II)I" } : MethodName)) ∈ lwg := mw 901 (by decide +kernel) rfl
theorem w_848 : (Cond.code ({ cls := "SnapStacksModel", name := "stripOf", desc := "(II)I" } : MethodName) prog_10_method_43_code (3 : Nat) (Option.some ClassFile.FieldType.int)) ∈ lwg := mw 902 (by decide +kernel) rfl
theorem w_853 : (Cond.methodLink "SnapStacksLaw" (68 : Nat) ({ cls := "SnapStacksModel", name := "partOf", desc := "(III)I" } : MethodName)) ∈ lwg := mw 907 (by decide +kernel) rfl
theorem w_854 : (Cond.instanceMethod ({ cls := "SnapStacksModel", name := "partOf", desc := "(III)I" } : MethodName)) ∈ lwg := mw 908 (by decide +kernel) rfl
theorem w_855 : (Cond.selects "SnapStacksModel" ({ cls := "SnapStacksModel", name := "partOf", desc := "(III)I" } : MethodName) ({ cls := "SnapStacksModel", name := "partOf", desc := "(III)I" } : MethodName)) ∈ lwg := mw 909 (by decide +kernel) rfl
theorem w_856 : (Cond.code ({ cls := "SnapStacksModel", name := "partOf", desc := "(III)I" } : MethodName) prog_10_method_44_code (4 : Nat) (Option.some ClassFile.FieldType.int)) ∈ lwg := mw 910 (by decide +kernel) rfl
theorem w_858 : (Cond.methodLink "SnapStacksLaw" (72 : Nat) ({ cls := "SnapStacksModel", name := "roomOf", desc := "(II)I" } : MethodName)) ∈ lwg := mw 912 (by decide +kernel) rfl
theorem w_859 : (Cond.instanceMethod ({ cls := "SnapStacksModel", name := "roomOf", desc := "(II)I" } : MethodName)) ∈ lwg := mw 913 (by decide +kernel) rfl
theorem w_860 : (Cond.selects "SnapStacksModel" ({ cls := "SnapStacksModel", name := "roomOf", desc := "(II)I" } : MethodName) ({ cls := "SnapStacksModel", name := "roomOf", desc := "(II)I" } : MethodName)) ∈ lwg := mw 914 (by decide +kernel) rfl
theorem w_861 : (Cond.code ({ cls := "SnapStacksModel", name := "roomOf", desc := "(II)I" } : MethodName) prog_10_method_45_code (3 : Nat) (Option.some ClassFile.FieldType.int)) ∈ lwg := mw 915 (by decide +kernel) rfl
theorem w_862 : (Cond.methodLink "SnapStacksLaw" (76 : Nat) ({ cls := "SnapStacksModel", name := "count", desc := "(I)I" } : MethodName)) ∈ lwg := mw 916 (by decide +kernel) rfl
theorem w_863 : (Cond.instanceMethod ({ cls := "SnapStacksModel", name := "count", desc := "(I)I" } : MethodName)) ∈ lwg := mw 917 (by decide +kernel) rfl
theorem w_864 : (Cond.selects "SnapStacksModel" ({ cls := "SnapStacksModel", name := "count", desc := "(I)I" } : MethodName) ({ cls := "SnapStacksModel", name := "count", desc := "(I)I" } : MethodName)) ∈ lwg := mw 918 (by decide +kernel) rfl
theorem w_865 : (Cond.code ({ cls := "SnapStacksModel", name := "count", desc := "(I)I" } : MethodName) prog_10_method_46_code (2 : Nat) (Option.some ClassFile.FieldType.int)) ∈ lwg := mw 919 (by decide +kernel) rfl
theorem w_866 : (Cond.methodLink "SnapStacksLaw" (80 : Nat) ({ cls := "SnapStacksModel", name := "bend", desc := "(II)I" } : MethodName)) ∈ lwg := mw 920 (by decide +kernel) rfl
theorem w_867 : (Cond.instanceMethod ({ cls := "SnapStacksModel", name := "bend", desc := "(II)I" } : MethodName)) ∈ lwg := mw 921 (by decide +kernel) rfl
theorem w_868 : (Cond.selects "SnapStacksModel" ({ cls := "SnapStacksModel", name := "bend", desc := "(II)I" } : MethodName) ({ cls := "SnapStacksModel", name := "bend", desc := "(II)I" } : MethodName)) ∈ lwg := mw 922 (by decide +kernel) rfl
theorem w_869 : (Cond.code ({ cls := "SnapStacksModel", name := "bend", desc := "(II)I" } : MethodName) prog_10_method_47_code (3 : Nat) (Option.some ClassFile.FieldType.int)) ∈ lwg := mw 923 (by decide +kernel) rfl
theorem w_870 : (Cond.methodLink "SnapStacksLaw" (84 : Nat) ({ cls := "SnapStacksModel", name := "tripsAt", desc := "(II)I" } : MethodName)) ∈ lwg := mw 924 (by decide +kernel) rfl
theorem w_871 : (Cond.instanceMethod ({ cls := "SnapStacksModel", name := "tripsAt", desc := "(II)I" } : MethodName)) ∈ lwg := mw 925 (by decide +kernel) rfl
theorem w_872 : (Cond.selects "SnapStacksModel" ({ cls := "SnapStacksModel", name := "tripsAt", desc := "(II)I" } : MethodName) ({ cls := "SnapStacksModel", name := "tripsAt", desc := "(II)I" } : MethodName)) ∈ lwg := mw 926 (by decide +kernel) rfl
theorem w_873 : (Cond.code ({ cls := "SnapStacksModel", name := "tripsAt", desc := "(II)I" } : MethodName) prog_10_method_48_code (7 : Nat) (Option.some ClassFile.FieldType.int)) ∈ lwg := mw 927 (by decide +kernel) rfl
theorem w_874 : (Cond.methodLink "SnapStacksLaw" (88 : Nat) ({ cls := "SnapStacksModel", name := "loop", desc := "(I)I" } : MethodName)) ∈ lwg := mw 928 (by decide +kernel) rfl
theorem w_875 : (Cond.instanceMethod ({ cls := "SnapStacksModel", name := "loop", desc := "(I)I" } : MethodName)) ∈ lwg := mw 929 (by decide +kernel) rfl
theorem w_876 : (Cond.selects "SnapStacksModel" ({ cls := "SnapStacksModel", name := "loop", desc := "(I)I" } : MethodName) ({ cls := "SnapStacksModel", name := "loop", desc := "(I)I" } : MethodName)) ∈ lwg := mw 930 (by decide +kernel) rfl
theorem w_877 : (Cond.code ({ cls := "SnapStacksModel", name := "loop", desc := "(I)I" } : MethodName) prog_10_method_52_code (4 : Nat) (Option.some ClassFile.FieldType.int)) ∈ lwg := mw 931 (by decide +kernel) rfl
theorem w_894 : (Cond.methodLink "SnapStacksLaw" (92 : Nat) ({ cls := "SnapStacksModel", name := "stack", desc := "(III)I" } : MethodName)) ∈ lwg := mw 948 (by decide +kernel) rfl
theorem w_895 : (Cond.instanceMethod ({ cls := "SnapStacksModel", name := "stack", desc := "(III)I" } : MethodName)) ∈ lwg := mw 949 (by decide +kernel) rfl
theorem w_896 : (Cond.selects "SnapStacksModel" ({ cls := "SnapStacksModel", name := "stack", desc := "(III)I" } : MethodName) ({ cls := "SnapStacksModel", name := "stack", desc := "(III)I" } : MethodName)) ∈ lwg := mw 950 (by decide +kernel) rfl
theorem w_897 : (Cond.code ({ cls := "SnapStacksModel", name := "stack", desc := "(III)I" } : MethodName) prog_10_method_62_code (4 : Nat) (Option.some ClassFile.FieldType.int)) ∈ lwg := mw 951 (by decide +kernel) rfl
theorem w_933 : (Cond.methodLink "SnapStacksLaw" (97 : Nat) ({ cls := "SnapStacksModel", name := "undo", desc := "()I" } : MethodName)) ∈ lwg := mw 987 (by decide +kernel) rfl
theorem w_934 : (Cond.instanceMethod ({ cls := "SnapStacksModel", name := "undo", desc := "()I" } : MethodName)) ∈ lwg := mw 988 (by decide +kernel) rfl
theorem w_935 : (Cond.selects "SnapStacksModel" ({ cls := "SnapStacksModel", name := "undo", desc := "()I" } : MethodName) ({ cls := "SnapStacksModel", name := "undo", desc := "()I" } : MethodName)) ∈ lwg := mw 989 (by decide +kernel) rfl
theorem w_936 : (Cond.code ({ cls := "SnapStacksModel", name := "undo", desc := "()I" } : MethodName) prog_10_method_63_code (2 : Nat) (Option.some ClassFile.FieldType.int)) ∈ lwg := mw 990 (by decide +kernel) rfl
theorem w_937 : (Cond.methodLink "SnapStacksLaw" (101 : Nat) ({ cls := "SnapStacksModel", name := "type", desc := "(I)I" } : MethodName)) ∈ lwg := mw 991 (by decide +kernel) rfl
theorem w_938 : (Cond.instanceMethod ({ cls := "SnapStacksModel", name := "type", desc := "(I)I" } : MethodName)) ∈ lwg := mw 992 (by decide +kernel) rfl
theorem w_939 : (Cond.selects "SnapStacksModel" ({ cls := "SnapStacksModel", name := "type", desc := "(I)I" } : MethodName) ({ cls := "SnapStacksModel", name := "type", desc := "(I)I" } : MethodName)) ∈ lwg := mw 993 (by decide +kernel) rfl
theorem w_940 : (Cond.code ({ cls := "SnapStacksModel", name := "type", desc := "(I)I" } : MethodName) prog_10_method_64_code (2 : Nat) (Option.some ClassFile.FieldType.int)) ∈ lwg := mw 994 (by decide +kernel) rfl
theorem w_941 : (Cond.methodLink "SnapStacksLaw" (105 : Nat) ({ cls := "SnapStacksModel", name := "clearText", desc := "()I" } : MethodName)) ∈ lwg := mw 995 (by decide +kernel) rfl
theorem w_942 : (Cond.instanceMethod ({ cls := "SnapStacksModel", name := "clearText", desc := "()I" } : MethodName)) ∈ lwg := mw 996 (by decide +kernel) rfl
theorem w_943 : (Cond.selects "SnapStacksModel" ({ cls := "SnapStacksModel", name := "clearText", desc := "()I" } : MethodName) ({ cls := "SnapStacksModel", name := "clearText", desc := "()I" } : MethodName)) ∈ lwg := mw 997 (by decide +kernel) rfl
theorem w_944 : (Cond.code ({ cls := "SnapStacksModel", name := "clearText", desc := "()I" } : MethodName) prog_10_method_65_code (2 : Nat) (Option.some ClassFile.FieldType.int)) ∈ lwg := mw 998 (by decide +kernel) rfl
theorem w_945 : (Cond.methodLink "SnapStacksLaw" (109 : Nat) ({ cls := "SnapStacksModel", name := "fault", desc := "(I)I" } : MethodName)) ∈ lwg := mw 999 (by decide +kernel) rfl
theorem w_946 : (Cond.instanceMethod ({ cls := "SnapStacksModel", name := "fault", desc := "(I)I" } : MethodName)) ∈ lwg := mw 1000 (by decide +kernel) rfl
theorem w_947 : (Cond.selects "SnapStacksModel" ({ cls := "SnapStacksModel", name := "fault", desc := "(I)I" } : MethodName) ({ cls := "SnapStacksModel", name := "fault", desc := "(I)I" } : MethodName)) ∈ lwg := mw 1001 (by decide +kernel) rfl
theorem w_948 : (Cond.code ({ cls := "SnapStacksModel", name := "fault", desc := "(I)I" } : MethodName) prog_10_method_69_code (2 : Nat) (Option.some ClassFile.FieldType.int)) ∈ lwg := mw 1002 (by decide +kernel) rfl
theorem w_961 : (Cond.methodLink "SnapStacksLaw" (113 : Nat) ({ cls := "SnapStacksModel", name := "read", desc := "(I)I" } : MethodName)) ∈ lwg := mw 1015 (by decide +kernel) rfl
theorem w_962 : (Cond.instanceMethod ({ cls := "SnapStacksModel", name := "read", desc := "(I)I" } : MethodName)) ∈ lwg := mw 1016 (by decide +kernel) rfl
theorem w_963 : (Cond.selects "SnapStacksModel" ({ cls := "SnapStacksModel", name := "read", desc := "(I)I" } : MethodName) ({ cls := "SnapStacksModel", name := "read", desc := "(I)I" } : MethodName)) ∈ lwg := mw 1017 (by decide +kernel) rfl
theorem w_964 : (Cond.code ({ cls := "SnapStacksModel", name := "read", desc := "(I)I" } : MethodName) prog_10_method_71_code (3 : Nat) (Option.some ClassFile.FieldType.int)) ∈ lwg := mw 1018 (by decide +kernel) rfl
def k_L_law (ca : Nat → ClassId) (b L : Nat) (xs : Nat → Int32) : Nat → IT := fun pc => if pc < 164 then lk pc [(0, i_new 600000 7302250 7 6 [.null, .null, .null, .null, .null, .int 0] 3),
  (3, i_dup 4),
  (4, i_callV 7 0 145 8959 600000 7302250 (sp_X7_init ca) 7),
  (7, i_astore 1 8),
  (8, i_new 600000 7302250 8 15 [.null, .null, .null, .int 0, .null, .int 0, .null, .null, .null, .null, .null, .null, .int 0, .int 0, .int 0] 11),
  (11, i_dup 12),
  (12, i_callV 8 0 10 22274 600000 7302250 (sp_X8_init ca) 15),
  (15, i_astore 2 16),
  (16, i_push (.int 0) 17),
  (17, i_istore 3 18),
  (18, i_iload 3 19),
  (19, i_aload 0 20),
  (20, i_slen b L 21),
  (21, i_push (.int 5) 22),
  (22, i_bin (fun x y => x - y) 23),
  (23, i_icmp (fun x y => y < x) 902 26),
  (26, i_aload 0 27),
  (27, i_iload 3 28),
  (28, i_sld b L xs 29),
  (29, i_push (.int 31) 31),
  (31, i_bin (fun x y => x &&& y) 32),
  (32, i_sw [(0, 144), (1, 177), (2, 230), (3, 263), (4, 316), (5, 349), (6, 392), (7, 415), (8, 448), (9, 481), (10, 514), (11, 537), (12, 570), (13, 613), (14, 646), (15, 669), (16, 702), (17, 735), (18, 758), (19, 801), (20, 814), (21, 837), (22, 850), (23, 873)] 896),
  (144, i_aload 1 145),
  (145, i_aload 0 146),
  (146, i_iload 3 147),
  (147, i_push (.int 1) 148),
  (148, i_bin (fun x y => x + y) 149),
  (149, i_sld b L xs 150),
  (150, i_aload 0 151),
  (151, i_iload 3 152),
  (152, i_push (.int 2) 153),
  (153, i_bin (fun x y => x + y) 154),
  (154, i_sld b L xs 155),
  (155, i_callV 7 2 0 0 600000 7302250 (sp_X7_metal ca) 158),
  (158, i_aload 2 159),
  (159, i_aload 0 160),
  (160, i_iload 3 161),
  (161, i_push (.int 1) 162),
  (162, i_bin (fun x y => x + y) 163),
  (163, i_sld b L xs 164)] else
  if pc < 211 then lk pc [(164, i_aload 0 165),
  (165, i_iload 3 166),
  (166, i_push (.int 2) 167),
  (167, i_bin (fun x y => x + y) 168),
  (168, i_sld b L xs 169),
  (169, i_callV 8 2 0 0 600000 7302250 (sp_X8_metal ca) 172),
  (172, i_icmp (fun x y => x = y) 896 175),
  (175, i_push (.int 0) 176),
  (177, i_aload 1 178),
  (178, i_aload 0 179),
  (179, i_iload 3 180),
  (180, i_push (.int 1) 181),
  (181, i_bin (fun x y => x + y) 182),
  (182, i_sld b L xs 183),
  (183, i_aload 0 184),
  (184, i_iload 3 185),
  (185, i_push (.int 2) 186),
  (186, i_bin (fun x y => x + y) 187),
  (187, i_sld b L xs 188),
  (188, i_aload 0 189),
  (189, i_iload 3 190),
  (190, i_push (.int 3) 191),
  (191, i_bin (fun x y => x + y) 192),
  (192, i_sld b L xs 193),
  (193, i_aload 0 194),
  (194, i_iload 3 195),
  (195, i_push (.int 4) 196),
  (196, i_bin (fun x y => x + y) 197),
  (197, i_sld b L xs 198),
  (198, i_callV 7 4 0 0 600000 7302250 (sp_X7_part ca) 201),
  (201, i_aload 2 202),
  (202, i_aload 0 203),
  (203, i_iload 3 204),
  (204, i_push (.int 1) 205),
  (205, i_bin (fun x y => x + y) 206),
  (206, i_sld b L xs 207),
  (207, i_aload 0 208),
  (208, i_iload 3 209),
  (209, i_push (.int 2) 210),
  (210, i_bin (fun x y => x + y) 211)] else
  if pc < 263 then lk pc [(211, i_sld b L xs 212),
  (212, i_aload 0 213),
  (213, i_iload 3 214),
  (214, i_push (.int 3) 215),
  (215, i_bin (fun x y => x + y) 216),
  (216, i_sld b L xs 217),
  (217, i_aload 0 218),
  (218, i_iload 3 219),
  (219, i_push (.int 4) 220),
  (220, i_bin (fun x y => x + y) 221),
  (221, i_sld b L xs 222),
  (222, i_callV 8 4 0 0 600000 7302250 (sp_X8_part ca) 225),
  (225, i_icmp (fun x y => x = y) 896 228),
  (228, i_push (.int 0) 229),
  (230, i_aload 1 231),
  (231, i_aload 0 232),
  (232, i_iload 3 233),
  (233, i_push (.int 1) 234),
  (234, i_bin (fun x y => x + y) 235),
  (235, i_sld b L xs 236),
  (236, i_aload 0 237),
  (237, i_iload 3 238),
  (238, i_push (.int 2) 239),
  (239, i_bin (fun x y => x + y) 240),
  (240, i_sld b L xs 241),
  (241, i_callV 7 2 0 0 600000 7302250 (sp_X7_cut ca) 244),
  (244, i_aload 2 245),
  (245, i_aload 0 246),
  (246, i_iload 3 247),
  (247, i_push (.int 1) 248),
  (248, i_bin (fun x y => x + y) 249),
  (249, i_sld b L xs 250),
  (250, i_aload 0 251),
  (251, i_iload 3 252),
  (252, i_push (.int 2) 253),
  (253, i_bin (fun x y => x + y) 254),
  (254, i_sld b L xs 255),
  (255, i_callV 8 2 0 0 600000 7302250 (sp_X8_cut ca) 258),
  (258, i_icmp (fun x y => x = y) 896 261),
  (261, i_push (.int 0) 262)] else
  if pc < 305 then lk pc [(263, i_aload 1 264),
  (264, i_aload 0 265),
  (265, i_iload 3 266),
  (266, i_push (.int 1) 267),
  (267, i_bin (fun x y => x + y) 268),
  (268, i_sld b L xs 269),
  (269, i_aload 0 270),
  (270, i_iload 3 271),
  (271, i_push (.int 2) 272),
  (272, i_bin (fun x y => x + y) 273),
  (273, i_sld b L xs 274),
  (274, i_aload 0 275),
  (275, i_iload 3 276),
  (276, i_push (.int 3) 277),
  (277, i_bin (fun x y => x + y) 278),
  (278, i_sld b L xs 279),
  (279, i_aload 0 280),
  (280, i_iload 3 281),
  (281, i_push (.int 4) 282),
  (282, i_bin (fun x y => x + y) 283),
  (283, i_sld b L xs 284),
  (284, i_callV 7 4 0 0 600000 7302250 (sp_X7_bounds ca) 287),
  (287, i_aload 2 288),
  (288, i_aload 0 289),
  (289, i_iload 3 290),
  (290, i_push (.int 1) 291),
  (291, i_bin (fun x y => x + y) 292),
  (292, i_sld b L xs 293),
  (293, i_aload 0 294),
  (294, i_iload 3 295),
  (295, i_push (.int 2) 296),
  (296, i_bin (fun x y => x + y) 297),
  (297, i_sld b L xs 298),
  (298, i_aload 0 299),
  (299, i_iload 3 300),
  (300, i_push (.int 3) 301),
  (301, i_bin (fun x y => x + y) 302),
  (302, i_sld b L xs 303),
  (303, i_aload 0 304),
  (304, i_iload 3 305)] else
  if pc < 357 then lk pc [(305, i_push (.int 4) 306),
  (306, i_bin (fun x y => x + y) 307),
  (307, i_sld b L xs 308),
  (308, i_callV 8 4 0 0 600000 7302250 (sp_X8_bounds ca) 311),
  (311, i_icmp (fun x y => x = y) 896 314),
  (314, i_push (.int 0) 315),
  (316, i_aload 1 317),
  (317, i_aload 0 318),
  (318, i_iload 3 319),
  (319, i_push (.int 1) 320),
  (320, i_bin (fun x y => x + y) 321),
  (321, i_sld b L xs 322),
  (322, i_aload 0 323),
  (323, i_iload 3 324),
  (324, i_push (.int 2) 325),
  (325, i_bin (fun x y => x + y) 326),
  (326, i_sld b L xs 327),
  (327, i_callV 7 2 0 0 600000 7302250 (sp_X7_contact ca) 330),
  (330, i_aload 2 331),
  (331, i_aload 0 332),
  (332, i_iload 3 333),
  (333, i_push (.int 1) 334),
  (334, i_bin (fun x y => x + y) 335),
  (335, i_sld b L xs 336),
  (336, i_aload 0 337),
  (337, i_iload 3 338),
  (338, i_push (.int 2) 339),
  (339, i_bin (fun x y => x + y) 340),
  (340, i_sld b L xs 341),
  (341, i_callV 8 2 0 0 600000 7302250 (sp_X8_contact ca) 344),
  (344, i_icmp (fun x y => x = y) 896 347),
  (347, i_push (.int 0) 348),
  (349, i_aload 1 350),
  (350, i_aload 0 351),
  (351, i_iload 3 352),
  (352, i_push (.int 1) 353),
  (353, i_bin (fun x y => x + y) 354),
  (354, i_sld b L xs 355),
  (355, i_aload 0 356),
  (356, i_iload 3 357)] else
  if pc < 406 then lk pc [(357, i_push (.int 2) 358),
  (358, i_bin (fun x y => x + y) 359),
  (359, i_sld b L xs 360),
  (360, i_aload 0 361),
  (361, i_iload 3 362),
  (362, i_push (.int 3) 363),
  (363, i_bin (fun x y => x + y) 364),
  (364, i_sld b L xs 365),
  (365, i_callV 7 3 0 0 600000 7302250 (sp_X7_heat ca) 368),
  (368, i_aload 2 369),
  (369, i_aload 0 370),
  (370, i_iload 3 371),
  (371, i_push (.int 1) 372),
  (372, i_bin (fun x y => x + y) 373),
  (373, i_sld b L xs 374),
  (374, i_aload 0 375),
  (375, i_iload 3 376),
  (376, i_push (.int 2) 377),
  (377, i_bin (fun x y => x + y) 378),
  (378, i_sld b L xs 379),
  (379, i_aload 0 380),
  (380, i_iload 3 381),
  (381, i_push (.int 3) 382),
  (382, i_bin (fun x y => x + y) 383),
  (383, i_sld b L xs 384),
  (384, i_callV 8 3 0 0 600000 7302250 (sp_X8_heat ca) 387),
  (387, i_icmp (fun x y => x = y) 896 390),
  (390, i_push (.int 0) 391),
  (392, i_aload 1 393),
  (393, i_aload 0 394),
  (394, i_iload 3 395),
  (395, i_push (.int 1) 396),
  (396, i_bin (fun x y => x + y) 397),
  (397, i_sld b L xs 398),
  (398, i_callV 7 1 0 0 600000 7302250 (sp_X7_outside ca) 401),
  (401, i_aload 2 402),
  (402, i_aload 0 403),
  (403, i_iload 3 404),
  (404, i_push (.int 1) 405),
  (405, i_bin (fun x y => x + y) 406)] else
  if pc < 458 then lk pc [(406, i_sld b L xs 407),
  (407, i_callV 8 1 0 0 600000 7302250 (sp_X8_outside ca) 410),
  (410, i_icmp (fun x y => x = y) 896 413),
  (413, i_push (.int 0) 414),
  (415, i_aload 1 416),
  (416, i_aload 0 417),
  (417, i_iload 3 418),
  (418, i_push (.int 1) 419),
  (419, i_bin (fun x y => x + y) 420),
  (420, i_sld b L xs 421),
  (421, i_aload 0 422),
  (422, i_iload 3 423),
  (423, i_push (.int 2) 424),
  (424, i_bin (fun x y => x + y) 425),
  (425, i_sld b L xs 426),
  (426, i_callV 7 2 0 0 600000 7302250 (sp_X7_warm ca) 429),
  (429, i_aload 2 430),
  (430, i_aload 0 431),
  (431, i_iload 3 432),
  (432, i_push (.int 1) 433),
  (433, i_bin (fun x y => x + y) 434),
  (434, i_sld b L xs 435),
  (435, i_aload 0 436),
  (436, i_iload 3 437),
  (437, i_push (.int 2) 438),
  (438, i_bin (fun x y => x + y) 439),
  (439, i_sld b L xs 440),
  (440, i_callV 8 2 0 0 600000 7302250 (sp_X8_warm ca) 443),
  (443, i_icmp (fun x y => x = y) 896 446),
  (446, i_push (.int 0) 447),
  (448, i_aload 1 449),
  (449, i_aload 0 450),
  (450, i_iload 3 451),
  (451, i_push (.int 1) 452),
  (452, i_bin (fun x y => x + y) 453),
  (453, i_sld b L xs 454),
  (454, i_aload 0 455),
  (455, i_iload 3 456),
  (456, i_push (.int 2) 457),
  (457, i_bin (fun x y => x + y) 458)] else
  if pc < 509 then lk pc [(458, i_sld b L xs 459),
  (459, i_callV 7 2 0 0 600000 7302250 (sp_X7_opening ca) 462),
  (462, i_aload 2 463),
  (463, i_aload 0 464),
  (464, i_iload 3 465),
  (465, i_push (.int 1) 466),
  (466, i_bin (fun x y => x + y) 467),
  (467, i_sld b L xs 468),
  (468, i_aload 0 469),
  (469, i_iload 3 470),
  (470, i_push (.int 2) 471),
  (471, i_bin (fun x y => x + y) 472),
  (472, i_sld b L xs 473),
  (473, i_callV 8 2 0 0 600000 7302250 (sp_X8_opening ca) 476),
  (476, i_icmp (fun x y => x = y) 896 479),
  (479, i_push (.int 0) 480),
  (481, i_aload 1 482),
  (482, i_aload 0 483),
  (483, i_iload 3 484),
  (484, i_push (.int 1) 485),
  (485, i_bin (fun x y => x + y) 486),
  (486, i_sld b L xs 487),
  (487, i_aload 0 488),
  (488, i_iload 3 489),
  (489, i_push (.int 2) 490),
  (490, i_bin (fun x y => x + y) 491),
  (491, i_sld b L xs 492),
  (492, i_callV 7 2 0 0 600000 7302250 (sp_X7_set ca) 495),
  (495, i_aload 2 496),
  (496, i_aload 0 497),
  (497, i_iload 3 498),
  (498, i_push (.int 1) 499),
  (499, i_bin (fun x y => x + y) 500),
  (500, i_sld b L xs 501),
  (501, i_aload 0 502),
  (502, i_iload 3 503),
  (503, i_push (.int 2) 504),
  (504, i_bin (fun x y => x + y) 505),
  (505, i_sld b L xs 506),
  (506, i_callV 8 2 0 0 600000 7302250 (sp_X8_set ca) 509)] else
  if pc < 561 then lk pc [(509, i_icmp (fun x y => x = y) 896 512),
  (512, i_push (.int 0) 513),
  (514, i_aload 1 515),
  (515, i_aload 0 516),
  (516, i_iload 3 517),
  (517, i_push (.int 1) 518),
  (518, i_bin (fun x y => x + y) 519),
  (519, i_sld b L xs 520),
  (520, i_callV 7 1 0 0 600000 7302250 (sp_X7_tick ca) 523),
  (523, i_aload 2 524),
  (524, i_aload 0 525),
  (525, i_iload 3 526),
  (526, i_push (.int 1) 527),
  (527, i_bin (fun x y => x + y) 528),
  (528, i_sld b L xs 529),
  (529, i_callV 8 1 0 0 600000 7302250 (sp_X8_tick ca) 532),
  (532, i_icmp (fun x y => x = y) 896 535),
  (535, i_push (.int 0) 536),
  (537, i_aload 1 538),
  (538, i_aload 0 539),
  (539, i_iload 3 540),
  (540, i_push (.int 1) 541),
  (541, i_bin (fun x y => x + y) 542),
  (542, i_sld b L xs 543),
  (543, i_aload 0 544),
  (544, i_iload 3 545),
  (545, i_push (.int 2) 546),
  (546, i_bin (fun x y => x + y) 547),
  (547, i_sld b L xs 548),
  (548, i_callV 7 2 0 0 600000 7302250 (sp_X7_stripOf ca) 551),
  (551, i_aload 2 552),
  (552, i_aload 0 553),
  (553, i_iload 3 554),
  (554, i_push (.int 1) 555),
  (555, i_bin (fun x y => x + y) 556),
  (556, i_sld b L xs 557),
  (557, i_aload 0 558),
  (558, i_iload 3 559),
  (559, i_push (.int 2) 560),
  (560, i_bin (fun x y => x + y) 561)] else
  if pc < 613 then lk pc [(561, i_sld b L xs 562),
  (562, i_callV 8 2 0 0 600000 7302250 (sp_X8_stripOf ca) 565),
  (565, i_icmp (fun x y => x = y) 896 568),
  (568, i_push (.int 0) 569),
  (570, i_aload 1 571),
  (571, i_aload 0 572),
  (572, i_iload 3 573),
  (573, i_push (.int 1) 574),
  (574, i_bin (fun x y => x + y) 575),
  (575, i_sld b L xs 576),
  (576, i_aload 0 577),
  (577, i_iload 3 578),
  (578, i_push (.int 2) 579),
  (579, i_bin (fun x y => x + y) 580),
  (580, i_sld b L xs 581),
  (581, i_aload 0 582),
  (582, i_iload 3 583),
  (583, i_push (.int 3) 584),
  (584, i_bin (fun x y => x + y) 585),
  (585, i_sld b L xs 586),
  (586, i_callV 7 3 0 0 600000 7302250 (sp_X7_partOf ca) 589),
  (589, i_aload 2 590),
  (590, i_aload 0 591),
  (591, i_iload 3 592),
  (592, i_push (.int 1) 593),
  (593, i_bin (fun x y => x + y) 594),
  (594, i_sld b L xs 595),
  (595, i_aload 0 596),
  (596, i_iload 3 597),
  (597, i_push (.int 2) 598),
  (598, i_bin (fun x y => x + y) 599),
  (599, i_sld b L xs 600),
  (600, i_aload 0 601),
  (601, i_iload 3 602),
  (602, i_push (.int 3) 603),
  (603, i_bin (fun x y => x + y) 604),
  (604, i_sld b L xs 605),
  (605, i_callV 8 3 0 0 600000 7302250 (sp_X8_partOf ca) 608),
  (608, i_icmp (fun x y => x = y) 896 611),
  (611, i_push (.int 0) 612)] else
  if pc < 664 then lk pc [(613, i_aload 1 614),
  (614, i_aload 0 615),
  (615, i_iload 3 616),
  (616, i_push (.int 1) 617),
  (617, i_bin (fun x y => x + y) 618),
  (618, i_sld b L xs 619),
  (619, i_aload 0 620),
  (620, i_iload 3 621),
  (621, i_push (.int 2) 622),
  (622, i_bin (fun x y => x + y) 623),
  (623, i_sld b L xs 624),
  (624, i_callV 7 2 0 0 600000 7302250 (sp_X7_roomOf ca) 627),
  (627, i_aload 2 628),
  (628, i_aload 0 629),
  (629, i_iload 3 630),
  (630, i_push (.int 1) 631),
  (631, i_bin (fun x y => x + y) 632),
  (632, i_sld b L xs 633),
  (633, i_aload 0 634),
  (634, i_iload 3 635),
  (635, i_push (.int 2) 636),
  (636, i_bin (fun x y => x + y) 637),
  (637, i_sld b L xs 638),
  (638, i_callV 8 2 0 0 600000 7302250 (sp_X8_roomOf ca) 641),
  (641, i_icmp (fun x y => x = y) 896 644),
  (644, i_push (.int 0) 645),
  (646, i_aload 1 647),
  (647, i_aload 0 648),
  (648, i_iload 3 649),
  (649, i_push (.int 1) 650),
  (650, i_bin (fun x y => x + y) 651),
  (651, i_sld b L xs 652),
  (652, i_callV 7 1 0 0 600000 7302250 (sp_X7_count ca) 655),
  (655, i_aload 2 656),
  (656, i_aload 0 657),
  (657, i_iload 3 658),
  (658, i_push (.int 1) 659),
  (659, i_bin (fun x y => x + y) 660),
  (660, i_sld b L xs 661),
  (661, i_callV 8 1 0 0 600000 7302250 (sp_X8_count ca) 664)] else
  if pc < 716 then lk pc [(664, i_icmp (fun x y => x = y) 896 667),
  (667, i_push (.int 0) 668),
  (669, i_aload 1 670),
  (670, i_aload 0 671),
  (671, i_iload 3 672),
  (672, i_push (.int 1) 673),
  (673, i_bin (fun x y => x + y) 674),
  (674, i_sld b L xs 675),
  (675, i_aload 0 676),
  (676, i_iload 3 677),
  (677, i_push (.int 2) 678),
  (678, i_bin (fun x y => x + y) 679),
  (679, i_sld b L xs 680),
  (680, i_callV 7 2 0 0 600000 7302250 (sp_X7_bend ca) 683),
  (683, i_aload 2 684),
  (684, i_aload 0 685),
  (685, i_iload 3 686),
  (686, i_push (.int 1) 687),
  (687, i_bin (fun x y => x + y) 688),
  (688, i_sld b L xs 689),
  (689, i_aload 0 690),
  (690, i_iload 3 691),
  (691, i_push (.int 2) 692),
  (692, i_bin (fun x y => x + y) 693),
  (693, i_sld b L xs 694),
  (694, i_callV 8 2 0 0 600000 7302250 (sp_X8_bend ca) 697),
  (697, i_icmp (fun x y => x = y) 896 700),
  (700, i_push (.int 0) 701),
  (702, i_aload 1 703),
  (703, i_aload 0 704),
  (704, i_iload 3 705),
  (705, i_push (.int 1) 706),
  (706, i_bin (fun x y => x + y) 707),
  (707, i_sld b L xs 708),
  (708, i_aload 0 709),
  (709, i_iload 3 710),
  (710, i_push (.int 2) 711),
  (711, i_bin (fun x y => x + y) 712),
  (712, i_sld b L xs 713),
  (713, i_callV 7 2 0 0 600000 7302250 (sp_X7_tripsAt ca) 716)] else
  if pc < 768 then lk pc [(716, i_aload 2 717),
  (717, i_aload 0 718),
  (718, i_iload 3 719),
  (719, i_push (.int 1) 720),
  (720, i_bin (fun x y => x + y) 721),
  (721, i_sld b L xs 722),
  (722, i_aload 0 723),
  (723, i_iload 3 724),
  (724, i_push (.int 2) 725),
  (725, i_bin (fun x y => x + y) 726),
  (726, i_sld b L xs 727),
  (727, i_callV 8 2 0 0 600000 7302250 (sp_X8_tripsAt ca) 730),
  (730, i_icmp (fun x y => x = y) 896 733),
  (733, i_push (.int 0) 734),
  (735, i_aload 1 736),
  (736, i_aload 0 737),
  (737, i_iload 3 738),
  (738, i_push (.int 1) 739),
  (739, i_bin (fun x y => x + y) 740),
  (740, i_sld b L xs 741),
  (741, i_callV 7 1 0 0 600000 7302250 (sp_X7_loop ca) 744),
  (744, i_aload 2 745),
  (745, i_aload 0 746),
  (746, i_iload 3 747),
  (747, i_push (.int 1) 748),
  (748, i_bin (fun x y => x + y) 749),
  (749, i_sld b L xs 750),
  (750, i_callV 8 1 0 0 600000 7302250 (sp_X8_loop ca) 753),
  (753, i_icmp (fun x y => x = y) 896 756),
  (756, i_push (.int 0) 757),
  (758, i_aload 1 759),
  (759, i_aload 0 760),
  (760, i_iload 3 761),
  (761, i_push (.int 1) 762),
  (762, i_bin (fun x y => x + y) 763),
  (763, i_sld b L xs 764),
  (764, i_aload 0 765),
  (765, i_iload 3 766),
  (766, i_push (.int 2) 767),
  (767, i_bin (fun x y => x + y) 768)] else
  if pc < 824 then lk pc [(768, i_sld b L xs 769),
  (769, i_aload 0 770),
  (770, i_iload 3 771),
  (771, i_push (.int 3) 772),
  (772, i_bin (fun x y => x + y) 773),
  (773, i_sld b L xs 774),
  (774, i_callV 7 3 0 0 600000 7302250 (sp_X7_stack ca) 777),
  (777, i_aload 2 778),
  (778, i_aload 0 779),
  (779, i_iload 3 780),
  (780, i_push (.int 1) 781),
  (781, i_bin (fun x y => x + y) 782),
  (782, i_sld b L xs 783),
  (783, i_aload 0 784),
  (784, i_iload 3 785),
  (785, i_push (.int 2) 786),
  (786, i_bin (fun x y => x + y) 787),
  (787, i_sld b L xs 788),
  (788, i_aload 0 789),
  (789, i_iload 3 790),
  (790, i_push (.int 3) 791),
  (791, i_bin (fun x y => x + y) 792),
  (792, i_sld b L xs 793),
  (793, i_callV 8 3 0 0 600000 7302250 (sp_X8_stack ca) 796),
  (796, i_icmp (fun x y => x = y) 896 799),
  (799, i_push (.int 0) 800),
  (801, i_aload 1 802),
  (802, i_callV 7 0 0 0 600000 7302250 (sp_X7_undo ca) 805),
  (805, i_aload 2 806),
  (806, i_callV 8 0 0 0 600000 7302250 (sp_X8_undo ca) 809),
  (809, i_icmp (fun x y => x = y) 896 812),
  (812, i_push (.int 0) 813),
  (814, i_aload 1 815),
  (815, i_aload 0 816),
  (816, i_iload 3 817),
  (817, i_push (.int 1) 818),
  (818, i_bin (fun x y => x + y) 819),
  (819, i_sld b L xs 820),
  (820, i_callV 7 1 0 0 600000 7302250 (sp_X7_type ca) 823),
  (823, i_aload 2 824)] else
  if pc < 885 then lk pc [(824, i_aload 0 825),
  (825, i_iload 3 826),
  (826, i_push (.int 1) 827),
  (827, i_bin (fun x y => x + y) 828),
  (828, i_sld b L xs 829),
  (829, i_callV 8 1 0 0 600000 7302250 (sp_X8_type ca) 832),
  (832, i_icmp (fun x y => x = y) 896 835),
  (835, i_push (.int 0) 836),
  (837, i_aload 1 838),
  (838, i_callV 7 0 0 0 600000 7302250 (sp_X7_clearText ca) 841),
  (841, i_aload 2 842),
  (842, i_callV 8 0 0 0 600000 7302250 (sp_X8_clearText ca) 845),
  (845, i_icmp (fun x y => x = y) 896 848),
  (848, i_push (.int 0) 849),
  (850, i_aload 1 851),
  (851, i_aload 0 852),
  (852, i_iload 3 853),
  (853, i_push (.int 1) 854),
  (854, i_bin (fun x y => x + y) 855),
  (855, i_sld b L xs 856),
  (856, i_callV 7 1 0 0 600000 7302250 (sp_X7_fault ca) 859),
  (859, i_aload 2 860),
  (860, i_aload 0 861),
  (861, i_iload 3 862),
  (862, i_push (.int 1) 863),
  (863, i_bin (fun x y => x + y) 864),
  (864, i_sld b L xs 865),
  (865, i_callV 8 1 0 0 600000 7302250 (sp_X8_fault ca) 868),
  (868, i_icmp (fun x y => x = y) 896 871),
  (871, i_push (.int 0) 872),
  (873, i_aload 1 874),
  (874, i_aload 0 875),
  (875, i_iload 3 876),
  (876, i_push (.int 1) 877),
  (877, i_bin (fun x y => x + y) 878),
  (878, i_sld b L xs 879),
  (879, i_callV 7 1 0 0 600000 7302250 (sp_X7_read ca) 882),
  (882, i_aload 2 883),
  (883, i_aload 0 884),
  (884, i_iload 3 885)] else
  lk pc [(885, i_push (.int 1) 886),
  (886, i_bin (fun x y => x + y) 887),
  (887, i_sld b L xs 888),
  (888, i_callV 8 1 0 0 600000 7302250 (sp_X8_read ca) 891),
  (891, i_icmp (fun x y => x = y) 896 894),
  (894, i_push (.int 0) 895),
  (896, i_iinc 3 5 899),
  (899, i_goto 18),
  (902, i_push (.int 1) 903),
  (903, i_ret)]
set_option maxHeartbeats 4000000 in
set_option maxRecDepth 20000 in
theorem t_L_law {D : va_G} {ca : Nat → ClassId} {p : Program} {l : Launch} {e : Env} {s : State} {m : MethodId} {below : List Frame} {meth : Method} {c : Code} {nm : String} {b L : Nat} {xs : Nat → Int32} (X : Ax D ca (fun q => s.heap.size ≤ q) 4 "SnapStacksLaw" nm code ret p s m #[.ref b] meth c) (hX : va_X b L xs s s.heap) (hbl : b < s.heap.size) : ∀ pc, Snd D (fun q => s.heap.size ≤ q) 4 p l e room_1 s m #[.ref b] below meth c (lw_Z below #[.ref b] s) (KRet 600000 7302250 (fun v _ => v = some (.int 1))) (k_L_law ca b L xs pc) pc := by
  have hbA : ¬ (fun q : Nat => s.heap.size ≤ q) b := Nat.not_le.mpr hbl
  unfold k_L_law
  refine snd_split (164) ?_ ?_
  · refine snd_cons (snd_new X Fk7 rfl rfl w_13 w_14 w_1 (by decide) dL_law_0) ?_
    refine snd_cons (snd_dup X dL_law_3) ?_
    refine snd_cons (snd_callI X (ci := 7) (ok_X7_init l D ca) rfl rfl w_15 w_16 w_1 w_17 rfl (by decide) (by decide) dL_law_4) ?_
    refine snd_cons (snd_astore_n X dL_law_7 rfl (by decide)) ?_
    refine snd_cons (snd_new X Fk8 rfl rfl w_635 w_636 w_9 (by decide) dL_law_8) ?_
    refine snd_cons (snd_dup X dL_law_11) ?_
    refine snd_cons (snd_callI X (ci := 8) (ok_X8_init l D ca) rfl rfl w_637 w_638 w_9 w_639 rfl (by decide) (by decide) dL_law_12) ?_
    refine snd_cons (snd_astore_n X dL_law_15 rfl (by decide)) ?_
    refine snd_cons (snd_iconst X dL_law_16 (by decide)) ?_
    refine snd_cons (snd_istore_n X dL_law_17 rfl (by decide)) ?_
    refine snd_cons (snd_iload_n X dL_law_18 rfl) ?_
    refine snd_cons (snd_aload_n X dL_law_19 rfl) ?_
    refine snd_cons (snd_slen X hX hbl hbA dL_law_20) ?_
    refine snd_cons (snd_iconst X dL_law_21 (by decide)) ?_
    refine snd_cons (snd_isub X dL_law_22) ?_
    refine snd_cons (snd_icmp_gt X dL_law_23 (by decide)) ?_
    refine snd_cons (snd_aload_n X dL_law_26 rfl) ?_
    refine snd_cons (snd_iload_n X dL_law_27 rfl) ?_
    refine snd_cons (snd_sld X hX hbl hbA dL_law_28) ?_
    refine snd_cons (snd_bipush X dL_law_29 (by decide)) ?_
    refine snd_cons (snd_iand X dL_law_31) ?_
    refine snd_cons (snd_table X dL_law_32 (by decide) (by decide) (by decide)) ?_
    refine snd_cons (snd_aload_n X dL_law_144 rfl) ?_
    refine snd_cons (snd_aload_n X dL_law_145 rfl) ?_
    refine snd_cons (snd_iload_n X dL_law_146 rfl) ?_
    refine snd_cons (snd_iconst X dL_law_147 (by decide)) ?_
    refine snd_cons (snd_iadd X dL_law_148) ?_
    refine snd_cons (snd_sld X hX hbl hbA dL_law_149) ?_
    refine snd_cons (snd_aload_n X dL_law_150 rfl) ?_
    refine snd_cons (snd_iload_n X dL_law_151 rfl) ?_
    refine snd_cons (snd_iconst X dL_law_152 (by decide)) ?_
    refine snd_cons (snd_iadd X dL_law_153) ?_
    refine snd_cons (snd_sld X hX hbl hbA dL_law_154) ?_
    refine snd_cons (snd_callV X Fk7 (ok_X7_metal l D ca) rfl rfl w_272 w_273 w_274 w_1 w_275 (by decide) (by decide) dL_law_155) ?_
    refine snd_cons (snd_aload_n X dL_law_158 rfl) ?_
    refine snd_cons (snd_aload_n X dL_law_159 rfl) ?_
    refine snd_cons (snd_iload_n X dL_law_160 rfl) ?_
    refine snd_cons (snd_iconst X dL_law_161 (by decide)) ?_
    refine snd_cons (snd_iadd X dL_law_162) ?_
    refine snd_cons (snd_sld X hX hbl hbA dL_law_163) ?_
    exact snd_nil
  refine snd_split (211) ?_ ?_
  · refine snd_cons (snd_aload_n X dL_law_164 rfl) ?_
    refine snd_cons (snd_iload_n X dL_law_165 rfl) ?_
    refine snd_cons (snd_iconst X dL_law_166 (by decide)) ?_
    refine snd_cons (snd_iadd X dL_law_167) ?_
    refine snd_cons (snd_sld X hX hbl hbA dL_law_168) ?_
    refine snd_cons (snd_callV X Fk8 (ok_X8_metal l D ca) rfl rfl w_694 w_695 w_696 w_9 w_697 (by decide) (by decide) dL_law_169) ?_
    refine snd_cons (snd_icmp_eq X dL_law_172 (by decide)) ?_
    refine snd_cons (snd_iconst X dL_law_175 (by decide)) ?_
    refine snd_cons (snd_aload_n X dL_law_177 rfl) ?_
    refine snd_cons (snd_aload_n X dL_law_178 rfl) ?_
    refine snd_cons (snd_iload_n X dL_law_179 rfl) ?_
    refine snd_cons (snd_iconst X dL_law_180 (by decide)) ?_
    refine snd_cons (snd_iadd X dL_law_181) ?_
    refine snd_cons (snd_sld X hX hbl hbA dL_law_182) ?_
    refine snd_cons (snd_aload_n X dL_law_183 rfl) ?_
    refine snd_cons (snd_iload_n X dL_law_184 rfl) ?_
    refine snd_cons (snd_iconst X dL_law_185 (by decide)) ?_
    refine snd_cons (snd_iadd X dL_law_186) ?_
    refine snd_cons (snd_sld X hX hbl hbA dL_law_187) ?_
    refine snd_cons (snd_aload_n X dL_law_188 rfl) ?_
    refine snd_cons (snd_iload_n X dL_law_189 rfl) ?_
    refine snd_cons (snd_iconst X dL_law_190 (by decide)) ?_
    refine snd_cons (snd_iadd X dL_law_191) ?_
    refine snd_cons (snd_sld X hX hbl hbA dL_law_192) ?_
    refine snd_cons (snd_aload_n X dL_law_193 rfl) ?_
    refine snd_cons (snd_iload_n X dL_law_194 rfl) ?_
    refine snd_cons (snd_iconst X dL_law_195 (by decide)) ?_
    refine snd_cons (snd_iadd X dL_law_196) ?_
    refine snd_cons (snd_sld X hX hbl hbA dL_law_197) ?_
    refine snd_cons (snd_callV X Fk7 (ok_X7_part l D ca) rfl rfl w_304 w_305 w_306 w_1 w_307 (by decide) (by decide) dL_law_198) ?_
    refine snd_cons (snd_aload_n X dL_law_201 rfl) ?_
    refine snd_cons (snd_aload_n X dL_law_202 rfl) ?_
    refine snd_cons (snd_iload_n X dL_law_203 rfl) ?_
    refine snd_cons (snd_iconst X dL_law_204 (by decide)) ?_
    refine snd_cons (snd_iadd X dL_law_205) ?_
    refine snd_cons (snd_sld X hX hbl hbA dL_law_206) ?_
    refine snd_cons (snd_aload_n X dL_law_207 rfl) ?_
    refine snd_cons (snd_iload_n X dL_law_208 rfl) ?_
    refine snd_cons (snd_iconst X dL_law_209 (by decide)) ?_
    refine snd_cons (snd_iadd X dL_law_210) ?_
    exact snd_nil
  refine snd_split (263) ?_ ?_
  · refine snd_cons (snd_sld X hX hbl hbA dL_law_211) ?_
    refine snd_cons (snd_aload_n X dL_law_212 rfl) ?_
    refine snd_cons (snd_iload_n X dL_law_213 rfl) ?_
    refine snd_cons (snd_iconst X dL_law_214 (by decide)) ?_
    refine snd_cons (snd_iadd X dL_law_215) ?_
    refine snd_cons (snd_sld X hX hbl hbA dL_law_216) ?_
    refine snd_cons (snd_aload_n X dL_law_217 rfl) ?_
    refine snd_cons (snd_iload_n X dL_law_218 rfl) ?_
    refine snd_cons (snd_iconst X dL_law_219 (by decide)) ?_
    refine snd_cons (snd_iadd X dL_law_220) ?_
    refine snd_cons (snd_sld X hX hbl hbA dL_law_221) ?_
    refine snd_cons (snd_callV X Fk8 (ok_X8_part l D ca) rfl rfl w_718 w_719 w_720 w_9 w_721 (by decide) (by decide) dL_law_222) ?_
    refine snd_cons (snd_icmp_eq X dL_law_225 (by decide)) ?_
    refine snd_cons (snd_iconst X dL_law_228 (by decide)) ?_
    refine snd_cons (snd_aload_n X dL_law_230 rfl) ?_
    refine snd_cons (snd_aload_n X dL_law_231 rfl) ?_
    refine snd_cons (snd_iload_n X dL_law_232 rfl) ?_
    refine snd_cons (snd_iconst X dL_law_233 (by decide)) ?_
    refine snd_cons (snd_iadd X dL_law_234) ?_
    refine snd_cons (snd_sld X hX hbl hbA dL_law_235) ?_
    refine snd_cons (snd_aload_n X dL_law_236 rfl) ?_
    refine snd_cons (snd_iload_n X dL_law_237 rfl) ?_
    refine snd_cons (snd_iconst X dL_law_238 (by decide)) ?_
    refine snd_cons (snd_iadd X dL_law_239) ?_
    refine snd_cons (snd_sld X hX hbl hbA dL_law_240) ?_
    refine snd_cons (snd_callV X Fk7 (ok_X7_cut l D ca) rfl rfl w_316 w_317 w_318 w_1 w_319 (by decide) (by decide) dL_law_241) ?_
    refine snd_cons (snd_aload_n X dL_law_244 rfl) ?_
    refine snd_cons (snd_aload_n X dL_law_245 rfl) ?_
    refine snd_cons (snd_iload_n X dL_law_246 rfl) ?_
    refine snd_cons (snd_iconst X dL_law_247 (by decide)) ?_
    refine snd_cons (snd_iadd X dL_law_248) ?_
    refine snd_cons (snd_sld X hX hbl hbA dL_law_249) ?_
    refine snd_cons (snd_aload_n X dL_law_250 rfl) ?_
    refine snd_cons (snd_iload_n X dL_law_251 rfl) ?_
    refine snd_cons (snd_iconst X dL_law_252 (by decide)) ?_
    refine snd_cons (snd_iadd X dL_law_253) ?_
    refine snd_cons (snd_sld X hX hbl hbA dL_law_254) ?_
    refine snd_cons (snd_callV X Fk8 (ok_X8_cut l D ca) rfl rfl w_737 w_738 w_739 w_9 w_740 (by decide) (by decide) dL_law_255) ?_
    refine snd_cons (snd_icmp_eq X dL_law_258 (by decide)) ?_
    refine snd_cons (snd_iconst X dL_law_261 (by decide)) ?_
    exact snd_nil
  refine snd_split (305) ?_ ?_
  · refine snd_cons (snd_aload_n X dL_law_263 rfl) ?_
    refine snd_cons (snd_aload_n X dL_law_264 rfl) ?_
    refine snd_cons (snd_iload_n X dL_law_265 rfl) ?_
    refine snd_cons (snd_iconst X dL_law_266 (by decide)) ?_
    refine snd_cons (snd_iadd X dL_law_267) ?_
    refine snd_cons (snd_sld X hX hbl hbA dL_law_268) ?_
    refine snd_cons (snd_aload_n X dL_law_269 rfl) ?_
    refine snd_cons (snd_iload_n X dL_law_270 rfl) ?_
    refine snd_cons (snd_iconst X dL_law_271 (by decide)) ?_
    refine snd_cons (snd_iadd X dL_law_272) ?_
    refine snd_cons (snd_sld X hX hbl hbA dL_law_273) ?_
    refine snd_cons (snd_aload_n X dL_law_274 rfl) ?_
    refine snd_cons (snd_iload_n X dL_law_275 rfl) ?_
    refine snd_cons (snd_iconst X dL_law_276 (by decide)) ?_
    refine snd_cons (snd_iadd X dL_law_277) ?_
    refine snd_cons (snd_sld X hX hbl hbA dL_law_278) ?_
    refine snd_cons (snd_aload_n X dL_law_279 rfl) ?_
    refine snd_cons (snd_iload_n X dL_law_280 rfl) ?_
    refine snd_cons (snd_iconst X dL_law_281 (by decide)) ?_
    refine snd_cons (snd_iadd X dL_law_282) ?_
    refine snd_cons (snd_sld X hX hbl hbA dL_law_283) ?_
    refine snd_cons (snd_callV X Fk7 (ok_X7_bounds l D ca) rfl rfl w_321 w_322 w_323 w_1 w_324 (by decide) (by decide) dL_law_284) ?_
    refine snd_cons (snd_aload_n X dL_law_287 rfl) ?_
    refine snd_cons (snd_aload_n X dL_law_288 rfl) ?_
    refine snd_cons (snd_iload_n X dL_law_289 rfl) ?_
    refine snd_cons (snd_iconst X dL_law_290 (by decide)) ?_
    refine snd_cons (snd_iadd X dL_law_291) ?_
    refine snd_cons (snd_sld X hX hbl hbA dL_law_292) ?_
    refine snd_cons (snd_aload_n X dL_law_293 rfl) ?_
    refine snd_cons (snd_iload_n X dL_law_294 rfl) ?_
    refine snd_cons (snd_iconst X dL_law_295 (by decide)) ?_
    refine snd_cons (snd_iadd X dL_law_296) ?_
    refine snd_cons (snd_sld X hX hbl hbA dL_law_297) ?_
    refine snd_cons (snd_aload_n X dL_law_298 rfl) ?_
    refine snd_cons (snd_iload_n X dL_law_299 rfl) ?_
    refine snd_cons (snd_iconst X dL_law_300 (by decide)) ?_
    refine snd_cons (snd_iadd X dL_law_301) ?_
    refine snd_cons (snd_sld X hX hbl hbA dL_law_302) ?_
    refine snd_cons (snd_aload_n X dL_law_303 rfl) ?_
    refine snd_cons (snd_iload_n X dL_law_304 rfl) ?_
    exact snd_nil
  refine snd_split (357) ?_ ?_
  · refine snd_cons (snd_iconst X dL_law_305 (by decide)) ?_
    refine snd_cons (snd_iadd X dL_law_306) ?_
    refine snd_cons (snd_sld X hX hbl hbA dL_law_307) ?_
    refine snd_cons (snd_callV X Fk8 (ok_X8_bounds l D ca) rfl rfl w_746 w_747 w_748 w_9 w_749 (by decide) (by decide) dL_law_308) ?_
    refine snd_cons (snd_icmp_eq X dL_law_311 (by decide)) ?_
    refine snd_cons (snd_iconst X dL_law_314 (by decide)) ?_
    refine snd_cons (snd_aload_n X dL_law_316 rfl) ?_
    refine snd_cons (snd_aload_n X dL_law_317 rfl) ?_
    refine snd_cons (snd_iload_n X dL_law_318 rfl) ?_
    refine snd_cons (snd_iconst X dL_law_319 (by decide)) ?_
    refine snd_cons (snd_iadd X dL_law_320) ?_
    refine snd_cons (snd_sld X hX hbl hbA dL_law_321) ?_
    refine snd_cons (snd_aload_n X dL_law_322 rfl) ?_
    refine snd_cons (snd_iload_n X dL_law_323 rfl) ?_
    refine snd_cons (snd_iconst X dL_law_324 (by decide)) ?_
    refine snd_cons (snd_iadd X dL_law_325) ?_
    refine snd_cons (snd_sld X hX hbl hbA dL_law_326) ?_
    refine snd_cons (snd_callV X Fk7 (ok_X7_contact l D ca) rfl rfl w_343 w_344 w_345 w_1 w_346 (by decide) (by decide) dL_law_327) ?_
    refine snd_cons (snd_aload_n X dL_law_330 rfl) ?_
    refine snd_cons (snd_aload_n X dL_law_331 rfl) ?_
    refine snd_cons (snd_iload_n X dL_law_332 rfl) ?_
    refine snd_cons (snd_iconst X dL_law_333 (by decide)) ?_
    refine snd_cons (snd_iadd X dL_law_334) ?_
    refine snd_cons (snd_sld X hX hbl hbA dL_law_335) ?_
    refine snd_cons (snd_aload_n X dL_law_336 rfl) ?_
    refine snd_cons (snd_iload_n X dL_law_337 rfl) ?_
    refine snd_cons (snd_iconst X dL_law_338 (by decide)) ?_
    refine snd_cons (snd_iadd X dL_law_339) ?_
    refine snd_cons (snd_sld X hX hbl hbA dL_law_340) ?_
    refine snd_cons (snd_callV X Fk8 (ok_X8_contact l D ca) rfl rfl w_774 w_775 w_776 w_9 w_777 (by decide) (by decide) dL_law_341) ?_
    refine snd_cons (snd_icmp_eq X dL_law_344 (by decide)) ?_
    refine snd_cons (snd_iconst X dL_law_347 (by decide)) ?_
    refine snd_cons (snd_aload_n X dL_law_349 rfl) ?_
    refine snd_cons (snd_aload_n X dL_law_350 rfl) ?_
    refine snd_cons (snd_iload_n X dL_law_351 rfl) ?_
    refine snd_cons (snd_iconst X dL_law_352 (by decide)) ?_
    refine snd_cons (snd_iadd X dL_law_353) ?_
    refine snd_cons (snd_sld X hX hbl hbA dL_law_354) ?_
    refine snd_cons (snd_aload_n X dL_law_355 rfl) ?_
    refine snd_cons (snd_iload_n X dL_law_356 rfl) ?_
    exact snd_nil
  refine snd_split (406) ?_ ?_
  · refine snd_cons (snd_iconst X dL_law_357 (by decide)) ?_
    refine snd_cons (snd_iadd X dL_law_358) ?_
    refine snd_cons (snd_sld X hX hbl hbA dL_law_359) ?_
    refine snd_cons (snd_aload_n X dL_law_360 rfl) ?_
    refine snd_cons (snd_iload_n X dL_law_361 rfl) ?_
    refine snd_cons (snd_iconst X dL_law_362 (by decide)) ?_
    refine snd_cons (snd_iadd X dL_law_363) ?_
    refine snd_cons (snd_sld X hX hbl hbA dL_law_364) ?_
    refine snd_cons (snd_callV X Fk7 (ok_X7_heat l D ca) rfl rfl w_354 w_355 w_356 w_1 w_357 (by decide) (by decide) dL_law_365) ?_
    refine snd_cons (snd_aload_n X dL_law_368 rfl) ?_
    refine snd_cons (snd_aload_n X dL_law_369 rfl) ?_
    refine snd_cons (snd_iload_n X dL_law_370 rfl) ?_
    refine snd_cons (snd_iconst X dL_law_371 (by decide)) ?_
    refine snd_cons (snd_iadd X dL_law_372) ?_
    refine snd_cons (snd_sld X hX hbl hbA dL_law_373) ?_
    refine snd_cons (snd_aload_n X dL_law_374 rfl) ?_
    refine snd_cons (snd_iload_n X dL_law_375 rfl) ?_
    refine snd_cons (snd_iconst X dL_law_376 (by decide)) ?_
    refine snd_cons (snd_iadd X dL_law_377) ?_
    refine snd_cons (snd_sld X hX hbl hbA dL_law_378) ?_
    refine snd_cons (snd_aload_n X dL_law_379 rfl) ?_
    refine snd_cons (snd_iload_n X dL_law_380 rfl) ?_
    refine snd_cons (snd_iconst X dL_law_381 (by decide)) ?_
    refine snd_cons (snd_iadd X dL_law_382) ?_
    refine snd_cons (snd_sld X hX hbl hbA dL_law_383) ?_
    refine snd_cons (snd_callV X Fk8 (ok_X8_heat l D ca) rfl rfl w_786 w_787 w_788 w_9 w_789 (by decide) (by decide) dL_law_384) ?_
    refine snd_cons (snd_icmp_eq X dL_law_387 (by decide)) ?_
    refine snd_cons (snd_iconst X dL_law_390 (by decide)) ?_
    refine snd_cons (snd_aload_n X dL_law_392 rfl) ?_
    refine snd_cons (snd_aload_n X dL_law_393 rfl) ?_
    refine snd_cons (snd_iload_n X dL_law_394 rfl) ?_
    refine snd_cons (snd_iconst X dL_law_395 (by decide)) ?_
    refine snd_cons (snd_iadd X dL_law_396) ?_
    refine snd_cons (snd_sld X hX hbl hbA dL_law_397) ?_
    refine snd_cons (snd_callV X Fk7 (ok_X7_outside l D ca) rfl rfl w_358 w_359 w_360 w_1 w_361 (by decide) (by decide) dL_law_398) ?_
    refine snd_cons (snd_aload_n X dL_law_401 rfl) ?_
    refine snd_cons (snd_aload_n X dL_law_402 rfl) ?_
    refine snd_cons (snd_iload_n X dL_law_403 rfl) ?_
    refine snd_cons (snd_iconst X dL_law_404 (by decide)) ?_
    refine snd_cons (snd_iadd X dL_law_405) ?_
    exact snd_nil
  refine snd_split (458) ?_ ?_
  · refine snd_cons (snd_sld X hX hbl hbA dL_law_406) ?_
    refine snd_cons (snd_callV X Fk8 (ok_X8_outside l D ca) rfl rfl w_790 w_791 w_792 w_9 w_793 (by decide) (by decide) dL_law_407) ?_
    refine snd_cons (snd_icmp_eq X dL_law_410 (by decide)) ?_
    refine snd_cons (snd_iconst X dL_law_413 (by decide)) ?_
    refine snd_cons (snd_aload_n X dL_law_415 rfl) ?_
    refine snd_cons (snd_aload_n X dL_law_416 rfl) ?_
    refine snd_cons (snd_iload_n X dL_law_417 rfl) ?_
    refine snd_cons (snd_iconst X dL_law_418 (by decide)) ?_
    refine snd_cons (snd_iadd X dL_law_419) ?_
    refine snd_cons (snd_sld X hX hbl hbA dL_law_420) ?_
    refine snd_cons (snd_aload_n X dL_law_421 rfl) ?_
    refine snd_cons (snd_iload_n X dL_law_422 rfl) ?_
    refine snd_cons (snd_iconst X dL_law_423 (by decide)) ?_
    refine snd_cons (snd_iadd X dL_law_424) ?_
    refine snd_cons (snd_sld X hX hbl hbA dL_law_425) ?_
    refine snd_cons (snd_callV X Fk7 (ok_X7_warm l D ca) rfl rfl w_365 w_366 w_367 w_1 w_368 (by decide) (by decide) dL_law_426) ?_
    refine snd_cons (snd_aload_n X dL_law_429 rfl) ?_
    refine snd_cons (snd_aload_n X dL_law_430 rfl) ?_
    refine snd_cons (snd_iload_n X dL_law_431 rfl) ?_
    refine snd_cons (snd_iconst X dL_law_432 (by decide)) ?_
    refine snd_cons (snd_iadd X dL_law_433) ?_
    refine snd_cons (snd_sld X hX hbl hbA dL_law_434) ?_
    refine snd_cons (snd_aload_n X dL_law_435 rfl) ?_
    refine snd_cons (snd_iload_n X dL_law_436 rfl) ?_
    refine snd_cons (snd_iconst X dL_law_437 (by decide)) ?_
    refine snd_cons (snd_iadd X dL_law_438) ?_
    refine snd_cons (snd_sld X hX hbl hbA dL_law_439) ?_
    refine snd_cons (snd_callV X Fk8 (ok_X8_warm l D ca) rfl rfl w_797 w_798 w_799 w_9 w_800 (by decide) (by decide) dL_law_440) ?_
    refine snd_cons (snd_icmp_eq X dL_law_443 (by decide)) ?_
    refine snd_cons (snd_iconst X dL_law_446 (by decide)) ?_
    refine snd_cons (snd_aload_n X dL_law_448 rfl) ?_
    refine snd_cons (snd_aload_n X dL_law_449 rfl) ?_
    refine snd_cons (snd_iload_n X dL_law_450 rfl) ?_
    refine snd_cons (snd_iconst X dL_law_451 (by decide)) ?_
    refine snd_cons (snd_iadd X dL_law_452) ?_
    refine snd_cons (snd_sld X hX hbl hbA dL_law_453) ?_
    refine snd_cons (snd_aload_n X dL_law_454 rfl) ?_
    refine snd_cons (snd_iload_n X dL_law_455 rfl) ?_
    refine snd_cons (snd_iconst X dL_law_456 (by decide)) ?_
    refine snd_cons (snd_iadd X dL_law_457) ?_
    exact snd_nil
  refine snd_split (509) ?_ ?_
  · refine snd_cons (snd_sld X hX hbl hbA dL_law_458) ?_
    refine snd_cons (snd_callV X Fk7 (ok_X7_opening l D ca) rfl rfl w_369 w_370 w_371 w_1 w_372 (by decide) (by decide) dL_law_459) ?_
    refine snd_cons (snd_aload_n X dL_law_462 rfl) ?_
    refine snd_cons (snd_aload_n X dL_law_463 rfl) ?_
    refine snd_cons (snd_iload_n X dL_law_464 rfl) ?_
    refine snd_cons (snd_iconst X dL_law_465 (by decide)) ?_
    refine snd_cons (snd_iadd X dL_law_466) ?_
    refine snd_cons (snd_sld X hX hbl hbA dL_law_467) ?_
    refine snd_cons (snd_aload_n X dL_law_468 rfl) ?_
    refine snd_cons (snd_iload_n X dL_law_469 rfl) ?_
    refine snd_cons (snd_iconst X dL_law_470 (by decide)) ?_
    refine snd_cons (snd_iadd X dL_law_471) ?_
    refine snd_cons (snd_sld X hX hbl hbA dL_law_472) ?_
    refine snd_cons (snd_callV X Fk8 (ok_X8_opening l D ca) rfl rfl w_801 w_802 w_803 w_9 w_804 (by decide) (by decide) dL_law_473) ?_
    refine snd_cons (snd_icmp_eq X dL_law_476 (by decide)) ?_
    refine snd_cons (snd_iconst X dL_law_479 (by decide)) ?_
    refine snd_cons (snd_aload_n X dL_law_481 rfl) ?_
    refine snd_cons (snd_aload_n X dL_law_482 rfl) ?_
    refine snd_cons (snd_iload_n X dL_law_483 rfl) ?_
    refine snd_cons (snd_iconst X dL_law_484 (by decide)) ?_
    refine snd_cons (snd_iadd X dL_law_485) ?_
    refine snd_cons (snd_sld X hX hbl hbA dL_law_486) ?_
    refine snd_cons (snd_aload_n X dL_law_487 rfl) ?_
    refine snd_cons (snd_iload_n X dL_law_488 rfl) ?_
    refine snd_cons (snd_iconst X dL_law_489 (by decide)) ?_
    refine snd_cons (snd_iadd X dL_law_490) ?_
    refine snd_cons (snd_sld X hX hbl hbA dL_law_491) ?_
    refine snd_cons (snd_callV X Fk7 (ok_X7_set l D ca) rfl rfl w_378 w_379 w_380 w_1 w_381 (by decide) (by decide) dL_law_492) ?_
    refine snd_cons (snd_aload_n X dL_law_495 rfl) ?_
    refine snd_cons (snd_aload_n X dL_law_496 rfl) ?_
    refine snd_cons (snd_iload_n X dL_law_497 rfl) ?_
    refine snd_cons (snd_iconst X dL_law_498 (by decide)) ?_
    refine snd_cons (snd_iadd X dL_law_499) ?_
    refine snd_cons (snd_sld X hX hbl hbA dL_law_500) ?_
    refine snd_cons (snd_aload_n X dL_law_501 rfl) ?_
    refine snd_cons (snd_iload_n X dL_law_502 rfl) ?_
    refine snd_cons (snd_iconst X dL_law_503 (by decide)) ?_
    refine snd_cons (snd_iadd X dL_law_504) ?_
    refine snd_cons (snd_sld X hX hbl hbA dL_law_505) ?_
    refine snd_cons (snd_callV X Fk8 (ok_X8_set l D ca) rfl rfl w_805 w_806 w_807 w_9 w_808 (by decide) (by decide) dL_law_506) ?_
    exact snd_nil
  refine snd_split (561) ?_ ?_
  · refine snd_cons (snd_icmp_eq X dL_law_509 (by decide)) ?_
    refine snd_cons (snd_iconst X dL_law_512 (by decide)) ?_
    refine snd_cons (snd_aload_n X dL_law_514 rfl) ?_
    refine snd_cons (snd_aload_n X dL_law_515 rfl) ?_
    refine snd_cons (snd_iload_n X dL_law_516 rfl) ?_
    refine snd_cons (snd_iconst X dL_law_517 (by decide)) ?_
    refine snd_cons (snd_iadd X dL_law_518) ?_
    refine snd_cons (snd_sld X hX hbl hbA dL_law_519) ?_
    refine snd_cons (snd_callV X Fk7 (ok_X7_tick l D ca) rfl rfl w_385 w_386 w_387 w_1 w_388 (by decide) (by decide) dL_law_520) ?_
    refine snd_cons (snd_aload_n X dL_law_523 rfl) ?_
    refine snd_cons (snd_aload_n X dL_law_524 rfl) ?_
    refine snd_cons (snd_iload_n X dL_law_525 rfl) ?_
    refine snd_cons (snd_iconst X dL_law_526 (by decide)) ?_
    refine snd_cons (snd_iadd X dL_law_527) ?_
    refine snd_cons (snd_sld X hX hbl hbA dL_law_528) ?_
    refine snd_cons (snd_callV X Fk8 (ok_X8_tick l D ca) rfl rfl w_809 w_810 w_811 w_9 w_812 (by decide) (by decide) dL_law_529) ?_
    refine snd_cons (snd_icmp_eq X dL_law_532 (by decide)) ?_
    refine snd_cons (snd_iconst X dL_law_535 (by decide)) ?_
    refine snd_cons (snd_aload_n X dL_law_537 rfl) ?_
    refine snd_cons (snd_aload_n X dL_law_538 rfl) ?_
    refine snd_cons (snd_iload_n X dL_law_539 rfl) ?_
    refine snd_cons (snd_iconst X dL_law_540 (by decide)) ?_
    refine snd_cons (snd_iadd X dL_law_541) ?_
    refine snd_cons (snd_sld X hX hbl hbA dL_law_542) ?_
    refine snd_cons (snd_aload_n X dL_law_543 rfl) ?_
    refine snd_cons (snd_iload_n X dL_law_544 rfl) ?_
    refine snd_cons (snd_iconst X dL_law_545 (by decide)) ?_
    refine snd_cons (snd_iadd X dL_law_546) ?_
    refine snd_cons (snd_sld X hX hbl hbA dL_law_547) ?_
    refine snd_cons (snd_callV X Fk7 (ok_X7_stripOf l D ca) rfl rfl w_438 w_439 w_440 w_1 w_441 (by decide) (by decide) dL_law_548) ?_
    refine snd_cons (snd_aload_n X dL_law_551 rfl) ?_
    refine snd_cons (snd_aload_n X dL_law_552 rfl) ?_
    refine snd_cons (snd_iload_n X dL_law_553 rfl) ?_
    refine snd_cons (snd_iconst X dL_law_554 (by decide)) ?_
    refine snd_cons (snd_iadd X dL_law_555) ?_
    refine snd_cons (snd_sld X hX hbl hbA dL_law_556) ?_
    refine snd_cons (snd_aload_n X dL_law_557 rfl) ?_
    refine snd_cons (snd_iload_n X dL_law_558 rfl) ?_
    refine snd_cons (snd_iconst X dL_law_559 (by decide)) ?_
    refine snd_cons (snd_iadd X dL_law_560) ?_
    exact snd_nil
  refine snd_split (613) ?_ ?_
  · refine snd_cons (snd_sld X hX hbl hbA dL_law_561) ?_
    refine snd_cons (snd_callV X Fk8 (ok_X8_stripOf l D ca) rfl rfl w_845 w_846 w_847 w_9 w_848 (by decide) (by decide) dL_law_562) ?_
    refine snd_cons (snd_icmp_eq X dL_law_565 (by decide)) ?_
    refine snd_cons (snd_iconst X dL_law_568 (by decide)) ?_
    refine snd_cons (snd_aload_n X dL_law_570 rfl) ?_
    refine snd_cons (snd_aload_n X dL_law_571 rfl) ?_
    refine snd_cons (snd_iload_n X dL_law_572 rfl) ?_
    refine snd_cons (snd_iconst X dL_law_573 (by decide)) ?_
    refine snd_cons (snd_iadd X dL_law_574) ?_
    refine snd_cons (snd_sld X hX hbl hbA dL_law_575) ?_
    refine snd_cons (snd_aload_n X dL_law_576 rfl) ?_
    refine snd_cons (snd_iload_n X dL_law_577 rfl) ?_
    refine snd_cons (snd_iconst X dL_law_578 (by decide)) ?_
    refine snd_cons (snd_iadd X dL_law_579) ?_
    refine snd_cons (snd_sld X hX hbl hbA dL_law_580) ?_
    refine snd_cons (snd_aload_n X dL_law_581 rfl) ?_
    refine snd_cons (snd_iload_n X dL_law_582 rfl) ?_
    refine snd_cons (snd_iconst X dL_law_583 (by decide)) ?_
    refine snd_cons (snd_iadd X dL_law_584) ?_
    refine snd_cons (snd_sld X hX hbl hbA dL_law_585) ?_
    refine snd_cons (snd_callV X Fk7 (ok_X7_partOf l D ca) rfl rfl w_447 w_448 w_449 w_1 w_450 (by decide) (by decide) dL_law_586) ?_
    refine snd_cons (snd_aload_n X dL_law_589 rfl) ?_
    refine snd_cons (snd_aload_n X dL_law_590 rfl) ?_
    refine snd_cons (snd_iload_n X dL_law_591 rfl) ?_
    refine snd_cons (snd_iconst X dL_law_592 (by decide)) ?_
    refine snd_cons (snd_iadd X dL_law_593) ?_
    refine snd_cons (snd_sld X hX hbl hbA dL_law_594) ?_
    refine snd_cons (snd_aload_n X dL_law_595 rfl) ?_
    refine snd_cons (snd_iload_n X dL_law_596 rfl) ?_
    refine snd_cons (snd_iconst X dL_law_597 (by decide)) ?_
    refine snd_cons (snd_iadd X dL_law_598) ?_
    refine snd_cons (snd_sld X hX hbl hbA dL_law_599) ?_
    refine snd_cons (snd_aload_n X dL_law_600 rfl) ?_
    refine snd_cons (snd_iload_n X dL_law_601 rfl) ?_
    refine snd_cons (snd_iconst X dL_law_602 (by decide)) ?_
    refine snd_cons (snd_iadd X dL_law_603) ?_
    refine snd_cons (snd_sld X hX hbl hbA dL_law_604) ?_
    refine snd_cons (snd_callV X Fk8 (ok_X8_partOf l D ca) rfl rfl w_853 w_854 w_855 w_9 w_856 (by decide) (by decide) dL_law_605) ?_
    refine snd_cons (snd_icmp_eq X dL_law_608 (by decide)) ?_
    refine snd_cons (snd_iconst X dL_law_611 (by decide)) ?_
    exact snd_nil
  refine snd_split (664) ?_ ?_
  · refine snd_cons (snd_aload_n X dL_law_613 rfl) ?_
    refine snd_cons (snd_aload_n X dL_law_614 rfl) ?_
    refine snd_cons (snd_iload_n X dL_law_615 rfl) ?_
    refine snd_cons (snd_iconst X dL_law_616 (by decide)) ?_
    refine snd_cons (snd_iadd X dL_law_617) ?_
    refine snd_cons (snd_sld X hX hbl hbA dL_law_618) ?_
    refine snd_cons (snd_aload_n X dL_law_619 rfl) ?_
    refine snd_cons (snd_iload_n X dL_law_620 rfl) ?_
    refine snd_cons (snd_iconst X dL_law_621 (by decide)) ?_
    refine snd_cons (snd_iadd X dL_law_622) ?_
    refine snd_cons (snd_sld X hX hbl hbA dL_law_623) ?_
    refine snd_cons (snd_callV X Fk7 (ok_X7_roomOf l D ca) rfl rfl w_453 w_454 w_455 w_1 w_456 (by decide) (by decide) dL_law_624) ?_
    refine snd_cons (snd_aload_n X dL_law_627 rfl) ?_
    refine snd_cons (snd_aload_n X dL_law_628 rfl) ?_
    refine snd_cons (snd_iload_n X dL_law_629 rfl) ?_
    refine snd_cons (snd_iconst X dL_law_630 (by decide)) ?_
    refine snd_cons (snd_iadd X dL_law_631) ?_
    refine snd_cons (snd_sld X hX hbl hbA dL_law_632) ?_
    refine snd_cons (snd_aload_n X dL_law_633 rfl) ?_
    refine snd_cons (snd_iload_n X dL_law_634 rfl) ?_
    refine snd_cons (snd_iconst X dL_law_635 (by decide)) ?_
    refine snd_cons (snd_iadd X dL_law_636) ?_
    refine snd_cons (snd_sld X hX hbl hbA dL_law_637) ?_
    refine snd_cons (snd_callV X Fk8 (ok_X8_roomOf l D ca) rfl rfl w_858 w_859 w_860 w_9 w_861 (by decide) (by decide) dL_law_638) ?_
    refine snd_cons (snd_icmp_eq X dL_law_641 (by decide)) ?_
    refine snd_cons (snd_iconst X dL_law_644 (by decide)) ?_
    refine snd_cons (snd_aload_n X dL_law_646 rfl) ?_
    refine snd_cons (snd_aload_n X dL_law_647 rfl) ?_
    refine snd_cons (snd_iload_n X dL_law_648 rfl) ?_
    refine snd_cons (snd_iconst X dL_law_649 (by decide)) ?_
    refine snd_cons (snd_iadd X dL_law_650) ?_
    refine snd_cons (snd_sld X hX hbl hbA dL_law_651) ?_
    refine snd_cons (snd_callV X Fk7 (ok_X7_count l D ca) rfl rfl w_457 w_458 w_459 w_1 w_460 (by decide) (by decide) dL_law_652) ?_
    refine snd_cons (snd_aload_n X dL_law_655 rfl) ?_
    refine snd_cons (snd_aload_n X dL_law_656 rfl) ?_
    refine snd_cons (snd_iload_n X dL_law_657 rfl) ?_
    refine snd_cons (snd_iconst X dL_law_658 (by decide)) ?_
    refine snd_cons (snd_iadd X dL_law_659) ?_
    refine snd_cons (snd_sld X hX hbl hbA dL_law_660) ?_
    refine snd_cons (snd_callV X Fk8 (ok_X8_count l D ca) rfl rfl w_862 w_863 w_864 w_9 w_865 (by decide) (by decide) dL_law_661) ?_
    exact snd_nil
  refine snd_split (716) ?_ ?_
  · refine snd_cons (snd_icmp_eq X dL_law_664 (by decide)) ?_
    refine snd_cons (snd_iconst X dL_law_667 (by decide)) ?_
    refine snd_cons (snd_aload_n X dL_law_669 rfl) ?_
    refine snd_cons (snd_aload_n X dL_law_670 rfl) ?_
    refine snd_cons (snd_iload_n X dL_law_671 rfl) ?_
    refine snd_cons (snd_iconst X dL_law_672 (by decide)) ?_
    refine snd_cons (snd_iadd X dL_law_673) ?_
    refine snd_cons (snd_sld X hX hbl hbA dL_law_674) ?_
    refine snd_cons (snd_aload_n X dL_law_675 rfl) ?_
    refine snd_cons (snd_iload_n X dL_law_676 rfl) ?_
    refine snd_cons (snd_iconst X dL_law_677 (by decide)) ?_
    refine snd_cons (snd_iadd X dL_law_678) ?_
    refine snd_cons (snd_sld X hX hbl hbA dL_law_679) ?_
    refine snd_cons (snd_callV X Fk7 (ok_X7_bend l D ca) rfl rfl w_469 w_470 w_471 w_1 w_472 (by decide) (by decide) dL_law_680) ?_
    refine snd_cons (snd_aload_n X dL_law_683 rfl) ?_
    refine snd_cons (snd_aload_n X dL_law_684 rfl) ?_
    refine snd_cons (snd_iload_n X dL_law_685 rfl) ?_
    refine snd_cons (snd_iconst X dL_law_686 (by decide)) ?_
    refine snd_cons (snd_iadd X dL_law_687) ?_
    refine snd_cons (snd_sld X hX hbl hbA dL_law_688) ?_
    refine snd_cons (snd_aload_n X dL_law_689 rfl) ?_
    refine snd_cons (snd_iload_n X dL_law_690 rfl) ?_
    refine snd_cons (snd_iconst X dL_law_691 (by decide)) ?_
    refine snd_cons (snd_iadd X dL_law_692) ?_
    refine snd_cons (snd_sld X hX hbl hbA dL_law_693) ?_
    refine snd_cons (snd_callV X Fk8 (ok_X8_bend l D ca) rfl rfl w_866 w_867 w_868 w_9 w_869 (by decide) (by decide) dL_law_694) ?_
    refine snd_cons (snd_icmp_eq X dL_law_697 (by decide)) ?_
    refine snd_cons (snd_iconst X dL_law_700 (by decide)) ?_
    refine snd_cons (snd_aload_n X dL_law_702 rfl) ?_
    refine snd_cons (snd_aload_n X dL_law_703 rfl) ?_
    refine snd_cons (snd_iload_n X dL_law_704 rfl) ?_
    refine snd_cons (snd_iconst X dL_law_705 (by decide)) ?_
    refine snd_cons (snd_iadd X dL_law_706) ?_
    refine snd_cons (snd_sld X hX hbl hbA dL_law_707) ?_
    refine snd_cons (snd_aload_n X dL_law_708 rfl) ?_
    refine snd_cons (snd_iload_n X dL_law_709 rfl) ?_
    refine snd_cons (snd_iconst X dL_law_710 (by decide)) ?_
    refine snd_cons (snd_iadd X dL_law_711) ?_
    refine snd_cons (snd_sld X hX hbl hbA dL_law_712) ?_
    refine snd_cons (snd_callV X Fk7 (ok_X7_tripsAt l D ca) rfl rfl w_474 w_475 w_476 w_1 w_477 (by decide) (by decide) dL_law_713) ?_
    exact snd_nil
  refine snd_split (768) ?_ ?_
  · refine snd_cons (snd_aload_n X dL_law_716 rfl) ?_
    refine snd_cons (snd_aload_n X dL_law_717 rfl) ?_
    refine snd_cons (snd_iload_n X dL_law_718 rfl) ?_
    refine snd_cons (snd_iconst X dL_law_719 (by decide)) ?_
    refine snd_cons (snd_iadd X dL_law_720) ?_
    refine snd_cons (snd_sld X hX hbl hbA dL_law_721) ?_
    refine snd_cons (snd_aload_n X dL_law_722 rfl) ?_
    refine snd_cons (snd_iload_n X dL_law_723 rfl) ?_
    refine snd_cons (snd_iconst X dL_law_724 (by decide)) ?_
    refine snd_cons (snd_iadd X dL_law_725) ?_
    refine snd_cons (snd_sld X hX hbl hbA dL_law_726) ?_
    refine snd_cons (snd_callV X Fk8 (ok_X8_tripsAt l D ca) rfl rfl w_870 w_871 w_872 w_9 w_873 (by decide) (by decide) dL_law_727) ?_
    refine snd_cons (snd_icmp_eq X dL_law_730 (by decide)) ?_
    refine snd_cons (snd_iconst X dL_law_733 (by decide)) ?_
    refine snd_cons (snd_aload_n X dL_law_735 rfl) ?_
    refine snd_cons (snd_aload_n X dL_law_736 rfl) ?_
    refine snd_cons (snd_iload_n X dL_law_737 rfl) ?_
    refine snd_cons (snd_iconst X dL_law_738 (by decide)) ?_
    refine snd_cons (snd_iadd X dL_law_739) ?_
    refine snd_cons (snd_sld X hX hbl hbA dL_law_740) ?_
    refine snd_cons (snd_callV X Fk7 (ok_X7_loop l D ca) rfl rfl w_489 w_490 w_491 w_1 w_492 (by decide) (by decide) dL_law_741) ?_
    refine snd_cons (snd_aload_n X dL_law_744 rfl) ?_
    refine snd_cons (snd_aload_n X dL_law_745 rfl) ?_
    refine snd_cons (snd_iload_n X dL_law_746 rfl) ?_
    refine snd_cons (snd_iconst X dL_law_747 (by decide)) ?_
    refine snd_cons (snd_iadd X dL_law_748) ?_
    refine snd_cons (snd_sld X hX hbl hbA dL_law_749) ?_
    refine snd_cons (snd_callV X Fk8 (ok_X8_loop l D ca) rfl rfl w_874 w_875 w_876 w_9 w_877 (by decide) (by decide) dL_law_750) ?_
    refine snd_cons (snd_icmp_eq X dL_law_753 (by decide)) ?_
    refine snd_cons (snd_iconst X dL_law_756 (by decide)) ?_
    refine snd_cons (snd_aload_n X dL_law_758 rfl) ?_
    refine snd_cons (snd_aload_n X dL_law_759 rfl) ?_
    refine snd_cons (snd_iload_n X dL_law_760 rfl) ?_
    refine snd_cons (snd_iconst X dL_law_761 (by decide)) ?_
    refine snd_cons (snd_iadd X dL_law_762) ?_
    refine snd_cons (snd_sld X hX hbl hbA dL_law_763) ?_
    refine snd_cons (snd_aload_n X dL_law_764 rfl) ?_
    refine snd_cons (snd_iload_n X dL_law_765 rfl) ?_
    refine snd_cons (snd_iconst X dL_law_766 (by decide)) ?_
    refine snd_cons (snd_iadd X dL_law_767) ?_
    exact snd_nil
  refine snd_split (824) ?_ ?_
  · refine snd_cons (snd_sld X hX hbl hbA dL_law_768) ?_
    refine snd_cons (snd_aload_n X dL_law_769 rfl) ?_
    refine snd_cons (snd_iload_n X dL_law_770 rfl) ?_
    refine snd_cons (snd_iconst X dL_law_771 (by decide)) ?_
    refine snd_cons (snd_iadd X dL_law_772) ?_
    refine snd_cons (snd_sld X hX hbl hbA dL_law_773) ?_
    refine snd_cons (snd_callV X Fk7 (ok_X7_stack l D ca) rfl rfl w_513 w_514 w_515 w_1 w_516 (by decide) (by decide) dL_law_774) ?_
    refine snd_cons (snd_aload_n X dL_law_777 rfl) ?_
    refine snd_cons (snd_aload_n X dL_law_778 rfl) ?_
    refine snd_cons (snd_iload_n X dL_law_779 rfl) ?_
    refine snd_cons (snd_iconst X dL_law_780 (by decide)) ?_
    refine snd_cons (snd_iadd X dL_law_781) ?_
    refine snd_cons (snd_sld X hX hbl hbA dL_law_782) ?_
    refine snd_cons (snd_aload_n X dL_law_783 rfl) ?_
    refine snd_cons (snd_iload_n X dL_law_784 rfl) ?_
    refine snd_cons (snd_iconst X dL_law_785 (by decide)) ?_
    refine snd_cons (snd_iadd X dL_law_786) ?_
    refine snd_cons (snd_sld X hX hbl hbA dL_law_787) ?_
    refine snd_cons (snd_aload_n X dL_law_788 rfl) ?_
    refine snd_cons (snd_iload_n X dL_law_789 rfl) ?_
    refine snd_cons (snd_iconst X dL_law_790 (by decide)) ?_
    refine snd_cons (snd_iadd X dL_law_791) ?_
    refine snd_cons (snd_sld X hX hbl hbA dL_law_792) ?_
    refine snd_cons (snd_callV X Fk8 (ok_X8_stack l D ca) rfl rfl w_894 w_895 w_896 w_9 w_897 (by decide) (by decide) dL_law_793) ?_
    refine snd_cons (snd_icmp_eq X dL_law_796 (by decide)) ?_
    refine snd_cons (snd_iconst X dL_law_799 (by decide)) ?_
    refine snd_cons (snd_aload_n X dL_law_801 rfl) ?_
    refine snd_cons (snd_callV X Fk7 (ok_X7_undo l D ca) rfl rfl w_577 w_578 w_579 w_1 w_580 (by decide) (by decide) dL_law_802) ?_
    refine snd_cons (snd_aload_n X dL_law_805 rfl) ?_
    refine snd_cons (snd_callV X Fk8 (ok_X8_undo l D ca) rfl rfl w_933 w_934 w_935 w_9 w_936 (by decide) (by decide) dL_law_806) ?_
    refine snd_cons (snd_icmp_eq X dL_law_809 (by decide)) ?_
    refine snd_cons (snd_iconst X dL_law_812 (by decide)) ?_
    refine snd_cons (snd_aload_n X dL_law_814 rfl) ?_
    refine snd_cons (snd_aload_n X dL_law_815 rfl) ?_
    refine snd_cons (snd_iload_n X dL_law_816 rfl) ?_
    refine snd_cons (snd_iconst X dL_law_817 (by decide)) ?_
    refine snd_cons (snd_iadd X dL_law_818) ?_
    refine snd_cons (snd_sld X hX hbl hbA dL_law_819) ?_
    refine snd_cons (snd_callV X Fk7 (ok_X7_type l D ca) rfl rfl w_585 w_586 w_587 w_1 w_588 (by decide) (by decide) dL_law_820) ?_
    refine snd_cons (snd_aload_n X dL_law_823 rfl) ?_
    exact snd_nil
  refine snd_split (885) ?_ ?_
  · refine snd_cons (snd_aload_n X dL_law_824 rfl) ?_
    refine snd_cons (snd_iload_n X dL_law_825 rfl) ?_
    refine snd_cons (snd_iconst X dL_law_826 (by decide)) ?_
    refine snd_cons (snd_iadd X dL_law_827) ?_
    refine snd_cons (snd_sld X hX hbl hbA dL_law_828) ?_
    refine snd_cons (snd_callV X Fk8 (ok_X8_type l D ca) rfl rfl w_937 w_938 w_939 w_9 w_940 (by decide) (by decide) dL_law_829) ?_
    refine snd_cons (snd_icmp_eq X dL_law_832 (by decide)) ?_
    refine snd_cons (snd_iconst X dL_law_835 (by decide)) ?_
    refine snd_cons (snd_aload_n X dL_law_837 rfl) ?_
    refine snd_cons (snd_callV X Fk7 (ok_X7_clearText l D ca) rfl rfl w_593 w_594 w_595 w_1 w_596 (by decide) (by decide) dL_law_838) ?_
    refine snd_cons (snd_aload_n X dL_law_841 rfl) ?_
    refine snd_cons (snd_callV X Fk8 (ok_X8_clearText l D ca) rfl rfl w_941 w_942 w_943 w_9 w_944 (by decide) (by decide) dL_law_842) ?_
    refine snd_cons (snd_icmp_eq X dL_law_845 (by decide)) ?_
    refine snd_cons (snd_iconst X dL_law_848 (by decide)) ?_
    refine snd_cons (snd_aload_n X dL_law_850 rfl) ?_
    refine snd_cons (snd_aload_n X dL_law_851 rfl) ?_
    refine snd_cons (snd_iload_n X dL_law_852 rfl) ?_
    refine snd_cons (snd_iconst X dL_law_853 (by decide)) ?_
    refine snd_cons (snd_iadd X dL_law_854) ?_
    refine snd_cons (snd_sld X hX hbl hbA dL_law_855) ?_
    refine snd_cons (snd_callV X Fk7 (ok_X7_fault l D ca) rfl rfl w_597 w_598 w_599 w_1 w_600 (by decide) (by decide) dL_law_856) ?_
    refine snd_cons (snd_aload_n X dL_law_859 rfl) ?_
    refine snd_cons (snd_aload_n X dL_law_860 rfl) ?_
    refine snd_cons (snd_iload_n X dL_law_861 rfl) ?_
    refine snd_cons (snd_iconst X dL_law_862 (by decide)) ?_
    refine snd_cons (snd_iadd X dL_law_863) ?_
    refine snd_cons (snd_sld X hX hbl hbA dL_law_864) ?_
    refine snd_cons (snd_callV X Fk8 (ok_X8_fault l D ca) rfl rfl w_945 w_946 w_947 w_9 w_948 (by decide) (by decide) dL_law_865) ?_
    refine snd_cons (snd_icmp_eq X dL_law_868 (by decide)) ?_
    refine snd_cons (snd_iconst X dL_law_871 (by decide)) ?_
    refine snd_cons (snd_aload_n X dL_law_873 rfl) ?_
    refine snd_cons (snd_aload_n X dL_law_874 rfl) ?_
    refine snd_cons (snd_iload_n X dL_law_875 rfl) ?_
    refine snd_cons (snd_iconst X dL_law_876 (by decide)) ?_
    refine snd_cons (snd_iadd X dL_law_877) ?_
    refine snd_cons (snd_sld X hX hbl hbA dL_law_878) ?_
    refine snd_cons (snd_callV X Fk7 (ok_X7_read l D ca) rfl rfl w_615 w_616 w_617 w_1 w_618 (by decide) (by decide) dL_law_879) ?_
    refine snd_cons (snd_aload_n X dL_law_882 rfl) ?_
    refine snd_cons (snd_aload_n X dL_law_883 rfl) ?_
    refine snd_cons (snd_iload_n X dL_law_884 rfl) ?_
    exact snd_nil
  refine snd_cons (snd_iconst X dL_law_885 (by decide)) ?_
  refine snd_cons (snd_iadd X dL_law_886) ?_
  refine snd_cons (snd_sld X hX hbl hbA dL_law_887) ?_
  refine snd_cons (snd_callV X Fk8 (ok_X8_read l D ca) rfl rfl w_961 w_962 w_963 w_9 w_964 (by decide) (by decide) dL_law_888) ?_
  refine snd_cons (snd_icmp_eq X dL_law_891 (by decide)) ?_
  refine snd_cons (snd_iconst X dL_law_894 (by decide)) ?_
  refine snd_cons (snd_iinc X dL_law_896 (by decide) (by decide)) ?_
  refine snd_cons (snd_goto X dL_law_899 (by decide)) ?_
  refine snd_cons (snd_iconst X dL_law_902 (by decide)) ?_
  refine snd_cons (snd_lawret X dL_law_903) ?_
  exact snd_nil
theorem k_L_law_0 (ca : Nat → ClassId) (b L : Nat) (xs : Nat → Int32) : k_L_law ca b L xs 0 = i_new 600000 7302250 7 6 [.null, .null, .null, .null, .null, .int 0] 3 := rfl
theorem k_L_law_3 (ca : Nat → ClassId) (b L : Nat) (xs : Nat → Int32) : k_L_law ca b L xs 3 = i_dup 4 := rfl
theorem k_L_law_4 (ca : Nat → ClassId) (b L : Nat) (xs : Nat → Int32) : k_L_law ca b L xs 4 = i_callV 7 0 145 8959 600000 7302250 (sp_X7_init ca) 7 := rfl
theorem k_L_law_7 (ca : Nat → ClassId) (b L : Nat) (xs : Nat → Int32) : k_L_law ca b L xs 7 = i_astore 1 8 := rfl
theorem k_L_law_8 (ca : Nat → ClassId) (b L : Nat) (xs : Nat → Int32) : k_L_law ca b L xs 8 = i_new 600000 7302250 8 15 [.null, .null, .null, .int 0, .null, .int 0, .null, .null, .null, .null, .null, .null, .int 0, .int 0, .int 0] 11 := rfl
theorem k_L_law_11 (ca : Nat → ClassId) (b L : Nat) (xs : Nat → Int32) : k_L_law ca b L xs 11 = i_dup 12 := rfl
theorem k_L_law_12 (ca : Nat → ClassId) (b L : Nat) (xs : Nat → Int32) : k_L_law ca b L xs 12 = i_callV 8 0 10 22274 600000 7302250 (sp_X8_init ca) 15 := rfl
theorem k_L_law_15 (ca : Nat → ClassId) (b L : Nat) (xs : Nat → Int32) : k_L_law ca b L xs 15 = i_astore 2 16 := rfl
theorem k_L_law_16 (ca : Nat → ClassId) (b L : Nat) (xs : Nat → Int32) : k_L_law ca b L xs 16 = i_push (.int 0) 17 := rfl
theorem k_L_law_17 (ca : Nat → ClassId) (b L : Nat) (xs : Nat → Int32) : k_L_law ca b L xs 17 = i_istore 3 18 := rfl
theorem k_L_law_18 (ca : Nat → ClassId) (b L : Nat) (xs : Nat → Int32) : k_L_law ca b L xs 18 = i_iload 3 19 := rfl
theorem k_L_law_19 (ca : Nat → ClassId) (b L : Nat) (xs : Nat → Int32) : k_L_law ca b L xs 19 = i_aload 0 20 := rfl
theorem k_L_law_20 (ca : Nat → ClassId) (b L : Nat) (xs : Nat → Int32) : k_L_law ca b L xs 20 = i_slen b L 21 := rfl
theorem k_L_law_21 (ca : Nat → ClassId) (b L : Nat) (xs : Nat → Int32) : k_L_law ca b L xs 21 = i_push (.int 5) 22 := rfl
theorem k_L_law_22 (ca : Nat → ClassId) (b L : Nat) (xs : Nat → Int32) : k_L_law ca b L xs 22 = i_bin (fun x y => x - y) 23 := rfl
theorem k_L_law_23 (ca : Nat → ClassId) (b L : Nat) (xs : Nat → Int32) : k_L_law ca b L xs 23 = i_icmp (fun x y => y < x) 902 26 := rfl
theorem k_L_law_26 (ca : Nat → ClassId) (b L : Nat) (xs : Nat → Int32) : k_L_law ca b L xs 26 = i_aload 0 27 := rfl
theorem k_L_law_27 (ca : Nat → ClassId) (b L : Nat) (xs : Nat → Int32) : k_L_law ca b L xs 27 = i_iload 3 28 := rfl
theorem k_L_law_28 (ca : Nat → ClassId) (b L : Nat) (xs : Nat → Int32) : k_L_law ca b L xs 28 = i_sld b L xs 29 := rfl
theorem k_L_law_29 (ca : Nat → ClassId) (b L : Nat) (xs : Nat → Int32) : k_L_law ca b L xs 29 = i_push (.int 31) 31 := rfl
theorem k_L_law_31 (ca : Nat → ClassId) (b L : Nat) (xs : Nat → Int32) : k_L_law ca b L xs 31 = i_bin (fun x y => x &&& y) 32 := rfl
theorem k_L_law_32 (ca : Nat → ClassId) (b L : Nat) (xs : Nat → Int32) : k_L_law ca b L xs 32 = i_sw [(0, 144), (1, 177), (2, 230), (3, 263), (4, 316), (5, 349), (6, 392), (7, 415), (8, 448), (9, 481), (10, 514), (11, 537), (12, 570), (13, 613), (14, 646), (15, 669), (16, 702), (17, 735), (18, 758), (19, 801), (20, 814), (21, 837), (22, 850), (23, 873)] 896 := rfl
theorem k_L_law_144 (ca : Nat → ClassId) (b L : Nat) (xs : Nat → Int32) : k_L_law ca b L xs 144 = i_aload 1 145 := rfl
theorem k_L_law_145 (ca : Nat → ClassId) (b L : Nat) (xs : Nat → Int32) : k_L_law ca b L xs 145 = i_aload 0 146 := rfl
theorem k_L_law_146 (ca : Nat → ClassId) (b L : Nat) (xs : Nat → Int32) : k_L_law ca b L xs 146 = i_iload 3 147 := rfl
theorem k_L_law_147 (ca : Nat → ClassId) (b L : Nat) (xs : Nat → Int32) : k_L_law ca b L xs 147 = i_push (.int 1) 148 := rfl
theorem k_L_law_148 (ca : Nat → ClassId) (b L : Nat) (xs : Nat → Int32) : k_L_law ca b L xs 148 = i_bin (fun x y => x + y) 149 := rfl
theorem k_L_law_149 (ca : Nat → ClassId) (b L : Nat) (xs : Nat → Int32) : k_L_law ca b L xs 149 = i_sld b L xs 150 := rfl
theorem k_L_law_150 (ca : Nat → ClassId) (b L : Nat) (xs : Nat → Int32) : k_L_law ca b L xs 150 = i_aload 0 151 := rfl
theorem k_L_law_151 (ca : Nat → ClassId) (b L : Nat) (xs : Nat → Int32) : k_L_law ca b L xs 151 = i_iload 3 152 := rfl
theorem k_L_law_152 (ca : Nat → ClassId) (b L : Nat) (xs : Nat → Int32) : k_L_law ca b L xs 152 = i_push (.int 2) 153 := rfl
theorem k_L_law_153 (ca : Nat → ClassId) (b L : Nat) (xs : Nat → Int32) : k_L_law ca b L xs 153 = i_bin (fun x y => x + y) 154 := rfl
theorem k_L_law_154 (ca : Nat → ClassId) (b L : Nat) (xs : Nat → Int32) : k_L_law ca b L xs 154 = i_sld b L xs 155 := rfl
theorem k_L_law_155 (ca : Nat → ClassId) (b L : Nat) (xs : Nat → Int32) : k_L_law ca b L xs 155 = i_callV 7 2 0 0 600000 7302250 (sp_X7_metal ca) 158 := rfl
theorem k_L_law_158 (ca : Nat → ClassId) (b L : Nat) (xs : Nat → Int32) : k_L_law ca b L xs 158 = i_aload 2 159 := rfl
theorem k_L_law_159 (ca : Nat → ClassId) (b L : Nat) (xs : Nat → Int32) : k_L_law ca b L xs 159 = i_aload 0 160 := rfl
theorem k_L_law_160 (ca : Nat → ClassId) (b L : Nat) (xs : Nat → Int32) : k_L_law ca b L xs 160 = i_iload 3 161 := rfl
theorem k_L_law_161 (ca : Nat → ClassId) (b L : Nat) (xs : Nat → Int32) : k_L_law ca b L xs 161 = i_push (.int 1) 162 := rfl
theorem k_L_law_162 (ca : Nat → ClassId) (b L : Nat) (xs : Nat → Int32) : k_L_law ca b L xs 162 = i_bin (fun x y => x + y) 163 := rfl
theorem k_L_law_163 (ca : Nat → ClassId) (b L : Nat) (xs : Nat → Int32) : k_L_law ca b L xs 163 = i_sld b L xs 164 := rfl
theorem k_L_law_164 (ca : Nat → ClassId) (b L : Nat) (xs : Nat → Int32) : k_L_law ca b L xs 164 = i_aload 0 165 := rfl
theorem k_L_law_165 (ca : Nat → ClassId) (b L : Nat) (xs : Nat → Int32) : k_L_law ca b L xs 165 = i_iload 3 166 := rfl
theorem k_L_law_166 (ca : Nat → ClassId) (b L : Nat) (xs : Nat → Int32) : k_L_law ca b L xs 166 = i_push (.int 2) 167 := rfl
theorem k_L_law_167 (ca : Nat → ClassId) (b L : Nat) (xs : Nat → Int32) : k_L_law ca b L xs 167 = i_bin (fun x y => x + y) 168 := rfl
theorem k_L_law_168 (ca : Nat → ClassId) (b L : Nat) (xs : Nat → Int32) : k_L_law ca b L xs 168 = i_sld b L xs 169 := rfl
theorem k_L_law_169 (ca : Nat → ClassId) (b L : Nat) (xs : Nat → Int32) : k_L_law ca b L xs 169 = i_callV 8 2 0 0 600000 7302250 (sp_X8_metal ca) 172 := rfl
theorem k_L_law_172 (ca : Nat → ClassId) (b L : Nat) (xs : Nat → Int32) : k_L_law ca b L xs 172 = i_icmp (fun x y => x = y) 896 175 := rfl
theorem k_L_law_175 (ca : Nat → ClassId) (b L : Nat) (xs : Nat → Int32) : k_L_law ca b L xs 175 = i_push (.int 0) 176 := rfl
theorem k_L_law_177 (ca : Nat → ClassId) (b L : Nat) (xs : Nat → Int32) : k_L_law ca b L xs 177 = i_aload 1 178 := rfl
theorem k_L_law_178 (ca : Nat → ClassId) (b L : Nat) (xs : Nat → Int32) : k_L_law ca b L xs 178 = i_aload 0 179 := rfl
theorem k_L_law_179 (ca : Nat → ClassId) (b L : Nat) (xs : Nat → Int32) : k_L_law ca b L xs 179 = i_iload 3 180 := rfl
theorem k_L_law_180 (ca : Nat → ClassId) (b L : Nat) (xs : Nat → Int32) : k_L_law ca b L xs 180 = i_push (.int 1) 181 := rfl
theorem k_L_law_181 (ca : Nat → ClassId) (b L : Nat) (xs : Nat → Int32) : k_L_law ca b L xs 181 = i_bin (fun x y => x + y) 182 := rfl
theorem k_L_law_182 (ca : Nat → ClassId) (b L : Nat) (xs : Nat → Int32) : k_L_law ca b L xs 182 = i_sld b L xs 183 := rfl
theorem k_L_law_183 (ca : Nat → ClassId) (b L : Nat) (xs : Nat → Int32) : k_L_law ca b L xs 183 = i_aload 0 184 := rfl
theorem k_L_law_184 (ca : Nat → ClassId) (b L : Nat) (xs : Nat → Int32) : k_L_law ca b L xs 184 = i_iload 3 185 := rfl
theorem k_L_law_185 (ca : Nat → ClassId) (b L : Nat) (xs : Nat → Int32) : k_L_law ca b L xs 185 = i_push (.int 2) 186 := rfl
theorem k_L_law_186 (ca : Nat → ClassId) (b L : Nat) (xs : Nat → Int32) : k_L_law ca b L xs 186 = i_bin (fun x y => x + y) 187 := rfl
theorem k_L_law_187 (ca : Nat → ClassId) (b L : Nat) (xs : Nat → Int32) : k_L_law ca b L xs 187 = i_sld b L xs 188 := rfl
theorem k_L_law_188 (ca : Nat → ClassId) (b L : Nat) (xs : Nat → Int32) : k_L_law ca b L xs 188 = i_aload 0 189 := rfl
theorem k_L_law_189 (ca : Nat → ClassId) (b L : Nat) (xs : Nat → Int32) : k_L_law ca b L xs 189 = i_iload 3 190 := rfl
theorem k_L_law_190 (ca : Nat → ClassId) (b L : Nat) (xs : Nat → Int32) : k_L_law ca b L xs 190 = i_push (.int 3) 191 := rfl
theorem k_L_law_191 (ca : Nat → ClassId) (b L : Nat) (xs : Nat → Int32) : k_L_law ca b L xs 191 = i_bin (fun x y => x + y) 192 := rfl
theorem k_L_law_192 (ca : Nat → ClassId) (b L : Nat) (xs : Nat → Int32) : k_L_law ca b L xs 192 = i_sld b L xs 193 := rfl
theorem k_L_law_193 (ca : Nat → ClassId) (b L : Nat) (xs : Nat → Int32) : k_L_law ca b L xs 193 = i_aload 0 194 := rfl
theorem k_L_law_194 (ca : Nat → ClassId) (b L : Nat) (xs : Nat → Int32) : k_L_law ca b L xs 194 = i_iload 3 195 := rfl
theorem k_L_law_195 (ca : Nat → ClassId) (b L : Nat) (xs : Nat → Int32) : k_L_law ca b L xs 195 = i_push (.int 4) 196 := rfl
theorem k_L_law_196 (ca : Nat → ClassId) (b L : Nat) (xs : Nat → Int32) : k_L_law ca b L xs 196 = i_bin (fun x y => x + y) 197 := rfl
theorem k_L_law_197 (ca : Nat → ClassId) (b L : Nat) (xs : Nat → Int32) : k_L_law ca b L xs 197 = i_sld b L xs 198 := rfl
theorem k_L_law_198 (ca : Nat → ClassId) (b L : Nat) (xs : Nat → Int32) : k_L_law ca b L xs 198 = i_callV 7 4 0 0 600000 7302250 (sp_X7_part ca) 201 := rfl
theorem k_L_law_201 (ca : Nat → ClassId) (b L : Nat) (xs : Nat → Int32) : k_L_law ca b L xs 201 = i_aload 2 202 := rfl
theorem k_L_law_202 (ca : Nat → ClassId) (b L : Nat) (xs : Nat → Int32) : k_L_law ca b L xs 202 = i_aload 0 203 := rfl
theorem k_L_law_203 (ca : Nat → ClassId) (b L : Nat) (xs : Nat → Int32) : k_L_law ca b L xs 203 = i_iload 3 204 := rfl
theorem k_L_law_204 (ca : Nat → ClassId) (b L : Nat) (xs : Nat → Int32) : k_L_law ca b L xs 204 = i_push (.int 1) 205 := rfl
theorem k_L_law_205 (ca : Nat → ClassId) (b L : Nat) (xs : Nat → Int32) : k_L_law ca b L xs 205 = i_bin (fun x y => x + y) 206 := rfl
theorem k_L_law_206 (ca : Nat → ClassId) (b L : Nat) (xs : Nat → Int32) : k_L_law ca b L xs 206 = i_sld b L xs 207 := rfl
theorem k_L_law_207 (ca : Nat → ClassId) (b L : Nat) (xs : Nat → Int32) : k_L_law ca b L xs 207 = i_aload 0 208 := rfl
theorem k_L_law_208 (ca : Nat → ClassId) (b L : Nat) (xs : Nat → Int32) : k_L_law ca b L xs 208 = i_iload 3 209 := rfl
theorem k_L_law_209 (ca : Nat → ClassId) (b L : Nat) (xs : Nat → Int32) : k_L_law ca b L xs 209 = i_push (.int 2) 210 := rfl
theorem k_L_law_210 (ca : Nat → ClassId) (b L : Nat) (xs : Nat → Int32) : k_L_law ca b L xs 210 = i_bin (fun x y => x + y) 211 := rfl
theorem k_L_law_211 (ca : Nat → ClassId) (b L : Nat) (xs : Nat → Int32) : k_L_law ca b L xs 211 = i_sld b L xs 212 := rfl
theorem k_L_law_212 (ca : Nat → ClassId) (b L : Nat) (xs : Nat → Int32) : k_L_law ca b L xs 212 = i_aload 0 213 := rfl
theorem k_L_law_213 (ca : Nat → ClassId) (b L : Nat) (xs : Nat → Int32) : k_L_law ca b L xs 213 = i_iload 3 214 := rfl
theorem k_L_law_214 (ca : Nat → ClassId) (b L : Nat) (xs : Nat → Int32) : k_L_law ca b L xs 214 = i_push (.int 3) 215 := rfl
theorem k_L_law_215 (ca : Nat → ClassId) (b L : Nat) (xs : Nat → Int32) : k_L_law ca b L xs 215 = i_bin (fun x y => x + y) 216 := rfl
theorem k_L_law_216 (ca : Nat → ClassId) (b L : Nat) (xs : Nat → Int32) : k_L_law ca b L xs 216 = i_sld b L xs 217 := rfl
theorem k_L_law_217 (ca : Nat → ClassId) (b L : Nat) (xs : Nat → Int32) : k_L_law ca b L xs 217 = i_aload 0 218 := rfl
theorem k_L_law_218 (ca : Nat → ClassId) (b L : Nat) (xs : Nat → Int32) : k_L_law ca b L xs 218 = i_iload 3 219 := rfl
theorem k_L_law_219 (ca : Nat → ClassId) (b L : Nat) (xs : Nat → Int32) : k_L_law ca b L xs 219 = i_push (.int 4) 220 := rfl
theorem k_L_law_220 (ca : Nat → ClassId) (b L : Nat) (xs : Nat → Int32) : k_L_law ca b L xs 220 = i_bin (fun x y => x + y) 221 := rfl
theorem k_L_law_221 (ca : Nat → ClassId) (b L : Nat) (xs : Nat → Int32) : k_L_law ca b L xs 221 = i_sld b L xs 222 := rfl
theorem k_L_law_222 (ca : Nat → ClassId) (b L : Nat) (xs : Nat → Int32) : k_L_law ca b L xs 222 = i_callV 8 4 0 0 600000 7302250 (sp_X8_part ca) 225 := rfl
theorem k_L_law_225 (ca : Nat → ClassId) (b L : Nat) (xs : Nat → Int32) : k_L_law ca b L xs 225 = i_icmp (fun x y => x = y) 896 228 := rfl
theorem k_L_law_228 (ca : Nat → ClassId) (b L : Nat) (xs : Nat → Int32) : k_L_law ca b L xs 228 = i_push (.int 0) 229 := rfl
theorem k_L_law_230 (ca : Nat → ClassId) (b L : Nat) (xs : Nat → Int32) : k_L_law ca b L xs 230 = i_aload 1 231 := rfl
theorem k_L_law_231 (ca : Nat → ClassId) (b L : Nat) (xs : Nat → Int32) : k_L_law ca b L xs 231 = i_aload 0 232 := rfl
theorem k_L_law_232 (ca : Nat → ClassId) (b L : Nat) (xs : Nat → Int32) : k_L_law ca b L xs 232 = i_iload 3 233 := rfl
theorem k_L_law_233 (ca : Nat → ClassId) (b L : Nat) (xs : Nat → Int32) : k_L_law ca b L xs 233 = i_push (.int 1) 234 := rfl
theorem k_L_law_234 (ca : Nat → ClassId) (b L : Nat) (xs : Nat → Int32) : k_L_law ca b L xs 234 = i_bin (fun x y => x + y) 235 := rfl
theorem k_L_law_235 (ca : Nat → ClassId) (b L : Nat) (xs : Nat → Int32) : k_L_law ca b L xs 235 = i_sld b L xs 236 := rfl
theorem k_L_law_236 (ca : Nat → ClassId) (b L : Nat) (xs : Nat → Int32) : k_L_law ca b L xs 236 = i_aload 0 237 := rfl
theorem k_L_law_237 (ca : Nat → ClassId) (b L : Nat) (xs : Nat → Int32) : k_L_law ca b L xs 237 = i_iload 3 238 := rfl
theorem k_L_law_238 (ca : Nat → ClassId) (b L : Nat) (xs : Nat → Int32) : k_L_law ca b L xs 238 = i_push (.int 2) 239 := rfl
theorem k_L_law_239 (ca : Nat → ClassId) (b L : Nat) (xs : Nat → Int32) : k_L_law ca b L xs 239 = i_bin (fun x y => x + y) 240 := rfl
theorem k_L_law_240 (ca : Nat → ClassId) (b L : Nat) (xs : Nat → Int32) : k_L_law ca b L xs 240 = i_sld b L xs 241 := rfl
theorem k_L_law_241 (ca : Nat → ClassId) (b L : Nat) (xs : Nat → Int32) : k_L_law ca b L xs 241 = i_callV 7 2 0 0 600000 7302250 (sp_X7_cut ca) 244 := rfl
theorem k_L_law_244 (ca : Nat → ClassId) (b L : Nat) (xs : Nat → Int32) : k_L_law ca b L xs 244 = i_aload 2 245 := rfl
theorem k_L_law_245 (ca : Nat → ClassId) (b L : Nat) (xs : Nat → Int32) : k_L_law ca b L xs 245 = i_aload 0 246 := rfl
theorem k_L_law_246 (ca : Nat → ClassId) (b L : Nat) (xs : Nat → Int32) : k_L_law ca b L xs 246 = i_iload 3 247 := rfl
theorem k_L_law_247 (ca : Nat → ClassId) (b L : Nat) (xs : Nat → Int32) : k_L_law ca b L xs 247 = i_push (.int 1) 248 := rfl
theorem k_L_law_248 (ca : Nat → ClassId) (b L : Nat) (xs : Nat → Int32) : k_L_law ca b L xs 248 = i_bin (fun x y => x + y) 249 := rfl
theorem k_L_law_249 (ca : Nat → ClassId) (b L : Nat) (xs : Nat → Int32) : k_L_law ca b L xs 249 = i_sld b L xs 250 := rfl
theorem k_L_law_250 (ca : Nat → ClassId) (b L : Nat) (xs : Nat → Int32) : k_L_law ca b L xs 250 = i_aload 0 251 := rfl
theorem k_L_law_251 (ca : Nat → ClassId) (b L : Nat) (xs : Nat → Int32) : k_L_law ca b L xs 251 = i_iload 3 252 := rfl
theorem k_L_law_252 (ca : Nat → ClassId) (b L : Nat) (xs : Nat → Int32) : k_L_law ca b L xs 252 = i_push (.int 2) 253 := rfl
theorem k_L_law_253 (ca : Nat → ClassId) (b L : Nat) (xs : Nat → Int32) : k_L_law ca b L xs 253 = i_bin (fun x y => x + y) 254 := rfl
theorem k_L_law_254 (ca : Nat → ClassId) (b L : Nat) (xs : Nat → Int32) : k_L_law ca b L xs 254 = i_sld b L xs 255 := rfl
theorem k_L_law_255 (ca : Nat → ClassId) (b L : Nat) (xs : Nat → Int32) : k_L_law ca b L xs 255 = i_callV 8 2 0 0 600000 7302250 (sp_X8_cut ca) 258 := rfl
theorem k_L_law_258 (ca : Nat → ClassId) (b L : Nat) (xs : Nat → Int32) : k_L_law ca b L xs 258 = i_icmp (fun x y => x = y) 896 261 := rfl
theorem k_L_law_261 (ca : Nat → ClassId) (b L : Nat) (xs : Nat → Int32) : k_L_law ca b L xs 261 = i_push (.int 0) 262 := rfl
theorem k_L_law_263 (ca : Nat → ClassId) (b L : Nat) (xs : Nat → Int32) : k_L_law ca b L xs 263 = i_aload 1 264 := rfl
theorem k_L_law_264 (ca : Nat → ClassId) (b L : Nat) (xs : Nat → Int32) : k_L_law ca b L xs 264 = i_aload 0 265 := rfl
theorem k_L_law_265 (ca : Nat → ClassId) (b L : Nat) (xs : Nat → Int32) : k_L_law ca b L xs 265 = i_iload 3 266 := rfl
theorem k_L_law_266 (ca : Nat → ClassId) (b L : Nat) (xs : Nat → Int32) : k_L_law ca b L xs 266 = i_push (.int 1) 267 := rfl
theorem k_L_law_267 (ca : Nat → ClassId) (b L : Nat) (xs : Nat → Int32) : k_L_law ca b L xs 267 = i_bin (fun x y => x + y) 268 := rfl
theorem k_L_law_268 (ca : Nat → ClassId) (b L : Nat) (xs : Nat → Int32) : k_L_law ca b L xs 268 = i_sld b L xs 269 := rfl
theorem k_L_law_269 (ca : Nat → ClassId) (b L : Nat) (xs : Nat → Int32) : k_L_law ca b L xs 269 = i_aload 0 270 := rfl
theorem k_L_law_270 (ca : Nat → ClassId) (b L : Nat) (xs : Nat → Int32) : k_L_law ca b L xs 270 = i_iload 3 271 := rfl
theorem k_L_law_271 (ca : Nat → ClassId) (b L : Nat) (xs : Nat → Int32) : k_L_law ca b L xs 271 = i_push (.int 2) 272 := rfl
theorem k_L_law_272 (ca : Nat → ClassId) (b L : Nat) (xs : Nat → Int32) : k_L_law ca b L xs 272 = i_bin (fun x y => x + y) 273 := rfl
theorem k_L_law_273 (ca : Nat → ClassId) (b L : Nat) (xs : Nat → Int32) : k_L_law ca b L xs 273 = i_sld b L xs 274 := rfl
theorem k_L_law_274 (ca : Nat → ClassId) (b L : Nat) (xs : Nat → Int32) : k_L_law ca b L xs 274 = i_aload 0 275 := rfl
theorem k_L_law_275 (ca : Nat → ClassId) (b L : Nat) (xs : Nat → Int32) : k_L_law ca b L xs 275 = i_iload 3 276 := rfl
theorem k_L_law_276 (ca : Nat → ClassId) (b L : Nat) (xs : Nat → Int32) : k_L_law ca b L xs 276 = i_push (.int 3) 277 := rfl
theorem k_L_law_277 (ca : Nat → ClassId) (b L : Nat) (xs : Nat → Int32) : k_L_law ca b L xs 277 = i_bin (fun x y => x + y) 278 := rfl
theorem k_L_law_278 (ca : Nat → ClassId) (b L : Nat) (xs : Nat → Int32) : k_L_law ca b L xs 278 = i_sld b L xs 279 := rfl
theorem k_L_law_279 (ca : Nat → ClassId) (b L : Nat) (xs : Nat → Int32) : k_L_law ca b L xs 279 = i_aload 0 280 := rfl
theorem k_L_law_280 (ca : Nat → ClassId) (b L : Nat) (xs : Nat → Int32) : k_L_law ca b L xs 280 = i_iload 3 281 := rfl
theorem k_L_law_281 (ca : Nat → ClassId) (b L : Nat) (xs : Nat → Int32) : k_L_law ca b L xs 281 = i_push (.int 4) 282 := rfl
theorem k_L_law_282 (ca : Nat → ClassId) (b L : Nat) (xs : Nat → Int32) : k_L_law ca b L xs 282 = i_bin (fun x y => x + y) 283 := rfl
theorem k_L_law_283 (ca : Nat → ClassId) (b L : Nat) (xs : Nat → Int32) : k_L_law ca b L xs 283 = i_sld b L xs 284 := rfl
theorem k_L_law_284 (ca : Nat → ClassId) (b L : Nat) (xs : Nat → Int32) : k_L_law ca b L xs 284 = i_callV 7 4 0 0 600000 7302250 (sp_X7_bounds ca) 287 := rfl
theorem k_L_law_287 (ca : Nat → ClassId) (b L : Nat) (xs : Nat → Int32) : k_L_law ca b L xs 287 = i_aload 2 288 := rfl
theorem k_L_law_288 (ca : Nat → ClassId) (b L : Nat) (xs : Nat → Int32) : k_L_law ca b L xs 288 = i_aload 0 289 := rfl
theorem k_L_law_289 (ca : Nat → ClassId) (b L : Nat) (xs : Nat → Int32) : k_L_law ca b L xs 289 = i_iload 3 290 := rfl
theorem k_L_law_290 (ca : Nat → ClassId) (b L : Nat) (xs : Nat → Int32) : k_L_law ca b L xs 290 = i_push (.int 1) 291 := rfl
theorem k_L_law_291 (ca : Nat → ClassId) (b L : Nat) (xs : Nat → Int32) : k_L_law ca b L xs 291 = i_bin (fun x y => x + y) 292 := rfl
theorem k_L_law_292 (ca : Nat → ClassId) (b L : Nat) (xs : Nat → Int32) : k_L_law ca b L xs 292 = i_sld b L xs 293 := rfl
theorem k_L_law_293 (ca : Nat → ClassId) (b L : Nat) (xs : Nat → Int32) : k_L_law ca b L xs 293 = i_aload 0 294 := rfl
theorem k_L_law_294 (ca : Nat → ClassId) (b L : Nat) (xs : Nat → Int32) : k_L_law ca b L xs 294 = i_iload 3 295 := rfl
theorem k_L_law_295 (ca : Nat → ClassId) (b L : Nat) (xs : Nat → Int32) : k_L_law ca b L xs 295 = i_push (.int 2) 296 := rfl
theorem k_L_law_296 (ca : Nat → ClassId) (b L : Nat) (xs : Nat → Int32) : k_L_law ca b L xs 296 = i_bin (fun x y => x + y) 297 := rfl
theorem k_L_law_297 (ca : Nat → ClassId) (b L : Nat) (xs : Nat → Int32) : k_L_law ca b L xs 297 = i_sld b L xs 298 := rfl
theorem k_L_law_298 (ca : Nat → ClassId) (b L : Nat) (xs : Nat → Int32) : k_L_law ca b L xs 298 = i_aload 0 299 := rfl
theorem k_L_law_299 (ca : Nat → ClassId) (b L : Nat) (xs : Nat → Int32) : k_L_law ca b L xs 299 = i_iload 3 300 := rfl
theorem k_L_law_300 (ca : Nat → ClassId) (b L : Nat) (xs : Nat → Int32) : k_L_law ca b L xs 300 = i_push (.int 3) 301 := rfl
theorem k_L_law_301 (ca : Nat → ClassId) (b L : Nat) (xs : Nat → Int32) : k_L_law ca b L xs 301 = i_bin (fun x y => x + y) 302 := rfl
theorem k_L_law_302 (ca : Nat → ClassId) (b L : Nat) (xs : Nat → Int32) : k_L_law ca b L xs 302 = i_sld b L xs 303 := rfl
theorem k_L_law_303 (ca : Nat → ClassId) (b L : Nat) (xs : Nat → Int32) : k_L_law ca b L xs 303 = i_aload 0 304 := rfl
theorem k_L_law_304 (ca : Nat → ClassId) (b L : Nat) (xs : Nat → Int32) : k_L_law ca b L xs 304 = i_iload 3 305 := rfl
theorem k_L_law_305 (ca : Nat → ClassId) (b L : Nat) (xs : Nat → Int32) : k_L_law ca b L xs 305 = i_push (.int 4) 306 := rfl
theorem k_L_law_306 (ca : Nat → ClassId) (b L : Nat) (xs : Nat → Int32) : k_L_law ca b L xs 306 = i_bin (fun x y => x + y) 307 := rfl
theorem k_L_law_307 (ca : Nat → ClassId) (b L : Nat) (xs : Nat → Int32) : k_L_law ca b L xs 307 = i_sld b L xs 308 := rfl
theorem k_L_law_308 (ca : Nat → ClassId) (b L : Nat) (xs : Nat → Int32) : k_L_law ca b L xs 308 = i_callV 8 4 0 0 600000 7302250 (sp_X8_bounds ca) 311 := rfl
theorem k_L_law_311 (ca : Nat → ClassId) (b L : Nat) (xs : Nat → Int32) : k_L_law ca b L xs 311 = i_icmp (fun x y => x = y) 896 314 := rfl
theorem k_L_law_314 (ca : Nat → ClassId) (b L : Nat) (xs : Nat → Int32) : k_L_law ca b L xs 314 = i_push (.int 0) 315 := rfl
theorem k_L_law_316 (ca : Nat → ClassId) (b L : Nat) (xs : Nat → Int32) : k_L_law ca b L xs 316 = i_aload 1 317 := rfl
theorem k_L_law_317 (ca : Nat → ClassId) (b L : Nat) (xs : Nat → Int32) : k_L_law ca b L xs 317 = i_aload 0 318 := rfl
theorem k_L_law_318 (ca : Nat → ClassId) (b L : Nat) (xs : Nat → Int32) : k_L_law ca b L xs 318 = i_iload 3 319 := rfl
theorem k_L_law_319 (ca : Nat → ClassId) (b L : Nat) (xs : Nat → Int32) : k_L_law ca b L xs 319 = i_push (.int 1) 320 := rfl
theorem k_L_law_320 (ca : Nat → ClassId) (b L : Nat) (xs : Nat → Int32) : k_L_law ca b L xs 320 = i_bin (fun x y => x + y) 321 := rfl
theorem k_L_law_321 (ca : Nat → ClassId) (b L : Nat) (xs : Nat → Int32) : k_L_law ca b L xs 321 = i_sld b L xs 322 := rfl
theorem k_L_law_322 (ca : Nat → ClassId) (b L : Nat) (xs : Nat → Int32) : k_L_law ca b L xs 322 = i_aload 0 323 := rfl
theorem k_L_law_323 (ca : Nat → ClassId) (b L : Nat) (xs : Nat → Int32) : k_L_law ca b L xs 323 = i_iload 3 324 := rfl
theorem k_L_law_324 (ca : Nat → ClassId) (b L : Nat) (xs : Nat → Int32) : k_L_law ca b L xs 324 = i_push (.int 2) 325 := rfl
theorem k_L_law_325 (ca : Nat → ClassId) (b L : Nat) (xs : Nat → Int32) : k_L_law ca b L xs 325 = i_bin (fun x y => x + y) 326 := rfl
theorem k_L_law_326 (ca : Nat → ClassId) (b L : Nat) (xs : Nat → Int32) : k_L_law ca b L xs 326 = i_sld b L xs 327 := rfl
theorem k_L_law_327 (ca : Nat → ClassId) (b L : Nat) (xs : Nat → Int32) : k_L_law ca b L xs 327 = i_callV 7 2 0 0 600000 7302250 (sp_X7_contact ca) 330 := rfl
theorem k_L_law_330 (ca : Nat → ClassId) (b L : Nat) (xs : Nat → Int32) : k_L_law ca b L xs 330 = i_aload 2 331 := rfl
theorem k_L_law_331 (ca : Nat → ClassId) (b L : Nat) (xs : Nat → Int32) : k_L_law ca b L xs 331 = i_aload 0 332 := rfl
theorem k_L_law_332 (ca : Nat → ClassId) (b L : Nat) (xs : Nat → Int32) : k_L_law ca b L xs 332 = i_iload 3 333 := rfl
theorem k_L_law_333 (ca : Nat → ClassId) (b L : Nat) (xs : Nat → Int32) : k_L_law ca b L xs 333 = i_push (.int 1) 334 := rfl
theorem k_L_law_334 (ca : Nat → ClassId) (b L : Nat) (xs : Nat → Int32) : k_L_law ca b L xs 334 = i_bin (fun x y => x + y) 335 := rfl
theorem k_L_law_335 (ca : Nat → ClassId) (b L : Nat) (xs : Nat → Int32) : k_L_law ca b L xs 335 = i_sld b L xs 336 := rfl
theorem k_L_law_336 (ca : Nat → ClassId) (b L : Nat) (xs : Nat → Int32) : k_L_law ca b L xs 336 = i_aload 0 337 := rfl
theorem k_L_law_337 (ca : Nat → ClassId) (b L : Nat) (xs : Nat → Int32) : k_L_law ca b L xs 337 = i_iload 3 338 := rfl
theorem k_L_law_338 (ca : Nat → ClassId) (b L : Nat) (xs : Nat → Int32) : k_L_law ca b L xs 338 = i_push (.int 2) 339 := rfl
theorem k_L_law_339 (ca : Nat → ClassId) (b L : Nat) (xs : Nat → Int32) : k_L_law ca b L xs 339 = i_bin (fun x y => x + y) 340 := rfl
theorem k_L_law_340 (ca : Nat → ClassId) (b L : Nat) (xs : Nat → Int32) : k_L_law ca b L xs 340 = i_sld b L xs 341 := rfl
theorem k_L_law_341 (ca : Nat → ClassId) (b L : Nat) (xs : Nat → Int32) : k_L_law ca b L xs 341 = i_callV 8 2 0 0 600000 7302250 (sp_X8_contact ca) 344 := rfl
theorem k_L_law_344 (ca : Nat → ClassId) (b L : Nat) (xs : Nat → Int32) : k_L_law ca b L xs 344 = i_icmp (fun x y => x = y) 896 347 := rfl
theorem k_L_law_347 (ca : Nat → ClassId) (b L : Nat) (xs : Nat → Int32) : k_L_law ca b L xs 347 = i_push (.int 0) 348 := rfl
theorem k_L_law_349 (ca : Nat → ClassId) (b L : Nat) (xs : Nat → Int32) : k_L_law ca b L xs 349 = i_aload 1 350 := rfl
theorem k_L_law_350 (ca : Nat → ClassId) (b L : Nat) (xs : Nat → Int32) : k_L_law ca b L xs 350 = i_aload 0 351 := rfl
theorem k_L_law_351 (ca : Nat → ClassId) (b L : Nat) (xs : Nat → Int32) : k_L_law ca b L xs 351 = i_iload 3 352 := rfl
theorem k_L_law_352 (ca : Nat → ClassId) (b L : Nat) (xs : Nat → Int32) : k_L_law ca b L xs 352 = i_push (.int 1) 353 := rfl
theorem k_L_law_353 (ca : Nat → ClassId) (b L : Nat) (xs : Nat → Int32) : k_L_law ca b L xs 353 = i_bin (fun x y => x + y) 354 := rfl
theorem k_L_law_354 (ca : Nat → ClassId) (b L : Nat) (xs : Nat → Int32) : k_L_law ca b L xs 354 = i_sld b L xs 355 := rfl
theorem k_L_law_355 (ca : Nat → ClassId) (b L : Nat) (xs : Nat → Int32) : k_L_law ca b L xs 355 = i_aload 0 356 := rfl
theorem k_L_law_356 (ca : Nat → ClassId) (b L : Nat) (xs : Nat → Int32) : k_L_law ca b L xs 356 = i_iload 3 357 := rfl
theorem k_L_law_357 (ca : Nat → ClassId) (b L : Nat) (xs : Nat → Int32) : k_L_law ca b L xs 357 = i_push (.int 2) 358 := rfl
theorem k_L_law_358 (ca : Nat → ClassId) (b L : Nat) (xs : Nat → Int32) : k_L_law ca b L xs 358 = i_bin (fun x y => x + y) 359 := rfl
theorem k_L_law_359 (ca : Nat → ClassId) (b L : Nat) (xs : Nat → Int32) : k_L_law ca b L xs 359 = i_sld b L xs 360 := rfl
theorem k_L_law_360 (ca : Nat → ClassId) (b L : Nat) (xs : Nat → Int32) : k_L_law ca b L xs 360 = i_aload 0 361 := rfl
theorem k_L_law_361 (ca : Nat → ClassId) (b L : Nat) (xs : Nat → Int32) : k_L_law ca b L xs 361 = i_iload 3 362 := rfl
theorem k_L_law_362 (ca : Nat → ClassId) (b L : Nat) (xs : Nat → Int32) : k_L_law ca b L xs 362 = i_push (.int 3) 363 := rfl
theorem k_L_law_363 (ca : Nat → ClassId) (b L : Nat) (xs : Nat → Int32) : k_L_law ca b L xs 363 = i_bin (fun x y => x + y) 364 := rfl
theorem k_L_law_364 (ca : Nat → ClassId) (b L : Nat) (xs : Nat → Int32) : k_L_law ca b L xs 364 = i_sld b L xs 365 := rfl
theorem k_L_law_365 (ca : Nat → ClassId) (b L : Nat) (xs : Nat → Int32) : k_L_law ca b L xs 365 = i_callV 7 3 0 0 600000 7302250 (sp_X7_heat ca) 368 := rfl
theorem k_L_law_368 (ca : Nat → ClassId) (b L : Nat) (xs : Nat → Int32) : k_L_law ca b L xs 368 = i_aload 2 369 := rfl
theorem k_L_law_369 (ca : Nat → ClassId) (b L : Nat) (xs : Nat → Int32) : k_L_law ca b L xs 369 = i_aload 0 370 := rfl
theorem k_L_law_370 (ca : Nat → ClassId) (b L : Nat) (xs : Nat → Int32) : k_L_law ca b L xs 370 = i_iload 3 371 := rfl
theorem k_L_law_371 (ca : Nat → ClassId) (b L : Nat) (xs : Nat → Int32) : k_L_law ca b L xs 371 = i_push (.int 1) 372 := rfl
theorem k_L_law_372 (ca : Nat → ClassId) (b L : Nat) (xs : Nat → Int32) : k_L_law ca b L xs 372 = i_bin (fun x y => x + y) 373 := rfl
theorem k_L_law_373 (ca : Nat → ClassId) (b L : Nat) (xs : Nat → Int32) : k_L_law ca b L xs 373 = i_sld b L xs 374 := rfl
theorem k_L_law_374 (ca : Nat → ClassId) (b L : Nat) (xs : Nat → Int32) : k_L_law ca b L xs 374 = i_aload 0 375 := rfl
theorem k_L_law_375 (ca : Nat → ClassId) (b L : Nat) (xs : Nat → Int32) : k_L_law ca b L xs 375 = i_iload 3 376 := rfl
theorem k_L_law_376 (ca : Nat → ClassId) (b L : Nat) (xs : Nat → Int32) : k_L_law ca b L xs 376 = i_push (.int 2) 377 := rfl
theorem k_L_law_377 (ca : Nat → ClassId) (b L : Nat) (xs : Nat → Int32) : k_L_law ca b L xs 377 = i_bin (fun x y => x + y) 378 := rfl
theorem k_L_law_378 (ca : Nat → ClassId) (b L : Nat) (xs : Nat → Int32) : k_L_law ca b L xs 378 = i_sld b L xs 379 := rfl
theorem k_L_law_379 (ca : Nat → ClassId) (b L : Nat) (xs : Nat → Int32) : k_L_law ca b L xs 379 = i_aload 0 380 := rfl
theorem k_L_law_380 (ca : Nat → ClassId) (b L : Nat) (xs : Nat → Int32) : k_L_law ca b L xs 380 = i_iload 3 381 := rfl
theorem k_L_law_381 (ca : Nat → ClassId) (b L : Nat) (xs : Nat → Int32) : k_L_law ca b L xs 381 = i_push (.int 3) 382 := rfl
theorem k_L_law_382 (ca : Nat → ClassId) (b L : Nat) (xs : Nat → Int32) : k_L_law ca b L xs 382 = i_bin (fun x y => x + y) 383 := rfl
theorem k_L_law_383 (ca : Nat → ClassId) (b L : Nat) (xs : Nat → Int32) : k_L_law ca b L xs 383 = i_sld b L xs 384 := rfl
theorem k_L_law_384 (ca : Nat → ClassId) (b L : Nat) (xs : Nat → Int32) : k_L_law ca b L xs 384 = i_callV 8 3 0 0 600000 7302250 (sp_X8_heat ca) 387 := rfl
theorem k_L_law_387 (ca : Nat → ClassId) (b L : Nat) (xs : Nat → Int32) : k_L_law ca b L xs 387 = i_icmp (fun x y => x = y) 896 390 := rfl
theorem k_L_law_390 (ca : Nat → ClassId) (b L : Nat) (xs : Nat → Int32) : k_L_law ca b L xs 390 = i_push (.int 0) 391 := rfl
theorem k_L_law_392 (ca : Nat → ClassId) (b L : Nat) (xs : Nat → Int32) : k_L_law ca b L xs 392 = i_aload 1 393 := rfl
theorem k_L_law_393 (ca : Nat → ClassId) (b L : Nat) (xs : Nat → Int32) : k_L_law ca b L xs 393 = i_aload 0 394 := rfl
theorem k_L_law_394 (ca : Nat → ClassId) (b L : Nat) (xs : Nat → Int32) : k_L_law ca b L xs 394 = i_iload 3 395 := rfl
theorem k_L_law_395 (ca : Nat → ClassId) (b L : Nat) (xs : Nat → Int32) : k_L_law ca b L xs 395 = i_push (.int 1) 396 := rfl
theorem k_L_law_396 (ca : Nat → ClassId) (b L : Nat) (xs : Nat → Int32) : k_L_law ca b L xs 396 = i_bin (fun x y => x + y) 397 := rfl
theorem k_L_law_397 (ca : Nat → ClassId) (b L : Nat) (xs : Nat → Int32) : k_L_law ca b L xs 397 = i_sld b L xs 398 := rfl
theorem k_L_law_398 (ca : Nat → ClassId) (b L : Nat) (xs : Nat → Int32) : k_L_law ca b L xs 398 = i_callV 7 1 0 0 600000 7302250 (sp_X7_outside ca) 401 := rfl
theorem k_L_law_401 (ca : Nat → ClassId) (b L : Nat) (xs : Nat → Int32) : k_L_law ca b L xs 401 = i_aload 2 402 := rfl
theorem k_L_law_402 (ca : Nat → ClassId) (b L : Nat) (xs : Nat → Int32) : k_L_law ca b L xs 402 = i_aload 0 403 := rfl
theorem k_L_law_403 (ca : Nat → ClassId) (b L : Nat) (xs : Nat → Int32) : k_L_law ca b L xs 403 = i_iload 3 404 := rfl
theorem k_L_law_404 (ca : Nat → ClassId) (b L : Nat) (xs : Nat → Int32) : k_L_law ca b L xs 404 = i_push (.int 1) 405 := rfl
theorem k_L_law_405 (ca : Nat → ClassId) (b L : Nat) (xs : Nat → Int32) : k_L_law ca b L xs 405 = i_bin (fun x y => x + y) 406 := rfl
theorem k_L_law_406 (ca : Nat → ClassId) (b L : Nat) (xs : Nat → Int32) : k_L_law ca b L xs 406 = i_sld b L xs 407 := rfl
theorem k_L_law_407 (ca : Nat → ClassId) (b L : Nat) (xs : Nat → Int32) : k_L_law ca b L xs 407 = i_callV 8 1 0 0 600000 7302250 (sp_X8_outside ca) 410 := rfl
theorem k_L_law_410 (ca : Nat → ClassId) (b L : Nat) (xs : Nat → Int32) : k_L_law ca b L xs 410 = i_icmp (fun x y => x = y) 896 413 := rfl
theorem k_L_law_413 (ca : Nat → ClassId) (b L : Nat) (xs : Nat → Int32) : k_L_law ca b L xs 413 = i_push (.int 0) 414 := rfl
theorem k_L_law_415 (ca : Nat → ClassId) (b L : Nat) (xs : Nat → Int32) : k_L_law ca b L xs 415 = i_aload 1 416 := rfl
theorem k_L_law_416 (ca : Nat → ClassId) (b L : Nat) (xs : Nat → Int32) : k_L_law ca b L xs 416 = i_aload 0 417 := rfl
theorem k_L_law_417 (ca : Nat → ClassId) (b L : Nat) (xs : Nat → Int32) : k_L_law ca b L xs 417 = i_iload 3 418 := rfl
theorem k_L_law_418 (ca : Nat → ClassId) (b L : Nat) (xs : Nat → Int32) : k_L_law ca b L xs 418 = i_push (.int 1) 419 := rfl
theorem k_L_law_419 (ca : Nat → ClassId) (b L : Nat) (xs : Nat → Int32) : k_L_law ca b L xs 419 = i_bin (fun x y => x + y) 420 := rfl
theorem k_L_law_420 (ca : Nat → ClassId) (b L : Nat) (xs : Nat → Int32) : k_L_law ca b L xs 420 = i_sld b L xs 421 := rfl
theorem k_L_law_421 (ca : Nat → ClassId) (b L : Nat) (xs : Nat → Int32) : k_L_law ca b L xs 421 = i_aload 0 422 := rfl
theorem k_L_law_422 (ca : Nat → ClassId) (b L : Nat) (xs : Nat → Int32) : k_L_law ca b L xs 422 = i_iload 3 423 := rfl
theorem k_L_law_423 (ca : Nat → ClassId) (b L : Nat) (xs : Nat → Int32) : k_L_law ca b L xs 423 = i_push (.int 2) 424 := rfl
theorem k_L_law_424 (ca : Nat → ClassId) (b L : Nat) (xs : Nat → Int32) : k_L_law ca b L xs 424 = i_bin (fun x y => x + y) 425 := rfl
theorem k_L_law_425 (ca : Nat → ClassId) (b L : Nat) (xs : Nat → Int32) : k_L_law ca b L xs 425 = i_sld b L xs 426 := rfl
theorem k_L_law_426 (ca : Nat → ClassId) (b L : Nat) (xs : Nat → Int32) : k_L_law ca b L xs 426 = i_callV 7 2 0 0 600000 7302250 (sp_X7_warm ca) 429 := rfl
theorem k_L_law_429 (ca : Nat → ClassId) (b L : Nat) (xs : Nat → Int32) : k_L_law ca b L xs 429 = i_aload 2 430 := rfl
theorem k_L_law_430 (ca : Nat → ClassId) (b L : Nat) (xs : Nat → Int32) : k_L_law ca b L xs 430 = i_aload 0 431 := rfl
theorem k_L_law_431 (ca : Nat → ClassId) (b L : Nat) (xs : Nat → Int32) : k_L_law ca b L xs 431 = i_iload 3 432 := rfl
theorem k_L_law_432 (ca : Nat → ClassId) (b L : Nat) (xs : Nat → Int32) : k_L_law ca b L xs 432 = i_push (.int 1) 433 := rfl
theorem k_L_law_433 (ca : Nat → ClassId) (b L : Nat) (xs : Nat → Int32) : k_L_law ca b L xs 433 = i_bin (fun x y => x + y) 434 := rfl
theorem k_L_law_434 (ca : Nat → ClassId) (b L : Nat) (xs : Nat → Int32) : k_L_law ca b L xs 434 = i_sld b L xs 435 := rfl
theorem k_L_law_435 (ca : Nat → ClassId) (b L : Nat) (xs : Nat → Int32) : k_L_law ca b L xs 435 = i_aload 0 436 := rfl
theorem k_L_law_436 (ca : Nat → ClassId) (b L : Nat) (xs : Nat → Int32) : k_L_law ca b L xs 436 = i_iload 3 437 := rfl
theorem k_L_law_437 (ca : Nat → ClassId) (b L : Nat) (xs : Nat → Int32) : k_L_law ca b L xs 437 = i_push (.int 2) 438 := rfl
theorem k_L_law_438 (ca : Nat → ClassId) (b L : Nat) (xs : Nat → Int32) : k_L_law ca b L xs 438 = i_bin (fun x y => x + y) 439 := rfl
theorem k_L_law_439 (ca : Nat → ClassId) (b L : Nat) (xs : Nat → Int32) : k_L_law ca b L xs 439 = i_sld b L xs 440 := rfl
theorem k_L_law_440 (ca : Nat → ClassId) (b L : Nat) (xs : Nat → Int32) : k_L_law ca b L xs 440 = i_callV 8 2 0 0 600000 7302250 (sp_X8_warm ca) 443 := rfl
theorem k_L_law_443 (ca : Nat → ClassId) (b L : Nat) (xs : Nat → Int32) : k_L_law ca b L xs 443 = i_icmp (fun x y => x = y) 896 446 := rfl
theorem k_L_law_446 (ca : Nat → ClassId) (b L : Nat) (xs : Nat → Int32) : k_L_law ca b L xs 446 = i_push (.int 0) 447 := rfl
theorem k_L_law_448 (ca : Nat → ClassId) (b L : Nat) (xs : Nat → Int32) : k_L_law ca b L xs 448 = i_aload 1 449 := rfl
theorem k_L_law_449 (ca : Nat → ClassId) (b L : Nat) (xs : Nat → Int32) : k_L_law ca b L xs 449 = i_aload 0 450 := rfl
theorem k_L_law_450 (ca : Nat → ClassId) (b L : Nat) (xs : Nat → Int32) : k_L_law ca b L xs 450 = i_iload 3 451 := rfl
theorem k_L_law_451 (ca : Nat → ClassId) (b L : Nat) (xs : Nat → Int32) : k_L_law ca b L xs 451 = i_push (.int 1) 452 := rfl
theorem k_L_law_452 (ca : Nat → ClassId) (b L : Nat) (xs : Nat → Int32) : k_L_law ca b L xs 452 = i_bin (fun x y => x + y) 453 := rfl
theorem k_L_law_453 (ca : Nat → ClassId) (b L : Nat) (xs : Nat → Int32) : k_L_law ca b L xs 453 = i_sld b L xs 454 := rfl
theorem k_L_law_454 (ca : Nat → ClassId) (b L : Nat) (xs : Nat → Int32) : k_L_law ca b L xs 454 = i_aload 0 455 := rfl
theorem k_L_law_455 (ca : Nat → ClassId) (b L : Nat) (xs : Nat → Int32) : k_L_law ca b L xs 455 = i_iload 3 456 := rfl
theorem k_L_law_456 (ca : Nat → ClassId) (b L : Nat) (xs : Nat → Int32) : k_L_law ca b L xs 456 = i_push (.int 2) 457 := rfl
theorem k_L_law_457 (ca : Nat → ClassId) (b L : Nat) (xs : Nat → Int32) : k_L_law ca b L xs 457 = i_bin (fun x y => x + y) 458 := rfl
theorem k_L_law_458 (ca : Nat → ClassId) (b L : Nat) (xs : Nat → Int32) : k_L_law ca b L xs 458 = i_sld b L xs 459 := rfl
theorem k_L_law_459 (ca : Nat → ClassId) (b L : Nat) (xs : Nat → Int32) : k_L_law ca b L xs 459 = i_callV 7 2 0 0 600000 7302250 (sp_X7_opening ca) 462 := rfl
theorem k_L_law_462 (ca : Nat → ClassId) (b L : Nat) (xs : Nat → Int32) : k_L_law ca b L xs 462 = i_aload 2 463 := rfl
theorem k_L_law_463 (ca : Nat → ClassId) (b L : Nat) (xs : Nat → Int32) : k_L_law ca b L xs 463 = i_aload 0 464 := rfl
theorem k_L_law_464 (ca : Nat → ClassId) (b L : Nat) (xs : Nat → Int32) : k_L_law ca b L xs 464 = i_iload 3 465 := rfl
theorem k_L_law_465 (ca : Nat → ClassId) (b L : Nat) (xs : Nat → Int32) : k_L_law ca b L xs 465 = i_push (.int 1) 466 := rfl
theorem k_L_law_466 (ca : Nat → ClassId) (b L : Nat) (xs : Nat → Int32) : k_L_law ca b L xs 466 = i_bin (fun x y => x + y) 467 := rfl
theorem k_L_law_467 (ca : Nat → ClassId) (b L : Nat) (xs : Nat → Int32) : k_L_law ca b L xs 467 = i_sld b L xs 468 := rfl
theorem k_L_law_468 (ca : Nat → ClassId) (b L : Nat) (xs : Nat → Int32) : k_L_law ca b L xs 468 = i_aload 0 469 := rfl
theorem k_L_law_469 (ca : Nat → ClassId) (b L : Nat) (xs : Nat → Int32) : k_L_law ca b L xs 469 = i_iload 3 470 := rfl
theorem k_L_law_470 (ca : Nat → ClassId) (b L : Nat) (xs : Nat → Int32) : k_L_law ca b L xs 470 = i_push (.int 2) 471 := rfl
theorem k_L_law_471 (ca : Nat → ClassId) (b L : Nat) (xs : Nat → Int32) : k_L_law ca b L xs 471 = i_bin (fun x y => x + y) 472 := rfl
theorem k_L_law_472 (ca : Nat → ClassId) (b L : Nat) (xs : Nat → Int32) : k_L_law ca b L xs 472 = i_sld b L xs 473 := rfl
theorem k_L_law_473 (ca : Nat → ClassId) (b L : Nat) (xs : Nat → Int32) : k_L_law ca b L xs 473 = i_callV 8 2 0 0 600000 7302250 (sp_X8_opening ca) 476 := rfl
theorem k_L_law_476 (ca : Nat → ClassId) (b L : Nat) (xs : Nat → Int32) : k_L_law ca b L xs 476 = i_icmp (fun x y => x = y) 896 479 := rfl
theorem k_L_law_479 (ca : Nat → ClassId) (b L : Nat) (xs : Nat → Int32) : k_L_law ca b L xs 479 = i_push (.int 0) 480 := rfl
theorem k_L_law_481 (ca : Nat → ClassId) (b L : Nat) (xs : Nat → Int32) : k_L_law ca b L xs 481 = i_aload 1 482 := rfl
theorem k_L_law_482 (ca : Nat → ClassId) (b L : Nat) (xs : Nat → Int32) : k_L_law ca b L xs 482 = i_aload 0 483 := rfl
theorem k_L_law_483 (ca : Nat → ClassId) (b L : Nat) (xs : Nat → Int32) : k_L_law ca b L xs 483 = i_iload 3 484 := rfl
theorem k_L_law_484 (ca : Nat → ClassId) (b L : Nat) (xs : Nat → Int32) : k_L_law ca b L xs 484 = i_push (.int 1) 485 := rfl
theorem k_L_law_485 (ca : Nat → ClassId) (b L : Nat) (xs : Nat → Int32) : k_L_law ca b L xs 485 = i_bin (fun x y => x + y) 486 := rfl
theorem k_L_law_486 (ca : Nat → ClassId) (b L : Nat) (xs : Nat → Int32) : k_L_law ca b L xs 486 = i_sld b L xs 487 := rfl
theorem k_L_law_487 (ca : Nat → ClassId) (b L : Nat) (xs : Nat → Int32) : k_L_law ca b L xs 487 = i_aload 0 488 := rfl
theorem k_L_law_488 (ca : Nat → ClassId) (b L : Nat) (xs : Nat → Int32) : k_L_law ca b L xs 488 = i_iload 3 489 := rfl
theorem k_L_law_489 (ca : Nat → ClassId) (b L : Nat) (xs : Nat → Int32) : k_L_law ca b L xs 489 = i_push (.int 2) 490 := rfl
theorem k_L_law_490 (ca : Nat → ClassId) (b L : Nat) (xs : Nat → Int32) : k_L_law ca b L xs 490 = i_bin (fun x y => x + y) 491 := rfl
theorem k_L_law_491 (ca : Nat → ClassId) (b L : Nat) (xs : Nat → Int32) : k_L_law ca b L xs 491 = i_sld b L xs 492 := rfl
theorem k_L_law_492 (ca : Nat → ClassId) (b L : Nat) (xs : Nat → Int32) : k_L_law ca b L xs 492 = i_callV 7 2 0 0 600000 7302250 (sp_X7_set ca) 495 := rfl
theorem k_L_law_495 (ca : Nat → ClassId) (b L : Nat) (xs : Nat → Int32) : k_L_law ca b L xs 495 = i_aload 2 496 := rfl
theorem k_L_law_496 (ca : Nat → ClassId) (b L : Nat) (xs : Nat → Int32) : k_L_law ca b L xs 496 = i_aload 0 497 := rfl
theorem k_L_law_497 (ca : Nat → ClassId) (b L : Nat) (xs : Nat → Int32) : k_L_law ca b L xs 497 = i_iload 3 498 := rfl
theorem k_L_law_498 (ca : Nat → ClassId) (b L : Nat) (xs : Nat → Int32) : k_L_law ca b L xs 498 = i_push (.int 1) 499 := rfl
theorem k_L_law_499 (ca : Nat → ClassId) (b L : Nat) (xs : Nat → Int32) : k_L_law ca b L xs 499 = i_bin (fun x y => x + y) 500 := rfl
theorem k_L_law_500 (ca : Nat → ClassId) (b L : Nat) (xs : Nat → Int32) : k_L_law ca b L xs 500 = i_sld b L xs 501 := rfl
theorem k_L_law_501 (ca : Nat → ClassId) (b L : Nat) (xs : Nat → Int32) : k_L_law ca b L xs 501 = i_aload 0 502 := rfl
theorem k_L_law_502 (ca : Nat → ClassId) (b L : Nat) (xs : Nat → Int32) : k_L_law ca b L xs 502 = i_iload 3 503 := rfl
theorem k_L_law_503 (ca : Nat → ClassId) (b L : Nat) (xs : Nat → Int32) : k_L_law ca b L xs 503 = i_push (.int 2) 504 := rfl
theorem k_L_law_504 (ca : Nat → ClassId) (b L : Nat) (xs : Nat → Int32) : k_L_law ca b L xs 504 = i_bin (fun x y => x + y) 505 := rfl
theorem k_L_law_505 (ca : Nat → ClassId) (b L : Nat) (xs : Nat → Int32) : k_L_law ca b L xs 505 = i_sld b L xs 506 := rfl
theorem k_L_law_506 (ca : Nat → ClassId) (b L : Nat) (xs : Nat → Int32) : k_L_law ca b L xs 506 = i_callV 8 2 0 0 600000 7302250 (sp_X8_set ca) 509 := rfl
theorem k_L_law_509 (ca : Nat → ClassId) (b L : Nat) (xs : Nat → Int32) : k_L_law ca b L xs 509 = i_icmp (fun x y => x = y) 896 512 := rfl
theorem k_L_law_512 (ca : Nat → ClassId) (b L : Nat) (xs : Nat → Int32) : k_L_law ca b L xs 512 = i_push (.int 0) 513 := rfl
theorem k_L_law_514 (ca : Nat → ClassId) (b L : Nat) (xs : Nat → Int32) : k_L_law ca b L xs 514 = i_aload 1 515 := rfl
theorem k_L_law_515 (ca : Nat → ClassId) (b L : Nat) (xs : Nat → Int32) : k_L_law ca b L xs 515 = i_aload 0 516 := rfl
theorem k_L_law_516 (ca : Nat → ClassId) (b L : Nat) (xs : Nat → Int32) : k_L_law ca b L xs 516 = i_iload 3 517 := rfl
theorem k_L_law_517 (ca : Nat → ClassId) (b L : Nat) (xs : Nat → Int32) : k_L_law ca b L xs 517 = i_push (.int 1) 518 := rfl
theorem k_L_law_518 (ca : Nat → ClassId) (b L : Nat) (xs : Nat → Int32) : k_L_law ca b L xs 518 = i_bin (fun x y => x + y) 519 := rfl
theorem k_L_law_519 (ca : Nat → ClassId) (b L : Nat) (xs : Nat → Int32) : k_L_law ca b L xs 519 = i_sld b L xs 520 := rfl
theorem k_L_law_520 (ca : Nat → ClassId) (b L : Nat) (xs : Nat → Int32) : k_L_law ca b L xs 520 = i_callV 7 1 0 0 600000 7302250 (sp_X7_tick ca) 523 := rfl
theorem k_L_law_523 (ca : Nat → ClassId) (b L : Nat) (xs : Nat → Int32) : k_L_law ca b L xs 523 = i_aload 2 524 := rfl
theorem k_L_law_524 (ca : Nat → ClassId) (b L : Nat) (xs : Nat → Int32) : k_L_law ca b L xs 524 = i_aload 0 525 := rfl
theorem k_L_law_525 (ca : Nat → ClassId) (b L : Nat) (xs : Nat → Int32) : k_L_law ca b L xs 525 = i_iload 3 526 := rfl
theorem k_L_law_526 (ca : Nat → ClassId) (b L : Nat) (xs : Nat → Int32) : k_L_law ca b L xs 526 = i_push (.int 1) 527 := rfl
theorem k_L_law_527 (ca : Nat → ClassId) (b L : Nat) (xs : Nat → Int32) : k_L_law ca b L xs 527 = i_bin (fun x y => x + y) 528 := rfl
theorem k_L_law_528 (ca : Nat → ClassId) (b L : Nat) (xs : Nat → Int32) : k_L_law ca b L xs 528 = i_sld b L xs 529 := rfl
theorem k_L_law_529 (ca : Nat → ClassId) (b L : Nat) (xs : Nat → Int32) : k_L_law ca b L xs 529 = i_callV 8 1 0 0 600000 7302250 (sp_X8_tick ca) 532 := rfl
theorem k_L_law_532 (ca : Nat → ClassId) (b L : Nat) (xs : Nat → Int32) : k_L_law ca b L xs 532 = i_icmp (fun x y => x = y) 896 535 := rfl
theorem k_L_law_535 (ca : Nat → ClassId) (b L : Nat) (xs : Nat → Int32) : k_L_law ca b L xs 535 = i_push (.int 0) 536 := rfl
theorem k_L_law_537 (ca : Nat → ClassId) (b L : Nat) (xs : Nat → Int32) : k_L_law ca b L xs 537 = i_aload 1 538 := rfl
theorem k_L_law_538 (ca : Nat → ClassId) (b L : Nat) (xs : Nat → Int32) : k_L_law ca b L xs 538 = i_aload 0 539 := rfl
theorem k_L_law_539 (ca : Nat → ClassId) (b L : Nat) (xs : Nat → Int32) : k_L_law ca b L xs 539 = i_iload 3 540 := rfl
theorem k_L_law_540 (ca : Nat → ClassId) (b L : Nat) (xs : Nat → Int32) : k_L_law ca b L xs 540 = i_push (.int 1) 541 := rfl
theorem k_L_law_541 (ca : Nat → ClassId) (b L : Nat) (xs : Nat → Int32) : k_L_law ca b L xs 541 = i_bin (fun x y => x + y) 542 := rfl
theorem k_L_law_542 (ca : Nat → ClassId) (b L : Nat) (xs : Nat → Int32) : k_L_law ca b L xs 542 = i_sld b L xs 543 := rfl
theorem k_L_law_543 (ca : Nat → ClassId) (b L : Nat) (xs : Nat → Int32) : k_L_law ca b L xs 543 = i_aload 0 544 := rfl
theorem k_L_law_544 (ca : Nat → ClassId) (b L : Nat) (xs : Nat → Int32) : k_L_law ca b L xs 544 = i_iload 3 545 := rfl
theorem k_L_law_545 (ca : Nat → ClassId) (b L : Nat) (xs : Nat → Int32) : k_L_law ca b L xs 545 = i_push (.int 2) 546 := rfl
theorem k_L_law_546 (ca : Nat → ClassId) (b L : Nat) (xs : Nat → Int32) : k_L_law ca b L xs 546 = i_bin (fun x y => x + y) 547 := rfl
theorem k_L_law_547 (ca : Nat → ClassId) (b L : Nat) (xs : Nat → Int32) : k_L_law ca b L xs 547 = i_sld b L xs 548 := rfl
theorem k_L_law_548 (ca : Nat → ClassId) (b L : Nat) (xs : Nat → Int32) : k_L_law ca b L xs 548 = i_callV 7 2 0 0 600000 7302250 (sp_X7_stripOf ca) 551 := rfl
theorem k_L_law_551 (ca : Nat → ClassId) (b L : Nat) (xs : Nat → Int32) : k_L_law ca b L xs 551 = i_aload 2 552 := rfl
theorem k_L_law_552 (ca : Nat → ClassId) (b L : Nat) (xs : Nat → Int32) : k_L_law ca b L xs 552 = i_aload 0 553 := rfl
theorem k_L_law_553 (ca : Nat → ClassId) (b L : Nat) (xs : Nat → Int32) : k_L_law ca b L xs 553 = i_iload 3 554 := rfl
theorem k_L_law_554 (ca : Nat → ClassId) (b L : Nat) (xs : Nat → Int32) : k_L_law ca b L xs 554 = i_push (.int 1) 555 := rfl
theorem k_L_law_555 (ca : Nat → ClassId) (b L : Nat) (xs : Nat → Int32) : k_L_law ca b L xs 555 = i_bin (fun x y => x + y) 556 := rfl
theorem k_L_law_556 (ca : Nat → ClassId) (b L : Nat) (xs : Nat → Int32) : k_L_law ca b L xs 556 = i_sld b L xs 557 := rfl
theorem k_L_law_557 (ca : Nat → ClassId) (b L : Nat) (xs : Nat → Int32) : k_L_law ca b L xs 557 = i_aload 0 558 := rfl
theorem k_L_law_558 (ca : Nat → ClassId) (b L : Nat) (xs : Nat → Int32) : k_L_law ca b L xs 558 = i_iload 3 559 := rfl
theorem k_L_law_559 (ca : Nat → ClassId) (b L : Nat) (xs : Nat → Int32) : k_L_law ca b L xs 559 = i_push (.int 2) 560 := rfl
theorem k_L_law_560 (ca : Nat → ClassId) (b L : Nat) (xs : Nat → Int32) : k_L_law ca b L xs 560 = i_bin (fun x y => x + y) 561 := rfl
theorem k_L_law_561 (ca : Nat → ClassId) (b L : Nat) (xs : Nat → Int32) : k_L_law ca b L xs 561 = i_sld b L xs 562 := rfl
theorem k_L_law_562 (ca : Nat → ClassId) (b L : Nat) (xs : Nat → Int32) : k_L_law ca b L xs 562 = i_callV 8 2 0 0 600000 7302250 (sp_X8_stripOf ca) 565 := rfl
theorem k_L_law_565 (ca : Nat → ClassId) (b L : Nat) (xs : Nat → Int32) : k_L_law ca b L xs 565 = i_icmp (fun x y => x = y) 896 568 := rfl
theorem k_L_law_568 (ca : Nat → ClassId) (b L : Nat) (xs : Nat → Int32) : k_L_law ca b L xs 568 = i_push (.int 0) 569 := rfl
theorem k_L_law_570 (ca : Nat → ClassId) (b L : Nat) (xs : Nat → Int32) : k_L_law ca b L xs 570 = i_aload 1 571 := rfl
theorem k_L_law_571 (ca : Nat → ClassId) (b L : Nat) (xs : Nat → Int32) : k_L_law ca b L xs 571 = i_aload 0 572 := rfl
theorem k_L_law_572 (ca : Nat → ClassId) (b L : Nat) (xs : Nat → Int32) : k_L_law ca b L xs 572 = i_iload 3 573 := rfl
theorem k_L_law_573 (ca : Nat → ClassId) (b L : Nat) (xs : Nat → Int32) : k_L_law ca b L xs 573 = i_push (.int 1) 574 := rfl
theorem k_L_law_574 (ca : Nat → ClassId) (b L : Nat) (xs : Nat → Int32) : k_L_law ca b L xs 574 = i_bin (fun x y => x + y) 575 := rfl
theorem k_L_law_575 (ca : Nat → ClassId) (b L : Nat) (xs : Nat → Int32) : k_L_law ca b L xs 575 = i_sld b L xs 576 := rfl
theorem k_L_law_576 (ca : Nat → ClassId) (b L : Nat) (xs : Nat → Int32) : k_L_law ca b L xs 576 = i_aload 0 577 := rfl
theorem k_L_law_577 (ca : Nat → ClassId) (b L : Nat) (xs : Nat → Int32) : k_L_law ca b L xs 577 = i_iload 3 578 := rfl
theorem k_L_law_578 (ca : Nat → ClassId) (b L : Nat) (xs : Nat → Int32) : k_L_law ca b L xs 578 = i_push (.int 2) 579 := rfl
theorem k_L_law_579 (ca : Nat → ClassId) (b L : Nat) (xs : Nat → Int32) : k_L_law ca b L xs 579 = i_bin (fun x y => x + y) 580 := rfl
theorem k_L_law_580 (ca : Nat → ClassId) (b L : Nat) (xs : Nat → Int32) : k_L_law ca b L xs 580 = i_sld b L xs 581 := rfl
theorem k_L_law_581 (ca : Nat → ClassId) (b L : Nat) (xs : Nat → Int32) : k_L_law ca b L xs 581 = i_aload 0 582 := rfl
theorem k_L_law_582 (ca : Nat → ClassId) (b L : Nat) (xs : Nat → Int32) : k_L_law ca b L xs 582 = i_iload 3 583 := rfl
theorem k_L_law_583 (ca : Nat → ClassId) (b L : Nat) (xs : Nat → Int32) : k_L_law ca b L xs 583 = i_push (.int 3) 584 := rfl
theorem k_L_law_584 (ca : Nat → ClassId) (b L : Nat) (xs : Nat → Int32) : k_L_law ca b L xs 584 = i_bin (fun x y => x + y) 585 := rfl
theorem k_L_law_585 (ca : Nat → ClassId) (b L : Nat) (xs : Nat → Int32) : k_L_law ca b L xs 585 = i_sld b L xs 586 := rfl
theorem k_L_law_586 (ca : Nat → ClassId) (b L : Nat) (xs : Nat → Int32) : k_L_law ca b L xs 586 = i_callV 7 3 0 0 600000 7302250 (sp_X7_partOf ca) 589 := rfl
theorem k_L_law_589 (ca : Nat → ClassId) (b L : Nat) (xs : Nat → Int32) : k_L_law ca b L xs 589 = i_aload 2 590 := rfl
theorem k_L_law_590 (ca : Nat → ClassId) (b L : Nat) (xs : Nat → Int32) : k_L_law ca b L xs 590 = i_aload 0 591 := rfl
theorem k_L_law_591 (ca : Nat → ClassId) (b L : Nat) (xs : Nat → Int32) : k_L_law ca b L xs 591 = i_iload 3 592 := rfl
theorem k_L_law_592 (ca : Nat → ClassId) (b L : Nat) (xs : Nat → Int32) : k_L_law ca b L xs 592 = i_push (.int 1) 593 := rfl
theorem k_L_law_593 (ca : Nat → ClassId) (b L : Nat) (xs : Nat → Int32) : k_L_law ca b L xs 593 = i_bin (fun x y => x + y) 594 := rfl
theorem k_L_law_594 (ca : Nat → ClassId) (b L : Nat) (xs : Nat → Int32) : k_L_law ca b L xs 594 = i_sld b L xs 595 := rfl
theorem k_L_law_595 (ca : Nat → ClassId) (b L : Nat) (xs : Nat → Int32) : k_L_law ca b L xs 595 = i_aload 0 596 := rfl
theorem k_L_law_596 (ca : Nat → ClassId) (b L : Nat) (xs : Nat → Int32) : k_L_law ca b L xs 596 = i_iload 3 597 := rfl
theorem k_L_law_597 (ca : Nat → ClassId) (b L : Nat) (xs : Nat → Int32) : k_L_law ca b L xs 597 = i_push (.int 2) 598 := rfl
theorem k_L_law_598 (ca : Nat → ClassId) (b L : Nat) (xs : Nat → Int32) : k_L_law ca b L xs 598 = i_bin (fun x y => x + y) 599 := rfl
theorem k_L_law_599 (ca : Nat → ClassId) (b L : Nat) (xs : Nat → Int32) : k_L_law ca b L xs 599 = i_sld b L xs 600 := rfl
theorem k_L_law_600 (ca : Nat → ClassId) (b L : Nat) (xs : Nat → Int32) : k_L_law ca b L xs 600 = i_aload 0 601 := rfl
theorem k_L_law_601 (ca : Nat → ClassId) (b L : Nat) (xs : Nat → Int32) : k_L_law ca b L xs 601 = i_iload 3 602 := rfl
theorem k_L_law_602 (ca : Nat → ClassId) (b L : Nat) (xs : Nat → Int32) : k_L_law ca b L xs 602 = i_push (.int 3) 603 := rfl
theorem k_L_law_603 (ca : Nat → ClassId) (b L : Nat) (xs : Nat → Int32) : k_L_law ca b L xs 603 = i_bin (fun x y => x + y) 604 := rfl
theorem k_L_law_604 (ca : Nat → ClassId) (b L : Nat) (xs : Nat → Int32) : k_L_law ca b L xs 604 = i_sld b L xs 605 := rfl
theorem k_L_law_605 (ca : Nat → ClassId) (b L : Nat) (xs : Nat → Int32) : k_L_law ca b L xs 605 = i_callV 8 3 0 0 600000 7302250 (sp_X8_partOf ca) 608 := rfl
theorem k_L_law_608 (ca : Nat → ClassId) (b L : Nat) (xs : Nat → Int32) : k_L_law ca b L xs 608 = i_icmp (fun x y => x = y) 896 611 := rfl
theorem k_L_law_611 (ca : Nat → ClassId) (b L : Nat) (xs : Nat → Int32) : k_L_law ca b L xs 611 = i_push (.int 0) 612 := rfl
theorem k_L_law_613 (ca : Nat → ClassId) (b L : Nat) (xs : Nat → Int32) : k_L_law ca b L xs 613 = i_aload 1 614 := rfl
theorem k_L_law_614 (ca : Nat → ClassId) (b L : Nat) (xs : Nat → Int32) : k_L_law ca b L xs 614 = i_aload 0 615 := rfl
theorem k_L_law_615 (ca : Nat → ClassId) (b L : Nat) (xs : Nat → Int32) : k_L_law ca b L xs 615 = i_iload 3 616 := rfl
theorem k_L_law_616 (ca : Nat → ClassId) (b L : Nat) (xs : Nat → Int32) : k_L_law ca b L xs 616 = i_push (.int 1) 617 := rfl
theorem k_L_law_617 (ca : Nat → ClassId) (b L : Nat) (xs : Nat → Int32) : k_L_law ca b L xs 617 = i_bin (fun x y => x + y) 618 := rfl
theorem k_L_law_618 (ca : Nat → ClassId) (b L : Nat) (xs : Nat → Int32) : k_L_law ca b L xs 618 = i_sld b L xs 619 := rfl
theorem k_L_law_619 (ca : Nat → ClassId) (b L : Nat) (xs : Nat → Int32) : k_L_law ca b L xs 619 = i_aload 0 620 := rfl
theorem k_L_law_620 (ca : Nat → ClassId) (b L : Nat) (xs : Nat → Int32) : k_L_law ca b L xs 620 = i_iload 3 621 := rfl
theorem k_L_law_621 (ca : Nat → ClassId) (b L : Nat) (xs : Nat → Int32) : k_L_law ca b L xs 621 = i_push (.int 2) 622 := rfl
theorem k_L_law_622 (ca : Nat → ClassId) (b L : Nat) (xs : Nat → Int32) : k_L_law ca b L xs 622 = i_bin (fun x y => x + y) 623 := rfl
theorem k_L_law_623 (ca : Nat → ClassId) (b L : Nat) (xs : Nat → Int32) : k_L_law ca b L xs 623 = i_sld b L xs 624 := rfl
theorem k_L_law_624 (ca : Nat → ClassId) (b L : Nat) (xs : Nat → Int32) : k_L_law ca b L xs 624 = i_callV 7 2 0 0 600000 7302250 (sp_X7_roomOf ca) 627 := rfl
theorem k_L_law_627 (ca : Nat → ClassId) (b L : Nat) (xs : Nat → Int32) : k_L_law ca b L xs 627 = i_aload 2 628 := rfl
theorem k_L_law_628 (ca : Nat → ClassId) (b L : Nat) (xs : Nat → Int32) : k_L_law ca b L xs 628 = i_aload 0 629 := rfl
theorem k_L_law_629 (ca : Nat → ClassId) (b L : Nat) (xs : Nat → Int32) : k_L_law ca b L xs 629 = i_iload 3 630 := rfl
theorem k_L_law_630 (ca : Nat → ClassId) (b L : Nat) (xs : Nat → Int32) : k_L_law ca b L xs 630 = i_push (.int 1) 631 := rfl
theorem k_L_law_631 (ca : Nat → ClassId) (b L : Nat) (xs : Nat → Int32) : k_L_law ca b L xs 631 = i_bin (fun x y => x + y) 632 := rfl
theorem k_L_law_632 (ca : Nat → ClassId) (b L : Nat) (xs : Nat → Int32) : k_L_law ca b L xs 632 = i_sld b L xs 633 := rfl
theorem k_L_law_633 (ca : Nat → ClassId) (b L : Nat) (xs : Nat → Int32) : k_L_law ca b L xs 633 = i_aload 0 634 := rfl
theorem k_L_law_634 (ca : Nat → ClassId) (b L : Nat) (xs : Nat → Int32) : k_L_law ca b L xs 634 = i_iload 3 635 := rfl
theorem k_L_law_635 (ca : Nat → ClassId) (b L : Nat) (xs : Nat → Int32) : k_L_law ca b L xs 635 = i_push (.int 2) 636 := rfl
theorem k_L_law_636 (ca : Nat → ClassId) (b L : Nat) (xs : Nat → Int32) : k_L_law ca b L xs 636 = i_bin (fun x y => x + y) 637 := rfl
theorem k_L_law_637 (ca : Nat → ClassId) (b L : Nat) (xs : Nat → Int32) : k_L_law ca b L xs 637 = i_sld b L xs 638 := rfl
theorem k_L_law_638 (ca : Nat → ClassId) (b L : Nat) (xs : Nat → Int32) : k_L_law ca b L xs 638 = i_callV 8 2 0 0 600000 7302250 (sp_X8_roomOf ca) 641 := rfl
theorem k_L_law_641 (ca : Nat → ClassId) (b L : Nat) (xs : Nat → Int32) : k_L_law ca b L xs 641 = i_icmp (fun x y => x = y) 896 644 := rfl
theorem k_L_law_644 (ca : Nat → ClassId) (b L : Nat) (xs : Nat → Int32) : k_L_law ca b L xs 644 = i_push (.int 0) 645 := rfl
theorem k_L_law_646 (ca : Nat → ClassId) (b L : Nat) (xs : Nat → Int32) : k_L_law ca b L xs 646 = i_aload 1 647 := rfl
theorem k_L_law_647 (ca : Nat → ClassId) (b L : Nat) (xs : Nat → Int32) : k_L_law ca b L xs 647 = i_aload 0 648 := rfl
theorem k_L_law_648 (ca : Nat → ClassId) (b L : Nat) (xs : Nat → Int32) : k_L_law ca b L xs 648 = i_iload 3 649 := rfl
theorem k_L_law_649 (ca : Nat → ClassId) (b L : Nat) (xs : Nat → Int32) : k_L_law ca b L xs 649 = i_push (.int 1) 650 := rfl
theorem k_L_law_650 (ca : Nat → ClassId) (b L : Nat) (xs : Nat → Int32) : k_L_law ca b L xs 650 = i_bin (fun x y => x + y) 651 := rfl
theorem k_L_law_651 (ca : Nat → ClassId) (b L : Nat) (xs : Nat → Int32) : k_L_law ca b L xs 651 = i_sld b L xs 652 := rfl
theorem k_L_law_652 (ca : Nat → ClassId) (b L : Nat) (xs : Nat → Int32) : k_L_law ca b L xs 652 = i_callV 7 1 0 0 600000 7302250 (sp_X7_count ca) 655 := rfl
theorem k_L_law_655 (ca : Nat → ClassId) (b L : Nat) (xs : Nat → Int32) : k_L_law ca b L xs 655 = i_aload 2 656 := rfl
theorem k_L_law_656 (ca : Nat → ClassId) (b L : Nat) (xs : Nat → Int32) : k_L_law ca b L xs 656 = i_aload 0 657 := rfl
theorem k_L_law_657 (ca : Nat → ClassId) (b L : Nat) (xs : Nat → Int32) : k_L_law ca b L xs 657 = i_iload 3 658 := rfl
theorem k_L_law_658 (ca : Nat → ClassId) (b L : Nat) (xs : Nat → Int32) : k_L_law ca b L xs 658 = i_push (.int 1) 659 := rfl
theorem k_L_law_659 (ca : Nat → ClassId) (b L : Nat) (xs : Nat → Int32) : k_L_law ca b L xs 659 = i_bin (fun x y => x + y) 660 := rfl
theorem k_L_law_660 (ca : Nat → ClassId) (b L : Nat) (xs : Nat → Int32) : k_L_law ca b L xs 660 = i_sld b L xs 661 := rfl
theorem k_L_law_661 (ca : Nat → ClassId) (b L : Nat) (xs : Nat → Int32) : k_L_law ca b L xs 661 = i_callV 8 1 0 0 600000 7302250 (sp_X8_count ca) 664 := rfl
theorem k_L_law_664 (ca : Nat → ClassId) (b L : Nat) (xs : Nat → Int32) : k_L_law ca b L xs 664 = i_icmp (fun x y => x = y) 896 667 := rfl
theorem k_L_law_667 (ca : Nat → ClassId) (b L : Nat) (xs : Nat → Int32) : k_L_law ca b L xs 667 = i_push (.int 0) 668 := rfl
theorem k_L_law_669 (ca : Nat → ClassId) (b L : Nat) (xs : Nat → Int32) : k_L_law ca b L xs 669 = i_aload 1 670 := rfl
theorem k_L_law_670 (ca : Nat → ClassId) (b L : Nat) (xs : Nat → Int32) : k_L_law ca b L xs 670 = i_aload 0 671 := rfl
theorem k_L_law_671 (ca : Nat → ClassId) (b L : Nat) (xs : Nat → Int32) : k_L_law ca b L xs 671 = i_iload 3 672 := rfl
theorem k_L_law_672 (ca : Nat → ClassId) (b L : Nat) (xs : Nat → Int32) : k_L_law ca b L xs 672 = i_push (.int 1) 673 := rfl
theorem k_L_law_673 (ca : Nat → ClassId) (b L : Nat) (xs : Nat → Int32) : k_L_law ca b L xs 673 = i_bin (fun x y => x + y) 674 := rfl
theorem k_L_law_674 (ca : Nat → ClassId) (b L : Nat) (xs : Nat → Int32) : k_L_law ca b L xs 674 = i_sld b L xs 675 := rfl
theorem k_L_law_675 (ca : Nat → ClassId) (b L : Nat) (xs : Nat → Int32) : k_L_law ca b L xs 675 = i_aload 0 676 := rfl
theorem k_L_law_676 (ca : Nat → ClassId) (b L : Nat) (xs : Nat → Int32) : k_L_law ca b L xs 676 = i_iload 3 677 := rfl
theorem k_L_law_677 (ca : Nat → ClassId) (b L : Nat) (xs : Nat → Int32) : k_L_law ca b L xs 677 = i_push (.int 2) 678 := rfl
theorem k_L_law_678 (ca : Nat → ClassId) (b L : Nat) (xs : Nat → Int32) : k_L_law ca b L xs 678 = i_bin (fun x y => x + y) 679 := rfl
theorem k_L_law_679 (ca : Nat → ClassId) (b L : Nat) (xs : Nat → Int32) : k_L_law ca b L xs 679 = i_sld b L xs 680 := rfl
theorem k_L_law_680 (ca : Nat → ClassId) (b L : Nat) (xs : Nat → Int32) : k_L_law ca b L xs 680 = i_callV 7 2 0 0 600000 7302250 (sp_X7_bend ca) 683 := rfl
theorem k_L_law_683 (ca : Nat → ClassId) (b L : Nat) (xs : Nat → Int32) : k_L_law ca b L xs 683 = i_aload 2 684 := rfl
theorem k_L_law_684 (ca : Nat → ClassId) (b L : Nat) (xs : Nat → Int32) : k_L_law ca b L xs 684 = i_aload 0 685 := rfl
theorem k_L_law_685 (ca : Nat → ClassId) (b L : Nat) (xs : Nat → Int32) : k_L_law ca b L xs 685 = i_iload 3 686 := rfl
theorem k_L_law_686 (ca : Nat → ClassId) (b L : Nat) (xs : Nat → Int32) : k_L_law ca b L xs 686 = i_push (.int 1) 687 := rfl
theorem k_L_law_687 (ca : Nat → ClassId) (b L : Nat) (xs : Nat → Int32) : k_L_law ca b L xs 687 = i_bin (fun x y => x + y) 688 := rfl
theorem k_L_law_688 (ca : Nat → ClassId) (b L : Nat) (xs : Nat → Int32) : k_L_law ca b L xs 688 = i_sld b L xs 689 := rfl
theorem k_L_law_689 (ca : Nat → ClassId) (b L : Nat) (xs : Nat → Int32) : k_L_law ca b L xs 689 = i_aload 0 690 := rfl
theorem k_L_law_690 (ca : Nat → ClassId) (b L : Nat) (xs : Nat → Int32) : k_L_law ca b L xs 690 = i_iload 3 691 := rfl
theorem k_L_law_691 (ca : Nat → ClassId) (b L : Nat) (xs : Nat → Int32) : k_L_law ca b L xs 691 = i_push (.int 2) 692 := rfl
theorem k_L_law_692 (ca : Nat → ClassId) (b L : Nat) (xs : Nat → Int32) : k_L_law ca b L xs 692 = i_bin (fun x y => x + y) 693 := rfl
theorem k_L_law_693 (ca : Nat → ClassId) (b L : Nat) (xs : Nat → Int32) : k_L_law ca b L xs 693 = i_sld b L xs 694 := rfl
theorem k_L_law_694 (ca : Nat → ClassId) (b L : Nat) (xs : Nat → Int32) : k_L_law ca b L xs 694 = i_callV 8 2 0 0 600000 7302250 (sp_X8_bend ca) 697 := rfl
theorem k_L_law_697 (ca : Nat → ClassId) (b L : Nat) (xs : Nat → Int32) : k_L_law ca b L xs 697 = i_icmp (fun x y => x = y) 896 700 := rfl
theorem k_L_law_700 (ca : Nat → ClassId) (b L : Nat) (xs : Nat → Int32) : k_L_law ca b L xs 700 = i_push (.int 0) 701 := rfl
theorem k_L_law_702 (ca : Nat → ClassId) (b L : Nat) (xs : Nat → Int32) : k_L_law ca b L xs 702 = i_aload 1 703 := rfl
theorem k_L_law_703 (ca : Nat → ClassId) (b L : Nat) (xs : Nat → Int32) : k_L_law ca b L xs 703 = i_aload 0 704 := rfl
theorem k_L_law_704 (ca : Nat → ClassId) (b L : Nat) (xs : Nat → Int32) : k_L_law ca b L xs 704 = i_iload 3 705 := rfl
theorem k_L_law_705 (ca : Nat → ClassId) (b L : Nat) (xs : Nat → Int32) : k_L_law ca b L xs 705 = i_push (.int 1) 706 := rfl
theorem k_L_law_706 (ca : Nat → ClassId) (b L : Nat) (xs : Nat → Int32) : k_L_law ca b L xs 706 = i_bin (fun x y => x + y) 707 := rfl
theorem k_L_law_707 (ca : Nat → ClassId) (b L : Nat) (xs : Nat → Int32) : k_L_law ca b L xs 707 = i_sld b L xs 708 := rfl
theorem k_L_law_708 (ca : Nat → ClassId) (b L : Nat) (xs : Nat → Int32) : k_L_law ca b L xs 708 = i_aload 0 709 := rfl
theorem k_L_law_709 (ca : Nat → ClassId) (b L : Nat) (xs : Nat → Int32) : k_L_law ca b L xs 709 = i_iload 3 710 := rfl
theorem k_L_law_710 (ca : Nat → ClassId) (b L : Nat) (xs : Nat → Int32) : k_L_law ca b L xs 710 = i_push (.int 2) 711 := rfl
theorem k_L_law_711 (ca : Nat → ClassId) (b L : Nat) (xs : Nat → Int32) : k_L_law ca b L xs 711 = i_bin (fun x y => x + y) 712 := rfl
theorem k_L_law_712 (ca : Nat → ClassId) (b L : Nat) (xs : Nat → Int32) : k_L_law ca b L xs 712 = i_sld b L xs 713 := rfl
theorem k_L_law_713 (ca : Nat → ClassId) (b L : Nat) (xs : Nat → Int32) : k_L_law ca b L xs 713 = i_callV 7 2 0 0 600000 7302250 (sp_X7_tripsAt ca) 716 := rfl
theorem k_L_law_716 (ca : Nat → ClassId) (b L : Nat) (xs : Nat → Int32) : k_L_law ca b L xs 716 = i_aload 2 717 := rfl
theorem k_L_law_717 (ca : Nat → ClassId) (b L : Nat) (xs : Nat → Int32) : k_L_law ca b L xs 717 = i_aload 0 718 := rfl
theorem k_L_law_718 (ca : Nat → ClassId) (b L : Nat) (xs : Nat → Int32) : k_L_law ca b L xs 718 = i_iload 3 719 := rfl
theorem k_L_law_719 (ca : Nat → ClassId) (b L : Nat) (xs : Nat → Int32) : k_L_law ca b L xs 719 = i_push (.int 1) 720 := rfl
theorem k_L_law_720 (ca : Nat → ClassId) (b L : Nat) (xs : Nat → Int32) : k_L_law ca b L xs 720 = i_bin (fun x y => x + y) 721 := rfl
theorem k_L_law_721 (ca : Nat → ClassId) (b L : Nat) (xs : Nat → Int32) : k_L_law ca b L xs 721 = i_sld b L xs 722 := rfl
theorem k_L_law_722 (ca : Nat → ClassId) (b L : Nat) (xs : Nat → Int32) : k_L_law ca b L xs 722 = i_aload 0 723 := rfl
theorem k_L_law_723 (ca : Nat → ClassId) (b L : Nat) (xs : Nat → Int32) : k_L_law ca b L xs 723 = i_iload 3 724 := rfl
theorem k_L_law_724 (ca : Nat → ClassId) (b L : Nat) (xs : Nat → Int32) : k_L_law ca b L xs 724 = i_push (.int 2) 725 := rfl
theorem k_L_law_725 (ca : Nat → ClassId) (b L : Nat) (xs : Nat → Int32) : k_L_law ca b L xs 725 = i_bin (fun x y => x + y) 726 := rfl
theorem k_L_law_726 (ca : Nat → ClassId) (b L : Nat) (xs : Nat → Int32) : k_L_law ca b L xs 726 = i_sld b L xs 727 := rfl
theorem k_L_law_727 (ca : Nat → ClassId) (b L : Nat) (xs : Nat → Int32) : k_L_law ca b L xs 727 = i_callV 8 2 0 0 600000 7302250 (sp_X8_tripsAt ca) 730 := rfl
theorem k_L_law_730 (ca : Nat → ClassId) (b L : Nat) (xs : Nat → Int32) : k_L_law ca b L xs 730 = i_icmp (fun x y => x = y) 896 733 := rfl
theorem k_L_law_733 (ca : Nat → ClassId) (b L : Nat) (xs : Nat → Int32) : k_L_law ca b L xs 733 = i_push (.int 0) 734 := rfl
theorem k_L_law_735 (ca : Nat → ClassId) (b L : Nat) (xs : Nat → Int32) : k_L_law ca b L xs 735 = i_aload 1 736 := rfl
theorem k_L_law_736 (ca : Nat → ClassId) (b L : Nat) (xs : Nat → Int32) : k_L_law ca b L xs 736 = i_aload 0 737 := rfl
theorem k_L_law_737 (ca : Nat → ClassId) (b L : Nat) (xs : Nat → Int32) : k_L_law ca b L xs 737 = i_iload 3 738 := rfl
theorem k_L_law_738 (ca : Nat → ClassId) (b L : Nat) (xs : Nat → Int32) : k_L_law ca b L xs 738 = i_push (.int 1) 739 := rfl
theorem k_L_law_739 (ca : Nat → ClassId) (b L : Nat) (xs : Nat → Int32) : k_L_law ca b L xs 739 = i_bin (fun x y => x + y) 740 := rfl
theorem k_L_law_740 (ca : Nat → ClassId) (b L : Nat) (xs : Nat → Int32) : k_L_law ca b L xs 740 = i_sld b L xs 741 := rfl
theorem k_L_law_741 (ca : Nat → ClassId) (b L : Nat) (xs : Nat → Int32) : k_L_law ca b L xs 741 = i_callV 7 1 0 0 600000 7302250 (sp_X7_loop ca) 744 := rfl
theorem k_L_law_744 (ca : Nat → ClassId) (b L : Nat) (xs : Nat → Int32) : k_L_law ca b L xs 744 = i_aload 2 745 := rfl
theorem k_L_law_745 (ca : Nat → ClassId) (b L : Nat) (xs : Nat → Int32) : k_L_law ca b L xs 745 = i_aload 0 746 := rfl
theorem k_L_law_746 (ca : Nat → ClassId) (b L : Nat) (xs : Nat → Int32) : k_L_law ca b L xs 746 = i_iload 3 747 := rfl
theorem k_L_law_747 (ca : Nat → ClassId) (b L : Nat) (xs : Nat → Int32) : k_L_law ca b L xs 747 = i_push (.int 1) 748 := rfl
theorem k_L_law_748 (ca : Nat → ClassId) (b L : Nat) (xs : Nat → Int32) : k_L_law ca b L xs 748 = i_bin (fun x y => x + y) 749 := rfl
theorem k_L_law_749 (ca : Nat → ClassId) (b L : Nat) (xs : Nat → Int32) : k_L_law ca b L xs 749 = i_sld b L xs 750 := rfl
theorem k_L_law_750 (ca : Nat → ClassId) (b L : Nat) (xs : Nat → Int32) : k_L_law ca b L xs 750 = i_callV 8 1 0 0 600000 7302250 (sp_X8_loop ca) 753 := rfl
theorem k_L_law_753 (ca : Nat → ClassId) (b L : Nat) (xs : Nat → Int32) : k_L_law ca b L xs 753 = i_icmp (fun x y => x = y) 896 756 := rfl
theorem k_L_law_756 (ca : Nat → ClassId) (b L : Nat) (xs : Nat → Int32) : k_L_law ca b L xs 756 = i_push (.int 0) 757 := rfl
theorem k_L_law_758 (ca : Nat → ClassId) (b L : Nat) (xs : Nat → Int32) : k_L_law ca b L xs 758 = i_aload 1 759 := rfl
theorem k_L_law_759 (ca : Nat → ClassId) (b L : Nat) (xs : Nat → Int32) : k_L_law ca b L xs 759 = i_aload 0 760 := rfl
theorem k_L_law_760 (ca : Nat → ClassId) (b L : Nat) (xs : Nat → Int32) : k_L_law ca b L xs 760 = i_iload 3 761 := rfl
theorem k_L_law_761 (ca : Nat → ClassId) (b L : Nat) (xs : Nat → Int32) : k_L_law ca b L xs 761 = i_push (.int 1) 762 := rfl
theorem k_L_law_762 (ca : Nat → ClassId) (b L : Nat) (xs : Nat → Int32) : k_L_law ca b L xs 762 = i_bin (fun x y => x + y) 763 := rfl
theorem k_L_law_763 (ca : Nat → ClassId) (b L : Nat) (xs : Nat → Int32) : k_L_law ca b L xs 763 = i_sld b L xs 764 := rfl
theorem k_L_law_764 (ca : Nat → ClassId) (b L : Nat) (xs : Nat → Int32) : k_L_law ca b L xs 764 = i_aload 0 765 := rfl
theorem k_L_law_765 (ca : Nat → ClassId) (b L : Nat) (xs : Nat → Int32) : k_L_law ca b L xs 765 = i_iload 3 766 := rfl
theorem k_L_law_766 (ca : Nat → ClassId) (b L : Nat) (xs : Nat → Int32) : k_L_law ca b L xs 766 = i_push (.int 2) 767 := rfl
theorem k_L_law_767 (ca : Nat → ClassId) (b L : Nat) (xs : Nat → Int32) : k_L_law ca b L xs 767 = i_bin (fun x y => x + y) 768 := rfl
theorem k_L_law_768 (ca : Nat → ClassId) (b L : Nat) (xs : Nat → Int32) : k_L_law ca b L xs 768 = i_sld b L xs 769 := rfl
theorem k_L_law_769 (ca : Nat → ClassId) (b L : Nat) (xs : Nat → Int32) : k_L_law ca b L xs 769 = i_aload 0 770 := rfl
theorem k_L_law_770 (ca : Nat → ClassId) (b L : Nat) (xs : Nat → Int32) : k_L_law ca b L xs 770 = i_iload 3 771 := rfl
theorem k_L_law_771 (ca : Nat → ClassId) (b L : Nat) (xs : Nat → Int32) : k_L_law ca b L xs 771 = i_push (.int 3) 772 := rfl
theorem k_L_law_772 (ca : Nat → ClassId) (b L : Nat) (xs : Nat → Int32) : k_L_law ca b L xs 772 = i_bin (fun x y => x + y) 773 := rfl
theorem k_L_law_773 (ca : Nat → ClassId) (b L : Nat) (xs : Nat → Int32) : k_L_law ca b L xs 773 = i_sld b L xs 774 := rfl
theorem k_L_law_774 (ca : Nat → ClassId) (b L : Nat) (xs : Nat → Int32) : k_L_law ca b L xs 774 = i_callV 7 3 0 0 600000 7302250 (sp_X7_stack ca) 777 := rfl
theorem k_L_law_777 (ca : Nat → ClassId) (b L : Nat) (xs : Nat → Int32) : k_L_law ca b L xs 777 = i_aload 2 778 := rfl
theorem k_L_law_778 (ca : Nat → ClassId) (b L : Nat) (xs : Nat → Int32) : k_L_law ca b L xs 778 = i_aload 0 779 := rfl
theorem k_L_law_779 (ca : Nat → ClassId) (b L : Nat) (xs : Nat → Int32) : k_L_law ca b L xs 779 = i_iload 3 780 := rfl
theorem k_L_law_780 (ca : Nat → ClassId) (b L : Nat) (xs : Nat → Int32) : k_L_law ca b L xs 780 = i_push (.int 1) 781 := rfl
theorem k_L_law_781 (ca : Nat → ClassId) (b L : Nat) (xs : Nat → Int32) : k_L_law ca b L xs 781 = i_bin (fun x y => x + y) 782 := rfl
theorem k_L_law_782 (ca : Nat → ClassId) (b L : Nat) (xs : Nat → Int32) : k_L_law ca b L xs 782 = i_sld b L xs 783 := rfl
theorem k_L_law_783 (ca : Nat → ClassId) (b L : Nat) (xs : Nat → Int32) : k_L_law ca b L xs 783 = i_aload 0 784 := rfl
theorem k_L_law_784 (ca : Nat → ClassId) (b L : Nat) (xs : Nat → Int32) : k_L_law ca b L xs 784 = i_iload 3 785 := rfl
theorem k_L_law_785 (ca : Nat → ClassId) (b L : Nat) (xs : Nat → Int32) : k_L_law ca b L xs 785 = i_push (.int 2) 786 := rfl
theorem k_L_law_786 (ca : Nat → ClassId) (b L : Nat) (xs : Nat → Int32) : k_L_law ca b L xs 786 = i_bin (fun x y => x + y) 787 := rfl
theorem k_L_law_787 (ca : Nat → ClassId) (b L : Nat) (xs : Nat → Int32) : k_L_law ca b L xs 787 = i_sld b L xs 788 := rfl
theorem k_L_law_788 (ca : Nat → ClassId) (b L : Nat) (xs : Nat → Int32) : k_L_law ca b L xs 788 = i_aload 0 789 := rfl
theorem k_L_law_789 (ca : Nat → ClassId) (b L : Nat) (xs : Nat → Int32) : k_L_law ca b L xs 789 = i_iload 3 790 := rfl
theorem k_L_law_790 (ca : Nat → ClassId) (b L : Nat) (xs : Nat → Int32) : k_L_law ca b L xs 790 = i_push (.int 3) 791 := rfl
theorem k_L_law_791 (ca : Nat → ClassId) (b L : Nat) (xs : Nat → Int32) : k_L_law ca b L xs 791 = i_bin (fun x y => x + y) 792 := rfl
theorem k_L_law_792 (ca : Nat → ClassId) (b L : Nat) (xs : Nat → Int32) : k_L_law ca b L xs 792 = i_sld b L xs 793 := rfl
theorem k_L_law_793 (ca : Nat → ClassId) (b L : Nat) (xs : Nat → Int32) : k_L_law ca b L xs 793 = i_callV 8 3 0 0 600000 7302250 (sp_X8_stack ca) 796 := rfl
theorem k_L_law_796 (ca : Nat → ClassId) (b L : Nat) (xs : Nat → Int32) : k_L_law ca b L xs 796 = i_icmp (fun x y => x = y) 896 799 := rfl
theorem k_L_law_799 (ca : Nat → ClassId) (b L : Nat) (xs : Nat → Int32) : k_L_law ca b L xs 799 = i_push (.int 0) 800 := rfl
theorem k_L_law_801 (ca : Nat → ClassId) (b L : Nat) (xs : Nat → Int32) : k_L_law ca b L xs 801 = i_aload 1 802 := rfl
theorem k_L_law_802 (ca : Nat → ClassId) (b L : Nat) (xs : Nat → Int32) : k_L_law ca b L xs 802 = i_callV 7 0 0 0 600000 7302250 (sp_X7_undo ca) 805 := rfl
theorem k_L_law_805 (ca : Nat → ClassId) (b L : Nat) (xs : Nat → Int32) : k_L_law ca b L xs 805 = i_aload 2 806 := rfl
theorem k_L_law_806 (ca : Nat → ClassId) (b L : Nat) (xs : Nat → Int32) : k_L_law ca b L xs 806 = i_callV 8 0 0 0 600000 7302250 (sp_X8_undo ca) 809 := rfl
theorem k_L_law_809 (ca : Nat → ClassId) (b L : Nat) (xs : Nat → Int32) : k_L_law ca b L xs 809 = i_icmp (fun x y => x = y) 896 812 := rfl
theorem k_L_law_812 (ca : Nat → ClassId) (b L : Nat) (xs : Nat → Int32) : k_L_law ca b L xs 812 = i_push (.int 0) 813 := rfl
theorem k_L_law_814 (ca : Nat → ClassId) (b L : Nat) (xs : Nat → Int32) : k_L_law ca b L xs 814 = i_aload 1 815 := rfl
theorem k_L_law_815 (ca : Nat → ClassId) (b L : Nat) (xs : Nat → Int32) : k_L_law ca b L xs 815 = i_aload 0 816 := rfl
theorem k_L_law_816 (ca : Nat → ClassId) (b L : Nat) (xs : Nat → Int32) : k_L_law ca b L xs 816 = i_iload 3 817 := rfl
theorem k_L_law_817 (ca : Nat → ClassId) (b L : Nat) (xs : Nat → Int32) : k_L_law ca b L xs 817 = i_push (.int 1) 818 := rfl
theorem k_L_law_818 (ca : Nat → ClassId) (b L : Nat) (xs : Nat → Int32) : k_L_law ca b L xs 818 = i_bin (fun x y => x + y) 819 := rfl
theorem k_L_law_819 (ca : Nat → ClassId) (b L : Nat) (xs : Nat → Int32) : k_L_law ca b L xs 819 = i_sld b L xs 820 := rfl
theorem k_L_law_820 (ca : Nat → ClassId) (b L : Nat) (xs : Nat → Int32) : k_L_law ca b L xs 820 = i_callV 7 1 0 0 600000 7302250 (sp_X7_type ca) 823 := rfl
theorem k_L_law_823 (ca : Nat → ClassId) (b L : Nat) (xs : Nat → Int32) : k_L_law ca b L xs 823 = i_aload 2 824 := rfl
theorem k_L_law_824 (ca : Nat → ClassId) (b L : Nat) (xs : Nat → Int32) : k_L_law ca b L xs 824 = i_aload 0 825 := rfl
theorem k_L_law_825 (ca : Nat → ClassId) (b L : Nat) (xs : Nat → Int32) : k_L_law ca b L xs 825 = i_iload 3 826 := rfl
theorem k_L_law_826 (ca : Nat → ClassId) (b L : Nat) (xs : Nat → Int32) : k_L_law ca b L xs 826 = i_push (.int 1) 827 := rfl
theorem k_L_law_827 (ca : Nat → ClassId) (b L : Nat) (xs : Nat → Int32) : k_L_law ca b L xs 827 = i_bin (fun x y => x + y) 828 := rfl
theorem k_L_law_828 (ca : Nat → ClassId) (b L : Nat) (xs : Nat → Int32) : k_L_law ca b L xs 828 = i_sld b L xs 829 := rfl
theorem k_L_law_829 (ca : Nat → ClassId) (b L : Nat) (xs : Nat → Int32) : k_L_law ca b L xs 829 = i_callV 8 1 0 0 600000 7302250 (sp_X8_type ca) 832 := rfl
theorem k_L_law_832 (ca : Nat → ClassId) (b L : Nat) (xs : Nat → Int32) : k_L_law ca b L xs 832 = i_icmp (fun x y => x = y) 896 835 := rfl
theorem k_L_law_835 (ca : Nat → ClassId) (b L : Nat) (xs : Nat → Int32) : k_L_law ca b L xs 835 = i_push (.int 0) 836 := rfl
theorem k_L_law_837 (ca : Nat → ClassId) (b L : Nat) (xs : Nat → Int32) : k_L_law ca b L xs 837 = i_aload 1 838 := rfl
theorem k_L_law_838 (ca : Nat → ClassId) (b L : Nat) (xs : Nat → Int32) : k_L_law ca b L xs 838 = i_callV 7 0 0 0 600000 7302250 (sp_X7_clearText ca) 841 := rfl
theorem k_L_law_841 (ca : Nat → ClassId) (b L : Nat) (xs : Nat → Int32) : k_L_law ca b L xs 841 = i_aload 2 842 := rfl
theorem k_L_law_842 (ca : Nat → ClassId) (b L : Nat) (xs : Nat → Int32) : k_L_law ca b L xs 842 = i_callV 8 0 0 0 600000 7302250 (sp_X8_clearText ca) 845 := rfl
theorem k_L_law_845 (ca : Nat → ClassId) (b L : Nat) (xs : Nat → Int32) : k_L_law ca b L xs 845 = i_icmp (fun x y => x = y) 896 848 := rfl
theorem k_L_law_848 (ca : Nat → ClassId) (b L : Nat) (xs : Nat → Int32) : k_L_law ca b L xs 848 = i_push (.int 0) 849 := rfl
theorem k_L_law_850 (ca : Nat → ClassId) (b L : Nat) (xs : Nat → Int32) : k_L_law ca b L xs 850 = i_aload 1 851 := rfl
theorem k_L_law_851 (ca : Nat → ClassId) (b L : Nat) (xs : Nat → Int32) : k_L_law ca b L xs 851 = i_aload 0 852 := rfl
theorem k_L_law_852 (ca : Nat → ClassId) (b L : Nat) (xs : Nat → Int32) : k_L_law ca b L xs 852 = i_iload 3 853 := rfl
theorem k_L_law_853 (ca : Nat → ClassId) (b L : Nat) (xs : Nat → Int32) : k_L_law ca b L xs 853 = i_push (.int 1) 854 := rfl
theorem k_L_law_854 (ca : Nat → ClassId) (b L : Nat) (xs : Nat → Int32) : k_L_law ca b L xs 854 = i_bin (fun x y => x + y) 855 := rfl
theorem k_L_law_855 (ca : Nat → ClassId) (b L : Nat) (xs : Nat → Int32) : k_L_law ca b L xs 855 = i_sld b L xs 856 := rfl
theorem k_L_law_856 (ca : Nat → ClassId) (b L : Nat) (xs : Nat → Int32) : k_L_law ca b L xs 856 = i_callV 7 1 0 0 600000 7302250 (sp_X7_fault ca) 859 := rfl
theorem k_L_law_859 (ca : Nat → ClassId) (b L : Nat) (xs : Nat → Int32) : k_L_law ca b L xs 859 = i_aload 2 860 := rfl
theorem k_L_law_860 (ca : Nat → ClassId) (b L : Nat) (xs : Nat → Int32) : k_L_law ca b L xs 860 = i_aload 0 861 := rfl
theorem k_L_law_861 (ca : Nat → ClassId) (b L : Nat) (xs : Nat → Int32) : k_L_law ca b L xs 861 = i_iload 3 862 := rfl
theorem k_L_law_862 (ca : Nat → ClassId) (b L : Nat) (xs : Nat → Int32) : k_L_law ca b L xs 862 = i_push (.int 1) 863 := rfl
theorem k_L_law_863 (ca : Nat → ClassId) (b L : Nat) (xs : Nat → Int32) : k_L_law ca b L xs 863 = i_bin (fun x y => x + y) 864 := rfl
theorem k_L_law_864 (ca : Nat → ClassId) (b L : Nat) (xs : Nat → Int32) : k_L_law ca b L xs 864 = i_sld b L xs 865 := rfl
theorem k_L_law_865 (ca : Nat → ClassId) (b L : Nat) (xs : Nat → Int32) : k_L_law ca b L xs 865 = i_callV 8 1 0 0 600000 7302250 (sp_X8_fault ca) 868 := rfl
theorem k_L_law_868 (ca : Nat → ClassId) (b L : Nat) (xs : Nat → Int32) : k_L_law ca b L xs 868 = i_icmp (fun x y => x = y) 896 871 := rfl
theorem k_L_law_871 (ca : Nat → ClassId) (b L : Nat) (xs : Nat → Int32) : k_L_law ca b L xs 871 = i_push (.int 0) 872 := rfl
theorem k_L_law_873 (ca : Nat → ClassId) (b L : Nat) (xs : Nat → Int32) : k_L_law ca b L xs 873 = i_aload 1 874 := rfl
theorem k_L_law_874 (ca : Nat → ClassId) (b L : Nat) (xs : Nat → Int32) : k_L_law ca b L xs 874 = i_aload 0 875 := rfl
theorem k_L_law_875 (ca : Nat → ClassId) (b L : Nat) (xs : Nat → Int32) : k_L_law ca b L xs 875 = i_iload 3 876 := rfl
theorem k_L_law_876 (ca : Nat → ClassId) (b L : Nat) (xs : Nat → Int32) : k_L_law ca b L xs 876 = i_push (.int 1) 877 := rfl
theorem k_L_law_877 (ca : Nat → ClassId) (b L : Nat) (xs : Nat → Int32) : k_L_law ca b L xs 877 = i_bin (fun x y => x + y) 878 := rfl
theorem k_L_law_878 (ca : Nat → ClassId) (b L : Nat) (xs : Nat → Int32) : k_L_law ca b L xs 878 = i_sld b L xs 879 := rfl
theorem k_L_law_879 (ca : Nat → ClassId) (b L : Nat) (xs : Nat → Int32) : k_L_law ca b L xs 879 = i_callV 7 1 0 0 600000 7302250 (sp_X7_read ca) 882 := rfl
theorem k_L_law_882 (ca : Nat → ClassId) (b L : Nat) (xs : Nat → Int32) : k_L_law ca b L xs 882 = i_aload 2 883 := rfl
theorem k_L_law_883 (ca : Nat → ClassId) (b L : Nat) (xs : Nat → Int32) : k_L_law ca b L xs 883 = i_aload 0 884 := rfl
theorem k_L_law_884 (ca : Nat → ClassId) (b L : Nat) (xs : Nat → Int32) : k_L_law ca b L xs 884 = i_iload 3 885 := rfl
theorem k_L_law_885 (ca : Nat → ClassId) (b L : Nat) (xs : Nat → Int32) : k_L_law ca b L xs 885 = i_push (.int 1) 886 := rfl
theorem k_L_law_886 (ca : Nat → ClassId) (b L : Nat) (xs : Nat → Int32) : k_L_law ca b L xs 886 = i_bin (fun x y => x + y) 887 := rfl
theorem k_L_law_887 (ca : Nat → ClassId) (b L : Nat) (xs : Nat → Int32) : k_L_law ca b L xs 887 = i_sld b L xs 888 := rfl
theorem k_L_law_888 (ca : Nat → ClassId) (b L : Nat) (xs : Nat → Int32) : k_L_law ca b L xs 888 = i_callV 8 1 0 0 600000 7302250 (sp_X8_read ca) 891 := rfl
theorem k_L_law_891 (ca : Nat → ClassId) (b L : Nat) (xs : Nat → Int32) : k_L_law ca b L xs 891 = i_icmp (fun x y => x = y) 896 894 := rfl
theorem k_L_law_894 (ca : Nat → ClassId) (b L : Nat) (xs : Nat → Int32) : k_L_law ca b L xs 894 = i_push (.int 0) 895 := rfl
theorem k_L_law_896 (ca : Nat → ClassId) (b L : Nat) (xs : Nat → Int32) : k_L_law ca b L xs 896 = i_iinc 3 5 899 := rfl
theorem k_L_law_899 (ca : Nat → ClassId) (b L : Nat) (xs : Nat → Int32) : k_L_law ca b L xs 899 = i_goto 18 := rfl
theorem k_L_law_902 (ca : Nat → ClassId) (b L : Nat) (xs : Nat → Int32) : k_L_law ca b L xs 902 = i_push (.int 1) 903 := rfl
theorem k_L_law_903 (ca : Nat → ClassId) (b L : Nat) (xs : Nat → Int32) : k_L_law ca b L xs 903 = i_ret := rfl
