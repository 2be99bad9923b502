theorem wd_116 : Cond.initialized "MineAir$Gear" ∈ wG := wG_of 116 (by decide +kernel) (by decide +kernel)
theorem wd_120 : Cond.initialized "MineAir$Flow" ∈ wG := wG_of 120 (by decide +kernel) (by decide +kernel)
theorem wd_121 : Cond.initialized "MineAir$Load" ∈ wG := wG_of 121 (by decide +kernel) (by decide +kernel)
theorem wd_146 : Cond.instanceMethod (⟨"java/lang/Object", "<init>", "()V"⟩ : MethodName) ∈ wG := wG_of 146 (by decide +kernel) (by decide +kernel)
theorem wd_153 : Cond.methodLink "MineAir$Book" 3 (⟨"java/lang/Object", "<init>", "()V"⟩ : MethodName) ∈ wG := wG_of 153 (by decide +kernel) (by decide +kernel)
theorem wd_154 : Cond.classLink "MineAir$Book" 43 "MineAir$Gear" ∈ wG := wG_of 154 (by decide +kernel) (by decide +kernel)
theorem wd_155 : Cond.instantiable "MineAir$Gear" 13 ∈ wG := wG_of 155 (by decide +kernel) (by decide +kernel)
theorem wd_156 : Cond.methodLinkNest "MineAir$Book" 45 (⟨"MineAir$Gear", "<init>", "()V"⟩ : MethodName) "MineAir" ∈ wN := wN_of 156 (by decide +kernel) rfl
theorem wd_157 : Cond.instanceMethod (⟨"MineAir$Gear", "<init>", "()V"⟩ : MethodName) ∈ wG := wG_of 157 (by decide +kernel) (by decide +kernel)
theorem wd_158 : Cond.code (⟨"MineAir$Gear", "<init>", "()V"⟩ : MethodName) prog_5_method_1_code 1 (Option.none : Option Jvm.ClassFile.FieldType) ∈ wG := wG_of 158 (by decide +kernel) (by decide +kernel)
theorem wd_159 : Cond.methodLink "MineAir$Gear" 3 (⟨"java/lang/Object", "<init>", "()V"⟩ : MethodName) ∈ wG := wG_of 159 (by decide +kernel) (by decide +kernel)
theorem wd_164 : Cond.fieldLink "MineAir$Gear" 9 "MineAir$Gear" "doorBy" "[I" ∈ wG := wG_of 164 (by decide +kernel) (by decide +kernel)
theorem wd_172 : Cond.fieldLink "MineAir$Gear" 15 "MineAir$Gear" "pairFirst" "[I" ∈ wG := wG_of 172 (by decide +kernel) (by decide +kernel)
theorem wd_175 : Cond.fieldLink "MineAir$Gear" 18 "MineAir$Gear" "pairSecond" "[I" ∈ wG := wG_of 175 (by decide +kernel) (by decide +kernel)
theorem wd_183 : Cond.fieldLink "MineAir$Gear" 21 "MineAir$Gear" "fanPush" "[I" ∈ wG := wG_of 183 (by decide +kernel) (by decide +kernel)
theorem wd_186 : Cond.fieldLink "MineAir$Gear" 24 "MineAir$Gear" "fanFall" "[I" ∈ wG := wG_of 186 (by decide +kernel) (by decide +kernel)
theorem wd_189 : Cond.fieldLink "MineAir$Gear" 27 "MineAir$Gear" "fanCost" "[I" ∈ wG := wG_of 189 (by decide +kernel) (by decide +kernel)
theorem wd_198 : Cond.fieldLink "MineAir$Gear" 30 "MineAir$Gear" "faceWay" "[I" ∈ wG := wG_of 198 (by decide +kernel) (by decide +kernel)
theorem wd_202 : Cond.fieldLink "MineAir$Gear" 33 "MineAir$Gear" "faceGas" "[I" ∈ wG := wG_of 202 (by decide +kernel) (by decide +kernel)
theorem wd_206 : Cond.fieldLink "MineAir$Gear" 36 "MineAir$Gear" "faceNeed" "[I" ∈ wG := wG_of 206 (by decide +kernel) (by decide +kernel)
theorem wd_237 : Cond.arrayClass Jvm.ClassFile.FieldType.int ∈ wG := wG_of 237 (by decide +kernel) (by decide +kernel)
theorem wd_246 : Cond.fieldLink "MineAir$Book" 9 "MineAir$Book" "tail" "[I" ∈ wG := wG_of 246 (by decide +kernel) (by decide +kernel)
theorem wd_251 : Cond.fieldLink "MineAir$Book" 15 "MineAir$Book" "head" "[I" ∈ wG := wG_of 251 (by decide +kernel) (by decide +kernel)
theorem wd_256 : Cond.fieldLink "MineAir$Book" 18 "MineAir$Book" "hinder" "[I" ∈ wG := wG_of 256 (by decide +kernel) (by decide +kernel)
theorem wd_259 : Cond.fieldLink "MineAir$Book" 21 "MineAir$Book" "size" "[I" ∈ wG := wG_of 259 (by decide +kernel) (by decide +kernel)
theorem wd_263 : Cond.fieldLink "MineAir$Book" 24 "MineAir$Book" "walk" "[I" ∈ wG := wG_of 263 (by decide +kernel) (by decide +kernel)
theorem wd_267 : Cond.fieldLink "MineAir$Book" 27 "MineAir$Book" "draught" "[I" ∈ wG := wG_of 267 (by decide +kernel) (by decide +kernel)
theorem wd_332 : Cond.methodLink "MineAir$Reader" 3 (⟨"java/lang/Object", "<init>", "()V"⟩ : MethodName) ∈ wG := wG_of 332 (by decide +kernel) (by decide +kernel)
theorem wd_341 : Cond.fieldLink "MineAir$Reader" 15 "MineAir$Reader" "names" "[J" ∈ wG := wG_of 341 (by decide +kernel) (by decide +kernel)
theorem wd_342 : Cond.fieldLink "MineAir$Reader" 19 "MineAir$Reader" "nameKind" "[I" ∈ wG := wG_of 342 (by decide +kernel) (by decide +kernel)
theorem wd_343 : Cond.fieldLink "MineAir$Reader" 22 "MineAir$Reader" "nameNumber" "[I" ∈ wG := wG_of 343 (by decide +kernel) (by decide +kernel)
theorem wd_345 : Cond.fieldLink "MineAir$Reader" 25 "MineAir$Reader" "knotNames" "[J" ∈ wG := wG_of 345 (by decide +kernel) (by decide +kernel)
theorem wd_382 : Cond.arrayClass Jvm.ClassFile.FieldType.long ∈ wG := wG_of 382 (by decide +kernel) (by decide +kernel)
theorem wd_388 : Cond.methodLink "MineAir$State" 3 (⟨"java/lang/Object", "<init>", "()V"⟩ : MethodName) ∈ wG := wG_of 388 (by decide +kernel) (by decide +kernel)
theorem wd_389 : Cond.fieldLink "MineAir$State" 9 "MineAir$State" "open" "[Z" ∈ wG := wG_of 389 (by decide +kernel) (by decide +kernel)
theorem wd_392 : Cond.fieldLink "MineAir$State" 15 "MineAir$State" "speed" "[I" ∈ wG := wG_of 392 (by decide +kernel) (by decide +kernel)
theorem wd_396 : Cond.fieldLink "MineAir$State" 19 "MineAir$State" "fallen" "[Z" ∈ wG := wG_of 396 (by decide +kernel) (by decide +kernel)
theorem wd_402 : Cond.fieldLink "MineAir$State" 22 "MineAir$State" "fire" "[I" ∈ wG := wG_of 402 (by decide +kernel) (by decide +kernel)
theorem wd_405 : Cond.fieldLink "MineAir$State" 35 "MineAir$State" "mark" "I" ∈ wG := wG_of 405 (by decide +kernel) (by decide +kernel)
theorem wd_408 : Cond.fieldLink "MineAir$State" 39 "MineAir$State" "moreIn" "I" ∈ wG := wG_of 408 (by decide +kernel) (by decide +kernel)
theorem wd_410 : Cond.fieldLink "MineAir$State" 42 "MineAir$State" "more" "I" ∈ wG := wG_of 410 (by decide +kernel) (by decide +kernel)
theorem wd_412 : Cond.fieldLink "MineAir$State" 25 "MineAir$State" "book" "LMineAir$Book;" ∈ wG := wG_of 412 (by decide +kernel) (by decide +kernel)
theorem wd_430 : Cond.arrayClass Jvm.ClassFile.FieldType.boolean ∈ wG := wG_of 430 (by decide +kernel) (by decide +kernel)
theorem wd_436 : Cond.methodLink "MineAir$Judge" 3 (⟨"java/lang/Object", "<init>", "()V"⟩ : MethodName) ∈ wG := wG_of 436 (by decide +kernel) (by decide +kernel)
theorem wd_437 : Cond.classLink "MineAir$Judge" 19 "MineAir$Flow" ∈ wG := wG_of 437 (by decide +kernel) (by decide +kernel)
theorem wd_438 : Cond.instantiable "MineAir$Flow" 12 ∈ wG := wG_of 438 (by decide +kernel) (by decide +kernel)
theorem wd_439 : Cond.methodLink "MineAir$Judge" 21 (⟨"MineAir$Flow", "<init>", "(LMineAir$Book;LMineAir$State;)V"⟩ : MethodName) ∈ wG := wG_of 439 (by decide +kernel) (by decide +kernel)
theorem wd_440 : Cond.instanceMethod (⟨"MineAir$Flow", "<init>", "(LMineAir$Book;LMineAir$State;)V"⟩ : MethodName) ∈ wG := wG_of 440 (by decide +kernel) (by decide +kernel)
theorem wd_441 : Cond.code (⟨"MineAir$Flow", "<init>", "(LMineAir$Book;LMineAir$State;)V"⟩ : MethodName) prog_4_method_1_code 3 (Option.none : Option Jvm.ClassFile.FieldType) ∈ wG := wG_of 441 (by decide +kernel) (by decide +kernel)
theorem wd_442 : Cond.methodLink "MineAir$Flow" 3 (⟨"java/lang/Object", "<init>", "()V"⟩ : MethodName) ∈ wG := wG_of 442 (by decide +kernel) (by decide +kernel)
theorem wd_443 : Cond.fieldLink "MineAir$Flow" 9 "MineAir$Flow" "air" "[I" ∈ wG := wG_of 443 (by decide +kernel) (by decide +kernel)
theorem wd_447 : Cond.fieldLink "MineAir$Flow" 43 "MineAir$Flow" "book" "LMineAir$Book;" ∈ wG := wG_of 447 (by decide +kernel) (by decide +kernel)
theorem wd_448 : Cond.fieldLink "MineAir$Flow" 47 "MineAir$Flow" "state" "LMineAir$State;" ∈ wG := wG_of 448 (by decide +kernel) (by decide +kernel)
theorem wd_449 : Cond.fieldLink "MineAir$Flow" 15 "MineAir$Flow" "hindrance" "[J" ∈ wG := wG_of 449 (by decide +kernel) (by decide +kernel)
theorem wd_450 : Cond.fieldLink "MineAir$Flow" 19 "MineAir$Flow" "pull" "[J" ∈ wG := wG_of 450 (by decide +kernel) (by decide +kernel)
theorem wd_451 : Cond.fieldLink "MineAir$Flow" 22 "MineAir$Flow" "droop" "[J" ∈ wG := wG_of 451 (by decide +kernel) (by decide +kernel)
theorem wd_452 : Cond.fieldLink "MineAir$Flow" 25 "MineAir$Flow" "forth" "[J" ∈ wG := wG_of 452 (by decide +kernel) (by decide +kernel)
theorem wd_453 : Cond.fieldLink "MineAir$Flow" 28 "MineAir$Flow" "back" "[J" ∈ wG := wG_of 453 (by decide +kernel) (by decide +kernel)
theorem wd_454 : Cond.fieldLink "MineAir$Flow" 31 "MineAir$Flow" "label" "[J" ∈ wG := wG_of 454 (by decide +kernel) (by decide +kernel)
theorem wd_455 : Cond.fieldLink "MineAir$Flow" 34 "MineAir$Flow" "cause" "[I" ∈ wG := wG_of 455 (by decide +kernel) (by decide +kernel)
theorem wd_456 : Cond.fieldLink "MineAir$Flow" 37 "MineAir$Flow" "seen" "[I" ∈ wG := wG_of 456 (by decide +kernel) (by decide +kernel)
theorem wd_457 : Cond.fieldLink "MineAir$Flow" 40 "MineAir$Flow" "round" "[I" ∈ wG := wG_of 457 (by decide +kernel) (by decide +kernel)
theorem wd_483 : Cond.classLink "MineAir$Judge" 28 "MineAir$Load" ∈ wG := wG_of 483 (by decide +kernel) (by decide +kernel)
theorem wd_484 : Cond.instantiable "MineAir$Load" 6 ∈ wG := wG_of 484 (by decide +kernel) (by decide +kernel)
theorem wd_485 : Cond.methodLink "MineAir$Judge" 30 (⟨"MineAir$Load", "<init>", "(LMineAir$Book;)V"⟩ : MethodName) ∈ wG := wG_of 485 (by decide +kernel) (by decide +kernel)
theorem wd_486 : Cond.instanceMethod (⟨"MineAir$Load", "<init>", "(LMineAir$Book;)V"⟩ : MethodName) ∈ wG := wG_of 486 (by decide +kernel) (by decide +kernel)
theorem wd_487 : Cond.code (⟨"MineAir$Load", "<init>", "(LMineAir$Book;)V"⟩ : MethodName) prog_7_method_1_code 2 (Option.none : Option Jvm.ClassFile.FieldType) ∈ wG := wG_of 487 (by decide +kernel) (by decide +kernel)
theorem wd_488 : Cond.methodLink "MineAir$Load" 3 (⟨"java/lang/Object", "<init>", "()V"⟩ : MethodName) ∈ wG := wG_of 488 (by decide +kernel) (by decide +kernel)
theorem wd_489 : Cond.fieldLink "MineAir$Load" 9 "MineAir$Load" "gas" "[I" ∈ wG := wG_of 489 (by decide +kernel) (by decide +kernel)
theorem wd_495 : Cond.fieldLink "MineAir$Load" 24 "MineAir$Load" "book" "LMineAir$Book;" ∈ wG := wG_of 495 (by decide +kernel) (by decide +kernel)
theorem wd_496 : Cond.fieldLink "MineAir$Load" 15 "MineAir$Load" "coming" "[I" ∈ wG := wG_of 496 (by decide +kernel) (by decide +kernel)
theorem wd_497 : Cond.fieldLink "MineAir$Load" 18 "MineAir$Load" "waiting" "[I" ∈ wG := wG_of 497 (by decide +kernel) (by decide +kernel)
theorem wd_498 : Cond.fieldLink "MineAir$Load" 21 "MineAir$Load" "rest" "[I" ∈ wG := wG_of 498 (by decide +kernel) (by decide +kernel)
theorem wd_512 : Cond.fieldLink "MineAir$Judge" 24 "MineAir$Judge" "flow" "LMineAir$Flow;" ∈ wG := wG_of 512 (by decide +kernel) (by decide +kernel)
theorem wd_515 : Cond.fieldLink "MineAir$Judge" 33 "MineAir$Judge" "load" "LMineAir$Load;" ∈ wG := wG_of 515 (by decide +kernel) (by decide +kernel)
theorem wd_517 : Cond.fieldLink "MineAir$Judge" 9 "MineAir$Judge" "book" "LMineAir$Book;" ∈ wG := wG_of 517 (by decide +kernel) (by decide +kernel)
theorem wd_518 : Cond.fieldLink "MineAir$Judge" 15 "MineAir$Judge" "state" "LMineAir$State;" ∈ wG := wG_of 518 (by decide +kernel) (by decide +kernel)
theorem wd_539 : Cond.methodLink "MineAir$Trials" 3 (⟨"java/lang/Object", "<init>", "()V"⟩ : MethodName) ∈ wG := wG_of 539 (by decide +kernel) (by decide +kernel)
theorem wd_543 : Cond.fieldLink "MineAir$Trials" 18 "MineAir$Trials" "book" "LMineAir$Book;" ∈ wG := wG_of 543 (by decide +kernel) (by decide +kernel)
theorem wd_544 : Cond.fieldLink "MineAir$Trials" 22 "MineAir$Trials" "state" "LMineAir$State;" ∈ wG := wG_of 544 (by decide +kernel) (by decide +kernel)
theorem wd_545 : Cond.fieldLink "MineAir$Trials" 26 "MineAir$Trials" "now" "LMineAir$Judge;" ∈ wG := wG_of 545 (by decide +kernel) (by decide +kernel)
theorem wd_546 : Cond.fieldLink "MineAir$Trials" 30 "MineAir$Trials" "trial" "LMineAir$Judge;" ∈ wG := wG_of 546 (by decide +kernel) (by decide +kernel)
theorem wd_547 : Cond.fieldLink "MineAir$Trials" 11 "MineAir$Trials" "ranks" "[I" ∈ wG := wG_of 547 (by decide +kernel) (by decide +kernel)
theorem wd_548 : Cond.fieldLink "MineAir$Trials" 15 "MineAir$Trials" "keptSpeed" "[I" ∈ wG := wG_of 548 (by decide +kernel) (by decide +kernel)
theorem wd_571 : Cond.methodLink "MineAir$Plan" 3 (⟨"java/lang/Object", "<init>", "()V"⟩ : MethodName) ∈ wG := wG_of 571 (by decide +kernel) (by decide +kernel)
theorem wd_574 : Cond.fieldLink "MineAir$Plan" 9 "MineAir$Plan" "order" "[I" ∈ wG := wG_of 574 (by decide +kernel) (by decide +kernel)
theorem wd_576 : Cond.fieldLink "MineAir$Plan" 27 "MineAir$Plan" "state" "LMineAir$State;" ∈ wG := wG_of 576 (by decide +kernel) (by decide +kernel)
theorem wd_577 : Cond.fieldLink "MineAir$Plan" 31 "MineAir$Plan" "now" "LMineAir$Judge;" ∈ wG := wG_of 577 (by decide +kernel) (by decide +kernel)
theorem wd_578 : Cond.fieldLink "MineAir$Plan" 35 "MineAir$Plan" "trial" "LMineAir$Judge;" ∈ wG := wG_of 578 (by decide +kernel) (by decide +kernel)
theorem wd_579 : Cond.fieldLink "MineAir$Plan" 15 "MineAir$Plan" "kind" "[I" ∈ wG := wG_of 579 (by decide +kernel) (by decide +kernel)
theorem wd_580 : Cond.fieldLink "MineAir$Plan" 18 "MineAir$Plan" "which" "[I" ∈ wG := wG_of 580 (by decide +kernel) (by decide +kernel)
theorem wd_581 : Cond.fieldLink "MineAir$Plan" 21 "MineAir$Plan" "value" "[I" ∈ wG := wG_of 581 (by decide +kernel) (by decide +kernel)
theorem wd_582 : Cond.fieldLink "MineAir$Plan" 24 "MineAir$Plan" "soundBy" "[I" ∈ wG := wG_of 582 (by decide +kernel) (by decide +kernel)
theorem wd_613 : Cond.methodLink "MineAir$Flight" 3 (⟨"java/lang/Object", "<init>", "()V"⟩ : MethodName) ∈ wG := wG_of 613 (by decide +kernel) (by decide +kernel)
theorem wd_615 : Cond.fieldLink "MineAir$Flight" 9 "MineAir$Flight" "knotOf" "[I" ∈ wG := wG_of 615 (by decide +kernel) (by decide +kernel)
theorem wd_617 : Cond.fieldLink "MineAir$Flight" 15 "MineAir$Flight" "smokeAt" "[I" ∈ wG := wG_of 617 (by decide +kernel) (by decide +kernel)
theorem wd_619 : Cond.fieldLink "MineAir$Flight" 18 "MineAir$Flight" "reach" "[I" ∈ wG := wG_of 619 (by decide +kernel) (by decide +kernel)
theorem wd_621 : Cond.fieldLink "MineAir$Flight" 21 "MineAir$Flight" "route" "[I" ∈ wG := wG_of 621 (by decide +kernel) (by decide +kernel)
theorem wd_623 : Cond.fieldLink "MineAir$Flight" 27 "MineAir$Flight" "book" "LMineAir$Book;" ∈ wG := wG_of 623 (by decide +kernel) (by decide +kernel)
theorem wd_624 : Cond.fieldLink "MineAir$Flight" 31 "MineAir$Flight" "state" "LMineAir$State;" ∈ wG := wG_of 624 (by decide +kernel) (by decide +kernel)
theorem wd_625 : Cond.fieldLink "MineAir$Flight" 24 "MineAir$Flight" "smokeIn" "[I" ∈ wG := wG_of 625 (by decide +kernel) (by decide +kernel)
theorem wd_648 : Cond.methodLink "MineAir$Readings" 3 (⟨"java/lang/Object", "<init>", "()V"⟩ : MethodName) ∈ wG := wG_of 648 (by decide +kernel) (by decide +kernel)
theorem wd_651 : Cond.fieldLink "MineAir$Readings" 9 "MineAir$Readings" "way" "[I" ∈ wG := wG_of 651 (by decide +kernel) (by decide +kernel)
theorem wd_652 : Cond.fieldLink "MineAir$Readings" 15 "MineAir$Readings" "low" "[I" ∈ wG := wG_of 652 (by decide +kernel) (by decide +kernel)
theorem wd_653 : Cond.fieldLink "MineAir$Readings" 18 "MineAir$Readings" "high" "[I" ∈ wG := wG_of 653 (by decide +kernel) (by decide +kernel)
theorem wd_667 : Cond.methodLink "MineAir$State" 29 (⟨"java/util/Arrays", "fill", "([II)V"⟩ : MethodName) ∈ wG := wG_of 667 (by decide +kernel) (by decide +kernel)
theorem dX0_init_0 : decode cX0_init 0 = .ok (.aload_n 0, 1) := by decide +kernel
theorem dX0_init_1 : decode cX0_init 1 = .ok (.invokespecial 3, 3) := by decide +kernel
theorem dX0_init_4 : decode cX0_init 4 = .ok (.aload_n 0, 1) := by decide +kernel
theorem dX0_init_5 : decode cX0_init 5 = .ok (.bipush 14, 2) := by decide +kernel
theorem dX0_init_7 : decode cX0_init 7 = .ok (.newarray .int, 2) := by decide +kernel
theorem dX0_init_9 : decode cX0_init 9 = .ok (.putfield 9, 3) := by decide +kernel
theorem dX0_init_12 : decode cX0_init 12 = .ok (.aload_n 0, 1) := by decide +kernel
theorem dX0_init_13 : decode cX0_init 13 = .ok (.bipush 14, 2) := by decide +kernel
theorem dX0_init_15 : decode cX0_init 15 = .ok (.newarray .int, 2) := by decide +kernel
theorem dX0_init_17 : decode cX0_init 17 = .ok (.putfield 15, 3) := by decide +kernel
theorem dX0_init_20 : decode cX0_init 20 = .ok (.aload_n 0, 1) := by decide +kernel
theorem dX0_init_21 : decode cX0_init 21 = .ok (.bipush 14, 2) := by decide +kernel
theorem dX0_init_23 : decode cX0_init 23 = .ok (.newarray .int, 2) := by decide +kernel
theorem dX0_init_25 : decode cX0_init 25 = .ok (.putfield 18, 3) := by decide +kernel
theorem dX0_init_28 : decode cX0_init 28 = .ok (.aload_n 0, 1) := by decide +kernel
theorem dX0_init_29 : decode cX0_init 29 = .ok (.bipush 14, 2) := by decide +kernel
theorem dX0_init_31 : decode cX0_init 31 = .ok (.newarray .int, 2) := by decide +kernel
theorem dX0_init_33 : decode cX0_init 33 = .ok (.putfield 21, 3) := by decide +kernel
theorem dX0_init_36 : decode cX0_init 36 = .ok (.aload_n 0, 1) := by decide +kernel
theorem dX0_init_37 : decode cX0_init 37 = .ok (.bipush 14, 2) := by decide +kernel
theorem dX0_init_39 : decode cX0_init 39 = .ok (.newarray .int, 2) := by decide +kernel
theorem dX0_init_41 : decode cX0_init 41 = .ok (.putfield 24, 3) := by decide +kernel
theorem dX0_init_44 : decode cX0_init 44 = .ok (.aload_n 0, 1) := by decide +kernel
theorem dX0_init_45 : decode cX0_init 45 = .ok (.bipush 14, 2) := by decide +kernel
theorem dX0_init_47 : decode cX0_init 47 = .ok (.newarray .int, 2) := by decide +kernel
theorem dX0_init_49 : decode cX0_init 49 = .ok (.putfield 27, 3) := by decide +kernel
theorem dX0_init_52 : decode cX0_init 52 = .ok (.aload_n 0, 1) := by decide +kernel
theorem dX0_init_53 : decode cX0_init 53 = .ok (.bipush 14, 2) := by decide +kernel
theorem dX0_init_55 : decode cX0_init 55 = .ok (.newarray .int, 2) := by decide +kernel
theorem dX0_init_57 : decode cX0_init 57 = .ok (.putfield 30, 3) := by decide +kernel
theorem dX0_init_60 : decode cX0_init 60 = .ok (.aload_n 0, 1) := by decide +kernel
theorem dX0_init_61 : decode cX0_init 61 = .ok (.bipush 14, 2) := by decide +kernel
theorem dX0_init_63 : decode cX0_init 63 = .ok (.newarray .int, 2) := by decide +kernel
theorem dX0_init_65 : decode cX0_init 65 = .ok (.putfield 33, 3) := by decide +kernel
theorem dX0_init_68 : decode cX0_init 68 = .ok (.aload_n 0, 1) := by decide +kernel
theorem dX0_init_69 : decode cX0_init 69 = .ok (.bipush 14, 2) := by decide +kernel
theorem dX0_init_71 : decode cX0_init 71 = .ok (.newarray .int, 2) := by decide +kernel
theorem dX0_init_73 : decode cX0_init 73 = .ok (.putfield 36, 3) := by decide +kernel
theorem dX0_init_76 : decode cX0_init 76 = .ok (.aload_n 0, 1) := by decide +kernel
theorem dX0_init_77 : decode cX0_init 77 = .ok (.iconst (-1), 1) := by decide +kernel
theorem dX0_init_78 : decode cX0_init 78 = .ok (.putfield 39, 3) := by decide +kernel
theorem dX0_init_81 : decode cX0_init 81 = .ok (.aload_n 0, 1) := by decide +kernel
theorem dX0_init_82 : decode cX0_init 82 = .ok (.new 43, 3) := by decide +kernel
theorem dX0_init_85 : decode cX0_init 85 = .ok (.dup, 1) := by decide +kernel
theorem dX0_init_86 : decode cX0_init 86 = .ok (.invokespecial 45, 3) := by decide +kernel
theorem dX0_init_89 : decode cX0_init 89 = .ok (.putfield 46, 3) := by decide +kernel
theorem dX0_init_92 : decode cX0_init 92 = .ok (.return_, 1) := by decide +kernel
theorem dX10_init_0 : decode cX10_init 0 = .ok (.aload_n 0, 1) := by decide +kernel
theorem dX10_init_1 : decode cX10_init 1 = .ok (.invokespecial 3, 3) := by decide +kernel
theorem dX10_init_4 : decode cX10_init 4 = .ok (.aload_n 0, 1) := by decide +kernel
theorem dX10_init_5 : decode cX10_init 5 = .ok (.sipush 256, 3) := by decide +kernel
theorem dX10_init_8 : decode cX10_init 8 = .ok (.newarray .int, 2) := by decide +kernel
theorem dX10_init_10 : decode cX10_init 10 = .ok (.putfield 11, 3) := by decide +kernel
theorem dX10_init_13 : decode cX10_init 13 = .ok (.aload_n 0, 1) := by decide +kernel
theorem dX10_init_14 : decode cX10_init 14 = .ok (.iconst 4, 1) := by decide +kernel
theorem dX10_init_15 : decode cX10_init 15 = .ok (.newarray .int, 2) := by decide +kernel
theorem dX10_init_17 : decode cX10_init 17 = .ok (.putfield 15, 3) := by decide +kernel
theorem dX10_init_20 : decode cX10_init 20 = .ok (.aload_n 0, 1) := by decide +kernel
theorem dX10_init_21 : decode cX10_init 21 = .ok (.aload_n 1, 1) := by decide +kernel
theorem dX10_init_22 : decode cX10_init 22 = .ok (.putfield 18, 3) := by decide +kernel
theorem dX10_init_25 : decode cX10_init 25 = .ok (.aload_n 0, 1) := by decide +kernel
theorem dX10_init_26 : decode cX10_init 26 = .ok (.aload_n 2, 1) := by decide +kernel
theorem dX10_init_27 : decode cX10_init 27 = .ok (.putfield 22, 3) := by decide +kernel
theorem dX10_init_30 : decode cX10_init 30 = .ok (.aload_n 0, 1) := by decide +kernel
theorem dX10_init_31 : decode cX10_init 31 = .ok (.aload_n 3, 1) := by decide +kernel
theorem dX10_init_32 : decode cX10_init 32 = .ok (.putfield 26, 3) := by decide +kernel
theorem dX10_init_35 : decode cX10_init 35 = .ok (.aload_n 0, 1) := by decide +kernel
theorem dX10_init_36 : decode cX10_init 36 = .ok (.aload 4, 2) := by decide +kernel
theorem dX10_init_38 : decode cX10_init 38 = .ok (.putfield 30, 3) := by decide +kernel
theorem dX10_init_41 : decode cX10_init 41 = .ok (.return_, 1) := by decide +kernel
theorem dX1_init_0 : decode cX1_init 0 = .ok (.aload_n 0, 1) := by decide +kernel
theorem dX1_init_1 : decode cX1_init 1 = .ok (.invokespecial 3, 3) := by decide +kernel
theorem dX1_init_4 : decode cX1_init 4 = .ok (.aload_n 0, 1) := by decide +kernel
theorem dX1_init_5 : decode cX1_init 5 = .ok (.bipush 20, 2) := by decide +kernel
theorem dX1_init_7 : decode cX1_init 7 = .ok (.newarray .int, 2) := by decide +kernel
theorem dX1_init_9 : decode cX1_init 9 = .ok (.putfield 9, 3) := by decide +kernel
theorem dX1_init_12 : decode cX1_init 12 = .ok (.aload_n 0, 1) := by decide +kernel
theorem dX1_init_13 : decode cX1_init 13 = .ok (.bipush 14, 2) := by decide +kernel
theorem dX1_init_15 : decode cX1_init 15 = .ok (.newarray .int, 2) := by decide +kernel
theorem dX1_init_17 : decode cX1_init 17 = .ok (.putfield 15, 3) := by decide +kernel
theorem dX1_init_20 : decode cX1_init 20 = .ok (.aload_n 0, 1) := by decide +kernel
theorem dX1_init_21 : decode cX1_init 21 = .ok (.bipush 10, 2) := by decide +kernel
theorem dX1_init_23 : decode cX1_init 23 = .ok (.newarray .int, 2) := by decide +kernel
theorem dX1_init_25 : decode cX1_init 25 = .ok (.putfield 18, 3) := by decide +kernel
theorem dX1_init_28 : decode cX1_init 28 = .ok (.aload_n 0, 1) := by decide +kernel
theorem dX1_init_29 : decode cX1_init 29 = .ok (.bipush 11, 2) := by decide +kernel
theorem dX1_init_31 : decode cX1_init 31 = .ok (.newarray .int, 2) := by decide +kernel
theorem dX1_init_33 : decode cX1_init 33 = .ok (.putfield 21, 3) := by decide +kernel
theorem dX1_init_36 : decode cX1_init 36 = .ok (.aload_n 0, 1) := by decide +kernel
theorem dX1_init_37 : decode cX1_init 37 = .ok (.bipush 10, 2) := by decide +kernel
theorem dX1_init_39 : decode cX1_init 39 = .ok (.newarray .int, 2) := by decide +kernel
theorem dX1_init_41 : decode cX1_init 41 = .ok (.putfield 24, 3) := by decide +kernel
theorem dX1_init_44 : decode cX1_init 44 = .ok (.aload_n 0, 1) := by decide +kernel
theorem dX1_init_45 : decode cX1_init 45 = .ok (.aload_n 1, 1) := by decide +kernel
theorem dX1_init_46 : decode cX1_init 46 = .ok (.putfield 27, 3) := by decide +kernel
theorem dX1_init_49 : decode cX1_init 49 = .ok (.aload_n 0, 1) := by decide +kernel
theorem dX1_init_50 : decode cX1_init 50 = .ok (.aload_n 2, 1) := by decide +kernel
theorem dX1_init_51 : decode cX1_init 51 = .ok (.putfield 31, 3) := by decide +kernel
theorem dX1_init_54 : decode cX1_init 54 = .ok (.return_, 1) := by decide +kernel
theorem dX2_init_0 : decode cX2_init 0 = .ok (.aload_n 0, 1) := by decide +kernel
theorem dX2_init_1 : decode cX2_init 1 = .ok (.invokespecial 3, 3) := by decide +kernel
theorem dX2_init_4 : decode cX2_init 4 = .ok (.aload_n 0, 1) := by decide +kernel
theorem dX2_init_5 : decode cX2_init 5 = .ok (.bipush 14, 2) := by decide +kernel
theorem dX2_init_7 : decode cX2_init 7 = .ok (.newarray .int, 2) := by decide +kernel
theorem dX2_init_9 : decode cX2_init 9 = .ok (.putfield 9, 3) := by decide +kernel
theorem dX2_init_12 : decode cX2_init 12 = .ok (.aload_n 0, 1) := by decide +kernel
theorem dX2_init_13 : decode cX2_init 13 = .ok (.bipush 14, 2) := by decide +kernel
theorem dX2_init_15 : decode cX2_init 15 = .ok (.newarray .long, 2) := by decide +kernel
theorem dX2_init_17 : decode cX2_init 17 = .ok (.putfield 15, 3) := by decide +kernel
theorem dX2_init_20 : decode cX2_init 20 = .ok (.aload_n 0, 1) := by decide +kernel
theorem dX2_init_21 : decode cX2_init 21 = .ok (.bipush 14, 2) := by decide +kernel
theorem dX2_init_23 : decode cX2_init 23 = .ok (.newarray .long, 2) := by decide +kernel
theorem dX2_init_25 : decode cX2_init 25 = .ok (.putfield 19, 3) := by decide +kernel
theorem dX2_init_28 : decode cX2_init 28 = .ok (.aload_n 0, 1) := by decide +kernel
theorem dX2_init_29 : decode cX2_init 29 = .ok (.bipush 14, 2) := by decide +kernel
theorem dX2_init_31 : decode cX2_init 31 = .ok (.newarray .long, 2) := by decide +kernel
theorem dX2_init_33 : decode cX2_init 33 = .ok (.putfield 22, 3) := by decide +kernel
theorem dX2_init_36 : decode cX2_init 36 = .ok (.aload_n 0, 1) := by decide +kernel
theorem dX2_init_37 : decode cX2_init 37 = .ok (.bipush 14, 2) := by decide +kernel
theorem dX2_init_39 : decode cX2_init 39 = .ok (.newarray .long, 2) := by decide +kernel
theorem dX2_init_41 : decode cX2_init 41 = .ok (.putfield 25, 3) := by decide +kernel
theorem dX2_init_44 : decode cX2_init 44 = .ok (.aload_n 0, 1) := by decide +kernel
theorem dX2_init_45 : decode cX2_init 45 = .ok (.bipush 14, 2) := by decide +kernel
theorem dX2_init_47 : decode cX2_init 47 = .ok (.newarray .long, 2) := by decide +kernel
theorem dX2_init_49 : decode cX2_init 49 = .ok (.putfield 28, 3) := by decide +kernel
theorem dX2_init_52 : decode cX2_init 52 = .ok (.aload_n 0, 1) := by decide +kernel
theorem dX2_init_53 : decode cX2_init 53 = .ok (.bipush 10, 2) := by decide +kernel
theorem dX2_init_55 : decode cX2_init 55 = .ok (.newarray .long, 2) := by decide +kernel
theorem dX2_init_57 : decode cX2_init 57 = .ok (.putfield 31, 3) := by decide +kernel
theorem dX2_init_60 : decode cX2_init 60 = .ok (.aload_n 0, 1) := by decide +kernel
theorem dX2_init_61 : decode cX2_init 61 = .ok (.bipush 10, 2) := by decide +kernel
theorem dX2_init_63 : decode cX2_init 63 = .ok (.newarray .int, 2) := by decide +kernel
theorem dX2_init_65 : decode cX2_init 65 = .ok (.putfield 34, 3) := by decide +kernel
theorem dX2_init_68 : decode cX2_init 68 = .ok (.aload_n 0, 1) := by decide +kernel
theorem dX2_init_69 : decode cX2_init 69 = .ok (.bipush 10, 2) := by decide +kernel
theorem dX2_init_71 : decode cX2_init 71 = .ok (.newarray .int, 2) := by decide +kernel
theorem dX2_init_73 : decode cX2_init 73 = .ok (.putfield 37, 3) := by decide +kernel
theorem dX2_init_76 : decode cX2_init 76 = .ok (.aload_n 0, 1) := by decide +kernel
theorem dX2_init_77 : decode cX2_init 77 = .ok (.bipush 10, 2) := by decide +kernel
theorem dX2_init_79 : decode cX2_init 79 = .ok (.newarray .int, 2) := by decide +kernel
theorem dX2_init_81 : decode cX2_init 81 = .ok (.putfield 40, 3) := by decide +kernel
theorem dX2_init_84 : decode cX2_init 84 = .ok (.aload_n 0, 1) := by decide +kernel
theorem dX2_init_85 : decode cX2_init 85 = .ok (.aload_n 1, 1) := by decide +kernel
theorem dX2_init_86 : decode cX2_init 86 = .ok (.putfield 43, 3) := by decide +kernel
theorem dX2_init_89 : decode cX2_init 89 = .ok (.aload_n 0, 1) := by decide +kernel
theorem dX2_init_90 : decode cX2_init 90 = .ok (.aload_n 2, 1) := by decide +kernel
theorem dX2_init_91 : decode cX2_init 91 = .ok (.putfield 47, 3) := by decide +kernel
theorem dX2_init_94 : decode cX2_init 94 = .ok (.return_, 1) := by decide +kernel
theorem dX3_init_0 : decode cX3_init 0 = .ok (.aload_n 0, 1) := by decide +kernel
theorem dX3_init_1 : decode cX3_init 1 = .ok (.invokespecial 3, 3) := by decide +kernel
theorem dX3_init_4 : decode cX3_init 4 = .ok (.aload_n 0, 1) := by decide +kernel
theorem dX3_init_5 : decode cX3_init 5 = .ok (.bipush 6, 2) := by decide +kernel
theorem dX3_init_7 : decode cX3_init 7 = .ok (.newarray .int, 2) := by decide +kernel
theorem dX3_init_9 : decode cX3_init 9 = .ok (.putfield 9, 3) := by decide +kernel
theorem dX3_init_12 : decode cX3_init 12 = .ok (.aload_n 0, 1) := by decide +kernel
theorem dX3_init_13 : decode cX3_init 13 = .ok (.iconst 3, 1) := by decide +kernel
theorem dX3_init_14 : decode cX3_init 14 = .ok (.newarray .int, 2) := by decide +kernel
theorem dX3_init_16 : decode cX3_init 16 = .ok (.putfield 15, 3) := by decide +kernel
theorem dX3_init_19 : decode cX3_init 19 = .ok (.aload_n 0, 1) := by decide +kernel
theorem dX3_init_20 : decode cX3_init 20 = .ok (.iconst 3, 1) := by decide +kernel
theorem dX3_init_21 : decode cX3_init 21 = .ok (.newarray .int, 2) := by decide +kernel
theorem dX3_init_23 : decode cX3_init 23 = .ok (.putfield 18, 3) := by decide +kernel
theorem dX3_init_26 : decode cX3_init 26 = .ok (.aload_n 0, 1) := by decide +kernel
theorem dX3_init_27 : decode cX3_init 27 = .ok (.iconst 4, 1) := by decide +kernel
theorem dX3_init_28 : decode cX3_init 28 = .ok (.newarray .int, 2) := by decide +kernel
theorem dX3_init_30 : decode cX3_init 30 = .ok (.putfield 21, 3) := by decide +kernel
theorem dX3_init_33 : decode cX3_init 33 = .ok (.aload_n 0, 1) := by decide +kernel
theorem dX3_init_34 : decode cX3_init 34 = .ok (.iconst 4, 1) := by decide +kernel
theorem dX3_init_35 : decode cX3_init 35 = .ok (.newarray .int, 2) := by decide +kernel
theorem dX3_init_37 : decode cX3_init 37 = .ok (.putfield 24, 3) := by decide +kernel
theorem dX3_init_40 : decode cX3_init 40 = .ok (.aload_n 0, 1) := by decide +kernel
theorem dX3_init_41 : decode cX3_init 41 = .ok (.iconst 4, 1) := by decide +kernel
theorem dX3_init_42 : decode cX3_init 42 = .ok (.newarray .int, 2) := by decide +kernel
theorem dX3_init_44 : decode cX3_init 44 = .ok (.putfield 27, 3) := by decide +kernel
theorem dX3_init_47 : decode cX3_init 47 = .ok (.aload_n 0, 1) := by decide +kernel
theorem dX3_init_48 : decode cX3_init 48 = .ok (.iconst 4, 1) := by decide +kernel
theorem dX3_init_49 : decode cX3_init 49 = .ok (.newarray .int, 2) := by decide +kernel
theorem dX3_init_51 : decode cX3_init 51 = .ok (.putfield 30, 3) := by decide +kernel
theorem dX3_init_54 : decode cX3_init 54 = .ok (.aload_n 0, 1) := by decide +kernel
theorem dX3_init_55 : decode cX3_init 55 = .ok (.iconst 4, 1) := by decide +kernel
theorem dX3_init_56 : decode cX3_init 56 = .ok (.newarray .int, 2) := by decide +kernel
theorem dX3_init_58 : decode cX3_init 58 = .ok (.putfield 33, 3) := by decide +kernel
theorem dX3_init_61 : decode cX3_init 61 = .ok (.aload_n 0, 1) := by decide +kernel
theorem dX3_init_62 : decode cX3_init 62 = .ok (.iconst 4, 1) := by decide +kernel
theorem dX3_init_63 : decode cX3_init 63 = .ok (.newarray .int, 2) := by decide +kernel
theorem dX3_init_65 : decode cX3_init 65 = .ok (.putfield 36, 3) := by decide +kernel
theorem dX3_init_68 : decode cX3_init 68 = .ok (.return_, 1) := by decide +kernel
theorem dX4_init_0 : decode cX4_init 0 = .ok (.aload_n 0, 1) := by decide +kernel
theorem dX4_init_1 : decode cX4_init 1 = .ok (.invokespecial 3, 3) := by decide +kernel
theorem dX4_init_4 : decode cX4_init 4 = .ok (.aload_n 0, 1) := by decide +kernel
theorem dX4_init_5 : decode cX4_init 5 = .ok (.aload_n 1, 1) := by decide +kernel
theorem dX4_init_6 : decode cX4_init 6 = .ok (.putfield 9, 3) := by decide +kernel
theorem dX4_init_9 : decode cX4_init 9 = .ok (.aload_n 0, 1) := by decide +kernel
theorem dX4_init_10 : decode cX4_init 10 = .ok (.aload_n 2, 1) := by decide +kernel
theorem dX4_init_11 : decode cX4_init 11 = .ok (.putfield 15, 3) := by decide +kernel
theorem dX4_init_14 : decode cX4_init 14 = .ok (.aload_n 0, 1) := by decide +kernel
theorem dX4_init_15 : decode cX4_init 15 = .ok (.new 19, 3) := by decide +kernel
theorem dX4_init_18 : decode cX4_init 18 = .ok (.dup, 1) := by decide +kernel
theorem dX4_init_19 : decode cX4_init 19 = .ok (.aload_n 1, 1) := by decide +kernel
theorem dX4_init_20 : decode cX4_init 20 = .ok (.aload_n 2, 1) := by decide +kernel
theorem dX4_init_21 : decode cX4_init 21 = .ok (.invokespecial 21, 3) := by decide +kernel
theorem dX4_init_24 : decode cX4_init 24 = .ok (.putfield 24, 3) := by decide +kernel
theorem dX4_init_27 : decode cX4_init 27 = .ok (.aload_n 0, 1) := by decide +kernel
theorem dX4_init_28 : decode cX4_init 28 = .ok (.new 28, 3) := by decide +kernel
theorem dX4_init_31 : decode cX4_init 31 = .ok (.dup, 1) := by decide +kernel
theorem dX4_init_32 : decode cX4_init 32 = .ok (.aload_n 1, 1) := by decide +kernel
theorem dX4_init_33 : decode cX4_init 33 = .ok (.invokespecial 30, 3) := by decide +kernel
theorem dX4_init_36 : decode cX4_init 36 = .ok (.putfield 33, 3) := by decide +kernel
theorem dX4_init_39 : decode cX4_init 39 = .ok (.return_, 1) := by decide +kernel
theorem dX5_init_0 : decode cX5_init 0 = .ok (.aload_n 0, 1) := by decide +kernel
theorem dX5_init_1 : decode cX5_init 1 = .ok (.invokespecial 3, 3) := by decide +kernel
theorem dX5_init_4 : decode cX5_init 4 = .ok (.aload_n 0, 1) := by decide +kernel
theorem dX5_init_5 : decode cX5_init 5 = .ok (.bipush 14, 2) := by decide +kernel
theorem dX5_init_7 : decode cX5_init 7 = .ok (.newarray .int, 2) := by decide +kernel
theorem dX5_init_9 : decode cX5_init 9 = .ok (.putfield 9, 3) := by decide +kernel
theorem dX5_init_12 : decode cX5_init 12 = .ok (.aload_n 0, 1) := by decide +kernel
theorem dX5_init_13 : decode cX5_init 13 = .ok (.bipush 10, 2) := by decide +kernel
theorem dX5_init_15 : decode cX5_init 15 = .ok (.newarray .int, 2) := by decide +kernel
theorem dX5_init_17 : decode cX5_init 17 = .ok (.putfield 15, 3) := by decide +kernel
theorem dX5_init_20 : decode cX5_init 20 = .ok (.aload_n 0, 1) := by decide +kernel
theorem dX5_init_21 : decode cX5_init 21 = .ok (.bipush 10, 2) := by decide +kernel
theorem dX5_init_23 : decode cX5_init 23 = .ok (.newarray .int, 2) := by decide +kernel
theorem dX5_init_25 : decode cX5_init 25 = .ok (.putfield 18, 3) := by decide +kernel
theorem dX5_init_28 : decode cX5_init 28 = .ok (.aload_n 0, 1) := by decide +kernel
theorem dX5_init_29 : decode cX5_init 29 = .ok (.bipush 14, 2) := by decide +kernel
theorem dX5_init_31 : decode cX5_init 31 = .ok (.newarray .int, 2) := by decide +kernel
theorem dX5_init_33 : decode cX5_init 33 = .ok (.putfield 21, 3) := by decide +kernel
theorem dX5_init_36 : decode cX5_init 36 = .ok (.aload_n 0, 1) := by decide +kernel
theorem dX5_init_37 : decode cX5_init 37 = .ok (.aload_n 1, 1) := by decide +kernel
theorem dX5_init_38 : decode cX5_init 38 = .ok (.putfield 24, 3) := by decide +kernel
theorem dX5_init_41 : decode cX5_init 41 = .ok (.return_, 1) := by decide +kernel
theorem dX6_init_0 : decode cX6_init 0 = .ok (.aload_n 0, 1) := by decide +kernel
theorem dX6_init_1 : decode cX6_init 1 = .ok (.invokespecial 3, 3) := by decide +kernel
theorem dX6_init_4 : decode cX6_init 4 = .ok (.aload_n 0, 1) := by decide +kernel
theorem dX6_init_5 : decode cX6_init 5 = .ok (.iconst 5, 1) := by decide +kernel
theorem dX6_init_6 : decode cX6_init 6 = .ok (.newarray .int, 2) := by decide +kernel
theorem dX6_init_8 : decode cX6_init 8 = .ok (.putfield 9, 3) := by decide +kernel
theorem dX6_init_11 : decode cX6_init 11 = .ok (.aload_n 0, 1) := by decide +kernel
theorem dX6_init_12 : decode cX6_init 12 = .ok (.iconst 5, 1) := by decide +kernel
theorem dX6_init_13 : decode cX6_init 13 = .ok (.newarray .int, 2) := by decide +kernel
theorem dX6_init_15 : decode cX6_init 15 = .ok (.putfield 15, 3) := by decide +kernel
theorem dX6_init_18 : decode cX6_init 18 = .ok (.aload_n 0, 1) := by decide +kernel
theorem dX6_init_19 : decode cX6_init 19 = .ok (.iconst 5, 1) := by decide +kernel
theorem dX6_init_20 : decode cX6_init 20 = .ok (.newarray .int, 2) := by decide +kernel
theorem dX6_init_22 : decode cX6_init 22 = .ok (.putfield 18, 3) := by decide +kernel
theorem dX6_init_25 : decode cX6_init 25 = .ok (.aload_n 0, 1) := by decide +kernel
theorem dX6_init_26 : decode cX6_init 26 = .ok (.iconst 5, 1) := by decide +kernel
theorem dX6_init_27 : decode cX6_init 27 = .ok (.newarray .int, 2) := by decide +kernel
theorem dX6_init_29 : decode cX6_init 29 = .ok (.putfield 21, 3) := by decide +kernel
theorem dX6_init_32 : decode cX6_init 32 = .ok (.aload_n 0, 1) := by decide +kernel
theorem dX6_init_33 : decode cX6_init 33 = .ok (.bipush 32, 2) := by decide +kernel
theorem dX6_init_35 : decode cX6_init 35 = .ok (.newarray .int, 2) := by decide +kernel
theorem dX6_init_37 : decode cX6_init 37 = .ok (.putfield 24, 3) := by decide +kernel
theorem dX6_init_40 : decode cX6_init 40 = .ok (.aload_n 0, 1) := by decide +kernel
theorem dX6_init_41 : decode cX6_init 41 = .ok (.aload_n 1, 1) := by decide +kernel
theorem dX6_init_42 : decode cX6_init 42 = .ok (.putfield 27, 3) := by decide +kernel
theorem dX6_init_45 : decode cX6_init 45 = .ok (.aload_n 0, 1) := by decide +kernel
theorem dX6_init_46 : decode cX6_init 46 = .ok (.aload_n 2, 1) := by decide +kernel
theorem dX6_init_47 : decode cX6_init 47 = .ok (.putfield 31, 3) := by decide +kernel
theorem dX6_init_50 : decode cX6_init 50 = .ok (.aload_n 0, 1) := by decide +kernel
theorem dX6_init_51 : decode cX6_init 51 = .ok (.aload_n 3, 1) := by decide +kernel
theorem dX6_init_52 : decode cX6_init 52 = .ok (.putfield 35, 3) := by decide +kernel
theorem dX6_init_55 : decode cX6_init 55 = .ok (.return_, 1) := by decide +kernel
theorem dX7_init_0 : decode cX7_init 0 = .ok (.aload_n 0, 1) := by decide +kernel
theorem dX7_init_1 : decode cX7_init 1 = .ok (.invokespecial 3, 3) := by decide +kernel
theorem dX7_init_4 : decode cX7_init 4 = .ok (.aload_n 0, 1) := by decide +kernel
theorem dX7_init_5 : decode cX7_init 5 = .ok (.sipush 600, 3) := by decide +kernel
theorem dX7_init_8 : decode cX7_init 8 = .ok (.newarray .int, 2) := by decide +kernel
theorem dX7_init_10 : decode cX7_init 10 = .ok (.putfield 9, 3) := by decide +kernel
theorem dX7_init_13 : decode cX7_init 13 = .ok (.aload_n 0, 1) := by decide +kernel
theorem dX7_init_14 : decode cX7_init 14 = .ok (.bipush 28, 2) := by decide +kernel
theorem dX7_init_16 : decode cX7_init 16 = .ok (.newarray .long, 2) := by decide +kernel
theorem dX7_init_18 : decode cX7_init 18 = .ok (.putfield 15, 3) := by decide +kernel
theorem dX7_init_21 : decode cX7_init 21 = .ok (.aload_n 0, 1) := by decide +kernel
theorem dX7_init_22 : decode cX7_init 22 = .ok (.bipush 28, 2) := by decide +kernel
theorem dX7_init_24 : decode cX7_init 24 = .ok (.newarray .int, 2) := by decide +kernel
theorem dX7_init_26 : decode cX7_init 26 = .ok (.putfield 19, 3) := by decide +kernel
theorem dX7_init_29 : decode cX7_init 29 = .ok (.aload_n 0, 1) := by decide +kernel
theorem dX7_init_30 : decode cX7_init 30 = .ok (.bipush 28, 2) := by decide +kernel
theorem dX7_init_32 : decode cX7_init 32 = .ok (.newarray .int, 2) := by decide +kernel
theorem dX7_init_34 : decode cX7_init 34 = .ok (.putfield 22, 3) := by decide +kernel
theorem dX7_init_37 : decode cX7_init 37 = .ok (.aload_n 0, 1) := by decide +kernel
theorem dX7_init_38 : decode cX7_init 38 = .ok (.bipush 10, 2) := by decide +kernel
theorem dX7_init_40 : decode cX7_init 40 = .ok (.newarray .long, 2) := by decide +kernel
theorem dX7_init_42 : decode cX7_init 42 = .ok (.putfield 25, 3) := by decide +kernel
theorem dX7_init_45 : decode cX7_init 45 = .ok (.aload_n 0, 1) := by decide +kernel
theorem dX7_init_46 : decode cX7_init 46 = .ok (.aload_n 1, 1) := by decide +kernel
theorem dX7_init_47 : decode cX7_init 47 = .ok (.putfield 28, 3) := by decide +kernel
theorem dX7_init_50 : decode cX7_init 50 = .ok (.return_, 1) := by decide +kernel
theorem dX8_init_0 : decode cX8_init 0 = .ok (.aload_n 0, 1) := by decide +kernel
theorem dX8_init_1 : decode cX8_init 1 = .ok (.invokespecial 3, 3) := by decide +kernel
theorem dX8_init_4 : decode cX8_init 4 = .ok (.aload_n 0, 1) := by decide +kernel
theorem dX8_init_5 : decode cX8_init 5 = .ok (.bipush 8, 2) := by decide +kernel
theorem dX8_init_7 : decode cX8_init 7 = .ok (.newarray .int, 2) := by decide +kernel
theorem dX8_init_9 : decode cX8_init 9 = .ok (.putfield 9, 3) := by decide +kernel
theorem dX8_init_12 : decode cX8_init 12 = .ok (.aload_n 0, 1) := by decide +kernel
theorem dX8_init_13 : decode cX8_init 13 = .ok (.bipush 8, 2) := by decide +kernel
theorem dX8_init_15 : decode cX8_init 15 = .ok (.newarray .int, 2) := by decide +kernel
theorem dX8_init_17 : decode cX8_init 17 = .ok (.putfield 15, 3) := by decide +kernel
theorem dX8_init_20 : decode cX8_init 20 = .ok (.aload_n 0, 1) := by decide +kernel
theorem dX8_init_21 : decode cX8_init 21 = .ok (.bipush 8, 2) := by decide +kernel
theorem dX8_init_23 : decode cX8_init 23 = .ok (.newarray .int, 2) := by decide +kernel
theorem dX8_init_25 : decode cX8_init 25 = .ok (.putfield 18, 3) := by decide +kernel
theorem dX8_init_28 : decode cX8_init 28 = .ok (.return_, 1) := by decide +kernel
theorem dX9_init_0 : decode cX9_init 0 = .ok (.aload_n 0, 1) := by decide +kernel
theorem dX9_init_1 : decode cX9_init 1 = .ok (.invokespecial 3, 3) := by decide +kernel
theorem dX9_init_4 : decode cX9_init 4 = .ok (.aload_n 0, 1) := by decide +kernel
theorem dX9_init_5 : decode cX9_init 5 = .ok (.bipush 6, 2) := by decide +kernel
theorem dX9_init_7 : decode cX9_init 7 = .ok (.newarray .boolean, 2) := by decide +kernel
theorem dX9_init_9 : decode cX9_init 9 = .ok (.putfield 9, 3) := by decide +kernel
theorem dX9_init_12 : decode cX9_init 12 = .ok (.aload_n 0, 1) := by decide +kernel
theorem dX9_init_13 : decode cX9_init 13 = .ok (.iconst 4, 1) := by decide +kernel
theorem dX9_init_14 : decode cX9_init 14 = .ok (.newarray .int, 2) := by decide +kernel
theorem dX9_init_16 : decode cX9_init 16 = .ok (.putfield 15, 3) := by decide +kernel
theorem dX9_init_19 : decode cX9_init 19 = .ok (.aload_n 0, 1) := by decide +kernel
theorem dX9_init_20 : decode cX9_init 20 = .ok (.bipush 14, 2) := by decide +kernel
theorem dX9_init_22 : decode cX9_init 22 = .ok (.newarray .boolean, 2) := by decide +kernel
theorem dX9_init_24 : decode cX9_init 24 = .ok (.putfield 19, 3) := by decide +kernel
theorem dX9_init_27 : decode cX9_init 27 = .ok (.aload_n 0, 1) := by decide +kernel
theorem dX9_init_28 : decode cX9_init 28 = .ok (.bipush 14, 2) := by decide +kernel
theorem dX9_init_30 : decode cX9_init 30 = .ok (.newarray .int, 2) := by decide +kernel
theorem dX9_init_32 : decode cX9_init 32 = .ok (.putfield 22, 3) := by decide +kernel
theorem dX9_init_35 : decode cX9_init 35 = .ok (.aload_n 0, 1) := by decide +kernel
theorem dX9_init_36 : decode cX9_init 36 = .ok (.aload_n 1, 1) := by decide +kernel
theorem dX9_init_37 : decode cX9_init 37 = .ok (.putfield 25, 3) := by decide +kernel
theorem dX9_init_40 : decode cX9_init 40 = .ok (.return_, 1) := by decide +kernel
theorem dX9_reset_0 : decode cX9_reset 0 = .ok (.iconst 0, 1) := by decide +kernel
theorem dX9_reset_1 : decode cX9_reset 1 = .ok (.istore_n 1, 1) := by decide +kernel
theorem dX9_reset_2 : decode cX9_reset 2 = .ok (.iload_n 1, 1) := by decide +kernel
theorem dX9_reset_3 : decode cX9_reset 3 = .ok (.bipush 6, 2) := by decide +kernel
theorem dX9_reset_5 : decode cX9_reset 5 = .ok (.if_icmp .ge 16, 3) := by decide +kernel
theorem dX9_reset_8 : decode cX9_reset 8 = .ok (.aload_n 0, 1) := by decide +kernel
theorem dX9_reset_9 : decode cX9_reset 9 = .ok (.getfield 9, 3) := by decide +kernel
theorem dX9_reset_12 : decode cX9_reset 12 = .ok (.iload_n 1, 1) := by decide +kernel
theorem dX9_reset_13 : decode cX9_reset 13 = .ok (.iconst 0, 1) := by decide +kernel
theorem dX9_reset_14 : decode cX9_reset 14 = .ok (.bastore, 1) := by decide +kernel
theorem dX9_reset_15 : decode cX9_reset 15 = .ok (.iinc 1 1, 3) := by decide +kernel
theorem dX9_reset_18 : decode cX9_reset 18 = .ok (.goto (-16), 3) := by decide +kernel
theorem dX9_reset_21 : decode cX9_reset 21 = .ok (.iconst 0, 1) := by decide +kernel
theorem dX9_reset_22 : decode cX9_reset 22 = .ok (.istore_n 1, 1) := by decide +kernel
theorem dX9_reset_23 : decode cX9_reset 23 = .ok (.iload_n 1, 1) := by decide +kernel
theorem dX9_reset_24 : decode cX9_reset 24 = .ok (.bipush 14, 2) := by decide +kernel
theorem dX9_reset_26 : decode cX9_reset 26 = .ok (.if_icmp .ge 16, 3) := by decide +kernel
theorem dX9_reset_29 : decode cX9_reset 29 = .ok (.aload_n 0, 1) := by decide +kernel
theorem dX9_reset_30 : decode cX9_reset 30 = .ok (.getfield 19, 3) := by decide +kernel
theorem dX9_reset_33 : decode cX9_reset 33 = .ok (.iload_n 1, 1) := by decide +kernel
theorem dX9_reset_34 : decode cX9_reset 34 = .ok (.iconst 0, 1) := by decide +kernel
theorem dX9_reset_35 : decode cX9_reset 35 = .ok (.bastore, 1) := by decide +kernel
theorem dX9_reset_36 : decode cX9_reset 36 = .ok (.iinc 1 1, 3) := by decide +kernel
theorem dX9_reset_39 : decode cX9_reset 39 = .ok (.goto (-16), 3) := by decide +kernel
theorem dX9_reset_42 : decode cX9_reset 42 = .ok (.aload_n 0, 1) := by decide +kernel
theorem dX9_reset_43 : decode cX9_reset 43 = .ok (.getfield 15, 3) := by decide +kernel
theorem dX9_reset_46 : decode cX9_reset 46 = .ok (.iconst 1, 1) := by decide +kernel
theorem dX9_reset_47 : decode cX9_reset 47 = .ok (.invokestatic 29, 3) := by decide +kernel
theorem dX9_reset_50 : decode cX9_reset 50 = .ok (.aload_n 0, 1) := by decide +kernel
theorem dX9_reset_51 : decode cX9_reset 51 = .ok (.getfield 22, 3) := by decide +kernel
theorem dX9_reset_54 : decode cX9_reset 54 = .ok (.iconst 0, 1) := by decide +kernel
theorem dX9_reset_55 : decode cX9_reset 55 = .ok (.invokestatic 29, 3) := by decide +kernel
theorem dX9_reset_58 : decode cX9_reset 58 = .ok (.aload_n 0, 1) := by decide +kernel
theorem dX9_reset_59 : decode cX9_reset 59 = .ok (.bipush 10, 2) := by decide +kernel
theorem dX9_reset_61 : decode cX9_reset 61 = .ok (.putfield 35, 3) := by decide +kernel
theorem dX9_reset_64 : decode cX9_reset 64 = .ok (.aload_n 0, 1) := by decide +kernel
theorem dX9_reset_65 : decode cX9_reset 65 = .ok (.iconst (-1), 1) := by decide +kernel
theorem dX9_reset_66 : decode cX9_reset 66 = .ok (.putfield 39, 3) := by decide +kernel
theorem dX9_reset_69 : decode cX9_reset 69 = .ok (.aload_n 0, 1) := by decide +kernel
theorem dX9_reset_70 : decode cX9_reset 70 = .ok (.iconst 0, 1) := by decide +kernel
theorem dX9_reset_71 : decode cX9_reset 71 = .ok (.putfield 42, 3) := by decide +kernel
theorem dX9_reset_74 : decode cX9_reset 74 = .ok (.return_, 1) := by decide +kernel
set_option maxHeartbeats 4000000 in
set_option maxRecDepth 100000 in
theorem n_Gear (l : Launch) (dC : Nat → ClassId) (dI : Nat → Nat → Nat) (n0 sz : Nat) (gr : Nat) : Met l yX3_init (wM yX3_init cX3_init 1 none) ({ frames := 1, cells := 9, slots := 36, locals := 12 }) (va_Pc [.ref gr] (fun U => U.heap.size = sz ∧ n0 ≤ sz ∧ GW n0 U ∧ va_P (dC, dI) classes [(gr, .inr (3, [.int 0, .null, .int 0, .null, .null, .int 0, .null, .null, .null, .int 0, .null, .null, .null]))] U.heap ∧ va_K (dC, dI) classes [] U ∧ va_D (fun q => n0 ≤ q) [(gr, .inr (3, [.int 0, .null, .int 0, .null, .null, .int 0, .null, .null, .null, .int 0, .null, .null, .null]))])) (va_Qv (fun _ : Unit => True) (fun (_ : Unit) (t : State) => ∃ (gr_doorBy : Nat), ∃ (gr_pairFirst : Nat), ∃ (gr_pairSecond : Nat), ∃ (gr_fanPush : Nat), ∃ (gr_fanFall : Nat), ∃ (gr_fanCost : Nat), ∃ (gr_faceWay : Nat), ∃ (gr_faceGas : Nat), ∃ (gr_faceNeed : Nat), va_P (dC, dI) classes [(gr, .inr (3, [.int 0, .ref gr_doorBy, .int 0, .ref gr_pairFirst, .ref gr_pairSecond, .int 0, .ref gr_fanPush, .ref gr_fanFall, .ref gr_fanCost, .int 0, .ref gr_faceWay, .ref gr_faceGas, .ref gr_faceNeed]))] t.heap ∧ va_K (dC, dI) classes [] t ∧ va_D (va_A [(gr, .inr (3, [.int 0, .null, .int 0, .null, .null, .int 0, .null, .null, .null, .int 0, .null, .null, .null]))] sz) [(gr, .inr (3, [.int 0, .ref gr_doorBy, .int 0, .ref gr_pairFirst, .ref gr_pairSecond, .int 0, .ref gr_fanPush, .ref gr_fanFall, .ref gr_fanCost, .int 0, .ref gr_faceWay, .ref gr_faceGas, .ref gr_faceNeed]))]) (va_A [(gr, .inr (3, [.int 0, .null, .int 0, .null, .null, .int 0, .null, .null, .null, .int 0, .null, .null, .null]))] sz)) 9 36 (va_A [(gr, .inr (3, [.int 0, .null, .int 0, .null, .null, .int 0, .null, .null, .null, .int 0, .null, .null, .null]))] sz) := by
  refine Met.ofW (cc := cX3_init) (maxL := 1) (ret := none) (by decide) rfl ?_
  intro p e s m args below meth c s₁ B hml hv
  obtain ⟨rfl, hsz, hn0, hG, hP, hK, hD0⟩ := hv
  have hx := B.exec
  have hb := B.bytes
  have hr := B.returns
  have hts := atoms_spec (ws := wM yX3_init cX3_init 1 none) B.pre
  have hown : s.vm.findClass RX3 = some m.cls := findClass_of_methodNamed B.named
  have hlocks := B.notSynchronized
  have hin : meth.name = "<init>" := (name_of_methodNamed B.named B.method).1
  subst hsz
  have hD := hD0.self (sz := s.heap.size)
  have hA0 := vA_n0 hD0 hn0
  generalize hAe : va_A [(gr, .inr (3, [.int 0, .null, .int 0, .null, .null, .int 0, .null, .null, .null, .int 0, .null, .null, .null]))] s.heap.size = A at hD hA0 ⊢
  have hA : ∀ q : Nat, s.heap.size ≤ q → A q := fun q h => by rw [← hAe]; exact Or.inr h
  have hS : va_S A s.heap s.heap [] := va_S.rf
  have hl := lv_entry ([.ref gr]) (n := 1) (Nat.le_of_ble_eq_true rfl)
  rw [lg_entry_eq]
  generalize (lg_sl ([.ref gr]) ++ List.replicate (1 - (lg_sl ([.ref gr])).length) Slot.unset).toArray = ls at hl ⊢
  have hl : lv_has ls 1 [(0, .ref gr)] := hl
  refine lv_aload_n hx hb dX3_init_0 rfl (lv_at hl 0 rfl) ?_
  refine W.objInit hx hb hown (hts _ (wM_c wd_159)) (hts _ (wM_c wd_146)) (hts _ (wM_c wd_objInit)) rfl (by rw [hml]; exact hl.1) rfl dX3_init_1 (Nat.le_of_ble_eq_true rfl) (Nat.le_of_ble_eq_true rfl) ?_
  refine W.eq (g2 := F0 m 4 ls []) rfl ?_
  refine lv_aload_n hx hb dX3_init_4 rfl (lv_at hl 0 rfl) ?_
  refine lv_bipush (v := 6) hx hb dX3_init_5 (by decide) ?_
  refine va_newa (atype := .int) (a0 := (6, .inl (fun _ => 0))) (ty := .int) hx hb (hts _ (wM_c wd_237)) rfl hK hP hD hS hA (fun _ => rfl) (by decide) rfl (by decide) (Nat.le_of_ble_eq_true rfl) (Nat.le_of_ble_eq_true rfl) dX3_init_7 (fun q_1 k_2 H hK hP hD hS => ?_)
  have hP : va_P (dC, dI) classes [(gr, .inr (3, [.int 0, .null, .int 0, .null, .null, .int 0, .null, .null, .null, .int 0, .null, .null, .null])), (q_1, .inl (k_2, 6, .inl (fun _ => 0)))] H := hP
  have hD : va_D A [(gr, .inr (3, [.int 0, .null, .int 0, .null, .null, .int 0, .null, .null, .null, .int 0, .null, .null, .null])), (q_1, .inl (k_2, 6, .inl (fun _ => 0)))] := hD
  have hK : va_K (dC, dI) classes [(k_2, .int)] s := hK
  refine W.widen (k := 1) (n := 6) (Nat.le_of_ble_eq_true rfl) (Nat.le_of_ble_eq_true rfl) ?_
  refine va_putF (D := (dC, dI)) (ci := 3) (v := .ref q_1) (ty := (.array .int)) (C := RX3) (T := TX3) (N := 13) hx hb hts (fun w h => wM_c (iX3 w h)) tyX3 tyX3_ok nmX3 hown hK hP hD hS 0 rfl rfl 1 (by decide) (hts _ (wM_c wd_164)) (fun _ h9 => h9) rfl hin rfl (by decide +kernel) rfl rfl (Nat.le_of_ble_eq_true rfl) dX3_init_9 (fun H locs hP hD hS => ?_)
  have hP : va_P (dC, dI) classes [(gr, .inr (3, [.int 0, .ref q_1, .int 0, .null, .null, .int 0, .null, .null, .null, .int 0, .null, .null, .null])), (q_1, .inl (k_2, 6, .inl (fun _ => 0)))] H := hP
  have hD : va_D A [(gr, .inr (3, [.int 0, .ref q_1, .int 0, .null, .null, .int 0, .null, .null, .null, .int 0, .null, .null, .null])), (q_1, .inl (k_2, 6, .inl (fun _ => 0)))] := hD
  refine lv_aload_n hx hb dX3_init_12 rfl (lv_at hl 0 rfl) ?_
  refine lv_iconst (v := 3) hx hb dX3_init_13 (by decide) ?_
  refine va_newa (atype := .int) (a0 := (3, .inl (fun _ => 0))) (ty := .int) hx hb (hts _ (wM_c wd_237)) rfl hK hP hD hS hA (fun _ => rfl) (by decide) rfl (by decide) (Nat.le_of_ble_eq_true rfl) (Nat.le_of_ble_eq_true rfl) dX3_init_14 (fun q_3 k_4 H hK hP hD hS => ?_)
  have hP : va_P (dC, dI) classes [(gr, .inr (3, [.int 0, .ref q_1, .int 0, .null, .null, .int 0, .null, .null, .null, .int 0, .null, .null, .null])), (q_1, .inl (k_2, 6, .inl (fun _ => 0))), (q_3, .inl (k_4, 3, .inl (fun _ => 0)))] H := hP
  have hD : va_D A [(gr, .inr (3, [.int 0, .ref q_1, .int 0, .null, .null, .int 0, .null, .null, .null, .int 0, .null, .null, .null])), (q_1, .inl (k_2, 6, .inl (fun _ => 0))), (q_3, .inl (k_4, 3, .inl (fun _ => 0)))] := hD
  have hK : va_K (dC, dI) classes [(k_2, .int), (k_4, .int)] s := hK
  refine W.widen (k := 2) (n := 9) (Nat.le_of_ble_eq_true rfl) (Nat.le_of_ble_eq_true rfl) ?_
  refine va_putF (D := (dC, dI)) (ci := 3) (v := .ref q_3) (ty := (.array .int)) (C := RX3) (T := TX3) (N := 13) hx hb hts (fun w h => wM_c (iX3 w h)) tyX3 tyX3_ok nmX3 hown hK hP hD hS 0 rfl rfl 3 (by decide) (hts _ (wM_c wd_172)) (fun _ h9 => h9) rfl hin rfl (by decide +kernel) rfl rfl (Nat.le_of_ble_eq_true rfl) dX3_init_16 (fun H locs hP hD hS => ?_)
  have hP : va_P (dC, dI) classes [(gr, .inr (3, [.int 0, .ref q_1, .int 0, .ref q_3, .null, .int 0, .null, .null, .null, .int 0, .null, .null, .null])), (q_1, .inl (k_2, 6, .inl (fun _ => 0))), (q_3, .inl (k_4, 3, .inl (fun _ => 0)))] H := hP
  have hD : va_D A [(gr, .inr (3, [.int 0, .ref q_1, .int 0, .ref q_3, .null, .int 0, .null, .null, .null, .int 0, .null, .null, .null])), (q_1, .inl (k_2, 6, .inl (fun _ => 0))), (q_3, .inl (k_4, 3, .inl (fun _ => 0)))] := hD
  refine lv_aload_n hx hb dX3_init_19 rfl (lv_at hl 0 rfl) ?_
  refine lv_iconst (v := 3) hx hb dX3_init_20 (by decide) ?_
  refine va_newa (atype := .int) (a0 := (3, .inl (fun _ => 0))) (ty := .int) hx hb (hts _ (wM_c wd_237)) rfl hK hP hD hS hA (fun _ => rfl) (by decide) rfl (by decide) (Nat.le_of_ble_eq_true rfl) (Nat.le_of_ble_eq_true rfl) dX3_init_21 (fun q_5 k_6 H hK hP hD hS => ?_)
  have hP : va_P (dC, dI) classes [(gr, .inr (3, [.int 0, .ref q_1, .int 0, .ref q_3, .null, .int 0, .null, .null, .null, .int 0, .null, .null, .null])), (q_1, .inl (k_2, 6, .inl (fun _ => 0))), (q_3, .inl (k_4, 3, .inl (fun _ => 0))), (q_5, .inl (k_6, 3, .inl (fun _ => 0)))] H := hP
  have hD : va_D A [(gr, .inr (3, [.int 0, .ref q_1, .int 0, .ref q_3, .null, .int 0, .null, .null, .null, .int 0, .null, .null, .null])), (q_1, .inl (k_2, 6, .inl (fun _ => 0))), (q_3, .inl (k_4, 3, .inl (fun _ => 0))), (q_5, .inl (k_6, 3, .inl (fun _ => 0)))] := hD
  have hK : va_K (dC, dI) classes [(k_2, .int), (k_4, .int), (k_6, .int)] s := hK
  refine W.widen (k := 3) (n := 12) (Nat.le_of_ble_eq_true rfl) (Nat.le_of_ble_eq_true rfl) ?_
  refine va_putF (D := (dC, dI)) (ci := 3) (v := .ref q_5) (ty := (.array .int)) (C := RX3) (T := TX3) (N := 13) hx hb hts (fun w h => wM_c (iX3 w h)) tyX3 tyX3_ok nmX3 hown hK hP hD hS 0 rfl rfl 4 (by decide) (hts _ (wM_c wd_175)) (fun _ h9 => h9) rfl hin rfl (by decide +kernel) rfl rfl (Nat.le_of_ble_eq_true rfl) dX3_init_23 (fun H locs hP hD hS => ?_)
  have hP : va_P (dC, dI) classes [(gr, .inr (3, [.int 0, .ref q_1, .int 0, .ref q_3, .ref q_5, .int 0, .null, .null, .null, .int 0, .null, .null, .null])), (q_1, .inl (k_2, 6, .inl (fun _ => 0))), (q_3, .inl (k_4, 3, .inl (fun _ => 0))), (q_5, .inl (k_6, 3, .inl (fun _ => 0)))] H := hP
  have hD : va_D A [(gr, .inr (3, [.int 0, .ref q_1, .int 0, .ref q_3, .ref q_5, .int 0, .null, .null, .null, .int 0, .null, .null, .null])), (q_1, .inl (k_2, 6, .inl (fun _ => 0))), (q_3, .inl (k_4, 3, .inl (fun _ => 0))), (q_5, .inl (k_6, 3, .inl (fun _ => 0)))] := hD
  refine lv_aload_n hx hb dX3_init_26 rfl (lv_at hl 0 rfl) ?_
  refine lv_iconst (v := 4) hx hb dX3_init_27 (by decide) ?_
  refine va_newa (atype := .int) (a0 := (4, .inl (fun _ => 0))) (ty := .int) hx hb (hts _ (wM_c wd_237)) rfl hK hP hD hS hA (fun _ => rfl) (by decide) rfl (by decide) (Nat.le_of_ble_eq_true rfl) (Nat.le_of_ble_eq_true rfl) dX3_init_28 (fun q_7 k_8 H hK hP hD hS => ?_)
  have hP : va_P (dC, dI) classes [(gr, .inr (3, [.int 0, .ref q_1, .int 0, .ref q_3, .ref q_5, .int 0, .null, .null, .null, .int 0, .null, .null, .null])), (q_1, .inl (k_2, 6, .inl (fun _ => 0))), (q_3, .inl (k_4, 3, .inl (fun _ => 0))), (q_5, .inl (k_6, 3, .inl (fun _ => 0))), (q_7, .inl (k_8, 4, .inl (fun _ => 0)))] H := hP
  have hD : va_D A [(gr, .inr (3, [.int 0, .ref q_1, .int 0, .ref q_3, .ref q_5, .int 0, .null, .null, .null, .int 0, .null, .null, .null])), (q_1, .inl (k_2, 6, .inl (fun _ => 0))), (q_3, .inl (k_4, 3, .inl (fun _ => 0))), (q_5, .inl (k_6, 3, .inl (fun _ => 0))), (q_7, .inl (k_8, 4, .inl (fun _ => 0)))] := hD
  have hK : va_K (dC, dI) classes [(k_2, .int), (k_4, .int), (k_6, .int), (k_8, .int)] s := hK
  refine W.widen (k := 4) (n := 16) (Nat.le_of_ble_eq_true rfl) (Nat.le_of_ble_eq_true rfl) ?_
  refine va_putF (D := (dC, dI)) (ci := 3) (v := .ref q_7) (ty := (.array .int)) (C := RX3) (T := TX3) (N := 13) hx hb hts (fun w h => wM_c (iX3 w h)) tyX3 tyX3_ok nmX3 hown hK hP hD hS 0 rfl rfl 6 (by decide) (hts _ (wM_c wd_183)) (fun _ h9 => h9) rfl hin rfl (by decide +kernel) rfl rfl (Nat.le_of_ble_eq_true rfl) dX3_init_30 (fun H locs hP hD hS => ?_)
  have hP : va_P (dC, dI) classes [(gr, .inr (3, [.int 0, .ref q_1, .int 0, .ref q_3, .ref q_5, .int 0, .ref q_7, .null, .null, .int 0, .null, .null, .null])), (q_1, .inl (k_2, 6, .inl (fun _ => 0))), (q_3, .inl (k_4, 3, .inl (fun _ => 0))), (q_5, .inl (k_6, 3, .inl (fun _ => 0))), (q_7, .inl (k_8, 4, .inl (fun _ => 0)))] H := hP
  have hD : va_D A [(gr, .inr (3, [.int 0, .ref q_1, .int 0, .ref q_3, .ref q_5, .int 0, .ref q_7, .null, .null, .int 0, .null, .null, .null])), (q_1, .inl (k_2, 6, .inl (fun _ => 0))), (q_3, .inl (k_4, 3, .inl (fun _ => 0))), (q_5, .inl (k_6, 3, .inl (fun _ => 0))), (q_7, .inl (k_8, 4, .inl (fun _ => 0)))] := hD
  refine lv_aload_n hx hb dX3_init_33 rfl (lv_at hl 0 rfl) ?_
  refine lv_iconst (v := 4) hx hb dX3_init_34 (by decide) ?_
  refine va_newa (atype := .int) (a0 := (4, .inl (fun _ => 0))) (ty := .int) hx hb (hts _ (wM_c wd_237)) rfl hK hP hD hS hA (fun _ => rfl) (by decide) rfl (by decide) (Nat.le_of_ble_eq_true rfl) (Nat.le_of_ble_eq_true rfl) dX3_init_35 (fun q_9 k_10 H hK hP hD hS => ?_)
  have hP : va_P (dC, dI) classes [(gr, .inr (3, [.int 0, .ref q_1, .int 0, .ref q_3, .ref q_5, .int 0, .ref q_7, .null, .null, .int 0, .null, .null, .null])), (q_1, .inl (k_2, 6, .inl (fun _ => 0))), (q_3, .inl (k_4, 3, .inl (fun _ => 0))), (q_5, .inl (k_6, 3, .inl (fun _ => 0))), (q_7, .inl (k_8, 4, .inl (fun _ => 0))), (q_9, .inl (k_10, 4, .inl (fun _ => 0)))] H := hP
  have hD : va_D A [(gr, .inr (3, [.int 0, .ref q_1, .int 0, .ref q_3, .ref q_5, .int 0, .ref q_7, .null, .null, .int 0, .null, .null, .null])), (q_1, .inl (k_2, 6, .inl (fun _ => 0))), (q_3, .inl (k_4, 3, .inl (fun _ => 0))), (q_5, .inl (k_6, 3, .inl (fun _ => 0))), (q_7, .inl (k_8, 4, .inl (fun _ => 0))), (q_9, .inl (k_10, 4, .inl (fun _ => 0)))] := hD
  have hK : va_K (dC, dI) classes [(k_2, .int), (k_4, .int), (k_6, .int), (k_8, .int), (k_10, .int)] s := hK
  refine W.widen (k := 5) (n := 20) (Nat.le_of_ble_eq_true rfl) (Nat.le_of_ble_eq_true rfl) ?_
  refine va_putF (D := (dC, dI)) (ci := 3) (v := .ref q_9) (ty := (.array .int)) (C := RX3) (T := TX3) (N := 13) hx hb hts (fun w h => wM_c (iX3 w h)) tyX3 tyX3_ok nmX3 hown hK hP hD hS 0 rfl rfl 7 (by decide) (hts _ (wM_c wd_186)) (fun _ h9 => h9) rfl hin rfl (by decide +kernel) rfl rfl (Nat.le_of_ble_eq_true rfl) dX3_init_37 (fun H locs hP hD hS => ?_)
  have hP : va_P (dC, dI) classes [(gr, .inr (3, [.int 0, .ref q_1, .int 0, .ref q_3, .ref q_5, .int 0, .ref q_7, .ref q_9, .null, .int 0, .null, .null, .null])), (q_1, .inl (k_2, 6, .inl (fun _ => 0))), (q_3, .inl (k_4, 3, .inl (fun _ => 0))), (q_5, .inl (k_6, 3, .inl (fun _ => 0))), (q_7, .inl (k_8, 4, .inl (fun _ => 0))), (q_9, .inl (k_10, 4, .inl (fun _ => 0)))] H := hP
  have hD : va_D A [(gr, .inr (3, [.int 0, .ref q_1, .int 0, .ref q_3, .ref q_5, .int 0, .ref q_7, .ref q_9, .null, .int 0, .null, .null, .null])), (q_1, .inl (k_2, 6, .inl (fun _ => 0))), (q_3, .inl (k_4, 3, .inl (fun _ => 0))), (q_5, .inl (k_6, 3, .inl (fun _ => 0))), (q_7, .inl (k_8, 4, .inl (fun _ => 0))), (q_9, .inl (k_10, 4, .inl (fun _ => 0)))] := hD
  refine lv_aload_n hx hb dX3_init_40 rfl (lv_at hl 0 rfl) ?_
  refine lv_iconst (v := 4) hx hb dX3_init_41 (by decide) ?_
  refine va_newa (atype := .int) (a0 := (4, .inl (fun _ => 0))) (ty := .int) hx hb (hts _ (wM_c wd_237)) rfl hK hP hD hS hA (fun _ => rfl) (by decide) rfl (by decide) (Nat.le_of_ble_eq_true rfl) (Nat.le_of_ble_eq_true rfl) dX3_init_42 (fun q_11 k_12 H hK hP hD hS => ?_)
  have hP : va_P (dC, dI) classes [(gr, .inr (3, [.int 0, .ref q_1, .int 0, .ref q_3, .ref q_5, .int 0, .ref q_7, .ref q_9, .null, .int 0, .null, .null, .null])), (q_1, .inl (k_2, 6, .inl (fun _ => 0))), (q_3, .inl (k_4, 3, .inl (fun _ => 0))), (q_5, .inl (k_6, 3, .inl (fun _ => 0))), (q_7, .inl (k_8, 4, .inl (fun _ => 0))), (q_9, .inl (k_10, 4, .inl (fun _ => 0))), (q_11, .inl (k_12, 4, .inl (fun _ => 0)))] H := hP
  have hD : va_D A [(gr, .inr (3, [.int 0, .ref q_1, .int 0, .ref q_3, .ref q_5, .int 0, .ref q_7, .ref q_9, .null, .int 0, .null, .null, .null])), (q_1, .inl (k_2, 6, .inl (fun _ => 0))), (q_3, .inl (k_4, 3, .inl (fun _ => 0))), (q_5, .inl (k_6, 3, .inl (fun _ => 0))), (q_7, .inl (k_8, 4, .inl (fun _ => 0))), (q_9, .inl (k_10, 4, .inl (fun _ => 0))), (q_11, .inl (k_12, 4, .inl (fun _ => 0)))] := hD
  have hK : va_K (dC, dI) classes [(k_2, .int), (k_4, .int), (k_6, .int), (k_8, .int), (k_10, .int), (k_12, .int)] s := hK
  refine W.widen (k := 6) (n := 24) (Nat.le_of_ble_eq_true rfl) (Nat.le_of_ble_eq_true rfl) ?_
  refine va_putF (D := (dC, dI)) (ci := 3) (v := .ref q_11) (ty := (.array .int)) (C := RX3) (T := TX3) (N := 13) hx hb hts (fun w h => wM_c (iX3 w h)) tyX3 tyX3_ok nmX3 hown hK hP hD hS 0 rfl rfl 8 (by decide) (hts _ (wM_c wd_189)) (fun _ h9 => h9) rfl hin rfl (by decide +kernel) rfl rfl (Nat.le_of_ble_eq_true rfl) dX3_init_44 (fun H locs hP hD hS => ?_)
  have hP : va_P (dC, dI) classes [(gr, .inr (3, [.int 0, .ref q_1, .int 0, .ref q_3, .ref q_5, .int 0, .ref q_7, .ref q_9, .ref q_11, .int 0, .null, .null, .null])), (q_1, .inl (k_2, 6, .inl (fun _ => 0))), (q_3, .inl (k_4, 3, .inl (fun _ => 0))), (q_5, .inl (k_6, 3, .inl (fun _ => 0))), (q_7, .inl (k_8, 4, .inl (fun _ => 0))), (q_9, .inl (k_10, 4, .inl (fun _ => 0))), (q_11, .inl (k_12, 4, .inl (fun _ => 0)))] H := hP
  have hD : va_D A [(gr, .inr (3, [.int 0, .ref q_1, .int 0, .ref q_3, .ref q_5, .int 0, .ref q_7, .ref q_9, .ref q_11, .int 0, .null, .null, .null])), (q_1, .inl (k_2, 6, .inl (fun _ => 0))), (q_3, .inl (k_4, 3, .inl (fun _ => 0))), (q_5, .inl (k_6, 3, .inl (fun _ => 0))), (q_7, .inl (k_8, 4, .inl (fun _ => 0))), (q_9, .inl (k_10, 4, .inl (fun _ => 0))), (q_11, .inl (k_12, 4, .inl (fun _ => 0)))] := hD
  refine lv_aload_n hx hb dX3_init_47 rfl (lv_at hl 0 rfl) ?_
  refine lv_iconst (v := 4) hx hb dX3_init_48 (by decide) ?_
  refine va_newa (atype := .int) (a0 := (4, .inl (fun _ => 0))) (ty := .int) hx hb (hts _ (wM_c wd_237)) rfl hK hP hD hS hA (fun _ => rfl) (by decide) rfl (by decide) (Nat.le_of_ble_eq_true rfl) (Nat.le_of_ble_eq_true rfl) dX3_init_49 (fun q_13 k_14 H hK hP hD hS => ?_)
  have hP : va_P (dC, dI) classes [(gr, .inr (3, [.int 0, .ref q_1, .int 0, .ref q_3, .ref q_5, .int 0, .ref q_7, .ref q_9, .ref q_11, .int 0, .null, .null, .null])), (q_1, .inl (k_2, 6, .inl (fun _ => 0))), (q_3, .inl (k_4, 3, .inl (fun _ => 0))), (q_5, .inl (k_6, 3, .inl (fun _ => 0))), (q_7, .inl (k_8, 4, .inl (fun _ => 0))), (q_9, .inl (k_10, 4, .inl (fun _ => 0))), (q_11, .inl (k_12, 4, .inl (fun _ => 0))), (q_13, .inl (k_14, 4, .inl (fun _ => 0)))] H := hP
  have hD : va_D A [(gr, .inr (3, [.int 0, .ref q_1, .int 0, .ref q_3, .ref q_5, .int 0, .ref q_7, .ref q_9, .ref q_11, .int 0, .null, .null, .null])), (q_1, .inl (k_2, 6, .inl (fun _ => 0))), (q_3, .inl (k_4, 3, .inl (fun _ => 0))), (q_5, .inl (k_6, 3, .inl (fun _ => 0))), (q_7, .inl (k_8, 4, .inl (fun _ => 0))), (q_9, .inl (k_10, 4, .inl (fun _ => 0))), (q_11, .inl (k_12, 4, .inl (fun _ => 0))), (q_13, .inl (k_14, 4, .inl (fun _ => 0)))] := hD
  have hK : va_K (dC, dI) classes [(k_2, .int), (k_4, .int), (k_6, .int), (k_8, .int), (k_10, .int), (k_12, .int), (k_14, .int)] s := hK
  refine W.widen (k := 7) (n := 28) (Nat.le_of_ble_eq_true rfl) (Nat.le_of_ble_eq_true rfl) ?_
  refine va_putF (D := (dC, dI)) (ci := 3) (v := .ref q_13) (ty := (.array .int)) (C := RX3) (T := TX3) (N := 13) hx hb hts (fun w h => wM_c (iX3 w h)) tyX3 tyX3_ok nmX3 hown hK hP hD hS 0 rfl rfl 10 (by decide) (hts _ (wM_c wd_198)) (fun _ h9 => h9) rfl hin rfl (by decide +kernel) rfl rfl (Nat.le_of_ble_eq_true rfl) dX3_init_51 (fun H locs hP hD hS => ?_)
  have hP : va_P (dC, dI) classes [(gr, .inr (3, [.int 0, .ref q_1, .int 0, .ref q_3, .ref q_5, .int 0, .ref q_7, .ref q_9, .ref q_11, .int 0, .ref q_13, .null, .null])), (q_1, .inl (k_2, 6, .inl (fun _ => 0))), (q_3, .inl (k_4, 3, .inl (fun _ => 0))), (q_5, .inl (k_6, 3, .inl (fun _ => 0))), (q_7, .inl (k_8, 4, .inl (fun _ => 0))), (q_9, .inl (k_10, 4, .inl (fun _ => 0))), (q_11, .inl (k_12, 4, .inl (fun _ => 0))), (q_13, .inl (k_14, 4, .inl (fun _ => 0)))] H := hP
  have hD : va_D A [(gr, .inr (3, [.int 0, .ref q_1, .int 0, .ref q_3, .ref q_5, .int 0, .ref q_7, .ref q_9, .ref q_11, .int 0, .ref q_13, .null, .null])), (q_1, .inl (k_2, 6, .inl (fun _ => 0))), (q_3, .inl (k_4, 3, .inl (fun _ => 0))), (q_5, .inl (k_6, 3, .inl (fun _ => 0))), (q_7, .inl (k_8, 4, .inl (fun _ => 0))), (q_9, .inl (k_10, 4, .inl (fun _ => 0))), (q_11, .inl (k_12, 4, .inl (fun _ => 0))), (q_13, .inl (k_14, 4, .inl (fun _ => 0)))] := hD
  refine lv_aload_n hx hb dX3_init_54 rfl (lv_at hl 0 rfl) ?_
  refine lv_iconst (v := 4) hx hb dX3_init_55 (by decide) ?_
  refine va_newa (atype := .int) (a0 := (4, .inl (fun _ => 0))) (ty := .int) hx hb (hts _ (wM_c wd_237)) rfl hK hP hD hS hA (fun _ => rfl) (by decide) rfl (by decide) (Nat.le_of_ble_eq_true rfl) (Nat.le_of_ble_eq_true rfl) dX3_init_56 (fun q_15 k_16 H hK hP hD hS => ?_)
  have hP : va_P (dC, dI) classes [(gr, .inr (3, [.int 0, .ref q_1, .int 0, .ref q_3, .ref q_5, .int 0, .ref q_7, .ref q_9, .ref q_11, .int 0, .ref q_13, .null, .null])), (q_1, .inl (k_2, 6, .inl (fun _ => 0))), (q_3, .inl (k_4, 3, .inl (fun _ => 0))), (q_5, .inl (k_6, 3, .inl (fun _ => 0))), (q_7, .inl (k_8, 4, .inl (fun _ => 0))), (q_9, .inl (k_10, 4, .inl (fun _ => 0))), (q_11, .inl (k_12, 4, .inl (fun _ => 0))), (q_13, .inl (k_14, 4, .inl (fun _ => 0))), (q_15, .inl (k_16, 4, .inl (fun _ => 0)))] H := hP
  have hD : va_D A [(gr, .inr (3, [.int 0, .ref q_1, .int 0, .ref q_3, .ref q_5, .int 0, .ref q_7, .ref q_9, .ref q_11, .int 0, .ref q_13, .null, .null])), (q_1, .inl (k_2, 6, .inl (fun _ => 0))), (q_3, .inl (k_4, 3, .inl (fun _ => 0))), (q_5, .inl (k_6, 3, .inl (fun _ => 0))), (q_7, .inl (k_8, 4, .inl (fun _ => 0))), (q_9, .inl (k_10, 4, .inl (fun _ => 0))), (q_11, .inl (k_12, 4, .inl (fun _ => 0))), (q_13, .inl (k_14, 4, .inl (fun _ => 0))), (q_15, .inl (k_16, 4, .inl (fun _ => 0)))] := hD
  have hK : va_K (dC, dI) classes [(k_2, .int), (k_4, .int), (k_6, .int), (k_8, .int), (k_10, .int), (k_12, .int), (k_14, .int), (k_16, .int)] s := hK
  refine W.widen (k := 8) (n := 32) (Nat.le_of_ble_eq_true rfl) (Nat.le_of_ble_eq_true rfl) ?_
  refine va_putF (D := (dC, dI)) (ci := 3) (v := .ref q_15) (ty := (.array .int)) (C := RX3) (T := TX3) (N := 13) hx hb hts (fun w h => wM_c (iX3 w h)) tyX3 tyX3_ok nmX3 hown hK hP hD hS 0 rfl rfl 11 (by decide) (hts _ (wM_c wd_202)) (fun _ h9 => h9) rfl hin rfl (by decide +kernel) rfl rfl (Nat.le_of_ble_eq_true rfl) dX3_init_58 (fun H locs hP hD hS => ?_)
  have hP : va_P (dC, dI) classes [(gr, .inr (3, [.int 0, .ref q_1, .int 0, .ref q_3, .ref q_5, .int 0, .ref q_7, .ref q_9, .ref q_11, .int 0, .ref q_13, .ref q_15, .null])), (q_1, .inl (k_2, 6, .inl (fun _ => 0))), (q_3, .inl (k_4, 3, .inl (fun _ => 0))), (q_5, .inl (k_6, 3, .inl (fun _ => 0))), (q_7, .inl (k_8, 4, .inl (fun _ => 0))), (q_9, .inl (k_10, 4, .inl (fun _ => 0))), (q_11, .inl (k_12, 4, .inl (fun _ => 0))), (q_13, .inl (k_14, 4, .inl (fun _ => 0))), (q_15, .inl (k_16, 4, .inl (fun _ => 0)))] H := hP
  have hD : va_D A [(gr, .inr (3, [.int 0, .ref q_1, .int 0, .ref q_3, .ref q_5, .int 0, .ref q_7, .ref q_9, .ref q_11, .int 0, .ref q_13, .ref q_15, .null])), (q_1, .inl (k_2, 6, .inl (fun _ => 0))), (q_3, .inl (k_4, 3, .inl (fun _ => 0))), (q_5, .inl (k_6, 3, .inl (fun _ => 0))), (q_7, .inl (k_8, 4, .inl (fun _ => 0))), (q_9, .inl (k_10, 4, .inl (fun _ => 0))), (q_11, .inl (k_12, 4, .inl (fun _ => 0))), (q_13, .inl (k_14, 4, .inl (fun _ => 0))), (q_15, .inl (k_16, 4, .inl (fun _ => 0)))] := hD
  refine lv_aload_n hx hb dX3_init_61 rfl (lv_at hl 0 rfl) ?_
  refine lv_iconst (v := 4) hx hb dX3_init_62 (by decide) ?_
  refine va_newa (atype := .int) (a0 := (4, .inl (fun _ => 0))) (ty := .int) hx hb (hts _ (wM_c wd_237)) rfl hK hP hD hS hA (fun _ => rfl) (by decide) rfl (by decide) (Nat.le_of_ble_eq_true rfl) (Nat.le_of_ble_eq_true rfl) dX3_init_63 (fun q_17 k_18 H hK hP hD hS => ?_)
  have hP : va_P (dC, dI) classes [(gr, .inr (3, [.int 0, .ref q_1, .int 0, .ref q_3, .ref q_5, .int 0, .ref q_7, .ref q_9, .ref q_11, .int 0, .ref q_13, .ref q_15, .null])), (q_1, .inl (k_2, 6, .inl (fun _ => 0))), (q_3, .inl (k_4, 3, .inl (fun _ => 0))), (q_5, .inl (k_6, 3, .inl (fun _ => 0))), (q_7, .inl (k_8, 4, .inl (fun _ => 0))), (q_9, .inl (k_10, 4, .inl (fun _ => 0))), (q_11, .inl (k_12, 4, .inl (fun _ => 0))), (q_13, .inl (k_14, 4, .inl (fun _ => 0))), (q_15, .inl (k_16, 4, .inl (fun _ => 0))), (q_17, .inl (k_18, 4, .inl (fun _ => 0)))] H := hP
  have hD : va_D A [(gr, .inr (3, [.int 0, .ref q_1, .int 0, .ref q_3, .ref q_5, .int 0, .ref q_7, .ref q_9, .ref q_11, .int 0, .ref q_13, .ref q_15, .null])), (q_1, .inl (k_2, 6, .inl (fun _ => 0))), (q_3, .inl (k_4, 3, .inl (fun _ => 0))), (q_5, .inl (k_6, 3, .inl (fun _ => 0))), (q_7, .inl (k_8, 4, .inl (fun _ => 0))), (q_9, .inl (k_10, 4, .inl (fun _ => 0))), (q_11, .inl (k_12, 4, .inl (fun _ => 0))), (q_13, .inl (k_14, 4, .inl (fun _ => 0))), (q_15, .inl (k_16, 4, .inl (fun _ => 0))), (q_17, .inl (k_18, 4, .inl (fun _ => 0)))] := hD
  have hK : va_K (dC, dI) classes [(k_2, .int), (k_4, .int), (k_6, .int), (k_8, .int), (k_10, .int), (k_12, .int), (k_14, .int), (k_16, .int), (k_18, .int)] s := hK
  refine W.widen (k := 9) (n := 36) (Nat.le_of_ble_eq_true rfl) (Nat.le_of_ble_eq_true rfl) ?_
  refine va_putF (D := (dC, dI)) (ci := 3) (v := .ref q_17) (ty := (.array .int)) (C := RX3) (T := TX3) (N := 13) hx hb hts (fun w h => wM_c (iX3 w h)) tyX3 tyX3_ok nmX3 hown hK hP hD hS 0 rfl rfl 12 (by decide) (hts _ (wM_c wd_206)) (fun _ h9 => h9) rfl hin rfl (by decide +kernel) rfl rfl (Nat.le_of_ble_eq_true rfl) dX3_init_65 (fun H locs hP hD hS => ?_)
  have hP : va_P (dC, dI) classes [(gr, .inr (3, [.int 0, .ref q_1, .int 0, .ref q_3, .ref q_5, .int 0, .ref q_7, .ref q_9, .ref q_11, .int 0, .ref q_13, .ref q_15, .ref q_17])), (q_1, .inl (k_2, 6, .inl (fun _ => 0))), (q_3, .inl (k_4, 3, .inl (fun _ => 0))), (q_5, .inl (k_6, 3, .inl (fun _ => 0))), (q_7, .inl (k_8, 4, .inl (fun _ => 0))), (q_9, .inl (k_10, 4, .inl (fun _ => 0))), (q_11, .inl (k_12, 4, .inl (fun _ => 0))), (q_13, .inl (k_14, 4, .inl (fun _ => 0))), (q_15, .inl (k_16, 4, .inl (fun _ => 0))), (q_17, .inl (k_18, 4, .inl (fun _ => 0)))] H := hP
  have hD : va_D A [(gr, .inr (3, [.int 0, .ref q_1, .int 0, .ref q_3, .ref q_5, .int 0, .ref q_7, .ref q_9, .ref q_11, .int 0, .ref q_13, .ref q_15, .ref q_17])), (q_1, .inl (k_2, 6, .inl (fun _ => 0))), (q_3, .inl (k_4, 3, .inl (fun _ => 0))), (q_5, .inl (k_6, 3, .inl (fun _ => 0))), (q_7, .inl (k_8, 4, .inl (fun _ => 0))), (q_9, .inl (k_10, 4, .inl (fun _ => 0))), (q_11, .inl (k_12, 4, .inl (fun _ => 0))), (q_13, .inl (k_14, 4, .inl (fun _ => 0))), (q_15, .inl (k_16, 4, .inl (fun _ => 0))), (q_17, .inl (k_18, 4, .inl (fun _ => 0)))] := hD
  have hP9 := hP.sub (ws' := [(gr, .inr (3, [.int 0, .ref q_1, .int 0, .ref q_3, .ref q_5, .int 0, .ref q_7, .ref q_9, .ref q_11, .int 0, .ref q_13, .ref q_15, .ref q_17]))]) [0] rfl
  have hD9 := hD.sub (ws' := [(gr, .inr (3, [.int 0, .ref q_1, .int 0, .ref q_3, .ref q_5, .int 0, .ref q_7, .ref q_9, .ref q_11, .int 0, .ref q_13, .ref q_15, .ref q_17]))]) [0] (by decide) rfl
  have hK9 := hK.sub (tys' := []) [] rfl
  exact W.vret hx hb hr (fun t ht hW => ⟨⟨(), rfl, trivial, q_1, q_3, q_5, q_7, q_9, q_11, q_13, q_15, q_17, by rw [ht]; exact hP9, va_K.moved hW.alike hK9, hD9⟩, hS.F ht⟩) hS.2.2 dX3_init_68
set_option maxHeartbeats 4000000 in
set_option maxRecDepth 100000 in
theorem n_Book (l : Launch) (dC : Nat → ClassId) (dI : Nat → Nat → Nat) (n0 sz : Nat) (bk : Nat) : Met l yX0_init (wM yX0_init cX0_init 1 none) ({ frames := 2, cells := 19, slots := 175, locals := 32 }) (va_Pc [.ref bk] (fun U => U.heap.size = sz ∧ n0 ≤ sz ∧ GW n0 U ∧ va_P (dC, dI) classes [(bk, .inr (0, [.int 0, .null, .null, .null, .null, .null, .null, .null, .null, .null, .int 0, .int 0, .null]))] U.heap ∧ va_K (dC, dI) classes [] U ∧ va_D (fun q => n0 ≤ q) [(bk, .inr (0, [.int 0, .null, .null, .null, .null, .null, .null, .null, .null, .null, .int 0, .int 0, .null]))])) (va_Qv (fun _ : Unit => True) (fun (_ : Unit) (t : State) => ∃ (bk_tail : Nat), ∃ (bk_head : Nat), ∃ (bk_hinder : Nat), ∃ (bk_size : Nat), ∃ (bk_walk : Nat), ∃ (bk_draught : Nat), ∃ (bk_doorIn : Nat), ∃ (bk_fanIn : Nat), ∃ (bk_faceIn : Nat), ∃ (gr : Nat), ∃ (gr_doorBy : Nat), ∃ (gr_pairFirst : Nat), ∃ (gr_pairSecond : Nat), ∃ (gr_fanPush : Nat), ∃ (gr_fanFall : Nat), ∃ (gr_fanCost : Nat), ∃ (gr_faceWay : Nat), ∃ (gr_faceGas : Nat), ∃ (gr_faceNeed : Nat), ∃ (kd1 : ClassId), ∃ (kd2 : ClassId), ∃ (kd3 : ClassId), va_P (dC, dI) classes [(bk, .inr (0, [.int 0, .ref bk_tail, .ref bk_head, .ref bk_hinder, .ref bk_size, .ref bk_walk, .ref bk_draught, .ref bk_doorIn, .ref bk_fanIn, .ref bk_faceIn, .int 0, .int (-1), .ref gr])), (gr, .inr (3, [.int 0, .ref gr_doorBy, .int 0, .ref gr_pairFirst, .ref gr_pairSecond, .int 0, .ref gr_fanPush, .ref gr_fanFall, .ref gr_fanCost, .int 0, .ref gr_faceWay, .ref gr_faceGas, .ref gr_faceNeed])), (bk_doorIn, .inl (kd1, 14, .inl (fun _ => 0))), (bk_fanIn, .inl (kd2, 14, .inl (fun _ => 0))), (bk_faceIn, .inl (kd3, 14, .inl (fun _ => 0)))] t.heap ∧ va_K (dC, dI) classes [(kd1, .int), (kd2, .int), (kd3, .int)] t ∧ va_D (va_A [(bk, .inr (0, [.int 0, .null, .null, .null, .null, .null, .null, .null, .null, .null, .int 0, .int 0, .null]))] sz) [(bk, .inr (0, [.int 0, .ref bk_tail, .ref bk_head, .ref bk_hinder, .ref bk_size, .ref bk_walk, .ref bk_draught, .ref bk_doorIn, .ref bk_fanIn, .ref bk_faceIn, .int 0, .int (-1), .ref gr])), (gr, .inr (3, [.int 0, .ref gr_doorBy, .int 0, .ref gr_pairFirst, .ref gr_pairSecond, .int 0, .ref gr_fanPush, .ref gr_fanFall, .ref gr_fanCost, .int 0, .ref gr_faceWay, .ref gr_faceGas, .ref gr_faceNeed])), (bk_doorIn, .inl (kd1, 14, .inl (fun _ => 0))), (bk_fanIn, .inl (kd2, 14, .inl (fun _ => 0))), (bk_faceIn, .inl (kd3, 14, .inl (fun _ => 0)))]) (va_A [(bk, .inr (0, [.int 0, .null, .null, .null, .null, .null, .null, .null, .null, .null, .int 0, .int 0, .null]))] sz)) 19 175 (va_A [(bk, .inr (0, [.int 0, .null, .null, .null, .null, .null, .null, .null, .null, .null, .int 0, .int 0, .null]))] sz) := by
  refine Met.ofW (cc := cX0_init) (maxL := 1) (ret := none) (by decide) rfl ?_
  intro p e s m args below meth c s₁ B hml hv
  obtain ⟨rfl, hsz, hn0, hG, hP, hK, hD0⟩ := hv
  have hx := B.exec
  have hb := B.bytes
  have hr := B.returns
  have hts := atoms_spec (ws := wM yX0_init cX0_init 1 none) B.pre
  have hown : s.vm.findClass RX0 = some m.cls := findClass_of_methodNamed B.named
  have hlocks := B.notSynchronized
  have hin : meth.name = "<init>" := (name_of_methodNamed B.named B.method).1
  subst hsz
  have hD := hD0.self (sz := s.heap.size)
  have hA0 := vA_n0 hD0 hn0
  generalize hAe : va_A [(bk, .inr (0, [.int 0, .null, .null, .null, .null, .null, .null, .null, .null, .null, .int 0, .int 0, .null]))] s.heap.size = A at hD hA0 ⊢
  have hA : ∀ q : Nat, s.heap.size ≤ q → A q := fun q h => by rw [← hAe]; exact Or.inr h
  have hS : va_S A s.heap s.heap [] := va_S.rf
  have hl := lv_entry ([.ref bk]) (n := 1) (Nat.le_of_ble_eq_true rfl)
  rw [lg_entry_eq]
  generalize (lg_sl ([.ref bk]) ++ List.replicate (1 - (lg_sl ([.ref bk])).length) Slot.unset).toArray = ls at hl ⊢
  have hl : lv_has ls 1 [(0, .ref bk)] := hl
  refine lv_aload_n hx hb dX0_init_0 rfl (lv_at hl 0 rfl) ?_
  refine W.objInit hx hb hown (hts _ (wM_c wd_153)) (hts _ (wM_c wd_146)) (hts _ (wM_c wd_objInit)) rfl (by rw [hml]; exact hl.1) rfl dX0_init_1 (Nat.le_of_ble_eq_true rfl) (Nat.le_of_ble_eq_true rfl) ?_
  refine W.eq (g2 := F0 m 4 ls []) rfl ?_
  refine lv_aload_n hx hb dX0_init_4 rfl (lv_at hl 0 rfl) ?_
  refine lv_bipush (v := 14) hx hb dX0_init_5 (by decide) ?_
  refine va_newa (atype := .int) (a0 := (14, .inl (fun _ => 0))) (ty := .int) hx hb (hts _ (wM_c wd_237)) rfl hK hP hD hS hA (fun _ => rfl) (by decide) rfl (by decide) (Nat.le_of_ble_eq_true rfl) (Nat.le_of_ble_eq_true rfl) dX0_init_7 (fun q_1 k_2 H hK hP hD hS => ?_)
  have hP : va_P (dC, dI) classes [(bk, .inr (0, [.int 0, .null, .null, .null, .null, .null, .null, .null, .null, .null, .int 0, .int 0, .null])), (q_1, .inl (k_2, 14, .inl (fun _ => 0)))] H := hP
  have hD : va_D A [(bk, .inr (0, [.int 0, .null, .null, .null, .null, .null, .null, .null, .null, .null, .int 0, .int 0, .null])), (q_1, .inl (k_2, 14, .inl (fun _ => 0)))] := hD
  have hK : va_K (dC, dI) classes [(k_2, .int)] s := hK
  refine W.widen (k := 1) (n := 14) (Nat.le_of_ble_eq_true rfl) (Nat.le_of_ble_eq_true rfl) ?_
  refine va_putF (D := (dC, dI)) (ci := 0) (v := .ref q_1) (ty := (.array .int)) (C := RX0) (T := TX0) (N := 13) hx hb hts (fun w h => wM_c (iX0 w h)) tyX0 tyX0_ok nmX0 hown hK hP hD hS 0 rfl rfl 1 (by decide) (hts _ (wM_c wd_246)) (fun _ h9 => h9) rfl hin rfl (by decide +kernel) rfl rfl (Nat.le_of_ble_eq_true rfl) dX0_init_9 (fun H locs hP hD hS => ?_)
  have hP : va_P (dC, dI) classes [(bk, .inr (0, [.int 0, .ref q_1, .null, .null, .null, .null, .null, .null, .null, .null, .int 0, .int 0, .null])), (q_1, .inl (k_2, 14, .inl (fun _ => 0)))] H := hP
  have hD : va_D A [(bk, .inr (0, [.int 0, .ref q_1, .null, .null, .null, .null, .null, .null, .null, .null, .int 0, .int 0, .null])), (q_1, .inl (k_2, 14, .inl (fun _ => 0)))] := hD
  refine lv_aload_n hx hb dX0_init_12 rfl (lv_at hl 0 rfl) ?_
  refine lv_bipush (v := 14) hx hb dX0_init_13 (by decide) ?_
  refine va_newa (atype := .int) (a0 := (14, .inl (fun _ => 0))) (ty := .int) hx hb (hts _ (wM_c wd_237)) rfl hK hP hD hS hA (fun _ => rfl) (by decide) rfl (by decide) (Nat.le_of_ble_eq_true rfl) (Nat.le_of_ble_eq_true rfl) dX0_init_15 (fun q_3 k_4 H hK hP hD hS => ?_)
  have hP : va_P (dC, dI) classes [(bk, .inr (0, [.int 0, .ref q_1, .null, .null, .null, .null, .null, .null, .null, .null, .int 0, .int 0, .null])), (q_1, .inl (k_2, 14, .inl (fun _ => 0))), (q_3, .inl (k_4, 14, .inl (fun _ => 0)))] H := hP
  have hD : va_D A [(bk, .inr (0, [.int 0, .ref q_1, .null, .null, .null, .null, .null, .null, .null, .null, .int 0, .int 0, .null])), (q_1, .inl (k_2, 14, .inl (fun _ => 0))), (q_3, .inl (k_4, 14, .inl (fun _ => 0)))] := hD
  have hK : va_K (dC, dI) classes [(k_2, .int), (k_4, .int)] s := hK
  refine W.widen (k := 2) (n := 28) (Nat.le_of_ble_eq_true rfl) (Nat.le_of_ble_eq_true rfl) ?_
  refine va_putF (D := (dC, dI)) (ci := 0) (v := .ref q_3) (ty := (.array .int)) (C := RX0) (T := TX0) (N := 13) hx hb hts (fun w h => wM_c (iX0 w h)) tyX0 tyX0_ok nmX0 hown hK hP hD hS 0 rfl rfl 2 (by decide) (hts _ (wM_c wd_251)) (fun _ h9 => h9) rfl hin rfl (by decide +kernel) rfl rfl (Nat.le_of_ble_eq_true rfl) dX0_init_17 (fun H locs hP hD hS => ?_)
  have hP : va_P (dC, dI) classes [(bk, .inr (0, [.int 0, .ref q_1, .ref q_3, .null, .null, .null, .null, .null, .null, .null, .int 0, .int 0, .null])), (q_1, .inl (k_2, 14, .inl (fun _ => 0))), (q_3, .inl (k_4, 14, .inl (fun _ => 0)))] H := hP
  have hD : va_D A [(bk, .inr (0, [.int 0, .ref q_1, .ref q_3, .null, .null, .null, .null, .null, .null, .null, .int 0, .int 0, .null])), (q_1, .inl (k_2, 14, .inl (fun _ => 0))), (q_3, .inl (k_4, 14, .inl (fun _ => 0)))] := hD
  refine lv_aload_n hx hb dX0_init_20 rfl (lv_at hl 0 rfl) ?_
  refine lv_bipush (v := 14) hx hb dX0_init_21 (by decide) ?_
  refine va_newa (atype := .int) (a0 := (14, .inl (fun _ => 0))) (ty := .int) hx hb (hts _ (wM_c wd_237)) rfl hK hP hD hS hA (fun _ => rfl) (by decide) rfl (by decide) (Nat.le_of_ble_eq_true rfl) (Nat.le_of_ble_eq_true rfl) dX0_init_23 (fun q_5 k_6 H hK hP hD hS => ?_)
  have hP : va_P (dC, dI) classes [(bk, .inr (0, [.int 0, .ref q_1, .ref q_3, .null, .null, .null, .null, .null, .null, .null, .int 0, .int 0, .null])), (q_1, .inl (k_2, 14, .inl (fun _ => 0))), (q_3, .inl (k_4, 14, .inl (fun _ => 0))), (q_5, .inl (k_6, 14, .inl (fun _ => 0)))] H := hP
  have hD : va_D A [(bk, .inr (0, [.int 0, .ref q_1, .ref q_3, .null, .null, .null, .null, .null, .null, .null, .int 0, .int 0, .null])), (q_1, .inl (k_2, 14, .inl (fun _ => 0))), (q_3, .inl (k_4, 14, .inl (fun _ => 0))), (q_5, .inl (k_6, 14, .inl (fun _ => 0)))] := hD
  have hK : va_K (dC, dI) classes [(k_2, .int), (k_4, .int), (k_6, .int)] s := hK
  refine W.widen (k := 3) (n := 42) (Nat.le_of_ble_eq_true rfl) (Nat.le_of_ble_eq_true rfl) ?_
  refine va_putF (D := (dC, dI)) (ci := 0) (v := .ref q_5) (ty := (.array .int)) (C := RX0) (T := TX0) (N := 13) hx hb hts (fun w h => wM_c (iX0 w h)) tyX0 tyX0_ok nmX0 hown hK hP hD hS 0 rfl rfl 3 (by decide) (hts _ (wM_c wd_256)) (fun _ h9 => h9) rfl hin rfl (by decide +kernel) rfl rfl (Nat.le_of_ble_eq_true rfl) dX0_init_25 (fun H locs hP hD hS => ?_)
  have hP : va_P (dC, dI) classes [(bk, .inr (0, [.int 0, .ref q_1, .ref q_3, .ref q_5, .null, .null, .null, .null, .null, .null, .int 0, .int 0, .null])), (q_1, .inl (k_2, 14, .inl (fun _ => 0))), (q_3, .inl (k_4, 14, .inl (fun _ => 0))), (q_5, .inl (k_6, 14, .inl (fun _ => 0)))] H := hP
  have hD : va_D A [(bk, .inr (0, [.int 0, .ref q_1, .ref q_3, .ref q_5, .null, .null, .null, .null, .null, .null, .int 0, .int 0, .null])), (q_1, .inl (k_2, 14, .inl (fun _ => 0))), (q_3, .inl (k_4, 14, .inl (fun _ => 0))), (q_5, .inl (k_6, 14, .inl (fun _ => 0)))] := hD
  refine lv_aload_n hx hb dX0_init_28 rfl (lv_at hl 0 rfl) ?_
  refine lv_bipush (v := 14) hx hb dX0_init_29 (by decide) ?_
  refine va_newa (atype := .int) (a0 := (14, .inl (fun _ => 0))) (ty := .int) hx hb (hts _ (wM_c wd_237)) rfl hK hP hD hS hA (fun _ => rfl) (by decide) rfl (by decide) (Nat.le_of_ble_eq_true rfl) (Nat.le_of_ble_eq_true rfl) dX0_init_31 (fun q_7 k_8 H hK hP hD hS => ?_)
  have hP : va_P (dC, dI) classes [(bk, .inr (0, [.int 0, .ref q_1, .ref q_3, .ref q_5, .null, .null, .null, .null, .null, .null, .int 0, .int 0, .null])), (q_1, .inl (k_2, 14, .inl (fun _ => 0))), (q_3, .inl (k_4, 14, .inl (fun _ => 0))), (q_5, .inl (k_6, 14, .inl (fun _ => 0))), (q_7, .inl (k_8, 14, .inl (fun _ => 0)))] H := hP
  have hD : va_D A [(bk, .inr (0, [.int 0, .ref q_1, .ref q_3, .ref q_5, .null, .null, .null, .null, .null, .null, .int 0, .int 0, .null])), (q_1, .inl (k_2, 14, .inl (fun _ => 0))), (q_3, .inl (k_4, 14, .inl (fun _ => 0))), (q_5, .inl (k_6, 14, .inl (fun _ => 0))), (q_7, .inl (k_8, 14, .inl (fun _ => 0)))] := hD
  have hK : va_K (dC, dI) classes [(k_2, .int), (k_4, .int), (k_6, .int), (k_8, .int)] s := hK
  refine W.widen (k := 4) (n := 56) (Nat.le_of_ble_eq_true rfl) (Nat.le_of_ble_eq_true rfl) ?_
  refine va_putF (D := (dC, dI)) (ci := 0) (v := .ref q_7) (ty := (.array .int)) (C := RX0) (T := TX0) (N := 13) hx hb hts (fun w h => wM_c (iX0 w h)) tyX0 tyX0_ok nmX0 hown hK hP hD hS 0 rfl rfl 4 (by decide) (hts _ (wM_c wd_259)) (fun _ h9 => h9) rfl hin rfl (by decide +kernel) rfl rfl (Nat.le_of_ble_eq_true rfl) dX0_init_33 (fun H locs hP hD hS => ?_)
  have hP : va_P (dC, dI) classes [(bk, .inr (0, [.int 0, .ref q_1, .ref q_3, .ref q_5, .ref q_7, .null, .null, .null, .null, .null, .int 0, .int 0, .null])), (q_1, .inl (k_2, 14, .inl (fun _ => 0))), (q_3, .inl (k_4, 14, .inl (fun _ => 0))), (q_5, .inl (k_6, 14, .inl (fun _ => 0))), (q_7, .inl (k_8, 14, .inl (fun _ => 0)))] H := hP
  have hD : va_D A [(bk, .inr (0, [.int 0, .ref q_1, .ref q_3, .ref q_5, .ref q_7, .null, .null, .null, .null, .null, .int 0, .int 0, .null])), (q_1, .inl (k_2, 14, .inl (fun _ => 0))), (q_3, .inl (k_4, 14, .inl (fun _ => 0))), (q_5, .inl (k_6, 14, .inl (fun _ => 0))), (q_7, .inl (k_8, 14, .inl (fun _ => 0)))] := hD
  refine lv_aload_n hx hb dX0_init_36 rfl (lv_at hl 0 rfl) ?_
  refine lv_bipush (v := 14) hx hb dX0_init_37 (by decide) ?_
  refine va_newa (atype := .int) (a0 := (14, .inl (fun _ => 0))) (ty := .int) hx hb (hts _ (wM_c wd_237)) rfl hK hP hD hS hA (fun _ => rfl) (by decide) rfl (by decide) (Nat.le_of_ble_eq_true rfl) (Nat.le_of_ble_eq_true rfl) dX0_init_39 (fun q_9 k_10 H hK hP hD hS => ?_)
  have hP : va_P (dC, dI) classes [(bk, .inr (0, [.int 0, .ref q_1, .ref q_3, .ref q_5, .ref q_7, .null, .null, .null, .null, .null, .int 0, .int 0, .null])), (q_1, .inl (k_2, 14, .inl (fun _ => 0))), (q_3, .inl (k_4, 14, .inl (fun _ => 0))), (q_5, .inl (k_6, 14, .inl (fun _ => 0))), (q_7, .inl (k_8, 14, .inl (fun _ => 0))), (q_9, .inl (k_10, 14, .inl (fun _ => 0)))] H := hP
  have hD : va_D A [(bk, .inr (0, [.int 0, .ref q_1, .ref q_3, .ref q_5, .ref q_7, .null, .null, .null, .null, .null, .int 0, .int 0, .null])), (q_1, .inl (k_2, 14, .inl (fun _ => 0))), (q_3, .inl (k_4, 14, .inl (fun _ => 0))), (q_5, .inl (k_6, 14, .inl (fun _ => 0))), (q_7, .inl (k_8, 14, .inl (fun _ => 0))), (q_9, .inl (k_10, 14, .inl (fun _ => 0)))] := hD
  have hK : va_K (dC, dI) classes [(k_2, .int), (k_4, .int), (k_6, .int), (k_8, .int), (k_10, .int)] s := hK
  refine W.widen (k := 5) (n := 70) (Nat.le_of_ble_eq_true rfl) (Nat.le_of_ble_eq_true rfl) ?_
  refine va_putF (D := (dC, dI)) (ci := 0) (v := .ref q_9) (ty := (.array .int)) (C := RX0) (T := TX0) (N := 13) hx hb hts (fun w h => wM_c (iX0 w h)) tyX0 tyX0_ok nmX0 hown hK hP hD hS 0 rfl rfl 5 (by decide) (hts _ (wM_c wd_263)) (fun _ h9 => h9) rfl hin rfl (by decide +kernel) rfl rfl (Nat.le_of_ble_eq_true rfl) dX0_init_41 (fun H locs hP hD hS => ?_)
  have hP : va_P (dC, dI) classes [(bk, .inr (0, [.int 0, .ref q_1, .ref q_3, .ref q_5, .ref q_7, .ref q_9, .null, .null, .null, .null, .int 0, .int 0, .null])), (q_1, .inl (k_2, 14, .inl (fun _ => 0))), (q_3, .inl (k_4, 14, .inl (fun _ => 0))), (q_5, .inl (k_6, 14, .inl (fun _ => 0))), (q_7, .inl (k_8, 14, .inl (fun _ => 0))), (q_9, .inl (k_10, 14, .inl (fun _ => 0)))] H := hP
  have hD : va_D A [(bk, .inr (0, [.int 0, .ref q_1, .ref q_3, .ref q_5, .ref q_7, .ref q_9, .null, .null, .null, .null, .int 0, .int 0, .null])), (q_1, .inl (k_2, 14, .inl (fun _ => 0))), (q_3, .inl (k_4, 14, .inl (fun _ => 0))), (q_5, .inl (k_6, 14, .inl (fun _ => 0))), (q_7, .inl (k_8, 14, .inl (fun _ => 0))), (q_9, .inl (k_10, 14, .inl (fun _ => 0)))] := hD
  refine lv_aload_n hx hb dX0_init_44 rfl (lv_at hl 0 rfl) ?_
  refine lv_bipush (v := 14) hx hb dX0_init_45 (by decide) ?_
  refine va_newa (atype := .int) (a0 := (14, .inl (fun _ => 0))) (ty := .int) hx hb (hts _ (wM_c wd_237)) rfl hK hP hD hS hA (fun _ => rfl) (by decide) rfl (by decide) (Nat.le_of_ble_eq_true rfl) (Nat.le_of_ble_eq_true rfl) dX0_init_47 (fun q_11 k_12 H hK hP hD hS => ?_)
  have hP : va_P (dC, dI) classes [(bk, .inr (0, [.int 0, .ref q_1, .ref q_3, .ref q_5, .ref q_7, .ref q_9, .null, .null, .null, .null, .int 0, .int 0, .null])), (q_1, .inl (k_2, 14, .inl (fun _ => 0))), (q_3, .inl (k_4, 14, .inl (fun _ => 0))), (q_5, .inl (k_6, 14, .inl (fun _ => 0))), (q_7, .inl (k_8, 14, .inl (fun _ => 0))), (q_9, .inl (k_10, 14, .inl (fun _ => 0))), (q_11, .inl (k_12, 14, .inl (fun _ => 0)))] H := hP
  have hD : va_D A [(bk, .inr (0, [.int 0, .ref q_1, .ref q_3, .ref q_5, .ref q_7, .ref q_9, .null, .null, .null, .null, .int 0, .int 0, .null])), (q_1, .inl (k_2, 14, .inl (fun _ => 0))), (q_3, .inl (k_4, 14, .inl (fun _ => 0))), (q_5, .inl (k_6, 14, .inl (fun _ => 0))), (q_7, .inl (k_8, 14, .inl (fun _ => 0))), (q_9, .inl (k_10, 14, .inl (fun _ => 0))), (q_11, .inl (k_12, 14, .inl (fun _ => 0)))] := hD
  have hK : va_K (dC, dI) classes [(k_2, .int), (k_4, .int), (k_6, .int), (k_8, .int), (k_10, .int), (k_12, .int)] s := hK
  refine W.widen (k := 6) (n := 84) (Nat.le_of_ble_eq_true rfl) (Nat.le_of_ble_eq_true rfl) ?_
  refine va_putF (D := (dC, dI)) (ci := 0) (v := .ref q_11) (ty := (.array .int)) (C := RX0) (T := TX0) (N := 13) hx hb hts (fun w h => wM_c (iX0 w h)) tyX0 tyX0_ok nmX0 hown hK hP hD hS 0 rfl rfl 6 (by decide) (hts _ (wM_c wd_267)) (fun _ h9 => h9) rfl hin rfl (by decide +kernel) rfl rfl (Nat.le_of_ble_eq_true rfl) dX0_init_49 (fun H locs hP hD hS => ?_)
  have hP : va_P (dC, dI) classes [(bk, .inr (0, [.int 0, .ref q_1, .ref q_3, .ref q_5, .ref q_7, .ref q_9, .ref q_11, .null, .null, .null, .int 0, .int 0, .null])), (q_1, .inl (k_2, 14, .inl (fun _ => 0))), (q_3, .inl (k_4, 14, .inl (fun _ => 0))), (q_5, .inl (k_6, 14, .inl (fun _ => 0))), (q_7, .inl (k_8, 14, .inl (fun _ => 0))), (q_9, .inl (k_10, 14, .inl (fun _ => 0))), (q_11, .inl (k_12, 14, .inl (fun _ => 0)))] H := hP
  have hD : va_D A [(bk, .inr (0, [.int 0, .ref q_1, .ref q_3, .ref q_5, .ref q_7, .ref q_9, .ref q_11, .null, .null, .null, .int 0, .int 0, .null])), (q_1, .inl (k_2, 14, .inl (fun _ => 0))), (q_3, .inl (k_4, 14, .inl (fun _ => 0))), (q_5, .inl (k_6, 14, .inl (fun _ => 0))), (q_7, .inl (k_8, 14, .inl (fun _ => 0))), (q_9, .inl (k_10, 14, .inl (fun _ => 0))), (q_11, .inl (k_12, 14, .inl (fun _ => 0)))] := hD
  refine lv_aload_n hx hb dX0_init_52 rfl (lv_at hl 0 rfl) ?_
  refine lv_bipush (v := 14) hx hb dX0_init_53 (by decide) ?_
  refine va_newa (atype := .int) (a0 := (14, .inl (fun _ => 0))) (ty := .int) hx hb (hts _ (wM_c wd_237)) rfl hK hP hD hS hA (fun _ => rfl) (by decide) rfl (by decide) (Nat.le_of_ble_eq_true rfl) (Nat.le_of_ble_eq_true rfl) dX0_init_55 (fun q_13 k_14 H hK hP hD hS => ?_)
  have hP : va_P (dC, dI) classes [(bk, .inr (0, [.int 0, .ref q_1, .ref q_3, .ref q_5, .ref q_7, .ref q_9, .ref q_11, .null, .null, .null, .int 0, .int 0, .null])), (q_1, .inl (k_2, 14, .inl (fun _ => 0))), (q_3, .inl (k_4, 14, .inl (fun _ => 0))), (q_5, .inl (k_6, 14, .inl (fun _ => 0))), (q_7, .inl (k_8, 14, .inl (fun _ => 0))), (q_9, .inl (k_10, 14, .inl (fun _ => 0))), (q_11, .inl (k_12, 14, .inl (fun _ => 0))), (q_13, .inl (k_14, 14, .inl (fun _ => 0)))] H := hP
  have hD : va_D A [(bk, .inr (0, [.int 0, .ref q_1, .ref q_3, .ref q_5, .ref q_7, .ref q_9, .ref q_11, .null, .null, .null, .int 0, .int 0, .null])), (q_1, .inl (k_2, 14, .inl (fun _ => 0))), (q_3, .inl (k_4, 14, .inl (fun _ => 0))), (q_5, .inl (k_6, 14, .inl (fun _ => 0))), (q_7, .inl (k_8, 14, .inl (fun _ => 0))), (q_9, .inl (k_10, 14, .inl (fun _ => 0))), (q_11, .inl (k_12, 14, .inl (fun _ => 0))), (q_13, .inl (k_14, 14, .inl (fun _ => 0)))] := hD
  have hK : va_K (dC, dI) classes [(k_2, .int), (k_4, .int), (k_6, .int), (k_8, .int), (k_10, .int), (k_12, .int), (k_14, .int)] s := hK
  refine W.widen (k := 7) (n := 98) (Nat.le_of_ble_eq_true rfl) (Nat.le_of_ble_eq_true rfl) ?_
  refine va_putF (D := (dC, dI)) (ci := 0) (v := .ref q_13) (ty := (.array .int)) (C := RX0) (T := TX0) (N := 13) hx hb hts (fun w h => wM_c (iX0 w h)) tyX0 tyX0_ok nmX0 hown hK hP hD hS 0 rfl rfl 7 (by decide) (hts _ (wM_c wd_271)) (fun _ h9 => h9) rfl hin rfl (by decide +kernel) rfl rfl (Nat.le_of_ble_eq_true rfl) dX0_init_57 (fun H locs hP hD hS => ?_)
  have hP : va_P (dC, dI) classes [(bk, .inr (0, [.int 0, .ref q_1, .ref q_3, .ref q_5, .ref q_7, .ref q_9, .ref q_11, .ref q_13, .null, .null, .int 0, .int 0, .null])), (q_1, .inl (k_2, 14, .inl (fun _ => 0))), (q_3, .inl (k_4, 14, .inl (fun _ => 0))), (q_5, .inl (k_6, 14, .inl (fun _ => 0))), (q_7, .inl (k_8, 14, .inl (fun _ => 0))), (q_9, .inl (k_10, 14, .inl (fun _ => 0))), (q_11, .inl (k_12, 14, .inl (fun _ => 0))), (q_13, .inl (k_14, 14, .inl (fun _ => 0)))] H := hP
  have hD : va_D A [(bk, .inr (0, [.int 0, .ref q_1, .ref q_3, .ref q_5, .ref q_7, .ref q_9, .ref q_11, .ref q_13, .null, .null, .int 0, .int 0, .null])), (q_1, .inl (k_2, 14, .inl (fun _ => 0))), (q_3, .inl (k_4, 14, .inl (fun _ => 0))), (q_5, .inl (k_6, 14, .inl (fun _ => 0))), (q_7, .inl (k_8, 14, .inl (fun _ => 0))), (q_9, .inl (k_10, 14, .inl (fun _ => 0))), (q_11, .inl (k_12, 14, .inl (fun _ => 0))), (q_13, .inl (k_14, 14, .inl (fun _ => 0)))] := hD
  refine lv_aload_n hx hb dX0_init_60 rfl (lv_at hl 0 rfl) ?_
  refine lv_bipush (v := 14) hx hb dX0_init_61 (by decide) ?_
  refine va_newa (atype := .int) (a0 := (14, .inl (fun _ => 0))) (ty := .int) hx hb (hts _ (wM_c wd_237)) rfl hK hP hD hS hA (fun _ => rfl) (by decide) rfl (by decide) (Nat.le_of_ble_eq_true rfl) (Nat.le_of_ble_eq_true rfl) dX0_init_63 (fun q_15 k_16 H hK hP hD hS => ?_)
  have hP : va_P (dC, dI) classes [(bk, .inr (0, [.int 0, .ref q_1, .ref q_3, .ref q_5, .ref q_7, .ref q_9, .ref q_11, .ref q_13, .null, .null, .int 0, .int 0, .null])), (q_1, .inl (k_2, 14, .inl (fun _ => 0))), (q_3, .inl (k_4, 14, .inl (fun _ => 0))), (q_5, .inl (k_6, 14, .inl (fun _ => 0))), (q_7, .inl (k_8, 14, .inl (fun _ => 0))), (q_9, .inl (k_10, 14, .inl (fun _ => 0))), (q_11, .inl (k_12, 14, .inl (fun _ => 0))), (q_13, .inl (k_14, 14, .inl (fun _ => 0))), (q_15, .inl (k_16, 14, .inl (fun _ => 0)))] H := hP
  have hD : va_D A [(bk, .inr (0, [.int 0, .ref q_1, .ref q_3, .ref q_5, .ref q_7, .ref q_9, .ref q_11, .ref q_13, .null, .null, .int 0, .int 0, .null])), (q_1, .inl (k_2, 14, .inl (fun _ => 0))), (q_3, .inl (k_4, 14, .inl (fun _ => 0))), (q_5, .inl (k_6, 14, .inl (fun _ => 0))), (q_7, .inl (k_8, 14, .inl (fun _ => 0))), (q_9, .inl (k_10, 14, .inl (fun _ => 0))), (q_11, .inl (k_12, 14, .inl (fun _ => 0))), (q_13, .inl (k_14, 14, .inl (fun _ => 0))), (q_15, .inl (k_16, 14, .inl (fun _ => 0)))] := hD
  have hK : va_K (dC, dI) classes [(k_2, .int), (k_4, .int), (k_6, .int), (k_8, .int), (k_10, .int), (k_12, .int), (k_14, .int), (k_16, .int)] s := hK
  refine W.widen (k := 8) (n := 112) (Nat.le_of_ble_eq_true rfl) (Nat.le_of_ble_eq_true rfl) ?_
  refine va_putF (D := (dC, dI)) (ci := 0) (v := .ref q_15) (ty := (.array .int)) (C := RX0) (T := TX0) (N := 13) hx hb hts (fun w h => wM_c (iX0 w h)) tyX0 tyX0_ok nmX0 hown hK hP hD hS 0 rfl rfl 8 (by decide) (hts _ (wM_c wd_275)) (fun _ h9 => h9) rfl hin rfl (by decide +kernel) rfl rfl (Nat.le_of_ble_eq_true rfl) dX0_init_65 (fun H locs hP hD hS => ?_)
  have hP : va_P (dC, dI) classes [(bk, .inr (0, [.int 0, .ref q_1, .ref q_3, .ref q_5, .ref q_7, .ref q_9, .ref q_11, .ref q_13, .ref q_15, .null, .int 0, .int 0, .null])), (q_1, .inl (k_2, 14, .inl (fun _ => 0))), (q_3, .inl (k_4, 14, .inl (fun _ => 0))), (q_5, .inl (k_6, 14, .inl (fun _ => 0))), (q_7, .inl (k_8, 14, .inl (fun _ => 0))), (q_9, .inl (k_10, 14, .inl (fun _ => 0))), (q_11, .inl (k_12, 14, .inl (fun _ => 0))), (q_13, .inl (k_14, 14, .inl (fun _ => 0))), (q_15, .inl (k_16, 14, .inl (fun _ => 0)))] H := hP
  have hD : va_D A [(bk, .inr (0, [.int 0, .ref q_1, .ref q_3, .ref q_5, .ref q_7, .ref q_9, .ref q_11, .ref q_13, .ref q_15, .null, .int 0, .int 0, .null])), (q_1, .inl (k_2, 14, .inl (fun _ => 0))), (q_3, .inl (k_4, 14, .inl (fun _ => 0))), (q_5, .inl (k_6, 14, .inl (fun _ => 0))), (q_7, .inl (k_8, 14, .inl (fun _ => 0))), (q_9, .inl (k_10, 14, .inl (fun _ => 0))), (q_11, .inl (k_12, 14, .inl (fun _ => 0))), (q_13, .inl (k_14, 14, .inl (fun _ => 0))), (q_15, .inl (k_16, 14, .inl (fun _ => 0)))] := hD
  refine lv_aload_n hx hb dX0_init_68 rfl (lv_at hl 0 rfl) ?_
  refine lv_bipush (v := 14) hx hb dX0_init_69 (by decide) ?_
  refine va_newa (atype := .int) (a0 := (14, .inl (fun _ => 0))) (ty := .int) hx hb (hts _ (wM_c wd_237)) rfl hK hP hD hS hA (fun _ => rfl) (by decide) rfl (by decide) (Nat.le_of_ble_eq_true rfl) (Nat.le_of_ble_eq_true rfl) dX0_init_71 (fun q_17 k_18 H hK hP hD hS => ?_)
  have hP : va_P (dC, dI) classes [(bk, .inr (0, [.int 0, .ref q_1, .ref q_3, .ref q_5, .ref q_7, .ref q_9, .ref q_11, .ref q_13, .ref q_15, .null, .int 0, .int 0, .null])), (q_1, .inl (k_2, 14, .inl (fun _ => 0))), (q_3, .inl (k_4, 14, .inl (fun _ => 0))), (q_5, .inl (k_6, 14, .inl (fun _ => 0))), (q_7, .inl (k_8, 14, .inl (fun _ => 0))), (q_9, .inl (k_10, 14, .inl (fun _ => 0))), (q_11, .inl (k_12, 14, .inl (fun _ => 0))), (q_13, .inl (k_14, 14, .inl (fun _ => 0))), (q_15, .inl (k_16, 14, .inl (fun _ => 0))), (q_17, .inl (k_18, 14, .inl (fun _ => 0)))] H := hP
  have hD : va_D A [(bk, .inr (0, [.int 0, .ref q_1, .ref q_3, .ref q_5, .ref q_7, .ref q_9, .ref q_11, .ref q_13, .ref q_15, .null, .int 0, .int 0, .null])), (q_1, .inl (k_2, 14, .inl (fun _ => 0))), (q_3, .inl (k_4, 14, .inl (fun _ => 0))), (q_5, .inl (k_6, 14, .inl (fun _ => 0))), (q_7, .inl (k_8, 14, .inl (fun _ => 0))), (q_9, .inl (k_10, 14, .inl (fun _ => 0))), (q_11, .inl (k_12, 14, .inl (fun _ => 0))), (q_13, .inl (k_14, 14, .inl (fun _ => 0))), (q_15, .inl (k_16, 14, .inl (fun _ => 0))), (q_17, .inl (k_18, 14, .inl (fun _ => 0)))] := hD
  have hK : va_K (dC, dI) classes [(k_2, .int), (k_4, .int), (k_6, .int), (k_8, .int), (k_10, .int), (k_12, .int), (k_14, .int), (k_16, .int), (k_18, .int)] s := hK
  refine W.widen (k := 9) (n := 126) (Nat.le_of_ble_eq_true rfl) (Nat.le_of_ble_eq_true rfl) ?_
  refine va_putF (D := (dC, dI)) (ci := 0) (v := .ref q_17) (ty := (.array .int)) (C := RX0) (T := TX0) (N := 13) hx hb hts (fun w h => wM_c (iX0 w h)) tyX0 tyX0_ok nmX0 hown hK hP hD hS 0 rfl rfl 9 (by decide) (hts _ (wM_c wd_280)) (fun _ h9 => h9) rfl hin rfl (by decide +kernel) rfl rfl (Nat.le_of_ble_eq_true rfl) dX0_init_73 (fun H locs hP hD hS => ?_)
  have hP : va_P (dC, dI) classes [(bk, .inr (0, [.int 0, .ref q_1, .ref q_3, .ref q_5, .ref q_7, .ref q_9, .ref q_11, .ref q_13, .ref q_15, .ref q_17, .int 0, .int 0, .null])), (q_1, .inl (k_2, 14, .inl (fun _ => 0))), (q_3, .inl (k_4, 14, .inl (fun _ => 0))), (q_5, .inl (k_6, 14, .inl (fun _ => 0))), (q_7, .inl (k_8, 14, .inl (fun _ => 0))), (q_9, .inl (k_10, 14, .inl (fun _ => 0))), (q_11, .inl (k_12, 14, .inl (fun _ => 0))), (q_13, .inl (k_14, 14, .inl (fun _ => 0))), (q_15, .inl (k_16, 14, .inl (fun _ => 0))), (q_17, .inl (k_18, 14, .inl (fun _ => 0)))] H := hP
  have hD : va_D A [(bk, .inr (0, [.int 0, .ref q_1, .ref q_3, .ref q_5, .ref q_7, .ref q_9, .ref q_11, .ref q_13, .ref q_15, .ref q_17, .int 0, .int 0, .null])), (q_1, .inl (k_2, 14, .inl (fun _ => 0))), (q_3, .inl (k_4, 14, .inl (fun _ => 0))), (q_5, .inl (k_6, 14, .inl (fun _ => 0))), (q_7, .inl (k_8, 14, .inl (fun _ => 0))), (q_9, .inl (k_10, 14, .inl (fun _ => 0))), (q_11, .inl (k_12, 14, .inl (fun _ => 0))), (q_13, .inl (k_14, 14, .inl (fun _ => 0))), (q_15, .inl (k_16, 14, .inl (fun _ => 0))), (q_17, .inl (k_18, 14, .inl (fun _ => 0)))] := hD
  refine lv_aload_n hx hb dX0_init_76 rfl (lv_at hl 0 rfl) ?_
  refine lv_iconst (v := (-1)) hx hb dX0_init_77 (by decide) ?_
  refine va_put (D := (dC, dI)) (ci := 0) (v := .int (-1)) (ty := .int) (C := RX0) (T := TX0) (N := 13) hx hb hts (fun w h => wM_c (iX0 w h)) tyX0 tyX0_ok nmX0 hown hK hP hD hS 0 rfl rfl 11 (by decide) (hts _ (wM_c wd_288)) (fun _ h9 => h9) rfl (by decide +kernel) rfl rfl (Nat.le_of_ble_eq_true rfl) dX0_init_78 (fun H locs hP hD hS => ?_)
  have hP : va_P (dC, dI) classes [(bk, .inr (0, [.int 0, .ref q_1, .ref q_3, .ref q_5, .ref q_7, .ref q_9, .ref q_11, .ref q_13, .ref q_15, .ref q_17, .int 0, .int (-1), .null])), (q_1, .inl (k_2, 14, .inl (fun _ => 0))), (q_3, .inl (k_4, 14, .inl (fun _ => 0))), (q_5, .inl (k_6, 14, .inl (fun _ => 0))), (q_7, .inl (k_8, 14, .inl (fun _ => 0))), (q_9, .inl (k_10, 14, .inl (fun _ => 0))), (q_11, .inl (k_12, 14, .inl (fun _ => 0))), (q_13, .inl (k_14, 14, .inl (fun _ => 0))), (q_15, .inl (k_16, 14, .inl (fun _ => 0))), (q_17, .inl (k_18, 14, .inl (fun _ => 0)))] H := hP
  have hD : va_D A [(bk, .inr (0, [.int 0, .ref q_1, .ref q_3, .ref q_5, .ref q_7, .ref q_9, .ref q_11, .ref q_13, .ref q_15, .ref q_17, .int 0, .int (-1), .null])), (q_1, .inl (k_2, 14, .inl (fun _ => 0))), (q_3, .inl (k_4, 14, .inl (fun _ => 0))), (q_5, .inl (k_6, 14, .inl (fun _ => 0))), (q_7, .inl (k_8, 14, .inl (fun _ => 0))), (q_9, .inl (k_10, 14, .inl (fun _ => 0))), (q_11, .inl (k_12, 14, .inl (fun _ => 0))), (q_13, .inl (k_14, 14, .inl (fun _ => 0))), (q_15, .inl (k_16, 14, .inl (fun _ => 0))), (q_17, .inl (k_18, 14, .inl (fun _ => 0)))] := hD
  refine lv_aload_n hx hb dX0_init_81 rfl (lv_at hl 0 rfl) ?_
  refine va_new (ci := 3) (fs := [.int 0, .null, .int 0, .null, .null, .int 0, .null, .null, .null, .int 0, .null, .null, .null]) (C := RX3) (T := TX3) (N := 13) hx hb hts (fun w h => wM_c (iX3 w h)) tyX3 tyX3_ok hown (hts _ (wM_c wd_154)) (hts _ (wM_c wd_155)) (hts _ (wM_c wd_116)) hK hP hD hS hA rfl dfX3 (Nat.le_of_ble_eq_true rfl) (Nat.le_of_ble_eq_true rfl) dX0_init_82 (fun q_19 H hP hD hS => ?_)
  have hP : va_P (dC, dI) classes [(bk, .inr (0, [.int 0, .ref q_1, .ref q_3, .ref q_5, .ref q_7, .ref q_9, .ref q_11, .ref q_13, .ref q_15, .ref q_17, .int 0, .int (-1), .null])), (q_1, .inl (k_2, 14, .inl (fun _ => 0))), (q_3, .inl (k_4, 14, .inl (fun _ => 0))), (q_5, .inl (k_6, 14, .inl (fun _ => 0))), (q_7, .inl (k_8, 14, .inl (fun _ => 0))), (q_9, .inl (k_10, 14, .inl (fun _ => 0))), (q_11, .inl (k_12, 14, .inl (fun _ => 0))), (q_13, .inl (k_14, 14, .inl (fun _ => 0))), (q_15, .inl (k_16, 14, .inl (fun _ => 0))), (q_17, .inl (k_18, 14, .inl (fun _ => 0))), (q_19, .inr (3, [.int 0, .null, .int 0, .null, .null, .int 0, .null, .null, .null, .int 0, .null, .null, .null]))] H := hP
  have hD : va_D A [(bk, .inr (0, [.int 0, .ref q_1, .ref q_3, .ref q_5, .ref q_7, .ref q_9, .ref q_11, .ref q_13, .ref q_15, .ref q_17, .int 0, .int (-1), .null])), (q_1, .inl (k_2, 14, .inl (fun _ => 0))), (q_3, .inl (k_4, 14, .inl (fun _ => 0))), (q_5, .inl (k_6, 14, .inl (fun _ => 0))), (q_7, .inl (k_8, 14, .inl (fun _ => 0))), (q_9, .inl (k_10, 14, .inl (fun _ => 0))), (q_11, .inl (k_12, 14, .inl (fun _ => 0))), (q_13, .inl (k_14, 14, .inl (fun _ => 0))), (q_15, .inl (k_16, 14, .inl (fun _ => 0))), (q_17, .inl (k_18, 14, .inl (fun _ => 0))), (q_19, .inr (3, [.int 0, .null, .int 0, .null, .null, .int 0, .null, .null, .null, .int 0, .null, .null, .null]))] := hD
  refine W.widen (k := 10) (n := 139) (Nat.le_of_ble_eq_true rfl) (Nat.le_of_ble_eq_true rfl) ?_
  refine lv_dup hx hb dX0_init_85 rfl ?_
  have hPc := hP.sub (ws' := [(q_19, .inr (3, [.int 0, .null, .int 0, .null, .null, .int 0, .null, .null, .null, .int 0, .null, .null, .null]))]) [10] rfl
  have hDc := hD.sub (ws' := [(q_19, .inr (3, [.int 0, .null, .int 0, .null, .null, .int 0, .null, .null, .null, .int 0, .null, .null, .null]))]) [10] (by decide) rfl
  have hKc := hK.sub (tys' := []) [] rfl
  have hFc := va_free (wc := [(q_19, .inr (3, [.int 0, .null, .int 0, .null, .null, .int 0, .null, .null, .null, .int 0, .null, .null, .null]))]) hD hS hA [10] rfl
  refine va_callv (va_runIN (As := []) (rest := [.ref q_19, .ref bk]) ⟨hx, hb, hml, hown, hts⟩ (n_Gear l dC dI n0 H.size q_19 ) ⟨va_cnB 0 hts (gI (fun w h => wM_c h) wd_158) rfl rfl rfl (hG.1 _ wd_156) (hts _ (wM_c wd_116)) (by decide +kernel) ⟨Nat.le_of_ble_eq_true rfl, Nat.le_of_ble_eq_true rfl⟩, rfl, (hts _ (wM_c wd_157))⟩ ⟨fun a U g mk q => by obtain ⟨q0, q1, q2, qG, qP, qK, qD⟩ := q; exact ⟨q0, q1, q2, GW.blind qG, qP, va_K.moved (u := U) (U := U.calling g mk a) (Vm.Alike.refl U.vm) qK, qD⟩, fun U hU hW => ⟨rfl, by rw [hU], Nat.le_trans hn0 hS.1, GW.go hW hU hG (fun q hq hA9 => hS.2.1 q hq (fun h => hA9 (hA0 q h))), by rw [hU]; exact hPc, va_K.moved hW.alike hKc, hDc.weaken (fun _ _ _ h => hA0 _ h)⟩⟩ rfl rfl hl.1 rfl (lv_room (Nat.le_of_ble_eq_true rfl)) dX0_init_86 ⟨Nat.le_of_ble_eq_true rfl, Nat.le_of_ble_eq_true rfl⟩) hS (fun q _ h => hFc q h) hFc (fun u t H1 locs ht hvm hw_23 hB hz1 hk1 hS => ?_)
  obtain ⟨gr_24, gr_25, gr_26, gr_27, gr_28, gr_29, gr_30, gr_31, gr_32, hP1, hK1, hD1⟩ := hB
  rw [ht] at hP1
  obtain ⟨hP, hD⟩ := va_join (wr := [(bk, .inr (0, [.int 0, .ref q_1, .ref q_3, .ref q_5, .ref q_7, .ref q_9, .ref q_11, .ref q_13, .ref q_15, .ref q_17, .int 0, .int (-1), .null])), (q_1, .inl (k_2, 14, .inl (fun _ => 0))), (q_3, .inl (k_4, 14, .inl (fun _ => 0))), (q_5, .inl (k_6, 14, .inl (fun _ => 0))), (q_7, .inl (k_8, 14, .inl (fun _ => 0))), (q_9, .inl (k_10, 14, .inl (fun _ => 0))), (q_11, .inl (k_12, 14, .inl (fun _ => 0))), (q_13, .inl (k_14, 14, .inl (fun _ => 0))), (q_15, .inl (k_16, 14, .inl (fun _ => 0))), (q_17, .inl (k_18, 14, .inl (fun _ => 0)))]) (w1 := [(q_19, .inr (3, [.int 0, .ref gr_24, .int 0, .ref gr_25, .ref gr_26, .int 0, .ref gr_27, .ref gr_28, .ref gr_29, .int 0, .ref gr_30, .ref gr_31, .ref gr_32]))]) hP hD [10] [0, 1, 2, 3, 4, 5, 6, 7, 8, 9] rfl rfl (by decide) (by decide) hk1 hFc hP1 hD1
  generalize H1 = H at hP hS ⊢
  have hP : va_P (dC, dI) classes [(bk, .inr (0, [.int 0, .ref q_1, .ref q_3, .ref q_5, .ref q_7, .ref q_9, .ref q_11, .ref q_13, .ref q_15, .ref q_17, .int 0, .int (-1), .null])), (q_1, .inl (k_2, 14, .inl (fun _ => 0))), (q_3, .inl (k_4, 14, .inl (fun _ => 0))), (q_5, .inl (k_6, 14, .inl (fun _ => 0))), (q_7, .inl (k_8, 14, .inl (fun _ => 0))), (q_9, .inl (k_10, 14, .inl (fun _ => 0))), (q_11, .inl (k_12, 14, .inl (fun _ => 0))), (q_13, .inl (k_14, 14, .inl (fun _ => 0))), (q_15, .inl (k_16, 14, .inl (fun _ => 0))), (q_17, .inl (k_18, 14, .inl (fun _ => 0))), (q_19, .inr (3, [.int 0, .ref gr_24, .int 0, .ref gr_25, .ref gr_26, .int 0, .ref gr_27, .ref gr_28, .ref gr_29, .int 0, .ref gr_30, .ref gr_31, .ref gr_32]))] H := hP
  have hD : va_D A [(bk, .inr (0, [.int 0, .ref q_1, .ref q_3, .ref q_5, .ref q_7, .ref q_9, .ref q_11, .ref q_13, .ref q_15, .ref q_17, .int 0, .int (-1), .null])), (q_1, .inl (k_2, 14, .inl (fun _ => 0))), (q_3, .inl (k_4, 14, .inl (fun _ => 0))), (q_5, .inl (k_6, 14, .inl (fun _ => 0))), (q_7, .inl (k_8, 14, .inl (fun _ => 0))), (q_9, .inl (k_10, 14, .inl (fun _ => 0))), (q_11, .inl (k_12, 14, .inl (fun _ => 0))), (q_13, .inl (k_14, 14, .inl (fun _ => 0))), (q_15, .inl (k_16, 14, .inl (fun _ => 0))), (q_17, .inl (k_18, 14, .inl (fun _ => 0))), (q_19, .inr (3, [.int 0, .ref gr_24, .int 0, .ref gr_25, .ref gr_26, .int 0, .ref gr_27, .ref gr_28, .ref gr_29, .int 0, .ref gr_30, .ref gr_31, .ref gr_32]))] := hD
  refine W.widen (k := 19) (n := 175) (Nat.le_of_ble_eq_true rfl) (Nat.le_of_ble_eq_true rfl) ?_
  refine va_putF (D := (dC, dI)) (ci := 0) (v := .ref q_19) (ty := (.object "MineAir$Gear")) (C := RX0) (T := TX0) (N := 13) hx hb hts (fun w h => wM_c (iX0 w h)) tyX0 tyX0_ok nmX0 hown hK hP hD hS 0 rfl rfl 12 (by decide) (hts _ (wM_c wd_293)) (fun _ h9 => h9) rfl hin rfl (by decide +kernel) rfl rfl (Nat.le_of_ble_eq_true rfl) dX0_init_89 (fun H locs hP hD hS => ?_)
  have hP : va_P (dC, dI) classes [(bk, .inr (0, [.int 0, .ref q_1, .ref q_3, .ref q_5, .ref q_7, .ref q_9, .ref q_11, .ref q_13, .ref q_15, .ref q_17, .int 0, .int (-1), .ref q_19])), (q_1, .inl (k_2, 14, .inl (fun _ => 0))), (q_3, .inl (k_4, 14, .inl (fun _ => 0))), (q_5, .inl (k_6, 14, .inl (fun _ => 0))), (q_7, .inl (k_8, 14, .inl (fun _ => 0))), (q_9, .inl (k_10, 14, .inl (fun _ => 0))), (q_11, .inl (k_12, 14, .inl (fun _ => 0))), (q_13, .inl (k_14, 14, .inl (fun _ => 0))), (q_15, .inl (k_16, 14, .inl (fun _ => 0))), (q_17, .inl (k_18, 14, .inl (fun _ => 0))), (q_19, .inr (3, [.int 0, .ref gr_24, .int 0, .ref gr_25, .ref gr_26, .int 0, .ref gr_27, .ref gr_28, .ref gr_29, .int 0, .ref gr_30, .ref gr_31, .ref gr_32]))] H := hP
  have hD : va_D A [(bk, .inr (0, [.int 0, .ref q_1, .ref q_3, .ref q_5, .ref q_7, .ref q_9, .ref q_11, .ref q_13, .ref q_15, .ref q_17, .int 0, .int (-1), .ref q_19])), (q_1, .inl (k_2, 14, .inl (fun _ => 0))), (q_3, .inl (k_4, 14, .inl (fun _ => 0))), (q_5, .inl (k_6, 14, .inl (fun _ => 0))), (q_7, .inl (k_8, 14, .inl (fun _ => 0))), (q_9, .inl (k_10, 14, .inl (fun _ => 0))), (q_11, .inl (k_12, 14, .inl (fun _ => 0))), (q_13, .inl (k_14, 14, .inl (fun _ => 0))), (q_15, .inl (k_16, 14, .inl (fun _ => 0))), (q_17, .inl (k_18, 14, .inl (fun _ => 0))), (q_19, .inr (3, [.int 0, .ref gr_24, .int 0, .ref gr_25, .ref gr_26, .int 0, .ref gr_27, .ref gr_28, .ref gr_29, .int 0, .ref gr_30, .ref gr_31, .ref gr_32]))] := hD
  have hP9 := hP.sub (ws' := [(bk, .inr (0, [.int 0, .ref q_1, .ref q_3, .ref q_5, .ref q_7, .ref q_9, .ref q_11, .ref q_13, .ref q_15, .ref q_17, .int 0, .int (-1), .ref q_19])), (q_19, .inr (3, [.int 0, .ref gr_24, .int 0, .ref gr_25, .ref gr_26, .int 0, .ref gr_27, .ref gr_28, .ref gr_29, .int 0, .ref gr_30, .ref gr_31, .ref gr_32])), (q_13, .inl (k_14, 14, .inl (fun _ => 0))), (q_15, .inl (k_16, 14, .inl (fun _ => 0))), (q_17, .inl (k_18, 14, .inl (fun _ => 0)))]) [0, 10, 7, 8, 9] rfl
  have hD9 := hD.sub (ws' := [(bk, .inr (0, [.int 0, .ref q_1, .ref q_3, .ref q_5, .ref q_7, .ref q_9, .ref q_11, .ref q_13, .ref q_15, .ref q_17, .int 0, .int (-1), .ref q_19])), (q_19, .inr (3, [.int 0, .ref gr_24, .int 0, .ref gr_25, .ref gr_26, .int 0, .ref gr_27, .ref gr_28, .ref gr_29, .int 0, .ref gr_30, .ref gr_31, .ref gr_32])), (q_13, .inl (k_14, 14, .inl (fun _ => 0))), (q_15, .inl (k_16, 14, .inl (fun _ => 0))), (q_17, .inl (k_18, 14, .inl (fun _ => 0)))]) [0, 10, 7, 8, 9] (by decide) rfl
  have hK9 := hK.sub (tys' := [(k_14, .int), (k_16, .int), (k_18, .int)]) [6, 7, 8] rfl
  exact W.vret hx hb hr (fun t ht hW => ⟨⟨(), rfl, trivial, q_1, q_3, q_5, q_7, q_9, q_11, q_13, q_15, q_17, q_19, gr_24, gr_25, gr_26, gr_27, gr_28, gr_29, gr_30, gr_31, gr_32, k_14, k_16, k_18, by rw [ht]; exact hP9, va_K.moved hW.alike hK9, hD9⟩, hS.F ht⟩) hS.2.2 dX0_init_92
set_option maxHeartbeats 4000000 in
set_option maxRecDepth 100000 in
theorem n_Reader (l : Launch) (dC : Nat → ClassId) (dI : Nat → Nat → Nat) (n0 sz : Nat) (rd : Nat) (dr : Nat) : Met l yX7_init (wM yX7_init cX7_init 2 none) ({ frames := 1, cells := 5, slots := 694, locals := 12 }) (va_Pc [.ref rd, .ref dr] (fun U => U.heap.size = sz ∧ n0 ≤ sz ∧ GW n0 U ∧ va_P (dC, dI) classes [(rd, .inr (7, [.null, .int 0, .int 0, .int 0, .null, .null, .null, .null, .int 0, .null, .int 0, .int 0, .int 0, .int 0, .long 0]))] U.heap ∧ va_K (dC, dI) classes [] U ∧ va_D (fun q => n0 ≤ q) [(rd, .inr (7, [.null, .int 0, .int 0, .int 0, .null, .null, .null, .null, .int 0, .null, .int 0, .int 0, .int 0, .int 0, .long 0]))])) (va_Qv (fun _ : Unit => True) (fun (_ : Unit) (t : State) => ∃ (rd_tape : Nat), ∃ (rd_names : Nat), ∃ (rd_nameKind : Nat), ∃ (rd_nameNumber : Nat), ∃ (rd_knotNames : Nat), ∃ (kt : ClassId), va_P (dC, dI) classes [(rd, .inr (7, [.ref rd_tape, .int 0, .int 0, .int 0, .ref dr, .ref rd_names, .ref rd_nameKind, .ref rd_nameNumber, .int 0, .ref rd_knotNames, .int 0, .int 0, .int 0, .int 0, .long 0])), (rd_tape, .inl (kt, 600, .inl (fun _ => 0)))] t.heap ∧ va_K (dC, dI) classes [(kt, .int)] t ∧ va_D (va_A [(rd, .inr (7, [.null, .int 0, .int 0, .int 0, .null, .null, .null, .null, .int 0, .null, .int 0, .int 0, .int 0, .int 0, .long 0]))] sz) [(rd, .inr (7, [.ref rd_tape, .int 0, .int 0, .int 0, .ref dr, .ref rd_names, .ref rd_nameKind, .ref rd_nameNumber, .int 0, .ref rd_knotNames, .int 0, .int 0, .int 0, .int 0, .long 0])), (rd_tape, .inl (kt, 600, .inl (fun _ => 0)))]) (va_A [(rd, .inr (7, [.null, .int 0, .int 0, .int 0, .null, .null, .null, .null, .int 0, .null, .int 0, .int 0, .int 0, .int 0, .long 0]))] sz)) 5 694 (va_A [(rd, .inr (7, [.null, .int 0, .int 0, .int 0, .null, .null, .null, .null, .int 0, .null, .int 0, .int 0, .int 0, .int 0, .long 0]))] sz) := by
  refine Met.ofW (cc := cX7_init) (maxL := 2) (ret := none) (by decide) rfl ?_
  intro p e s m args below meth c s₁ B hml hv
  obtain ⟨rfl, hsz, hn0, hG, hP, hK, hD0⟩ := hv
  have hx := B.exec
  have hb := B.bytes
  have hr := B.returns
  have hts := atoms_spec (ws := wM yX7_init cX7_init 2 none) B.pre
  have hown : s.vm.findClass RX7 = some m.cls := findClass_of_methodNamed B.named
  have hlocks := B.notSynchronized
  have hin : meth.name = "<init>" := (name_of_methodNamed B.named B.method).1
  subst hsz
  have hD := hD0.self (sz := s.heap.size)
  have hA0 := vA_n0 hD0 hn0
  generalize hAe : va_A [(rd, .inr (7, [.null, .int 0, .int 0, .int 0, .null, .null, .null, .null, .int 0, .null, .int 0, .int 0, .int 0, .int 0, .long 0]))] s.heap.size = A at hD hA0 ⊢
  have hA : ∀ q : Nat, s.heap.size ≤ q → A q := fun q h => by rw [← hAe]; exact Or.inr h
  have hS : va_S A s.heap s.heap [] := va_S.rf
  have hl := lv_entry ([.ref rd, .ref dr]) (n := 2) (Nat.le_of_ble_eq_true rfl)
  rw [lg_entry_eq]
  generalize (lg_sl ([.ref rd, .ref dr]) ++ List.replicate (2 - (lg_sl ([.ref rd, .ref dr])).length) Slot.unset).toArray = ls at hl ⊢
  have hl : lv_has ls 2 [(0, .ref rd), (1, .ref dr)] := hl
  refine lv_aload_n hx hb dX7_init_0 rfl (lv_at hl 0 rfl) ?_
  refine W.objInit hx hb hown (hts _ (wM_c wd_332)) (hts _ (wM_c wd_146)) (hts _ (wM_c wd_objInit)) rfl (by rw [hml]; exact hl.1) rfl dX7_init_1 (Nat.le_of_ble_eq_true rfl) (Nat.le_of_ble_eq_true rfl) ?_
  refine W.eq (g2 := F0 m 4 ls []) rfl ?_
  refine lv_aload_n hx hb dX7_init_4 rfl (lv_at hl 0 rfl) ?_
  refine lv_sipush (v := 600) hx hb dX7_init_5 (by decide) ?_
  refine va_newa (atype := .int) (a0 := (600, .inl (fun _ => 0))) (ty := .int) hx hb (hts _ (wM_c wd_237)) rfl hK hP hD hS hA (fun _ => rfl) (by decide) rfl (by decide) (Nat.le_of_ble_eq_true rfl) (Nat.le_of_ble_eq_true rfl) dX7_init_8 (fun q_1 k_2 H hK hP hD hS => ?_)
  have hP : va_P (dC, dI) classes [(rd, .inr (7, [.null, .int 0, .int 0, .int 0, .null, .null, .null, .null, .int 0, .null, .int 0, .int 0, .int 0, .int 0, .long 0])), (q_1, .inl (k_2, 600, .inl (fun _ => 0)))] H := hP
  have hD : va_D A [(rd, .inr (7, [.null, .int 0, .int 0, .int 0, .null, .null, .null, .null, .int 0, .null, .int 0, .int 0, .int 0, .int 0, .long 0])), (q_1, .inl (k_2, 600, .inl (fun _ => 0)))] := hD
  have hK : va_K (dC, dI) classes [(k_2, .int)] s := hK
  refine W.widen (k := 1) (n := 600) (Nat.le_of_ble_eq_true rfl) (Nat.le_of_ble_eq_true rfl) ?_
  refine va_putF (D := (dC, dI)) (ci := 7) (v := .ref q_1) (ty := (.array .int)) (C := RX7) (T := TX7) (N := 15) hx hb hts (fun w h => wM_c (iX7 w h)) tyX7 tyX7_ok nmX7 hown hK hP hD hS 0 rfl rfl 0 (by decide) (hts _ (wM_c wd_333)) (fun _ h9 => h9) rfl hin rfl (by decide +kernel) rfl rfl (Nat.le_of_ble_eq_true rfl) dX7_init_10 (fun H locs hP hD hS => ?_)
  have hP : va_P (dC, dI) classes [(rd, .inr (7, [.ref q_1, .int 0, .int 0, .int 0, .null, .null, .null, .null, .int 0, .null, .int 0, .int 0, .int 0, .int 0, .long 0])), (q_1, .inl (k_2, 600, .inl (fun _ => 0)))] H := hP
  have hD : va_D A [(rd, .inr (7, [.ref q_1, .int 0, .int 0, .int 0, .null, .null, .null, .null, .int 0, .null, .int 0, .int 0, .int 0, .int 0, .long 0])), (q_1, .inl (k_2, 600, .inl (fun _ => 0)))] := hD
  refine lv_aload_n hx hb dX7_init_13 rfl (lv_at hl 0 rfl) ?_
  refine lv_bipush (v := 28) hx hb dX7_init_14 (by decide) ?_
  refine va_newa (atype := .long) (a0 := (28, .inr (.inl (fun _ => 0)))) (ty := .long) hx hb (hts _ (wM_c wd_382)) rfl hK hP hD hS hA (fun _ => rfl) (by decide) rfl (by decide) (Nat.le_of_ble_eq_true rfl) (Nat.le_of_ble_eq_true rfl) dX7_init_16 (fun q_3 k_4 H hK hP hD hS => ?_)
  have hP : va_P (dC, dI) classes [(rd, .inr (7, [.ref q_1, .int 0, .int 0, .int 0, .null, .null, .null, .null, .int 0, .null, .int 0, .int 0, .int 0, .int 0, .long 0])), (q_1, .inl (k_2, 600, .inl (fun _ => 0))), (q_3, .inl (k_4, 28, .inr (.inl (fun _ => 0))))] H := hP
  have hD : va_D A [(rd, .inr (7, [.ref q_1, .int 0, .int 0, .int 0, .null, .null, .null, .null, .int 0, .null, .int 0, .int 0, .int 0, .int 0, .long 0])), (q_1, .inl (k_2, 600, .inl (fun _ => 0))), (q_3, .inl (k_4, 28, .inr (.inl (fun _ => 0))))] := hD
  have hK : va_K (dC, dI) classes [(k_2, .int), (k_4, .long)] s := hK
  refine W.widen (k := 2) (n := 628) (Nat.le_of_ble_eq_true rfl) (Nat.le_of_ble_eq_true rfl) ?_
  refine va_putF (D := (dC, dI)) (ci := 7) (v := .ref q_3) (ty := (.array .long)) (C := RX7) (T := TX7) (N := 15) hx hb hts (fun w h => wM_c (iX7 w h)) tyX7 tyX7_ok nmX7 hown hK hP hD hS 0 rfl rfl 5 (by decide) (hts _ (wM_c wd_341)) (fun _ h9 => h9) rfl hin rfl (by decide +kernel) rfl rfl (Nat.le_of_ble_eq_true rfl) dX7_init_18 (fun H locs hP hD hS => ?_)
  have hP : va_P (dC, dI) classes [(rd, .inr (7, [.ref q_1, .int 0, .int 0, .int 0, .null, .ref q_3, .null, .null, .int 0, .null, .int 0, .int 0, .int 0, .int 0, .long 0])), (q_1, .inl (k_2, 600, .inl (fun _ => 0))), (q_3, .inl (k_4, 28, .inr (.inl (fun _ => 0))))] H := hP
  have hD : va_D A [(rd, .inr (7, [.ref q_1, .int 0, .int 0, .int 0, .null, .ref q_3, .null, .null, .int 0, .null, .int 0, .int 0, .int 0, .int 0, .long 0])), (q_1, .inl (k_2, 600, .inl (fun _ => 0))), (q_3, .inl (k_4, 28, .inr (.inl (fun _ => 0))))] := hD
  refine lv_aload_n hx hb dX7_init_21 rfl (lv_at hl 0 rfl) ?_
  refine lv_bipush (v := 28) hx hb dX7_init_22 (by decide) ?_
  refine va_newa (atype := .int) (a0 := (28, .inl (fun _ => 0))) (ty := .int) hx hb (hts _ (wM_c wd_237)) rfl hK hP hD hS hA (fun _ => rfl) (by decide) rfl (by decide) (Nat.le_of_ble_eq_true rfl) (Nat.le_of_ble_eq_true rfl) dX7_init_24 (fun q_5 k_6 H hK hP hD hS => ?_)
  have hP : va_P (dC, dI) classes [(rd, .inr (7, [.ref q_1, .int 0, .int 0, .int 0, .null, .ref q_3, .null, .null, .int 0, .null, .int 0, .int 0, .int 0, .int 0, .long 0])), (q_1, .inl (k_2, 600, .inl (fun _ => 0))), (q_3, .inl (k_4, 28, .inr (.inl (fun _ => 0)))), (q_5, .inl (k_6, 28, .inl (fun _ => 0)))] H := hP
  have hD : va_D A [(rd, .inr (7, [.ref q_1, .int 0, .int 0, .int 0, .null, .ref q_3, .null, .null, .int 0, .null, .int 0, .int 0, .int 0, .int 0, .long 0])), (q_1, .inl (k_2, 600, .inl (fun _ => 0))), (q_3, .inl (k_4, 28, .inr (.inl (fun _ => 0)))), (q_5, .inl (k_6, 28, .inl (fun _ => 0)))] := hD
  have hK : va_K (dC, dI) classes [(k_2, .int), (k_4, .long), (k_6, .int)] s := hK
  refine W.widen (k := 3) (n := 656) (Nat.le_of_ble_eq_true rfl) (Nat.le_of_ble_eq_true rfl) ?_
  refine va_putF (D := (dC, dI)) (ci := 7) (v := .ref q_5) (ty := (.array .int)) (C := RX7) (T := TX7) (N := 15) hx hb hts (fun w h => wM_c (iX7 w h)) tyX7 tyX7_ok nmX7 hown hK hP hD hS 0 rfl rfl 6 (by decide) (hts _ (wM_c wd_342)) (fun _ h9 => h9) rfl hin rfl (by decide +kernel) rfl rfl (Nat.le_of_ble_eq_true rfl) dX7_init_26 (fun H locs hP hD hS => ?_)
  have hP : va_P (dC, dI) classes [(rd, .inr (7, [.ref q_1, .int 0, .int 0, .int 0, .null, .ref q_3, .ref q_5, .null, .int 0, .null, .int 0, .int 0, .int 0, .int 0, .long 0])), (q_1, .inl (k_2, 600, .inl (fun _ => 0))), (q_3, .inl (k_4, 28, .inr (.inl (fun _ => 0)))), (q_5, .inl (k_6, 28, .inl (fun _ => 0)))] H := hP
  have hD : va_D A [(rd, .inr (7, [.ref q_1, .int 0, .int 0, .int 0, .null, .ref q_3, .ref q_5, .null, .int 0, .null, .int 0, .int 0, .int 0, .int 0, .long 0])), (q_1, .inl (k_2, 600, .inl (fun _ => 0))), (q_3, .inl (k_4, 28, .inr (.inl (fun _ => 0)))), (q_5, .inl (k_6, 28, .inl (fun _ => 0)))] := hD
  refine lv_aload_n hx hb dX7_init_29 rfl (lv_at hl 0 rfl) ?_
  refine lv_bipush (v := 28) hx hb dX7_init_30 (by decide) ?_
  refine va_newa (atype := .int) (a0 := (28, .inl (fun _ => 0))) (ty := .int) hx hb (hts _ (wM_c wd_237)) rfl hK hP hD hS hA (fun _ => rfl) (by decide) rfl (by decide) (Nat.le_of_ble_eq_true rfl) (Nat.le_of_ble_eq_true rfl) dX7_init_32 (fun q_7 k_8 H hK hP hD hS => ?_)
  have hP : va_P (dC, dI) classes [(rd, .inr (7, [.ref q_1, .int 0, .int 0, .int 0, .null, .ref q_3, .ref q_5, .null, .int 0, .null, .int 0, .int 0, .int 0, .int 0, .long 0])), (q_1, .inl (k_2, 600, .inl (fun _ => 0))), (q_3, .inl (k_4, 28, .inr (.inl (fun _ => 0)))), (q_5, .inl (k_6, 28, .inl (fun _ => 0))), (q_7, .inl (k_8, 28, .inl (fun _ => 0)))] H := hP
  have hD : va_D A [(rd, .inr (7, [.ref q_1, .int 0, .int 0, .int 0, .null, .ref q_3, .ref q_5, .null, .int 0, .null, .int 0, .int 0, .int 0, .int 0, .long 0])), (q_1, .inl (k_2, 600, .inl (fun _ => 0))), (q_3, .inl (k_4, 28, .inr (.inl (fun _ => 0)))), (q_5, .inl (k_6, 28, .inl (fun _ => 0))), (q_7, .inl (k_8, 28, .inl (fun _ => 0)))] := hD
  have hK : va_K (dC, dI) classes [(k_2, .int), (k_4, .long), (k_6, .int), (k_8, .int)] s := hK
  refine W.widen (k := 4) (n := 684) (Nat.le_of_ble_eq_true rfl) (Nat.le_of_ble_eq_true rfl) ?_
  refine va_putF (D := (dC, dI)) (ci := 7) (v := .ref q_7) (ty := (.array .int)) (C := RX7) (T := TX7) (N := 15) hx hb hts (fun w h => wM_c (iX7 w h)) tyX7 tyX7_ok nmX7 hown hK hP hD hS 0 rfl rfl 7 (by decide) (hts _ (wM_c wd_343)) (fun _ h9 => h9) rfl hin rfl (by decide +kernel) rfl rfl (Nat.le_of_ble_eq_true rfl) dX7_init_34 (fun H locs hP hD hS => ?_)
  have hP : va_P (dC, dI) classes [(rd, .inr (7, [.ref q_1, .int 0, .int 0, .int 0, .null, .ref q_3, .ref q_5, .ref q_7, .int 0, .null, .int 0, .int 0, .int 0, .int 0, .long 0])), (q_1, .inl (k_2, 600, .inl (fun _ => 0))), (q_3, .inl (k_4, 28, .inr (.inl (fun _ => 0)))), (q_5, .inl (k_6, 28, .inl (fun _ => 0))), (q_7, .inl (k_8, 28, .inl (fun _ => 0)))] H := hP
  have hD : va_D A [(rd, .inr (7, [.ref q_1, .int 0, .int 0, .int 0, .null, .ref q_3, .ref q_5, .ref q_7, .int 0, .null, .int 0, .int 0, .int 0, .int 0, .long 0])), (q_1, .inl (k_2, 600, .inl (fun _ => 0))), (q_3, .inl (k_4, 28, .inr (.inl (fun _ => 0)))), (q_5, .inl (k_6, 28, .inl (fun _ => 0))), (q_7, .inl (k_8, 28, .inl (fun _ => 0)))] := hD
  refine lv_aload_n hx hb dX7_init_37 rfl (lv_at hl 0 rfl) ?_
  refine lv_bipush (v := 10) hx hb dX7_init_38 (by decide) ?_
  refine va_newa (atype := .long) (a0 := (10, .inr (.inl (fun _ => 0)))) (ty := .long) hx hb (hts _ (wM_c wd_382)) rfl hK hP hD hS hA (fun _ => rfl) (by decide) rfl (by decide) (Nat.le_of_ble_eq_true rfl) (Nat.le_of_ble_eq_true rfl) dX7_init_40 (fun q_9 k_10 H hK hP hD hS => ?_)
  have hP : va_P (dC, dI) classes [(rd, .inr (7, [.ref q_1, .int 0, .int 0, .int 0, .null, .ref q_3, .ref q_5, .ref q_7, .int 0, .null, .int 0, .int 0, .int 0, .int 0, .long 0])), (q_1, .inl (k_2, 600, .inl (fun _ => 0))), (q_3, .inl (k_4, 28, .inr (.inl (fun _ => 0)))), (q_5, .inl (k_6, 28, .inl (fun _ => 0))), (q_7, .inl (k_8, 28, .inl (fun _ => 0))), (q_9, .inl (k_10, 10, .inr (.inl (fun _ => 0))))] H := hP
  have hD : va_D A [(rd, .inr (7, [.ref q_1, .int 0, .int 0, .int 0, .null, .ref q_3, .ref q_5, .ref q_7, .int 0, .null, .int 0, .int 0, .int 0, .int 0, .long 0])), (q_1, .inl (k_2, 600, .inl (fun _ => 0))), (q_3, .inl (k_4, 28, .inr (.inl (fun _ => 0)))), (q_5, .inl (k_6, 28, .inl (fun _ => 0))), (q_7, .inl (k_8, 28, .inl (fun _ => 0))), (q_9, .inl (k_10, 10, .inr (.inl (fun _ => 0))))] := hD
  have hK : va_K (dC, dI) classes [(k_2, .int), (k_4, .long), (k_6, .int), (k_8, .int), (k_10, .long)] s := hK
  refine W.widen (k := 5) (n := 694) (Nat.le_of_ble_eq_true rfl) (Nat.le_of_ble_eq_true rfl) ?_
  refine va_putF (D := (dC, dI)) (ci := 7) (v := .ref q_9) (ty := (.array .long)) (C := RX7) (T := TX7) (N := 15) hx hb hts (fun w h => wM_c (iX7 w h)) tyX7 tyX7_ok nmX7 hown hK hP hD hS 0 rfl rfl 9 (by decide) (hts _ (wM_c wd_345)) (fun _ h9 => h9) rfl hin rfl (by decide +kernel) rfl rfl (Nat.le_of_ble_eq_true rfl) dX7_init_42 (fun H locs hP hD hS => ?_)
  have hP : va_P (dC, dI) classes [(rd, .inr (7, [.ref q_1, .int 0, .int 0, .int 0, .null, .ref q_3, .ref q_5, .ref q_7, .int 0, .ref q_9, .int 0, .int 0, .int 0, .int 0, .long 0])), (q_1, .inl (k_2, 600, .inl (fun _ => 0))), (q_3, .inl (k_4, 28, .inr (.inl (fun _ => 0)))), (q_5, .inl (k_6, 28, .inl (fun _ => 0))), (q_7, .inl (k_8, 28, .inl (fun _ => 0))), (q_9, .inl (k_10, 10, .inr (.inl (fun _ => 0))))] H := hP
  have hD : va_D A [(rd, .inr (7, [.ref q_1, .int 0, .int 0, .int 0, .null, .ref q_3, .ref q_5, .ref q_7, .int 0, .ref q_9, .int 0, .int 0, .int 0, .int 0, .long 0])), (q_1, .inl (k_2, 600, .inl (fun _ => 0))), (q_3, .inl (k_4, 28, .inr (.inl (fun _ => 0)))), (q_5, .inl (k_6, 28, .inl (fun _ => 0))), (q_7, .inl (k_8, 28, .inl (fun _ => 0))), (q_9, .inl (k_10, 10, .inr (.inl (fun _ => 0))))] := hD
  refine lv_aload_n hx hb dX7_init_45 rfl (lv_at hl 0 rfl) ?_
  refine lv_aload_n hx hb dX7_init_46 rfl (lv_at hl 1 rfl) ?_
  refine va_putF (D := (dC, dI)) (ci := 7) (v := .ref dr) (ty := (.object "MineAir$Book")) (C := RX7) (T := TX7) (N := 15) hx hb hts (fun w h => wM_c (iX7 w h)) tyX7 tyX7_ok nmX7 hown hK hP hD hS 0 rfl rfl 4 (by decide) (hts _ (wM_c wd_340)) (fun _ h9 => h9) rfl hin rfl (by decide +kernel) rfl rfl (Nat.le_of_ble_eq_true rfl) dX7_init_47 (fun H locs hP hD hS => ?_)
  have hP : va_P (dC, dI) classes [(rd, .inr (7, [.ref q_1, .int 0, .int 0, .int 0, .ref dr, .ref q_3, .ref q_5, .ref q_7, .int 0, .ref q_9, .int 0, .int 0, .int 0, .int 0, .long 0])), (q_1, .inl (k_2, 600, .inl (fun _ => 0))), (q_3, .inl (k_4, 28, .inr (.inl (fun _ => 0)))), (q_5, .inl (k_6, 28, .inl (fun _ => 0))), (q_7, .inl (k_8, 28, .inl (fun _ => 0))), (q_9, .inl (k_10, 10, .inr (.inl (fun _ => 0))))] H := hP
  have hD : va_D A [(rd, .inr (7, [.ref q_1, .int 0, .int 0, .int 0, .ref dr, .ref q_3, .ref q_5, .ref q_7, .int 0, .ref q_9, .int 0, .int 0, .int 0, .int 0, .long 0])), (q_1, .inl (k_2, 600, .inl (fun _ => 0))), (q_3, .inl (k_4, 28, .inr (.inl (fun _ => 0)))), (q_5, .inl (k_6, 28, .inl (fun _ => 0))), (q_7, .inl (k_8, 28, .inl (fun _ => 0))), (q_9, .inl (k_10, 10, .inr (.inl (fun _ => 0))))] := hD
  have hP9 := hP.sub (ws' := [(rd, .inr (7, [.ref q_1, .int 0, .int 0, .int 0, .ref dr, .ref q_3, .ref q_5, .ref q_7, .int 0, .ref q_9, .int 0, .int 0, .int 0, .int 0, .long 0])), (q_1, .inl (k_2, 600, .inl (fun _ => 0)))]) [0, 1] rfl
  have hD9 := hD.sub (ws' := [(rd, .inr (7, [.ref q_1, .int 0, .int 0, .int 0, .ref dr, .ref q_3, .ref q_5, .ref q_7, .int 0, .ref q_9, .int 0, .int 0, .int 0, .int 0, .long 0])), (q_1, .inl (k_2, 600, .inl (fun _ => 0)))]) [0, 1] (by decide) rfl
  have hK9 := hK.sub (tys' := [(k_2, .int)]) [0] rfl
  exact W.vret hx hb hr (fun t ht hW => ⟨⟨(), rfl, trivial, q_1, q_3, q_5, q_7, q_9, k_2, by rw [ht]; exact hP9, va_K.moved hW.alike hK9, hD9⟩, hS.F ht⟩) hS.2.2 dX7_init_50
set_option maxHeartbeats 4000000 in
set_option maxRecDepth 100000 in
theorem n_State (l : Launch) (dC : Nat → ClassId) (dI : Nat → Nat → Nat) (n0 sz : Nat) (st : Nat) (bk : Nat) : Met l yX9_init (wM yX9_init cX9_init 2 none) ({ frames := 1, cells := 4, slots := 38, locals := 12 }) (va_Pc [.ref st, .ref bk] (fun U => U.heap.size = sz ∧ n0 ≤ sz ∧ GW n0 U ∧ va_P (dC, dI) classes [(st, .inr (9, [.null, .null, .null, .null, .int 0, .int 0, .int 0, .null]))] U.heap ∧ va_K (dC, dI) classes [] U ∧ va_D (fun q => n0 ≤ q) [(st, .inr (9, [.null, .null, .null, .null, .int 0, .int 0, .int 0, .null]))])) (va_Qv (fun _ : Unit => True) (fun (_ : Unit) (t : State) => ∃ (st_open : Nat), ∃ (st_speed : Nat), ∃ (st_fallen : Nat), ∃ (st_fire : Nat), ∃ (ks1 : ClassId), ∃ (ks2 : ClassId), ∃ (ks3 : ClassId), ∃ (ks4 : ClassId), va_P (dC, dI) classes [(st, .inr (9, [.ref st_open, .ref st_speed, .ref st_fallen, .ref st_fire, .int 0, .int 0, .int 0, .ref bk])), (st_open, .inl (ks1, 6, .inl (fun _ => 0))), (st_speed, .inl (ks2, 4, .inl (fun _ => 0))), (st_fallen, .inl (ks3, 14, .inl (fun _ => 0))), (st_fire, .inl (ks4, 14, .inl (fun _ => 0)))] t.heap ∧ va_K (dC, dI) classes [(ks1, .boolean), (ks2, .int), (ks3, .boolean), (ks4, .int)] t ∧ va_D (va_A [(st, .inr (9, [.null, .null, .null, .null, .int 0, .int 0, .int 0, .null]))] sz) [(st, .inr (9, [.ref st_open, .ref st_speed, .ref st_fallen, .ref st_fire, .int 0, .int 0, .int 0, .ref bk])), (st_open, .inl (ks1, 6, .inl (fun _ => 0))), (st_speed, .inl (ks2, 4, .inl (fun _ => 0))), (st_fallen, .inl (ks3, 14, .inl (fun _ => 0))), (st_fire, .inl (ks4, 14, .inl (fun _ => 0)))]) (va_A [(st, .inr (9, [.null, .null, .null, .null, .int 0, .int 0, .int 0, .null]))] sz)) 4 38 (va_A [(st, .inr (9, [.null, .null, .null, .null, .int 0, .int 0, .int 0, .null]))] sz) := by
  refine Met.ofW (cc := cX9_init) (maxL := 2) (ret := none) (by decide) rfl ?_
  intro p e s m args below meth c s₁ B hml hv
  obtain ⟨rfl, hsz, hn0, hG, hP, hK, hD0⟩ := hv
  have hx := B.exec
  have hb := B.bytes
  have hr := B.returns
  have hts := atoms_spec (ws := wM yX9_init cX9_init 2 none) B.pre
  have hown : s.vm.findClass RX9 = some m.cls := findClass_of_methodNamed B.named
  have hlocks := B.notSynchronized
  have hin : meth.name = "<init>" := (name_of_methodNamed B.named B.method).1
  subst hsz
  have hD := hD0.self (sz := s.heap.size)
  have hA0 := vA_n0 hD0 hn0
  generalize hAe : va_A [(st, .inr (9, [.null, .null, .null, .null, .int 0, .int 0, .int 0, .null]))] s.heap.size = A at hD hA0 ⊢
  have hA : ∀ q : Nat, s.heap.size ≤ q → A q := fun q h => by rw [← hAe]; exact Or.inr h
  have hS : va_S A s.heap s.heap [] := va_S.rf
  have hl := lv_entry ([.ref st, .ref bk]) (n := 2) (Nat.le_of_ble_eq_true rfl)
  rw [lg_entry_eq]
  generalize (lg_sl ([.ref st, .ref bk]) ++ List.replicate (2 - (lg_sl ([.ref st, .ref bk])).length) Slot.unset).toArray = ls at hl ⊢
  have hl : lv_has ls 2 [(0, .ref st), (1, .ref bk)] := hl
  refine lv_aload_n hx hb dX9_init_0 rfl (lv_at hl 0 rfl) ?_
  refine W.objInit hx hb hown (hts _ (wM_c wd_388)) (hts _ (wM_c wd_146)) (hts _ (wM_c wd_objInit)) rfl (by rw [hml]; exact hl.1) rfl dX9_init_1 (Nat.le_of_ble_eq_true rfl) (Nat.le_of_ble_eq_true rfl) ?_
  refine W.eq (g2 := F0 m 4 ls []) rfl ?_
  refine lv_aload_n hx hb dX9_init_4 rfl (lv_at hl 0 rfl) ?_
  refine lv_bipush (v := 6) hx hb dX9_init_5 (by decide) ?_
  refine va_newa (atype := .boolean) (a0 := (6, .inl (fun _ => 0))) (ty := .boolean) hx hb (hts _ (wM_c wd_430)) rfl hK hP hD hS hA (fun _ => rfl) (by decide) rfl (by decide) (Nat.le_of_ble_eq_true rfl) (Nat.le_of_ble_eq_true rfl) dX9_init_7 (fun q_1 k_2 H hK hP hD hS => ?_)
  have hP : va_P (dC, dI) classes [(st, .inr (9, [.null, .null, .null, .null, .int 0, .int 0, .int 0, .null])), (q_1, .inl (k_2, 6, .inl (fun _ => 0)))] H := hP
  have hD : va_D A [(st, .inr (9, [.null, .null, .null, .null, .int 0, .int 0, .int 0, .null])), (q_1, .inl (k_2, 6, .inl (fun _ => 0)))] := hD
  have hK : va_K (dC, dI) classes [(k_2, .boolean)] s := hK
  refine W.widen (k := 1) (n := 6) (Nat.le_of_ble_eq_true rfl) (Nat.le_of_ble_eq_true rfl) ?_
  refine va_putF (D := (dC, dI)) (ci := 9) (v := .ref q_1) (ty := (.array .boolean)) (C := RX9) (T := TX9) (N := 8) hx hb hts (fun w h => wM_c (iX9 w h)) tyX9 tyX9_ok nmX9 hown hK hP hD hS 0 rfl rfl 0 (by decide) (hts _ (wM_c wd_389)) (fun _ h9 => h9) rfl hin rfl (by decide +kernel) rfl rfl (Nat.le_of_ble_eq_true rfl) dX9_init_9 (fun H locs hP hD hS => ?_)
  have hP : va_P (dC, dI) classes [(st, .inr (9, [.ref q_1, .null, .null, .null, .int 0, .int 0, .int 0, .null])), (q_1, .inl (k_2, 6, .inl (fun _ => 0)))] H := hP
  have hD : va_D A [(st, .inr (9, [.ref q_1, .null, .null, .null, .int 0, .int 0, .int 0, .null])), (q_1, .inl (k_2, 6, .inl (fun _ => 0)))] := hD
  refine lv_aload_n hx hb dX9_init_12 rfl (lv_at hl 0 rfl) ?_
  refine lv_iconst (v := 4) hx hb dX9_init_13 (by decide) ?_
  refine va_newa (atype := .int) (a0 := (4, .inl (fun _ => 0))) (ty := .int) hx hb (hts _ (wM_c wd_237)) rfl hK hP hD hS hA (fun _ => rfl) (by decide) rfl (by decide) (Nat.le_of_ble_eq_true rfl) (Nat.le_of_ble_eq_true rfl) dX9_init_14 (fun q_3 k_4 H hK hP hD hS => ?_)
  have hP : va_P (dC, dI) classes [(st, .inr (9, [.ref q_1, .null, .null, .null, .int 0, .int 0, .int 0, .null])), (q_1, .inl (k_2, 6, .inl (fun _ => 0))), (q_3, .inl (k_4, 4, .inl (fun _ => 0)))] H := hP
  have hD : va_D A [(st, .inr (9, [.ref q_1, .null, .null, .null, .int 0, .int 0, .int 0, .null])), (q_1, .inl (k_2, 6, .inl (fun _ => 0))), (q_3, .inl (k_4, 4, .inl (fun _ => 0)))] := hD
  have hK : va_K (dC, dI) classes [(k_2, .boolean), (k_4, .int)] s := hK
  refine W.widen (k := 2) (n := 10) (Nat.le_of_ble_eq_true rfl) (Nat.le_of_ble_eq_true rfl) ?_
  refine va_putF (D := (dC, dI)) (ci := 9) (v := .ref q_3) (ty := (.array .int)) (C := RX9) (T := TX9) (N := 8) hx hb hts (fun w h => wM_c (iX9 w h)) tyX9 tyX9_ok nmX9 hown hK hP hD hS 0 rfl rfl 1 (by decide) (hts _ (wM_c wd_392)) (fun _ h9 => h9) rfl hin rfl (by decide +kernel) rfl rfl (Nat.le_of_ble_eq_true rfl) dX9_init_16 (fun H locs hP hD hS => ?_)
  have hP : va_P (dC, dI) classes [(st, .inr (9, [.ref q_1, .ref q_3, .null, .null, .int 0, .int 0, .int 0, .null])), (q_1, .inl (k_2, 6, .inl (fun _ => 0))), (q_3, .inl (k_4, 4, .inl (fun _ => 0)))] H := hP
  have hD : va_D A [(st, .inr (9, [.ref q_1, .ref q_3, .null, .null, .int 0, .int 0, .int 0, .null])), (q_1, .inl (k_2, 6, .inl (fun _ => 0))), (q_3, .inl (k_4, 4, .inl (fun _ => 0)))] := hD
  refine lv_aload_n hx hb dX9_init_19 rfl (lv_at hl 0 rfl) ?_
  refine lv_bipush (v := 14) hx hb dX9_init_20 (by decide) ?_
  refine va_newa (atype := .boolean) (a0 := (14, .inl (fun _ => 0))) (ty := .boolean) hx hb (hts _ (wM_c wd_430)) rfl hK hP hD hS hA (fun _ => rfl) (by decide) rfl (by decide) (Nat.le_of_ble_eq_true rfl) (Nat.le_of_ble_eq_true rfl) dX9_init_22 (fun q_5 k_6 H hK hP hD hS => ?_)
  have hP : va_P (dC, dI) classes [(st, .inr (9, [.ref q_1, .ref q_3, .null, .null, .int 0, .int 0, .int 0, .null])), (q_1, .inl (k_2, 6, .inl (fun _ => 0))), (q_3, .inl (k_4, 4, .inl (fun _ => 0))), (q_5, .inl (k_6, 14, .inl (fun _ => 0)))] H := hP
  have hD : va_D A [(st, .inr (9, [.ref q_1, .ref q_3, .null, .null, .int 0, .int 0, .int 0, .null])), (q_1, .inl (k_2, 6, .inl (fun _ => 0))), (q_3, .inl (k_4, 4, .inl (fun _ => 0))), (q_5, .inl (k_6, 14, .inl (fun _ => 0)))] := hD
  have hK : va_K (dC, dI) classes [(k_2, .boolean), (k_4, .int), (k_6, .boolean)] s := hK
  refine W.widen (k := 3) (n := 24) (Nat.le_of_ble_eq_true rfl) (Nat.le_of_ble_eq_true rfl) ?_
  refine va_putF (D := (dC, dI)) (ci := 9) (v := .ref q_5) (ty := (.array .boolean)) (C := RX9) (T := TX9) (N := 8) hx hb hts (fun w h => wM_c (iX9 w h)) tyX9 tyX9_ok nmX9 hown hK hP hD hS 0 rfl rfl 2 (by decide) (hts _ (wM_c wd_396)) (fun _ h9 => h9) rfl hin rfl (by decide +kernel) rfl rfl (Nat.le_of_ble_eq_true rfl) dX9_init_24 (fun H locs hP hD hS => ?_)
  have hP : va_P (dC, dI) classes [(st, .inr (9, [.ref q_1, .ref q_3, .ref q_5, .null, .int 0, .int 0, .int 0, .null])), (q_1, .inl (k_2, 6, .inl (fun _ => 0))), (q_3, .inl (k_4, 4, .inl (fun _ => 0))), (q_5, .inl (k_6, 14, .inl (fun _ => 0)))] H := hP
  have hD : va_D A [(st, .inr (9, [.ref q_1, .ref q_3, .ref q_5, .null, .int 0, .int 0, .int 0, .null])), (q_1, .inl (k_2, 6, .inl (fun _ => 0))), (q_3, .inl (k_4, 4, .inl (fun _ => 0))), (q_5, .inl (k_6, 14, .inl (fun _ => 0)))] := hD
  refine lv_aload_n hx hb dX9_init_27 rfl (lv_at hl 0 rfl) ?_
  refine lv_bipush (v := 14) hx hb dX9_init_28 (by decide) ?_
  refine va_newa (atype := .int) (a0 := (14, .inl (fun _ => 0))) (ty := .int) hx hb (hts _ (wM_c wd_237)) rfl hK hP hD hS hA (fun _ => rfl) (by decide) rfl (by decide) (Nat.le_of_ble_eq_true rfl) (Nat.le_of_ble_eq_true rfl) dX9_init_30 (fun q_7 k_8 H hK hP hD hS => ?_)
  have hP : va_P (dC, dI) classes [(st, .inr (9, [.ref q_1, .ref q_3, .ref q_5, .null, .int 0, .int 0, .int 0, .null])), (q_1, .inl (k_2, 6, .inl (fun _ => 0))), (q_3, .inl (k_4, 4, .inl (fun _ => 0))), (q_5, .inl (k_6, 14, .inl (fun _ => 0))), (q_7, .inl (k_8, 14, .inl (fun _ => 0)))] H := hP
  have hD : va_D A [(st, .inr (9, [.ref q_1, .ref q_3, .ref q_5, .null, .int 0, .int 0, .int 0, .null])), (q_1, .inl (k_2, 6, .inl (fun _ => 0))), (q_3, .inl (k_4, 4, .inl (fun _ => 0))), (q_5, .inl (k_6, 14, .inl (fun _ => 0))), (q_7, .inl (k_8, 14, .inl (fun _ => 0)))] := hD
  have hK : va_K (dC, dI) classes [(k_2, .boolean), (k_4, .int), (k_6, .boolean), (k_8, .int)] s := hK
  refine W.widen (k := 4) (n := 38) (Nat.le_of_ble_eq_true rfl) (Nat.le_of_ble_eq_true rfl) ?_
  refine va_putF (D := (dC, dI)) (ci := 9) (v := .ref q_7) (ty := (.array .int)) (C := RX9) (T := TX9) (N := 8) hx hb hts (fun w h => wM_c (iX9 w h)) tyX9 tyX9_ok nmX9 hown hK hP hD hS 0 rfl rfl 3 (by decide) (hts _ (wM_c wd_402)) (fun _ h9 => h9) rfl hin rfl (by decide +kernel) rfl rfl (Nat.le_of_ble_eq_true rfl) dX9_init_32 (fun H locs hP hD hS => ?_)
  have hP : va_P (dC, dI) classes [(st, .inr (9, [.ref q_1, .ref q_3, .ref q_5, .ref q_7, .int 0, .int 0, .int 0, .null])), (q_1, .inl (k_2, 6, .inl (fun _ => 0))), (q_3, .inl (k_4, 4, .inl (fun _ => 0))), (q_5, .inl (k_6, 14, .inl (fun _ => 0))), (q_7, .inl (k_8, 14, .inl (fun _ => 0)))] H := hP
  have hD : va_D A [(st, .inr (9, [.ref q_1, .ref q_3, .ref q_5, .ref q_7, .int 0, .int 0, .int 0, .null])), (q_1, .inl (k_2, 6, .inl (fun _ => 0))), (q_3, .inl (k_4, 4, .inl (fun _ => 0))), (q_5, .inl (k_6, 14, .inl (fun _ => 0))), (q_7, .inl (k_8, 14, .inl (fun _ => 0)))] := hD
  refine lv_aload_n hx hb dX9_init_35 rfl (lv_at hl 0 rfl) ?_
  refine lv_aload_n hx hb dX9_init_36 rfl (lv_at hl 1 rfl) ?_
  refine va_putF (D := (dC, dI)) (ci := 9) (v := .ref bk) (ty := (.object "MineAir$Book")) (C := RX9) (T := TX9) (N := 8) hx hb hts (fun w h => wM_c (iX9 w h)) tyX9 tyX9_ok nmX9 hown hK hP hD hS 0 rfl rfl 7 (by decide) (hts _ (wM_c wd_412)) (fun _ h9 => h9) rfl hin rfl (by decide +kernel) rfl rfl (Nat.le_of_ble_eq_true rfl) dX9_init_37 (fun H locs hP hD hS => ?_)
  have hP : va_P (dC, dI) classes [(st, .inr (9, [.ref q_1, .ref q_3, .ref q_5, .ref q_7, .int 0, .int 0, .int 0, .ref bk])), (q_1, .inl (k_2, 6, .inl (fun _ => 0))), (q_3, .inl (k_4, 4, .inl (fun _ => 0))), (q_5, .inl (k_6, 14, .inl (fun _ => 0))), (q_7, .inl (k_8, 14, .inl (fun _ => 0)))] H := hP
  have hD : va_D A [(st, .inr (9, [.ref q_1, .ref q_3, .ref q_5, .ref q_7, .int 0, .int 0, .int 0, .ref bk])), (q_1, .inl (k_2, 6, .inl (fun _ => 0))), (q_3, .inl (k_4, 4, .inl (fun _ => 0))), (q_5, .inl (k_6, 14, .inl (fun _ => 0))), (q_7, .inl (k_8, 14, .inl (fun _ => 0)))] := hD
  have hP9 := hP.sub (ws' := [(st, .inr (9, [.ref q_1, .ref q_3, .ref q_5, .ref q_7, .int 0, .int 0, .int 0, .ref bk])), (q_1, .inl (k_2, 6, .inl (fun _ => 0))), (q_3, .inl (k_4, 4, .inl (fun _ => 0))), (q_5, .inl (k_6, 14, .inl (fun _ => 0))), (q_7, .inl (k_8, 14, .inl (fun _ => 0)))]) [0, 1, 2, 3, 4] rfl
  have hD9 := hD.sub (ws' := [(st, .inr (9, [.ref q_1, .ref q_3, .ref q_5, .ref q_7, .int 0, .int 0, .int 0, .ref bk])), (q_1, .inl (k_2, 6, .inl (fun _ => 0))), (q_3, .inl (k_4, 4, .inl (fun _ => 0))), (q_5, .inl (k_6, 14, .inl (fun _ => 0))), (q_7, .inl (k_8, 14, .inl (fun _ => 0)))]) [0, 1, 2, 3, 4] (by decide) rfl
  have hK9 := hK.sub (tys' := [(k_2, .boolean), (k_4, .int), (k_6, .boolean), (k_8, .int)]) [0, 1, 2, 3] rfl
  exact W.vret hx hb hr (fun t ht hW => ⟨⟨(), rfl, trivial, q_1, q_3, q_5, q_7, k_2, k_4, k_6, k_8, by rw [ht]; exact hP9, va_K.moved hW.alike hK9, hD9⟩, hS.F ht⟩) hS.2.2 dX9_init_40
set_option maxHeartbeats 4000000 in
set_option maxRecDepth 100000 in
theorem n_Flow (l : Launch) (dC : Nat → ClassId) (dI : Nat → Nat → Nat) (n0 sz : Nat) (fw : Nat) (bk : Nat) (st : Nat) : Met l yX2_init (wM yX2_init cX2_init 3 none) ({ frames := 1, cells := 10, slots := 124, locals := 12 }) (va_Pc [.ref fw, .ref bk, .ref st] (fun U => U.heap.size = sz ∧ n0 ≤ sz ∧ GW n0 U ∧ va_P (dC, dI) classes [(fw, .inr (2, [.null, .null, .null, .null, .null, .null, .null, .null, .null, .null, .null, .null]))] U.heap ∧ va_K (dC, dI) classes [] U ∧ va_D (fun q => n0 ≤ q) [(fw, .inr (2, [.null, .null, .null, .null, .null, .null, .null, .null, .null, .null, .null, .null]))])) (va_Qv (fun _ : Unit => True) (fun (_ : Unit) (t : State) => va_P (dC, dI) classes [] t.heap ∧ va_K (dC, dI) classes [] t ∧ va_D (va_A [(fw, .inr (2, [.null, .null, .null, .null, .null, .null, .null, .null, .null, .null, .null, .null]))] sz) []) (va_A [(fw, .inr (2, [.null, .null, .null, .null, .null, .null, .null, .null, .null, .null, .null, .null]))] sz)) 10 124 (va_A [(fw, .inr (2, [.null, .null, .null, .null, .null, .null, .null, .null, .null, .null, .null, .null]))] sz) := by
  refine Met.ofW (cc := cX2_init) (maxL := 3) (ret := none) (by decide) rfl ?_
  intro p e s m args below meth c s₁ B hml hv
  obtain ⟨rfl, hsz, hn0, hG, hP, hK, hD0⟩ := hv
  have hx := B.exec
  have hb := B.bytes
  have hr := B.returns
  have hts := atoms_spec (ws := wM yX2_init cX2_init 3 none) B.pre
  have hown : s.vm.findClass RX2 = some m.cls := findClass_of_methodNamed B.named
  have hlocks := B.notSynchronized
  have hin : meth.name = "<init>" := (name_of_methodNamed B.named B.method).1
  subst hsz
  have hD := hD0.self (sz := s.heap.size)
  have hA0 := vA_n0 hD0 hn0
  generalize hAe : va_A [(fw, .inr (2, [.null, .null, .null, .null, .null, .null, .null, .null, .null, .null, .null, .null]))] s.heap.size = A at hD hA0 ⊢
  have hA : ∀ q : Nat, s.heap.size ≤ q → A q := fun q h => by rw [← hAe]; exact Or.inr h
  have hS : va_S A s.heap s.heap [] := va_S.rf
  have hl := lv_entry ([.ref fw, .ref bk, .ref st]) (n := 3) (Nat.le_of_ble_eq_true rfl)
  rw [lg_entry_eq]
  generalize (lg_sl ([.ref fw, .ref bk, .ref st]) ++ List.replicate (3 - (lg_sl ([.ref fw, .ref bk, .ref st])).length) Slot.unset).toArray = ls at hl ⊢
  have hl : lv_has ls 3 [(0, .ref fw), (1, .ref bk), (2, .ref st)] := hl
  refine lv_aload_n hx hb dX2_init_0 rfl (lv_at hl 0 rfl) ?_
  refine W.objInit hx hb hown (hts _ (wM_c wd_442)) (hts _ (wM_c wd_146)) (hts _ (wM_c wd_objInit)) rfl (by rw [hml]; exact hl.1) rfl dX2_init_1 (Nat.le_of_ble_eq_true rfl) (Nat.le_of_ble_eq_true rfl) ?_
  refine W.eq (g2 := F0 m 4 ls []) rfl ?_
  refine lv_aload_n hx hb dX2_init_4 rfl (lv_at hl 0 rfl) ?_
  refine lv_bipush (v := 14) hx hb dX2_init_5 (by decide) ?_
  refine va_newa (atype := .int) (a0 := (14, .inl (fun _ => 0))) (ty := .int) hx hb (hts _ (wM_c wd_237)) rfl hK hP hD hS hA (fun _ => rfl) (by decide) rfl (by decide) (Nat.le_of_ble_eq_true rfl) (Nat.le_of_ble_eq_true rfl) dX2_init_7 (fun q_1 k_2 H hK hP hD hS => ?_)
  have hP : va_P (dC, dI) classes [(fw, .inr (2, [.null, .null, .null, .null, .null, .null, .null, .null, .null, .null, .null, .null])), (q_1, .inl (k_2, 14, .inl (fun _ => 0)))] H := hP
  have hD : va_D A [(fw, .inr (2, [.null, .null, .null, .null, .null, .null, .null, .null, .null, .null, .null, .null])), (q_1, .inl (k_2, 14, .inl (fun _ => 0)))] := hD
  have hK : va_K (dC, dI) classes [(k_2, .int)] s := hK
  refine W.widen (k := 1) (n := 14) (Nat.le_of_ble_eq_true rfl) (Nat.le_of_ble_eq_true rfl) ?_
  refine va_putF (D := (dC, dI)) (ci := 2) (v := .ref q_1) (ty := (.array .int)) (C := RX2) (T := TX2) (N := 12) hx hb hts (fun w h => wM_c (iX2 w h)) tyX2 tyX2_ok nmX2 hown hK hP hD hS 0 rfl rfl 0 (by decide) (hts _ (wM_c wd_443)) (fun _ h9 => h9) rfl hin rfl (by decide +kernel) rfl rfl (Nat.le_of_ble_eq_true rfl) dX2_init_9 (fun H locs hP hD hS => ?_)
  have hP : va_P (dC, dI) classes [(fw, .inr (2, [.ref q_1, .null, .null, .null, .null, .null, .null, .null, .null, .null, .null, .null])), (q_1, .inl (k_2, 14, .inl (fun _ => 0)))] H := hP
  have hD : va_D A [(fw, .inr (2, [.ref q_1, .null, .null, .null, .null, .null, .null, .null, .null, .null, .null, .null])), (q_1, .inl (k_2, 14, .inl (fun _ => 0)))] := hD
  refine lv_aload_n hx hb dX2_init_12 rfl (lv_at hl 0 rfl) ?_
  refine lv_bipush (v := 14) hx hb dX2_init_13 (by decide) ?_
  refine va_newa (atype := .long) (a0 := (14, .inr (.inl (fun _ => 0)))) (ty := .long) hx hb (hts _ (wM_c wd_382)) rfl hK hP hD hS hA (fun _ => rfl) (by decide) rfl (by decide) (Nat.le_of_ble_eq_true rfl) (Nat.le_of_ble_eq_true rfl) dX2_init_15 (fun q_3 k_4 H hK hP hD hS => ?_)
  have hP : va_P (dC, dI) classes [(fw, .inr (2, [.ref q_1, .null, .null, .null, .null, .null, .null, .null, .null, .null, .null, .null])), (q_1, .inl (k_2, 14, .inl (fun _ => 0))), (q_3, .inl (k_4, 14, .inr (.inl (fun _ => 0))))] H := hP
  have hD : va_D A [(fw, .inr (2, [.ref q_1, .null, .null, .null, .null, .null, .null, .null, .null, .null, .null, .null])), (q_1, .inl (k_2, 14, .inl (fun _ => 0))), (q_3, .inl (k_4, 14, .inr (.inl (fun _ => 0))))] := hD
  have hK : va_K (dC, dI) classes [(k_2, .int), (k_4, .long)] s := hK
  refine W.widen (k := 2) (n := 28) (Nat.le_of_ble_eq_true rfl) (Nat.le_of_ble_eq_true rfl) ?_
  refine va_putF (D := (dC, dI)) (ci := 2) (v := .ref q_3) (ty := (.array .long)) (C := RX2) (T := TX2) (N := 12) hx hb hts (fun w h => wM_c (iX2 w h)) tyX2 tyX2_ok nmX2 hown hK hP hD hS 0 rfl rfl 3 (by decide) (hts _ (wM_c wd_449)) (fun _ h9 => h9) rfl hin rfl (by decide +kernel) rfl rfl (Nat.le_of_ble_eq_true rfl) dX2_init_17 (fun H locs hP hD hS => ?_)
  have hP : va_P (dC, dI) classes [(fw, .inr (2, [.ref q_1, .null, .null, .ref q_3, .null, .null, .null, .null, .null, .null, .null, .null])), (q_1, .inl (k_2, 14, .inl (fun _ => 0))), (q_3, .inl (k_4, 14, .inr (.inl (fun _ => 0))))] H := hP
  have hD : va_D A [(fw, .inr (2, [.ref q_1, .null, .null, .ref q_3, .null, .null, .null, .null, .null, .null, .null, .null])), (q_1, .inl (k_2, 14, .inl (fun _ => 0))), (q_3, .inl (k_4, 14, .inr (.inl (fun _ => 0))))] := hD
  refine lv_aload_n hx hb dX2_init_20 rfl (lv_at hl 0 rfl) ?_
  refine lv_bipush (v := 14) hx hb dX2_init_21 (by decide) ?_
  refine va_newa (atype := .long) (a0 := (14, .inr (.inl (fun _ => 0)))) (ty := .long) hx hb (hts _ (wM_c wd_382)) rfl hK hP hD hS hA (fun _ => rfl) (by decide) rfl (by decide) (Nat.le_of_ble_eq_true rfl) (Nat.le_of_ble_eq_true rfl) dX2_init_23 (fun q_5 k_6 H hK hP hD hS => ?_)
  have hP : va_P (dC, dI) classes [(fw, .inr (2, [.ref q_1, .null, .null, .ref q_3, .null, .null, .null, .null, .null, .null, .null, .null])), (q_1, .inl (k_2, 14, .inl (fun _ => 0))), (q_3, .inl (k_4, 14, .inr (.inl (fun _ => 0)))), (q_5, .inl (k_6, 14, .inr (.inl (fun _ => 0))))] H := hP
  have hD : va_D A [(fw, .inr (2, [.ref q_1, .null, .null, .ref q_3, .null, .null, .null, .null, .null, .null, .null, .null])), (q_1, .inl (k_2, 14, .inl (fun _ => 0))), (q_3, .inl (k_4, 14, .inr (.inl (fun _ => 0)))), (q_5, .inl (k_6, 14, .inr (.inl (fun _ => 0))))] := hD
  have hK : va_K (dC, dI) classes [(k_2, .int), (k_4, .long), (k_6, .long)] s := hK
  refine W.widen (k := 3) (n := 42) (Nat.le_of_ble_eq_true rfl) (Nat.le_of_ble_eq_true rfl) ?_
  refine va_putF (D := (dC, dI)) (ci := 2) (v := .ref q_5) (ty := (.array .long)) (C := RX2) (T := TX2) (N := 12) hx hb hts (fun w h => wM_c (iX2 w h)) tyX2 tyX2_ok nmX2 hown hK hP hD hS 0 rfl rfl 4 (by decide) (hts _ (wM_c wd_450)) (fun _ h9 => h9) rfl hin rfl (by decide +kernel) rfl rfl (Nat.le_of_ble_eq_true rfl) dX2_init_25 (fun H locs hP hD hS => ?_)
  have hP : va_P (dC, dI) classes [(fw, .inr (2, [.ref q_1, .null, .null, .ref q_3, .ref q_5, .null, .null, .null, .null, .null, .null, .null])), (q_1, .inl (k_2, 14, .inl (fun _ => 0))), (q_3, .inl (k_4, 14, .inr (.inl (fun _ => 0)))), (q_5, .inl (k_6, 14, .inr (.inl (fun _ => 0))))] H := hP
  have hD : va_D A [(fw, .inr (2, [.ref q_1, .null, .null, .ref q_3, .ref q_5, .null, .null, .null, .null, .null, .null, .null])), (q_1, .inl (k_2, 14, .inl (fun _ => 0))), (q_3, .inl (k_4, 14, .inr (.inl (fun _ => 0)))), (q_5, .inl (k_6, 14, .inr (.inl (fun _ => 0))))] := hD
  refine lv_aload_n hx hb dX2_init_28 rfl (lv_at hl 0 rfl) ?_
  refine lv_bipush (v := 14) hx hb dX2_init_29 (by decide) ?_
  refine va_newa (atype := .long) (a0 := (14, .inr (.inl (fun _ => 0)))) (ty := .long) hx hb (hts _ (wM_c wd_382)) rfl hK hP hD hS hA (fun _ => rfl) (by decide) rfl (by decide) (Nat.le_of_ble_eq_true rfl) (Nat.le_of_ble_eq_true rfl) dX2_init_31 (fun q_7 k_8 H hK hP hD hS => ?_)
  have hP : va_P (dC, dI) classes [(fw, .inr (2, [.ref q_1, .null, .null, .ref q_3, .ref q_5, .null, .null, .null, .null, .null, .null, .null])), (q_1, .inl (k_2, 14, .inl (fun _ => 0))), (q_3, .inl (k_4, 14, .inr (.inl (fun _ => 0)))), (q_5, .inl (k_6, 14, .inr (.inl (fun _ => 0)))), (q_7, .inl (k_8, 14, .inr (.inl (fun _ => 0))))] H := hP
  have hD : va_D A [(fw, .inr (2, [.ref q_1, .null, .null, .ref q_3, .ref q_5, .null, .null, .null, .null, .null, .null, .null])), (q_1, .inl (k_2, 14, .inl (fun _ => 0))), (q_3, .inl (k_4, 14, .inr (.inl (fun _ => 0)))), (q_5, .inl (k_6, 14, .inr (.inl (fun _ => 0)))), (q_7, .inl (k_8, 14, .inr (.inl (fun _ => 0))))] := hD
  have hK : va_K (dC, dI) classes [(k_2, .int), (k_4, .long), (k_6, .long), (k_8, .long)] s := hK
  refine W.widen (k := 4) (n := 56) (Nat.le_of_ble_eq_true rfl) (Nat.le_of_ble_eq_true rfl) ?_
  refine va_putF (D := (dC, dI)) (ci := 2) (v := .ref q_7) (ty := (.array .long)) (C := RX2) (T := TX2) (N := 12) hx hb hts (fun w h => wM_c (iX2 w h)) tyX2 tyX2_ok nmX2 hown hK hP hD hS 0 rfl rfl 5 (by decide) (hts _ (wM_c wd_451)) (fun _ h9 => h9) rfl hin rfl (by decide +kernel) rfl rfl (Nat.le_of_ble_eq_true rfl) dX2_init_33 (fun H locs hP hD hS => ?_)
  have hP : va_P (dC, dI) classes [(fw, .inr (2, [.ref q_1, .null, .null, .ref q_3, .ref q_5, .ref q_7, .null, .null, .null, .null, .null, .null])), (q_1, .inl (k_2, 14, .inl (fun _ => 0))), (q_3, .inl (k_4, 14, .inr (.inl (fun _ => 0)))), (q_5, .inl (k_6, 14, .inr (.inl (fun _ => 0)))), (q_7, .inl (k_8, 14, .inr (.inl (fun _ => 0))))] H := hP
  have hD : va_D A [(fw, .inr (2, [.ref q_1, .null, .null, .ref q_3, .ref q_5, .ref q_7, .null, .null, .null, .null, .null, .null])), (q_1, .inl (k_2, 14, .inl (fun _ => 0))), (q_3, .inl (k_4, 14, .inr (.inl (fun _ => 0)))), (q_5, .inl (k_6, 14, .inr (.inl (fun _ => 0)))), (q_7, .inl (k_8, 14, .inr (.inl (fun _ => 0))))] := hD
  refine lv_aload_n hx hb dX2_init_36 rfl (lv_at hl 0 rfl) ?_
  refine lv_bipush (v := 14) hx hb dX2_init_37 (by decide) ?_
  refine va_newa (atype := .long) (a0 := (14, .inr (.inl (fun _ => 0)))) (ty := .long) hx hb (hts _ (wM_c wd_382)) rfl hK hP hD hS hA (fun _ => rfl) (by decide) rfl (by decide) (Nat.le_of_ble_eq_true rfl) (Nat.le_of_ble_eq_true rfl) dX2_init_39 (fun q_9 k_10 H hK hP hD hS => ?_)
  have hP : va_P (dC, dI) classes [(fw, .inr (2, [.ref q_1, .null, .null, .ref q_3, .ref q_5, .ref q_7, .null, .null, .null, .null, .null, .null])), (q_1, .inl (k_2, 14, .inl (fun _ => 0))), (q_3, .inl (k_4, 14, .inr (.inl (fun _ => 0)))), (q_5, .inl (k_6, 14, .inr (.inl (fun _ => 0)))), (q_7, .inl (k_8, 14, .inr (.inl (fun _ => 0)))), (q_9, .inl (k_10, 14, .inr (.inl (fun _ => 0))))] H := hP
  have hD : va_D A [(fw, .inr (2, [.ref q_1, .null, .null, .ref q_3, .ref q_5, .ref q_7, .null, .null, .null, .null, .null, .null])), (q_1, .inl (k_2, 14, .inl (fun _ => 0))), (q_3, .inl (k_4, 14, .inr (.inl (fun _ => 0)))), (q_5, .inl (k_6, 14, .inr (.inl (fun _ => 0)))), (q_7, .inl (k_8, 14, .inr (.inl (fun _ => 0)))), (q_9, .inl (k_10, 14, .inr (.inl (fun _ => 0))))] := hD
  have hK : va_K (dC, dI) classes [(k_2, .int), (k_4, .long), (k_6, .long), (k_8, .long), (k_10, .long)] s := hK
  refine W.widen (k := 5) (n := 70) (Nat.le_of_ble_eq_true rfl) (Nat.le_of_ble_eq_true rfl) ?_
  refine va_putF (D := (dC, dI)) (ci := 2) (v := .ref q_9) (ty := (.array .long)) (C := RX2) (T := TX2) (N := 12) hx hb hts (fun w h => wM_c (iX2 w h)) tyX2 tyX2_ok nmX2 hown hK hP hD hS 0 rfl rfl 6 (by decide) (hts _ (wM_c wd_452)) (fun _ h9 => h9) rfl hin rfl (by decide +kernel) rfl rfl (Nat.le_of_ble_eq_true rfl) dX2_init_41 (fun H locs hP hD hS => ?_)
  have hP : va_P (dC, dI) classes [(fw, .inr (2, [.ref q_1, .null, .null, .ref q_3, .ref q_5, .ref q_7, .ref q_9, .null, .null, .null, .null, .null])), (q_1, .inl (k_2, 14, .inl (fun _ => 0))), (q_3, .inl (k_4, 14, .inr (.inl (fun _ => 0)))), (q_5, .inl (k_6, 14, .inr (.inl (fun _ => 0)))), (q_7, .inl (k_8, 14, .inr (.inl (fun _ => 0)))), (q_9, .inl (k_10, 14, .inr (.inl (fun _ => 0))))] H := hP
  have hD : va_D A [(fw, .inr (2, [.ref q_1, .null, .null, .ref q_3, .ref q_5, .ref q_7, .ref q_9, .null, .null, .null, .null, .null])), (q_1, .inl (k_2, 14, .inl (fun _ => 0))), (q_3, .inl (k_4, 14, .inr (.inl (fun _ => 0)))), (q_5, .inl (k_6, 14, .inr (.inl (fun _ => 0)))), (q_7, .inl (k_8, 14, .inr (.inl (fun _ => 0)))), (q_9, .inl (k_10, 14, .inr (.inl (fun _ => 0))))] := hD
  refine lv_aload_n hx hb dX2_init_44 rfl (lv_at hl 0 rfl) ?_
  refine lv_bipush (v := 14) hx hb dX2_init_45 (by decide) ?_
  refine va_newa (atype := .long) (a0 := (14, .inr (.inl (fun _ => 0)))) (ty := .long) hx hb (hts _ (wM_c wd_382)) rfl hK hP hD hS hA (fun _ => rfl) (by decide) rfl (by decide) (Nat.le_of_ble_eq_true rfl) (Nat.le_of_ble_eq_true rfl) dX2_init_47 (fun q_11 k_12 H hK hP hD hS => ?_)
  have hP : va_P (dC, dI) classes [(fw, .inr (2, [.ref q_1, .null, .null, .ref q_3, .ref q_5, .ref q_7, .ref q_9, .null, .null, .null, .null, .null])), (q_1, .inl (k_2, 14, .inl (fun _ => 0))), (q_3, .inl (k_4, 14, .inr (.inl (fun _ => 0)))), (q_5, .inl (k_6, 14, .inr (.inl (fun _ => 0)))), (q_7, .inl (k_8, 14, .inr (.inl (fun _ => 0)))), (q_9, .inl (k_10, 14, .inr (.inl (fun _ => 0)))), (q_11, .inl (k_12, 14, .inr (.inl (fun _ => 0))))] H := hP
  have hD : va_D A [(fw, .inr (2, [.ref q_1, .null, .null, .ref q_3, .ref q_5, .ref q_7, .ref q_9, .null, .null, .null, .null, .null])), (q_1, .inl (k_2, 14, .inl (fun _ => 0))), (q_3, .inl (k_4, 14, .inr (.inl (fun _ => 0)))), (q_5, .inl (k_6, 14, .inr (.inl (fun _ => 0)))), (q_7, .inl (k_8, 14, .inr (.inl (fun _ => 0)))), (q_9, .inl (k_10, 14, .inr (.inl (fun _ => 0)))), (q_11, .inl (k_12, 14, .inr (.inl (fun _ => 0))))] := hD
  have hK : va_K (dC, dI) classes [(k_2, .int), (k_4, .long), (k_6, .long), (k_8, .long), (k_10, .long), (k_12, .long)] s := hK
  refine W.widen (k := 6) (n := 84) (Nat.le_of_ble_eq_true rfl) (Nat.le_of_ble_eq_true rfl) ?_
  refine va_putF (D := (dC, dI)) (ci := 2) (v := .ref q_11) (ty := (.array .long)) (C := RX2) (T := TX2) (N := 12) hx hb hts (fun w h => wM_c (iX2 w h)) tyX2 tyX2_ok nmX2 hown hK hP hD hS 0 rfl rfl 7 (by decide) (hts _ (wM_c wd_453)) (fun _ h9 => h9) rfl hin rfl (by decide +kernel) rfl rfl (Nat.le_of_ble_eq_true rfl) dX2_init_49 (fun H locs hP hD hS => ?_)
  have hP : va_P (dC, dI) classes [(fw, .inr (2, [.ref q_1, .null, .null, .ref q_3, .ref q_5, .ref q_7, .ref q_9, .ref q_11, .null, .null, .null, .null])), (q_1, .inl (k_2, 14, .inl (fun _ => 0))), (q_3, .inl (k_4, 14, .inr (.inl (fun _ => 0)))), (q_5, .inl (k_6, 14, .inr (.inl (fun _ => 0)))), (q_7, .inl (k_8, 14, .inr (.inl (fun _ => 0)))), (q_9, .inl (k_10, 14, .inr (.inl (fun _ => 0)))), (q_11, .inl (k_12, 14, .inr (.inl (fun _ => 0))))] H := hP
  have hD : va_D A [(fw, .inr (2, [.ref q_1, .null, .null, .ref q_3, .ref q_5, .ref q_7, .ref q_9, .ref q_11, .null, .null, .null, .null])), (q_1, .inl (k_2, 14, .inl (fun _ => 0))), (q_3, .inl (k_4, 14, .inr (.inl (fun _ => 0)))), (q_5, .inl (k_6, 14, .inr (.inl (fun _ => 0)))), (q_7, .inl (k_8, 14, .inr (.inl (fun _ => 0)))), (q_9, .inl (k_10, 14, .inr (.inl (fun _ => 0)))), (q_11, .inl (k_12, 14, .inr (.inl (fun _ => 0))))] := hD
  refine lv_aload_n hx hb dX2_init_52 rfl (lv_at hl 0 rfl) ?_
  refine lv_bipush (v := 10) hx hb dX2_init_53 (by decide) ?_
  refine va_newa (atype := .long) (a0 := (10, .inr (.inl (fun _ => 0)))) (ty := .long) hx hb (hts _ (wM_c wd_382)) rfl hK hP hD hS hA (fun _ => rfl) (by decide) rfl (by decide) (Nat.le_of_ble_eq_true rfl) (Nat.le_of_ble_eq_true rfl) dX2_init_55 (fun q_13 k_14 H hK hP hD hS => ?_)
  have hP : va_P (dC, dI) classes [(fw, .inr (2, [.ref q_1, .null, .null, .ref q_3, .ref q_5, .ref q_7, .ref q_9, .ref q_11, .null, .null, .null, .null])), (q_1, .inl (k_2, 14, .inl (fun _ => 0))), (q_3, .inl (k_4, 14, .inr (.inl (fun _ => 0)))), (q_5, .inl (k_6, 14, .inr (.inl (fun _ => 0)))), (q_7, .inl (k_8, 14, .inr (.inl (fun _ => 0)))), (q_9, .inl (k_10, 14, .inr (.inl (fun _ => 0)))), (q_11, .inl (k_12, 14, .inr (.inl (fun _ => 0)))), (q_13, .inl (k_14, 10, .inr (.inl (fun _ => 0))))] H := hP
  have hD : va_D A [(fw, .inr (2, [.ref q_1, .null, .null, .ref q_3, .ref q_5, .ref q_7, .ref q_9, .ref q_11, .null, .null, .null, .null])), (q_1, .inl (k_2, 14, .inl (fun _ => 0))), (q_3, .inl (k_4, 14, .inr (.inl (fun _ => 0)))), (q_5, .inl (k_6, 14, .inr (.inl (fun _ => 0)))), (q_7, .inl (k_8, 14, .inr (.inl (fun _ => 0)))), (q_9, .inl (k_10, 14, .inr (.inl (fun _ => 0)))), (q_11, .inl (k_12, 14, .inr (.inl (fun _ => 0)))), (q_13, .inl (k_14, 10, .inr (.inl (fun _ => 0))))] := hD
  have hK : va_K (dC, dI) classes [(k_2, .int), (k_4, .long), (k_6, .long), (k_8, .long), (k_10, .long), (k_12, .long), (k_14, .long)] s := hK
  refine W.widen (k := 7) (n := 94) (Nat.le_of_ble_eq_true rfl) (Nat.le_of_ble_eq_true rfl) ?_
  refine va_putF (D := (dC, dI)) (ci := 2) (v := .ref q_13) (ty := (.array .long)) (C := RX2) (T := TX2) (N := 12) hx hb hts (fun w h => wM_c (iX2 w h)) tyX2 tyX2_ok nmX2 hown hK hP hD hS 0 rfl rfl 8 (by decide) (hts _ (wM_c wd_454)) (fun _ h9 => h9) rfl hin rfl (by decide +kernel) rfl rfl (Nat.le_of_ble_eq_true rfl) dX2_init_57 (fun H locs hP hD hS => ?_)
  have hP : va_P (dC, dI) classes [(fw, .inr (2, [.ref q_1, .null, .null, .ref q_3, .ref q_5, .ref q_7, .ref q_9, .ref q_11, .ref q_13, .null, .null, .null])), (q_1, .inl (k_2, 14, .inl (fun _ => 0))), (q_3, .inl (k_4, 14, .inr (.inl (fun _ => 0)))), (q_5, .inl (k_6, 14, .inr (.inl (fun _ => 0)))), (q_7, .inl (k_8, 14, .inr (.inl (fun _ => 0)))), (q_9, .inl (k_10, 14, .inr (.inl (fun _ => 0)))), (q_11, .inl (k_12, 14, .inr (.inl (fun _ => 0)))), (q_13, .inl (k_14, 10, .inr (.inl (fun _ => 0))))] H := hP
  have hD : va_D A [(fw, .inr (2, [.ref q_1, .null, .null, .ref q_3, .ref q_5, .ref q_7, .ref q_9, .ref q_11, .ref q_13, .null, .null, .null])), (q_1, .inl (k_2, 14, .inl (fun _ => 0))), (q_3, .inl (k_4, 14, .inr (.inl (fun _ => 0)))), (q_5, .inl (k_6, 14, .inr (.inl (fun _ => 0)))), (q_7, .inl (k_8, 14, .inr (.inl (fun _ => 0)))), (q_9, .inl (k_10, 14, .inr (.inl (fun _ => 0)))), (q_11, .inl (k_12, 14, .inr (.inl (fun _ => 0)))), (q_13, .inl (k_14, 10, .inr (.inl (fun _ => 0))))] := hD
  refine lv_aload_n hx hb dX2_init_60 rfl (lv_at hl 0 rfl) ?_
  refine lv_bipush (v := 10) hx hb dX2_init_61 (by decide) ?_
  refine va_newa (atype := .int) (a0 := (10, .inl (fun _ => 0))) (ty := .int) hx hb (hts _ (wM_c wd_237)) rfl hK hP hD hS hA (fun _ => rfl) (by decide) rfl (by decide) (Nat.le_of_ble_eq_true rfl) (Nat.le_of_ble_eq_true rfl) dX2_init_63 (fun q_15 k_16 H hK hP hD hS => ?_)
  have hP : va_P (dC, dI) classes [(fw, .inr (2, [.ref q_1, .null, .null, .ref q_3, .ref q_5, .ref q_7, .ref q_9, .ref q_11, .ref q_13, .null, .null, .null])), (q_1, .inl (k_2, 14, .inl (fun _ => 0))), (q_3, .inl (k_4, 14, .inr (.inl (fun _ => 0)))), (q_5, .inl (k_6, 14, .inr (.inl (fun _ => 0)))), (q_7, .inl (k_8, 14, .inr (.inl (fun _ => 0)))), (q_9, .inl (k_10, 14, .inr (.inl (fun _ => 0)))), (q_11, .inl (k_12, 14, .inr (.inl (fun _ => 0)))), (q_13, .inl (k_14, 10, .inr (.inl (fun _ => 0)))), (q_15, .inl (k_16, 10, .inl (fun _ => 0)))] H := hP
  have hD : va_D A [(fw, .inr (2, [.ref q_1, .null, .null, .ref q_3, .ref q_5, .ref q_7, .ref q_9, .ref q_11, .ref q_13, .null, .null, .null])), (q_1, .inl (k_2, 14, .inl (fun _ => 0))), (q_3, .inl (k_4, 14, .inr (.inl (fun _ => 0)))), (q_5, .inl (k_6, 14, .inr (.inl (fun _ => 0)))), (q_7, .inl (k_8, 14, .inr (.inl (fun _ => 0)))), (q_9, .inl (k_10, 14, .inr (.inl (fun _ => 0)))), (q_11, .inl (k_12, 14, .inr (.inl (fun _ => 0)))), (q_13, .inl (k_14, 10, .inr (.inl (fun _ => 0)))), (q_15, .inl (k_16, 10, .inl (fun _ => 0)))] := hD
  have hK : va_K (dC, dI) classes [(k_2, .int), (k_4, .long), (k_6, .long), (k_8, .long), (k_10, .long), (k_12, .long), (k_14, .long), (k_16, .int)] s := hK
  refine W.widen (k := 8) (n := 104) (Nat.le_of_ble_eq_true rfl) (Nat.le_of_ble_eq_true rfl) ?_
  refine va_putF (D := (dC, dI)) (ci := 2) (v := .ref q_15) (ty := (.array .int)) (C := RX2) (T := TX2) (N := 12) hx hb hts (fun w h => wM_c (iX2 w h)) tyX2 tyX2_ok nmX2 hown hK hP hD hS 0 rfl rfl 9 (by decide) (hts _ (wM_c wd_455)) (fun _ h9 => h9) rfl hin rfl (by decide +kernel) rfl rfl (Nat.le_of_ble_eq_true rfl) dX2_init_65 (fun H locs hP hD hS => ?_)
  have hP : va_P (dC, dI) classes [(fw, .inr (2, [.ref q_1, .null, .null, .ref q_3, .ref q_5, .ref q_7, .ref q_9, .ref q_11, .ref q_13, .ref q_15, .null, .null])), (q_1, .inl (k_2, 14, .inl (fun _ => 0))), (q_3, .inl (k_4, 14, .inr (.inl (fun _ => 0)))), (q_5, .inl (k_6, 14, .inr (.inl (fun _ => 0)))), (q_7, .inl (k_8, 14, .inr (.inl (fun _ => 0)))), (q_9, .inl (k_10, 14, .inr (.inl (fun _ => 0)))), (q_11, .inl (k_12, 14, .inr (.inl (fun _ => 0)))), (q_13, .inl (k_14, 10, .inr (.inl (fun _ => 0)))), (q_15, .inl (k_16, 10, .inl (fun _ => 0)))] H := hP
  have hD : va_D A [(fw, .inr (2, [.ref q_1, .null, .null, .ref q_3, .ref q_5, .ref q_7, .ref q_9, .ref q_11, .ref q_13, .ref q_15, .null, .null])), (q_1, .inl (k_2, 14, .inl (fun _ => 0))), (q_3, .inl (k_4, 14, .inr (.inl (fun _ => 0)))), (q_5, .inl (k_6, 14, .inr (.inl (fun _ => 0)))), (q_7, .inl (k_8, 14, .inr (.inl (fun _ => 0)))), (q_9, .inl (k_10, 14, .inr (.inl (fun _ => 0)))), (q_11, .inl (k_12, 14, .inr (.inl (fun _ => 0)))), (q_13, .inl (k_14, 10, .inr (.inl (fun _ => 0)))), (q_15, .inl (k_16, 10, .inl (fun _ => 0)))] := hD
  refine lv_aload_n hx hb dX2_init_68 rfl (lv_at hl 0 rfl) ?_
  refine lv_bipush (v := 10) hx hb dX2_init_69 (by decide) ?_
  refine va_newa (atype := .int) (a0 := (10, .inl (fun _ => 0))) (ty := .int) hx hb (hts _ (wM_c wd_237)) rfl hK hP hD hS hA (fun _ => rfl) (by decide) rfl (by decide) (Nat.le_of_ble_eq_true rfl) (Nat.le_of_ble_eq_true rfl) dX2_init_71 (fun q_17 k_18 H hK hP hD hS => ?_)
  have hP : va_P (dC, dI) classes [(fw, .inr (2, [.ref q_1, .null, .null, .ref q_3, .ref q_5, .ref q_7, .ref q_9, .ref q_11, .ref q_13, .ref q_15, .null, .null])), (q_1, .inl (k_2, 14, .inl (fun _ => 0))), (q_3, .inl (k_4, 14, .inr (.inl (fun _ => 0)))), (q_5, .inl (k_6, 14, .inr (.inl (fun _ => 0)))), (q_7, .inl (k_8, 14, .inr (.inl (fun _ => 0)))), (q_9, .inl (k_10, 14, .inr (.inl (fun _ => 0)))), (q_11, .inl (k_12, 14, .inr (.inl (fun _ => 0)))), (q_13, .inl (k_14, 10, .inr (.inl (fun _ => 0)))), (q_15, .inl (k_16, 10, .inl (fun _ => 0))), (q_17, .inl (k_18, 10, .inl (fun _ => 0)))] H := hP
  have hD : va_D A [(fw, .inr (2, [.ref q_1, .null, .null, .ref q_3, .ref q_5, .ref q_7, .ref q_9, .ref q_11, .ref q_13, .ref q_15, .null, .null])), (q_1, .inl (k_2, 14, .inl (fun _ => 0))), (q_3, .inl (k_4, 14, .inr (.inl (fun _ => 0)))), (q_5, .inl (k_6, 14, .inr (.inl (fun _ => 0)))), (q_7, .inl (k_8, 14, .inr (.inl (fun _ => 0)))), (q_9, .inl (k_10, 14, .inr (.inl (fun _ => 0)))), (q_11, .inl (k_12, 14, .inr (.inl (fun _ => 0)))), (q_13, .inl (k_14, 10, .inr (.inl (fun _ => 0)))), (q_15, .inl (k_16, 10, .inl (fun _ => 0))), (q_17, .inl (k_18, 10, .inl (fun _ => 0)))] := hD
  have hK : va_K (dC, dI) classes [(k_2, .int), (k_4, .long), (k_6, .long), (k_8, .long), (k_10, .long), (k_12, .long), (k_14, .long), (k_16, .int), (k_18, .int)] s := hK
  refine W.widen (k := 9) (n := 114) (Nat.le_of_ble_eq_true rfl) (Nat.le_of_ble_eq_true rfl) ?_
  refine va_putF (D := (dC, dI)) (ci := 2) (v := .ref q_17) (ty := (.array .int)) (C := RX2) (T := TX2) (N := 12) hx hb hts (fun w h => wM_c (iX2 w h)) tyX2 tyX2_ok nmX2 hown hK hP hD hS 0 rfl rfl 10 (by decide) (hts _ (wM_c wd_456)) (fun _ h9 => h9) rfl hin rfl (by decide +kernel) rfl rfl (Nat.le_of_ble_eq_true rfl) dX2_init_73 (fun H locs hP hD hS => ?_)
  have hP : va_P (dC, dI) classes [(fw, .inr (2, [.ref q_1, .null, .null, .ref q_3, .ref q_5, .ref q_7, .ref q_9, .ref q_11, .ref q_13, .ref q_15, .ref q_17, .null])), (q_1, .inl (k_2, 14, .inl (fun _ => 0))), (q_3, .inl (k_4, 14, .inr (.inl (fun _ => 0)))), (q_5, .inl (k_6, 14, .inr (.inl (fun _ => 0)))), (q_7, .inl (k_8, 14, .inr (.inl (fun _ => 0)))), (q_9, .inl (k_10, 14, .inr (.inl (fun _ => 0)))), (q_11, .inl (k_12, 14, .inr (.inl (fun _ => 0)))), (q_13, .inl (k_14, 10, .inr (.inl (fun _ => 0)))), (q_15, .inl (k_16, 10, .inl (fun _ => 0))), (q_17, .inl (k_18, 10, .inl (fun _ => 0)))] H := hP
  have hD : va_D A [(fw, .inr (2, [.ref q_1, .null, .null, .ref q_3, .ref q_5, .ref q_7, .ref q_9, .ref q_11, .ref q_13, .ref q_15, .ref q_17, .null])), (q_1, .inl (k_2, 14, .inl (fun _ => 0))), (q_3, .inl (k_4, 14, .inr (.inl (fun _ => 0)))), (q_5, .inl (k_6, 14, .inr (.inl (fun _ => 0)))), (q_7, .inl (k_8, 14, .inr (.inl (fun _ => 0)))), (q_9, .inl (k_10, 14, .inr (.inl (fun _ => 0)))), (q_11, .inl (k_12, 14, .inr (.inl (fun _ => 0)))), (q_13, .inl (k_14, 10, .inr (.inl (fun _ => 0)))), (q_15, .inl (k_16, 10, .inl (fun _ => 0))), (q_17, .inl (k_18, 10, .inl (fun _ => 0)))] := hD
  refine lv_aload_n hx hb dX2_init_76 rfl (lv_at hl 0 rfl) ?_
  refine lv_bipush (v := 10) hx hb dX2_init_77 (by decide) ?_
  refine va_newa (atype := .int) (a0 := (10, .inl (fun _ => 0))) (ty := .int) hx hb (hts _ (wM_c wd_237)) rfl hK hP hD hS hA (fun _ => rfl) (by decide) rfl (by decide) (Nat.le_of_ble_eq_true rfl) (Nat.le_of_ble_eq_true rfl) dX2_init_79 (fun q_19 k_20 H hK hP hD hS => ?_)
  have hP : va_P (dC, dI) classes [(fw, .inr (2, [.ref q_1, .null, .null, .ref q_3, .ref q_5, .ref q_7, .ref q_9, .ref q_11, .ref q_13, .ref q_15, .ref q_17, .null])), (q_1, .inl (k_2, 14, .inl (fun _ => 0))), (q_3, .inl (k_4, 14, .inr (.inl (fun _ => 0)))), (q_5, .inl (k_6, 14, .inr (.inl (fun _ => 0)))), (q_7, .inl (k_8, 14, .inr (.inl (fun _ => 0)))), (q_9, .inl (k_10, 14, .inr (.inl (fun _ => 0)))), (q_11, .inl (k_12, 14, .inr (.inl (fun _ => 0)))), (q_13, .inl (k_14, 10, .inr (.inl (fun _ => 0)))), (q_15, .inl (k_16, 10, .inl (fun _ => 0))), (q_17, .inl (k_18, 10, .inl (fun _ => 0))), (q_19, .inl (k_20, 10, .inl (fun _ => 0)))] H := hP
  have hD : va_D A [(fw, .inr (2, [.ref q_1, .null, .null, .ref q_3, .ref q_5, .ref q_7, .ref q_9, .ref q_11, .ref q_13, .ref q_15, .ref q_17, .null])), (q_1, .inl (k_2, 14, .inl (fun _ => 0))), (q_3, .inl (k_4, 14, .inr (.inl (fun _ => 0)))), (q_5, .inl (k_6, 14, .inr (.inl (fun _ => 0)))), (q_7, .inl (k_8, 14, .inr (.inl (fun _ => 0)))), (q_9, .inl (k_10, 14, .inr (.inl (fun _ => 0)))), (q_11, .inl (k_12, 14, .inr (.inl (fun _ => 0)))), (q_13, .inl (k_14, 10, .inr (.inl (fun _ => 0)))), (q_15, .inl (k_16, 10, .inl (fun _ => 0))), (q_17, .inl (k_18, 10, .inl (fun _ => 0))), (q_19, .inl (k_20, 10, .inl (fun _ => 0)))] := hD
  have hK : va_K (dC, dI) classes [(k_2, .int), (k_4, .long), (k_6, .long), (k_8, .long), (k_10, .long), (k_12, .long), (k_14, .long), (k_16, .int), (k_18, .int), (k_20, .int)] s := hK
  refine W.widen (k := 10) (n := 124) (Nat.le_of_ble_eq_true rfl) (Nat.le_of_ble_eq_true rfl) ?_
  refine va_putF (D := (dC, dI)) (ci := 2) (v := .ref q_19) (ty := (.array .int)) (C := RX2) (T := TX2) (N := 12) hx hb hts (fun w h => wM_c (iX2 w h)) tyX2 tyX2_ok nmX2 hown hK hP hD hS 0 rfl rfl 11 (by decide) (hts _ (wM_c wd_457)) (fun _ h9 => h9) rfl hin rfl (by decide +kernel) rfl rfl (Nat.le_of_ble_eq_true rfl) dX2_init_81 (fun H locs hP hD hS => ?_)
  have hP : va_P (dC, dI) classes [(fw, .inr (2, [.ref q_1, .null, .null, .ref q_3, .ref q_5, .ref q_7, .ref q_9, .ref q_11, .ref q_13, .ref q_15, .ref q_17, .ref q_19])), (q_1, .inl (k_2, 14, .inl (fun _ => 0))), (q_3, .inl (k_4, 14, .inr (.inl (fun _ => 0)))), (q_5, .inl (k_6, 14, .inr (.inl (fun _ => 0)))), (q_7, .inl (k_8, 14, .inr (.inl (fun _ => 0)))), (q_9, .inl (k_10, 14, .inr (.inl (fun _ => 0)))), (q_11, .inl (k_12, 14, .inr (.inl (fun _ => 0)))), (q_13, .inl (k_14, 10, .inr (.inl (fun _ => 0)))), (q_15, .inl (k_16, 10, .inl (fun _ => 0))), (q_17, .inl (k_18, 10, .inl (fun _ => 0))), (q_19, .inl (k_20, 10, .inl (fun _ => 0)))] H := hP
  have hD : va_D A [(fw, .inr (2, [.ref q_1, .null, .null, .ref q_3, .ref q_5, .ref q_7, .ref q_9, .ref q_11, .ref q_13, .ref q_15, .ref q_17, .ref q_19])), (q_1, .inl (k_2, 14, .inl (fun _ => 0))), (q_3, .inl (k_4, 14, .inr (.inl (fun _ => 0)))), (q_5, .inl (k_6, 14, .inr (.inl (fun _ => 0)))), (q_7, .inl (k_8, 14, .inr (.inl (fun _ => 0)))), (q_9, .inl (k_10, 14, .inr (.inl (fun _ => 0)))), (q_11, .inl (k_12, 14, .inr (.inl (fun _ => 0)))), (q_13, .inl (k_14, 10, .inr (.inl (fun _ => 0)))), (q_15, .inl (k_16, 10, .inl (fun _ => 0))), (q_17, .inl (k_18, 10, .inl (fun _ => 0))), (q_19, .inl (k_20, 10, .inl (fun _ => 0)))] := hD
  refine lv_aload_n hx hb dX2_init_84 rfl (lv_at hl 0 rfl) ?_
  refine lv_aload_n hx hb dX2_init_85 rfl (lv_at hl 1 rfl) ?_
  refine va_putF (D := (dC, dI)) (ci := 2) (v := .ref bk) (ty := (.object "MineAir$Book")) (C := RX2) (T := TX2) (N := 12) hx hb hts (fun w h => wM_c (iX2 w h)) tyX2 tyX2_ok nmX2 hown hK hP hD hS 0 rfl rfl 1 (by decide) (hts _ (wM_c wd_447)) (fun _ h9 => h9) rfl hin rfl (by decide +kernel) rfl rfl (Nat.le_of_ble_eq_true rfl) dX2_init_86 (fun H locs hP hD hS => ?_)
  have hP : va_P (dC, dI) classes [(fw, .inr (2, [.ref q_1, .ref bk, .null, .ref q_3, .ref q_5, .ref q_7, .ref q_9, .ref q_11, .ref q_13, .ref q_15, .ref q_17, .ref q_19])), (q_1, .inl (k_2, 14, .inl (fun _ => 0))), (q_3, .inl (k_4, 14, .inr (.inl (fun _ => 0)))), (q_5, .inl (k_6, 14, .inr (.inl (fun _ => 0)))), (q_7, .inl (k_8, 14, .inr (.inl (fun _ => 0)))), (q_9, .inl (k_10, 14, .inr (.inl (fun _ => 0)))), (q_11, .inl (k_12, 14, .inr (.inl (fun _ => 0)))), (q_13, .inl (k_14, 10, .inr (.inl (fun _ => 0)))), (q_15, .inl (k_16, 10, .inl (fun _ => 0))), (q_17, .inl (k_18, 10, .inl (fun _ => 0))), (q_19, .inl (k_20, 10, .inl (fun _ => 0)))] H := hP
  have hD : va_D A [(fw, .inr (2, [.ref q_1, .ref bk, .null, .ref q_3, .ref q_5, .ref q_7, .ref q_9, .ref q_11, .ref q_13, .ref q_15, .ref q_17, .ref q_19])), (q_1, .inl (k_2, 14, .inl (fun _ => 0))), (q_3, .inl (k_4, 14, .inr (.inl (fun _ => 0)))), (q_5, .inl (k_6, 14, .inr (.inl (fun _ => 0)))), (q_7, .inl (k_8, 14, .inr (.inl (fun _ => 0)))), (q_9, .inl (k_10, 14, .inr (.inl (fun _ => 0)))), (q_11, .inl (k_12, 14, .inr (.inl (fun _ => 0)))), (q_13, .inl (k_14, 10, .inr (.inl (fun _ => 0)))), (q_15, .inl (k_16, 10, .inl (fun _ => 0))), (q_17, .inl (k_18, 10, .inl (fun _ => 0))), (q_19, .inl (k_20, 10, .inl (fun _ => 0)))] := hD
  refine lv_aload_n hx hb dX2_init_89 rfl (lv_at hl 0 rfl) ?_
  refine lv_aload_n hx hb dX2_init_90 rfl (lv_at hl 2 rfl) ?_
  refine va_putF (D := (dC, dI)) (ci := 2) (v := .ref st) (ty := (.object "MineAir$State")) (C := RX2) (T := TX2) (N := 12) hx hb hts (fun w h => wM_c (iX2 w h)) tyX2 tyX2_ok nmX2 hown hK hP hD hS 0 rfl rfl 2 (by decide) (hts _ (wM_c wd_448)) (fun _ h9 => h9) rfl hin rfl (by decide +kernel) rfl rfl (Nat.le_of_ble_eq_true rfl) dX2_init_91 (fun H locs hP hD hS => ?_)
  have hP : va_P (dC, dI) classes [(fw, .inr (2, [.ref q_1, .ref bk, .ref st, .ref q_3, .ref q_5, .ref q_7, .ref q_9, .ref q_11, .ref q_13, .ref q_15, .ref q_17, .ref q_19])), (q_1, .inl (k_2, 14, .inl (fun _ => 0))), (q_3, .inl (k_4, 14, .inr (.inl (fun _ => 0)))), (q_5, .inl (k_6, 14, .inr (.inl (fun _ => 0)))), (q_7, .inl (k_8, 14, .inr (.inl (fun _ => 0)))), (q_9, .inl (k_10, 14, .inr (.inl (fun _ => 0)))), (q_11, .inl (k_12, 14, .inr (.inl (fun _ => 0)))), (q_13, .inl (k_14, 10, .inr (.inl (fun _ => 0)))), (q_15, .inl (k_16, 10, .inl (fun _ => 0))), (q_17, .inl (k_18, 10, .inl (fun _ => 0))), (q_19, .inl (k_20, 10, .inl (fun _ => 0)))] H := hP
  have hD : va_D A [(fw, .inr (2, [.ref q_1, .ref bk, .ref st, .ref q_3, .ref q_5, .ref q_7, .ref q_9, .ref q_11, .ref q_13, .ref q_15, .ref q_17, .ref q_19])), (q_1, .inl (k_2, 14, .inl (fun _ => 0))), (q_3, .inl (k_4, 14, .inr (.inl (fun _ => 0)))), (q_5, .inl (k_6, 14, .inr (.inl (fun _ => 0)))), (q_7, .inl (k_8, 14, .inr (.inl (fun _ => 0)))), (q_9, .inl (k_10, 14, .inr (.inl (fun _ => 0)))), (q_11, .inl (k_12, 14, .inr (.inl (fun _ => 0)))), (q_13, .inl (k_14, 10, .inr (.inl (fun _ => 0)))), (q_15, .inl (k_16, 10, .inl (fun _ => 0))), (q_17, .inl (k_18, 10, .inl (fun _ => 0))), (q_19, .inl (k_20, 10, .inl (fun _ => 0)))] := hD
  have hP9 := hP.sub (ws' := []) [] rfl
  have hD9 := hD.sub (ws' := []) [] (by decide) rfl
  have hK9 := hK.sub (tys' := []) [] rfl
  exact W.vret hx hb hr (fun t ht hW => ⟨⟨(), rfl, trivial, by rw [ht]; exact hP9, va_K.moved hW.alike hK9, hD9⟩, hS.F ht⟩) hS.2.2 dX2_init_94
set_option maxHeartbeats 4000000 in
set_option maxRecDepth 100000 in
theorem n_Load (l : Launch) (dC : Nat → ClassId) (dI : Nat → Nat → Nat) (n0 sz : Nat) (ld : Nat) (bk : Nat) : Met l yX5_init (wM yX5_init cX5_init 2 none) ({ frames := 1, cells := 4, slots := 48, locals := 12 }) (va_Pc [.ref ld, .ref bk] (fun U => U.heap.size = sz ∧ n0 ≤ sz ∧ GW n0 U ∧ va_P (dC, dI) classes [(ld, .inr (5, [.null, .int 0, .null, .null, .null, .null]))] U.heap ∧ va_K (dC, dI) classes [] U ∧ va_D (fun q => n0 ≤ q) [(ld, .inr (5, [.null, .int 0, .null, .null, .null, .null]))])) (va_Qv (fun _ : Unit => True) (fun (_ : Unit) (t : State) => va_P (dC, dI) classes [] t.heap ∧ va_K (dC, dI) classes [] t ∧ va_D (va_A [(ld, .inr (5, [.null, .int 0, .null, .null, .null, .null]))] sz) []) (va_A [(ld, .inr (5, [.null, .int 0, .null, .null, .null, .null]))] sz)) 4 48 (va_A [(ld, .inr (5, [.null, .int 0, .null, .null, .null, .null]))] sz) := by
  refine Met.ofW (cc := cX5_init) (maxL := 2) (ret := none) (by decide) rfl ?_
  intro p e s m args below meth c s₁ B hml hv
  obtain ⟨rfl, hsz, hn0, hG, hP, hK, hD0⟩ := hv
  have hx := B.exec
  have hb := B.bytes
  have hr := B.returns
  have hts := atoms_spec (ws := wM yX5_init cX5_init 2 none) B.pre
  have hown : s.vm.findClass RX5 = some m.cls := findClass_of_methodNamed B.named
  have hlocks := B.notSynchronized
  have hin : meth.name = "<init>" := (name_of_methodNamed B.named B.method).1
  subst hsz
  have hD := hD0.self (sz := s.heap.size)
  have hA0 := vA_n0 hD0 hn0
  generalize hAe : va_A [(ld, .inr (5, [.null, .int 0, .null, .null, .null, .null]))] s.heap.size = A at hD hA0 ⊢
  have hA : ∀ q : Nat, s.heap.size ≤ q → A q := fun q h => by rw [← hAe]; exact Or.inr h
  have hS : va_S A s.heap s.heap [] := va_S.rf
  have hl := lv_entry ([.ref ld, .ref bk]) (n := 2) (Nat.le_of_ble_eq_true rfl)
  rw [lg_entry_eq]
  generalize (lg_sl ([.ref ld, .ref bk]) ++ List.replicate (2 - (lg_sl ([.ref ld, .ref bk])).length) Slot.unset).toArray = ls at hl ⊢
  have hl : lv_has ls 2 [(0, .ref ld), (1, .ref bk)] := hl
  refine lv_aload_n hx hb dX5_init_0 rfl (lv_at hl 0 rfl) ?_
  refine W.objInit hx hb hown (hts _ (wM_c wd_488)) (hts _ (wM_c wd_146)) (hts _ (wM_c wd_objInit)) rfl (by rw [hml]; exact hl.1) rfl dX5_init_1 (Nat.le_of_ble_eq_true rfl) (Nat.le_of_ble_eq_true rfl) ?_
  refine W.eq (g2 := F0 m 4 ls []) rfl ?_
  refine lv_aload_n hx hb dX5_init_4 rfl (lv_at hl 0 rfl) ?_
  refine lv_bipush (v := 14) hx hb dX5_init_5 (by decide) ?_
  refine va_newa (atype := .int) (a0 := (14, .inl (fun _ => 0))) (ty := .int) hx hb (hts _ (wM_c wd_237)) rfl hK hP hD hS hA (fun _ => rfl) (by decide) rfl (by decide) (Nat.le_of_ble_eq_true rfl) (Nat.le_of_ble_eq_true rfl) dX5_init_7 (fun q_1 k_2 H hK hP hD hS => ?_)
  have hP : va_P (dC, dI) classes [(ld, .inr (5, [.null, .int 0, .null, .null, .null, .null])), (q_1, .inl (k_2, 14, .inl (fun _ => 0)))] H := hP
  have hD : va_D A [(ld, .inr (5, [.null, .int 0, .null, .null, .null, .null])), (q_1, .inl (k_2, 14, .inl (fun _ => 0)))] := hD
  have hK : va_K (dC, dI) classes [(k_2, .int)] s := hK
  refine W.widen (k := 1) (n := 14) (Nat.le_of_ble_eq_true rfl) (Nat.le_of_ble_eq_true rfl) ?_
  refine va_putF (D := (dC, dI)) (ci := 5) (v := .ref q_1) (ty := (.array .int)) (C := RX5) (T := TX5) (N := 6) hx hb hts (fun w h => wM_c (iX5 w h)) tyX5 tyX5_ok nmX5 hown hK hP hD hS 0 rfl rfl 0 (by decide) (hts _ (wM_c wd_489)) (fun _ h9 => h9) rfl hin rfl (by decide +kernel) rfl rfl (Nat.le_of_ble_eq_true rfl) dX5_init_9 (fun H locs hP hD hS => ?_)
  have hP : va_P (dC, dI) classes [(ld, .inr (5, [.ref q_1, .int 0, .null, .null, .null, .null])), (q_1, .inl (k_2, 14, .inl (fun _ => 0)))] H := hP
  have hD : va_D A [(ld, .inr (5, [.ref q_1, .int 0, .null, .null, .null, .null])), (q_1, .inl (k_2, 14, .inl (fun _ => 0)))] := hD
  refine lv_aload_n hx hb dX5_init_12 rfl (lv_at hl 0 rfl) ?_
  refine lv_bipush (v := 10) hx hb dX5_init_13 (by decide) ?_
  refine va_newa (atype := .int) (a0 := (10, .inl (fun _ => 0))) (ty := .int) hx hb (hts _ (wM_c wd_237)) rfl hK hP hD hS hA (fun _ => rfl) (by decide) rfl (by decide) (Nat.le_of_ble_eq_true rfl) (Nat.le_of_ble_eq_true rfl) dX5_init_15 (fun q_3 k_4 H hK hP hD hS => ?_)
  have hP : va_P (dC, dI) classes [(ld, .inr (5, [.ref q_1, .int 0, .null, .null, .null, .null])), (q_1, .inl (k_2, 14, .inl (fun _ => 0))), (q_3, .inl (k_4, 10, .inl (fun _ => 0)))] H := hP
  have hD : va_D A [(ld, .inr (5, [.ref q_1, .int 0, .null, .null, .null, .null])), (q_1, .inl (k_2, 14, .inl (fun _ => 0))), (q_3, .inl (k_4, 10, .inl (fun _ => 0)))] := hD
  have hK : va_K (dC, dI) classes [(k_2, .int), (k_4, .int)] s := hK
  refine W.widen (k := 2) (n := 24) (Nat.le_of_ble_eq_true rfl) (Nat.le_of_ble_eq_true rfl) ?_
  refine va_putF (D := (dC, dI)) (ci := 5) (v := .ref q_3) (ty := (.array .int)) (C := RX5) (T := TX5) (N := 6) hx hb hts (fun w h => wM_c (iX5 w h)) tyX5 tyX5_ok nmX5 hown hK hP hD hS 0 rfl rfl 3 (by decide) (hts _ (wM_c wd_496)) (fun _ h9 => h9) rfl hin rfl (by decide +kernel) rfl rfl (Nat.le_of_ble_eq_true rfl) dX5_init_17 (fun H locs hP hD hS => ?_)
  have hP : va_P (dC, dI) classes [(ld, .inr (5, [.ref q_1, .int 0, .null, .ref q_3, .null, .null])), (q_1, .inl (k_2, 14, .inl (fun _ => 0))), (q_3, .inl (k_4, 10, .inl (fun _ => 0)))] H := hP
  have hD : va_D A [(ld, .inr (5, [.ref q_1, .int 0, .null, .ref q_3, .null, .null])), (q_1, .inl (k_2, 14, .inl (fun _ => 0))), (q_3, .inl (k_4, 10, .inl (fun _ => 0)))] := hD
  refine lv_aload_n hx hb dX5_init_20 rfl (lv_at hl 0 rfl) ?_
  refine lv_bipush (v := 10) hx hb dX5_init_21 (by decide) ?_
  refine va_newa (atype := .int) (a0 := (10, .inl (fun _ => 0))) (ty := .int) hx hb (hts _ (wM_c wd_237)) rfl hK hP hD hS hA (fun _ => rfl) (by decide) rfl (by decide) (Nat.le_of_ble_eq_true rfl) (Nat.le_of_ble_eq_true rfl) dX5_init_23 (fun q_5 k_6 H hK hP hD hS => ?_)
  have hP : va_P (dC, dI) classes [(ld, .inr (5, [.ref q_1, .int 0, .null, .ref q_3, .null, .null])), (q_1, .inl (k_2, 14, .inl (fun _ => 0))), (q_3, .inl (k_4, 10, .inl (fun _ => 0))), (q_5, .inl (k_6, 10, .inl (fun _ => 0)))] H := hP
  have hD : va_D A [(ld, .inr (5, [.ref q_1, .int 0, .null, .ref q_3, .null, .null])), (q_1, .inl (k_2, 14, .inl (fun _ => 0))), (q_3, .inl (k_4, 10, .inl (fun _ => 0))), (q_5, .inl (k_6, 10, .inl (fun _ => 0)))] := hD
  have hK : va_K (dC, dI) classes [(k_2, .int), (k_4, .int), (k_6, .int)] s := hK
  refine W.widen (k := 3) (n := 34) (Nat.le_of_ble_eq_true rfl) (Nat.le_of_ble_eq_true rfl) ?_
  refine va_putF (D := (dC, dI)) (ci := 5) (v := .ref q_5) (ty := (.array .int)) (C := RX5) (T := TX5) (N := 6) hx hb hts (fun w h => wM_c (iX5 w h)) tyX5 tyX5_ok nmX5 hown hK hP hD hS 0 rfl rfl 4 (by decide) (hts _ (wM_c wd_497)) (fun _ h9 => h9) rfl hin rfl (by decide +kernel) rfl rfl (Nat.le_of_ble_eq_true rfl) dX5_init_25 (fun H locs hP hD hS => ?_)
  have hP : va_P (dC, dI) classes [(ld, .inr (5, [.ref q_1, .int 0, .null, .ref q_3, .ref q_5, .null])), (q_1, .inl (k_2, 14, .inl (fun _ => 0))), (q_3, .inl (k_4, 10, .inl (fun _ => 0))), (q_5, .inl (k_6, 10, .inl (fun _ => 0)))] H := hP
  have hD : va_D A [(ld, .inr (5, [.ref q_1, .int 0, .null, .ref q_3, .ref q_5, .null])), (q_1, .inl (k_2, 14, .inl (fun _ => 0))), (q_3, .inl (k_4, 10, .inl (fun _ => 0))), (q_5, .inl (k_6, 10, .inl (fun _ => 0)))] := hD
  refine lv_aload_n hx hb dX5_init_28 rfl (lv_at hl 0 rfl) ?_
  refine lv_bipush (v := 14) hx hb dX5_init_29 (by decide) ?_
  refine va_newa (atype := .int) (a0 := (14, .inl (fun _ => 0))) (ty := .int) hx hb (hts _ (wM_c wd_237)) rfl hK hP hD hS hA (fun _ => rfl) (by decide) rfl (by decide) (Nat.le_of_ble_eq_true rfl) (Nat.le_of_ble_eq_true rfl) dX5_init_31 (fun q_7 k_8 H hK hP hD hS => ?_)
  have hP : va_P (dC, dI) classes [(ld, .inr (5, [.ref q_1, .int 0, .null, .ref q_3, .ref q_5, .null])), (q_1, .inl (k_2, 14, .inl (fun _ => 0))), (q_3, .inl (k_4, 10, .inl (fun _ => 0))), (q_5, .inl (k_6, 10, .inl (fun _ => 0))), (q_7, .inl (k_8, 14, .inl (fun _ => 0)))] H := hP
  have hD : va_D A [(ld, .inr (5, [.ref q_1, .int 0, .null, .ref q_3, .ref q_5, .null])), (q_1, .inl (k_2, 14, .inl (fun _ => 0))), (q_3, .inl (k_4, 10, .inl (fun _ => 0))), (q_5, .inl (k_6, 10, .inl (fun _ => 0))), (q_7, .inl (k_8, 14, .inl (fun _ => 0)))] := hD
  have hK : va_K (dC, dI) classes [(k_2, .int), (k_4, .int), (k_6, .int), (k_8, .int)] s := hK
  refine W.widen (k := 4) (n := 48) (Nat.le_of_ble_eq_true rfl) (Nat.le_of_ble_eq_true rfl) ?_
  refine va_putF (D := (dC, dI)) (ci := 5) (v := .ref q_7) (ty := (.array .int)) (C := RX5) (T := TX5) (N := 6) hx hb hts (fun w h => wM_c (iX5 w h)) tyX5 tyX5_ok nmX5 hown hK hP hD hS 0 rfl rfl 5 (by decide) (hts _ (wM_c wd_498)) (fun _ h9 => h9) rfl hin rfl (by decide +kernel) rfl rfl (Nat.le_of_ble_eq_true rfl) dX5_init_33 (fun H locs hP hD hS => ?_)
  have hP : va_P (dC, dI) classes [(ld, .inr (5, [.ref q_1, .int 0, .null, .ref q_3, .ref q_5, .ref q_7])), (q_1, .inl (k_2, 14, .inl (fun _ => 0))), (q_3, .inl (k_4, 10, .inl (fun _ => 0))), (q_5, .inl (k_6, 10, .inl (fun _ => 0))), (q_7, .inl (k_8, 14, .inl (fun _ => 0)))] H := hP
  have hD : va_D A [(ld, .inr (5, [.ref q_1, .int 0, .null, .ref q_3, .ref q_5, .ref q_7])), (q_1, .inl (k_2, 14, .inl (fun _ => 0))), (q_3, .inl (k_4, 10, .inl (fun _ => 0))), (q_5, .inl (k_6, 10, .inl (fun _ => 0))), (q_7, .inl (k_8, 14, .inl (fun _ => 0)))] := hD
  refine lv_aload_n hx hb dX5_init_36 rfl (lv_at hl 0 rfl) ?_
  refine lv_aload_n hx hb dX5_init_37 rfl (lv_at hl 1 rfl) ?_
  refine va_putF (D := (dC, dI)) (ci := 5) (v := .ref bk) (ty := (.object "MineAir$Book")) (C := RX5) (T := TX5) (N := 6) hx hb hts (fun w h => wM_c (iX5 w h)) tyX5 tyX5_ok nmX5 hown hK hP hD hS 0 rfl rfl 2 (by decide) (hts _ (wM_c wd_495)) (fun _ h9 => h9) rfl hin rfl (by decide +kernel) rfl rfl (Nat.le_of_ble_eq_true rfl) dX5_init_38 (fun H locs hP hD hS => ?_)
  have hP : va_P (dC, dI) classes [(ld, .inr (5, [.ref q_1, .int 0, .ref bk, .ref q_3, .ref q_5, .ref q_7])), (q_1, .inl (k_2, 14, .inl (fun _ => 0))), (q_3, .inl (k_4, 10, .inl (fun _ => 0))), (q_5, .inl (k_6, 10, .inl (fun _ => 0))), (q_7, .inl (k_8, 14, .inl (fun _ => 0)))] H := hP
  have hD : va_D A [(ld, .inr (5, [.ref q_1, .int 0, .ref bk, .ref q_3, .ref q_5, .ref q_7])), (q_1, .inl (k_2, 14, .inl (fun _ => 0))), (q_3, .inl (k_4, 10, .inl (fun _ => 0))), (q_5, .inl (k_6, 10, .inl (fun _ => 0))), (q_7, .inl (k_8, 14, .inl (fun _ => 0)))] := hD
  have hP9 := hP.sub (ws' := []) [] rfl
  have hD9 := hD.sub (ws' := []) [] (by decide) rfl
  have hK9 := hK.sub (tys' := []) [] rfl
  exact W.vret hx hb hr (fun t ht hW => ⟨⟨(), rfl, trivial, by rw [ht]; exact hP9, va_K.moved hW.alike hK9, hD9⟩, hS.F ht⟩) hS.2.2 dX5_init_41
set_option maxHeartbeats 4000000 in
set_option maxRecDepth 100000 in
theorem n_Judge (l : Launch) (dC : Nat → ClassId) (dI : Nat → Nat → Nat) (n0 sz : Nat) (nw : Nat) (bk : Nat) (st : Nat) : Met l yX4_init (wM yX4_init cX4_init 3 none) ({ frames := 2, cells := 16, slots := 190, locals := 34 }) (va_Pc [.ref nw, .ref bk, .ref st] (fun U => U.heap.size = sz ∧ n0 ≤ sz ∧ GW n0 U ∧ va_P (dC, dI) classes [(nw, .inr (4, [.null, .null, .null, .null, .int 0, .int 0]))] U.heap ∧ va_K (dC, dI) classes [] U ∧ va_D (fun q => n0 ≤ q) [(nw, .inr (4, [.null, .null, .null, .null, .int 0, .int 0]))])) (va_Qv (fun _ : Unit => True) (fun (_ : Unit) (t : State) => va_P (dC, dI) classes [] t.heap ∧ va_K (dC, dI) classes [] t ∧ va_D (va_A [(nw, .inr (4, [.null, .null, .null, .null, .int 0, .int 0]))] sz) []) (va_A [(nw, .inr (4, [.null, .null, .null, .null, .int 0, .int 0]))] sz)) 16 190 (va_A [(nw, .inr (4, [.null, .null, .null, .null, .int 0, .int 0]))] sz) := by
  refine Met.ofW (cc := cX4_init) (maxL := 3) (ret := none) (by decide) rfl ?_
  intro p e s m args below meth c s₁ B hml hv
  obtain ⟨rfl, hsz, hn0, hG, hP, hK, hD0⟩ := hv
  have hx := B.exec
  have hb := B.bytes
  have hr := B.returns
  have hts := atoms_spec (ws := wM yX4_init cX4_init 3 none) B.pre
  have hown : s.vm.findClass RX4 = some m.cls := findClass_of_methodNamed B.named
  have hlocks := B.notSynchronized
  have hin : meth.name = "<init>" := (name_of_methodNamed B.named B.method).1
  subst hsz
  have hD := hD0.self (sz := s.heap.size)
  have hA0 := vA_n0 hD0 hn0
  generalize hAe : va_A [(nw, .inr (4, [.null, .null, .null, .null, .int 0, .int 0]))] s.heap.size = A at hD hA0 ⊢
  have hA : ∀ q : Nat, s.heap.size ≤ q → A q := fun q h => by rw [← hAe]; exact Or.inr h
  have hS : va_S A s.heap s.heap [] := va_S.rf
  have hl := lv_entry ([.ref nw, .ref bk, .ref st]) (n := 3) (Nat.le_of_ble_eq_true rfl)
  rw [lg_entry_eq]
  generalize (lg_sl ([.ref nw, .ref bk, .ref st]) ++ List.replicate (3 - (lg_sl ([.ref nw, .ref bk, .ref st])).length) Slot.unset).toArray = ls at hl ⊢
  have hl : lv_has ls 3 [(0, .ref nw), (1, .ref bk), (2, .ref st)] := hl
  refine lv_aload_n hx hb dX4_init_0 rfl (lv_at hl 0 rfl) ?_
  refine W.objInit hx hb hown (hts _ (wM_c wd_436)) (hts _ (wM_c wd_146)) (hts _ (wM_c wd_objInit)) rfl (by rw [hml]; exact hl.1) rfl dX4_init_1 (Nat.le_of_ble_eq_true rfl) (Nat.le_of_ble_eq_true rfl) ?_
  refine W.eq (g2 := F0 m 4 ls []) rfl ?_
  refine lv_aload_n hx hb dX4_init_4 rfl (lv_at hl 0 rfl) ?_
  refine lv_aload_n hx hb dX4_init_5 rfl (lv_at hl 1 rfl) ?_
  refine va_putF (D := (dC, dI)) (ci := 4) (v := .ref bk) (ty := (.object "MineAir$Book")) (C := RX4) (T := TX4) (N := 6) hx hb hts (fun w h => wM_c (iX4 w h)) tyX4 tyX4_ok nmX4 hown hK hP hD hS 0 rfl rfl 2 (by decide) (hts _ (wM_c wd_517)) (fun _ h9 => h9) rfl hin rfl (by decide +kernel) rfl rfl (Nat.le_of_ble_eq_true rfl) dX4_init_6 (fun H locs hP hD hS => ?_)
  have hP : va_P (dC, dI) classes [(nw, .inr (4, [.null, .null, .ref bk, .null, .int 0, .int 0]))] H := hP
  have hD : va_D A [(nw, .inr (4, [.null, .null, .ref bk, .null, .int 0, .int 0]))] := hD
  refine lv_aload_n hx hb dX4_init_9 rfl (lv_at hl 0 rfl) ?_
  refine lv_aload_n hx hb dX4_init_10 rfl (lv_at hl 2 rfl) ?_
  refine va_putF (D := (dC, dI)) (ci := 4) (v := .ref st) (ty := (.object "MineAir$State")) (C := RX4) (T := TX4) (N := 6) hx hb hts (fun w h => wM_c (iX4 w h)) tyX4 tyX4_ok nmX4 hown hK hP hD hS 0 rfl rfl 3 (by decide) (hts _ (wM_c wd_518)) (fun _ h9 => h9) rfl hin rfl (by decide +kernel) rfl rfl (Nat.le_of_ble_eq_true rfl) dX4_init_11 (fun H locs hP hD hS => ?_)
  have hP : va_P (dC, dI) classes [(nw, .inr (4, [.null, .null, .ref bk, .ref st, .int 0, .int 0]))] H := hP
  have hD : va_D A [(nw, .inr (4, [.null, .null, .ref bk, .ref st, .int 0, .int 0]))] := hD
  refine lv_aload_n hx hb dX4_init_14 rfl (lv_at hl 0 rfl) ?_
  refine va_new (ci := 2) (fs := [.null, .null, .null, .null, .null, .null, .null, .null, .null, .null, .null, .null]) (C := RX2) (T := TX2) (N := 12) hx hb hts (fun w h => wM_c (iX2 w h)) tyX2 tyX2_ok hown (hts _ (wM_c wd_437)) (hts _ (wM_c wd_438)) (hts _ (wM_c wd_120)) hK hP hD hS hA rfl dfX2 (Nat.le_of_ble_eq_true rfl) (Nat.le_of_ble_eq_true rfl) dX4_init_15 (fun q_1 H hP hD hS => ?_)
  have hP : va_P (dC, dI) classes [(nw, .inr (4, [.null, .null, .ref bk, .ref st, .int 0, .int 0])), (q_1, .inr (2, [.null, .null, .null, .null, .null, .null, .null, .null, .null, .null, .null, .null]))] H := hP
  have hD : va_D A [(nw, .inr (4, [.null, .null, .ref bk, .ref st, .int 0, .int 0])), (q_1, .inr (2, [.null, .null, .null, .null, .null, .null, .null, .null, .null, .null, .null, .null]))] := hD
  refine W.widen (k := 1) (n := 12) (Nat.le_of_ble_eq_true rfl) (Nat.le_of_ble_eq_true rfl) ?_
  refine lv_dup hx hb dX4_init_18 rfl ?_
  refine lv_aload_n hx hb dX4_init_19 rfl (lv_at hl 1 rfl) ?_
  refine lv_aload_n hx hb dX4_init_20 rfl (lv_at hl 2 rfl) ?_
  have hPc := hP.sub (ws' := [(q_1, .inr (2, [.null, .null, .null, .null, .null, .null, .null, .null, .null, .null, .null, .null]))]) [1] rfl
  have hDc := hD.sub (ws' := [(q_1, .inr (2, [.null, .null, .null, .null, .null, .null, .null, .null, .null, .null, .null, .null]))]) [1] (by decide) rfl
  have hKc := hK.sub (tys' := []) [] rfl
  have hFc := va_free (wc := [(q_1, .inr (2, [.null, .null, .null, .null, .null, .null, .null, .null, .null, .null, .null, .null]))]) hD hS hA [1] rfl
  refine va_callv (va_runI (As := [.ref bk, .ref st]) (rest := [.ref q_1, .ref nw]) ⟨hx, hb, hml, hown, hts⟩ (n_Flow l dC dI n0 H.size q_1 bk st ) (cwI 2 hts (gI (fun w h => wM_c h) wd_441) rfl rfl rfl (hts _ (wM_c wd_120)) (hts _ (wM_c wd_439)) (hts _ (wM_c wd_440)) rfl (by decide +kernel) ⟨Nat.le_of_ble_eq_true rfl, Nat.le_of_ble_eq_true rfl⟩) ⟨fun a U g mk q => by obtain ⟨q0, q1, q2, qG, qP, qK, qD⟩ := q; exact ⟨q0, q1, q2, GW.blind qG, qP, va_K.moved (u := U) (U := U.calling g mk a) (Vm.Alike.refl U.vm) qK, qD⟩, fun U hU hW => ⟨rfl, by rw [hU], Nat.le_trans hn0 hS.1, GW.go hW hU hG (fun q hq hA9 => hS.2.1 q hq (fun h => hA9 (hA0 q h))), by rw [hU]; exact hPc, va_K.moved hW.alike hKc, hDc.weaken (fun _ _ _ h => hA0 _ h)⟩⟩ rfl rfl hl.1 rfl (lv_room (Nat.le_of_ble_eq_true rfl)) dX4_init_21 ⟨Nat.le_of_ble_eq_true rfl, Nat.le_of_ble_eq_true rfl⟩) hS (fun q _ h => hFc q h) hFc (fun u t H1 locs ht hvm hw_5 hB hz1 hk1 hS => ?_)
  obtain ⟨hP1, hK1, hD1⟩ := hB
  rw [ht] at hP1
  obtain ⟨hP, hD⟩ := va_join (wr := [(nw, .inr (4, [.null, .null, .ref bk, .ref st, .int 0, .int 0]))]) (w1 := []) hP hD [1] [0] rfl rfl (by decide) (by decide) hk1 hFc hP1 hD1
  generalize H1 = H at hP hS ⊢
  have hP : va_P (dC, dI) classes [(nw, .inr (4, [.null, .null, .ref bk, .ref st, .int 0, .int 0]))] H := hP
  have hD : va_D A [(nw, .inr (4, [.null, .null, .ref bk, .ref st, .int 0, .int 0]))] := hD
  refine W.widen (k := 11) (n := 136) (Nat.le_of_ble_eq_true rfl) (Nat.le_of_ble_eq_true rfl) ?_
  refine va_putF (D := (dC, dI)) (ci := 4) (v := .ref q_1) (ty := (.object "MineAir$Flow")) (C := RX4) (T := TX4) (N := 6) hx hb hts (fun w h => wM_c (iX4 w h)) tyX4 tyX4_ok nmX4 hown hK hP hD hS 0 rfl rfl 0 (by decide) (hts _ (wM_c wd_512)) (fun _ h9 => h9) rfl hin rfl (by decide +kernel) rfl rfl (Nat.le_of_ble_eq_true rfl) dX4_init_24 (fun H locs hP hD hS => ?_)
  have hP : va_P (dC, dI) classes [(nw, .inr (4, [.ref q_1, .null, .ref bk, .ref st, .int 0, .int 0]))] H := hP
  have hD : va_D A [(nw, .inr (4, [.ref q_1, .null, .ref bk, .ref st, .int 0, .int 0]))] := hD
  refine lv_aload_n hx hb dX4_init_27 rfl (lv_at hl 0 rfl) ?_
  refine va_new (ci := 5) (fs := [.null, .int 0, .null, .null, .null, .null]) (C := RX5) (T := TX5) (N := 6) hx hb hts (fun w h => wM_c (iX5 w h)) tyX5 tyX5_ok hown (hts _ (wM_c wd_483)) (hts _ (wM_c wd_484)) (hts _ (wM_c wd_121)) hK hP hD hS hA rfl dfX5 (Nat.le_of_ble_eq_true rfl) (Nat.le_of_ble_eq_true rfl) dX4_init_28 (fun q_6 H hP hD hS => ?_)
  have hP : va_P (dC, dI) classes [(nw, .inr (4, [.ref q_1, .null, .ref bk, .ref st, .int 0, .int 0])), (q_6, .inr (5, [.null, .int 0, .null, .null, .null, .null]))] H := hP
  have hD : va_D A [(nw, .inr (4, [.ref q_1, .null, .ref bk, .ref st, .int 0, .int 0])), (q_6, .inr (5, [.null, .int 0, .null, .null, .null, .null]))] := hD
  refine W.widen (k := 12) (n := 142) (Nat.le_of_ble_eq_true rfl) (Nat.le_of_ble_eq_true rfl) ?_
  refine lv_dup hx hb dX4_init_31 rfl ?_
  refine lv_aload_n hx hb dX4_init_32 rfl (lv_at hl 1 rfl) ?_
  have hPc := hP.sub (ws' := [(q_6, .inr (5, [.null, .int 0, .null, .null, .null, .null]))]) [1] rfl
  have hDc := hD.sub (ws' := [(q_6, .inr (5, [.null, .int 0, .null, .null, .null, .null]))]) [1] (by decide) rfl
  have hKc := hK.sub (tys' := []) [] rfl
  have hFc := va_free (wc := [(q_6, .inr (5, [.null, .int 0, .null, .null, .null, .null]))]) hD hS hA [1] rfl
  refine va_callv (va_runI (As := [.ref bk]) (rest := [.ref q_6, .ref nw]) ⟨hx, hb, hml, hown, hts⟩ (n_Load l dC dI n0 H.size q_6 bk ) (cwI 1 hts (gI (fun w h => wM_c h) wd_487) rfl rfl rfl (hts _ (wM_c wd_121)) (hts _ (wM_c wd_485)) (hts _ (wM_c wd_486)) rfl (by decide +kernel) ⟨Nat.le_of_ble_eq_true rfl, Nat.le_of_ble_eq_true rfl⟩) ⟨fun a U g mk q => by obtain ⟨q0, q1, q2, qG, qP, qK, qD⟩ := q; exact ⟨q0, q1, q2, GW.blind qG, qP, va_K.moved (u := U) (U := U.calling g mk a) (Vm.Alike.refl U.vm) qK, qD⟩, fun U hU hW => ⟨rfl, by rw [hU], Nat.le_trans hn0 hS.1, GW.go hW hU hG (fun q hq hA9 => hS.2.1 q hq (fun h => hA9 (hA0 q h))), by rw [hU]; exact hPc, va_K.moved hW.alike hKc, hDc.weaken (fun _ _ _ h => hA0 _ h)⟩⟩ rfl rfl hl.1 rfl (lv_room (Nat.le_of_ble_eq_true rfl)) dX4_init_33 ⟨Nat.le_of_ble_eq_true rfl, Nat.le_of_ble_eq_true rfl⟩) hS (fun q _ h => hFc q h) hFc (fun u t H1 locs ht hvm hw_10 hB hz1 hk1 hS => ?_)
  obtain ⟨hP1, hK1, hD1⟩ := hB
  rw [ht] at hP1
  obtain ⟨hP, hD⟩ := va_join (wr := [(nw, .inr (4, [.ref q_1, .null, .ref bk, .ref st, .int 0, .int 0]))]) (w1 := []) hP hD [1] [0] rfl rfl (by decide) (by decide) hk1 hFc hP1 hD1
  generalize H1 = H at hP hS ⊢
  have hP : va_P (dC, dI) classes [(nw, .inr (4, [.ref q_1, .null, .ref bk, .ref st, .int 0, .int 0]))] H := hP
  have hD : va_D A [(nw, .inr (4, [.ref q_1, .null, .ref bk, .ref st, .int 0, .int 0]))] := hD
  refine W.widen (k := 16) (n := 190) (Nat.le_of_ble_eq_true rfl) (Nat.le_of_ble_eq_true rfl) ?_
  refine va_putF (D := (dC, dI)) (ci := 4) (v := .ref q_6) (ty := (.object "MineAir$Load")) (C := RX4) (T := TX4) (N := 6) hx hb hts (fun w h => wM_c (iX4 w h)) tyX4 tyX4_ok nmX4 hown hK hP hD hS 0 rfl rfl 1 (by decide) (hts _ (wM_c wd_515)) (fun _ h9 => h9) rfl hin rfl (by decide +kernel) rfl rfl (Nat.le_of_ble_eq_true rfl) dX4_init_36 (fun H locs hP hD hS => ?_)
  have hP : va_P (dC, dI) classes [(nw, .inr (4, [.ref q_1, .ref q_6, .ref bk, .ref st, .int 0, .int 0]))] H := hP
  have hD : va_D A [(nw, .inr (4, [.ref q_1, .ref q_6, .ref bk, .ref st, .int 0, .int 0]))] := hD
  have hP9 := hP.sub (ws' := []) [] rfl
  have hD9 := hD.sub (ws' := []) [] (by decide) rfl
  have hK9 := hK.sub (tys' := []) [] rfl
  exact W.vret hx hb hr (fun t ht hW => ⟨⟨(), rfl, trivial, by rw [ht]; exact hP9, va_K.moved hW.alike hK9, hD9⟩, hS.F ht⟩) hS.2.2 dX4_init_39
set_option maxHeartbeats 4000000 in
set_option maxRecDepth 100000 in
theorem n_Trials (l : Launch) (dC : Nat → ClassId) (dI : Nat → Nat → Nat) (n0 sz : Nat) (tr : Nat) (bk : Nat) (st : Nat) (nw : Nat) (tl : Nat) : Met l yX10_init (wM yX10_init cX10_init 5 none) ({ frames := 1, cells := 2, slots := 260, locals := 12 }) (va_Pc [.ref tr, .ref bk, .ref st, .ref nw, .ref tl] (fun U => U.heap.size = sz ∧ n0 ≤ sz ∧ GW n0 U ∧ va_P (dC, dI) classes [(tr, .inr (10, [.int 0, .int 0, .null, .null, .null, .null, .null, .null]))] U.heap ∧ va_K (dC, dI) classes [] U ∧ va_D (fun q => n0 ≤ q) [(tr, .inr (10, [.int 0, .int 0, .null, .null, .null, .null, .null, .null]))])) (va_Qv (fun _ : Unit => True) (fun (_ : Unit) (t : State) => ∃ (tr_ranks : Nat), ∃ (tr_keptSpeed : Nat), va_P (dC, dI) classes [(tr, .inr (10, [.int 0, .int 0, .ref bk, .ref st, .ref nw, .ref tl, .ref tr_ranks, .ref tr_keptSpeed]))] t.heap ∧ va_K (dC, dI) classes [] t ∧ va_D (va_A [(tr, .inr (10, [.int 0, .int 0, .null, .null, .null, .null, .null, .null]))] sz) [(tr, .inr (10, [.int 0, .int 0, .ref bk, .ref st, .ref nw, .ref tl, .ref tr_ranks, .ref tr_keptSpeed]))]) (va_A [(tr, .inr (10, [.int 0, .int 0, .null, .null, .null, .null, .null, .null]))] sz)) 2 260 (va_A [(tr, .inr (10, [.int 0, .int 0, .null, .null, .null, .null, .null, .null]))] sz) := by
  refine Met.ofW (cc := cX10_init) (maxL := 5) (ret := none) (by decide) rfl ?_
  intro p e s m args below meth c s₁ B hml hv
  obtain ⟨rfl, hsz, hn0, hG, hP, hK, hD0⟩ := hv
  have hx := B.exec
  have hb := B.bytes
  have hr := B.returns
  have hts := atoms_spec (ws := wM yX10_init cX10_init 5 none) B.pre
  have hown : s.vm.findClass RX10 = some m.cls := findClass_of_methodNamed B.named
  have hlocks := B.notSynchronized
  have hin : meth.name = "<init>" := (name_of_methodNamed B.named B.method).1
  subst hsz
  have hD := hD0.self (sz := s.heap.size)
  have hA0 := vA_n0 hD0 hn0
  generalize hAe : va_A [(tr, .inr (10, [.int 0, .int 0, .null, .null, .null, .null, .null, .null]))] s.heap.size = A at hD hA0 ⊢
  have hA : ∀ q : Nat, s.heap.size ≤ q → A q := fun q h => by rw [← hAe]; exact Or.inr h
  have hS : va_S A s.heap s.heap [] := va_S.rf
  have hl := lv_entry ([.ref tr, .ref bk, .ref st, .ref nw, .ref tl]) (n := 5) (Nat.le_of_ble_eq_true rfl)
  rw [lg_entry_eq]
  generalize (lg_sl ([.ref tr, .ref bk, .ref st, .ref nw, .ref tl]) ++ List.replicate (5 - (lg_sl ([.ref tr, .ref bk, .ref st, .ref nw, .ref tl])).length) Slot.unset).toArray = ls at hl ⊢
  have hl : lv_has ls 5 [(0, .ref tr), (1, .ref bk), (2, .ref st), (3, .ref nw), (4, .ref tl)] := hl
  refine lv_aload_n hx hb dX10_init_0 rfl (lv_at hl 0 rfl) ?_
  refine W.objInit hx hb hown (hts _ (wM_c wd_539)) (hts _ (wM_c wd_146)) (hts _ (wM_c wd_objInit)) rfl (by rw [hml]; exact hl.1) rfl dX10_init_1 (Nat.le_of_ble_eq_true rfl) (Nat.le_of_ble_eq_true rfl) ?_
  refine W.eq (g2 := F0 m 4 ls []) rfl ?_
  refine lv_aload_n hx hb dX10_init_4 rfl (lv_at hl 0 rfl) ?_
  refine lv_sipush (v := 256) hx hb dX10_init_5 (by decide) ?_
  refine va_newa (atype := .int) (a0 := (256, .inl (fun _ => 0))) (ty := .int) hx hb (hts _ (wM_c wd_237)) rfl hK hP hD hS hA (fun _ => rfl) (by decide) rfl (by decide) (Nat.le_of_ble_eq_true rfl) (Nat.le_of_ble_eq_true rfl) dX10_init_8 (fun q_1 k_2 H hK hP hD hS => ?_)
  have hP : va_P (dC, dI) classes [(tr, .inr (10, [.int 0, .int 0, .null, .null, .null, .null, .null, .null])), (q_1, .inl (k_2, 256, .inl (fun _ => 0)))] H := hP
  have hD : va_D A [(tr, .inr (10, [.int 0, .int 0, .null, .null, .null, .null, .null, .null])), (q_1, .inl (k_2, 256, .inl (fun _ => 0)))] := hD
  have hK : va_K (dC, dI) classes [(k_2, .int)] s := hK
  refine W.widen (k := 1) (n := 256) (Nat.le_of_ble_eq_true rfl) (Nat.le_of_ble_eq_true rfl) ?_
  refine va_putF (D := (dC, dI)) (ci := 10) (v := .ref q_1) (ty := (.array .int)) (C := RX10) (T := TX10) (N := 8) hx hb hts (fun w h => wM_c (iX10 w h)) tyX10 tyX10_ok nmX10 hown hK hP hD hS 0 rfl rfl 6 (by decide) (hts _ (wM_c wd_547)) (fun _ h9 => h9) rfl hin rfl (by decide +kernel) rfl rfl (Nat.le_of_ble_eq_true rfl) dX10_init_10 (fun H locs hP hD hS => ?_)
  have hP : va_P (dC, dI) classes [(tr, .inr (10, [.int 0, .int 0, .null, .null, .null, .null, .ref q_1, .null])), (q_1, .inl (k_2, 256, .inl (fun _ => 0)))] H := hP
  have hD : va_D A [(tr, .inr (10, [.int 0, .int 0, .null, .null, .null, .null, .ref q_1, .null])), (q_1, .inl (k_2, 256, .inl (fun _ => 0)))] := hD
  refine lv_aload_n hx hb dX10_init_13 rfl (lv_at hl 0 rfl) ?_
  refine lv_iconst (v := 4) hx hb dX10_init_14 (by decide) ?_
  refine va_newa (atype := .int) (a0 := (4, .inl (fun _ => 0))) (ty := .int) hx hb (hts _ (wM_c wd_237)) rfl hK hP hD hS hA (fun _ => rfl) (by decide) rfl (by decide) (Nat.le_of_ble_eq_true rfl) (Nat.le_of_ble_eq_true rfl) dX10_init_15 (fun q_3 k_4 H hK hP hD hS => ?_)
  have hP : va_P (dC, dI) classes [(tr, .inr (10, [.int 0, .int 0, .null, .null, .null, .null, .ref q_1, .null])), (q_1, .inl (k_2, 256, .inl (fun _ => 0))), (q_3, .inl (k_4, 4, .inl (fun _ => 0)))] H := hP
  have hD : va_D A [(tr, .inr (10, [.int 0, .int 0, .null, .null, .null, .null, .ref q_1, .null])), (q_1, .inl (k_2, 256, .inl (fun _ => 0))), (q_3, .inl (k_4, 4, .inl (fun _ => 0)))] := hD
  have hK : va_K (dC, dI) classes [(k_2, .int), (k_4, .int)] s := hK
  refine W.widen (k := 2) (n := 260) (Nat.le_of_ble_eq_true rfl) (Nat.le_of_ble_eq_true rfl) ?_
  refine va_putF (D := (dC, dI)) (ci := 10) (v := .ref q_3) (ty := (.array .int)) (C := RX10) (T := TX10) (N := 8) hx hb hts (fun w h => wM_c (iX10 w h)) tyX10 tyX10_ok nmX10 hown hK hP hD hS 0 rfl rfl 7 (by decide) (hts _ (wM_c wd_548)) (fun _ h9 => h9) rfl hin rfl (by decide +kernel) rfl rfl (Nat.le_of_ble_eq_true rfl) dX10_init_17 (fun H locs hP hD hS => ?_)
  have hP : va_P (dC, dI) classes [(tr, .inr (10, [.int 0, .int 0, .null, .null, .null, .null, .ref q_1, .ref q_3])), (q_1, .inl (k_2, 256, .inl (fun _ => 0))), (q_3, .inl (k_4, 4, .inl (fun _ => 0)))] H := hP
  have hD : va_D A [(tr, .inr (10, [.int 0, .int 0, .null, .null, .null, .null, .ref q_1, .ref q_3])), (q_1, .inl (k_2, 256, .inl (fun _ => 0))), (q_3, .inl (k_4, 4, .inl (fun _ => 0)))] := hD
  refine lv_aload_n hx hb dX10_init_20 rfl (lv_at hl 0 rfl) ?_
  refine lv_aload_n hx hb dX10_init_21 rfl (lv_at hl 1 rfl) ?_
  refine va_putF (D := (dC, dI)) (ci := 10) (v := .ref bk) (ty := (.object "MineAir$Book")) (C := RX10) (T := TX10) (N := 8) hx hb hts (fun w h => wM_c (iX10 w h)) tyX10 tyX10_ok nmX10 hown hK hP hD hS 0 rfl rfl 2 (by decide) (hts _ (wM_c wd_543)) (fun _ h9 => h9) rfl hin rfl (by decide +kernel) rfl rfl (Nat.le_of_ble_eq_true rfl) dX10_init_22 (fun H locs hP hD hS => ?_)
  have hP : va_P (dC, dI) classes [(tr, .inr (10, [.int 0, .int 0, .ref bk, .null, .null, .null, .ref q_1, .ref q_3])), (q_1, .inl (k_2, 256, .inl (fun _ => 0))), (q_3, .inl (k_4, 4, .inl (fun _ => 0)))] H := hP
  have hD : va_D A [(tr, .inr (10, [.int 0, .int 0, .ref bk, .null, .null, .null, .ref q_1, .ref q_3])), (q_1, .inl (k_2, 256, .inl (fun _ => 0))), (q_3, .inl (k_4, 4, .inl (fun _ => 0)))] := hD
  refine lv_aload_n hx hb dX10_init_25 rfl (lv_at hl 0 rfl) ?_
  refine lv_aload_n hx hb dX10_init_26 rfl (lv_at hl 2 rfl) ?_
  refine va_putF (D := (dC, dI)) (ci := 10) (v := .ref st) (ty := (.object "MineAir$State")) (C := RX10) (T := TX10) (N := 8) hx hb hts (fun w h => wM_c (iX10 w h)) tyX10 tyX10_ok nmX10 hown hK hP hD hS 0 rfl rfl 3 (by decide) (hts _ (wM_c wd_544)) (fun _ h9 => h9) rfl hin rfl (by decide +kernel) rfl rfl (Nat.le_of_ble_eq_true rfl) dX10_init_27 (fun H locs hP hD hS => ?_)
  have hP : va_P (dC, dI) classes [(tr, .inr (10, [.int 0, .int 0, .ref bk, .ref st, .null, .null, .ref q_1, .ref q_3])), (q_1, .inl (k_2, 256, .inl (fun _ => 0))), (q_3, .inl (k_4, 4, .inl (fun _ => 0)))] H := hP
  have hD : va_D A [(tr, .inr (10, [.int 0, .int 0, .ref bk, .ref st, .null, .null, .ref q_1, .ref q_3])), (q_1, .inl (k_2, 256, .inl (fun _ => 0))), (q_3, .inl (k_4, 4, .inl (fun _ => 0)))] := hD
  refine lv_aload_n hx hb dX10_init_30 rfl (lv_at hl 0 rfl) ?_
  refine lv_aload_n hx hb dX10_init_31 rfl (lv_at hl 3 rfl) ?_
  refine va_putF (D := (dC, dI)) (ci := 10) (v := .ref nw) (ty := (.object "MineAir$Judge")) (C := RX10) (T := TX10) (N := 8) hx hb hts (fun w h => wM_c (iX10 w h)) tyX10 tyX10_ok nmX10 hown hK hP hD hS 0 rfl rfl 4 (by decide) (hts _ (wM_c wd_545)) (fun _ h9 => h9) rfl hin rfl (by decide +kernel) rfl rfl (Nat.le_of_ble_eq_true rfl) dX10_init_32 (fun H locs hP hD hS => ?_)
  have hP : va_P (dC, dI) classes [(tr, .inr (10, [.int 0, .int 0, .ref bk, .ref st, .ref nw, .null, .ref q_1, .ref q_3])), (q_1, .inl (k_2, 256, .inl (fun _ => 0))), (q_3, .inl (k_4, 4, .inl (fun _ => 0)))] H := hP
  have hD : va_D A [(tr, .inr (10, [.int 0, .int 0, .ref bk, .ref st, .ref nw, .null, .ref q_1, .ref q_3])), (q_1, .inl (k_2, 256, .inl (fun _ => 0))), (q_3, .inl (k_4, 4, .inl (fun _ => 0)))] := hD
  refine lv_aload_n hx hb dX10_init_35 rfl (lv_at hl 0 rfl) ?_
  refine lv_aload hx hb dX10_init_36 (lv_at hl 4 rfl) ?_
  refine va_putF (D := (dC, dI)) (ci := 10) (v := .ref tl) (ty := (.object "MineAir$Judge")) (C := RX10) (T := TX10) (N := 8) hx hb hts (fun w h => wM_c (iX10 w h)) tyX10 tyX10_ok nmX10 hown hK hP hD hS 0 rfl rfl 5 (by decide) (hts _ (wM_c wd_546)) (fun _ h9 => h9) rfl hin rfl (by decide +kernel) rfl rfl (Nat.le_of_ble_eq_true rfl) dX10_init_38 (fun H locs hP hD hS => ?_)
  have hP : va_P (dC, dI) classes [(tr, .inr (10, [.int 0, .int 0, .ref bk, .ref st, .ref nw, .ref tl, .ref q_1, .ref q_3])), (q_1, .inl (k_2, 256, .inl (fun _ => 0))), (q_3, .inl (k_4, 4, .inl (fun _ => 0)))] H := hP
  have hD : va_D A [(tr, .inr (10, [.int 0, .int 0, .ref bk, .ref st, .ref nw, .ref tl, .ref q_1, .ref q_3])), (q_1, .inl (k_2, 256, .inl (fun _ => 0))), (q_3, .inl (k_4, 4, .inl (fun _ => 0)))] := hD
  have hP9 := hP.sub (ws' := [(tr, .inr (10, [.int 0, .int 0, .ref bk, .ref st, .ref nw, .ref tl, .ref q_1, .ref q_3]))]) [0] rfl
  have hD9 := hD.sub (ws' := [(tr, .inr (10, [.int 0, .int 0, .ref bk, .ref st, .ref nw, .ref tl, .ref q_1, .ref q_3]))]) [0] (by decide) rfl
  have hK9 := hK.sub (tys' := []) [] rfl
  exact W.vret hx hb hr (fun t ht hW => ⟨⟨(), rfl, trivial, q_1, q_3, by rw [ht]; exact hP9, va_K.moved hW.alike hK9, hD9⟩, hS.F ht⟩) hS.2.2 dX10_init_41
set_option maxHeartbeats 4000000 in
set_option maxRecDepth 100000 in
theorem n_Plan (l : Launch) (dC : Nat → ClassId) (dI : Nat → Nat → Nat) (n0 sz : Nat) (pl : Nat) (st : Nat) (nw : Nat) (tl : Nat) : Met l yX6_init (wM yX6_init cX6_init 4 none) ({ frames := 1, cells := 5, slots := 52, locals := 12 }) (va_Pc [.ref pl, .ref st, .ref nw, .ref tl] (fun U => U.heap.size = sz ∧ n0 ≤ sz ∧ GW n0 U ∧ va_P (dC, dI) classes [(pl, .inr (6, [.int 0, .null, .null, .null, .null, .null, .null, .null, .null, .int 0, .int 0]))] U.heap ∧ va_K (dC, dI) classes [] U ∧ va_D (fun q => n0 ≤ q) [(pl, .inr (6, [.int 0, .null, .null, .null, .null, .null, .null, .null, .null, .int 0, .int 0]))])) (va_Qv (fun _ : Unit => True) (fun (_ : Unit) (t : State) => ∃ (pl_order : Nat), ∃ (pl_kind : Nat), ∃ (pl_which : Nat), ∃ (pl_value : Nat), ∃ (pl_soundBy : Nat), va_P (dC, dI) classes [(pl, .inr (6, [.int 0, .ref pl_order, .ref st, .ref nw, .ref tl, .ref pl_kind, .ref pl_which, .ref pl_value, .ref pl_soundBy, .int 0, .int 0]))] t.heap ∧ va_K (dC, dI) classes [] t ∧ va_D (va_A [(pl, .inr (6, [.int 0, .null, .null, .null, .null, .null, .null, .null, .null, .int 0, .int 0]))] sz) [(pl, .inr (6, [.int 0, .ref pl_order, .ref st, .ref nw, .ref tl, .ref pl_kind, .ref pl_which, .ref pl_value, .ref pl_soundBy, .int 0, .int 0]))]) (va_A [(pl, .inr (6, [.int 0, .null, .null, .null, .null, .null, .null, .null, .null, .int 0, .int 0]))] sz)) 5 52 (va_A [(pl, .inr (6, [.int 0, .null, .null, .null, .null, .null, .null, .null, .null, .int 0, .int 0]))] sz) := by
  refine Met.ofW (cc := cX6_init) (maxL := 4) (ret := none) (by decide) rfl ?_
  intro p e s m args below meth c s₁ B hml hv
  obtain ⟨rfl, hsz, hn0, hG, hP, hK, hD0⟩ := hv
  have hx := B.exec
  have hb := B.bytes
  have hr := B.returns
  have hts := atoms_spec (ws := wM yX6_init cX6_init 4 none) B.pre
  have hown : s.vm.findClass RX6 = some m.cls := findClass_of_methodNamed B.named
  have hlocks := B.notSynchronized
  have hin : meth.name = "<init>" := (name_of_methodNamed B.named B.method).1
  subst hsz
  have hD := hD0.self (sz := s.heap.size)
  have hA0 := vA_n0 hD0 hn0
  generalize hAe : va_A [(pl, .inr (6, [.int 0, .null, .null, .null, .null, .null, .null, .null, .null, .int 0, .int 0]))] s.heap.size = A at hD hA0 ⊢
  have hA : ∀ q : Nat, s.heap.size ≤ q → A q := fun q h => by rw [← hAe]; exact Or.inr h
  have hS : va_S A s.heap s.heap [] := va_S.rf
  have hl := lv_entry ([.ref pl, .ref st, .ref nw, .ref tl]) (n := 4) (Nat.le_of_ble_eq_true rfl)
  rw [lg_entry_eq]
  generalize (lg_sl ([.ref pl, .ref st, .ref nw, .ref tl]) ++ List.replicate (4 - (lg_sl ([.ref pl, .ref st, .ref nw, .ref tl])).length) Slot.unset).toArray = ls at hl ⊢
  have hl : lv_has ls 4 [(0, .ref pl), (1, .ref st), (2, .ref nw), (3, .ref tl)] := hl
  refine lv_aload_n hx hb dX6_init_0 rfl (lv_at hl 0 rfl) ?_
  refine W.objInit hx hb hown (hts _ (wM_c wd_571)) (hts _ (wM_c wd_146)) (hts _ (wM_c wd_objInit)) rfl (by rw [hml]; exact hl.1) rfl dX6_init_1 (Nat.le_of_ble_eq_true rfl) (Nat.le_of_ble_eq_true rfl) ?_
  refine W.eq (g2 := F0 m 4 ls []) rfl ?_
  refine lv_aload_n hx hb dX6_init_4 rfl (lv_at hl 0 rfl) ?_
  refine lv_iconst (v := 5) hx hb dX6_init_5 (by decide) ?_
  refine va_newa (atype := .int) (a0 := (5, .inl (fun _ => 0))) (ty := .int) hx hb (hts _ (wM_c wd_237)) rfl hK hP hD hS hA (fun _ => rfl) (by decide) rfl (by decide) (Nat.le_of_ble_eq_true rfl) (Nat.le_of_ble_eq_true rfl) dX6_init_6 (fun q_1 k_2 H hK hP hD hS => ?_)
  have hP : va_P (dC, dI) classes [(pl, .inr (6, [.int 0, .null, .null, .null, .null, .null, .null, .null, .null, .int 0, .int 0])), (q_1, .inl (k_2, 5, .inl (fun _ => 0)))] H := hP
  have hD : va_D A [(pl, .inr (6, [.int 0, .null, .null, .null, .null, .null, .null, .null, .null, .int 0, .int 0])), (q_1, .inl (k_2, 5, .inl (fun _ => 0)))] := hD
  have hK : va_K (dC, dI) classes [(k_2, .int)] s := hK
  refine W.widen (k := 1) (n := 5) (Nat.le_of_ble_eq_true rfl) (Nat.le_of_ble_eq_true rfl) ?_
  refine va_putF (D := (dC, dI)) (ci := 6) (v := .ref q_1) (ty := (.array .int)) (C := RX6) (T := TX6) (N := 11) hx hb hts (fun w h => wM_c (iX6 w h)) tyX6 tyX6_ok nmX6 hown hK hP hD hS 0 rfl rfl 1 (by decide) (hts _ (wM_c wd_574)) (fun _ h9 => h9) rfl hin rfl (by decide +kernel) rfl rfl (Nat.le_of_ble_eq_true rfl) dX6_init_8 (fun H locs hP hD hS => ?_)
  have hP : va_P (dC, dI) classes [(pl, .inr (6, [.int 0, .ref q_1, .null, .null, .null, .null, .null, .null, .null, .int 0, .int 0])), (q_1, .inl (k_2, 5, .inl (fun _ => 0)))] H := hP
  have hD : va_D A [(pl, .inr (6, [.int 0, .ref q_1, .null, .null, .null, .null, .null, .null, .null, .int 0, .int 0])), (q_1, .inl (k_2, 5, .inl (fun _ => 0)))] := hD
  refine lv_aload_n hx hb dX6_init_11 rfl (lv_at hl 0 rfl) ?_
  refine lv_iconst (v := 5) hx hb dX6_init_12 (by decide) ?_
  refine va_newa (atype := .int) (a0 := (5, .inl (fun _ => 0))) (ty := .int) hx hb (hts _ (wM_c wd_237)) rfl hK hP hD hS hA (fun _ => rfl) (by decide) rfl (by decide) (Nat.le_of_ble_eq_true rfl) (Nat.le_of_ble_eq_true rfl) dX6_init_13 (fun q_3 k_4 H hK hP hD hS => ?_)
  have hP : va_P (dC, dI) classes [(pl, .inr (6, [.int 0, .ref q_1, .null, .null, .null, .null, .null, .null, .null, .int 0, .int 0])), (q_1, .inl (k_2, 5, .inl (fun _ => 0))), (q_3, .inl (k_4, 5, .inl (fun _ => 0)))] H := hP
  have hD : va_D A [(pl, .inr (6, [.int 0, .ref q_1, .null, .null, .null, .null, .null, .null, .null, .int 0, .int 0])), (q_1, .inl (k_2, 5, .inl (fun _ => 0))), (q_3, .inl (k_4, 5, .inl (fun _ => 0)))] := hD
  have hK : va_K (dC, dI) classes [(k_2, .int), (k_4, .int)] s := hK
  refine W.widen (k := 2) (n := 10) (Nat.le_of_ble_eq_true rfl) (Nat.le_of_ble_eq_true rfl) ?_
  refine va_putF (D := (dC, dI)) (ci := 6) (v := .ref q_3) (ty := (.array .int)) (C := RX6) (T := TX6) (N := 11) hx hb hts (fun w h => wM_c (iX6 w h)) tyX6 tyX6_ok nmX6 hown hK hP hD hS 0 rfl rfl 5 (by decide) (hts _ (wM_c wd_579)) (fun _ h9 => h9) rfl hin rfl (by decide +kernel) rfl rfl (Nat.le_of_ble_eq_true rfl) dX6_init_15 (fun H locs hP hD hS => ?_)
  have hP : va_P (dC, dI) classes [(pl, .inr (6, [.int 0, .ref q_1, .null, .null, .null, .ref q_3, .null, .null, .null, .int 0, .int 0])), (q_1, .inl (k_2, 5, .inl (fun _ => 0))), (q_3, .inl (k_4, 5, .inl (fun _ => 0)))] H := hP
  have hD : va_D A [(pl, .inr (6, [.int 0, .ref q_1, .null, .null, .null, .ref q_3, .null, .null, .null, .int 0, .int 0])), (q_1, .inl (k_2, 5, .inl (fun _ => 0))), (q_3, .inl (k_4, 5, .inl (fun _ => 0)))] := hD
  refine lv_aload_n hx hb dX6_init_18 rfl (lv_at hl 0 rfl) ?_
  refine lv_iconst (v := 5) hx hb dX6_init_19 (by decide) ?_
  refine va_newa (atype := .int) (a0 := (5, .inl (fun _ => 0))) (ty := .int) hx hb (hts _ (wM_c wd_237)) rfl hK hP hD hS hA (fun _ => rfl) (by decide) rfl (by decide) (Nat.le_of_ble_eq_true rfl) (Nat.le_of_ble_eq_true rfl) dX6_init_20 (fun q_5 k_6 H hK hP hD hS => ?_)
  have hP : va_P (dC, dI) classes [(pl, .inr (6, [.int 0, .ref q_1, .null, .null, .null, .ref q_3, .null, .null, .null, .int 0, .int 0])), (q_1, .inl (k_2, 5, .inl (fun _ => 0))), (q_3, .inl (k_4, 5, .inl (fun _ => 0))), (q_5, .inl (k_6, 5, .inl (fun _ => 0)))] H := hP
  have hD : va_D A [(pl, .inr (6, [.int 0, .ref q_1, .null, .null, .null, .ref q_3, .null, .null, .null, .int 0, .int 0])), (q_1, .inl (k_2, 5, .inl (fun _ => 0))), (q_3, .inl (k_4, 5, .inl (fun _ => 0))), (q_5, .inl (k_6, 5, .inl (fun _ => 0)))] := hD
  have hK : va_K (dC, dI) classes [(k_2, .int), (k_4, .int), (k_6, .int)] s := hK
  refine W.widen (k := 3) (n := 15) (Nat.le_of_ble_eq_true rfl) (Nat.le_of_ble_eq_true rfl) ?_
  refine va_putF (D := (dC, dI)) (ci := 6) (v := .ref q_5) (ty := (.array .int)) (C := RX6) (T := TX6) (N := 11) hx hb hts (fun w h => wM_c (iX6 w h)) tyX6 tyX6_ok nmX6 hown hK hP hD hS 0 rfl rfl 6 (by decide) (hts _ (wM_c wd_580)) (fun _ h9 => h9) rfl hin rfl (by decide +kernel) rfl rfl (Nat.le_of_ble_eq_true rfl) dX6_init_22 (fun H locs hP hD hS => ?_)
  have hP : va_P (dC, dI) classes [(pl, .inr (6, [.int 0, .ref q_1, .null, .null, .null, .ref q_3, .ref q_5, .null, .null, .int 0, .int 0])), (q_1, .inl (k_2, 5, .inl (fun _ => 0))), (q_3, .inl (k_4, 5, .inl (fun _ => 0))), (q_5, .inl (k_6, 5, .inl (fun _ => 0)))] H := hP
  have hD : va_D A [(pl, .inr (6, [.int 0, .ref q_1, .null, .null, .null, .ref q_3, .ref q_5, .null, .null, .int 0, .int 0])), (q_1, .inl (k_2, 5, .inl (fun _ => 0))), (q_3, .inl (k_4, 5, .inl (fun _ => 0))), (q_5, .inl (k_6, 5, .inl (fun _ => 0)))] := hD
  refine lv_aload_n hx hb dX6_init_25 rfl (lv_at hl 0 rfl) ?_
  refine lv_iconst (v := 5) hx hb dX6_init_26 (by decide) ?_
  refine va_newa (atype := .int) (a0 := (5, .inl (fun _ => 0))) (ty := .int) hx hb (hts _ (wM_c wd_237)) rfl hK hP hD hS hA (fun _ => rfl) (by decide) rfl (by decide) (Nat.le_of_ble_eq_true rfl) (Nat.le_of_ble_eq_true rfl) dX6_init_27 (fun q_7 k_8 H hK hP hD hS => ?_)
  have hP : va_P (dC, dI) classes [(pl, .inr (6, [.int 0, .ref q_1, .null, .null, .null, .ref q_3, .ref q_5, .null, .null, .int 0, .int 0])), (q_1, .inl (k_2, 5, .inl (fun _ => 0))), (q_3, .inl (k_4, 5, .inl (fun _ => 0))), (q_5, .inl (k_6, 5, .inl (fun _ => 0))), (q_7, .inl (k_8, 5, .inl (fun _ => 0)))] H := hP
  have hD : va_D A [(pl, .inr (6, [.int 0, .ref q_1, .null, .null, .null, .ref q_3, .ref q_5, .null, .null, .int 0, .int 0])), (q_1, .inl (k_2, 5, .inl (fun _ => 0))), (q_3, .inl (k_4, 5, .inl (fun _ => 0))), (q_5, .inl (k_6, 5, .inl (fun _ => 0))), (q_7, .inl (k_8, 5, .inl (fun _ => 0)))] := hD
  have hK : va_K (dC, dI) classes [(k_2, .int), (k_4, .int), (k_6, .int), (k_8, .int)] s := hK
  refine W.widen (k := 4) (n := 20) (Nat.le_of_ble_eq_true rfl) (Nat.le_of_ble_eq_true rfl) ?_
  refine va_putF (D := (dC, dI)) (ci := 6) (v := .ref q_7) (ty := (.array .int)) (C := RX6) (T := TX6) (N := 11) hx hb hts (fun w h => wM_c (iX6 w h)) tyX6 tyX6_ok nmX6 hown hK hP hD hS 0 rfl rfl 7 (by decide) (hts _ (wM_c wd_581)) (fun _ h9 => h9) rfl hin rfl (by decide +kernel) rfl rfl (Nat.le_of_ble_eq_true rfl) dX6_init_29 (fun H locs hP hD hS => ?_)
  have hP : va_P (dC, dI) classes [(pl, .inr (6, [.int 0, .ref q_1, .null, .null, .null, .ref q_3, .ref q_5, .ref q_7, .null, .int 0, .int 0])), (q_1, .inl (k_2, 5, .inl (fun _ => 0))), (q_3, .inl (k_4, 5, .inl (fun _ => 0))), (q_5, .inl (k_6, 5, .inl (fun _ => 0))), (q_7, .inl (k_8, 5, .inl (fun _ => 0)))] H := hP
  have hD : va_D A [(pl, .inr (6, [.int 0, .ref q_1, .null, .null, .null, .ref q_3, .ref q_5, .ref q_7, .null, .int 0, .int 0])), (q_1, .inl (k_2, 5, .inl (fun _ => 0))), (q_3, .inl (k_4, 5, .inl (fun _ => 0))), (q_5, .inl (k_6, 5, .inl (fun _ => 0))), (q_7, .inl (k_8, 5, .inl (fun _ => 0)))] := hD
  refine lv_aload_n hx hb dX6_init_32 rfl (lv_at hl 0 rfl) ?_
  refine lv_bipush (v := 32) hx hb dX6_init_33 (by decide) ?_
  refine va_newa (atype := .int) (a0 := (32, .inl (fun _ => 0))) (ty := .int) hx hb (hts _ (wM_c wd_237)) rfl hK hP hD hS hA (fun _ => rfl) (by decide) rfl (by decide) (Nat.le_of_ble_eq_true rfl) (Nat.le_of_ble_eq_true rfl) dX6_init_35 (fun q_9 k_10 H hK hP hD hS => ?_)
  have hP : va_P (dC, dI) classes [(pl, .inr (6, [.int 0, .ref q_1, .null, .null, .null, .ref q_3, .ref q_5, .ref q_7, .null, .int 0, .int 0])), (q_1, .inl (k_2, 5, .inl (fun _ => 0))), (q_3, .inl (k_4, 5, .inl (fun _ => 0))), (q_5, .inl (k_6, 5, .inl (fun _ => 0))), (q_7, .inl (k_8, 5, .inl (fun _ => 0))), (q_9, .inl (k_10, 32, .inl (fun _ => 0)))] H := hP
  have hD : va_D A [(pl, .inr (6, [.int 0, .ref q_1, .null, .null, .null, .ref q_3, .ref q_5, .ref q_7, .null, .int 0, .int 0])), (q_1, .inl (k_2, 5, .inl (fun _ => 0))), (q_3, .inl (k_4, 5, .inl (fun _ => 0))), (q_5, .inl (k_6, 5, .inl (fun _ => 0))), (q_7, .inl (k_8, 5, .inl (fun _ => 0))), (q_9, .inl (k_10, 32, .inl (fun _ => 0)))] := hD
  have hK : va_K (dC, dI) classes [(k_2, .int), (k_4, .int), (k_6, .int), (k_8, .int), (k_10, .int)] s := hK
  refine W.widen (k := 5) (n := 52) (Nat.le_of_ble_eq_true rfl) (Nat.le_of_ble_eq_true rfl) ?_
  refine va_putF (D := (dC, dI)) (ci := 6) (v := .ref q_9) (ty := (.array .int)) (C := RX6) (T := TX6) (N := 11) hx hb hts (fun w h => wM_c (iX6 w h)) tyX6 tyX6_ok nmX6 hown hK hP hD hS 0 rfl rfl 8 (by decide) (hts _ (wM_c wd_582)) (fun _ h9 => h9) rfl hin rfl (by decide +kernel) rfl rfl (Nat.le_of_ble_eq_true rfl) dX6_init_37 (fun H locs hP hD hS => ?_)
  have hP : va_P (dC, dI) classes [(pl, .inr (6, [.int 0, .ref q_1, .null, .null, .null, .ref q_3, .ref q_5, .ref q_7, .ref q_9, .int 0, .int 0])), (q_1, .inl (k_2, 5, .inl (fun _ => 0))), (q_3, .inl (k_4, 5, .inl (fun _ => 0))), (q_5, .inl (k_6, 5, .inl (fun _ => 0))), (q_7, .inl (k_8, 5, .inl (fun _ => 0))), (q_9, .inl (k_10, 32, .inl (fun _ => 0)))] H := hP
  have hD : va_D A [(pl, .inr (6, [.int 0, .ref q_1, .null, .null, .null, .ref q_3, .ref q_5, .ref q_7, .ref q_9, .int 0, .int 0])), (q_1, .inl (k_2, 5, .inl (fun _ => 0))), (q_3, .inl (k_4, 5, .inl (fun _ => 0))), (q_5, .inl (k_6, 5, .inl (fun _ => 0))), (q_7, .inl (k_8, 5, .inl (fun _ => 0))), (q_9, .inl (k_10, 32, .inl (fun _ => 0)))] := hD
  refine lv_aload_n hx hb dX6_init_40 rfl (lv_at hl 0 rfl) ?_
  refine lv_aload_n hx hb dX6_init_41 rfl (lv_at hl 1 rfl) ?_
  refine va_putF (D := (dC, dI)) (ci := 6) (v := .ref st) (ty := (.object "MineAir$State")) (C := RX6) (T := TX6) (N := 11) hx hb hts (fun w h => wM_c (iX6 w h)) tyX6 tyX6_ok nmX6 hown hK hP hD hS 0 rfl rfl 2 (by decide) (hts _ (wM_c wd_576)) (fun _ h9 => h9) rfl hin rfl (by decide +kernel) rfl rfl (Nat.le_of_ble_eq_true rfl) dX6_init_42 (fun H locs hP hD hS => ?_)
  have hP : va_P (dC, dI) classes [(pl, .inr (6, [.int 0, .ref q_1, .ref st, .null, .null, .ref q_3, .ref q_5, .ref q_7, .ref q_9, .int 0, .int 0])), (q_1, .inl (k_2, 5, .inl (fun _ => 0))), (q_3, .inl (k_4, 5, .inl (fun _ => 0))), (q_5, .inl (k_6, 5, .inl (fun _ => 0))), (q_7, .inl (k_8, 5, .inl (fun _ => 0))), (q_9, .inl (k_10, 32, .inl (fun _ => 0)))] H := hP
  have hD : va_D A [(pl, .inr (6, [.int 0, .ref q_1, .ref st, .null, .null, .ref q_3, .ref q_5, .ref q_7, .ref q_9, .int 0, .int 0])), (q_1, .inl (k_2, 5, .inl (fun _ => 0))), (q_3, .inl (k_4, 5, .inl (fun _ => 0))), (q_5, .inl (k_6, 5, .inl (fun _ => 0))), (q_7, .inl (k_8, 5, .inl (fun _ => 0))), (q_9, .inl (k_10, 32, .inl (fun _ => 0)))] := hD
  refine lv_aload_n hx hb dX6_init_45 rfl (lv_at hl 0 rfl) ?_
  refine lv_aload_n hx hb dX6_init_46 rfl (lv_at hl 2 rfl) ?_
  refine va_putF (D := (dC, dI)) (ci := 6) (v := .ref nw) (ty := (.object "MineAir$Judge")) (C := RX6) (T := TX6) (N := 11) hx hb hts (fun w h => wM_c (iX6 w h)) tyX6 tyX6_ok nmX6 hown hK hP hD hS 0 rfl rfl 3 (by decide) (hts _ (wM_c wd_577)) (fun _ h9 => h9) rfl hin rfl (by decide +kernel) rfl rfl (Nat.le_of_ble_eq_true rfl) dX6_init_47 (fun H locs hP hD hS => ?_)
  have hP : va_P (dC, dI) classes [(pl, .inr (6, [.int 0, .ref q_1, .ref st, .ref nw, .null, .ref q_3, .ref q_5, .ref q_7, .ref q_9, .int 0, .int 0])), (q_1, .inl (k_2, 5, .inl (fun _ => 0))), (q_3, .inl (k_4, 5, .inl (fun _ => 0))), (q_5, .inl (k_6, 5, .inl (fun _ => 0))), (q_7, .inl (k_8, 5, .inl (fun _ => 0))), (q_9, .inl (k_10, 32, .inl (fun _ => 0)))] H := hP
  have hD : va_D A [(pl, .inr (6, [.int 0, .ref q_1, .ref st, .ref nw, .null, .ref q_3, .ref q_5, .ref q_7, .ref q_9, .int 0, .int 0])), (q_1, .inl (k_2, 5, .inl (fun _ => 0))), (q_3, .inl (k_4, 5, .inl (fun _ => 0))), (q_5, .inl (k_6, 5, .inl (fun _ => 0))), (q_7, .inl (k_8, 5, .inl (fun _ => 0))), (q_9, .inl (k_10, 32, .inl (fun _ => 0)))] := hD
  refine lv_aload_n hx hb dX6_init_50 rfl (lv_at hl 0 rfl) ?_
  refine lv_aload_n hx hb dX6_init_51 rfl (lv_at hl 3 rfl) ?_
  refine va_putF (D := (dC, dI)) (ci := 6) (v := .ref tl) (ty := (.object "MineAir$Judge")) (C := RX6) (T := TX6) (N := 11) hx hb hts (fun w h => wM_c (iX6 w h)) tyX6 tyX6_ok nmX6 hown hK hP hD hS 0 rfl rfl 4 (by decide) (hts _ (wM_c wd_578)) (fun _ h9 => h9) rfl hin rfl (by decide +kernel) rfl rfl (Nat.le_of_ble_eq_true rfl) dX6_init_52 (fun H locs hP hD hS => ?_)
  have hP : va_P (dC, dI) classes [(pl, .inr (6, [.int 0, .ref q_1, .ref st, .ref nw, .ref tl, .ref q_3, .ref q_5, .ref q_7, .ref q_9, .int 0, .int 0])), (q_1, .inl (k_2, 5, .inl (fun _ => 0))), (q_3, .inl (k_4, 5, .inl (fun _ => 0))), (q_5, .inl (k_6, 5, .inl (fun _ => 0))), (q_7, .inl (k_8, 5, .inl (fun _ => 0))), (q_9, .inl (k_10, 32, .inl (fun _ => 0)))] H := hP
  have hD : va_D A [(pl, .inr (6, [.int 0, .ref q_1, .ref st, .ref nw, .ref tl, .ref q_3, .ref q_5, .ref q_7, .ref q_9, .int 0, .int 0])), (q_1, .inl (k_2, 5, .inl (fun _ => 0))), (q_3, .inl (k_4, 5, .inl (fun _ => 0))), (q_5, .inl (k_6, 5, .inl (fun _ => 0))), (q_7, .inl (k_8, 5, .inl (fun _ => 0))), (q_9, .inl (k_10, 32, .inl (fun _ => 0)))] := hD
  have hP9 := hP.sub (ws' := [(pl, .inr (6, [.int 0, .ref q_1, .ref st, .ref nw, .ref tl, .ref q_3, .ref q_5, .ref q_7, .ref q_9, .int 0, .int 0]))]) [0] rfl
  have hD9 := hD.sub (ws' := [(pl, .inr (6, [.int 0, .ref q_1, .ref st, .ref nw, .ref tl, .ref q_3, .ref q_5, .ref q_7, .ref q_9, .int 0, .int 0]))]) [0] (by decide) rfl
  have hK9 := hK.sub (tys' := []) [] rfl
  exact W.vret hx hb hr (fun t ht hW => ⟨⟨(), rfl, trivial, q_1, q_3, q_5, q_7, q_9, by rw [ht]; exact hP9, va_K.moved hW.alike hK9, hD9⟩, hS.F ht⟩) hS.2.2 dX6_init_55
set_option maxHeartbeats 4000000 in
set_option maxRecDepth 100000 in
theorem n_Flight (l : Launch) (dC : Nat → ClassId) (dI : Nat → Nat → Nat) (n0 sz : Nat) (fl : Nat) (bk : Nat) (st : Nat) : Met l yX1_init (wM yX1_init cX1_init 3 none) ({ frames := 1, cells := 5, slots := 65, locals := 12 }) (va_Pc [.ref fl, .ref bk, .ref st] (fun U => U.heap.size = sz ∧ n0 ≤ sz ∧ GW n0 U ∧ va_P (dC, dI) classes [(fl, .inr (1, [.int 0, .null, .null, .null, .null, .null, .null, .null]))] U.heap ∧ va_K (dC, dI) classes [] U ∧ va_D (fun q => n0 ≤ q) [(fl, .inr (1, [.int 0, .null, .null, .null, .null, .null, .null, .null]))])) (va_Qv (fun _ : Unit => True) (fun (_ : Unit) (t : State) => ∃ (fl_knotOf : Nat), ∃ (fl_smokeAt : Nat), ∃ (fl_reach : Nat), ∃ (fl_route : Nat), ∃ (fl_smokeIn : Nat), va_P (dC, dI) classes [(fl, .inr (1, [.int 0, .ref fl_knotOf, .ref fl_smokeAt, .ref fl_reach, .ref fl_route, .ref bk, .ref st, .ref fl_smokeIn]))] t.heap ∧ va_K (dC, dI) classes [] t ∧ va_D (va_A [(fl, .inr (1, [.int 0, .null, .null, .null, .null, .null, .null, .null]))] sz) [(fl, .inr (1, [.int 0, .ref fl_knotOf, .ref fl_smokeAt, .ref fl_reach, .ref fl_route, .ref bk, .ref st, .ref fl_smokeIn]))]) (va_A [(fl, .inr (1, [.int 0, .null, .null, .null, .null, .null, .null, .null]))] sz)) 5 65 (va_A [(fl, .inr (1, [.int 0, .null, .null, .null, .null, .null, .null, .null]))] sz) := by
  refine Met.ofW (cc := cX1_init) (maxL := 3) (ret := none) (by decide) rfl ?_
  intro p e s m args below meth c s₁ B hml hv
  obtain ⟨rfl, hsz, hn0, hG, hP, hK, hD0⟩ := hv
  have hx := B.exec
  have hb := B.bytes
  have hr := B.returns
  have hts := atoms_spec (ws := wM yX1_init cX1_init 3 none) B.pre
  have hown : s.vm.findClass RX1 = some m.cls := findClass_of_methodNamed B.named
  have hlocks := B.notSynchronized
  have hin : meth.name = "<init>" := (name_of_methodNamed B.named B.method).1
  subst hsz
  have hD := hD0.self (sz := s.heap.size)
  have hA0 := vA_n0 hD0 hn0
  generalize hAe : va_A [(fl, .inr (1, [.int 0, .null, .null, .null, .null, .null, .null, .null]))] s.heap.size = A at hD hA0 ⊢
  have hA : ∀ q : Nat, s.heap.size ≤ q → A q := fun q h => by rw [← hAe]; exact Or.inr h
  have hS : va_S A s.heap s.heap [] := va_S.rf
  have hl := lv_entry ([.ref fl, .ref bk, .ref st]) (n := 3) (Nat.le_of_ble_eq_true rfl)
  rw [lg_entry_eq]
  generalize (lg_sl ([.ref fl, .ref bk, .ref st]) ++ List.replicate (3 - (lg_sl ([.ref fl, .ref bk, .ref st])).length) Slot.unset).toArray = ls at hl ⊢
  have hl : lv_has ls 3 [(0, .ref fl), (1, .ref bk), (2, .ref st)] := hl
  refine lv_aload_n hx hb dX1_init_0 rfl (lv_at hl 0 rfl) ?_
  refine W.objInit hx hb hown (hts _ (wM_c wd_613)) (hts _ (wM_c wd_146)) (hts _ (wM_c wd_objInit)) rfl (by rw [hml]; exact hl.1) rfl dX1_init_1 (Nat.le_of_ble_eq_true rfl) (Nat.le_of_ble_eq_true rfl) ?_
  refine W.eq (g2 := F0 m 4 ls []) rfl ?_
  refine lv_aload_n hx hb dX1_init_4 rfl (lv_at hl 0 rfl) ?_
  refine lv_bipush (v := 20) hx hb dX1_init_5 (by decide) ?_
  refine va_newa (atype := .int) (a0 := (20, .inl (fun _ => 0))) (ty := .int) hx hb (hts _ (wM_c wd_237)) rfl hK hP hD hS hA (fun _ => rfl) (by decide) rfl (by decide) (Nat.le_of_ble_eq_true rfl) (Nat.le_of_ble_eq_true rfl) dX1_init_7 (fun q_1 k_2 H hK hP hD hS => ?_)
  have hP : va_P (dC, dI) classes [(fl, .inr (1, [.int 0, .null, .null, .null, .null, .null, .null, .null])), (q_1, .inl (k_2, 20, .inl (fun _ => 0)))] H := hP
  have hD : va_D A [(fl, .inr (1, [.int 0, .null, .null, .null, .null, .null, .null, .null])), (q_1, .inl (k_2, 20, .inl (fun _ => 0)))] := hD
  have hK : va_K (dC, dI) classes [(k_2, .int)] s := hK
  refine W.widen (k := 1) (n := 20) (Nat.le_of_ble_eq_true rfl) (Nat.le_of_ble_eq_true rfl) ?_
  refine va_putF (D := (dC, dI)) (ci := 1) (v := .ref q_1) (ty := (.array .int)) (C := RX1) (T := TX1) (N := 8) hx hb hts (fun w h => wM_c (iX1 w h)) tyX1 tyX1_ok nmX1 hown hK hP hD hS 0 rfl rfl 1 (by decide) (hts _ (wM_c wd_615)) (fun _ h9 => h9) rfl hin rfl (by decide +kernel) rfl rfl (Nat.le_of_ble_eq_true rfl) dX1_init_9 (fun H locs hP hD hS => ?_)
  have hP : va_P (dC, dI) classes [(fl, .inr (1, [.int 0, .ref q_1, .null, .null, .null, .null, .null, .null])), (q_1, .inl (k_2, 20, .inl (fun _ => 0)))] H := hP
  have hD : va_D A [(fl, .inr (1, [.int 0, .ref q_1, .null, .null, .null, .null, .null, .null])), (q_1, .inl (k_2, 20, .inl (fun _ => 0)))] := hD
  refine lv_aload_n hx hb dX1_init_12 rfl (lv_at hl 0 rfl) ?_
  refine lv_bipush (v := 14) hx hb dX1_init_13 (by decide) ?_
  refine va_newa (atype := .int) (a0 := (14, .inl (fun _ => 0))) (ty := .int) hx hb (hts _ (wM_c wd_237)) rfl hK hP hD hS hA (fun _ => rfl) (by decide) rfl (by decide) (Nat.le_of_ble_eq_true rfl) (Nat.le_of_ble_eq_true rfl) dX1_init_15 (fun q_3 k_4 H hK hP hD hS => ?_)
  have hP : va_P (dC, dI) classes [(fl, .inr (1, [.int 0, .ref q_1, .null, .null, .null, .null, .null, .null])), (q_1, .inl (k_2, 20, .inl (fun _ => 0))), (q_3, .inl (k_4, 14, .inl (fun _ => 0)))] H := hP
  have hD : va_D A [(fl, .inr (1, [.int 0, .ref q_1, .null, .null, .null, .null, .null, .null])), (q_1, .inl (k_2, 20, .inl (fun _ => 0))), (q_3, .inl (k_4, 14, .inl (fun _ => 0)))] := hD
  have hK : va_K (dC, dI) classes [(k_2, .int), (k_4, .int)] s := hK
  refine W.widen (k := 2) (n := 34) (Nat.le_of_ble_eq_true rfl) (Nat.le_of_ble_eq_true rfl) ?_
  refine va_putF (D := (dC, dI)) (ci := 1) (v := .ref q_3) (ty := (.array .int)) (C := RX1) (T := TX1) (N := 8) hx hb hts (fun w h => wM_c (iX1 w h)) tyX1 tyX1_ok nmX1 hown hK hP hD hS 0 rfl rfl 2 (by decide) (hts _ (wM_c wd_617)) (fun _ h9 => h9) rfl hin rfl (by decide +kernel) rfl rfl (Nat.le_of_ble_eq_true rfl) dX1_init_17 (fun H locs hP hD hS => ?_)
  have hP : va_P (dC, dI) classes [(fl, .inr (1, [.int 0, .ref q_1, .ref q_3, .null, .null, .null, .null, .null])), (q_1, .inl (k_2, 20, .inl (fun _ => 0))), (q_3, .inl (k_4, 14, .inl (fun _ => 0)))] H := hP
  have hD : va_D A [(fl, .inr (1, [.int 0, .ref q_1, .ref q_3, .null, .null, .null, .null, .null])), (q_1, .inl (k_2, 20, .inl (fun _ => 0))), (q_3, .inl (k_4, 14, .inl (fun _ => 0)))] := hD
  refine lv_aload_n hx hb dX1_init_20 rfl (lv_at hl 0 rfl) ?_
  refine lv_bipush (v := 10) hx hb dX1_init_21 (by decide) ?_
  refine va_newa (atype := .int) (a0 := (10, .inl (fun _ => 0))) (ty := .int) hx hb (hts _ (wM_c wd_237)) rfl hK hP hD hS hA (fun _ => rfl) (by decide) rfl (by decide) (Nat.le_of_ble_eq_true rfl) (Nat.le_of_ble_eq_true rfl) dX1_init_23 (fun q_5 k_6 H hK hP hD hS => ?_)
  have hP : va_P (dC, dI) classes [(fl, .inr (1, [.int 0, .ref q_1, .ref q_3, .null, .null, .null, .null, .null])), (q_1, .inl (k_2, 20, .inl (fun _ => 0))), (q_3, .inl (k_4, 14, .inl (fun _ => 0))), (q_5, .inl (k_6, 10, .inl (fun _ => 0)))] H := hP
  have hD : va_D A [(fl, .inr (1, [.int 0, .ref q_1, .ref q_3, .null, .null, .null, .null, .null])), (q_1, .inl (k_2, 20, .inl (fun _ => 0))), (q_3, .inl (k_4, 14, .inl (fun _ => 0))), (q_5, .inl (k_6, 10, .inl (fun _ => 0)))] := hD
  have hK : va_K (dC, dI) classes [(k_2, .int), (k_4, .int), (k_6, .int)] s := hK
  refine W.widen (k := 3) (n := 44) (Nat.le_of_ble_eq_true rfl) (Nat.le_of_ble_eq_true rfl) ?_
  refine va_putF (D := (dC, dI)) (ci := 1) (v := .ref q_5) (ty := (.array .int)) (C := RX1) (T := TX1) (N := 8) hx hb hts (fun w h => wM_c (iX1 w h)) tyX1 tyX1_ok nmX1 hown hK hP hD hS 0 rfl rfl 3 (by decide) (hts _ (wM_c wd_619)) (fun _ h9 => h9) rfl hin rfl (by decide +kernel) rfl rfl (Nat.le_of_ble_eq_true rfl) dX1_init_25 (fun H locs hP hD hS => ?_)
  have hP : va_P (dC, dI) classes [(fl, .inr (1, [.int 0, .ref q_1, .ref q_3, .ref q_5, .null, .null, .null, .null])), (q_1, .inl (k_2, 20, .inl (fun _ => 0))), (q_3, .inl (k_4, 14, .inl (fun _ => 0))), (q_5, .inl (k_6, 10, .inl (fun _ => 0)))] H := hP
  have hD : va_D A [(fl, .inr (1, [.int 0, .ref q_1, .ref q_3, .ref q_5, .null, .null, .null, .null])), (q_1, .inl (k_2, 20, .inl (fun _ => 0))), (q_3, .inl (k_4, 14, .inl (fun _ => 0))), (q_5, .inl (k_6, 10, .inl (fun _ => 0)))] := hD
  refine lv_aload_n hx hb dX1_init_28 rfl (lv_at hl 0 rfl) ?_
  refine lv_bipush (v := 11) hx hb dX1_init_29 (by decide) ?_
  refine va_newa (atype := .int) (a0 := (11, .inl (fun _ => 0))) (ty := .int) hx hb (hts _ (wM_c wd_237)) rfl hK hP hD hS hA (fun _ => rfl) (by decide) rfl (by decide) (Nat.le_of_ble_eq_true rfl) (Nat.le_of_ble_eq_true rfl) dX1_init_31 (fun q_7 k_8 H hK hP hD hS => ?_)
  have hP : va_P (dC, dI) classes [(fl, .inr (1, [.int 0, .ref q_1, .ref q_3, .ref q_5, .null, .null, .null, .null])), (q_1, .inl (k_2, 20, .inl (fun _ => 0))), (q_3, .inl (k_4, 14, .inl (fun _ => 0))), (q_5, .inl (k_6, 10, .inl (fun _ => 0))), (q_7, .inl (k_8, 11, .inl (fun _ => 0)))] H := hP
  have hD : va_D A [(fl, .inr (1, [.int 0, .ref q_1, .ref q_3, .ref q_5, .null, .null, .null, .null])), (q_1, .inl (k_2, 20, .inl (fun _ => 0))), (q_3, .inl (k_4, 14, .inl (fun _ => 0))), (q_5, .inl (k_6, 10, .inl (fun _ => 0))), (q_7, .inl (k_8, 11, .inl (fun _ => 0)))] := hD
  have hK : va_K (dC, dI) classes [(k_2, .int), (k_4, .int), (k_6, .int), (k_8, .int)] s := hK
  refine W.widen (k := 4) (n := 55) (Nat.le_of_ble_eq_true rfl) (Nat.le_of_ble_eq_true rfl) ?_
  refine va_putF (D := (dC, dI)) (ci := 1) (v := .ref q_7) (ty := (.array .int)) (C := RX1) (T := TX1) (N := 8) hx hb hts (fun w h => wM_c (iX1 w h)) tyX1 tyX1_ok nmX1 hown hK hP hD hS 0 rfl rfl 4 (by decide) (hts _ (wM_c wd_621)) (fun _ h9 => h9) rfl hin rfl (by decide +kernel) rfl rfl (Nat.le_of_ble_eq_true rfl) dX1_init_33 (fun H locs hP hD hS => ?_)
  have hP : va_P (dC, dI) classes [(fl, .inr (1, [.int 0, .ref q_1, .ref q_3, .ref q_5, .ref q_7, .null, .null, .null])), (q_1, .inl (k_2, 20, .inl (fun _ => 0))), (q_3, .inl (k_4, 14, .inl (fun _ => 0))), (q_5, .inl (k_6, 10, .inl (fun _ => 0))), (q_7, .inl (k_8, 11, .inl (fun _ => 0)))] H := hP
  have hD : va_D A [(fl, .inr (1, [.int 0, .ref q_1, .ref q_3, .ref q_5, .ref q_7, .null, .null, .null])), (q_1, .inl (k_2, 20, .inl (fun _ => 0))), (q_3, .inl (k_4, 14, .inl (fun _ => 0))), (q_5, .inl (k_6, 10, .inl (fun _ => 0))), (q_7, .inl (k_8, 11, .inl (fun _ => 0)))] := hD
  refine lv_aload_n hx hb dX1_init_36 rfl (lv_at hl 0 rfl) ?_
  refine lv_bipush (v := 10) hx hb dX1_init_37 (by decide) ?_
  refine va_newa (atype := .int) (a0 := (10, .inl (fun _ => 0))) (ty := .int) hx hb (hts _ (wM_c wd_237)) rfl hK hP hD hS hA (fun _ => rfl) (by decide) rfl (by decide) (Nat.le_of_ble_eq_true rfl) (Nat.le_of_ble_eq_true rfl) dX1_init_39 (fun q_9 k_10 H hK hP hD hS => ?_)
  have hP : va_P (dC, dI) classes [(fl, .inr (1, [.int 0, .ref q_1, .ref q_3, .ref q_5, .ref q_7, .null, .null, .null])), (q_1, .inl (k_2, 20, .inl (fun _ => 0))), (q_3, .inl (k_4, 14, .inl (fun _ => 0))), (q_5, .inl (k_6, 10, .inl (fun _ => 0))), (q_7, .inl (k_8, 11, .inl (fun _ => 0))), (q_9, .inl (k_10, 10, .inl (fun _ => 0)))] H := hP
  have hD : va_D A [(fl, .inr (1, [.int 0, .ref q_1, .ref q_3, .ref q_5, .ref q_7, .null, .null, .null])), (q_1, .inl (k_2, 20, .inl (fun _ => 0))), (q_3, .inl (k_4, 14, .inl (fun _ => 0))), (q_5, .inl (k_6, 10, .inl (fun _ => 0))), (q_7, .inl (k_8, 11, .inl (fun _ => 0))), (q_9, .inl (k_10, 10, .inl (fun _ => 0)))] := hD
  have hK : va_K (dC, dI) classes [(k_2, .int), (k_4, .int), (k_6, .int), (k_8, .int), (k_10, .int)] s := hK
  refine W.widen (k := 5) (n := 65) (Nat.le_of_ble_eq_true rfl) (Nat.le_of_ble_eq_true rfl) ?_
  refine va_putF (D := (dC, dI)) (ci := 1) (v := .ref q_9) (ty := (.array .int)) (C := RX1) (T := TX1) (N := 8) hx hb hts (fun w h => wM_c (iX1 w h)) tyX1 tyX1_ok nmX1 hown hK hP hD hS 0 rfl rfl 7 (by decide) (hts _ (wM_c wd_625)) (fun _ h9 => h9) rfl hin rfl (by decide +kernel) rfl rfl (Nat.le_of_ble_eq_true rfl) dX1_init_41 (fun H locs hP hD hS => ?_)
  have hP : va_P (dC, dI) classes [(fl, .inr (1, [.int 0, .ref q_1, .ref q_3, .ref q_5, .ref q_7, .null, .null, .ref q_9])), (q_1, .inl (k_2, 20, .inl (fun _ => 0))), (q_3, .inl (k_4, 14, .inl (fun _ => 0))), (q_5, .inl (k_6, 10, .inl (fun _ => 0))), (q_7, .inl (k_8, 11, .inl (fun _ => 0))), (q_9, .inl (k_10, 10, .inl (fun _ => 0)))] H := hP
  have hD : va_D A [(fl, .inr (1, [.int 0, .ref q_1, .ref q_3, .ref q_5, .ref q_7, .null, .null, .ref q_9])), (q_1, .inl (k_2, 20, .inl (fun _ => 0))), (q_3, .inl (k_4, 14, .inl (fun _ => 0))), (q_5, .inl (k_6, 10, .inl (fun _ => 0))), (q_7, .inl (k_8, 11, .inl (fun _ => 0))), (q_9, .inl (k_10, 10, .inl (fun _ => 0)))] := hD
  refine lv_aload_n hx hb dX1_init_44 rfl (lv_at hl 0 rfl) ?_
  refine lv_aload_n hx hb dX1_init_45 rfl (lv_at hl 1 rfl) ?_
  refine va_putF (D := (dC, dI)) (ci := 1) (v := .ref bk) (ty := (.object "MineAir$Book")) (C := RX1) (T := TX1) (N := 8) hx hb hts (fun w h => wM_c (iX1 w h)) tyX1 tyX1_ok nmX1 hown hK hP hD hS 0 rfl rfl 5 (by decide) (hts _ (wM_c wd_623)) (fun _ h9 => h9) rfl hin rfl (by decide +kernel) rfl rfl (Nat.le_of_ble_eq_true rfl) dX1_init_46 (fun H locs hP hD hS => ?_)
  have hP : va_P (dC, dI) classes [(fl, .inr (1, [.int 0, .ref q_1, .ref q_3, .ref q_5, .ref q_7, .ref bk, .null, .ref q_9])), (q_1, .inl (k_2, 20, .inl (fun _ => 0))), (q_3, .inl (k_4, 14, .inl (fun _ => 0))), (q_5, .inl (k_6, 10, .inl (fun _ => 0))), (q_7, .inl (k_8, 11, .inl (fun _ => 0))), (q_9, .inl (k_10, 10, .inl (fun _ => 0)))] H := hP
  have hD : va_D A [(fl, .inr (1, [.int 0, .ref q_1, .ref q_3, .ref q_5, .ref q_7, .ref bk, .null, .ref q_9])), (q_1, .inl (k_2, 20, .inl (fun _ => 0))), (q_3, .inl (k_4, 14, .inl (fun _ => 0))), (q_5, .inl (k_6, 10, .inl (fun _ => 0))), (q_7, .inl (k_8, 11, .inl (fun _ => 0))), (q_9, .inl (k_10, 10, .inl (fun _ => 0)))] := hD
  refine lv_aload_n hx hb dX1_init_49 rfl (lv_at hl 0 rfl) ?_
  refine lv_aload_n hx hb dX1_init_50 rfl (lv_at hl 2 rfl) ?_
  refine va_putF (D := (dC, dI)) (ci := 1) (v := .ref st) (ty := (.object "MineAir$State")) (C := RX1) (T := TX1) (N := 8) hx hb hts (fun w h => wM_c (iX1 w h)) tyX1 tyX1_ok nmX1 hown hK hP hD hS 0 rfl rfl 6 (by decide) (hts _ (wM_c wd_624)) (fun _ h9 => h9) rfl hin rfl (by decide +kernel) rfl rfl (Nat.le_of_ble_eq_true rfl) dX1_init_51 (fun H locs hP hD hS => ?_)
  have hP : va_P (dC, dI) classes [(fl, .inr (1, [.int 0, .ref q_1, .ref q_3, .ref q_5, .ref q_7, .ref bk, .ref st, .ref q_9])), (q_1, .inl (k_2, 20, .inl (fun _ => 0))), (q_3, .inl (k_4, 14, .inl (fun _ => 0))), (q_5, .inl (k_6, 10, .inl (fun _ => 0))), (q_7, .inl (k_8, 11, .inl (fun _ => 0))), (q_9, .inl (k_10, 10, .inl (fun _ => 0)))] H := hP
  have hD : va_D A [(fl, .inr (1, [.int 0, .ref q_1, .ref q_3, .ref q_5, .ref q_7, .ref bk, .ref st, .ref q_9])), (q_1, .inl (k_2, 20, .inl (fun _ => 0))), (q_3, .inl (k_4, 14, .inl (fun _ => 0))), (q_5, .inl (k_6, 10, .inl (fun _ => 0))), (q_7, .inl (k_8, 11, .inl (fun _ => 0))), (q_9, .inl (k_10, 10, .inl (fun _ => 0)))] := hD
  have hP9 := hP.sub (ws' := [(fl, .inr (1, [.int 0, .ref q_1, .ref q_3, .ref q_5, .ref q_7, .ref bk, .ref st, .ref q_9]))]) [0] rfl
  have hD9 := hD.sub (ws' := [(fl, .inr (1, [.int 0, .ref q_1, .ref q_3, .ref q_5, .ref q_7, .ref bk, .ref st, .ref q_9]))]) [0] (by decide) rfl
  have hK9 := hK.sub (tys' := []) [] rfl
  exact W.vret hx hb hr (fun t ht hW => ⟨⟨(), rfl, trivial, q_1, q_3, q_5, q_7, q_9, by rw [ht]; exact hP9, va_K.moved hW.alike hK9, hD9⟩, hS.F ht⟩) hS.2.2 dX1_init_54
set_option maxHeartbeats 4000000 in
set_option maxRecDepth 100000 in
theorem n_Readings (l : Launch) (dC : Nat → ClassId) (dI : Nat → Nat → Nat) (n0 sz : Nat) (rg : Nat) : Met l yX8_init (wM yX8_init cX8_init 1 none) ({ frames := 1, cells := 3, slots := 24, locals := 12 }) (va_Pc [.ref rg] (fun U => U.heap.size = sz ∧ n0 ≤ sz ∧ GW n0 U ∧ va_P (dC, dI) classes [(rg, .inr (8, [.int 0, .null, .null, .null]))] U.heap ∧ va_K (dC, dI) classes [] U ∧ va_D (fun q => n0 ≤ q) [(rg, .inr (8, [.int 0, .null, .null, .null]))])) (va_Qv (fun _ : Unit => True) (fun (_ : Unit) (t : State) => ∃ (rg_way : Nat), ∃ (rg_low : Nat), ∃ (rg_high : Nat), va_P (dC, dI) classes [(rg, .inr (8, [.int 0, .ref rg_way, .ref rg_low, .ref rg_high]))] t.heap ∧ va_K (dC, dI) classes [] t ∧ va_D (va_A [(rg, .inr (8, [.int 0, .null, .null, .null]))] sz) [(rg, .inr (8, [.int 0, .ref rg_way, .ref rg_low, .ref rg_high]))]) (va_A [(rg, .inr (8, [.int 0, .null, .null, .null]))] sz)) 3 24 (va_A [(rg, .inr (8, [.int 0, .null, .null, .null]))] sz) := by
  refine Met.ofW (cc := cX8_init) (maxL := 1) (ret := none) (by decide) rfl ?_
  intro p e s m args below meth c s₁ B hml hv
  obtain ⟨rfl, hsz, hn0, hG, hP, hK, hD0⟩ := hv
  have hx := B.exec
  have hb := B.bytes
  have hr := B.returns
  have hts := atoms_spec (ws := wM yX8_init cX8_init 1 none) B.pre
  have hown : s.vm.findClass RX8 = some m.cls := findClass_of_methodNamed B.named
  have hlocks := B.notSynchronized
  have hin : meth.name = "<init>" := (name_of_methodNamed B.named B.method).1
  subst hsz
  have hD := hD0.self (sz := s.heap.size)
  have hA0 := vA_n0 hD0 hn0
  generalize hAe : va_A [(rg, .inr (8, [.int 0, .null, .null, .null]))] s.heap.size = A at hD hA0 ⊢
  have hA : ∀ q : Nat, s.heap.size ≤ q → A q := fun q h => by rw [← hAe]; exact Or.inr h
  have hS : va_S A s.heap s.heap [] := va_S.rf
  have hl := lv_entry ([.ref rg]) (n := 1) (Nat.le_of_ble_eq_true rfl)
  rw [lg_entry_eq]
  generalize (lg_sl ([.ref rg]) ++ List.replicate (1 - (lg_sl ([.ref rg])).length) Slot.unset).toArray = ls at hl ⊢
  have hl : lv_has ls 1 [(0, .ref rg)] := hl
  refine lv_aload_n hx hb dX8_init_0 rfl (lv_at hl 0 rfl) ?_
  refine W.objInit hx hb hown (hts _ (wM_c wd_648)) (hts _ (wM_c wd_146)) (hts _ (wM_c wd_objInit)) rfl (by rw [hml]; exact hl.1) rfl dX8_init_1 (Nat.le_of_ble_eq_true rfl) (Nat.le_of_ble_eq_true rfl) ?_
  refine W.eq (g2 := F0 m 4 ls []) rfl ?_
  refine lv_aload_n hx hb dX8_init_4 rfl (lv_at hl 0 rfl) ?_
  refine lv_bipush (v := 8) hx hb dX8_init_5 (by decide) ?_
  refine va_newa (atype := .int) (a0 := (8, .inl (fun _ => 0))) (ty := .int) hx hb (hts _ (wM_c wd_237)) rfl hK hP hD hS hA (fun _ => rfl) (by decide) rfl (by decide) (Nat.le_of_ble_eq_true rfl) (Nat.le_of_ble_eq_true rfl) dX8_init_7 (fun q_1 k_2 H hK hP hD hS => ?_)
  have hP : va_P (dC, dI) classes [(rg, .inr (8, [.int 0, .null, .null, .null])), (q_1, .inl (k_2, 8, .inl (fun _ => 0)))] H := hP
  have hD : va_D A [(rg, .inr (8, [.int 0, .null, .null, .null])), (q_1, .inl (k_2, 8, .inl (fun _ => 0)))] := hD
  have hK : va_K (dC, dI) classes [(k_2, .int)] s := hK
  refine W.widen (k := 1) (n := 8) (Nat.le_of_ble_eq_true rfl) (Nat.le_of_ble_eq_true rfl) ?_
  refine va_putF (D := (dC, dI)) (ci := 8) (v := .ref q_1) (ty := (.array .int)) (C := RX8) (T := TX8) (N := 4) hx hb hts (fun w h => wM_c (iX8 w h)) tyX8 tyX8_ok nmX8 hown hK hP hD hS 0 rfl rfl 1 (by decide) (hts _ (wM_c wd_651)) (fun _ h9 => h9) rfl hin rfl (by decide +kernel) rfl rfl (Nat.le_of_ble_eq_true rfl) dX8_init_9 (fun H locs hP hD hS => ?_)
  have hP : va_P (dC, dI) classes [(rg, .inr (8, [.int 0, .ref q_1, .null, .null])), (q_1, .inl (k_2, 8, .inl (fun _ => 0)))] H := hP
  have hD : va_D A [(rg, .inr (8, [.int 0, .ref q_1, .null, .null])), (q_1, .inl (k_2, 8, .inl (fun _ => 0)))] := hD
  refine lv_aload_n hx hb dX8_init_12 rfl (lv_at hl 0 rfl) ?_
  refine lv_bipush (v := 8) hx hb dX8_init_13 (by decide) ?_
  refine va_newa (atype := .int) (a0 := (8, .inl (fun _ => 0))) (ty := .int) hx hb (hts _ (wM_c wd_237)) rfl hK hP hD hS hA (fun _ => rfl) (by decide) rfl (by decide) (Nat.le_of_ble_eq_true rfl) (Nat.le_of_ble_eq_true rfl) dX8_init_15 (fun q_3 k_4 H hK hP hD hS => ?_)
  have hP : va_P (dC, dI) classes [(rg, .inr (8, [.int 0, .ref q_1, .null, .null])), (q_1, .inl (k_2, 8, .inl (fun _ => 0))), (q_3, .inl (k_4, 8, .inl (fun _ => 0)))] H := hP
  have hD : va_D A [(rg, .inr (8, [.int 0, .ref q_1, .null, .null])), (q_1, .inl (k_2, 8, .inl (fun _ => 0))), (q_3, .inl (k_4, 8, .inl (fun _ => 0)))] := hD
  have hK : va_K (dC, dI) classes [(k_2, .int), (k_4, .int)] s := hK
  refine W.widen (k := 2) (n := 16) (Nat.le_of_ble_eq_true rfl) (Nat.le_of_ble_eq_true rfl) ?_
  refine va_putF (D := (dC, dI)) (ci := 8) (v := .ref q_3) (ty := (.array .int)) (C := RX8) (T := TX8) (N := 4) hx hb hts (fun w h => wM_c (iX8 w h)) tyX8 tyX8_ok nmX8 hown hK hP hD hS 0 rfl rfl 2 (by decide) (hts _ (wM_c wd_652)) (fun _ h9 => h9) rfl hin rfl (by decide +kernel) rfl rfl (Nat.le_of_ble_eq_true rfl) dX8_init_17 (fun H locs hP hD hS => ?_)
  have hP : va_P (dC, dI) classes [(rg, .inr (8, [.int 0, .ref q_1, .ref q_3, .null])), (q_1, .inl (k_2, 8, .inl (fun _ => 0))), (q_3, .inl (k_4, 8, .inl (fun _ => 0)))] H := hP
  have hD : va_D A [(rg, .inr (8, [.int 0, .ref q_1, .ref q_3, .null])), (q_1, .inl (k_2, 8, .inl (fun _ => 0))), (q_3, .inl (k_4, 8, .inl (fun _ => 0)))] := hD
  refine lv_aload_n hx hb dX8_init_20 rfl (lv_at hl 0 rfl) ?_
  refine lv_bipush (v := 8) hx hb dX8_init_21 (by decide) ?_
  refine va_newa (atype := .int) (a0 := (8, .inl (fun _ => 0))) (ty := .int) hx hb (hts _ (wM_c wd_237)) rfl hK hP hD hS hA (fun _ => rfl) (by decide) rfl (by decide) (Nat.le_of_ble_eq_true rfl) (Nat.le_of_ble_eq_true rfl) dX8_init_23 (fun q_5 k_6 H hK hP hD hS => ?_)
  have hP : va_P (dC, dI) classes [(rg, .inr (8, [.int 0, .ref q_1, .ref q_3, .null])), (q_1, .inl (k_2, 8, .inl (fun _ => 0))), (q_3, .inl (k_4, 8, .inl (fun _ => 0))), (q_5, .inl (k_6, 8, .inl (fun _ => 0)))] H := hP
  have hD : va_D A [(rg, .inr (8, [.int 0, .ref q_1, .ref q_3, .null])), (q_1, .inl (k_2, 8, .inl (fun _ => 0))), (q_3, .inl (k_4, 8, .inl (fun _ => 0))), (q_5, .inl (k_6, 8, .inl (fun _ => 0)))] := hD
  have hK : va_K (dC, dI) classes [(k_2, .int), (k_4, .int), (k_6, .int)] s := hK
  refine W.widen (k := 3) (n := 24) (Nat.le_of_ble_eq_true rfl) (Nat.le_of_ble_eq_true rfl) ?_
  refine va_putF (D := (dC, dI)) (ci := 8) (v := .ref q_5) (ty := (.array .int)) (C := RX8) (T := TX8) (N := 4) hx hb hts (fun w h => wM_c (iX8 w h)) tyX8 tyX8_ok nmX8 hown hK hP hD hS 0 rfl rfl 3 (by decide) (hts _ (wM_c wd_653)) (fun _ h9 => h9) rfl hin rfl (by decide +kernel) rfl rfl (Nat.le_of_ble_eq_true rfl) dX8_init_25 (fun H locs hP hD hS => ?_)
  have hP : va_P (dC, dI) classes [(rg, .inr (8, [.int 0, .ref q_1, .ref q_3, .ref q_5])), (q_1, .inl (k_2, 8, .inl (fun _ => 0))), (q_3, .inl (k_4, 8, .inl (fun _ => 0))), (q_5, .inl (k_6, 8, .inl (fun _ => 0)))] H := hP
  have hD : va_D A [(rg, .inr (8, [.int 0, .ref q_1, .ref q_3, .ref q_5])), (q_1, .inl (k_2, 8, .inl (fun _ => 0))), (q_3, .inl (k_4, 8, .inl (fun _ => 0))), (q_5, .inl (k_6, 8, .inl (fun _ => 0)))] := hD
  have hP9 := hP.sub (ws' := [(rg, .inr (8, [.int 0, .ref q_1, .ref q_3, .ref q_5]))]) [0] rfl
  have hD9 := hD.sub (ws' := [(rg, .inr (8, [.int 0, .ref q_1, .ref q_3, .ref q_5]))]) [0] (by decide) rfl
  have hK9 := hK.sub (tys' := []) [] rfl
  exact W.vret hx hb hr (fun t ht hW => ⟨⟨(), rfl, trivial, q_1, q_3, q_5, by rw [ht]; exact hP9, va_K.moved hW.alike hK9, hD9⟩, hS.F ht⟩) hS.2.2 dX8_init_28
set_option maxHeartbeats 4000000 in
set_option maxRecDepth 100000 in
theorem c_fill4 (l : Launch) (dC : Nat → ClassId) (dI : Nat → Nat → Nat) (n0 sz : Nat) (a : Nat) (ka : ClassId) (f : Nat → Int32) (v : Int32) : Met l yJ7_fill_53178 (wM yJ7_fill_53178 cJ7_fill_53178 4 none) ({ frames := 0, cells := 0, slots := 0, locals := 0 }) (va_Pc [.ref a, .int v] (fun U => U.heap.size = sz ∧ n0 ≤ sz ∧ GW n0 U ∧ va_P (dC, dI) classes [(a, .inl (ka, 4, .inl f))] U.heap ∧ va_K (dC, dI) classes [(ka, .int)] U ∧ va_D (fun q => n0 ≤ q) [(a, .inl (ka, 4, .inl f))])) (va_Qv (fun _ : Unit => True) (fun (_ : Unit) (t : State) => ∃ (f2 : Nat → Int32), va_P (dC, dI) classes [(a, .inl (ka, 4, .inl f2))] t.heap ∧ va_K (dC, dI) classes [(ka, .int)] t ∧ va_D (va_A [(a, .inl (ka, 4, .inl f))] sz) [(a, .inl (ka, 4, .inl f2))]) (va_A [(a, .inl (ka, 4, .inl f))] sz)) 0 0 (va_A [(a, .inl (ka, 4, .inl f))] sz) := by
  refine Met.ofW (cc := cJ7_fill_53178) (maxL := 4) (ret := none) (by decide) rfl ?_
  intro p e s m args below meth c s₁ B hml hv
  obtain ⟨rfl, hsz, hn0, hG, hP, hK, hD0⟩ := hv
  have hx := B.exec
  have hb := B.bytes
  have hr := B.returns
  have hts := atoms_spec (ws := wM yJ7_fill_53178 cJ7_fill_53178 4 none) B.pre
  have hown : s.vm.findClass RJ7 = some m.cls := findClass_of_methodNamed B.named
  have hlocks := B.notSynchronized
  subst hsz
  have hD := hD0.self (sz := s.heap.size)
  have hA0 := vA_n0 hD0 hn0
  generalize hAe : va_A [(a, .inl (ka, 4, .inl f))] s.heap.size = A at hD hA0 ⊢
  have hA : ∀ q : Nat, s.heap.size ≤ q → A q := fun q h => by rw [← hAe]; exact Or.inr h
  have hS : va_S A s.heap s.heap [] := va_S.rf
  have hl := lv_entry ([.ref a, .int v]) (n := 4) (Nat.le_of_ble_eq_true rfl)
  rw [lg_entry_eq]
  generalize (lg_sl ([.ref a, .int v]) ++ List.replicate (4 - (lg_sl ([.ref a, .int v])).length) Slot.unset).toArray = ls at hl ⊢
  have hl : lv_has ls 4 [(0, .ref a), (1, .int v)] := hl
  refine lv_iconst (v := 0) hx hb dJ7_fill_53178_0 (by decide) ?_
  refine lv_istore_n (lv' := [(2, .int 0), (0, .ref a), (1, .int v)]) hx hb dJ7_fill_53178_1 rfl hl (by decide) rfl (fun ls hl => ?_)
  refine lv_aload_n hx hb dJ7_fill_53178_2 rfl (lv_at hl 1 rfl) ?_
  refine va_alen (v := 4) hx hb hK hP 0 0 rfl rfl rfl dJ7_fill_53178_3 ?_
  refine lv_istore_n (lv' := [(3, .int 4), (2, .int 0), (0, .ref a), (1, .int v)]) hx hb dJ7_fill_53178_4 rfl hl (by decide) rfl (fun ls hl => ?_)
  refine lv_iload_n hx hb dJ7_fill_53178_5 rfl (lv_at hl 1 rfl) ?_
  refine lv_iload_n hx hb dJ7_fill_53178_6 rfl (lv_at hl 0 rfl) ?_
  refine lv_icmp_ge (tgt := 20) hx hb dJ7_fill_53178_7 (by decide) (fun c_1 => ?_) (fun c_1 => ?_)
  · exact absurd c_1 (by decide)
  refine lv_aload_n hx hb dJ7_fill_53178_10 rfl (lv_at hl 2 rfl) ?_
  refine lv_iload_n hx hb dJ7_fill_53178_11 rfl (lv_at hl 1 rfl) ?_
  refine lv_iload_n hx hb dJ7_fill_53178_12 rfl (lv_at hl 3 rfl) ?_
  refine va_iast hx hb hK hP hD hS 0 0 rfl rfl (by unfold vp_in; decide) dJ7_fill_53178_13 (fun H locs hP hD hS => ?_)
  obtain ⟨f_2, hP, hD⟩ : ∃ f9, va_P (dC, dI) classes [(a, .inl (ka, 4, .inl f9))] H ∧ va_D A [(a, .inl (ka, 4, .inl f9))] := ⟨_, hP, hD⟩
  refine lv_iinc (v := 1) (lv' := [(2, .int 1), (3, .int 4), (0, .ref a), (1, .int v)]) hx hb dJ7_fill_53178_14 hl (k := 1) rfl (by decide) (by decide) rfl (fun ls hl => ?_)
  refine lv_goto (tgt := 5) hx hb dJ7_fill_53178_17 (by decide) ?_
  refine lv_iload_n hx hb dJ7_fill_53178_5 rfl (lv_at hl 0 rfl) ?_
  refine lv_iload_n hx hb dJ7_fill_53178_6 rfl (lv_at hl 1 rfl) ?_
  refine lv_icmp_ge (tgt := 20) hx hb dJ7_fill_53178_7 (by decide) (fun c_3 => ?_) (fun c_3 => ?_)
  · exact absurd c_3 (by decide)
  refine lv_aload_n hx hb dJ7_fill_53178_10 rfl (lv_at hl 2 rfl) ?_
  refine lv_iload_n hx hb dJ7_fill_53178_11 rfl (lv_at hl 0 rfl) ?_
  refine lv_iload_n hx hb dJ7_fill_53178_12 rfl (lv_at hl 3 rfl) ?_
  refine va_iast hx hb hK hP hD hS 0 0 rfl rfl (by unfold vp_in; decide) dJ7_fill_53178_13 (fun H locs hP hD hS => ?_)
  obtain ⟨f_4, hP, hD⟩ : ∃ f9, va_P (dC, dI) classes [(a, .inl (ka, 4, .inl f9))] H ∧ va_D A [(a, .inl (ka, 4, .inl f9))] := ⟨_, hP, hD⟩
  refine lv_iinc (v := 2) (lv' := [(2, .int 2), (3, .int 4), (0, .ref a), (1, .int v)]) hx hb dJ7_fill_53178_14 hl (k := 0) rfl (by decide) (by decide) rfl (fun ls hl => ?_)
  refine lv_goto (tgt := 5) hx hb dJ7_fill_53178_17 (by decide) ?_
  refine lv_iload_n hx hb dJ7_fill_53178_5 rfl (lv_at hl 0 rfl) ?_
  refine lv_iload_n hx hb dJ7_fill_53178_6 rfl (lv_at hl 1 rfl) ?_
  refine lv_icmp_ge (tgt := 20) hx hb dJ7_fill_53178_7 (by decide) (fun c_5 => ?_) (fun c_5 => ?_)
  · exact absurd c_5 (by decide)
  refine lv_aload_n hx hb dJ7_fill_53178_10 rfl (lv_at hl 2 rfl) ?_
  refine lv_iload_n hx hb dJ7_fill_53178_11 rfl (lv_at hl 0 rfl) ?_
  refine lv_iload_n hx hb dJ7_fill_53178_12 rfl (lv_at hl 3 rfl) ?_
  refine va_iast hx hb hK hP hD hS 0 0 rfl rfl (by unfold vp_in; decide) dJ7_fill_53178_13 (fun H locs hP hD hS => ?_)
  obtain ⟨f_6, hP, hD⟩ : ∃ f9, va_P (dC, dI) classes [(a, .inl (ka, 4, .inl f9))] H ∧ va_D A [(a, .inl (ka, 4, .inl f9))] := ⟨_, hP, hD⟩
  refine lv_iinc (v := 3) (lv' := [(2, .int 3), (3, .int 4), (0, .ref a), (1, .int v)]) hx hb dJ7_fill_53178_14 hl (k := 0) rfl (by decide) (by decide) rfl (fun ls hl => ?_)
  refine lv_goto (tgt := 5) hx hb dJ7_fill_53178_17 (by decide) ?_
  refine lv_iload_n hx hb dJ7_fill_53178_5 rfl (lv_at hl 0 rfl) ?_
  refine lv_iload_n hx hb dJ7_fill_53178_6 rfl (lv_at hl 1 rfl) ?_
  refine lv_icmp_ge (tgt := 20) hx hb dJ7_fill_53178_7 (by decide) (fun c_7 => ?_) (fun c_7 => ?_)
  · exact absurd c_7 (by decide)
  refine lv_aload_n hx hb dJ7_fill_53178_10 rfl (lv_at hl 2 rfl) ?_
  refine lv_iload_n hx hb dJ7_fill_53178_11 rfl (lv_at hl 0 rfl) ?_
  refine lv_iload_n hx hb dJ7_fill_53178_12 rfl (lv_at hl 3 rfl) ?_
  refine va_iast hx hb hK hP hD hS 0 0 rfl rfl (by unfold vp_in; decide) dJ7_fill_53178_13 (fun H locs hP hD hS => ?_)
  obtain ⟨f_8, hP, hD⟩ : ∃ f9, va_P (dC, dI) classes [(a, .inl (ka, 4, .inl f9))] H ∧ va_D A [(a, .inl (ka, 4, .inl f9))] := ⟨_, hP, hD⟩
  refine lv_iinc (v := 4) (lv' := [(2, .int 4), (3, .int 4), (0, .ref a), (1, .int v)]) hx hb dJ7_fill_53178_14 hl (k := 0) rfl (by decide) (by decide) rfl (fun ls hl => ?_)
  refine lv_goto (tgt := 5) hx hb dJ7_fill_53178_17 (by decide) ?_
  refine lv_iload_n hx hb dJ7_fill_53178_5 rfl (lv_at hl 0 rfl) ?_
  refine lv_iload_n hx hb dJ7_fill_53178_6 rfl (lv_at hl 1 rfl) ?_
  refine lv_icmp_ge (tgt := 20) hx hb dJ7_fill_53178_7 (by decide) (fun c_9 => ?_) (fun c_9 => ?_)
  · skip
    have hP9 := hP.sub (ws' := [(a, .inl (ka, 4, .inl f_8))]) [0] rfl
    have hD9 := hD.sub (ws' := [(a, .inl (ka, 4, .inl f_8))]) [0] (by decide) rfl
    have hK9 := hK.sub (tys' := [(ka, .int)]) [0] rfl
    exact W.vret hx hb hr (fun t ht hW => ⟨⟨(), rfl, trivial, f_8, by rw [ht]; exact hP9, va_K.moved hW.alike hK9, hD9⟩, hS.F ht⟩) hS.2.2 dJ7_fill_53178_20
  · exact absurd c_9 (by decide)
set_option maxHeartbeats 4000000 in
set_option maxRecDepth 100000 in
theorem c_reset (l : Launch) (dC : Nat → ClassId) (dI : Nat → Nat → Nat) (n0 sz : Nat) (st : Nat) (st_open : Nat) (st_speed : Nat) (st_fallen : Nat) (st_fire : Nat) (bk : Nat) (ks1 : ClassId) (ks2 : ClassId) (ks3 : ClassId) (ks4 : ClassId) : Met l yX9_reset (wM yX9_reset cX9_reset 2 none) ({ frames := 1, cells := 0, slots := 0, locals := 23 }) (va_Pc [.ref st] (fun U => U.heap.size = sz ∧ n0 ≤ sz ∧ GW n0 U ∧ va_P (dC, dI) classes [(st, .inr (9, [.ref st_open, .ref st_speed, .ref st_fallen, .ref st_fire, .int 0, .int 0, .int 0, .ref bk])), (st_open, .inl (ks1, 6, .inl (fun _ => 0))), (st_speed, .inl (ks2, 4, .inl (fun _ => 0))), (st_fallen, .inl (ks3, 14, .inl (fun _ => 0))), (st_fire, .inl (ks4, 14, .inl (fun _ => 0)))] U.heap ∧ va_K (dC, dI) classes [(ks1, .boolean), (ks2, .int), (ks3, .boolean), (ks4, .int)] U ∧ va_D (fun q => n0 ≤ q) [(st, .inr (9, [.ref st_open, .ref st_speed, .ref st_fallen, .ref st_fire, .int 0, .int 0, .int 0, .ref bk])), (st_open, .inl (ks1, 6, .inl (fun _ => 0))), (st_speed, .inl (ks2, 4, .inl (fun _ => 0))), (st_fallen, .inl (ks3, 14, .inl (fun _ => 0))), (st_fire, .inl (ks4, 14, .inl (fun _ => 0)))])) (va_Qv (fun _ : Unit => True) (fun (_ : Unit) (t : State) => va_P (dC, dI) classes [(st, .inr (9, [.ref st_open, .ref st_speed, .ref st_fallen, .ref st_fire, .int 10, .int (-1), .int 0, .ref bk]))] t.heap ∧ va_K (dC, dI) classes [] t ∧ va_D (va_A [(st, .inr (9, [.ref st_open, .ref st_speed, .ref st_fallen, .ref st_fire, .int 0, .int 0, .int 0, .ref bk])), (st_open, .inl (ks1, 6, .inl (fun _ => 0))), (st_speed, .inl (ks2, 4, .inl (fun _ => 0))), (st_fallen, .inl (ks3, 14, .inl (fun _ => 0))), (st_fire, .inl (ks4, 14, .inl (fun _ => 0)))] sz) [(st, .inr (9, [.ref st_open, .ref st_speed, .ref st_fallen, .ref st_fire, .int 10, .int (-1), .int 0, .ref bk]))]) (va_A [(st, .inr (9, [.ref st_open, .ref st_speed, .ref st_fallen, .ref st_fire, .int 0, .int 0, .int 0, .ref bk])), (st_open, .inl (ks1, 6, .inl (fun _ => 0))), (st_speed, .inl (ks2, 4, .inl (fun _ => 0))), (st_fallen, .inl (ks3, 14, .inl (fun _ => 0))), (st_fire, .inl (ks4, 14, .inl (fun _ => 0)))] sz)) 0 0 (va_A [(st, .inr (9, [.ref st_open, .ref st_speed, .ref st_fallen, .ref st_fire, .int 0, .int 0, .int 0, .ref bk])), (st_open, .inl (ks1, 6, .inl (fun _ => 0))), (st_speed, .inl (ks2, 4, .inl (fun _ => 0))), (st_fallen, .inl (ks3, 14, .inl (fun _ => 0))), (st_fire, .inl (ks4, 14, .inl (fun _ => 0)))] sz) := by
  refine Met.ofW (cc := cX9_reset) (maxL := 2) (ret := none) (by decide) rfl ?_
  intro p e s m args below meth c s₁ B hml hv
  obtain ⟨rfl, hsz, hn0, hG, hP, hK, hD0⟩ := hv
  have hx := B.exec
  have hb := B.bytes
  have hr := B.returns
  have hts := atoms_spec (ws := wM yX9_reset cX9_reset 2 none) B.pre
  have hown : s.vm.findClass RX9 = some m.cls := findClass_of_methodNamed B.named
  have hlocks := B.notSynchronized
  subst hsz
  have hD := hD0.self (sz := s.heap.size)
  have hA0 := vA_n0 hD0 hn0
  generalize hAe : va_A [(st, .inr (9, [.ref st_open, .ref st_speed, .ref st_fallen, .ref st_fire, .int 0, .int 0, .int 0, .ref bk])), (st_open, .inl (ks1, 6, .inl (fun _ => 0))), (st_speed, .inl (ks2, 4, .inl (fun _ => 0))), (st_fallen, .inl (ks3, 14, .inl (fun _ => 0))), (st_fire, .inl (ks4, 14, .inl (fun _ => 0)))] s.heap.size = A at hD hA0 ⊢
  have hA : ∀ q : Nat, s.heap.size ≤ q → A q := fun q h => by rw [← hAe]; exact Or.inr h
  have hS : va_S A s.heap s.heap [] := va_S.rf
  have hl := lv_entry ([.ref st]) (n := 2) (Nat.le_of_ble_eq_true rfl)
  rw [lg_entry_eq]
  generalize (lg_sl ([.ref st]) ++ List.replicate (2 - (lg_sl ([.ref st])).length) Slot.unset).toArray = ls at hl ⊢
  have hl : lv_has ls 2 [(0, .ref st)] := hl
  refine lv_iconst (v := 0) hx hb dX9_reset_0 (by decide) ?_
  refine lv_istore_n (lv' := [(1, .int 0), (0, .ref st)]) hx hb dX9_reset_1 rfl hl (by decide) rfl (fun ls hl => ?_)
  refine lv_iload_n hx hb dX9_reset_2 rfl (lv_at hl 0 rfl) ?_
  refine lv_bipush (v := 6) hx hb dX9_reset_3 (by decide) ?_
  refine lv_icmp_ge (tgt := 21) hx hb dX9_reset_5 (by decide) (fun c_1 => ?_) (fun c_1 => ?_)
  · exact absurd c_1 (by decide)
  refine lv_aload_n hx hb dX9_reset_8 rfl (lv_at hl 1 rfl) ?_
  refine va_get (D := (dC, dI)) (ci := 9) (v := .ref st_open) (C := RX9) (T := TX9) (N := 8) hx hb hts (fun w h => wM_c (iX9 w h)) hown hK hP 0 rfl rfl 0 (by decide) (hts _ (wM_c wd_389)) (fun _ h9 => h9) rfl dX9_reset_9 ?_
  refine lv_iload_n hx hb dX9_reset_12 rfl (lv_at hl 0 rfl) ?_
  refine lv_iconst (v := 0) hx hb dX9_reset_13 (by decide) ?_
  refine va_zast hx hb hK hP hD hS 1 0 rfl rfl (by unfold vp_in; decide) dX9_reset_14 (fun H locs hP hD hS => ?_)
  obtain ⟨f_2, hP, hD⟩ : ∃ f9, va_P (dC, dI) classes [(st, .inr (9, [.ref st_open, .ref st_speed, .ref st_fallen, .ref st_fire, .int 0, .int 0, .int 0, .ref bk])), (st_open, .inl (ks1, 6, .inl f9)), (st_speed, .inl (ks2, 4, .inl (fun _ => 0))), (st_fallen, .inl (ks3, 14, .inl (fun _ => 0))), (st_fire, .inl (ks4, 14, .inl (fun _ => 0)))] H ∧ va_D A [(st, .inr (9, [.ref st_open, .ref st_speed, .ref st_fallen, .ref st_fire, .int 0, .int 0, .int 0, .ref bk])), (st_open, .inl (ks1, 6, .inl f9)), (st_speed, .inl (ks2, 4, .inl (fun _ => 0))), (st_fallen, .inl (ks3, 14, .inl (fun _ => 0))), (st_fire, .inl (ks4, 14, .inl (fun _ => 0)))] := ⟨_, hP, hD⟩
  refine lv_iinc (v := 1) (lv' := [(1, .int 1), (0, .ref st)]) hx hb dX9_reset_15 hl (k := 0) rfl (by decide) (by decide) rfl (fun ls hl => ?_)
  refine lv_goto (tgt := 2) hx hb dX9_reset_18 (by decide) ?_
  refine lv_iload_n hx hb dX9_reset_2 rfl (lv_at hl 0 rfl) ?_
  refine lv_bipush (v := 6) hx hb dX9_reset_3 (by decide) ?_
  refine lv_icmp_ge (tgt := 21) hx hb dX9_reset_5 (by decide) (fun c_3 => ?_) (fun c_3 => ?_)
  · exact absurd c_3 (by decide)
  refine lv_aload_n hx hb dX9_reset_8 rfl (lv_at hl 1 rfl) ?_
  refine va_get (D := (dC, dI)) (ci := 9) (v := .ref st_open) (C := RX9) (T := TX9) (N := 8) hx hb hts (fun w h => wM_c (iX9 w h)) hown hK hP 0 rfl rfl 0 (by decide) (hts _ (wM_c wd_389)) (fun _ h9 => h9) rfl dX9_reset_9 ?_
  refine lv_iload_n hx hb dX9_reset_12 rfl (lv_at hl 0 rfl) ?_
  refine lv_iconst (v := 0) hx hb dX9_reset_13 (by decide) ?_
  refine va_zast hx hb hK hP hD hS 1 0 rfl rfl (by unfold vp_in; decide) dX9_reset_14 (fun H locs hP hD hS => ?_)
  obtain ⟨f_4, hP, hD⟩ : ∃ f9, va_P (dC, dI) classes [(st, .inr (9, [.ref st_open, .ref st_speed, .ref st_fallen, .ref st_fire, .int 0, .int 0, .int 0, .ref bk])), (st_open, .inl (ks1, 6, .inl f9)), (st_speed, .inl (ks2, 4, .inl (fun _ => 0))), (st_fallen, .inl (ks3, 14, .inl (fun _ => 0))), (st_fire, .inl (ks4, 14, .inl (fun _ => 0)))] H ∧ va_D A [(st, .inr (9, [.ref st_open, .ref st_speed, .ref st_fallen, .ref st_fire, .int 0, .int 0, .int 0, .ref bk])), (st_open, .inl (ks1, 6, .inl f9)), (st_speed, .inl (ks2, 4, .inl (fun _ => 0))), (st_fallen, .inl (ks3, 14, .inl (fun _ => 0))), (st_fire, .inl (ks4, 14, .inl (fun _ => 0)))] := ⟨_, hP, hD⟩
  refine lv_iinc (v := 2) (lv' := [(1, .int 2), (0, .ref st)]) hx hb dX9_reset_15 hl (k := 0) rfl (by decide) (by decide) rfl (fun ls hl => ?_)
  refine lv_goto (tgt := 2) hx hb dX9_reset_18 (by decide) ?_
  refine lv_iload_n hx hb dX9_reset_2 rfl (lv_at hl 0 rfl) ?_
  refine lv_bipush (v := 6) hx hb dX9_reset_3 (by decide) ?_
  refine lv_icmp_ge (tgt := 21) hx hb dX9_reset_5 (by decide) (fun c_5 => ?_) (fun c_5 => ?_)
  · exact absurd c_5 (by decide)
  refine lv_aload_n hx hb dX9_reset_8 rfl (lv_at hl 1 rfl) ?_
  refine va_get (D := (dC, dI)) (ci := 9) (v := .ref st_open) (C := RX9) (T := TX9) (N := 8) hx hb hts (fun w h => wM_c (iX9 w h)) hown hK hP 0 rfl rfl 0 (by decide) (hts _ (wM_c wd_389)) (fun _ h9 => h9) rfl dX9_reset_9 ?_
  refine lv_iload_n hx hb dX9_reset_12 rfl (lv_at hl 0 rfl) ?_
  refine lv_iconst (v := 0) hx hb dX9_reset_13 (by decide) ?_
  refine va_zast hx hb hK hP hD hS 1 0 rfl rfl (by unfold vp_in; decide) dX9_reset_14 (fun H locs hP hD hS => ?_)
  obtain ⟨f_6, hP, hD⟩ : ∃ f9, va_P (dC, dI) classes [(st, .inr (9, [.ref st_open, .ref st_speed, .ref st_fallen, .ref st_fire, .int 0, .int 0, .int 0, .ref bk])), (st_open, .inl (ks1, 6, .inl f9)), (st_speed, .inl (ks2, 4, .inl (fun _ => 0))), (st_fallen, .inl (ks3, 14, .inl (fun _ => 0))), (st_fire, .inl (ks4, 14, .inl (fun _ => 0)))] H ∧ va_D A [(st, .inr (9, [.ref st_open, .ref st_speed, .ref st_fallen, .ref st_fire, .int 0, .int 0, .int 0, .ref bk])), (st_open, .inl (ks1, 6, .inl f9)), (st_speed, .inl (ks2, 4, .inl (fun _ => 0))), (st_fallen, .inl (ks3, 14, .inl (fun _ => 0))), (st_fire, .inl (ks4, 14, .inl (fun _ => 0)))] := ⟨_, hP, hD⟩
  refine lv_iinc (v := 3) (lv' := [(1, .int 3), (0, .ref st)]) hx hb dX9_reset_15 hl (k := 0) rfl (by decide) (by decide) rfl (fun ls hl => ?_)
  refine lv_goto (tgt := 2) hx hb dX9_reset_18 (by decide) ?_
  refine lv_iload_n hx hb dX9_reset_2 rfl (lv_at hl 0 rfl) ?_
  refine lv_bipush (v := 6) hx hb dX9_reset_3 (by decide) ?_
  refine lv_icmp_ge (tgt := 21) hx hb dX9_reset_5 (by decide) (fun c_7 => ?_) (fun c_7 => ?_)
  · exact absurd c_7 (by decide)
  refine lv_aload_n hx hb dX9_reset_8 rfl (lv_at hl 1 rfl) ?_
  refine va_get (D := (dC, dI)) (ci := 9) (v := .ref st_open) (C := RX9) (T := TX9) (N := 8) hx hb hts (fun w h => wM_c (iX9 w h)) hown hK hP 0 rfl rfl 0 (by decide) (hts _ (wM_c wd_389)) (fun _ h9 => h9) rfl dX9_reset_9 ?_
  refine lv_iload_n hx hb dX9_reset_12 rfl (lv_at hl 0 rfl) ?_
  refine lv_iconst (v := 0) hx hb dX9_reset_13 (by decide) ?_
  refine va_zast hx hb hK hP hD hS 1 0 rfl rfl (by unfold vp_in; decide) dX9_reset_14 (fun H locs hP hD hS => ?_)
  obtain ⟨f_8, hP, hD⟩ : ∃ f9, va_P (dC, dI) classes [(st, .inr (9, [.ref st_open, .ref st_speed, .ref st_fallen, .ref st_fire, .int 0, .int 0, .int 0, .ref bk])), (st_open, .inl (ks1, 6, .inl f9)), (st_speed, .inl (ks2, 4, .inl (fun _ => 0))), (st_fallen, .inl (ks3, 14, .inl (fun _ => 0))), (st_fire, .inl (ks4, 14, .inl (fun _ => 0)))] H ∧ va_D A [(st, .inr (9, [.ref st_open, .ref st_speed, .ref st_fallen, .ref st_fire, .int 0, .int 0, .int 0, .ref bk])), (st_open, .inl (ks1, 6, .inl f9)), (st_speed, .inl (ks2, 4, .inl (fun _ => 0))), (st_fallen, .inl (ks3, 14, .inl (fun _ => 0))), (st_fire, .inl (ks4, 14, .inl (fun _ => 0)))] := ⟨_, hP, hD⟩
  refine lv_iinc (v := 4) (lv' := [(1, .int 4), (0, .ref st)]) hx hb dX9_reset_15 hl (k := 0) rfl (by decide) (by decide) rfl (fun ls hl => ?_)
  refine lv_goto (tgt := 2) hx hb dX9_reset_18 (by decide) ?_
  refine lv_iload_n hx hb dX9_reset_2 rfl (lv_at hl 0 rfl) ?_
  refine lv_bipush (v := 6) hx hb dX9_reset_3 (by decide) ?_
  refine lv_icmp_ge (tgt := 21) hx hb dX9_reset_5 (by decide) (fun c_9 => ?_) (fun c_9 => ?_)
  · exact absurd c_9 (by decide)
  refine lv_aload_n hx hb dX9_reset_8 rfl (lv_at hl 1 rfl) ?_
  refine va_get (D := (dC, dI)) (ci := 9) (v := .ref st_open) (C := RX9) (T := TX9) (N := 8) hx hb hts (fun w h => wM_c (iX9 w h)) hown hK hP 0 rfl rfl 0 (by decide) (hts _ (wM_c wd_389)) (fun _ h9 => h9) rfl dX9_reset_9 ?_
  refine lv_iload_n hx hb dX9_reset_12 rfl (lv_at hl 0 rfl) ?_
  refine lv_iconst (v := 0) hx hb dX9_reset_13 (by decide) ?_
  refine va_zast hx hb hK hP hD hS 1 0 rfl rfl (by unfold vp_in; decide) dX9_reset_14 (fun H locs hP hD hS => ?_)
  obtain ⟨f_10, hP, hD⟩ : ∃ f9, va_P (dC, dI) classes [(st, .inr (9, [.ref st_open, .ref st_speed, .ref st_fallen, .ref st_fire, .int 0, .int 0, .int 0, .ref bk])), (st_open, .inl (ks1, 6, .inl f9)), (st_speed, .inl (ks2, 4, .inl (fun _ => 0))), (st_fallen, .inl (ks3, 14, .inl (fun _ => 0))), (st_fire, .inl (ks4, 14, .inl (fun _ => 0)))] H ∧ va_D A [(st, .inr (9, [.ref st_open, .ref st_speed, .ref st_fallen, .ref st_fire, .int 0, .int 0, .int 0, .ref bk])), (st_open, .inl (ks1, 6, .inl f9)), (st_speed, .inl (ks2, 4, .inl (fun _ => 0))), (st_fallen, .inl (ks3, 14, .inl (fun _ => 0))), (st_fire, .inl (ks4, 14, .inl (fun _ => 0)))] := ⟨_, hP, hD⟩
  refine lv_iinc (v := 5) (lv' := [(1, .int 5), (0, .ref st)]) hx hb dX9_reset_15 hl (k := 0) rfl (by decide) (by decide) rfl (fun ls hl => ?_)
  refine lv_goto (tgt := 2) hx hb dX9_reset_18 (by decide) ?_
  refine lv_iload_n hx hb dX9_reset_2 rfl (lv_at hl 0 rfl) ?_
  refine lv_bipush (v := 6) hx hb dX9_reset_3 (by decide) ?_
  refine lv_icmp_ge (tgt := 21) hx hb dX9_reset_5 (by decide) (fun c_11 => ?_) (fun c_11 => ?_)
  · exact absurd c_11 (by decide)
  refine lv_aload_n hx hb dX9_reset_8 rfl (lv_at hl 1 rfl) ?_
  refine va_get (D := (dC, dI)) (ci := 9) (v := .ref st_open) (C := RX9) (T := TX9) (N := 8) hx hb hts (fun w h => wM_c (iX9 w h)) hown hK hP 0 rfl rfl 0 (by decide) (hts _ (wM_c wd_389)) (fun _ h9 => h9) rfl dX9_reset_9 ?_
  refine lv_iload_n hx hb dX9_reset_12 rfl (lv_at hl 0 rfl) ?_
  refine lv_iconst (v := 0) hx hb dX9_reset_13 (by decide) ?_
  refine va_zast hx hb hK hP hD hS 1 0 rfl rfl (by unfold vp_in; decide) dX9_reset_14 (fun H locs hP hD hS => ?_)
  obtain ⟨f_12, hP, hD⟩ : ∃ f9, va_P (dC, dI) classes [(st, .inr (9, [.ref st_open, .ref st_speed, .ref st_fallen, .ref st_fire, .int 0, .int 0, .int 0, .ref bk])), (st_open, .inl (ks1, 6, .inl f9)), (st_speed, .inl (ks2, 4, .inl (fun _ => 0))), (st_fallen, .inl (ks3, 14, .inl (fun _ => 0))), (st_fire, .inl (ks4, 14, .inl (fun _ => 0)))] H ∧ va_D A [(st, .inr (9, [.ref st_open, .ref st_speed, .ref st_fallen, .ref st_fire, .int 0, .int 0, .int 0, .ref bk])), (st_open, .inl (ks1, 6, .inl f9)), (st_speed, .inl (ks2, 4, .inl (fun _ => 0))), (st_fallen, .inl (ks3, 14, .inl (fun _ => 0))), (st_fire, .inl (ks4, 14, .inl (fun _ => 0)))] := ⟨_, hP, hD⟩
  refine lv_iinc (v := 6) (lv' := [(1, .int 6), (0, .ref st)]) hx hb dX9_reset_15 hl (k := 0) rfl (by decide) (by decide) rfl (fun ls hl => ?_)
  refine lv_goto (tgt := 2) hx hb dX9_reset_18 (by decide) ?_
  refine lv_iload_n hx hb dX9_reset_2 rfl (lv_at hl 0 rfl) ?_
  refine lv_bipush (v := 6) hx hb dX9_reset_3 (by decide) ?_
  refine lv_icmp_ge (tgt := 21) hx hb dX9_reset_5 (by decide) (fun c_13 => ?_) (fun c_13 => ?_)
  · skip
    refine lv_iconst (v := 0) hx hb dX9_reset_21 (by decide) ?_
    refine lv_istore_n (lv' := [(1, .int 0), (0, .ref st)]) hx hb dX9_reset_22 rfl hl (by decide) rfl (fun ls hl => ?_)
    refine lv_iload_n hx hb dX9_reset_23 rfl (lv_at hl 0 rfl) ?_
    refine lv_bipush (v := 14) hx hb dX9_reset_24 (by decide) ?_
    refine lv_icmp_ge (tgt := 42) hx hb dX9_reset_26 (by decide) (fun c_14 => ?_) (fun c_14 => ?_)
    · exact absurd c_14 (by decide)
    refine lv_aload_n hx hb dX9_reset_29 rfl (lv_at hl 1 rfl) ?_
    refine va_get (D := (dC, dI)) (ci := 9) (v := .ref st_fallen) (C := RX9) (T := TX9) (N := 8) hx hb hts (fun w h => wM_c (iX9 w h)) hown hK hP 0 rfl rfl 2 (by decide) (hts _ (wM_c wd_396)) (fun _ h9 => h9) rfl dX9_reset_30 ?_
    refine lv_iload_n hx hb dX9_reset_33 rfl (lv_at hl 0 rfl) ?_
    refine lv_iconst (v := 0) hx hb dX9_reset_34 (by decide) ?_
    refine va_zast hx hb hK hP hD hS 3 2 rfl rfl (by unfold vp_in; decide) dX9_reset_35 (fun H locs hP hD hS => ?_)
    obtain ⟨f_15, hP, hD⟩ : ∃ f9, va_P (dC, dI) classes [(st, .inr (9, [.ref st_open, .ref st_speed, .ref st_fallen, .ref st_fire, .int 0, .int 0, .int 0, .ref bk])), (st_open, .inl (ks1, 6, .inl f_12)), (st_speed, .inl (ks2, 4, .inl (fun _ => 0))), (st_fallen, .inl (ks3, 14, .inl f9)), (st_fire, .inl (ks4, 14, .inl (fun _ => 0)))] H ∧ va_D A [(st, .inr (9, [.ref st_open, .ref st_speed, .ref st_fallen, .ref st_fire, .int 0, .int 0, .int 0, .ref bk])), (st_open, .inl (ks1, 6, .inl f_12)), (st_speed, .inl (ks2, 4, .inl (fun _ => 0))), (st_fallen, .inl (ks3, 14, .inl f9)), (st_fire, .inl (ks4, 14, .inl (fun _ => 0)))] := ⟨_, hP, hD⟩
    refine lv_iinc (v := 1) (lv' := [(1, .int 1), (0, .ref st)]) hx hb dX9_reset_36 hl (k := 0) rfl (by decide) (by decide) rfl (fun ls hl => ?_)
    refine lv_goto (tgt := 23) hx hb dX9_reset_39 (by decide) ?_
    refine lv_iload_n hx hb dX9_reset_23 rfl (lv_at hl 0 rfl) ?_
    refine lv_bipush (v := 14) hx hb dX9_reset_24 (by decide) ?_
    refine lv_icmp_ge (tgt := 42) hx hb dX9_reset_26 (by decide) (fun c_16 => ?_) (fun c_16 => ?_)
    · exact absurd c_16 (by decide)
    refine lv_aload_n hx hb dX9_reset_29 rfl (lv_at hl 1 rfl) ?_
    refine va_get (D := (dC, dI)) (ci := 9) (v := .ref st_fallen) (C := RX9) (T := TX9) (N := 8) hx hb hts (fun w h => wM_c (iX9 w h)) hown hK hP 0 rfl rfl 2 (by decide) (hts _ (wM_c wd_396)) (fun _ h9 => h9) rfl dX9_reset_30 ?_
    refine lv_iload_n hx hb dX9_reset_33 rfl (lv_at hl 0 rfl) ?_
    refine lv_iconst (v := 0) hx hb dX9_reset_34 (by decide) ?_
    refine va_zast hx hb hK hP hD hS 3 2 rfl rfl (by unfold vp_in; decide) dX9_reset_35 (fun H locs hP hD hS => ?_)
    obtain ⟨f_17, hP, hD⟩ : ∃ f9, va_P (dC, dI) classes [(st, .inr (9, [.ref st_open, .ref st_speed, .ref st_fallen, .ref st_fire, .int 0, .int 0, .int 0, .ref bk])), (st_open, .inl (ks1, 6, .inl f_12)), (st_speed, .inl (ks2, 4, .inl (fun _ => 0))), (st_fallen, .inl (ks3, 14, .inl f9)), (st_fire, .inl (ks4, 14, .inl (fun _ => 0)))] H ∧ va_D A [(st, .inr (9, [.ref st_open, .ref st_speed, .ref st_fallen, .ref st_fire, .int 0, .int 0, .int 0, .ref bk])), (st_open, .inl (ks1, 6, .inl f_12)), (st_speed, .inl (ks2, 4, .inl (fun _ => 0))), (st_fallen, .inl (ks3, 14, .inl f9)), (st_fire, .inl (ks4, 14, .inl (fun _ => 0)))] := ⟨_, hP, hD⟩
    refine lv_iinc (v := 2) (lv' := [(1, .int 2), (0, .ref st)]) hx hb dX9_reset_36 hl (k := 0) rfl (by decide) (by decide) rfl (fun ls hl => ?_)
    refine lv_goto (tgt := 23) hx hb dX9_reset_39 (by decide) ?_
    refine lv_iload_n hx hb dX9_reset_23 rfl (lv_at hl 0 rfl) ?_
    refine lv_bipush (v := 14) hx hb dX9_reset_24 (by decide) ?_
    refine lv_icmp_ge (tgt := 42) hx hb dX9_reset_26 (by decide) (fun c_18 => ?_) (fun c_18 => ?_)
    · exact absurd c_18 (by decide)
    refine lv_aload_n hx hb dX9_reset_29 rfl (lv_at hl 1 rfl) ?_
    refine va_get (D := (dC, dI)) (ci := 9) (v := .ref st_fallen) (C := RX9) (T := TX9) (N := 8) hx hb hts (fun w h => wM_c (iX9 w h)) hown hK hP 0 rfl rfl 2 (by decide) (hts _ (wM_c wd_396)) (fun _ h9 => h9) rfl dX9_reset_30 ?_
    refine lv_iload_n hx hb dX9_reset_33 rfl (lv_at hl 0 rfl) ?_
    refine lv_iconst (v := 0) hx hb dX9_reset_34 (by decide) ?_
    refine va_zast hx hb hK hP hD hS 3 2 rfl rfl (by unfold vp_in; decide) dX9_reset_35 (fun H locs hP hD hS => ?_)
    obtain ⟨f_19, hP, hD⟩ : ∃ f9, va_P (dC, dI) classes [(st, .inr (9, [.ref st_open, .ref st_speed, .ref st_fallen, .ref st_fire, .int 0, .int 0, .int 0, .ref bk])), (st_open, .inl (ks1, 6, .inl f_12)), (st_speed, .inl (ks2, 4, .inl (fun _ => 0))), (st_fallen, .inl (ks3, 14, .inl f9)), (st_fire, .inl (ks4, 14, .inl (fun _ => 0)))] H ∧ va_D A [(st, .inr (9, [.ref st_open, .ref st_speed, .ref st_fallen, .ref st_fire, .int 0, .int 0, .int 0, .ref bk])), (st_open, .inl (ks1, 6, .inl f_12)), (st_speed, .inl (ks2, 4, .inl (fun _ => 0))), (st_fallen, .inl (ks3, 14, .inl f9)), (st_fire, .inl (ks4, 14, .inl (fun _ => 0)))] := ⟨_, hP, hD⟩
    refine lv_iinc (v := 3) (lv' := [(1, .int 3), (0, .ref st)]) hx hb dX9_reset_36 hl (k := 0) rfl (by decide) (by decide) rfl (fun ls hl => ?_)
    refine lv_goto (tgt := 23) hx hb dX9_reset_39 (by decide) ?_
    refine lv_iload_n hx hb dX9_reset_23 rfl (lv_at hl 0 rfl) ?_
    refine lv_bipush (v := 14) hx hb dX9_reset_24 (by decide) ?_
    refine lv_icmp_ge (tgt := 42) hx hb dX9_reset_26 (by decide) (fun c_20 => ?_) (fun c_20 => ?_)
    · exact absurd c_20 (by decide)
    refine lv_aload_n hx hb dX9_reset_29 rfl (lv_at hl 1 rfl) ?_
    refine va_get (D := (dC, dI)) (ci := 9) (v := .ref st_fallen) (C := RX9) (T := TX9) (N := 8) hx hb hts (fun w h => wM_c (iX9 w h)) hown hK hP 0 rfl rfl 2 (by decide) (hts _ (wM_c wd_396)) (fun _ h9 => h9) rfl dX9_reset_30 ?_
    refine lv_iload_n hx hb dX9_reset_33 rfl (lv_at hl 0 rfl) ?_
    refine lv_iconst (v := 0) hx hb dX9_reset_34 (by decide) ?_
    refine va_zast hx hb hK hP hD hS 3 2 rfl rfl (by unfold vp_in; decide) dX9_reset_35 (fun H locs hP hD hS => ?_)
    obtain ⟨f_21, hP, hD⟩ : ∃ f9, va_P (dC, dI) classes [(st, .inr (9, [.ref st_open, .ref st_speed, .ref st_fallen, .ref st_fire, .int 0, .int 0, .int 0, .ref bk])), (st_open, .inl (ks1, 6, .inl f_12)), (st_speed, .inl (ks2, 4, .inl (fun _ => 0))), (st_fallen, .inl (ks3, 14, .inl f9)), (st_fire, .inl (ks4, 14, .inl (fun _ => 0)))] H ∧ va_D A [(st, .inr (9, [.ref st_open, .ref st_speed, .ref st_fallen, .ref st_fire, .int 0, .int 0, .int 0, .ref bk])), (st_open, .inl (ks1, 6, .inl f_12)), (st_speed, .inl (ks2, 4, .inl (fun _ => 0))), (st_fallen, .inl (ks3, 14, .inl f9)), (st_fire, .inl (ks4, 14, .inl (fun _ => 0)))] := ⟨_, hP, hD⟩
    refine lv_iinc (v := 4) (lv' := [(1, .int 4), (0, .ref st)]) hx hb dX9_reset_36 hl (k := 0) rfl (by decide) (by decide) rfl (fun ls hl => ?_)
    refine lv_goto (tgt := 23) hx hb dX9_reset_39 (by decide) ?_
    refine lv_iload_n hx hb dX9_reset_23 rfl (lv_at hl 0 rfl) ?_
    refine lv_bipush (v := 14) hx hb dX9_reset_24 (by decide) ?_
    refine lv_icmp_ge (tgt := 42) hx hb dX9_reset_26 (by decide) (fun c_22 => ?_) (fun c_22 => ?_)
    · exact absurd c_22 (by decide)
    refine lv_aload_n hx hb dX9_reset_29 rfl (lv_at hl 1 rfl) ?_
    refine va_get (D := (dC, dI)) (ci := 9) (v := .ref st_fallen) (C := RX9) (T := TX9) (N := 8) hx hb hts (fun w h => wM_c (iX9 w h)) hown hK hP 0 rfl rfl 2 (by decide) (hts _ (wM_c wd_396)) (fun _ h9 => h9) rfl dX9_reset_30 ?_
    refine lv_iload_n hx hb dX9_reset_33 rfl (lv_at hl 0 rfl) ?_
    refine lv_iconst (v := 0) hx hb dX9_reset_34 (by decide) ?_
    refine va_zast hx hb hK hP hD hS 3 2 rfl rfl (by unfold vp_in; decide) dX9_reset_35 (fun H locs hP hD hS => ?_)
    obtain ⟨f_23, hP, hD⟩ : ∃ f9, va_P (dC, dI) classes [(st, .inr (9, [.ref st_open, .ref st_speed, .ref st_fallen, .ref st_fire, .int 0, .int 0, .int 0, .ref bk])), (st_open, .inl (ks1, 6, .inl f_12)), (st_speed, .inl (ks2, 4, .inl (fun _ => 0))), (st_fallen, .inl (ks3, 14, .inl f9)), (st_fire, .inl (ks4, 14, .inl (fun _ => 0)))] H ∧ va_D A [(st, .inr (9, [.ref st_open, .ref st_speed, .ref st_fallen, .ref st_fire, .int 0, .int 0, .int 0, .ref bk])), (st_open, .inl (ks1, 6, .inl f_12)), (st_speed, .inl (ks2, 4, .inl (fun _ => 0))), (st_fallen, .inl (ks3, 14, .inl f9)), (st_fire, .inl (ks4, 14, .inl (fun _ => 0)))] := ⟨_, hP, hD⟩
    refine lv_iinc (v := 5) (lv' := [(1, .int 5), (0, .ref st)]) hx hb dX9_reset_36 hl (k := 0) rfl (by decide) (by decide) rfl (fun ls hl => ?_)
    refine lv_goto (tgt := 23) hx hb dX9_reset_39 (by decide) ?_
    refine lv_iload_n hx hb dX9_reset_23 rfl (lv_at hl 0 rfl) ?_
    refine lv_bipush (v := 14) hx hb dX9_reset_24 (by decide) ?_
    refine lv_icmp_ge (tgt := 42) hx hb dX9_reset_26 (by decide) (fun c_24 => ?_) (fun c_24 => ?_)
    · exact absurd c_24 (by decide)
    refine lv_aload_n hx hb dX9_reset_29 rfl (lv_at hl 1 rfl) ?_
    refine va_get (D := (dC, dI)) (ci := 9) (v := .ref st_fallen) (C := RX9) (T := TX9) (N := 8) hx hb hts (fun w h => wM_c (iX9 w h)) hown hK hP 0 rfl rfl 2 (by decide) (hts _ (wM_c wd_396)) (fun _ h9 => h9) rfl dX9_reset_30 ?_
    refine lv_iload_n hx hb dX9_reset_33 rfl (lv_at hl 0 rfl) ?_
    refine lv_iconst (v := 0) hx hb dX9_reset_34 (by decide) ?_
    refine va_zast hx hb hK hP hD hS 3 2 rfl rfl (by unfold vp_in; decide) dX9_reset_35 (fun H locs hP hD hS => ?_)
    obtain ⟨f_25, hP, hD⟩ : ∃ f9, va_P (dC, dI) classes [(st, .inr (9, [.ref st_open, .ref st_speed, .ref st_fallen, .ref st_fire, .int 0, .int 0, .int 0, .ref bk])), (st_open, .inl (ks1, 6, .inl f_12)), (st_speed, .inl (ks2, 4, .inl (fun _ => 0))), (st_fallen, .inl (ks3, 14, .inl f9)), (st_fire, .inl (ks4, 14, .inl (fun _ => 0)))] H ∧ va_D A [(st, .inr (9, [.ref st_open, .ref st_speed, .ref st_fallen, .ref st_fire, .int 0, .int 0, .int 0, .ref bk])), (st_open, .inl (ks1, 6, .inl f_12)), (st_speed, .inl (ks2, 4, .inl (fun _ => 0))), (st_fallen, .inl (ks3, 14, .inl f9)), (st_fire, .inl (ks4, 14, .inl (fun _ => 0)))] := ⟨_, hP, hD⟩
    refine lv_iinc (v := 6) (lv' := [(1, .int 6), (0, .ref st)]) hx hb dX9_reset_36 hl (k := 0) rfl (by decide) (by decide) rfl (fun ls hl => ?_)
    refine lv_goto (tgt := 23) hx hb dX9_reset_39 (by decide) ?_
    refine lv_iload_n hx hb dX9_reset_23 rfl (lv_at hl 0 rfl) ?_
    refine lv_bipush (v := 14) hx hb dX9_reset_24 (by decide) ?_
    refine lv_icmp_ge (tgt := 42) hx hb dX9_reset_26 (by decide) (fun c_26 => ?_) (fun c_26 => ?_)
    · exact absurd c_26 (by decide)
    refine lv_aload_n hx hb dX9_reset_29 rfl (lv_at hl 1 rfl) ?_
    refine va_get (D := (dC, dI)) (ci := 9) (v := .ref st_fallen) (C := RX9) (T := TX9) (N := 8) hx hb hts (fun w h => wM_c (iX9 w h)) hown hK hP 0 rfl rfl 2 (by decide) (hts _ (wM_c wd_396)) (fun _ h9 => h9) rfl dX9_reset_30 ?_
    refine lv_iload_n hx hb dX9_reset_33 rfl (lv_at hl 0 rfl) ?_
    refine lv_iconst (v := 0) hx hb dX9_reset_34 (by decide) ?_
    refine va_zast hx hb hK hP hD hS 3 2 rfl rfl (by unfold vp_in; decide) dX9_reset_35 (fun H locs hP hD hS => ?_)
    obtain ⟨f_27, hP, hD⟩ : ∃ f9, va_P (dC, dI) classes [(st, .inr (9, [.ref st_open, .ref st_speed, .ref st_fallen, .ref st_fire, .int 0, .int 0, .int 0, .ref bk])), (st_open, .inl (ks1, 6, .inl f_12)), (st_speed, .inl (ks2, 4, .inl (fun _ => 0))), (st_fallen, .inl (ks3, 14, .inl f9)), (st_fire, .inl (ks4, 14, .inl (fun _ => 0)))] H ∧ va_D A [(st, .inr (9, [.ref st_open, .ref st_speed, .ref st_fallen, .ref st_fire, .int 0, .int 0, .int 0, .ref bk])), (st_open, .inl (ks1, 6, .inl f_12)), (st_speed, .inl (ks2, 4, .inl (fun _ => 0))), (st_fallen, .inl (ks3, 14, .inl f9)), (st_fire, .inl (ks4, 14, .inl (fun _ => 0)))] := ⟨_, hP, hD⟩
    refine lv_iinc (v := 7) (lv' := [(1, .int 7), (0, .ref st)]) hx hb dX9_reset_36 hl (k := 0) rfl (by decide) (by decide) rfl (fun ls hl => ?_)
    refine lv_goto (tgt := 23) hx hb dX9_reset_39 (by decide) ?_
    refine lv_iload_n hx hb dX9_reset_23 rfl (lv_at hl 0 rfl) ?_
    refine lv_bipush (v := 14) hx hb dX9_reset_24 (by decide) ?_
    refine lv_icmp_ge (tgt := 42) hx hb dX9_reset_26 (by decide) (fun c_28 => ?_) (fun c_28 => ?_)
    · exact absurd c_28 (by decide)
    refine lv_aload_n hx hb dX9_reset_29 rfl (lv_at hl 1 rfl) ?_
    refine va_get (D := (dC, dI)) (ci := 9) (v := .ref st_fallen) (C := RX9) (T := TX9) (N := 8) hx hb hts (fun w h => wM_c (iX9 w h)) hown hK hP 0 rfl rfl 2 (by decide) (hts _ (wM_c wd_396)) (fun _ h9 => h9) rfl dX9_reset_30 ?_
    refine lv_iload_n hx hb dX9_reset_33 rfl (lv_at hl 0 rfl) ?_
    refine lv_iconst (v := 0) hx hb dX9_reset_34 (by decide) ?_
    refine va_zast hx hb hK hP hD hS 3 2 rfl rfl (by unfold vp_in; decide) dX9_reset_35 (fun H locs hP hD hS => ?_)
    obtain ⟨f_29, hP, hD⟩ : ∃ f9, va_P (dC, dI) classes [(st, .inr (9, [.ref st_open, .ref st_speed, .ref st_fallen, .ref st_fire, .int 0, .int 0, .int 0, .ref bk])), (st_open, .inl (ks1, 6, .inl f_12)), (st_speed, .inl (ks2, 4, .inl (fun _ => 0))), (st_fallen, .inl (ks3, 14, .inl f9)), (st_fire, .inl (ks4, 14, .inl (fun _ => 0)))] H ∧ va_D A [(st, .inr (9, [.ref st_open, .ref st_speed, .ref st_fallen, .ref st_fire, .int 0, .int 0, .int 0, .ref bk])), (st_open, .inl (ks1, 6, .inl f_12)), (st_speed, .inl (ks2, 4, .inl (fun _ => 0))), (st_fallen, .inl (ks3, 14, .inl f9)), (st_fire, .inl (ks4, 14, .inl (fun _ => 0)))] := ⟨_, hP, hD⟩
    refine lv_iinc (v := 8) (lv' := [(1, .int 8), (0, .ref st)]) hx hb dX9_reset_36 hl (k := 0) rfl (by decide) (by decide) rfl (fun ls hl => ?_)
    refine lv_goto (tgt := 23) hx hb dX9_reset_39 (by decide) ?_
    refine lv_iload_n hx hb dX9_reset_23 rfl (lv_at hl 0 rfl) ?_
    refine lv_bipush (v := 14) hx hb dX9_reset_24 (by decide) ?_
    refine lv_icmp_ge (tgt := 42) hx hb dX9_reset_26 (by decide) (fun c_30 => ?_) (fun c_30 => ?_)
    · exact absurd c_30 (by decide)
    refine lv_aload_n hx hb dX9_reset_29 rfl (lv_at hl 1 rfl) ?_
    refine va_get (D := (dC, dI)) (ci := 9) (v := .ref st_fallen) (C := RX9) (T := TX9) (N := 8) hx hb hts (fun w h => wM_c (iX9 w h)) hown hK hP 0 rfl rfl 2 (by decide) (hts _ (wM_c wd_396)) (fun _ h9 => h9) rfl dX9_reset_30 ?_
    refine lv_iload_n hx hb dX9_reset_33 rfl (lv_at hl 0 rfl) ?_
    refine lv_iconst (v := 0) hx hb dX9_reset_34 (by decide) ?_
    refine va_zast hx hb hK hP hD hS 3 2 rfl rfl (by unfold vp_in; decide) dX9_reset_35 (fun H locs hP hD hS => ?_)
    obtain ⟨f_31, hP, hD⟩ : ∃ f9, va_P (dC, dI) classes [(st, .inr (9, [.ref st_open, .ref st_speed, .ref st_fallen, .ref st_fire, .int 0, .int 0, .int 0, .ref bk])), (st_open, .inl (ks1, 6, .inl f_12)), (st_speed, .inl (ks2, 4, .inl (fun _ => 0))), (st_fallen, .inl (ks3, 14, .inl f9)), (st_fire, .inl (ks4, 14, .inl (fun _ => 0)))] H ∧ va_D A [(st, .inr (9, [.ref st_open, .ref st_speed, .ref st_fallen, .ref st_fire, .int 0, .int 0, .int 0, .ref bk])), (st_open, .inl (ks1, 6, .inl f_12)), (st_speed, .inl (ks2, 4, .inl (fun _ => 0))), (st_fallen, .inl (ks3, 14, .inl f9)), (st_fire, .inl (ks4, 14, .inl (fun _ => 0)))] := ⟨_, hP, hD⟩
    refine lv_iinc (v := 9) (lv' := [(1, .int 9), (0, .ref st)]) hx hb dX9_reset_36 hl (k := 0) rfl (by decide) (by decide) rfl (fun ls hl => ?_)
    refine lv_goto (tgt := 23) hx hb dX9_reset_39 (by decide) ?_
    refine lv_iload_n hx hb dX9_reset_23 rfl (lv_at hl 0 rfl) ?_
    refine lv_bipush (v := 14) hx hb dX9_reset_24 (by decide) ?_
    refine lv_icmp_ge (tgt := 42) hx hb dX9_reset_26 (by decide) (fun c_32 => ?_) (fun c_32 => ?_)
    · exact absurd c_32 (by decide)
    refine lv_aload_n hx hb dX9_reset_29 rfl (lv_at hl 1 rfl) ?_
    refine va_get (D := (dC, dI)) (ci := 9) (v := .ref st_fallen) (C := RX9) (T := TX9) (N := 8) hx hb hts (fun w h => wM_c (iX9 w h)) hown hK hP 0 rfl rfl 2 (by decide) (hts _ (wM_c wd_396)) (fun _ h9 => h9) rfl dX9_reset_30 ?_
    refine lv_iload_n hx hb dX9_reset_33 rfl (lv_at hl 0 rfl) ?_
    refine lv_iconst (v := 0) hx hb dX9_reset_34 (by decide) ?_
    refine va_zast hx hb hK hP hD hS 3 2 rfl rfl (by unfold vp_in; decide) dX9_reset_35 (fun H locs hP hD hS => ?_)
    obtain ⟨f_33, hP, hD⟩ : ∃ f9, va_P (dC, dI) classes [(st, .inr (9, [.ref st_open, .ref st_speed, .ref st_fallen, .ref st_fire, .int 0, .int 0, .int 0, .ref bk])), (st_open, .inl (ks1, 6, .inl f_12)), (st_speed, .inl (ks2, 4, .inl (fun _ => 0))), (st_fallen, .inl (ks3, 14, .inl f9)), (st_fire, .inl (ks4, 14, .inl (fun _ => 0)))] H ∧ va_D A [(st, .inr (9, [.ref st_open, .ref st_speed, .ref st_fallen, .ref st_fire, .int 0, .int 0, .int 0, .ref bk])), (st_open, .inl (ks1, 6, .inl f_12)), (st_speed, .inl (ks2, 4, .inl (fun _ => 0))), (st_fallen, .inl (ks3, 14, .inl f9)), (st_fire, .inl (ks4, 14, .inl (fun _ => 0)))] := ⟨_, hP, hD⟩
    refine lv_iinc (v := 10) (lv' := [(1, .int 10), (0, .ref st)]) hx hb dX9_reset_36 hl (k := 0) rfl (by decide) (by decide) rfl (fun ls hl => ?_)
    refine lv_goto (tgt := 23) hx hb dX9_reset_39 (by decide) ?_
    refine lv_iload_n hx hb dX9_reset_23 rfl (lv_at hl 0 rfl) ?_
    refine lv_bipush (v := 14) hx hb dX9_reset_24 (by decide) ?_
    refine lv_icmp_ge (tgt := 42) hx hb dX9_reset_26 (by decide) (fun c_34 => ?_) (fun c_34 => ?_)
    · exact absurd c_34 (by decide)
    refine lv_aload_n hx hb dX9_reset_29 rfl (lv_at hl 1 rfl) ?_
    refine va_get (D := (dC, dI)) (ci := 9) (v := .ref st_fallen) (C := RX9) (T := TX9) (N := 8) hx hb hts (fun w h => wM_c (iX9 w h)) hown hK hP 0 rfl rfl 2 (by decide) (hts _ (wM_c wd_396)) (fun _ h9 => h9) rfl dX9_reset_30 ?_
    refine lv_iload_n hx hb dX9_reset_33 rfl (lv_at hl 0 rfl) ?_
    refine lv_iconst (v := 0) hx hb dX9_reset_34 (by decide) ?_
    refine va_zast hx hb hK hP hD hS 3 2 rfl rfl (by unfold vp_in; decide) dX9_reset_35 (fun H locs hP hD hS => ?_)
    obtain ⟨f_35, hP, hD⟩ : ∃ f9, va_P (dC, dI) classes [(st, .inr (9, [.ref st_open, .ref st_speed, .ref st_fallen, .ref st_fire, .int 0, .int 0, .int 0, .ref bk])), (st_open, .inl (ks1, 6, .inl f_12)), (st_speed, .inl (ks2, 4, .inl (fun _ => 0))), (st_fallen, .inl (ks3, 14, .inl f9)), (st_fire, .inl (ks4, 14, .inl (fun _ => 0)))] H ∧ va_D A [(st, .inr (9, [.ref st_open, .ref st_speed, .ref st_fallen, .ref st_fire, .int 0, .int 0, .int 0, .ref bk])), (st_open, .inl (ks1, 6, .inl f_12)), (st_speed, .inl (ks2, 4, .inl (fun _ => 0))), (st_fallen, .inl (ks3, 14, .inl f9)), (st_fire, .inl (ks4, 14, .inl (fun _ => 0)))] := ⟨_, hP, hD⟩
    refine lv_iinc (v := 11) (lv' := [(1, .int 11), (0, .ref st)]) hx hb dX9_reset_36 hl (k := 0) rfl (by decide) (by decide) rfl (fun ls hl => ?_)
    refine lv_goto (tgt := 23) hx hb dX9_reset_39 (by decide) ?_
    refine lv_iload_n hx hb dX9_reset_23 rfl (lv_at hl 0 rfl) ?_
    refine lv_bipush (v := 14) hx hb dX9_reset_24 (by decide) ?_
    refine lv_icmp_ge (tgt := 42) hx hb dX9_reset_26 (by decide) (fun c_36 => ?_) (fun c_36 => ?_)
    · exact absurd c_36 (by decide)
    refine lv_aload_n hx hb dX9_reset_29 rfl (lv_at hl 1 rfl) ?_
    refine va_get (D := (dC, dI)) (ci := 9) (v := .ref st_fallen) (C := RX9) (T := TX9) (N := 8) hx hb hts (fun w h => wM_c (iX9 w h)) hown hK hP 0 rfl rfl 2 (by decide) (hts _ (wM_c wd_396)) (fun _ h9 => h9) rfl dX9_reset_30 ?_
    refine lv_iload_n hx hb dX9_reset_33 rfl (lv_at hl 0 rfl) ?_
    refine lv_iconst (v := 0) hx hb dX9_reset_34 (by decide) ?_
    refine va_zast hx hb hK hP hD hS 3 2 rfl rfl (by unfold vp_in; decide) dX9_reset_35 (fun H locs hP hD hS => ?_)
    obtain ⟨f_37, hP, hD⟩ : ∃ f9, va_P (dC, dI) classes [(st, .inr (9, [.ref st_open, .ref st_speed, .ref st_fallen, .ref st_fire, .int 0, .int 0, .int 0, .ref bk])), (st_open, .inl (ks1, 6, .inl f_12)), (st_speed, .inl (ks2, 4, .inl (fun _ => 0))), (st_fallen, .inl (ks3, 14, .inl f9)), (st_fire, .inl (ks4, 14, .inl (fun _ => 0)))] H ∧ va_D A [(st, .inr (9, [.ref st_open, .ref st_speed, .ref st_fallen, .ref st_fire, .int 0, .int 0, .int 0, .ref bk])), (st_open, .inl (ks1, 6, .inl f_12)), (st_speed, .inl (ks2, 4, .inl (fun _ => 0))), (st_fallen, .inl (ks3, 14, .inl f9)), (st_fire, .inl (ks4, 14, .inl (fun _ => 0)))] := ⟨_, hP, hD⟩
    refine lv_iinc (v := 12) (lv' := [(1, .int 12), (0, .ref st)]) hx hb dX9_reset_36 hl (k := 0) rfl (by decide) (by decide) rfl (fun ls hl => ?_)
    refine lv_goto (tgt := 23) hx hb dX9_reset_39 (by decide) ?_
    refine lv_iload_n hx hb dX9_reset_23 rfl (lv_at hl 0 rfl) ?_
    refine lv_bipush (v := 14) hx hb dX9_reset_24 (by decide) ?_
    refine lv_icmp_ge (tgt := 42) hx hb dX9_reset_26 (by decide) (fun c_38 => ?_) (fun c_38 => ?_)
    · exact absurd c_38 (by decide)
    refine lv_aload_n hx hb dX9_reset_29 rfl (lv_at hl 1 rfl) ?_
    refine va_get (D := (dC, dI)) (ci := 9) (v := .ref st_fallen) (C := RX9) (T := TX9) (N := 8) hx hb hts (fun w h => wM_c (iX9 w h)) hown hK hP 0 rfl rfl 2 (by decide) (hts _ (wM_c wd_396)) (fun _ h9 => h9) rfl dX9_reset_30 ?_
    refine lv_iload_n hx hb dX9_reset_33 rfl (lv_at hl 0 rfl) ?_
    refine lv_iconst (v := 0) hx hb dX9_reset_34 (by decide) ?_
    refine va_zast hx hb hK hP hD hS 3 2 rfl rfl (by unfold vp_in; decide) dX9_reset_35 (fun H locs hP hD hS => ?_)
    obtain ⟨f_39, hP, hD⟩ : ∃ f9, va_P (dC, dI) classes [(st, .inr (9, [.ref st_open, .ref st_speed, .ref st_fallen, .ref st_fire, .int 0, .int 0, .int 0, .ref bk])), (st_open, .inl (ks1, 6, .inl f_12)), (st_speed, .inl (ks2, 4, .inl (fun _ => 0))), (st_fallen, .inl (ks3, 14, .inl f9)), (st_fire, .inl (ks4, 14, .inl (fun _ => 0)))] H ∧ va_D A [(st, .inr (9, [.ref st_open, .ref st_speed, .ref st_fallen, .ref st_fire, .int 0, .int 0, .int 0, .ref bk])), (st_open, .inl (ks1, 6, .inl f_12)), (st_speed, .inl (ks2, 4, .inl (fun _ => 0))), (st_fallen, .inl (ks3, 14, .inl f9)), (st_fire, .inl (ks4, 14, .inl (fun _ => 0)))] := ⟨_, hP, hD⟩
    refine lv_iinc (v := 13) (lv' := [(1, .int 13), (0, .ref st)]) hx hb dX9_reset_36 hl (k := 0) rfl (by decide) (by decide) rfl (fun ls hl => ?_)
    refine lv_goto (tgt := 23) hx hb dX9_reset_39 (by decide) ?_
    refine lv_iload_n hx hb dX9_reset_23 rfl (lv_at hl 0 rfl) ?_
    refine lv_bipush (v := 14) hx hb dX9_reset_24 (by decide) ?_
    refine lv_icmp_ge (tgt := 42) hx hb dX9_reset_26 (by decide) (fun c_40 => ?_) (fun c_40 => ?_)
    · exact absurd c_40 (by decide)
    refine lv_aload_n hx hb dX9_reset_29 rfl (lv_at hl 1 rfl) ?_
    refine va_get (D := (dC, dI)) (ci := 9) (v := .ref st_fallen) (C := RX9) (T := TX9) (N := 8) hx hb hts (fun w h => wM_c (iX9 w h)) hown hK hP 0 rfl rfl 2 (by decide) (hts _ (wM_c wd_396)) (fun _ h9 => h9) rfl dX9_reset_30 ?_
    refine lv_iload_n hx hb dX9_reset_33 rfl (lv_at hl 0 rfl) ?_
    refine lv_iconst (v := 0) hx hb dX9_reset_34 (by decide) ?_
    refine va_zast hx hb hK hP hD hS 3 2 rfl rfl (by unfold vp_in; decide) dX9_reset_35 (fun H locs hP hD hS => ?_)
    obtain ⟨f_41, hP, hD⟩ : ∃ f9, va_P (dC, dI) classes [(st, .inr (9, [.ref st_open, .ref st_speed, .ref st_fallen, .ref st_fire, .int 0, .int 0, .int 0, .ref bk])), (st_open, .inl (ks1, 6, .inl f_12)), (st_speed, .inl (ks2, 4, .inl (fun _ => 0))), (st_fallen, .inl (ks3, 14, .inl f9)), (st_fire, .inl (ks4, 14, .inl (fun _ => 0)))] H ∧ va_D A [(st, .inr (9, [.ref st_open, .ref st_speed, .ref st_fallen, .ref st_fire, .int 0, .int 0, .int 0, .ref bk])), (st_open, .inl (ks1, 6, .inl f_12)), (st_speed, .inl (ks2, 4, .inl (fun _ => 0))), (st_fallen, .inl (ks3, 14, .inl f9)), (st_fire, .inl (ks4, 14, .inl (fun _ => 0)))] := ⟨_, hP, hD⟩
    refine lv_iinc (v := 14) (lv' := [(1, .int 14), (0, .ref st)]) hx hb dX9_reset_36 hl (k := 0) rfl (by decide) (by decide) rfl (fun ls hl => ?_)
    refine lv_goto (tgt := 23) hx hb dX9_reset_39 (by decide) ?_
    refine lv_iload_n hx hb dX9_reset_23 rfl (lv_at hl 0 rfl) ?_
    refine lv_bipush (v := 14) hx hb dX9_reset_24 (by decide) ?_
    refine lv_icmp_ge (tgt := 42) hx hb dX9_reset_26 (by decide) (fun c_42 => ?_) (fun c_42 => ?_)
    · skip
      refine lv_aload_n hx hb dX9_reset_42 rfl (lv_at hl 1 rfl) ?_
      refine va_get (D := (dC, dI)) (ci := 9) (v := .ref st_speed) (C := RX9) (T := TX9) (N := 8) hx hb hts (fun w h => wM_c (iX9 w h)) hown hK hP 0 rfl rfl 1 (by decide) (hts _ (wM_c wd_392)) (fun _ h9 => h9) rfl dX9_reset_43 ?_
      refine lv_iconst (v := 1) hx hb dX9_reset_46 (by decide) ?_
      have hPc := hP.sub (ws' := [(st_speed, .inl (ks2, 4, .inl (fun _ => 0)))]) [2] rfl
      have hDc := hD.sub (ws' := [(st_speed, .inl (ks2, 4, .inl (fun _ => 0)))]) [2] (by decide) rfl
      have hKc := hK.sub (tys' := [(ks2, .int)]) [1] rfl
      have hFc := va_free (wc := [(st_speed, .inl (ks2, 4, .inl (fun _ => 0)))]) hD hS hA [2] rfl
      refine va_callv (va_runS (As := [.ref st_speed, .int 1]) (rest := []) ⟨hx, hb, hml, hown, hts⟩ (c_fill4 l dC dI n0 H.size st_speed ks2 (fun _ => 0) 1 ) (va_cwS 2 hts (gS (fun w h => wM_c h) wd_669 wd_667 wd_668 wd_126) rfl rfl rfl (by decide +kernel) ⟨Nat.le_of_ble_eq_true rfl, Nat.le_of_ble_eq_true rfl⟩) ⟨fun a U g mk q => by obtain ⟨q0, q1, q2, qG, qP, qK, qD⟩ := q; exact ⟨q0, q1, q2, GW.blind qG, qP, va_K.moved (u := U) (U := U.calling g mk a) (Vm.Alike.refl U.vm) qK, qD⟩, fun U hU hW => ⟨rfl, by rw [hU], Nat.le_trans hn0 hS.1, GW.go hW hU hG (fun q hq hA9 => hS.2.1 q hq (fun h => hA9 (hA0 q h))), by rw [hU]; exact hPc, va_K.moved hW.alike hKc, hDc.weaken (fun _ _ _ h => hA0 _ h)⟩⟩ rfl rfl hl.1 rfl (lv_room (Nat.le_of_ble_eq_true rfl)) dX9_reset_47 ⟨Nat.le_of_ble_eq_true rfl, Nat.le_of_ble_eq_true rfl⟩) hS (fun q _ h => hFc q h) hFc (fun u t H1 locs ht hvm hw_44 hB hz1 hk1 hS => ?_)
      obtain ⟨f2_45, hP1, hK1, hD1⟩ := hB
      rw [ht] at hP1
      obtain ⟨hP, hD⟩ := va_join (wr := [(st, .inr (9, [.ref st_open, .ref st_speed, .ref st_fallen, .ref st_fire, .int 0, .int 0, .int 0, .ref bk])), (st_open, .inl (ks1, 6, .inl f_12)), (st_fallen, .inl (ks3, 14, .inl f_41)), (st_fire, .inl (ks4, 14, .inl (fun _ => 0)))]) (w1 := [(st_speed, .inl (ks2, 4, .inl f2_45))]) hP hD [2] [0, 1, 3, 4] rfl rfl (by decide) (by decide) hk1 hFc hP1 hD1
      generalize H1 = H at hP hS ⊢
      have hP : va_P (dC, dI) classes [(st, .inr (9, [.ref st_open, .ref st_speed, .ref st_fallen, .ref st_fire, .int 0, .int 0, .int 0, .ref bk])), (st_open, .inl (ks1, 6, .inl f_12)), (st_fallen, .inl (ks3, 14, .inl f_41)), (st_fire, .inl (ks4, 14, .inl (fun _ => 0))), (st_speed, .inl (ks2, 4, .inl f2_45))] H := hP
      have hD : va_D A [(st, .inr (9, [.ref st_open, .ref st_speed, .ref st_fallen, .ref st_fire, .int 0, .int 0, .int 0, .ref bk])), (st_open, .inl (ks1, 6, .inl f_12)), (st_fallen, .inl (ks3, 14, .inl f_41)), (st_fire, .inl (ks4, 14, .inl (fun _ => 0))), (st_speed, .inl (ks2, 4, .inl f2_45))] := hD
      refine lv_aload_n hx hb dX9_reset_50 rfl (lv_at hl 1 rfl) ?_
      refine va_get (D := (dC, dI)) (ci := 9) (v := .ref st_fire) (C := RX9) (T := TX9) (N := 8) hx hb hts (fun w h => wM_c (iX9 w h)) hown hK hP 0 rfl rfl 3 (by decide) (hts _ (wM_c wd_402)) (fun _ h9 => h9) rfl dX9_reset_51 ?_
      refine lv_iconst (v := 0) hx hb dX9_reset_54 (by decide) ?_
      have hPc := hP.sub (ws' := [(st_fire, .inl (ks4, 14, .inl (fun _ => 0)))]) [3] rfl
      have hDc := hD.sub (ws' := [(st_fire, .inl (ks4, 14, .inl (fun _ => 0)))]) [3] (by decide) rfl
      have hKc := hK.sub (tys' := [(ks4, .int)]) [3] rfl
      have hFc := va_free (wc := [(st_fire, .inl (ks4, 14, .inl (fun _ => 0)))]) hD hS hA [3] rfl
      refine va_callv (va_runS (As := [.ref st_fire, .int 0]) (rest := []) ⟨hx, hb, hml, hown, hts⟩ (c_fill14 l dC dI n0 H.size st_fire ks4 (fun _ => 0) 0 ) (va_cwS 2 hts (gS (fun w h => wM_c h) wd_669 wd_667 wd_668 wd_126) rfl rfl rfl (by decide +kernel) ⟨Nat.le_of_ble_eq_true rfl, Nat.le_of_ble_eq_true rfl⟩) ⟨fun a U g mk q => by obtain ⟨q0, q1, q2, qG, qP, qK, qD⟩ := q; exact ⟨q0, q1, q2, GW.blind qG, qP, va_K.moved (u := U) (U := U.calling g mk a) (Vm.Alike.refl U.vm) qK, qD⟩, fun U hU hW => ⟨rfl, by rw [hU], Nat.le_trans hn0 hS.1, GW.go hW hU hG (fun q hq hA9 => hS.2.1 q hq (fun h => hA9 (hA0 q h))), by rw [hU]; exact hPc, va_K.moved hW.alike hKc, hDc.weaken (fun _ _ _ h => hA0 _ h)⟩⟩ rfl rfl hl.1 rfl (lv_room (Nat.le_of_ble_eq_true rfl)) dX9_reset_55 ⟨Nat.le_of_ble_eq_true rfl, Nat.le_of_ble_eq_true rfl⟩) hS (fun q _ h => hFc q h) hFc (fun u t H1 locs ht hvm hw_47 hB hz1 hk1 hS => ?_)
      obtain ⟨f2_48, hP1, hK1, hD1⟩ := hB
      rw [ht] at hP1
      obtain ⟨hP, hD⟩ := va_join (wr := [(st, .inr (9, [.ref st_open, .ref st_speed, .ref st_fallen, .ref st_fire, .int 0, .int 0, .int 0, .ref bk])), (st_open, .inl (ks1, 6, .inl f_12)), (st_fallen, .inl (ks3, 14, .inl f_41)), (st_speed, .inl (ks2, 4, .inl f2_45))]) (w1 := [(st_fire, .inl (ks4, 14, .inl f2_48))]) hP hD [3] [0, 1, 2, 4] rfl rfl (by decide) (by decide) hk1 hFc hP1 hD1
      generalize H1 = H at hP hS ⊢
      have hP : va_P (dC, dI) classes [(st, .inr (9, [.ref st_open, .ref st_speed, .ref st_fallen, .ref st_fire, .int 0, .int 0, .int 0, .ref bk])), (st_open, .inl (ks1, 6, .inl f_12)), (st_fallen, .inl (ks3, 14, .inl f_41)), (st_speed, .inl (ks2, 4, .inl f2_45)), (st_fire, .inl (ks4, 14, .inl f2_48))] H := hP
      have hD : va_D A [(st, .inr (9, [.ref st_open, .ref st_speed, .ref st_fallen, .ref st_fire, .int 0, .int 0, .int 0, .ref bk])), (st_open, .inl (ks1, 6, .inl f_12)), (st_fallen, .inl (ks3, 14, .inl f_41)), (st_speed, .inl (ks2, 4, .inl f2_45)), (st_fire, .inl (ks4, 14, .inl f2_48))] := hD
      refine lv_aload_n hx hb dX9_reset_58 rfl (lv_at hl 1 rfl) ?_
      refine lv_bipush (v := 10) hx hb dX9_reset_59 (by decide) ?_
      refine va_put (D := (dC, dI)) (ci := 9) (v := .int 10) (ty := .int) (C := RX9) (T := TX9) (N := 8) hx hb hts (fun w h => wM_c (iX9 w h)) tyX9 tyX9_ok nmX9 hown hK hP hD hS 0 rfl rfl 4 (by decide) (hts _ (wM_c wd_405)) (fun _ h9 => h9) rfl (by decide +kernel) rfl rfl (Nat.le_of_ble_eq_true rfl) dX9_reset_61 (fun H locs hP hD hS => ?_)
      have hP : va_P (dC, dI) classes [(st, .inr (9, [.ref st_open, .ref st_speed, .ref st_fallen, .ref st_fire, .int 10, .int 0, .int 0, .ref bk])), (st_open, .inl (ks1, 6, .inl f_12)), (st_fallen, .inl (ks3, 14, .inl f_41)), (st_speed, .inl (ks2, 4, .inl f2_45)), (st_fire, .inl (ks4, 14, .inl f2_48))] H := hP
      have hD : va_D A [(st, .inr (9, [.ref st_open, .ref st_speed, .ref st_fallen, .ref st_fire, .int 10, .int 0, .int 0, .ref bk])), (st_open, .inl (ks1, 6, .inl f_12)), (st_fallen, .inl (ks3, 14, .inl f_41)), (st_speed, .inl (ks2, 4, .inl f2_45)), (st_fire, .inl (ks4, 14, .inl f2_48))] := hD
      refine lv_aload_n hx hb dX9_reset_64 rfl (lv_at hl 1 rfl) ?_
      refine lv_iconst (v := (-1)) hx hb dX9_reset_65 (by decide) ?_
      refine va_put (D := (dC, dI)) (ci := 9) (v := .int (-1)) (ty := .int) (C := RX9) (T := TX9) (N := 8) hx hb hts (fun w h => wM_c (iX9 w h)) tyX9 tyX9_ok nmX9 hown hK hP hD hS 0 rfl rfl 5 (by decide) (hts _ (wM_c wd_408)) (fun _ h9 => h9) rfl (by decide +kernel) rfl rfl (Nat.le_of_ble_eq_true rfl) dX9_reset_66 (fun H locs hP hD hS => ?_)
      have hP : va_P (dC, dI) classes [(st, .inr (9, [.ref st_open, .ref st_speed, .ref st_fallen, .ref st_fire, .int 10, .int (-1), .int 0, .ref bk])), (st_open, .inl (ks1, 6, .inl f_12)), (st_fallen, .inl (ks3, 14, .inl f_41)), (st_speed, .inl (ks2, 4, .inl f2_45)), (st_fire, .inl (ks4, 14, .inl f2_48))] H := hP
      have hD : va_D A [(st, .inr (9, [.ref st_open, .ref st_speed, .ref st_fallen, .ref st_fire, .int 10, .int (-1), .int 0, .ref bk])), (st_open, .inl (ks1, 6, .inl f_12)), (st_fallen, .inl (ks3, 14, .inl f_41)), (st_speed, .inl (ks2, 4, .inl f2_45)), (st_fire, .inl (ks4, 14, .inl f2_48))] := hD
      refine lv_aload_n hx hb dX9_reset_69 rfl (lv_at hl 1 rfl) ?_
      refine lv_iconst (v := 0) hx hb dX9_reset_70 (by decide) ?_
      refine va_put (D := (dC, dI)) (ci := 9) (v := .int 0) (ty := .int) (C := RX9) (T := TX9) (N := 8) hx hb hts (fun w h => wM_c (iX9 w h)) tyX9 tyX9_ok nmX9 hown hK hP hD hS 0 rfl rfl 6 (by decide) (hts _ (wM_c wd_410)) (fun _ h9 => h9) rfl (by decide +kernel) rfl rfl (Nat.le_of_ble_eq_true rfl) dX9_reset_71 (fun H locs hP hD hS => ?_)
      have hP : va_P (dC, dI) classes [(st, .inr (9, [.ref st_open, .ref st_speed, .ref st_fallen, .ref st_fire, .int 10, .int (-1), .int 0, .ref bk])), (st_open, .inl (ks1, 6, .inl f_12)), (st_fallen, .inl (ks3, 14, .inl f_41)), (st_speed, .inl (ks2, 4, .inl f2_45)), (st_fire, .inl (ks4, 14, .inl f2_48))] H := hP
      have hD : va_D A [(st, .inr (9, [.ref st_open, .ref st_speed, .ref st_fallen, .ref st_fire, .int 10, .int (-1), .int 0, .ref bk])), (st_open, .inl (ks1, 6, .inl f_12)), (st_fallen, .inl (ks3, 14, .inl f_41)), (st_speed, .inl (ks2, 4, .inl f2_45)), (st_fire, .inl (ks4, 14, .inl f2_48))] := hD
      have hP9 := hP.sub (ws' := [(st, .inr (9, [.ref st_open, .ref st_speed, .ref st_fallen, .ref st_fire, .int 10, .int (-1), .int 0, .ref bk]))]) [0] rfl
      have hD9 := hD.sub (ws' := [(st, .inr (9, [.ref st_open, .ref st_speed, .ref st_fallen, .ref st_fire, .int 10, .int (-1), .int 0, .ref bk]))]) [0] (by decide) rfl
      have hK9 := hK.sub (tys' := []) [] rfl
      exact W.vret hx hb hr (fun t ht hW => ⟨⟨(), rfl, trivial, by rw [ht]; exact hP9, va_K.moved hW.alike hK9, hD9⟩, hS.F ht⟩) hS.2.2 dX9_reset_74
    · exact absurd c_42 (by decide)
  · exact absurd c_13 (by decide)
