theorem kw_11 : (Jvm.Cond.classLink "MoverRoomLaw" (7 : Nat) "MoverRoom") ∈ gw := gw_of 11 (by decide +kernel) (by decide +kernel)
theorem kw_13 : (Jvm.Cond.methodLink "MoverRoomLaw" (9 : Nat) ({ cls := "MoverRoom", name := "<init>", desc := "()V" } : Jvm.MethodName)) ∈ gw := gw_of 13 (by decide +kernel) (by decide +kernel)
theorem kw_14 : (Jvm.Cond.instanceMethod ({ cls := "MoverRoom", name := "<init>", desc := "()V" } : Jvm.MethodName)) ∈ gw := gw_of 14 (by decide +kernel) (by decide +kernel)
theorem kw_15 : (Jvm.Cond.code ({ cls := "MoverRoom", name := "<init>", desc := "()V" } : Jvm.MethodName) prog_1_method_1_code (1 : Nat) (Option.none : Option Jvm.ClassFile.FieldType)) ∈ gw := gw_of 15 (by decide +kernel) (by decide +kernel)
theorem kw_240 : (Jvm.Cond.methodLink "MoverRoomLaw" (13 : Nat) ({ cls := "MoverRoom", name := "room", desc := "(II)I" } : Jvm.MethodName)) ∈ gw := gw_of 240 (by decide +kernel) (by decide +kernel)
theorem kw_241 : (Jvm.Cond.instanceMethod ({ cls := "MoverRoom", name := "room", desc := "(II)I" } : Jvm.MethodName)) ∈ gw := gw_of 241 (by decide +kernel) (by decide +kernel)
theorem kw_242 : (Jvm.Cond.selects "MoverRoom" ({ cls := "MoverRoom", name := "room", desc := "(II)I" } : Jvm.MethodName) ({ cls := "MoverRoom", name := "room", desc := "(II)I" } : Jvm.MethodName)) ∈ gw := gw_of 242 (by decide +kernel) (by decide +kernel)
theorem kw_243 : (Jvm.Cond.code ({ cls := "MoverRoom", name := "room", desc := "(II)I" } : Jvm.MethodName) prog_1_method_2_code (3 : Nat) (Option.some Jvm.ClassFile.FieldType.int)) ∈ gw := gw_of 243 (by decide +kernel) (by decide +kernel)
theorem kw_260 : (Jvm.Cond.methodLink "MoverRoomLaw" (18 : Nat) ({ cls := "MoverRoom", name := "wall", desc := "(I)I" } : Jvm.MethodName)) ∈ gw := gw_of 260 (by decide +kernel) (by decide +kernel)
theorem kw_261 : (Jvm.Cond.instanceMethod ({ cls := "MoverRoom", name := "wall", desc := "(I)I" } : Jvm.MethodName)) ∈ gw := gw_of 261 (by decide +kernel) (by decide +kernel)
theorem kw_262 : (Jvm.Cond.selects "MoverRoom" ({ cls := "MoverRoom", name := "wall", desc := "(I)I" } : Jvm.MethodName) ({ cls := "MoverRoom", name := "wall", desc := "(I)I" } : Jvm.MethodName)) ∈ gw := gw_of 262 (by decide +kernel) (by decide +kernel)
theorem kw_263 : (Jvm.Cond.code ({ cls := "MoverRoom", name := "wall", desc := "(I)I" } : Jvm.MethodName) prog_1_method_3_code (2 : Nat) (Option.some Jvm.ClassFile.FieldType.int)) ∈ gw := gw_of 263 (by decide +kernel) (by decide +kernel)
theorem kw_270 : (Jvm.Cond.methodLink "MoverRoomLaw" (23 : Nat) ({ cls := "MoverRoom", name := "mover", desc := "(II)I" } : Jvm.MethodName)) ∈ gw := gw_of 270 (by decide +kernel) (by decide +kernel)
theorem kw_271 : (Jvm.Cond.instanceMethod ({ cls := "MoverRoom", name := "mover", desc := "(II)I" } : Jvm.MethodName)) ∈ gw := gw_of 271 (by decide +kernel) (by decide +kernel)
theorem kw_272 : (Jvm.Cond.selects "MoverRoom" ({ cls := "MoverRoom", name := "mover", desc := "(II)I" } : Jvm.MethodName) ({ cls := "MoverRoom", name := "mover", desc := "(II)I" } : Jvm.MethodName)) ∈ gw := gw_of 272 (by decide +kernel) (by decide +kernel)
theorem kw_273 : (Jvm.Cond.code ({ cls := "MoverRoom", name := "mover", desc := "(II)I" } : Jvm.MethodName) prog_1_method_4_code (3 : Nat) (Option.some Jvm.ClassFile.FieldType.int)) ∈ gw := gw_of 273 (by decide +kernel) (by decide +kernel)
theorem kw_287 : (Jvm.Cond.methodLink "MoverRoomLaw" (27 : Nat) ({ cls := "MoverRoom", name := "clear", desc := "()I" } : Jvm.MethodName)) ∈ gw := gw_of 287 (by decide +kernel) (by decide +kernel)
theorem kw_288 : (Jvm.Cond.instanceMethod ({ cls := "MoverRoom", name := "clear", desc := "()I" } : Jvm.MethodName)) ∈ gw := gw_of 288 (by decide +kernel) (by decide +kernel)
theorem kw_289 : (Jvm.Cond.selects "MoverRoom" ({ cls := "MoverRoom", name := "clear", desc := "()I" } : Jvm.MethodName) ({ cls := "MoverRoom", name := "clear", desc := "()I" } : Jvm.MethodName)) ∈ gw := gw_of 289 (by decide +kernel) (by decide +kernel)
theorem kw_290 : (Jvm.Cond.code ({ cls := "MoverRoom", name := "clear", desc := "()I" } : Jvm.MethodName) prog_1_method_5_code (2 : Nat) (Option.some Jvm.ClassFile.FieldType.int)) ∈ gw := gw_of 290 (by decide +kernel) (by decide +kernel)
theorem kw_291 : (Jvm.Cond.methodLink "MoverRoomLaw" (32 : Nat) ({ cls := "MoverRoom", name := "distance", desc := "(I)I" } : Jvm.MethodName)) ∈ gw := gw_of 291 (by decide +kernel) (by decide +kernel)
theorem kw_292 : (Jvm.Cond.instanceMethod ({ cls := "MoverRoom", name := "distance", desc := "(I)I" } : Jvm.MethodName)) ∈ gw := gw_of 292 (by decide +kernel) (by decide +kernel)
theorem kw_293 : (Jvm.Cond.selects "MoverRoom" ({ cls := "MoverRoom", name := "distance", desc := "(I)I" } : Jvm.MethodName) ({ cls := "MoverRoom", name := "distance", desc := "(I)I" } : Jvm.MethodName)) ∈ gw := gw_of 293 (by decide +kernel) (by decide +kernel)
theorem kw_294 : (Jvm.Cond.code ({ cls := "MoverRoom", name := "distance", desc := "(I)I" } : Jvm.MethodName) prog_1_method_6_code (2 : Nat) (Option.some Jvm.ClassFile.FieldType.int)) ∈ gw := gw_of 294 (by decide +kernel) (by decide +kernel)
theorem kw_303 : (Jvm.Cond.methodLink "MoverRoomLaw" (36 : Nat) ({ cls := "MoverRoom", name := "ways", desc := "(II)J" } : Jvm.MethodName)) ∈ gw := gw_of 303 (by decide +kernel) (by decide +kernel)
theorem kw_304 : (Jvm.Cond.instanceMethod ({ cls := "MoverRoom", name := "ways", desc := "(II)J" } : Jvm.MethodName)) ∈ gw := gw_of 304 (by decide +kernel) (by decide +kernel)
theorem kw_305 : (Jvm.Cond.selects "MoverRoom" ({ cls := "MoverRoom", name := "ways", desc := "(II)J" } : Jvm.MethodName) ({ cls := "MoverRoom", name := "ways", desc := "(II)J" } : Jvm.MethodName)) ∈ gw := gw_of 305 (by decide +kernel) (by decide +kernel)
theorem kw_306 : (Jvm.Cond.code ({ cls := "MoverRoom", name := "ways", desc := "(II)J" } : Jvm.MethodName) prog_1_method_7_code (3 : Nat) (Option.some Jvm.ClassFile.FieldType.long)) ∈ gw := gw_of 306 (by decide +kernel) (by decide +kernel)
theorem kw_324 : (Jvm.Cond.methodLink "MoverRoomLaw" (41 : Nat) ({ cls := "MoverRoom", name := "solve", desc := "(I)I" } : Jvm.MethodName)) ∈ gw := gw_of 324 (by decide +kernel) (by decide +kernel)
theorem kw_325 : (Jvm.Cond.instanceMethod ({ cls := "MoverRoom", name := "solve", desc := "(I)I" } : Jvm.MethodName)) ∈ gw := gw_of 325 (by decide +kernel) (by decide +kernel)
theorem kw_326 : (Jvm.Cond.selects "MoverRoom" ({ cls := "MoverRoom", name := "solve", desc := "(I)I" } : Jvm.MethodName) ({ cls := "MoverRoom", name := "solve", desc := "(I)I" } : Jvm.MethodName)) ∈ gw := gw_of 326 (by decide +kernel) (by decide +kernel)
theorem kw_327 : (Jvm.Cond.code ({ cls := "MoverRoom", name := "solve", desc := "(I)I" } : Jvm.MethodName) prog_1_method_8_code (2 : Nat) (Option.some Jvm.ClassFile.FieldType.int)) ∈ gw := gw_of 327 (by decide +kernel) (by decide +kernel)
theorem kw_406 : (Jvm.Cond.methodLink "MoverRoomLaw" (45 : Nat) ({ cls := "MoverRoom", name := "cost", desc := "(I)I" } : Jvm.MethodName)) ∈ gw := gw_of 406 (by decide +kernel) (by decide +kernel)
theorem kw_407 : (Jvm.Cond.instanceMethod ({ cls := "MoverRoom", name := "cost", desc := "(I)I" } : Jvm.MethodName)) ∈ gw := gw_of 407 (by decide +kernel) (by decide +kernel)
theorem kw_408 : (Jvm.Cond.selects "MoverRoom" ({ cls := "MoverRoom", name := "cost", desc := "(I)I" } : Jvm.MethodName) ({ cls := "MoverRoom", name := "cost", desc := "(I)I" } : Jvm.MethodName)) ∈ gw := gw_of 408 (by decide +kernel) (by decide +kernel)
theorem kw_409 : (Jvm.Cond.code ({ cls := "MoverRoom", name := "cost", desc := "(I)I" } : Jvm.MethodName) prog_1_method_9_code (2 : Nat) (Option.some Jvm.ClassFile.FieldType.int)) ∈ gw := gw_of 409 (by decide +kernel) (by decide +kernel)
theorem kw_414 : (Jvm.Cond.methodLink "MoverRoomLaw" (49 : Nat) ({ cls := "MoverRoom", name := "at", desc := "(II)I" } : Jvm.MethodName)) ∈ gw := gw_of 414 (by decide +kernel) (by decide +kernel)
theorem kw_415 : (Jvm.Cond.instanceMethod ({ cls := "MoverRoom", name := "at", desc := "(II)I" } : Jvm.MethodName)) ∈ gw := gw_of 415 (by decide +kernel) (by decide +kernel)
theorem kw_416 : (Jvm.Cond.selects "MoverRoom" ({ cls := "MoverRoom", name := "at", desc := "(II)I" } : Jvm.MethodName) ({ cls := "MoverRoom", name := "at", desc := "(II)I" } : Jvm.MethodName)) ∈ gw := gw_of 416 (by decide +kernel) (by decide +kernel)
theorem kw_417 : (Jvm.Cond.code ({ cls := "MoverRoom", name := "at", desc := "(II)I" } : Jvm.MethodName) prog_1_method_10_code (3 : Nat) (Option.some Jvm.ClassFile.FieldType.int)) ∈ gw := gw_of 417 (by decide +kernel) (by decide +kernel)
theorem kw_425 : (Jvm.Cond.methodLink "MoverRoomLaw" (53 : Nat) ({ cls := "MoverRoom", name := "lay", desc := "(III)I" } : Jvm.MethodName)) ∈ gw := gw_of 425 (by decide +kernel) (by decide +kernel)
theorem kw_426 : (Jvm.Cond.instanceMethod ({ cls := "MoverRoom", name := "lay", desc := "(III)I" } : Jvm.MethodName)) ∈ gw := gw_of 426 (by decide +kernel) (by decide +kernel)
theorem kw_427 : (Jvm.Cond.selects "MoverRoom" ({ cls := "MoverRoom", name := "lay", desc := "(III)I" } : Jvm.MethodName) ({ cls := "MoverRoom", name := "lay", desc := "(III)I" } : Jvm.MethodName)) ∈ gw := gw_of 427 (by decide +kernel) (by decide +kernel)
theorem kw_428 : (Jvm.Cond.code ({ cls := "MoverRoom", name := "lay", desc := "(III)I" } : Jvm.MethodName) prog_1_method_11_code (4 : Nat) (Option.some Jvm.ClassFile.FieldType.int)) ∈ gw := gw_of 428 (by decide +kernel) (by decide +kernel)
theorem kw_437 : (Jvm.Cond.methodLink "MoverRoomLaw" (58 : Nat) ({ cls := "MoverRoom", name := "judge", desc := "(I)I" } : Jvm.MethodName)) ∈ gw := gw_of 437 (by decide +kernel) (by decide +kernel)
theorem kw_438 : (Jvm.Cond.instanceMethod ({ cls := "MoverRoom", name := "judge", desc := "(I)I" } : Jvm.MethodName)) ∈ gw := gw_of 438 (by decide +kernel) (by decide +kernel)
theorem kw_439 : (Jvm.Cond.selects "MoverRoom" ({ cls := "MoverRoom", name := "judge", desc := "(I)I" } : Jvm.MethodName) ({ cls := "MoverRoom", name := "judge", desc := "(I)I" } : Jvm.MethodName)) ∈ gw := gw_of 439 (by decide +kernel) (by decide +kernel)
theorem kw_440 : (Jvm.Cond.code ({ cls := "MoverRoom", name := "judge", desc := "(I)I" } : Jvm.MethodName) prog_1_method_12_code (2 : Nat) (Option.some Jvm.ClassFile.FieldType.int)) ∈ gw := gw_of 440 (by decide +kernel) (by decide +kernel)
theorem kw_482 : (Jvm.Cond.classLink "MoverRoomLaw" (10 : Nat) "MoverRoomModel") ∈ gw := gw_of 482 (by decide +kernel) (by decide +kernel)
theorem kw_484 : (Jvm.Cond.methodLink "MoverRoomLaw" (12 : Nat) ({ cls := "MoverRoomModel", name := "<init>", desc := "()V" } : Jvm.MethodName)) ∈ gw := gw_of 484 (by decide +kernel) (by decide +kernel)
theorem kw_485 : (Jvm.Cond.instanceMethod ({ cls := "MoverRoomModel", name := "<init>", desc := "()V" } : Jvm.MethodName)) ∈ gw := gw_of 485 (by decide +kernel) (by decide +kernel)
theorem kw_486 : (Jvm.Cond.code ({ cls := "MoverRoomModel", name := "<init>", desc := "()V" } : Jvm.MethodName) prog_9_method_1_code (1 : Nat) (Option.none : Option Jvm.ClassFile.FieldType)) ∈ gw := gw_of 486 (by decide +kernel) (by decide +kernel)
theorem kw_589 : (Jvm.Cond.methodLink "MoverRoomLaw" (17 : Nat) ({ cls := "MoverRoomModel", name := "room", desc := "(II)I" } : Jvm.MethodName)) ∈ gw := gw_of 589 (by decide +kernel) (by decide +kernel)
theorem kw_590 : (Jvm.Cond.instanceMethod ({ cls := "MoverRoomModel", name := "room", desc := "(II)I" } : Jvm.MethodName)) ∈ gw := gw_of 590 (by decide +kernel) (by decide +kernel)
theorem kw_591 : (Jvm.Cond.selects "MoverRoomModel" ({ cls := "MoverRoomModel", name := "room", desc := "(II)I" } : Jvm.MethodName) ({ cls := "MoverRoomModel", name := "room", desc := "(II)I" } : Jvm.MethodName)) ∈ gw := gw_of 591 (by decide +kernel) (by decide +kernel)
theorem kw_592 : (Jvm.Cond.code ({ cls := "MoverRoomModel", name := "room", desc := "(II)I" } : Jvm.MethodName) prog_9_method_3_code (4 : Nat) (Option.some Jvm.ClassFile.FieldType.int)) ∈ gw := gw_of 592 (by decide +kernel) (by decide +kernel)
theorem kw_597 : (Jvm.Cond.methodLink "MoverRoomLaw" (22 : Nat) ({ cls := "MoverRoomModel", name := "wall", desc := "(I)I" } : Jvm.MethodName)) ∈ gw := gw_of 597 (by decide +kernel) (by decide +kernel)
theorem kw_598 : (Jvm.Cond.instanceMethod ({ cls := "MoverRoomModel", name := "wall", desc := "(I)I" } : Jvm.MethodName)) ∈ gw := gw_of 598 (by decide +kernel) (by decide +kernel)
theorem kw_599 : (Jvm.Cond.selects "MoverRoomModel" ({ cls := "MoverRoomModel", name := "wall", desc := "(I)I" } : Jvm.MethodName) ({ cls := "MoverRoomModel", name := "wall", desc := "(I)I" } : Jvm.MethodName)) ∈ gw := gw_of 599 (by decide +kernel) (by decide +kernel)
theorem kw_600 : (Jvm.Cond.code ({ cls := "MoverRoomModel", name := "wall", desc := "(I)I" } : Jvm.MethodName) prog_9_method_6_code (2 : Nat) (Option.some Jvm.ClassFile.FieldType.int)) ∈ gw := gw_of 600 (by decide +kernel) (by decide +kernel)
theorem kw_605 : (Jvm.Cond.methodLink "MoverRoomLaw" (26 : Nat) ({ cls := "MoverRoomModel", name := "mover", desc := "(II)I" } : Jvm.MethodName)) ∈ gw := gw_of 605 (by decide +kernel) (by decide +kernel)
theorem kw_606 : (Jvm.Cond.instanceMethod ({ cls := "MoverRoomModel", name := "mover", desc := "(II)I" } : Jvm.MethodName)) ∈ gw := gw_of 606 (by decide +kernel) (by decide +kernel)
theorem kw_607 : (Jvm.Cond.selects "MoverRoomModel" ({ cls := "MoverRoomModel", name := "mover", desc := "(II)I" } : Jvm.MethodName) ({ cls := "MoverRoomModel", name := "mover", desc := "(II)I" } : Jvm.MethodName)) ∈ gw := gw_of 607 (by decide +kernel) (by decide +kernel)
theorem kw_608 : (Jvm.Cond.code ({ cls := "MoverRoomModel", name := "mover", desc := "(II)I" } : Jvm.MethodName) prog_9_method_8_code (6 : Nat) (Option.some Jvm.ClassFile.FieldType.int)) ∈ gw := gw_of 608 (by decide +kernel) (by decide +kernel)
theorem kw_617 : (Jvm.Cond.methodLink "MoverRoomLaw" (31 : Nat) ({ cls := "MoverRoomModel", name := "clear", desc := "()I" } : Jvm.MethodName)) ∈ gw := gw_of 617 (by decide +kernel) (by decide +kernel)
theorem kw_618 : (Jvm.Cond.instanceMethod ({ cls := "MoverRoomModel", name := "clear", desc := "()I" } : Jvm.MethodName)) ∈ gw := gw_of 618 (by decide +kernel) (by decide +kernel)
theorem kw_619 : (Jvm.Cond.selects "MoverRoomModel" ({ cls := "MoverRoomModel", name := "clear", desc := "()I" } : Jvm.MethodName) ({ cls := "MoverRoomModel", name := "clear", desc := "()I" } : Jvm.MethodName)) ∈ gw := gw_of 619 (by decide +kernel) (by decide +kernel)
theorem kw_620 : (Jvm.Cond.code ({ cls := "MoverRoomModel", name := "clear", desc := "()I" } : Jvm.MethodName) prog_9_method_9_code (2 : Nat) (Option.some Jvm.ClassFile.FieldType.int)) ∈ gw := gw_of 620 (by decide +kernel) (by decide +kernel)
theorem kw_621 : (Jvm.Cond.methodLink "MoverRoomLaw" (35 : Nat) ({ cls := "MoverRoomModel", name := "distance", desc := "(I)I" } : Jvm.MethodName)) ∈ gw := gw_of 621 (by decide +kernel) (by decide +kernel)
theorem kw_637 : (Jvm.Cond.methodLink "MoverRoomLaw" (40 : Nat) ({ cls := "MoverRoomModel", name := "ways", desc := "(II)J" } : Jvm.MethodName)) ∈ gw := gw_of 637 (by decide +kernel) (by decide +kernel)
theorem kw_638 : (Jvm.Cond.instanceMethod ({ cls := "MoverRoomModel", name := "ways", desc := "(II)J" } : Jvm.MethodName)) ∈ gw := gw_of 638 (by decide +kernel) (by decide +kernel)
theorem kw_639 : (Jvm.Cond.selects "MoverRoomModel" ({ cls := "MoverRoomModel", name := "ways", desc := "(II)J" } : Jvm.MethodName) ({ cls := "MoverRoomModel", name := "ways", desc := "(II)J" } : Jvm.MethodName)) ∈ gw := gw_of 639 (by decide +kernel) (by decide +kernel)
theorem kw_640 : (Jvm.Cond.code ({ cls := "MoverRoomModel", name := "ways", desc := "(II)J" } : Jvm.MethodName) prog_9_method_14_code (6 : Nat) (Option.some Jvm.ClassFile.FieldType.long)) ∈ gw := gw_of 640 (by decide +kernel) (by decide +kernel)
theorem kw_642 : (Jvm.Cond.methodLink "MoverRoomLaw" (44 : Nat) ({ cls := "MoverRoomModel", name := "solve", desc := "(I)I" } : Jvm.MethodName)) ∈ gw := gw_of 642 (by decide +kernel) (by decide +kernel)
theorem kw_643 : (Jvm.Cond.instanceMethod ({ cls := "MoverRoomModel", name := "solve", desc := "(I)I" } : Jvm.MethodName)) ∈ gw := gw_of 643 (by decide +kernel) (by decide +kernel)
theorem kw_644 : (Jvm.Cond.selects "MoverRoomModel" ({ cls := "MoverRoomModel", name := "solve", desc := "(I)I" } : Jvm.MethodName) ({ cls := "MoverRoomModel", name := "solve", desc := "(I)I" } : Jvm.MethodName)) ∈ gw := gw_of 644 (by decide +kernel) (by decide +kernel)
theorem kw_645 : (Jvm.Cond.code ({ cls := "MoverRoomModel", name := "solve", desc := "(I)I" } : Jvm.MethodName) prog_9_method_29_code (5 : Nat) (Option.some Jvm.ClassFile.FieldType.int)) ∈ gw := gw_of 645 (by decide +kernel) (by decide +kernel)
theorem kw_717 : (Jvm.Cond.methodLink "MoverRoomLaw" (48 : Nat) ({ cls := "MoverRoomModel", name := "cost", desc := "(I)I" } : Jvm.MethodName)) ∈ gw := gw_of 717 (by decide +kernel) (by decide +kernel)
theorem kw_718 : (Jvm.Cond.instanceMethod ({ cls := "MoverRoomModel", name := "cost", desc := "(I)I" } : Jvm.MethodName)) ∈ gw := gw_of 718 (by decide +kernel) (by decide +kernel)
theorem kw_719 : (Jvm.Cond.selects "MoverRoomModel" ({ cls := "MoverRoomModel", name := "cost", desc := "(I)I" } : Jvm.MethodName) ({ cls := "MoverRoomModel", name := "cost", desc := "(I)I" } : Jvm.MethodName)) ∈ gw := gw_of 719 (by decide +kernel) (by decide +kernel)
theorem kw_720 : (Jvm.Cond.code ({ cls := "MoverRoomModel", name := "cost", desc := "(I)I" } : Jvm.MethodName) prog_9_method_35_code (2 : Nat) (Option.some Jvm.ClassFile.FieldType.int)) ∈ gw := gw_of 720 (by decide +kernel) (by decide +kernel)
theorem kw_721 : (Jvm.Cond.methodLink "MoverRoomLaw" (52 : Nat) ({ cls := "MoverRoomModel", name := "at", desc := "(II)I" } : Jvm.MethodName)) ∈ gw := gw_of 721 (by decide +kernel) (by decide +kernel)
theorem kw_722 : (Jvm.Cond.instanceMethod ({ cls := "MoverRoomModel", name := "at", desc := "(II)I" } : Jvm.MethodName)) ∈ gw := gw_of 722 (by decide +kernel) (by decide +kernel)
theorem kw_723 : (Jvm.Cond.selects "MoverRoomModel" ({ cls := "MoverRoomModel", name := "at", desc := "(II)I" } : Jvm.MethodName) ({ cls := "MoverRoomModel", name := "at", desc := "(II)I" } : Jvm.MethodName)) ∈ gw := gw_of 723 (by decide +kernel) (by decide +kernel)
theorem kw_724 : (Jvm.Cond.code ({ cls := "MoverRoomModel", name := "at", desc := "(II)I" } : Jvm.MethodName) prog_9_method_36_code (3 : Nat) (Option.some Jvm.ClassFile.FieldType.int)) ∈ gw := gw_of 724 (by decide +kernel) (by decide +kernel)
theorem kw_725 : (Jvm.Cond.methodLink "MoverRoomLaw" (57 : Nat) ({ cls := "MoverRoomModel", name := "lay", desc := "(III)I" } : Jvm.MethodName)) ∈ gw := gw_of 725 (by decide +kernel) (by decide +kernel)
theorem kw_726 : (Jvm.Cond.instanceMethod ({ cls := "MoverRoomModel", name := "lay", desc := "(III)I" } : Jvm.MethodName)) ∈ gw := gw_of 726 (by decide +kernel) (by decide +kernel)
theorem kw_727 : (Jvm.Cond.selects "MoverRoomModel" ({ cls := "MoverRoomModel", name := "lay", desc := "(III)I" } : Jvm.MethodName) ({ cls := "MoverRoomModel", name := "lay", desc := "(III)I" } : Jvm.MethodName)) ∈ gw := gw_of 727 (by decide +kernel) (by decide +kernel)
theorem kw_728 : (Jvm.Cond.code ({ cls := "MoverRoomModel", name := "lay", desc := "(III)I" } : Jvm.MethodName) prog_9_method_37_code (5 : Nat) (Option.some Jvm.ClassFile.FieldType.int)) ∈ gw := gw_of 728 (by decide +kernel) (by decide +kernel)
theorem kw_729 : (Jvm.Cond.methodLink "MoverRoomLaw" (61 : Nat) ({ cls := "MoverRoomModel", name := "judge", desc := "(I)I" } : Jvm.MethodName)) ∈ gw := gw_of 729 (by decide +kernel) (by decide +kernel)
theorem kw_730 : (Jvm.Cond.instanceMethod ({ cls := "MoverRoomModel", name := "judge", desc := "(I)I" } : Jvm.MethodName)) ∈ gw := gw_of 730 (by decide +kernel) (by decide +kernel)
theorem kw_731 : (Jvm.Cond.selects "MoverRoomModel" ({ cls := "MoverRoomModel", name := "judge", desc := "(I)I" } : Jvm.MethodName) ({ cls := "MoverRoomModel", name := "judge", desc := "(I)I" } : Jvm.MethodName)) ∈ gw := gw_of 731 (by decide +kernel) (by decide +kernel)
theorem kw_732 : (Jvm.Cond.code ({ cls := "MoverRoomModel", name := "judge", desc := "(I)I" } : Jvm.MethodName) prog_9_method_42_code (2 : Nat) (Option.some Jvm.ClassFile.FieldType.int)) ∈ gw := gw_of 732 (by decide +kernel) (by decide +kernel)
theorem gc_lw_7 : (Cond.classLink R_lw 7 R_mr) ∈ gw := kw_11
theorem gl_lw_9 : (Cond.methodLink R_lw 9 y_mr_init) ∈ gw := kw_13
theorem gm_lw_9 : (Cond.instanceMethod y_mr_init) ∈ gw := kw_14
theorem gi_lw_9 : (Cond.initialized y_mr_init.cls) ∈ gw := kw_1
theorem gg_lw_9 : GoodIn gw w_mr_init := gd_c kw_15
theorem gc_lw_10 : (Cond.classLink R_lw 10 R_md) ∈ gw := kw_482
theorem gl_lw_12 : (Cond.methodLink R_lw 12 y_md_init) ∈ gw := kw_484
theorem gm_lw_12 : (Cond.instanceMethod y_md_init) ∈ gw := kw_485
theorem gi_lw_12 : (Cond.initialized y_md_init.cls) ∈ gw := kw_8
theorem gg_lw_12 : GoodIn gw w_md_init := gd_c kw_486
theorem gv_lw_13 : GoodIn gw (wsV R_lw 13 R_mr y_mr_room w_mr_room) := gd_V kw_240 kw_241 kw_242 kw_1 kw_243
theorem gv_lw_17 : GoodIn gw (wsV R_lw 17 R_md y_md_room w_md_room) := gd_V kw_589 kw_590 kw_591 kw_8 kw_592
theorem gv_lw_18 : GoodIn gw (wsV R_lw 18 R_mr y_mr_wall w_mr_wall) := gd_V kw_260 kw_261 kw_262 kw_1 kw_263
theorem gv_lw_22 : GoodIn gw (wsV R_lw 22 R_md y_md_wall w_md_wall) := gd_V kw_597 kw_598 kw_599 kw_8 kw_600
theorem gv_lw_23 : GoodIn gw (wsV R_lw 23 R_mr y_mr_mover w_mr_mover) := gd_V kw_270 kw_271 kw_272 kw_1 kw_273
theorem gv_lw_26 : GoodIn gw (wsV R_lw 26 R_md y_md_mover w_md_mover) := gd_V kw_605 kw_606 kw_607 kw_8 kw_608
theorem gv_lw_27 : GoodIn gw (wsV R_lw 27 R_mr y_mr_clear w_mr_clear) := gd_V kw_287 kw_288 kw_289 kw_1 kw_290
theorem gv_lw_31 : GoodIn gw (wsV R_lw 31 R_md y_md_clear w_md_clear) := gd_V kw_617 kw_618 kw_619 kw_8 kw_620
theorem gv_lw_32 : GoodIn gw (wsV R_lw 32 R_mr y_mr_distance w_mr_distance) := gd_V kw_291 kw_292 kw_293 kw_1 kw_294
theorem gv_lw_35 : GoodIn gw (wsV R_lw 35 R_md y_md_distance w_md_distance) := gd_V kw_621 kw_622 kw_623 kw_8 kw_624
theorem gv_lw_36 : GoodIn gw (wsV R_lw 36 R_mr y_mr_ways w_mr_ways) := gd_V kw_303 kw_304 kw_305 kw_1 kw_306
theorem gv_lw_40 : GoodIn gw (wsV R_lw 40 R_md y_md_ways w_md_ways) := gd_V kw_637 kw_638 kw_639 kw_8 kw_640
theorem gv_lw_41 : GoodIn gw (wsV R_lw 41 R_mr y_mr_solve w_mr_solve) := gd_V kw_324 kw_325 kw_326 kw_1 kw_327
theorem gv_lw_44 : GoodIn gw (wsV R_lw 44 R_md y_md_solve w_md_solve) := gd_V kw_642 kw_643 kw_644 kw_8 kw_645
theorem gv_lw_45 : GoodIn gw (wsV R_lw 45 R_mr y_mr_cost w_mr_cost) := gd_V kw_406 kw_407 kw_408 kw_1 kw_409
theorem gv_lw_48 : GoodIn gw (wsV R_lw 48 R_md y_md_cost w_md_cost) := gd_V kw_717 kw_718 kw_719 kw_8 kw_720
theorem gv_lw_49 : GoodIn gw (wsV R_lw 49 R_mr y_mr_at w_mr_at) := gd_V kw_414 kw_415 kw_416 kw_1 kw_417
theorem gv_lw_52 : GoodIn gw (wsV R_lw 52 R_md y_md_at w_md_at) := gd_V kw_721 kw_722 kw_723 kw_8 kw_724
theorem gv_lw_53 : GoodIn gw (wsV R_lw 53 R_mr y_mr_lay w_mr_lay) := gd_V kw_425 kw_426 kw_427 kw_1 kw_428
theorem gv_lw_57 : GoodIn gw (wsV R_lw 57 R_md y_md_lay w_md_lay) := gd_V kw_725 kw_726 kw_727 kw_8 kw_728
theorem gv_lw_58 : GoodIn gw (wsV R_lw 58 R_mr y_mr_judge w_mr_judge) := gd_V kw_437 kw_438 kw_439 kw_1 kw_440
theorem gv_lw_61 : GoodIn gw (wsV R_lw 61 R_md y_md_judge w_md_judge) := gd_V kw_729 kw_730 kw_731 kw_8 kw_732
