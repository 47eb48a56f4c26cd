/-- what the tables say of a method -/
def okM (e : mTy) : Prop := Cond.code e.1 e.2.1 e.2.2.1 e.2.2.2.1 ∈ lw_tbl ∧ Cond.initialized e.1.cls ∈ lw_tbl ∧ (plainName e.1.cls = true ∧ e.1.cls ≠ "java/lang/invoke/MethodHandle" ∧ e.1.cls ≠ "java/lang/invoke/VarHandle") ∧ RK e.2.2.2.2.1 = e.1.cls ∧ (e.2.2.2.2.2.2.2 = 0 → Cond.instanceMethod e.1 ∈ lw_tbl ∧ Cond.selects e.1.cls e.1 e.1 ∈ lw_tbl ∧ e.2.2.2.2.1 < 9) ∧ (e.2.2.2.2.2.2.2 = 1 → Cond.static e.1 ∈ lw_tbl) ∧ (e.2.2.2.2.2.2.2 = 2 → Cond.instanceMethod e.1 ∈ lw_tbl ∧ e.1.name = "<init>")
set_option maxRecDepth 20000 in
theorem okM_0 : okM (yX0_init, cX0_init, 1, none, 0, 1, 20, 2) := ⟨List.mem_of_getElem? (i := 209) rfl, List.mem_of_getElem? (i := 56) (by decide +kernel), ⟨by decide +kernel, by decide +kernel, by decide +kernel⟩, rfl, fun h => absurd h (by decide), fun h => absurd h (by decide), fun _ => ⟨List.mem_of_getElem? (i := 208) (by decide +kernel), by decide +kernel⟩⟩
set_option maxRecDepth 20000 in
theorem okM_1 : okM (yX0_clear, cX0_clear, 1, none, 0, 0, 0, 0) := ⟨List.mem_of_getElem? (i := 305) rfl, List.mem_of_getElem? (i := 56) (by decide +kernel), ⟨by decide +kernel, by decide +kernel, by decide +kernel⟩, rfl, fun _ => ⟨List.mem_of_getElem? (i := 303) (by decide +kernel), List.mem_of_getElem? (i := 304) (by decide +kernel), by decide⟩, fun h => absurd h (by decide), fun h => absurd h (by decide)⟩
set_option maxRecDepth 20000 in
theorem okM_2 : okM (yX0_copy, cX0_copy, 2, none, 0, 1, 40, 0) := ⟨List.mem_of_getElem? (i := 757) rfl, List.mem_of_getElem? (i := 56) (by decide +kernel), ⟨by decide +kernel, by decide +kernel, by decide +kernel⟩, rfl, fun _ => ⟨List.mem_of_getElem? (i := 755) (by decide +kernel), List.mem_of_getElem? (i := 756) (by decide +kernel), by decide⟩, fun h => absurd h (by decide), fun h => absurd h (by decide)⟩
set_option maxRecDepth 20000 in
theorem okM_3 : okM (yX0_setBeds, cX0_setBeds, 2, (some .boolean), 0, 0, 0, 0) := ⟨List.mem_of_getElem? (i := 337) rfl, List.mem_of_getElem? (i := 56) (by decide +kernel), ⟨by decide +kernel, by decide +kernel, by decide +kernel⟩, rfl, fun _ => ⟨List.mem_of_getElem? (i := 335) (by decide +kernel), List.mem_of_getElem? (i := 336) (by decide +kernel), by decide⟩, fun h => absurd h (by decide), fun h => absurd h (by decide)⟩
set_option maxRecDepth 20000 in
theorem okM_4 : okM (yX0_addGuest, cX0_addGuest, 2, (some .boolean), 0, 1, 22, 0) := ⟨List.mem_of_getElem? (i := 325) rfl, List.mem_of_getElem? (i := 56) (by decide +kernel), ⟨by decide +kernel, by decide +kernel, by decide +kernel⟩, rfl, fun _ => ⟨List.mem_of_getElem? (i := 323) (by decide +kernel), List.mem_of_getElem? (i := 324) (by decide +kernel), by decide⟩, fun h => absurd h (by decide), fun h => absurd h (by decide)⟩
set_option maxRecDepth 20000 in
theorem okM_5 : okM (yX0_isTaken, cX0_isTaken, 3, (some .boolean), 0, 0, 0, 0) := ⟨List.mem_of_getElem? (i := 333) rfl, List.mem_of_getElem? (i := 56) (by decide +kernel), ⟨by decide +kernel, by decide +kernel, by decide +kernel⟩, rfl, fun _ => ⟨List.mem_of_getElem? (i := 332) (by decide +kernel), List.mem_of_getElem? (i := 4) (by decide +kernel), by decide⟩, fun h => absurd h (by decide), fun h => absurd h (by decide)⟩
set_option maxRecDepth 20000 in
theorem okM_6 : okM (yX0_stuffWall, cX0_stuffWall, 2, (some .boolean), 0, 1, 21, 0) := ⟨List.mem_of_getElem? (i := 341) rfl, List.mem_of_getElem? (i := 56) (by decide +kernel), ⟨by decide +kernel, by decide +kernel, by decide +kernel⟩, rfl, fun _ => ⟨List.mem_of_getElem? (i := 339) (by decide +kernel), List.mem_of_getElem? (i := 340) (by decide +kernel), by decide⟩, fun h => absurd h (by decide), fun h => absurd h (by decide)⟩
set_option maxRecDepth 20000 in
theorem okM_7 : okM (yX0_setPorters, cX0_setPorters, 2, (some .boolean), 0, 0, 0, 0) := ⟨List.mem_of_getElem? (i := 349) rfl, List.mem_of_getElem? (i := 56) (by decide +kernel), ⟨by decide +kernel, by decide +kernel, by decide +kernel⟩, rfl, fun _ => ⟨List.mem_of_getElem? (i := 347) (by decide +kernel), List.mem_of_getElem? (i := 348) (by decide +kernel), by decide⟩, fun h => absurd h (by decide), fun h => absurd h (by decide)⟩
set_option maxRecDepth 20000 in
theorem okM_8 : okM (yX0_setNote, cX0_setNote, 2, (some .boolean), 0, 0, 0, 0) := ⟨List.mem_of_getElem? (i := 353) rfl, List.mem_of_getElem? (i := 56) (by decide +kernel), ⟨by decide +kernel, by decide +kernel, by decide +kernel⟩, rfl, fun _ => ⟨List.mem_of_getElem? (i := 351) (by decide +kernel), List.mem_of_getElem? (i := 352) (by decide +kernel), by decide⟩, fun h => absurd h (by decide), fun h => absurd h (by decide)⟩
set_option maxRecDepth 20000 in
theorem okM_9 : okM (yX0_supposeFeigning, cX0_supposeFeigning, 3, none, 0, 0, 0, 0) := ⟨List.mem_of_getElem? (i := 762) rfl, List.mem_of_getElem? (i := 56) (by decide +kernel), ⟨by decide +kernel, by decide +kernel, by decide +kernel⟩, rfl, fun _ => ⟨List.mem_of_getElem? (i := 760) (by decide +kernel), List.mem_of_getElem? (i := 761) (by decide +kernel), by decide⟩, fun h => absurd h (by decide), fun h => absurd h (by decide)⟩
set_option maxRecDepth 20000 in
theorem okM_10 : okM (yX0_guests, cX0_guests, 1, (some .int), 0, 0, 0, 0) := ⟨List.mem_of_getElem? (i := 381) rfl, List.mem_of_getElem? (i := 56) (by decide +kernel), ⟨by decide +kernel, by decide +kernel, by decide +kernel⟩, rfl, fun _ => ⟨List.mem_of_getElem? (i := 379) (by decide +kernel), List.mem_of_getElem? (i := 380) (by decide +kernel), by decide⟩, fun h => absurd h (by decide), fun h => absurd h (by decide)⟩
set_option maxRecDepth 20000 in
theorem okM_11 : okM (yX0_beds, cX0_beds, 1, (some .int), 0, 0, 0, 0) := ⟨List.mem_of_getElem? (i := 377) rfl, List.mem_of_getElem? (i := 56) (by decide +kernel), ⟨by decide +kernel, by decide +kernel, by decide +kernel⟩, rfl, fun _ => ⟨List.mem_of_getElem? (i := 375) (by decide +kernel), List.mem_of_getElem? (i := 376) (by decide +kernel), by decide⟩, fun h => absurd h (by decide), fun h => absurd h (by decide)⟩
set_option maxRecDepth 20000 in
theorem okM_12 : okM (yX0_walls, cX0_walls, 1, (some .int), 0, 0, 0, 0) := ⟨List.mem_of_getElem? (i := 373) rfl, List.mem_of_getElem? (i := 56) (by decide +kernel), ⟨by decide +kernel, by decide +kernel, by decide +kernel⟩, rfl, fun _ => ⟨List.mem_of_getElem? (i := 371) (by decide +kernel), List.mem_of_getElem? (i := 372) (by decide +kernel), by decide⟩, fun h => absurd h (by decide), fun h => absurd h (by decide)⟩
set_option maxRecDepth 20000 in
theorem okM_13 : okM (yX0_hasGuest, cX0_hasGuest, 2, (some .boolean), 0, 0, 0, 0) := ⟨List.mem_of_getElem? (i := 369) rfl, List.mem_of_getElem? (i := 56) (by decide +kernel), ⟨by decide +kernel, by decide +kernel, by decide +kernel⟩, rfl, fun _ => ⟨List.mem_of_getElem? (i := 367) (by decide +kernel), List.mem_of_getElem? (i := 368) (by decide +kernel), by decide⟩, fun h => absurd h (by decide), fun h => absurd h (by decide)⟩
set_option maxRecDepth 20000 in
theorem okM_14 : okM (yX0_hasBed, cX0_hasBed, 2, (some .boolean), 0, 0, 0, 0) := ⟨List.mem_of_getElem? (i := 329) rfl, List.mem_of_getElem? (i := 56) (by decide +kernel), ⟨by decide +kernel, by decide +kernel, by decide +kernel⟩, rfl, fun _ => ⟨List.mem_of_getElem? (i := 327) (by decide +kernel), List.mem_of_getElem? (i := 328) (by decide +kernel), by decide⟩, fun h => absurd h (by decide), fun h => absurd h (by decide)⟩
set_option maxRecDepth 20000 in
theorem okM_15 : okM (yX0_hasWall, cX0_hasWall, 2, (some .boolean), 0, 0, 0, 0) := ⟨List.mem_of_getElem? (i := 345) rfl, List.mem_of_getElem? (i := 56) (by decide +kernel), ⟨by decide +kernel, by decide +kernel, by decide +kernel⟩, rfl, fun _ => ⟨List.mem_of_getElem? (i := 343) (by decide +kernel), List.mem_of_getElem? (i := 344) (by decide +kernel), by decide⟩, fun h => absurd h (by decide), fun h => absurd h (by decide)⟩
set_option maxRecDepth 20000 in
theorem okM_16 : okM (yX0_kindOf, cX0_kindOf, 2, (some .int), 0, 1, 21, 0) := ⟨List.mem_of_getElem? (i := 464) rfl, List.mem_of_getElem? (i := 56) (by decide +kernel), ⟨by decide +kernel, by decide +kernel, by decide +kernel⟩, rfl, fun _ => ⟨List.mem_of_getElem? (i := 462) (by decide +kernel), List.mem_of_getElem? (i := 463) (by decide +kernel), by decide⟩, fun h => absurd h (by decide), fun h => absurd h (by decide)⟩
set_option maxRecDepth 20000 in
theorem okM_17 : okM (yX0_strengthOf, cX0_strengthOf, 2, (some .int), 0, 1, 21, 0) := ⟨List.mem_of_getElem? (i := 468) rfl, List.mem_of_getElem? (i := 56) (by decide +kernel), ⟨by decide +kernel, by decide +kernel, by decide +kernel⟩, rfl, fun _ => ⟨List.mem_of_getElem? (i := 466) (by decide +kernel), List.mem_of_getElem? (i := 467) (by decide +kernel), by decide⟩, fun h => absurd h (by decide), fun h => absurd h (by decide)⟩
set_option maxRecDepth 20000 in
theorem okM_18 : okM (yX0_noteOf, cX0_noteOf, 2, (some .int), 0, 1, 21, 0) := ⟨List.mem_of_getElem? (i := 472) rfl, List.mem_of_getElem? (i := 56) (by decide +kernel), ⟨by decide +kernel, by decide +kernel, by decide +kernel⟩, rfl, fun _ => ⟨List.mem_of_getElem? (i := 470) (by decide +kernel), List.mem_of_getElem? (i := 471) (by decide +kernel), by decide⟩, fun h => absurd h (by decide), fun h => absurd h (by decide)⟩
set_option maxRecDepth 20000 in
theorem okM_19 : okM (yX0_lightnessOf, cX0_lightnessOf, 2, (some .int), 0, 1, 21, 0) := ⟨List.mem_of_getElem? (i := 476) rfl, List.mem_of_getElem? (i := 56) (by decide +kernel), ⟨by decide +kernel, by decide +kernel, by decide +kernel⟩, rfl, fun _ => ⟨List.mem_of_getElem? (i := 474) (by decide +kernel), List.mem_of_getElem? (i := 475) (by decide +kernel), by decide⟩, fun h => absurd h (by decide), fun h => absurd h (by decide)⟩
set_option maxRecDepth 20000 in
theorem okM_20 : okM (yX0_firstPlaceOf, cX0_firstPlaceOf, 2, (some .int), 0, 1, 21, 0) := ⟨List.mem_of_getElem? (i := 365) rfl, List.mem_of_getElem? (i := 56) (by decide +kernel), ⟨by decide +kernel, by decide +kernel, by decide +kernel⟩, rfl, fun _ => ⟨List.mem_of_getElem? (i := 363) (by decide +kernel), List.mem_of_getElem? (i := 364) (by decide +kernel), by decide⟩, fun h => absurd h (by decide), fun h => absurd h (by decide)⟩
set_option maxRecDepth 20000 in
theorem okM_21 : okM (yX0_loudness, cX0_loudness, 4, (some .int), 0, 1, 21, 0) := ⟨List.mem_of_getElem? (i := 484) rfl, List.mem_of_getElem? (i := 56) (by decide +kernel), ⟨by decide +kernel, by decide +kernel, by decide +kernel⟩, rfl, fun _ => ⟨List.mem_of_getElem? (i := 482) (by decide +kernel), List.mem_of_getElem? (i := 483) (by decide +kernel), by decide⟩, fun h => absurd h (by decide), fun h => absurd h (by decide)⟩
set_option maxRecDepth 20000 in
theorem okM_22 : okM (yX0_areHumming, cX0_areHumming, 3, (some .boolean), 0, 1, 21, 0) := ⟨List.mem_of_getElem? (i := 508) rfl, List.mem_of_getElem? (i := 56) (by decide +kernel), ⟨by decide +kernel, by decide +kernel, by decide +kernel⟩, rfl, fun _ => ⟨List.mem_of_getElem? (i := 507) (by decide +kernel), List.mem_of_getElem? (i := 6) (by decide +kernel), by decide⟩, fun h => absurd h (by decide), fun h => absurd h (by decide)⟩
set_option maxRecDepth 20000 in
theorem okM_23 : okM (yX0_soundOf, cX0_soundOf, 6, (some .int), 0, 2, 44, 0) := ⟨List.mem_of_getElem? (i := 498) rfl, List.mem_of_getElem? (i := 56) (by decide +kernel), ⟨by decide +kernel, by decide +kernel, by decide +kernel⟩, rfl, fun _ => ⟨List.mem_of_getElem? (i := 496) (by decide +kernel), List.mem_of_getElem? (i := 497) (by decide +kernel), by decide⟩, fun h => absurd h (by decide), fun h => absurd h (by decide)⟩
set_option maxRecDepth 20000 in
theorem okM_24 : okM (yX0_hearing, cX0_hearing, 6, (some .int), 0, 3, 69, 0) := ⟨List.mem_of_getElem? (i := 489) rfl, List.mem_of_getElem? (i := 56) (by decide +kernel), ⟨by decide +kernel, by decide +kernel, by decide +kernel⟩, rfl, fun _ => ⟨List.mem_of_getElem? (i := 487) (by decide +kernel), List.mem_of_getElem? (i := 488) (by decide +kernel), by decide⟩, fun h => absurd h (by decide), fun h => absurd h (by decide)⟩
set_option maxRecDepth 20000 in
theorem okM_25 : okM (yX0_isWoken, cX0_isWoken, 4, (some .boolean), 0, 4, 94, 0) := ⟨List.mem_of_getElem? (i := 515) rfl, List.mem_of_getElem? (i := 56) (by decide +kernel), ⟨by decide +kernel, by decide +kernel, by decide +kernel⟩, rfl, fun _ => ⟨List.mem_of_getElem? (i := 513) (by decide +kernel), List.mem_of_getElem? (i := 514) (by decide +kernel), by decide⟩, fun h => absurd h (by decide), fun h => absurd h (by decide)⟩
set_option maxRecDepth 20000 in
theorem okM_26 : okM (yX0_wakers, cX0_wakers, 5, (some .int), 0, 4, 94, 0) := ⟨List.mem_of_getElem? (i := 707) rfl, List.mem_of_getElem? (i := 56) (by decide +kernel), ⟨by decide +kernel, by decide +kernel, by decide +kernel⟩, rfl, fun _ => ⟨List.mem_of_getElem? (i := 705) (by decide +kernel), List.mem_of_getElem? (i := 706) (by decide +kernel), by decide⟩, fun h => absurd h (by decide), fun h => absurd h (by decide)⟩
set_option maxRecDepth 20000 in
theorem okM_27 : okM (yX0_wakingsOfNight, cX0_wakingsOfNight, 4, (some .int), 0, 5, 118, 0) := ⟨List.mem_of_getElem? (i := 719) rfl, List.mem_of_getElem? (i := 56) (by decide +kernel), ⟨by decide +kernel, by decide +kernel, by decide +kernel⟩, rfl, fun _ => ⟨List.mem_of_getElem? (i := 717) (by decide +kernel), List.mem_of_getElem? (i := 718) (by decide +kernel), by decide⟩, fun h => absurd h (by decide), fun h => absurd h (by decide)⟩
set_option maxRecDepth 20000 in
theorem okM_28 : okM (yX0_nextHummers, cX0_nextHummers, 5, (some .int), 0, 2, 44, 0) := ⟨List.mem_of_getElem? (i := 775) rfl, List.mem_of_getElem? (i := 56) (by decide +kernel), ⟨by decide +kernel, by decide +kernel, by decide +kernel⟩, rfl, fun _ => ⟨List.mem_of_getElem? (i := 773) (by decide +kernel), List.mem_of_getElem? (i := 774) (by decide +kernel), by decide⟩, fun h => absurd h (by decide), fun h => absurd h (by decide)⟩
set_option maxRecDepth 20000 in
theorem okM_29 : okM (yX0_isRousedByPorters, cX0_isRousedByPorters, 2, (some .boolean), 0, 2, 42, 0) := ⟨List.mem_of_getElem? (i := 570) rfl, List.mem_of_getElem? (i := 56) (by decide +kernel), ⟨by decide +kernel, by decide +kernel, by decide +kernel⟩, rfl, fun _ => ⟨List.mem_of_getElem? (i := 568) (by decide +kernel), List.mem_of_getElem? (i := 569) (by decide +kernel), by decide⟩, fun h => absurd h (by decide), fun h => absurd h (by decide)⟩
set_option maxRecDepth 20000 in
theorem okM_30 : okM (yX0_roused, cX0_roused, 9, (some .int), 0, 3, 63, 0) := ⟨List.mem_of_getElem? (i := 565) rfl, List.mem_of_getElem? (i := 56) (by decide +kernel), ⟨by decide +kernel, by decide +kernel, by decide +kernel⟩, rfl, fun _ => ⟨List.mem_of_getElem? (i := 563) (by decide +kernel), List.mem_of_getElem? (i := 564) (by decide +kernel), by decide⟩, fun h => absurd h (by decide), fun h => absurd h (by decide)⟩
set_option maxRecDepth 20000 in
theorem okM_31 : okM (yX0_isEven, cX0_isEven, 6, (some .boolean), 0, 2, 44, 0) := ⟨List.mem_of_getElem? (i := 729) rfl, List.mem_of_getElem? (i := 56) (by decide +kernel), ⟨by decide +kernel, by decide +kernel, by decide +kernel⟩, rfl, fun _ => ⟨List.mem_of_getElem? (i := 727) (by decide +kernel), List.mem_of_getElem? (i := 728) (by decide +kernel), by decide⟩, fun h => absurd h (by decide), fun h => absurd h (by decide)⟩
set_option maxRecDepth 20000 in
theorem okM_32 : okM (yX0_lawfulBed, cX0_lawfulBed, 7, (some .int), 0, 2, 44, 0) := ⟨List.mem_of_getElem? (i := 626) rfl, List.mem_of_getElem? (i := 56) (by decide +kernel), ⟨by decide +kernel, by decide +kernel, by decide +kernel⟩, rfl, fun _ => ⟨List.mem_of_getElem? (i := 624) (by decide +kernel), List.mem_of_getElem? (i := 625) (by decide +kernel), by decide⟩, fun h => absurd h (by decide), fun h => absurd h (by decide)⟩
set_option maxRecDepth 20000 in
theorem okM_33 : okM (yX1_init, cX1_init, 1, none, 1, 1, 20, 2) := ⟨List.mem_of_getElem? (i := 139) rfl, List.mem_of_getElem? (i := 53) (by decide +kernel), ⟨by decide +kernel, by decide +kernel, by decide +kernel⟩, rfl, fun h => absurd h (by decide), fun h => absurd h (by decide), fun _ => ⟨List.mem_of_getElem? (i := 138) (by decide +kernel), by decide +kernel⟩⟩
set_option maxRecDepth 20000 in
theorem okM_34 : okM (yX1_begin, cX1_begin, 3, none, 1, 2, 42, 0) := ⟨List.mem_of_getElem? (i := 361) rfl, List.mem_of_getElem? (i := 53) (by decide +kernel), ⟨by decide +kernel, by decide +kernel, by decide +kernel⟩, rfl, fun _ => ⟨List.mem_of_getElem? (i := 359) (by decide +kernel), List.mem_of_getElem? (i := 360) (by decide +kernel), by decide⟩, fun h => absurd h (by decide), fun h => absurd h (by decide)⟩
set_option maxRecDepth 20000 in
theorem okM_35 : okM (yX1_copy, cX1_copy, 2, none, 1, 1, 40, 0) := ⟨List.mem_of_getElem? (i := 683) rfl, List.mem_of_getElem? (i := 53) (by decide +kernel), ⟨by decide +kernel, by decide +kernel, by decide +kernel⟩, rfl, fun _ => ⟨List.mem_of_getElem? (i := 681) (by decide +kernel), List.mem_of_getElem? (i := 682) (by decide +kernel), by decide⟩, fun h => absurd h (by decide), fun h => absurd h (by decide)⟩
set_option maxRecDepth 20000 in
theorem okM_36 : okM (yX1_save, cX1_save, 3, none, 1, 1, 40, 0) := ⟨List.mem_of_getElem? (i := 556) rfl, List.mem_of_getElem? (i := 53) (by decide +kernel), ⟨by decide +kernel, by decide +kernel, by decide +kernel⟩, rfl, fun _ => ⟨List.mem_of_getElem? (i := 554) (by decide +kernel), List.mem_of_getElem? (i := 555) (by decide +kernel), by decide⟩, fun h => absurd h (by decide), fun h => absurd h (by decide)⟩
set_option maxRecDepth 20000 in
theorem okM_37 : okM (yX1_load, cX1_load, 3, none, 1, 1, 40, 0) := ⟨List.mem_of_getElem? (i := 610) rfl, List.mem_of_getElem? (i := 53) (by decide +kernel), ⟨by decide +kernel, by decide +kernel, by decide +kernel⟩, rfl, fun _ => ⟨List.mem_of_getElem? (i := 608) (by decide +kernel), List.mem_of_getElem? (i := 609) (by decide +kernel), by decide⟩, fun h => absurd h (by decide), fun h => absurd h (by decide)⟩
set_option maxRecDepth 20000 in
theorem okM_38 : okM (yX1_placeOf, cX1_placeOf, 2, (some .int), 1, 0, 0, 0) := ⟨List.mem_of_getElem? (i := 480) rfl, List.mem_of_getElem? (i := 53) (by decide +kernel), ⟨by decide +kernel, by decide +kernel, by decide +kernel⟩, rfl, fun _ => ⟨List.mem_of_getElem? (i := 478) (by decide +kernel), List.mem_of_getElem? (i := 479) (by decide +kernel), by decide⟩, fun h => absurd h (by decide), fun h => absurd h (by decide)⟩
set_option maxRecDepth 20000 in
theorem okM_39 : okM (yX1_areNext, cX1_areNext, 4, (some .boolean), 1, 1, 21, 0) := ⟨List.mem_of_getElem? (i := 493) rfl, List.mem_of_getElem? (i := 53) (by decide +kernel), ⟨by decide +kernel, by decide +kernel, by decide +kernel⟩, rfl, fun _ => ⟨List.mem_of_getElem? (i := 491) (by decide +kernel), List.mem_of_getElem? (i := 492) (by decide +kernel), by decide⟩, fun h => absurd h (by decide), fun h => absurd h (by decide)⟩
set_option maxRecDepth 20000 in
theorem okM_40 : okM (yX1_guestIn, cX1_guestIn, 4, (some .int), 1, 1, 21, 0) := ⟨List.mem_of_getElem? (i := 526) rfl, List.mem_of_getElem? (i := 53) (by decide +kernel), ⟨by decide +kernel, by decide +kernel, by decide +kernel⟩, rfl, fun _ => ⟨List.mem_of_getElem? (i := 524) (by decide +kernel), List.mem_of_getElem? (i := 525) (by decide +kernel), by decide⟩, fun h => absurd h (by decide), fun h => absurd h (by decide)⟩
set_option maxRecDepth 20000 in
theorem okM_41 : okM (yX1_isEmpty, cX1_isEmpty, 3, (some .boolean), 1, 2, 44, 0) := ⟨List.mem_of_getElem? (i := 540) rfl, List.mem_of_getElem? (i := 53) (by decide +kernel), ⟨by decide +kernel, by decide +kernel, by decide +kernel⟩, rfl, fun _ => ⟨List.mem_of_getElem? (i := 538) (by decide +kernel), List.mem_of_getElem? (i := 539) (by decide +kernel), by decide⟩, fun h => absurd h (by decide), fun h => absurd h (by decide)⟩
set_option maxRecDepth 20000 in
theorem okM_42 : okM (yX1_isStuffed, cX1_isStuffed, 2, (some .boolean), 1, 0, 0, 0) := ⟨List.mem_of_getElem? (i := 504) rfl, List.mem_of_getElem? (i := 53) (by decide +kernel), ⟨by decide +kernel, by decide +kernel, by decide +kernel⟩, rfl, fun _ => ⟨List.mem_of_getElem? (i := 502) (by decide +kernel), List.mem_of_getElem? (i := 503) (by decide +kernel), by decide⟩, fun h => absurd h (by decide), fun h => absurd h (by decide)⟩
set_option maxRecDepth 20000 in
theorem okM_43 : okM (yX1_turnWall, cX1_turnWall, 2, none, 1, 0, 0, 0) := ⟨List.mem_of_getElem? (i := 589) rfl, List.mem_of_getElem? (i := 53) (by decide +kernel), ⟨by decide +kernel, by decide +kernel, by decide +kernel⟩, rfl, fun _ => ⟨List.mem_of_getElem? (i := 587) (by decide +kernel), List.mem_of_getElem? (i := 588) (by decide +kernel), by decide⟩, fun h => absurd h (by decide), fun h => absurd h (by decide)⟩
set_option maxRecDepth 20000 in
theorem okM_44 : okM (yX1_passHour, cX1_passHour, 1, none, 1, 1, 21, 0) := ⟨List.mem_of_getElem? (i := 597) rfl, List.mem_of_getElem? (i := 53) (by decide +kernel), ⟨by decide +kernel, by decide +kernel, by decide +kernel⟩, rfl, fun _ => ⟨List.mem_of_getElem? (i := 595) (by decide +kernel), List.mem_of_getElem? (i := 596) (by decide +kernel), by decide⟩, fun h => absurd h (by decide), fun h => absurd h (by decide)⟩
set_option maxRecDepth 20000 in
theorem okM_45 : okM (yX1_move, cX1_move, 4, none, 1, 1, 21, 0) := ⟨List.mem_of_getElem? (i := 580) rfl, List.mem_of_getElem? (i := 53) (by decide +kernel), ⟨by decide +kernel, by decide +kernel, by decide +kernel⟩, rfl, fun _ => ⟨List.mem_of_getElem? (i := 578) (by decide +kernel), List.mem_of_getElem? (i := 579) (by decide +kernel), by decide⟩, fun h => absurd h (by decide), fun h => absurd h (by decide)⟩
set_option maxRecDepth 20000 in
theorem okM_46 : okM (yX2_init, cX2_init, 1, none, 2, 1, 20, 2) := ⟨List.mem_of_getElem? (i := 97) rfl, List.mem_of_getElem? (i := 50) (by decide +kernel), ⟨by decide +kernel, by decide +kernel, by decide +kernel⟩, rfl, fun h => absurd h (by decide), fun h => absurd h (by decide), fun _ => ⟨List.mem_of_getElem? (i := 96) (by decide +kernel), by decide +kernel⟩⟩
set_option maxRecDepth 20000 in
theorem okM_47 : okM (yX2_size, cX2_size, 1, (some .int), 2, 0, 0, 0) := ⟨List.mem_of_getElem? (i := 745) rfl, List.mem_of_getElem? (i := 50) (by decide +kernel), ⟨by decide +kernel, by decide +kernel, by decide +kernel⟩, rfl, fun _ => ⟨List.mem_of_getElem? (i := 743) (by decide +kernel), List.mem_of_getElem? (i := 744) (by decide +kernel), by decide⟩, fun h => absurd h (by decide), fun h => absurd h (by decide)⟩
set_option maxRecDepth 20000 in
theorem okM_48 : okM (yX2_clear, cX2_clear, 1, none, 2, 0, 0, 0) := ⟨List.mem_of_getElem? (i := 396) rfl, List.mem_of_getElem? (i := 50) (by decide +kernel), ⟨by decide +kernel, by decide +kernel, by decide +kernel⟩, rfl, fun _ => ⟨List.mem_of_getElem? (i := 394) (by decide +kernel), List.mem_of_getElem? (i := 395) (by decide +kernel), by decide⟩, fun h => absurd h (by decide), fun h => absurd h (by decide)⟩
set_option maxRecDepth 20000 in
theorem okM_49 : okM (yX2_add, cX2_add, 4, (some .boolean), 2, 0, 0, 0) := ⟨List.mem_of_getElem? (i := 741) rfl, List.mem_of_getElem? (i := 50) (by decide +kernel), ⟨by decide +kernel, by decide +kernel, by decide +kernel⟩, rfl, fun _ => ⟨List.mem_of_getElem? (i := 739) (by decide +kernel), List.mem_of_getElem? (i := 740) (by decide +kernel), by decide⟩, fun h => absurd h (by decide), fun h => absurd h (by decide)⟩
set_option maxRecDepth 20000 in
theorem okM_50 : okM (yX2_allHold, cX2_allHold, 4, (some .boolean), 2, 5, 117, 0) := ⟨List.mem_of_getElem? (i := 766) rfl, List.mem_of_getElem? (i := 50) (by decide +kernel), ⟨by decide +kernel, by decide +kernel, by decide +kernel⟩, rfl, fun _ => ⟨List.mem_of_getElem? (i := 764) (by decide +kernel), List.mem_of_getElem? (i := 765) (by decide +kernel), by decide⟩, fun h => absurd h (by decide), fun h => absurd h (by decide)⟩
set_option maxRecDepth 20000 in
theorem okM_51 : okM (yX3_init, cX3_init, 1, none, 3, 2, 40, 2) := ⟨List.mem_of_getElem? (i := 133) rfl, List.mem_of_getElem? (i := 52) (by decide +kernel), ⟨by decide +kernel, by decide +kernel, by decide +kernel⟩, rfl, fun h => absurd h (by decide), fun h => absurd h (by decide), fun _ => ⟨List.mem_of_getElem? (i := 132) (by decide +kernel), by decide +kernel⟩⟩
set_option maxRecDepth 20000 in
theorem okM_52 : okM (yX3_measure, cX3_measure, 6, none, 3, 5, 110, 0) := ⟨List.mem_of_getElem? (i := 634) rfl, List.mem_of_getElem? (i := 52) (by decide +kernel), ⟨by decide +kernel, by decide +kernel, by decide +kernel⟩, rfl, fun _ => ⟨List.mem_of_getElem? (i := 632) (by decide +kernel), List.mem_of_getElem? (i := 633) (by decide +kernel), by decide⟩, fun h => absurd h (by decide), fun h => absurd h (by decide)⟩
set_option maxRecDepth 20000 in
theorem okM_53 : okM (yX3_distanceOf, cX3_distanceOf, 4, (some .int), 3, 1, 25, 0) := ⟨List.mem_of_getElem? (i := 674) rfl, List.mem_of_getElem? (i := 52) (by decide +kernel), ⟨by decide +kernel, by decide +kernel, by decide +kernel⟩, rfl, fun _ => ⟨List.mem_of_getElem? (i := 672) (by decide +kernel), List.mem_of_getElem? (i := 673) (by decide +kernel), by decide⟩, fun h => absurd h (by decide), fun h => absurd h (by decide)⟩
set_option maxRecDepth 20000 in
theorem okM_54 : okM (yX3_firstMove, cX3_firstMove, 8, (some .int), 3, 4, 91, 0) := ⟨List.mem_of_getElem? (i := 678) rfl, List.mem_of_getElem? (i := 52) (by decide +kernel), ⟨by decide +kernel, by decide +kernel, by decide +kernel⟩, rfl, fun _ => ⟨List.mem_of_getElem? (i := 676) (by decide +kernel), List.mem_of_getElem? (i := 677) (by decide +kernel), by decide⟩, fun h => absurd h (by decide), fun h => absurd h (by decide)⟩
set_option maxRecDepth 20000 in
theorem okM_55 : okM (yX3_reach, cX3_reach, 3, none, 3, 0, 0, 0) := ⟨List.mem_of_getElem? (i := 647) rfl, List.mem_of_getElem? (i := 52) (by decide +kernel), ⟨by decide +kernel, by decide +kernel, by decide +kernel⟩, rfl, fun _ => ⟨List.mem_of_getElem? (i := 646) (by decide +kernel), List.mem_of_getElem? (i := 9) (by decide +kernel), by decide⟩, fun h => absurd h (by decide), fun h => absurd h (by decide)⟩
set_option maxRecDepth 20000 in
theorem okM_56 : okM (yX3_goOn, cX3_goOn, 5, none, 3, 4, 86, 0) := ⟨List.mem_of_getElem? (i := 651) rfl, List.mem_of_getElem? (i := 52) (by decide +kernel), ⟨by decide +kernel, by decide +kernel, by decide +kernel⟩, rfl, fun _ => ⟨List.mem_of_getElem? (i := 650) (by decide +kernel), List.mem_of_getElem? (i := 10) (by decide +kernel), by decide⟩, fun h => absurd h (by decide), fun h => absurd h (by decide)⟩
set_option maxRecDepth 20000 in
theorem okM_57 : okM (yX3_noteSleepers, cX3_noteSleepers, 4, none, 3, 3, 63, 0) := ⟨List.mem_of_getElem? (i := 663) rfl, List.mem_of_getElem? (i := 52) (by decide +kernel), ⟨by decide +kernel, by decide +kernel, by decide +kernel⟩, rfl, fun _ => ⟨List.mem_of_getElem? (i := 662) (by decide +kernel), List.mem_of_getElem? (i := 12) (by decide +kernel), by decide⟩, fun h => absurd h (by decide), fun h => absurd h (by decide)⟩
set_option maxRecDepth 20000 in
theorem okM_58 : okM (yX3_goAside, cX3_goAside, 9, none, 3, 1, 25, 0) := ⟨List.mem_of_getElem? (i := 669) rfl, List.mem_of_getElem? (i := 52) (by decide +kernel), ⟨by decide +kernel, by decide +kernel, by decide +kernel⟩, rfl, fun _ => ⟨List.mem_of_getElem? (i := 668) (by decide +kernel), List.mem_of_getElem? (i := 13) (by decide +kernel), by decide⟩, fun h => absurd h (by decide), fun h => absurd h (by decide)⟩
set_option maxRecDepth 20000 in
theorem okM_59 : okM (yX4_init, cX4_init, 2, none, 4, 1, 21, 2) := ⟨List.mem_of_getElem? (i := 188) rfl, List.mem_of_getElem? (i := 54) (by decide +kernel), ⟨by decide +kernel, by decide +kernel, by decide +kernel⟩, rfl, fun h => absurd h (by decide), fun h => absurd h (by decide), fun _ => ⟨List.mem_of_getElem? (i := 187) (by decide +kernel), by decide +kernel⟩⟩
set_option maxRecDepth 20000 in
theorem okM_60 : okM (yX4_size, cX4_size, 1, (some .int), 4, 0, 0, 0) := ⟨List.mem_of_getElem? (i := 614) rfl, List.mem_of_getElem? (i := 54) (by decide +kernel), ⟨by decide +kernel, by decide +kernel, by decide +kernel⟩, rfl, fun _ => ⟨List.mem_of_getElem? (i := 612) (by decide +kernel), List.mem_of_getElem? (i := 613) (by decide +kernel), by decide⟩, fun h => absurd h (by decide), fun h => absurd h (by decide)⟩
set_option maxRecDepth 20000 in
theorem okM_61 : okM (yX4_isFull, cX4_isFull, 1, (some .boolean), 4, 0, 0, 0) := ⟨List.mem_of_getElem? (i := 549) rfl, List.mem_of_getElem? (i := 54) (by decide +kernel), ⟨by decide +kernel, by decide +kernel, by decide +kernel⟩, rfl, fun _ => ⟨List.mem_of_getElem? (i := 547) (by decide +kernel), List.mem_of_getElem? (i := 548) (by decide +kernel), by decide⟩, fun h => absurd h (by decide), fun h => absurd h (by decide)⟩
set_option maxRecDepth 20000 in
theorem okM_62 : okM (yX4_clear, cX4_clear, 1, none, 4, 0, 0, 0) := ⟨List.mem_of_getElem? (i := 392) rfl, List.mem_of_getElem? (i := 54) (by decide +kernel), ⟨by decide +kernel, by decide +kernel, by decide +kernel⟩, rfl, fun _ => ⟨List.mem_of_getElem? (i := 390) (by decide +kernel), List.mem_of_getElem? (i := 391) (by decide +kernel), by decide⟩, fun h => absurd h (by decide), fun h => absurd h (by decide)⟩
set_option maxRecDepth 20000 in
theorem okM_63 : okM (yX4_put, cX4_put, 2, none, 4, 2, 62, 0) := ⟨List.mem_of_getElem? (i := 545) rfl, List.mem_of_getElem? (i := 54) (by decide +kernel), ⟨by decide +kernel, by decide +kernel, by decide +kernel⟩, rfl, fun _ => ⟨List.mem_of_getElem? (i := 543) (by decide +kernel), List.mem_of_getElem? (i := 544) (by decide +kernel), by decide⟩, fun h => absurd h (by decide), fun h => absurd h (by decide)⟩
set_option maxRecDepth 20000 in
theorem okM_64 : okM (yX4_takeInto, cX4_takeInto, 2, (some .boolean), 4, 2, 62, 0) := ⟨List.mem_of_getElem? (i := 606) rfl, List.mem_of_getElem? (i := 54) (by decide +kernel), ⟨by decide +kernel, by decide +kernel, by decide +kernel⟩, rfl, fun _ => ⟨List.mem_of_getElem? (i := 604) (by decide +kernel), List.mem_of_getElem? (i := 605) (by decide +kernel), by decide⟩, fun h => absurd h (by decide), fun h => absurd h (by decide)⟩
set_option maxRecDepth 20000 in
theorem okM_65 : okM (yX5_init, cX5_init, 1, none, 5, 1, 20, 2) := ⟨List.mem_of_getElem? (i := 77) rfl, List.mem_of_getElem? (i := 49) (by decide +kernel), ⟨by decide +kernel, by decide +kernel, by decide +kernel⟩, rfl, fun h => absurd h (by decide), fun h => absurd h (by decide), fun _ => ⟨List.mem_of_getElem? (i := 76) (by decide +kernel), by decide +kernel⟩⟩
set_option maxRecDepth 20000 in
theorem okM_66 : okM (yX5_length, cX5_length, 1, (some .int), 5, 0, 0, 0) := ⟨List.mem_of_getElem? (i := 443) rfl, List.mem_of_getElem? (i := 49) (by decide +kernel), ⟨by decide +kernel, by decide +kernel, by decide +kernel⟩, rfl, fun _ => ⟨List.mem_of_getElem? (i := 441) (by decide +kernel), List.mem_of_getElem? (i := 442) (by decide +kernel), by decide⟩, fun h => absurd h (by decide), fun h => absurd h (by decide)⟩
set_option maxRecDepth 20000 in
theorem okM_67 : okM (yX5_clear, cX5_clear, 1, none, 5, 0, 0, 0) := ⟨List.mem_of_getElem? (i := 400) rfl, List.mem_of_getElem? (i := 49) (by decide +kernel), ⟨by decide +kernel, by decide +kernel, by decide +kernel⟩, rfl, fun _ => ⟨List.mem_of_getElem? (i := 398) (by decide +kernel), List.mem_of_getElem? (i := 399) (by decide +kernel), by decide⟩, fun h => absurd h (by decide), fun h => absurd h (by decide)⟩
set_option maxRecDepth 20000 in
theorem okM_68 : okM (yX5_add, cX5_add, 2, (some .boolean), 5, 0, 0, 0) := ⟨List.mem_of_getElem? (i := 297) rfl, List.mem_of_getElem? (i := 49) (by decide +kernel), ⟨by decide +kernel, by decide +kernel, by decide +kernel⟩, rfl, fun _ => ⟨List.mem_of_getElem? (i := 295) (by decide +kernel), List.mem_of_getElem? (i := 296) (by decide +kernel), by decide⟩, fun h => absurd h (by decide), fun h => absurd h (by decide)⟩
set_option maxRecDepth 20000 in
theorem okM_69 : okM (yX5_readInto, cX5_readInto, 4, (some .int), 5, 3, 65, 0) := ⟨List.mem_of_getElem? (i := 301) rfl, List.mem_of_getElem? (i := 49) (by decide +kernel), ⟨by decide +kernel, by decide +kernel, by decide +kernel⟩, rfl, fun _ => ⟨List.mem_of_getElem? (i := 299) (by decide +kernel), List.mem_of_getElem? (i := 300) (by decide +kernel), by decide⟩, fun h => absurd h (by decide), fun h => absurd h (by decide)⟩
set_option maxRecDepth 20000 in
theorem okM_70 : okM (yX5_letterAt, cX5_letterAt, 2, (some .int), 5, 0, 0, 0) := ⟨List.mem_of_getElem? (i := 317) rfl, List.mem_of_getElem? (i := 49) (by decide +kernel), ⟨by decide +kernel, by decide +kernel, by decide +kernel⟩, rfl, fun _ => ⟨List.mem_of_getElem? (i := 316) (by decide +kernel), List.mem_of_getElem? (i := 2) (by decide +kernel), by decide⟩, fun h => absurd h (by decide), fun h => absurd h (by decide)⟩
set_option maxRecDepth 20000 in
theorem okM_71 : okM (yX5_isFigure, cX5_isFigure, 2, (some .boolean), 5, 1, 21, 0) := ⟨List.mem_of_getElem? (i := 313) rfl, List.mem_of_getElem? (i := 49) (by decide +kernel), ⟨by decide +kernel, by decide +kernel, by decide +kernel⟩, rfl, fun _ => ⟨List.mem_of_getElem? (i := 312) (by decide +kernel), List.mem_of_getElem? (i := 1) (by decide +kernel), by decide⟩, fun h => absurd h (by decide), fun h => absurd h (by decide)⟩
set_option maxRecDepth 20000 in
theorem okM_72 : okM (yX5_readNumbers, cX5_readNumbers, 4, (some .int), 5, 2, 42, 0) := ⟨List.mem_of_getElem? (i := 309) rfl, List.mem_of_getElem? (i := 49) (by decide +kernel), ⟨by decide +kernel, by decide +kernel, by decide +kernel⟩, rfl, fun _ => ⟨List.mem_of_getElem? (i := 308) (by decide +kernel), List.mem_of_getElem? (i := 0) (by decide +kernel), by decide⟩, fun h => absurd h (by decide), fun h => absurd h (by decide)⟩
set_option maxRecDepth 20000 in
theorem okM_73 : okM (yX5_tell, cX5_tell, 3, (some .boolean), 5, 2, 43, 0) := ⟨List.mem_of_getElem? (i := 321) rfl, List.mem_of_getElem? (i := 49) (by decide +kernel), ⟨by decide +kernel, by decide +kernel, by decide +kernel⟩, rfl, fun _ => ⟨List.mem_of_getElem? (i := 320) (by decide +kernel), List.mem_of_getElem? (i := 3) (by decide +kernel), by decide⟩, fun h => absurd h (by decide), fun h => absurd h (by decide)⟩
set_option maxRecDepth 20000 in
theorem okM_74 : okM (yX6_init, cX6_init, 1, none, 6, 1, 20, 2) := ⟨List.mem_of_getElem? (i := 117) rfl, List.mem_of_getElem? (i := 51) (by decide +kernel), ⟨by decide +kernel, by decide +kernel, by decide +kernel⟩, rfl, fun h => absurd h (by decide), fun h => absurd h (by decide), fun _ => ⟨List.mem_of_getElem? (i := 116) (by decide +kernel), by decide +kernel⟩⟩
set_option maxRecDepth 20000 in
theorem okM_75 : okM (yX6_fit, cX6_fit, 4, none, 6, 1, 21, 0) := ⟨List.mem_of_getElem? (i := 385) rfl, List.mem_of_getElem? (i := 51) (by decide +kernel), ⟨by decide +kernel, by decide +kernel, by decide +kernel⟩, rfl, fun _ => ⟨List.mem_of_getElem? (i := 383) (by decide +kernel), List.mem_of_getElem? (i := 384) (by decide +kernel), by decide⟩, fun h => absurd h (by decide), fun h => absurd h (by decide)⟩
set_option maxRecDepth 20000 in
theorem okM_76 : okM (yX6_total, cX6_total, 1, (some .int), 6, 0, 0, 0) := ⟨List.mem_of_getElem? (i := 702) rfl, List.mem_of_getElem? (i := 51) (by decide +kernel), ⟨by decide +kernel, by decide +kernel, by decide +kernel⟩, rfl, fun _ => ⟨List.mem_of_getElem? (i := 700) (by decide +kernel), List.mem_of_getElem? (i := 701) (by decide +kernel), by decide⟩, fun h => absurd h (by decide), fun h => absurd h (by decide)⟩
set_option maxRecDepth 20000 in
theorem okM_77 : okM (yX6_numberOf, cX6_numberOf, 6, (some .int), 6, 0, 0, 0) := ⟨List.mem_of_getElem? (i := 643) rfl, List.mem_of_getElem? (i := 51) (by decide +kernel), ⟨by decide +kernel, by decide +kernel, by decide +kernel⟩, rfl, fun _ => ⟨List.mem_of_getElem? (i := 641) (by decide +kernel), List.mem_of_getElem? (i := 642) (by decide +kernel), by decide⟩, fun h => absurd h (by decide), fun h => absurd h (by decide)⟩
set_option maxRecDepth 20000 in
theorem okM_78 : okM (yX6_spread, cX6_spread, 8, none, 6, 1, 24, 0) := ⟨List.mem_of_getElem? (i := 655) rfl, List.mem_of_getElem? (i := 51) (by decide +kernel), ⟨by decide +kernel, by decide +kernel, by decide +kernel⟩, rfl, fun _ => ⟨List.mem_of_getElem? (i := 653) (by decide +kernel), List.mem_of_getElem? (i := 654) (by decide +kernel), by decide⟩, fun h => absurd h (by decide), fun h => absurd h (by decide)⟩
set_option maxRecDepth 20000 in
theorem okM_79 : okM (yX6_freeBed, cX6_freeBed, 5, (some .int), 6, 0, 0, 0) := ⟨List.mem_of_getElem? (i := 659) rfl, List.mem_of_getElem? (i := 51) (by decide +kernel), ⟨by decide +kernel, by decide +kernel, by decide +kernel⟩, rfl, fun _ => ⟨List.mem_of_getElem? (i := 658) (by decide +kernel), List.mem_of_getElem? (i := 11) (by decide +kernel), by decide⟩, fun h => absurd h (by decide), fun h => absurd h (by decide)⟩
set_option maxRecDepth 20000 in
theorem okM_80 : okM (yX7_init, cX7_init, 2, none, 7, 4, 90, 2) := ⟨List.mem_of_getElem? (i := 69) rfl, List.mem_of_getElem? (i := 48) (by decide +kernel), ⟨by decide +kernel, by decide +kernel, by decide +kernel⟩, rfl, fun h => absurd h (by decide), fun h => absurd h (by decide), fun _ => ⟨List.mem_of_getElem? (i := 68) (by decide +kernel), by decide +kernel⟩⟩
set_option maxRecDepth 20000 in
theorem okM_81 : okM (yX7_write, cX7_write, 2, (some .int), 7, 1, 21, 0) := ⟨List.mem_of_getElem? (i := 439) rfl, List.mem_of_getElem? (i := 48) (by decide +kernel), ⟨by decide +kernel, by decide +kernel, by decide +kernel⟩, rfl, fun _ => ⟨List.mem_of_getElem? (i := 437) (by decide +kernel), List.mem_of_getElem? (i := 438) (by decide +kernel), by decide⟩, fun h => absurd h (by decide), fun h => absurd h (by decide)⟩
set_option maxRecDepth 20000 in
theorem okM_82 : okM (yX7_wipe, cX7_wipe, 2, (some .int), 7, 1, 20, 0) := ⟨List.mem_of_getElem? (i := 447) rfl, List.mem_of_getElem? (i := 48) (by decide +kernel), ⟨by decide +kernel, by decide +kernel, by decide +kernel⟩, rfl, fun _ => ⟨List.mem_of_getElem? (i := 445) (by decide +kernel), List.mem_of_getElem? (i := 446) (by decide +kernel), by decide⟩, fun h => absurd h (by decide), fun h => absurd h (by decide)⟩
set_option maxRecDepth 20000 in
theorem okM_83 : okM (yX7_fault, cX7_fault, 1, (some .int), 7, 4, 88, 0) := ⟨List.mem_of_getElem? (i := 451) rfl, List.mem_of_getElem? (i := 48) (by decide +kernel), ⟨by decide +kernel, by decide +kernel, by decide +kernel⟩, rfl, fun _ => ⟨List.mem_of_getElem? (i := 449) (by decide +kernel), List.mem_of_getElem? (i := 450) (by decide +kernel), by decide⟩, fun h => absurd h (by decide), fun h => absurd h (by decide)⟩
set_option maxRecDepth 20000 in
theorem okM_84 : okM (yX7_lay, cX7_lay, 1, (some .int), 7, 4, 88, 0) := ⟨List.mem_of_getElem? (i := 455) rfl, List.mem_of_getElem? (i := 48) (by decide +kernel), ⟨by decide +kernel, by decide +kernel, by decide +kernel⟩, rfl, fun _ => ⟨List.mem_of_getElem? (i := 453) (by decide +kernel), List.mem_of_getElem? (i := 454) (by decide +kernel), by decide⟩, fun h => absurd h (by decide), fun h => absurd h (by decide)⟩
set_option maxRecDepth 20000 in
theorem okM_85 : okM (yX7_guest, cX7_guest, 3, (some .int), 7, 5, 117, 0) := ⟨List.mem_of_getElem? (i := 459) rfl, List.mem_of_getElem? (i := 48) (by decide +kernel), ⟨by decide +kernel, by decide +kernel, by decide +kernel⟩, rfl, fun _ => ⟨List.mem_of_getElem? (i := 457) (by decide +kernel), List.mem_of_getElem? (i := 458) (by decide +kernel), by decide⟩, fun h => absurd h (by decide), fun h => absurd h (by decide)⟩
set_option maxRecDepth 20000 in
theorem okM_86 : okM (yX7_bed, cX7_bed, 2, (some .int), 7, 2, 44, 0) := ⟨List.mem_of_getElem? (i := 521) rfl, List.mem_of_getElem? (i := 48) (by decide +kernel), ⟨by decide +kernel, by decide +kernel, by decide +kernel⟩, rfl, fun _ => ⟨List.mem_of_getElem? (i := 519) (by decide +kernel), List.mem_of_getElem? (i := 520) (by decide +kernel), by decide⟩, fun h => absurd h (by decide), fun h => absurd h (by decide)⟩
set_option maxRecDepth 20000 in
theorem okM_87 : okM (yX7_wall, cX7_wall, 2, (some .int), 7, 1, 21, 0) := ⟨List.mem_of_getElem? (i := 530) rfl, List.mem_of_getElem? (i := 48) (by decide +kernel), ⟨by decide +kernel, by decide +kernel, by decide +kernel⟩, rfl, fun _ => ⟨List.mem_of_getElem? (i := 528) (by decide +kernel), List.mem_of_getElem? (i := 529) (by decide +kernel), by decide⟩, fun h => absurd h (by decide), fun h => absurd h (by decide)⟩
set_option maxRecDepth 20000 in
theorem okM_88 : okM (yX7_carry, cX7_carry, 3, (some .int), 7, 5, 115, 0) := ⟨List.mem_of_getElem? (i := 536) rfl, List.mem_of_getElem? (i := 48) (by decide +kernel), ⟨by decide +kernel, by decide +kernel, by decide +kernel⟩, rfl, fun _ => ⟨List.mem_of_getElem? (i := 534) (by decide +kernel), List.mem_of_getElem? (i := 535) (by decide +kernel), by decide⟩, fun h => absurd h (by decide), fun h => absurd h (by decide)⟩
set_option maxRecDepth 20000 in
theorem okM_89 : okM (yX7_stuff, cX7_stuff, 2, (some .int), 7, 3, 83, 0) := ⟨List.mem_of_getElem? (i := 585) rfl, List.mem_of_getElem? (i := 48) (by decide +kernel), ⟨by decide +kernel, by decide +kernel, by decide +kernel⟩, rfl, fun _ => ⟨List.mem_of_getElem? (i := 583) (by decide +kernel), List.mem_of_getElem? (i := 584) (by decide +kernel), by decide⟩, fun h => absurd h (by decide), fun h => absurd h (by decide)⟩
set_option maxRecDepth 20000 in
theorem okM_90 : okM (yX7_hour, cX7_hour, 1, (some .int), 7, 3, 83, 0) := ⟨List.mem_of_getElem? (i := 593) rfl, List.mem_of_getElem? (i := 48) (by decide +kernel), ⟨by decide +kernel, by decide +kernel, by decide +kernel⟩, rfl, fun _ => ⟨List.mem_of_getElem? (i := 591) (by decide +kernel), List.mem_of_getElem? (i := 592) (by decide +kernel), by decide⟩, fun h => absurd h (by decide), fun h => absurd h (by decide)⟩
set_option maxRecDepth 20000 in
theorem okM_91 : okM (yX7_undo, cX7_undo, 1, (some .int), 7, 3, 83, 0) := ⟨List.mem_of_getElem? (i := 602) rfl, List.mem_of_getElem? (i := 48) (by decide +kernel), ⟨by decide +kernel, by decide +kernel, by decide +kernel⟩, rfl, fun _ => ⟨List.mem_of_getElem? (i := 600) (by decide +kernel), List.mem_of_getElem? (i := 601) (by decide +kernel), by decide⟩, fun h => absurd h (by decide), fun h => absurd h (by decide)⟩
set_option maxRecDepth 20000 in
theorem okM_92 : okM (yX7_law, cX7_law, 2, (some .int), 7, 4, 91, 0) := ⟨List.mem_of_getElem? (i := 618) rfl, List.mem_of_getElem? (i := 48) (by decide +kernel), ⟨by decide +kernel, by decide +kernel, by decide +kernel⟩, rfl, fun _ => ⟨List.mem_of_getElem? (i := 616) (by decide +kernel), List.mem_of_getElem? (i := 617) (by decide +kernel), by decide⟩, fun h => absurd h (by decide), fun h => absurd h (by decide)⟩
set_option maxRecDepth 20000 in
theorem okM_93 : okM (yX7_moves, cX7_moves, 3, (some .int), 7, 6, 135, 0) := ⟨List.mem_of_getElem? (i := 630) rfl, List.mem_of_getElem? (i := 48) (by decide +kernel), ⟨by decide +kernel, by decide +kernel, by decide +kernel⟩, rfl, fun _ => ⟨List.mem_of_getElem? (i := 628) (by decide +kernel), List.mem_of_getElem? (i := 629) (by decide +kernel), by decide⟩, fun h => absurd h (by decide), fun h => absurd h (by decide)⟩
set_option maxRecDepth 20000 in
theorem okM_94 : okM (yX7_best, cX7_best, 7, (some .int), 7, 5, 118, 0) := ⟨List.mem_of_getElem? (i := 690) rfl, List.mem_of_getElem? (i := 48) (by decide +kernel), ⟨by decide +kernel, by decide +kernel, by decide +kernel⟩, rfl, fun _ => ⟨List.mem_of_getElem? (i := 688) (by decide +kernel), List.mem_of_getElem? (i := 689) (by decide +kernel), by decide⟩, fun h => absurd h (by decide), fun h => absurd h (by decide)⟩
set_option maxRecDepth 20000 in
theorem okM_95 : okM (yX7_wallTo, cX7_wallTo, 6, (some .int), 7, 6, 141, 0) := ⟨List.mem_of_getElem? (i := 715) rfl, List.mem_of_getElem? (i := 48) (by decide +kernel), ⟨by decide +kernel, by decide +kernel, by decide +kernel⟩, rfl, fun _ => ⟨List.mem_of_getElem? (i := 713) (by decide +kernel), List.mem_of_getElem? (i := 714) (by decide +kernel), by decide⟩, fun h => absurd h (by decide), fun h => absurd h (by decide)⟩
set_option maxRecDepth 20000 in
theorem okM_96 : okM (yX7_within, cX7_within, 6, (some .int), 7, 3, 73, 0) := ⟨List.mem_of_getElem? (i := 725) rfl, List.mem_of_getElem? (i := 48) (by decide +kernel), ⟨by decide +kernel, by decide +kernel, by decide +kernel⟩, rfl, fun _ => ⟨List.mem_of_getElem? (i := 723) (by decide +kernel), List.mem_of_getElem? (i := 724) (by decide +kernel), by decide⟩, fun h => absurd h (by decide), fun h => absurd h (by decide)⟩
set_option maxRecDepth 20000 in
theorem okM_97 : okM (yX7_night, cX7_night, 2, (some .int), 7, 6, 141, 0) := ⟨List.mem_of_getElem? (i := 733) rfl, List.mem_of_getElem? (i := 48) (by decide +kernel), ⟨by decide +kernel, by decide +kernel, by decide +kernel⟩, rfl, fun _ => ⟨List.mem_of_getElem? (i := 731) (by decide +kernel), List.mem_of_getElem? (i := 732) (by decide +kernel), by decide⟩, fun h => absurd h (by decide), fun h => absurd h (by decide)⟩
set_option maxRecDepth 20000 in
theorem okM_98 : okM (yX7_heard, cX7_heard, 4, (some .int), 7, 1, 23, 0) := ⟨List.mem_of_getElem? (i := 737) rfl, List.mem_of_getElem? (i := 48) (by decide +kernel), ⟨by decide +kernel, by decide +kernel, by decide +kernel⟩, rfl, fun _ => ⟨List.mem_of_getElem? (i := 735) (by decide +kernel), List.mem_of_getElem? (i := 736) (by decide +kernel), by decide⟩, fun h => absurd h (by decide), fun h => absurd h (by decide)⟩
set_option maxRecDepth 20000 in
theorem okM_99 : okM (yX7_forget, cX7_forget, 2, (some .int), 7, 1, 20, 0) := ⟨List.mem_of_getElem? (i := 749) rfl, List.mem_of_getElem? (i := 48) (by decide +kernel), ⟨by decide +kernel, by decide +kernel, by decide +kernel⟩, rfl, fun _ => ⟨List.mem_of_getElem? (i := 747) (by decide +kernel), List.mem_of_getElem? (i := 748) (by decide +kernel), by decide⟩, fun h => absurd h (by decide), fun h => absurd h (by decide)⟩
set_option maxRecDepth 20000 in
theorem okM_100 : okM (yX7_feigned, cX7_feigned, 3, (some .int), 7, 6, 140, 0) := ⟨List.mem_of_getElem? (i := 753) rfl, List.mem_of_getElem? (i := 48) (by decide +kernel), ⟨by decide +kernel, by decide +kernel, by decide +kernel⟩, rfl, fun _ => ⟨List.mem_of_getElem? (i := 751) (by decide +kernel), List.mem_of_getElem? (i := 752) (by decide +kernel), by decide⟩, fun h => absurd h (by decide), fun h => absurd h (by decide)⟩
set_option maxRecDepth 20000 in
theorem okM_101 : okM (yX7_hums, cX7_hums, 2, (some .int), 7, 3, 68, 0) := ⟨List.mem_of_getElem? (i := 771) rfl, List.mem_of_getElem? (i := 48) (by decide +kernel), ⟨by decide +kernel, by decide +kernel, by decide +kernel⟩, rfl, fun _ => ⟨List.mem_of_getElem? (i := 769) (by decide +kernel), List.mem_of_getElem? (i := 770) (by decide +kernel), by decide⟩, fun h => absurd h (by decide), fun h => absurd h (by decide)⟩
set_option maxRecDepth 20000 in
theorem okM_102 : okM (yX7_odds, cX7_odds, 4, (some .int), 7, 5, 118, 0) := ⟨List.mem_of_getElem? (i := 779) rfl, List.mem_of_getElem? (i := 48) (by decide +kernel), ⟨by decide +kernel, by decide +kernel, by decide +kernel⟩, rfl, fun _ => ⟨List.mem_of_getElem? (i := 777) (by decide +kernel), List.mem_of_getElem? (i := 778) (by decide +kernel), by decide⟩, fun h => absurd h (by decide), fun h => absurd h (by decide)⟩
set_option maxRecDepth 20000 in
theorem okM_103 : okM (yX7_steps, cX7_steps, 2, (some .int), 7, 0, 0, 0) := ⟨List.mem_of_getElem? (i := 795) rfl, List.mem_of_getElem? (i := 48) (by decide +kernel), ⟨by decide +kernel, by decide +kernel, by decide +kernel⟩, rfl, fun _ => ⟨List.mem_of_getElem? (i := 793) (by decide +kernel), List.mem_of_getElem? (i := 794) (by decide +kernel), by decide⟩, fun h => absurd h (by decide), fun h => absurd h (by decide)⟩
set_option maxRecDepth 20000 in
theorem okM_104 : okM (yX7_day, cX7_day, 5, (some .int), 7, 6, 138, 0) := ⟨List.mem_of_getElem? (i := 799) rfl, List.mem_of_getElem? (i := 48) (by decide +kernel), ⟨by decide +kernel, by decide +kernel, by decide +kernel⟩, rfl, fun _ => ⟨List.mem_of_getElem? (i := 797) (by decide +kernel), List.mem_of_getElem? (i := 798) (by decide +kernel), by decide⟩, fun h => absurd h (by decide), fun h => absurd h (by decide)⟩
set_option maxRecDepth 20000 in
theorem okM_105 : okM (yX7_keep, cX7_keep, 1, (some .int), 7, 3, 83, 0) := ⟨List.mem_of_getElem? (i := 814) rfl, List.mem_of_getElem? (i := 48) (by decide +kernel), ⟨by decide +kernel, by decide +kernel, by decide +kernel⟩, rfl, fun _ => ⟨List.mem_of_getElem? (i := 812) (by decide +kernel), List.mem_of_getElem? (i := 813) (by decide +kernel), by decide⟩, fun h => absurd h (by decide), fun h => absurd h (by decide)⟩
set_option maxRecDepth 20000 in
theorem okM_106 : okM (yX7_back, cX7_back, 1, (some .int), 7, 3, 83, 0) := ⟨List.mem_of_getElem? (i := 819) rfl, List.mem_of_getElem? (i := 48) (by decide +kernel), ⟨by decide +kernel, by decide +kernel, by decide +kernel⟩, rfl, fun _ => ⟨List.mem_of_getElem? (i := 817) (by decide +kernel), List.mem_of_getElem? (i := 818) (by decide +kernel), by decide⟩, fun h => absurd h (by decide), fun h => absurd h (by decide)⟩
set_option maxRecDepth 20000 in
theorem okM_107 : okM (yX7_count, cX7_count, 2, (some .int), 7, 1, 20, 0) := ⟨List.mem_of_getElem? (i := 823) rfl, List.mem_of_getElem? (i := 48) (by decide +kernel), ⟨by decide +kernel, by decide +kernel, by decide +kernel⟩, rfl, fun _ => ⟨List.mem_of_getElem? (i := 821) (by decide +kernel), List.mem_of_getElem? (i := 822) (by decide +kernel), by decide⟩, fun h => absurd h (by decide), fun h => absurd h (by decide)⟩
set_option maxRecDepth 20000 in
theorem okM_108 : okM (yX7_moveIn, cX7_moveIn, 2, none, 7, 3, 64, 0) := ⟨List.mem_of_getElem? (i := 357) rfl, List.mem_of_getElem? (i := 48) (by decide +kernel), ⟨by decide +kernel, by decide +kernel, by decide +kernel⟩, rfl, fun _ => ⟨List.mem_of_getElem? (i := 356) (by decide +kernel), List.mem_of_getElem? (i := 5) (by decide +kernel), by decide⟩, fun h => absurd h (by decide), fun h => absurd h (by decide)⟩
set_option maxRecDepth 20000 in
theorem okM_109 : okM (yX7_isHour, cX7_isHour, 1, (some .boolean), 7, 0, 0, 1) := ⟨List.mem_of_getElem? (i := 693) rfl, List.mem_of_getElem? (i := 48) (by decide +kernel), ⟨by decide +kernel, by decide +kernel, by decide +kernel⟩, rfl, fun h => absurd h (by decide), fun _ => List.mem_of_getElem? (i := 692) (by decide +kernel), fun h => absurd h (by decide)⟩
set_option maxRecDepth 20000 in
theorem okM_110 : okM (yX7_isGuestOrWhole, cX7_isGuestOrWhole, 2, (some .boolean), 7, 1, 21, 0) := ⟨List.mem_of_getElem? (i := 697) rfl, List.mem_of_getElem? (i := 48) (by decide +kernel), ⟨by decide +kernel, by decide +kernel, by decide +kernel⟩, rfl, fun _ => ⟨List.mem_of_getElem? (i := 696) (by decide +kernel), List.mem_of_getElem? (i := 14) (by decide +kernel), by decide⟩, fun h => absurd h (by decide), fun h => absurd h (by decide)⟩
set_option maxRecDepth 20000 in
theorem okM_111 : okM (yX7_isLawful, cX7_isLawful, 2, (some .boolean), 7, 3, 70, 0) := ⟨List.mem_of_getElem? (i := 622) rfl, List.mem_of_getElem? (i := 48) (by decide +kernel), ⟨by decide +kernel, by decide +kernel, by decide +kernel⟩, rfl, fun _ => ⟨List.mem_of_getElem? (i := 621) (by decide +kernel), List.mem_of_getElem? (i := 8) (by decide +kernel), by decide⟩, fun h => absurd h (by decide), fun h => absurd h (by decide)⟩
set_option maxRecDepth 20000 in
theorem okM_112 : okM (yX7_placeInWay, cX7_placeInWay, 3, (some .int), 7, 2, 51, 0) := ⟨List.mem_of_getElem? (i := 711) rfl, List.mem_of_getElem? (i := 48) (by decide +kernel), ⟨by decide +kernel, by decide +kernel, by decide +kernel⟩, rfl, fun _ => ⟨List.mem_of_getElem? (i := 710) (by decide +kernel), List.mem_of_getElem? (i := 15) (by decide +kernel), by decide⟩, fun h => absurd h (by decide), fun h => absurd h (by decide)⟩
set_option maxRecDepth 20000 in
theorem okM_113 : okM (yX7_carryIn, cX7_carryIn, 5, (some .int), 7, 4, 91, 0) := ⟨List.mem_of_getElem? (i := 561) rfl, List.mem_of_getElem? (i := 48) (by decide +kernel), ⟨by decide +kernel, by decide +kernel, by decide +kernel⟩, rfl, fun _ => ⟨List.mem_of_getElem? (i := 560) (by decide +kernel), List.mem_of_getElem? (i := 7) (by decide +kernel), by decide⟩, fun h => absurd h (by decide), fun h => absurd h (by decide)⟩
set_option maxRecDepth 20000 in
theorem okM_114 : okM (yX7_tryDraw, cX7_tryDraw, 4, none, 7, 5, 115, 0) := ⟨List.mem_of_getElem? (i := 810) rfl, List.mem_of_getElem? (i := 48) (by decide +kernel), ⟨by decide +kernel, by decide +kernel, by decide +kernel⟩, rfl, fun _ => ⟨List.mem_of_getElem? (i := 809) (by decide +kernel), List.mem_of_getElem? (i := 18) (by decide +kernel), by decide⟩, fun h => absurd h (by decide), fun h => absurd h (by decide)⟩
set_option maxRecDepth 20000 in
theorem okM_115 : okM (yX7_drawOf, cX7_drawOf, 4, (some .int), 7, 0, 0, 1) := ⟨List.mem_of_getElem? (i := 802) rfl, List.mem_of_getElem? (i := 48) (by decide +kernel), ⟨by decide +kernel, by decide +kernel, by decide +kernel⟩, rfl, fun h => absurd h (by decide), fun _ => List.mem_of_getElem? (i := 801) (by decide +kernel), fun h => absurd h (by decide)⟩
set_option maxRecDepth 20000 in
theorem okM_116 : okM (yX7_quietHundredths, cX7_quietHundredths, 7, (some .int), 7, 4, 92, 0) := ⟨List.mem_of_getElem? (i := 783) rfl, List.mem_of_getElem? (i := 48) (by decide +kernel), ⟨by decide +kernel, by decide +kernel, by decide +kernel⟩, rfl, fun _ => ⟨List.mem_of_getElem? (i := 782) (by decide +kernel), List.mem_of_getElem? (i := 16) (by decide +kernel), by decide⟩, fun h => absurd h (by decide), fun h => absurd h (by decide)⟩
set_option maxRecDepth 20000 in
theorem okM_117 : okM (yX7_soundFromBed, cX7_soundFromBed, 4, (some .int), 7, 3, 69, 0) := ⟨List.mem_of_getElem? (i := 787) rfl, List.mem_of_getElem? (i := 48) (by decide +kernel), ⟨by decide +kernel, by decide +kernel, by decide +kernel⟩, rfl, fun _ => ⟨List.mem_of_getElem? (i := 786) (by decide +kernel), List.mem_of_getElem? (i := 17) (by decide +kernel), by decide⟩, fun h => absurd h (by decide), fun h => absurd h (by decide)⟩
set_option maxRecDepth 20000 in
theorem okM_118 : okM (yX7_partInLowestTerms, cX7_partInLowestTerms, 5, (some .int), 7, 0, 0, 1) := ⟨List.mem_of_getElem? (i := 791) rfl, List.mem_of_getElem? (i := 48) (by decide +kernel), ⟨by decide +kernel, by decide +kernel, by decide +kernel⟩, rfl, fun h => absurd h (by decide), fun _ => List.mem_of_getElem? (i := 790) (by decide +kernel), fun h => absurd h (by decide)⟩
set_option maxRecDepth 20000 in
theorem okM_119 : okM (yX8_init, cX8_init, 1, none, 8, 1, 26, 2) := ⟨List.mem_of_getElem? (i := 828) rfl, List.mem_of_getElem? (i := 61) (by decide +kernel), ⟨by decide +kernel, by decide +kernel, by decide +kernel⟩, rfl, fun h => absurd h (by decide), fun h => absurd h (by decide), fun _ => ⟨List.mem_of_getElem? (i := 827) (by decide +kernel), by decide +kernel⟩⟩
set_option maxRecDepth 20000 in
theorem okM_120 : okM (yX8_in, cX8_in, 3, (some .boolean), 8, 0, 0, 1) := ⟨List.mem_of_getElem? (i := 906) rfl, List.mem_of_getElem? (i := 61) (by decide +kernel), ⟨by decide +kernel, by decide +kernel, by decide +kernel⟩, rfl, fun h => absurd h (by decide), fun _ => List.mem_of_getElem? (i := 905) (by decide +kernel), fun h => absurd h (by decide)⟩
set_option maxRecDepth 20000 in
theorem okM_121 : okM (yX8_isGuest, cX8_isGuest, 2, (some .boolean), 8, 1, 22, 0) := ⟨List.mem_of_getElem? (i := 949) rfl, List.mem_of_getElem? (i := 61) (by decide +kernel), ⟨by decide +kernel, by decide +kernel, by decide +kernel⟩, rfl, fun _ => ⟨List.mem_of_getElem? (i := 948) (by decide +kernel), List.mem_of_getElem? (i := 27) (by decide +kernel), by decide⟩, fun h => absurd h (by decide), fun h => absurd h (by decide)⟩
set_option maxRecDepth 20000 in
theorem okM_122 : okM (yX8_isBed, cX8_isBed, 2, (some .boolean), 8, 1, 22, 0) := ⟨List.mem_of_getElem? (i := 981) rfl, List.mem_of_getElem? (i := 61) (by decide +kernel), ⟨by decide +kernel, by decide +kernel, by decide +kernel⟩, rfl, fun _ => ⟨List.mem_of_getElem? (i := 980) (by decide +kernel), List.mem_of_getElem? (i := 34) (by decide +kernel), by decide⟩, fun h => absurd h (by decide), fun h => absurd h (by decide)⟩
set_option maxRecDepth 20000 in
theorem okM_123 : okM (yX8_isWall, cX8_isWall, 2, (some .boolean), 8, 1, 22, 0) := ⟨List.mem_of_getElem? (i := 993) rfl, List.mem_of_getElem? (i := 61) (by decide +kernel), ⟨by decide +kernel, by decide +kernel, by decide +kernel⟩, rfl, fun _ => ⟨List.mem_of_getElem? (i := 992) (by decide +kernel), List.mem_of_getElem? (i := 36) (by decide +kernel), by decide⟩, fun h => absurd h (by decide), fun h => absurd h (by decide)⟩
set_option maxRecDepth 20000 in
theorem okM_124 : okM (yX8_ones, cX8_ones, 3, (some .int), 8, 0, 0, 1) := ⟨List.mem_of_getElem? (i := 1011) rfl, List.mem_of_getElem? (i := 61) (by decide +kernel), ⟨by decide +kernel, by decide +kernel, by decide +kernel⟩, rfl, fun h => absurd h (by decide), fun _ => List.mem_of_getElem? (i := 1010) (by decide +kernel), fun h => absurd h (by decide)⟩
set_option maxRecDepth 20000 in
theorem okM_125 : okM (yX8_write, cX8_write, 2, (some .int), 8, 1, 22, 0) := ⟨List.mem_of_getElem? (i := 903) rfl, List.mem_of_getElem? (i := 61) (by decide +kernel), ⟨by decide +kernel, by decide +kernel, by decide +kernel⟩, rfl, fun _ => ⟨List.mem_of_getElem? (i := 901) (by decide +kernel), List.mem_of_getElem? (i := 902) (by decide +kernel), by decide⟩, fun h => absurd h (by decide), fun h => absurd h (by decide)⟩
set_option maxRecDepth 20000 in
theorem okM_126 : okM (yX8_wipe, cX8_wipe, 2, (some .int), 8, 0, 0, 0) := ⟨List.mem_of_getElem? (i := 910) rfl, List.mem_of_getElem? (i := 61) (by decide +kernel), ⟨by decide +kernel, by decide +kernel, by decide +kernel⟩, rfl, fun _ => ⟨List.mem_of_getElem? (i := 908) (by decide +kernel), List.mem_of_getElem? (i := 909) (by decide +kernel), by decide⟩, fun h => absurd h (by decide), fun h => absurd h (by decide)⟩
set_option maxRecDepth 20000 in
theorem okM_127 : okM (yX8_letterAt, cX8_letterAt, 2, (some .int), 8, 0, 0, 0) := ⟨List.mem_of_getElem? (i := 930) rfl, List.mem_of_getElem? (i := 61) (by decide +kernel), ⟨by decide +kernel, by decide +kernel, by decide +kernel⟩, rfl, fun _ => ⟨List.mem_of_getElem? (i := 929) (by decide +kernel), List.mem_of_getElem? (i := 25) (by decide +kernel), by decide⟩, fun h => absurd h (by decide), fun h => absurd h (by decide)⟩
set_option maxRecDepth 20000 in
theorem okM_128 : okM (yX8_isFigure, cX8_isFigure, 1, (some .boolean), 8, 1, 22, 1) := ⟨List.mem_of_getElem? (i := 933) rfl, List.mem_of_getElem? (i := 61) (by decide +kernel), ⟨by decide +kernel, by decide +kernel, by decide +kernel⟩, rfl, fun h => absurd h (by decide), fun _ => List.mem_of_getElem? (i := 932) (by decide +kernel), fun h => absurd h (by decide)⟩
set_option maxRecDepth 20000 in
theorem okM_129 : okM (yX8_number, cX8_number, 6, (some .int), 8, 2, 42, 0) := ⟨List.mem_of_getElem? (i := 926) rfl, List.mem_of_getElem? (i := 61) (by decide +kernel), ⟨by decide +kernel, by decide +kernel, by decide +kernel⟩, rfl, fun _ => ⟨List.mem_of_getElem? (i := 925) (by decide +kernel), List.mem_of_getElem? (i := 24) (by decide +kernel), by decide⟩, fun h => absurd h (by decide), fun h => absurd h (by decide)⟩
set_option maxRecDepth 20000 in
theorem okM_130 : okM (yX8_begins, cX8_begins, 2, none, 8, 0, 0, 0) := ⟨List.mem_of_getElem? (i := 833) rfl, List.mem_of_getElem? (i := 61) (by decide +kernel), ⟨by decide +kernel, by decide +kernel, by decide +kernel⟩, rfl, fun _ => ⟨List.mem_of_getElem? (i := 832) (by decide +kernel), List.mem_of_getElem? (i := 19) (by decide +kernel), by decide⟩, fun h => absurd h (by decide), fun h => absurd h (by decide)⟩
set_option maxRecDepth 20000 in
theorem okM_131 : okM (yX8_adds, cX8_adds, 7, none, 8, 0, 0, 0) := ⟨List.mem_of_getElem? (i := 837) rfl, List.mem_of_getElem? (i := 61) (by decide +kernel), ⟨by decide +kernel, by decide +kernel, by decide +kernel⟩, rfl, fun _ => ⟨List.mem_of_getElem? (i := 836) (by decide +kernel), List.mem_of_getElem? (i := 20) (by decide +kernel), by decide⟩, fun h => absurd h (by decide), fun h => absurd h (by decide)⟩
set_option maxRecDepth 20000 in
theorem okM_132 : okM (yX8_readsGuest, cX8_readsGuest, 8, (some .boolean), 8, 3, 67, 0) := ⟨List.mem_of_getElem? (i := 937) rfl, List.mem_of_getElem? (i := 61) (by decide +kernel), ⟨by decide +kernel, by decide +kernel, by decide +kernel⟩, rfl, fun _ => ⟨List.mem_of_getElem? (i := 936) (by decide +kernel), List.mem_of_getElem? (i := 26) (by decide +kernel), by decide⟩, fun h => absurd h (by decide), fun h => absurd h (by decide)⟩
set_option maxRecDepth 20000 in
theorem okM_133 : okM (yX8_readsItem, cX8_readsItem, 3, (some .boolean), 8, 4, 94, 0) := ⟨List.mem_of_getElem? (i := 922) rfl, List.mem_of_getElem? (i := 61) (by decide +kernel), ⟨by decide +kernel, by decide +kernel, by decide +kernel⟩, rfl, fun _ => ⟨List.mem_of_getElem? (i := 921) (by decide +kernel), List.mem_of_getElem? (i := 23) (by decide +kernel), by decide⟩, fun h => absurd h (by decide), fun h => absurd h (by decide)⟩
set_option maxRecDepth 20000 in
theorem okM_134 : okM (yX8_reads, cX8_reads, 2, (some .int), 8, 5, 116, 0) := ⟨List.mem_of_getElem? (i := 918) rfl, List.mem_of_getElem? (i := 61) (by decide +kernel), ⟨by decide +kernel, by decide +kernel, by decide +kernel⟩, rfl, fun _ => ⟨List.mem_of_getElem? (i := 917) (by decide +kernel), List.mem_of_getElem? (i := 22) (by decide +kernel), by decide⟩, fun h => absurd h (by decide), fun h => absurd h (by decide)⟩
set_option maxRecDepth 20000 in
theorem okM_135 : okM (yX8_fault, cX8_fault, 1, (some .int), 8, 6, 137, 0) := ⟨List.mem_of_getElem? (i := 914) rfl, List.mem_of_getElem? (i := 61) (by decide +kernel), ⟨by decide +kernel, by decide +kernel, by decide +kernel⟩, rfl, fun _ => ⟨List.mem_of_getElem? (i := 912) (by decide +kernel), List.mem_of_getElem? (i := 913) (by decide +kernel), by decide⟩, fun h => absurd h (by decide), fun h => absurd h (by decide)⟩
set_option maxRecDepth 20000 in
theorem okM_136 : okM (yX8_lays, cX8_lays, 2, none, 8, 0, 0, 0) := ⟨List.mem_of_getElem? (i := 841) rfl, List.mem_of_getElem? (i := 61) (by decide +kernel), ⟨by decide +kernel, by decide +kernel, by decide +kernel⟩, rfl, fun _ => ⟨List.mem_of_getElem? (i := 840) (by decide +kernel), List.mem_of_getElem? (i := 21) (by decide +kernel), by decide⟩, fun h => absurd h (by decide), fun h => absurd h (by decide)⟩
set_option maxRecDepth 20000 in
theorem okM_137 : okM (yX8_lay, cX8_lay, 1, (some .int), 8, 6, 137, 0) := ⟨List.mem_of_getElem? (i := 941) rfl, List.mem_of_getElem? (i := 61) (by decide +kernel), ⟨by decide +kernel, by decide +kernel, by decide +kernel⟩, rfl, fun _ => ⟨List.mem_of_getElem? (i := 939) (by decide +kernel), List.mem_of_getElem? (i := 940) (by decide +kernel), by decide⟩, fun h => absurd h (by decide), fun h => absurd h (by decide)⟩
set_option maxRecDepth 20000 in
theorem okM_138 : okM (yX8_asItIs, cX8_asItIs, 2, none, 8, 0, 0, 0) := ⟨List.mem_of_getElem? (i := 953) rfl, List.mem_of_getElem? (i := 61) (by decide +kernel), ⟨by decide +kernel, by decide +kernel, by decide +kernel⟩, rfl, fun _ => ⟨List.mem_of_getElem? (i := 952) (by decide +kernel), List.mem_of_getElem? (i := 28) (by decide +kernel), by decide⟩, fun h => absurd h (by decide), fun h => absurd h (by decide)⟩
set_option maxRecDepth 20000 in
theorem okM_139 : okM (yX8_loud, cX8_loud, 3, (some .int), 8, 0, 0, 0) := ⟨List.mem_of_getElem? (i := 957) rfl, List.mem_of_getElem? (i := 61) (by decide +kernel), ⟨by decide +kernel, by decide +kernel, by decide +kernel⟩, rfl, fun _ => ⟨List.mem_of_getElem? (i := 956) (by decide +kernel), List.mem_of_getElem? (i := 29) (by decide +kernel), by decide⟩, fun h => absurd h (by decide), fun h => absurd h (by decide)⟩
set_option maxRecDepth 20000 in
theorem okM_140 : okM (yX8_isTuned, cX8_isTuned, 5, (some .boolean), 8, 0, 0, 0) := ⟨List.mem_of_getElem? (i := 969) rfl, List.mem_of_getElem? (i := 61) (by decide +kernel), ⟨by decide +kernel, by decide +kernel, by decide +kernel⟩, rfl, fun _ => ⟨List.mem_of_getElem? (i := 968) (by decide +kernel), List.mem_of_getElem? (i := 32) (by decide +kernel), by decide⟩, fun h => absurd h (by decide), fun h => absurd h (by decide)⟩
set_option maxRecDepth 20000 in
theorem okM_141 : okM (yX8_isBeside, cX8_isBeside, 3, (some .boolean), 8, 0, 0, 0) := ⟨List.mem_of_getElem? (i := 965) rfl, List.mem_of_getElem? (i := 61) (by decide +kernel), ⟨by decide +kernel, by decide +kernel, by decide +kernel⟩, rfl, fun _ => ⟨List.mem_of_getElem? (i := 964) (by decide +kernel), List.mem_of_getElem? (i := 31) (by decide +kernel), by decide⟩, fun h => absurd h (by decide), fun h => absurd h (by decide)⟩
set_option maxRecDepth 20000 in
theorem okM_142 : okM (yX8_hearsOf, cX8_hearsOf, 5, (some .int), 8, 1, 24, 0) := ⟨List.mem_of_getElem? (i := 961) rfl, List.mem_of_getElem? (i := 61) (by decide +kernel), ⟨by decide +kernel, by decide +kernel, by decide +kernel⟩, rfl, fun _ => ⟨List.mem_of_getElem? (i := 960) (by decide +kernel), List.mem_of_getElem? (i := 30) (by decide +kernel), by decide⟩, fun h => absurd h (by decide), fun h => absurd h (by decide)⟩
set_option maxRecDepth 20000 in
theorem okM_143 : okM (yX8_wakes, cX8_wakes, 3, (some .int), 8, 2, 48, 0) := ⟨List.mem_of_getElem? (i := 973) rfl, List.mem_of_getElem? (i := 61) (by decide +kernel), ⟨by decide +kernel, by decide +kernel, by decide +kernel⟩, rfl, fun _ => ⟨List.mem_of_getElem? (i := 972) (by decide +kernel), List.mem_of_getElem? (i := 33) (by decide +kernel), by decide⟩, fun h => absurd h (by decide), fun h => absurd h (by decide)⟩
set_option maxRecDepth 20000 in
theorem okM_144 : okM (yX8_guest, cX8_guest, 3, (some .int), 8, 3, 70, 0) := ⟨List.mem_of_getElem? (i := 945) rfl, List.mem_of_getElem? (i := 61) (by decide +kernel), ⟨by decide +kernel, by decide +kernel, by decide +kernel⟩, rfl, fun _ => ⟨List.mem_of_getElem? (i := 943) (by decide +kernel), List.mem_of_getElem? (i := 944) (by decide +kernel), by decide⟩, fun h => absurd h (by decide), fun h => absurd h (by decide)⟩
set_option maxRecDepth 20000 in
theorem okM_145 : okM (yX8_inBed, cX8_inBed, 4, (some .int), 8, 0, 0, 0) := ⟨List.mem_of_getElem? (i := 985) rfl, List.mem_of_getElem? (i := 61) (by decide +kernel), ⟨by decide +kernel, by decide +kernel, by decide +kernel⟩, rfl, fun _ => ⟨List.mem_of_getElem? (i := 984) (by decide +kernel), List.mem_of_getElem? (i := 35) (by decide +kernel), by decide⟩, fun h => absurd h (by decide), fun h => absurd h (by decide)⟩
set_option maxRecDepth 20000 in
theorem okM_146 : okM (yX8_bed, cX8_bed, 2, (some .int), 8, 2, 43, 0) := ⟨List.mem_of_getElem? (i := 977) rfl, List.mem_of_getElem? (i := 61) (by decide +kernel), ⟨by decide +kernel, by decide +kernel, by decide +kernel⟩, rfl, fun _ => ⟨List.mem_of_getElem? (i := 975) (by decide +kernel), List.mem_of_getElem? (i := 976) (by decide +kernel), by decide⟩, fun h => absurd h (by decide), fun h => absurd h (by decide)⟩
set_option maxRecDepth 20000 in
theorem okM_147 : okM (yX8_wall, cX8_wall, 2, (some .int), 8, 2, 43, 0) := ⟨List.mem_of_getElem? (i := 989) rfl, List.mem_of_getElem? (i := 61) (by decide +kernel), ⟨by decide +kernel, by decide +kernel, by decide +kernel⟩, rfl, fun _ => ⟨List.mem_of_getElem? (i := 987) (by decide +kernel), List.mem_of_getElem? (i := 988) (by decide +kernel), by decide⟩, fun h => absurd h (by decide), fun h => absurd h (by decide)⟩
set_option maxRecDepth 20000 in
theorem okM_148 : okM (yX8_keeps, cX8_keeps, 2, none, 8, 0, 0, 0) := ⟨List.mem_of_getElem? (i := 1001) rfl, List.mem_of_getElem? (i := 61) (by decide +kernel), ⟨by decide +kernel, by decide +kernel, by decide +kernel⟩, rfl, fun _ => ⟨List.mem_of_getElem? (i := 1000) (by decide +kernel), List.mem_of_getElem? (i := 37) (by decide +kernel), by decide⟩, fun h => absurd h (by decide), fun h => absurd h (by decide)⟩
set_option maxRecDepth 20000 in
theorem okM_149 : okM (yX8_far, cX8_far, 2, (some .int), 8, 0, 0, 1) := ⟨List.mem_of_getElem? (i := 1008) rfl, List.mem_of_getElem? (i := 61) (by decide +kernel), ⟨by decide +kernel, by decide +kernel, by decide +kernel⟩, rfl, fun h => absurd h (by decide), fun _ => List.mem_of_getElem? (i := 1007) (by decide +kernel), fun h => absurd h (by decide)⟩
set_option maxRecDepth 20000 in
theorem okM_150 : okM (yX8_goes, cX8_goes, 6, (some .int), 8, 1, 22, 0) := ⟨List.mem_of_getElem? (i := 1005) rfl, List.mem_of_getElem? (i := 61) (by decide +kernel), ⟨by decide +kernel, by decide +kernel, by decide +kernel⟩, rfl, fun _ => ⟨List.mem_of_getElem? (i := 1004) (by decide +kernel), List.mem_of_getElem? (i := 38) (by decide +kernel), by decide⟩, fun h => absurd h (by decide), fun h => absurd h (by decide)⟩
set_option maxRecDepth 20000 in
theorem okM_151 : okM (yX8_carry, cX8_carry, 3, (some .int), 8, 2, 47, 0) := ⟨List.mem_of_getElem? (i := 997) rfl, List.mem_of_getElem? (i := 61) (by decide +kernel), ⟨by decide +kernel, by decide +kernel, by decide +kernel⟩, rfl, fun _ => ⟨List.mem_of_getElem? (i := 995) (by decide +kernel), List.mem_of_getElem? (i := 996) (by decide +kernel), by decide⟩, fun h => absurd h (by decide), fun h => absurd h (by decide)⟩
set_option maxRecDepth 20000 in
theorem okM_152 : okM (yX8_stuff, cX8_stuff, 2, (some .int), 8, 2, 43, 0) := ⟨List.mem_of_getElem? (i := 1015) rfl, List.mem_of_getElem? (i := 61) (by decide +kernel), ⟨by decide +kernel, by decide +kernel, by decide +kernel⟩, rfl, fun _ => ⟨List.mem_of_getElem? (i := 1013) (by decide +kernel), List.mem_of_getElem? (i := 1014) (by decide +kernel), by decide⟩, fun h => absurd h (by decide), fun h => absurd h (by decide)⟩
set_option maxRecDepth 20000 in
theorem okM_153 : okM (yX8_passes, cX8_passes, 1, none, 8, 0, 0, 0) := ⟨List.mem_of_getElem? (i := 1023) rfl, List.mem_of_getElem? (i := 61) (by decide +kernel), ⟨by decide +kernel, by decide +kernel, by decide +kernel⟩, rfl, fun _ => ⟨List.mem_of_getElem? (i := 1022) (by decide +kernel), List.mem_of_getElem? (i := 39) (by decide +kernel), by decide⟩, fun h => absurd h (by decide), fun h => absurd h (by decide)⟩
set_option maxRecDepth 20000 in
theorem okM_154 : okM (yX8_hour, cX8_hour, 1, (some .int), 8, 1, 21, 0) := ⟨List.mem_of_getElem? (i := 1019) rfl, List.mem_of_getElem? (i := 61) (by decide +kernel), ⟨by decide +kernel, by decide +kernel, by decide +kernel⟩, rfl, fun _ => ⟨List.mem_of_getElem? (i := 1017) (by decide +kernel), List.mem_of_getElem? (i := 1018) (by decide +kernel), by decide⟩, fun h => absurd h (by decide), fun h => absurd h (by decide)⟩
set_option maxRecDepth 20000 in
theorem okM_155 : okM (yX8_undo, cX8_undo, 2, (some .int), 8, 0, 0, 0) := ⟨List.mem_of_getElem? (i := 1027) rfl, List.mem_of_getElem? (i := 61) (by decide +kernel), ⟨by decide +kernel, by decide +kernel, by decide +kernel⟩, rfl, fun _ => ⟨List.mem_of_getElem? (i := 1025) (by decide +kernel), List.mem_of_getElem? (i := 1026) (by decide +kernel), by decide⟩, fun h => absurd h (by decide), fun h => absurd h (by decide)⟩
set_option maxRecDepth 20000 in
theorem okM_156 : okM (yX8_lawOf, cX8_lawOf, 4, (some .int), 8, 1, 22, 0) := ⟨List.mem_of_getElem? (i := 1035) rfl, List.mem_of_getElem? (i := 61) (by decide +kernel), ⟨by decide +kernel, by decide +kernel, by decide +kernel⟩, rfl, fun _ => ⟨List.mem_of_getElem? (i := 1034) (by decide +kernel), List.mem_of_getElem? (i := 40) (by decide +kernel), by decide⟩, fun h => absurd h (by decide), fun h => absurd h (by decide)⟩
set_option maxRecDepth 20000 in
theorem okM_157 : okM (yX8_law, cX8_law, 4, (some .int), 8, 2, 45, 0) := ⟨List.mem_of_getElem? (i := 1031) rfl, List.mem_of_getElem? (i := 61) (by decide +kernel), ⟨by decide +kernel, by decide +kernel, by decide +kernel⟩, rfl, fun _ => ⟨List.mem_of_getElem? (i := 1029) (by decide +kernel), List.mem_of_getElem? (i := 1030) (by decide +kernel), by decide⟩, fun h => absurd h (by decide), fun h => absurd h (by decide)⟩
set_option maxRecDepth 20000 in
theorem okM_158 : okM (yX8_codeOf, cX8_codeOf, 3, (some .int), 8, 0, 0, 0) := ⟨List.mem_of_getElem? (i := 1051) rfl, List.mem_of_getElem? (i := 61) (by decide +kernel), ⟨by decide +kernel, by decide +kernel, by decide +kernel⟩, rfl, fun _ => ⟨List.mem_of_getElem? (i := 1050) (by decide +kernel), List.mem_of_getElem? (i := 43) (by decide +kernel), by decide⟩, fun h => absurd h (by decide), fun h => absurd h (by decide)⟩
set_option maxRecDepth 20000 in
theorem okM_159 : okM (yX8_lieBy, cX8_lieBy, 5, (some .boolean), 8, 1, 22, 0) := ⟨List.mem_of_getElem? (i := 1055) rfl, List.mem_of_getElem? (i := 61) (by decide +kernel), ⟨by decide +kernel, by decide +kernel, by decide +kernel⟩, rfl, fun _ => ⟨List.mem_of_getElem? (i := 1054) (by decide +kernel), List.mem_of_getElem? (i := 44) (by decide +kernel), by decide⟩, fun h => absurd h (by decide), fun h => absurd h (by decide)⟩
set_option maxRecDepth 20000 in
theorem okM_160 : okM (yX8_codes, cX8_codes, 3, (some .int), 8, 0, 0, 0) := ⟨List.mem_of_getElem? (i := 1047) rfl, List.mem_of_getElem? (i := 61) (by decide +kernel), ⟨by decide +kernel, by decide +kernel, by decide +kernel⟩, rfl, fun _ => ⟨List.mem_of_getElem? (i := 1046) (by decide +kernel), List.mem_of_getElem? (i := 42) (by decide +kernel), by decide⟩, fun h => absurd h (by decide), fun h => absurd h (by decide)⟩
set_option maxRecDepth 20000 in
theorem okM_161 : okM (yX8_mayCarry, cX8_mayCarry, 6, (some .boolean), 8, 0, 0, 0) := ⟨List.mem_of_getElem? (i := 1059) rfl, List.mem_of_getElem? (i := 61) (by decide +kernel), ⟨by decide +kernel, by decide +kernel, by decide +kernel⟩, rfl, fun _ => ⟨List.mem_of_getElem? (i := 1058) (by decide +kernel), List.mem_of_getElem? (i := 45) (by decide +kernel), by decide⟩, fun h => absurd h (by decide), fun h => absurd h (by decide)⟩
set_option maxRecDepth 20000 in
theorem okM_162 : okM (yX8_laysFars, cX8_laysFars, 9, none, 8, 2, 46, 0) := ⟨List.mem_of_getElem? (i := 1043) rfl, List.mem_of_getElem? (i := 61) (by decide +kernel), ⟨by decide +kernel, by decide +kernel, by decide +kernel⟩, rfl, fun _ => ⟨List.mem_of_getElem? (i := 1042) (by decide +kernel), List.mem_of_getElem? (i := 41) (by decide +kernel), by decide⟩, fun h => absurd h (by decide), fun h => absurd h (by decide)⟩
set_option maxRecDepth 20000 in
theorem okM_163 : okM (yX8_moves, cX8_moves, 6, (some .int), 8, 3, 74, 0) := ⟨List.mem_of_getElem? (i := 1039) rfl, List.mem_of_getElem? (i := 61) (by decide +kernel), ⟨by decide +kernel, by decide +kernel, by decide +kernel⟩, rfl, fun _ => ⟨List.mem_of_getElem? (i := 1037) (by decide +kernel), List.mem_of_getElem? (i := 1038) (by decide +kernel), by decide⟩, fun h => absurd h (by decide), fun h => absurd h (by decide)⟩
set_option maxRecDepth 20000 in
theorem okM_164 : okM (yX8_best, cX8_best, 9, (some .int), 8, 3, 70, 0) := ⟨List.mem_of_getElem? (i := 1063) rfl, List.mem_of_getElem? (i := 61) (by decide +kernel), ⟨by decide +kernel, by decide +kernel, by decide +kernel⟩, rfl, fun _ => ⟨List.mem_of_getElem? (i := 1061) (by decide +kernel), List.mem_of_getElem? (i := 1062) (by decide +kernel), by decide⟩, fun h => absurd h (by decide), fun h => absurd h (by decide)⟩
set_option maxRecDepth 20000 in
theorem okM_165 : okM (yX8_allNight, cX8_allNight, 3, (some .int), 8, 3, 70, 0) := ⟨List.mem_of_getElem? (i := 1071) rfl, List.mem_of_getElem? (i := 61) (by decide +kernel), ⟨by decide +kernel, by decide +kernel, by decide +kernel⟩, rfl, fun _ => ⟨List.mem_of_getElem? (i := 1070) (by decide +kernel), List.mem_of_getElem? (i := 46) (by decide +kernel), by decide⟩, fun h => absurd h (by decide), fun h => absurd h (by decide)⟩
set_option maxRecDepth 20000 in
theorem okM_166 : okM (yX8_wallTo, cX8_wallTo, 7, (some .int), 8, 4, 92, 0) := ⟨List.mem_of_getElem? (i := 1067) rfl, List.mem_of_getElem? (i := 61) (by decide +kernel), ⟨by decide +kernel, by decide +kernel, by decide +kernel⟩, rfl, fun _ => ⟨List.mem_of_getElem? (i := 1065) (by decide +kernel), List.mem_of_getElem? (i := 1066) (by decide +kernel), by decide⟩, fun h => absurd h (by decide), fun h => absurd h (by decide)⟩
set_option maxRecDepth 20000 in
theorem okM_167 : okM (yX8_within, cX8_within, 10, (some .int), 8, 2, 46, 0) := ⟨List.mem_of_getElem? (i := 1075) rfl, List.mem_of_getElem? (i := 61) (by decide +kernel), ⟨by decide +kernel, by decide +kernel, by decide +kernel⟩, rfl, fun _ => ⟨List.mem_of_getElem? (i := 1073) (by decide +kernel), List.mem_of_getElem? (i := 1074) (by decide +kernel), by decide⟩, fun h => absurd h (by decide), fun h => absurd h (by decide)⟩
set_option maxRecDepth 20000 in
theorem okM_168 : okM (yX8_night, cX8_night, 2, (some .int), 8, 4, 92, 0) := ⟨List.mem_of_getElem? (i := 1079) rfl, List.mem_of_getElem? (i := 61) (by decide +kernel), ⟨by decide +kernel, by decide +kernel, by decide +kernel⟩, rfl, fun _ => ⟨List.mem_of_getElem? (i := 1077) (by decide +kernel), List.mem_of_getElem? (i := 1078) (by decide +kernel), by decide⟩, fun h => absurd h (by decide), fun h => absurd h (by decide)⟩
set_option maxRecDepth 20000 in
theorem okM_169 : okM (yX8_heard, cX8_heard, 4, (some .int), 8, 2, 43, 0) := ⟨List.mem_of_getElem? (i := 1083) rfl, List.mem_of_getElem? (i := 61) (by decide +kernel), ⟨by decide +kernel, by decide +kernel, by decide +kernel⟩, rfl, fun _ => ⟨List.mem_of_getElem? (i := 1081) (by decide +kernel), List.mem_of_getElem? (i := 1082) (by decide +kernel), by decide⟩, fun h => absurd h (by decide), fun h => absurd h (by decide)⟩
set_option maxRecDepth 20000 in
theorem okM_170 : okM (yX8_forget, cX8_forget, 2, (some .int), 8, 0, 0, 0) := ⟨List.mem_of_getElem? (i := 1087) rfl, List.mem_of_getElem? (i := 61) (by decide +kernel), ⟨by decide +kernel, by decide +kernel, by decide +kernel⟩, rfl, fun _ => ⟨List.mem_of_getElem? (i := 1085) (by decide +kernel), List.mem_of_getElem? (i := 1086) (by decide +kernel), by decide⟩, fun h => absurd h (by decide), fun h => absurd h (by decide)⟩
set_option maxRecDepth 20000 in
theorem okM_171 : okM (yX8_feigned, cX8_feigned, 5, (some .int), 8, 3, 70, 0) := ⟨List.mem_of_getElem? (i := 1091) rfl, List.mem_of_getElem? (i := 61) (by decide +kernel), ⟨by decide +kernel, by decide +kernel, by decide +kernel⟩, rfl, fun _ => ⟨List.mem_of_getElem? (i := 1089) (by decide +kernel), List.mem_of_getElem? (i := 1090) (by decide +kernel), by decide⟩, fun h => absurd h (by decide), fun h => absurd h (by decide)⟩
set_option maxRecDepth 20000 in
theorem okM_172 : okM (yX8_hums, cX8_hums, 4, (some .int), 8, 2, 43, 0) := ⟨List.mem_of_getElem? (i := 1095) rfl, List.mem_of_getElem? (i := 61) (by decide +kernel), ⟨by decide +kernel, by decide +kernel, by decide +kernel⟩, rfl, fun _ => ⟨List.mem_of_getElem? (i := 1093) (by decide +kernel), List.mem_of_getElem? (i := 1094) (by decide +kernel), by decide⟩, fun h => absurd h (by decide), fun h => absurd h (by decide)⟩
set_option maxRecDepth 20000 in
theorem okM_173 : okM (yX8_odds, cX8_odds, 9, (some .int), 8, 2, 48, 0) := ⟨List.mem_of_getElem? (i := 1099) rfl, List.mem_of_getElem? (i := 61) (by decide +kernel), ⟨by decide +kernel, by decide +kernel, by decide +kernel⟩, rfl, fun _ => ⟨List.mem_of_getElem? (i := 1097) (by decide +kernel), List.mem_of_getElem? (i := 1098) (by decide +kernel), by decide⟩, fun h => absurd h (by decide), fun h => absurd h (by decide)⟩
set_option maxRecDepth 20000 in
theorem okM_174 : okM (yX8_steps, cX8_steps, 2, (some .int), 8, 1, 22, 0) := ⟨List.mem_of_getElem? (i := 1103) rfl, List.mem_of_getElem? (i := 61) (by decide +kernel), ⟨by decide +kernel, by decide +kernel, by decide +kernel⟩, rfl, fun _ => ⟨List.mem_of_getElem? (i := 1101) (by decide +kernel), List.mem_of_getElem? (i := 1102) (by decide +kernel), by decide⟩, fun h => absurd h (by decide), fun h => absurd h (by decide)⟩
set_option maxRecDepth 20000 in
theorem okM_175 : okM (yX8_day, cX8_day, 9, (some .int), 8, 3, 70, 0) := ⟨List.mem_of_getElem? (i := 1107) rfl, List.mem_of_getElem? (i := 61) (by decide +kernel), ⟨by decide +kernel, by decide +kernel, by decide +kernel⟩, rfl, fun _ => ⟨List.mem_of_getElem? (i := 1105) (by decide +kernel), List.mem_of_getElem? (i := 1106) (by decide +kernel), by decide⟩, fun h => absurd h (by decide), fun h => absurd h (by decide)⟩
set_option maxRecDepth 20000 in
theorem okM_176 : okM (yX8_keep, cX8_keep, 2, (some .int), 8, 0, 0, 0) := ⟨List.mem_of_getElem? (i := 1114) rfl, List.mem_of_getElem? (i := 61) (by decide +kernel), ⟨by decide +kernel, by decide +kernel, by decide +kernel⟩, rfl, fun _ => ⟨List.mem_of_getElem? (i := 1112) (by decide +kernel), List.mem_of_getElem? (i := 1113) (by decide +kernel), by decide⟩, fun h => absurd h (by decide), fun h => absurd h (by decide)⟩
set_option maxRecDepth 20000 in
theorem okM_177 : okM (yX8_back, cX8_back, 2, (some .int), 8, 0, 0, 0) := ⟨List.mem_of_getElem? (i := 1118) rfl, List.mem_of_getElem? (i := 61) (by decide +kernel), ⟨by decide +kernel, by decide +kernel, by decide +kernel⟩, rfl, fun _ => ⟨List.mem_of_getElem? (i := 1116) (by decide +kernel), List.mem_of_getElem? (i := 1117) (by decide +kernel), by decide⟩, fun h => absurd h (by decide), fun h => absurd h (by decide)⟩
set_option maxRecDepth 20000 in
theorem okM_178 : okM (yX8_count, cX8_count, 2, (some .int), 8, 1, 22, 0) := ⟨List.mem_of_getElem? (i := 1122) rfl, List.mem_of_getElem? (i := 61) (by decide +kernel), ⟨by decide +kernel, by decide +kernel, by decide +kernel⟩, rfl, fun _ => ⟨List.mem_of_getElem? (i := 1120) (by decide +kernel), List.mem_of_getElem? (i := 1121) (by decide +kernel), by decide⟩, fun h => absurd h (by decide), fun h => absurd h (by decide)⟩
set_option maxRecDepth 20000 in
theorem okM_179 : okM (yJ6_bitCount_0f7a4, cJ6_bitCount_0f7a4, 1, (some .int), 9, 0, 0, 1) := ⟨List.mem_of_getElem? (i := 573) rfl, List.mem_of_getElem? (i := 63) (by decide +kernel), ⟨by decide +kernel, by decide +kernel, by decide +kernel⟩, rfl, fun h => absurd h (by decide), fun _ => List.mem_of_getElem? (i := 572) (by decide +kernel), fun h => absurd h (by decide)⟩
set_option maxRecDepth 20000 in
theorem okM_180 : okM (yJ7_fill_53178, cJ7_fill_53178, 4, none, 10, 0, 0, 1) := ⟨List.mem_of_getElem? (i := 637) rfl, List.mem_of_getElem? (i := 64) (by decide +kernel), ⟨by decide +kernel, by decide +kernel, by decide +kernel⟩, rfl, fun h => absurd h (by decide), fun _ => List.mem_of_getElem? (i := 636) (by decide +kernel), fun h => absurd h (by decide)⟩
set_option maxRecDepth 20000 in
set_option maxHeartbeats 4000000 in
theorem okMs : ∀ m e, mTab[m]? = some e → m < 181 → okM e := by
  intro m e h hm
  match m, h, hm with
  | 0, h, _ => cases h; exact okM_0
  | 1, h, _ => cases h; exact okM_1
  | 2, h, _ => cases h; exact okM_2
  | 3, h, _ => cases h; exact okM_3
  | 4, h, _ => cases h; exact okM_4
  | 5, h, _ => cases h; exact okM_5
  | 6, h, _ => cases h; exact okM_6
  | 7, h, _ => cases h; exact okM_7
  | 8, h, _ => cases h; exact okM_8
  | 9, h, _ => cases h; exact okM_9
  | 10, h, _ => cases h; exact okM_10
  | 11, h, _ => cases h; exact okM_11
  | 12, h, _ => cases h; exact okM_12
  | 13, h, _ => cases h; exact okM_13
  | 14, h, _ => cases h; exact okM_14
  | 15, h, _ => cases h; exact okM_15
  | 16, h, _ => cases h; exact okM_16
  | 17, h, _ => cases h; exact okM_17
  | 18, h, _ => cases h; exact okM_18
  | 19, h, _ => cases h; exact okM_19
  | 20, h, _ => cases h; exact okM_20
  | 21, h, _ => cases h; exact okM_21
  | 22, h, _ => cases h; exact okM_22
  | 23, h, _ => cases h; exact okM_23
  | 24, h, _ => cases h; exact okM_24
  | 25, h, _ => cases h; exact okM_25
  | 26, h, _ => cases h; exact okM_26
  | 27, h, _ => cases h; exact okM_27
  | 28, h, _ => cases h; exact okM_28
  | 29, h, _ => cases h; exact okM_29
  | 30, h, _ => cases h; exact okM_30
  | 31, h, _ => cases h; exact okM_31
  | 32, h, _ => cases h; exact okM_32
  | 33, h, _ => cases h; exact okM_33
  | 34, h, _ => cases h; exact okM_34
  | 35, h, _ => cases h; exact okM_35
  | 36, h, _ => cases h; exact okM_36
  | 37, h, _ => cases h; exact okM_37
  | 38, h, _ => cases h; exact okM_38
  | 39, h, _ => cases h; exact okM_39
  | 40, h, _ => cases h; exact okM_40
  | 41, h, _ => cases h; exact okM_41
  | 42, h, _ => cases h; exact okM_42
  | 43, h, _ => cases h; exact okM_43
  | 44, h, _ => cases h; exact okM_44
  | 45, h, _ => cases h; exact okM_45
  | 46, h, _ => cases h; exact okM_46
  | 47, h, _ => cases h; exact okM_47
  | 48, h, _ => cases h; exact okM_48
  | 49, h, _ => cases h; exact okM_49
  | 50, h, _ => cases h; exact okM_50
  | 51, h, _ => cases h; exact okM_51
  | 52, h, _ => cases h; exact okM_52
  | 53, h, _ => cases h; exact okM_53
  | 54, h, _ => cases h; exact okM_54
  | 55, h, _ => cases h; exact okM_55
  | 56, h, _ => cases h; exact okM_56
  | 57, h, _ => cases h; exact okM_57
  | 58, h, _ => cases h; exact okM_58
  | 59, h, _ => cases h; exact okM_59
  | 60, h, _ => cases h; exact okM_60
  | 61, h, _ => cases h; exact okM_61
  | 62, h, _ => cases h; exact okM_62
  | 63, h, _ => cases h; exact okM_63
  | 64, h, _ => cases h; exact okM_64
  | 65, h, _ => cases h; exact okM_65
  | 66, h, _ => cases h; exact okM_66
  | 67, h, _ => cases h; exact okM_67
  | 68, h, _ => cases h; exact okM_68
  | 69, h, _ => cases h; exact okM_69
  | 70, h, _ => cases h; exact okM_70
  | 71, h, _ => cases h; exact okM_71
  | 72, h, _ => cases h; exact okM_72
  | 73, h, _ => cases h; exact okM_73
  | 74, h, _ => cases h; exact okM_74
  | 75, h, _ => cases h; exact okM_75
  | 76, h, _ => cases h; exact okM_76
  | 77, h, _ => cases h; exact okM_77
  | 78, h, _ => cases h; exact okM_78
  | 79, h, _ => cases h; exact okM_79
  | 80, h, _ => cases h; exact okM_80
  | 81, h, _ => cases h; exact okM_81
  | 82, h, _ => cases h; exact okM_82
  | 83, h, _ => cases h; exact okM_83
  | 84, h, _ => cases h; exact okM_84
  | 85, h, _ => cases h; exact okM_85
  | 86, h, _ => cases h; exact okM_86
  | 87, h, _ => cases h; exact okM_87
  | 88, h, _ => cases h; exact okM_88
  | 89, h, _ => cases h; exact okM_89
  | 90, h, _ => cases h; exact okM_90
  | 91, h, _ => cases h; exact okM_91
  | 92, h, _ => cases h; exact okM_92
  | 93, h, _ => cases h; exact okM_93
  | 94, h, _ => cases h; exact okM_94
  | 95, h, _ => cases h; exact okM_95
  | 96, h, _ => cases h; exact okM_96
  | 97, h, _ => cases h; exact okM_97
  | 98, h, _ => cases h; exact okM_98
  | 99, h, _ => cases h; exact okM_99
  | 100, h, _ => cases h; exact okM_100
  | 101, h, _ => cases h; exact okM_101
  | 102, h, _ => cases h; exact okM_102
  | 103, h, _ => cases h; exact okM_103
  | 104, h, _ => cases h; exact okM_104
  | 105, h, _ => cases h; exact okM_105
  | 106, h, _ => cases h; exact okM_106
  | 107, h, _ => cases h; exact okM_107
  | 108, h, _ => cases h; exact okM_108
  | 109, h, _ => cases h; exact okM_109
  | 110, h, _ => cases h; exact okM_110
  | 111, h, _ => cases h; exact okM_111
  | 112, h, _ => cases h; exact okM_112
  | 113, h, _ => cases h; exact okM_113
  | 114, h, _ => cases h; exact okM_114
  | 115, h, _ => cases h; exact okM_115
  | 116, h, _ => cases h; exact okM_116
  | 117, h, _ => cases h; exact okM_117
  | 118, h, _ => cases h; exact okM_118
  | 119, h, _ => cases h; exact okM_119
  | 120, h, _ => cases h; exact okM_120
  | 121, h, _ => cases h; exact okM_121
  | 122, h, _ => cases h; exact okM_122
  | 123, h, _ => cases h; exact okM_123
  | 124, h, _ => cases h; exact okM_124
  | 125, h, _ => cases h; exact okM_125
  | 126, h, _ => cases h; exact okM_126
  | 127, h, _ => cases h; exact okM_127
  | 128, h, _ => cases h; exact okM_128
  | 129, h, _ => cases h; exact okM_129
  | 130, h, _ => cases h; exact okM_130
  | 131, h, _ => cases h; exact okM_131
  | 132, h, _ => cases h; exact okM_132
  | 133, h, _ => cases h; exact okM_133
  | 134, h, _ => cases h; exact okM_134
  | 135, h, _ => cases h; exact okM_135
  | 136, h, _ => cases h; exact okM_136
  | 137, h, _ => cases h; exact okM_137
  | 138, h, _ => cases h; exact okM_138
  | 139, h, _ => cases h; exact okM_139
  | 140, h, _ => cases h; exact okM_140
  | 141, h, _ => cases h; exact okM_141
  | 142, h, _ => cases h; exact okM_142
  | 143, h, _ => cases h; exact okM_143
  | 144, h, _ => cases h; exact okM_144
  | 145, h, _ => cases h; exact okM_145
  | 146, h, _ => cases h; exact okM_146
  | 147, h, _ => cases h; exact okM_147
  | 148, h, _ => cases h; exact okM_148
  | 149, h, _ => cases h; exact okM_149
  | 150, h, _ => cases h; exact okM_150
  | 151, h, _ => cases h; exact okM_151
  | 152, h, _ => cases h; exact okM_152
  | 153, h, _ => cases h; exact okM_153
  | 154, h, _ => cases h; exact okM_154
  | 155, h, _ => cases h; exact okM_155
  | 156, h, _ => cases h; exact okM_156
  | 157, h, _ => cases h; exact okM_157
  | 158, h, _ => cases h; exact okM_158
  | 159, h, _ => cases h; exact okM_159
  | 160, h, _ => cases h; exact okM_160
  | 161, h, _ => cases h; exact okM_161
  | 162, h, _ => cases h; exact okM_162
  | 163, h, _ => cases h; exact okM_163
  | 164, h, _ => cases h; exact okM_164
  | 165, h, _ => cases h; exact okM_165
  | 166, h, _ => cases h; exact okM_166
  | 167, h, _ => cases h; exact okM_167
  | 168, h, _ => cases h; exact okM_168
  | 169, h, _ => cases h; exact okM_169
  | 170, h, _ => cases h; exact okM_170
  | 171, h, _ => cases h; exact okM_171
  | 172, h, _ => cases h; exact okM_172
  | 173, h, _ => cases h; exact okM_173
  | 174, h, _ => cases h; exact okM_174
  | 175, h, _ => cases h; exact okM_175
  | 176, h, _ => cases h; exact okM_176
  | 177, h, _ => cases h; exact okM_177
  | 178, h, _ => cases h; exact okM_178
  | 179, h, _ => cases h; exact okM_179
  | 180, h, _ => cases h; exact okM_180
  | n + 181, _, hm => exact absurd hm (by omega)
