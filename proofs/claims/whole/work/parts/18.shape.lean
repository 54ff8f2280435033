/-! ===== The memory once both objects are made: shapes by address (by program) ===== -/
/-- an object of State at q, its rows behind it -/
def stO (q : Nat) : mm_Sh := mm_obj 7 [none, none, none, none, some (some (q + 1)), some (some (q + 2)), some (some (q + 3)), some (some (q + 4)), some (some (q + 5))]
def stA (k : Nat) : mm_Sh := match k with
  | 1 => mm_arr 0 6
  | 2 => mm_arr 0 6
  | 3 => mm_arr 0 20
  | _ => mm_arr 0 10
/-- a cell of a row of States that begins at b -/
def stR (b a : Nat) : mm_Sh := if (a - b) % 6 = 0 then stO a else stA ((a - b) % 6)
def SHx (w : Bool) (a : Nat) : mm_Sh := match a with
  | 0 => mm_obj 11 [some (some 1), some (some 3), some (some (if w then 22 else 9)), some (some (if w then 9 else 22)), some (some 35), some (some 41), some (some 47), some (some 51), some (some 53), some (some 57), some (some 299), some (some 304), none]
  | 1 => mm_obj 8 [some (some 2), none]
  | 2 => mm_arr 1 2000
  | 3 => mm_obj 4 [some (some 4), none, none, none, none, none]
  | 4 => mm_obj 9 [some (some 5), some (some 6), some (some 7), some (some 8)]
  | 5 => mm_arr 0 401
  | 6 => mm_arr 0 401
  | 7 => mm_arr 3 401
  | 8 => mm_arr 3 21
  | 9 => mm_obj 3 [some (some 10), some (some 11), some (some 12), some (some 13), some (some 14), some (some 15), some (some 16), some (some 17), none, none, none, none, none]
  | 10 => mm_arr 3 7
  | 11 => mm_arr 3 6
  | 12 => mm_arr 0 6
  | 13 => mm_arr 0 12
  | 14 => mm_arr 0 20
  | 15 => mm_arr 0 20
  | 16 => mm_arr 0 10
  | 17 => mm_obj 1 [some (some 18), some (some 19), some (some 20), some (some 21), none]
  | 18 => mm_arr 0 404
  | 19 => mm_arr 0 404
  | 20 => mm_arr 0 4
  | 21 => mm_arr 0 4
  | 22 => mm_obj 3 [some (some 23), some (some 24), some (some 25), some (some 26), some (some 27), some (some 28), some (some 29), some (some 30), none, none, none, none, none]
  | 23 => mm_arr 3 7
  | 24 => mm_arr 3 6
  | 25 => mm_arr 0 6
  | 26 => mm_arr 0 12
  | 27 => mm_arr 0 20
  | 28 => mm_arr 0 20
  | 29 => mm_arr 0 10
  | 30 => mm_obj 1 [some (some 31), some (some 32), some (some 33), some (some 34), none]
  | 31 => mm_arr 0 404
  | 32 => mm_arr 0 404
  | 33 => mm_arr 0 4
  | 34 => mm_arr 0 4
  | 47 => mm_obj 6 [some (some 48), some (some 49), some (some 50)]
  | 48 => mm_arr 0 64
  | 49 => mm_arr 0 9
  | 50 => mm_arr 0 10
  | 51 => mm_obj 5 [some (some 52)]
  | 52 => mm_arr 0 10
  | 53 => mm_obj 2 [some (some 54), none, some (some 55), some (some 56), none, none]
  | 54 => mm_arr 0 6
  | 55 => mm_arr 0 6
  | 56 => mm_arr 0 36
  | 57 => mm_obj 0 [some (some 58), none, none]
  | 58 => mm_rows 40 (fun i => if i < 40 then some (59 + 6 * i) else none)
  | 299 => mm_obj 10 [some (some 300), some (some 301), some (some 302), some (some 303), none]
  | 300 => mm_arr 0 20
  | 301 => mm_arr 0 20
  | 302 => mm_arr 2 20
  | 303 => mm_arr 0 7
  | 304 => mm_rows 3 (fun i => if i < 3 then some (305 + 6 * i) else none)
  | 323 => mm_obj 12 [none, some (some 324), none, some (some 325), none, some (some 326), some (some 327), some (some 328), some (some 329), some (some 330), none, none, none, none, none, none, none, none, none, none, none, some (some 331), some (some 332), some (some 333), some (some 334), some (some 335), some (some 336), some (some 337), some (some 338), some (some 339), some (some 340), some (some 341), some (some 342), some (some 343), some (some 344), some (some 345), some (some 346), some (some 347), none, some (some 348), some (some 349), some (some 350), some (some 351), some (some 352), none, some (some 353), some (some 354), some (some 355), none, some (some 356), some (some 357), none, some (some 358), some (some 359), none, none, some (some 360), some (some 361), some (some 362), none, some (some 363), some (some 364), none, some (some 365), some (some 366), some (some 367), some (some 368), some (some 369)]
  | 324 => mm_arr 1 2000
  | 325 => mm_arr 1 2000
  | 326 => mm_arr 0 403
  | 327 => mm_arr 0 403
  | 328 => mm_arr 0 403
  | 329 => mm_arr 3 403
  | 330 => mm_arr 3 21
  | 331 => mm_arr 3 13
  | 332 => mm_arr 0 13
  | 333 => mm_arr 0 2
  | 334 => mm_arr 0 2
  | 335 => mm_arr 0 12
  | 336 => mm_arr 0 12
  | 337 => mm_arr 0 12
  | 338 => mm_arr 0 2
  | 339 => mm_arr 0 20
  | 340 => mm_arr 0 20
  | 341 => mm_arr 0 20
  | 342 => mm_arr 0 20
  | 343 => mm_arr 0 20
  | 344 => mm_arr 0 2
  | 345 => mm_arr 0 2
  | 346 => mm_arr 0 8
  | 347 => mm_arr 0 8
  | 348 => mm_arr 2 260
  | 349 => mm_arr 0 260
  | 350 => mm_arr 0 260
  | 351 => mm_arr 0 260
  | 352 => mm_arr 0 260
  | 353 => mm_arr 0 840
  | 354 => mm_arr 0 840
  | 355 => mm_arr 0 64
  | 356 => mm_arr 0 9
  | 357 => mm_arr 0 400
  | 358 => mm_arr 0 69
  | 359 => mm_arr 0 69
  | 360 => mm_arr 2 6
  | 361 => mm_arr 0 10
  | 362 => mm_arr 2 10
  | 363 => mm_arr 0 2760
  | 364 => mm_arr 0 64
  | 365 => mm_arr 0 20
  | 366 => mm_arr 0 20
  | 367 => mm_arr 2 20
  | 368 => mm_arr 2 3
  | 369 => mm_arr 0 207
  | _ => mm_arr 9 0
/-- the shapes; w: the two parishes have changed places -/
def SH (w : Bool) (a : Nat) : mm_Sh := if 35 ≤ a ∧ a < 47 then stR 35 a else if 59 ≤ a ∧ a < 299 then stR 59 a else if 305 ≤ a ∧ a < 323 then stR 305 a else SHx w a
theorem SH_0 {w : Bool} : SH w 0 = mm_obj 11 [some (some 1), some (some 3), some (some (if w then 22 else 9)), some (some (if w then 9 else 22)), some (some 35), some (some 41), some (some 47), some (some 51), some (some 53), some (some 57), some (some 299), some (some 304), none] := rfl
theorem SH_1 {w : Bool} : SH w 1 = mm_obj 8 [some (some 2), none] := rfl
theorem SH_2 {w : Bool} : SH w 2 = mm_arr 1 2000 := rfl
theorem SH_3 {w : Bool} : SH w 3 = mm_obj 4 [some (some 4), none, none, none, none, none] := rfl
theorem SH_4 {w : Bool} : SH w 4 = mm_obj 9 [some (some 5), some (some 6), some (some 7), some (some 8)] := rfl
theorem SH_5 {w : Bool} : SH w 5 = mm_arr 0 401 := rfl
theorem SH_6 {w : Bool} : SH w 6 = mm_arr 0 401 := rfl
theorem SH_7 {w : Bool} : SH w 7 = mm_arr 3 401 := rfl
theorem SH_8 {w : Bool} : SH w 8 = mm_arr 3 21 := rfl
theorem SH_9 {w : Bool} : SH w 9 = mm_obj 3 [some (some 10), some (some 11), some (some 12), some (some 13), some (some 14), some (some 15), some (some 16), some (some 17), none, none, none, none, none] := rfl
theorem SH_10 {w : Bool} : SH w 10 = mm_arr 3 7 := rfl
theorem SH_11 {w : Bool} : SH w 11 = mm_arr 3 6 := rfl
theorem SH_12 {w : Bool} : SH w 12 = mm_arr 0 6 := rfl
theorem SH_13 {w : Bool} : SH w 13 = mm_arr 0 12 := rfl
theorem SH_14 {w : Bool} : SH w 14 = mm_arr 0 20 := rfl
theorem SH_15 {w : Bool} : SH w 15 = mm_arr 0 20 := rfl
theorem SH_16 {w : Bool} : SH w 16 = mm_arr 0 10 := rfl
theorem SH_17 {w : Bool} : SH w 17 = mm_obj 1 [some (some 18), some (some 19), some (some 20), some (some 21), none] := rfl
theorem SH_18 {w : Bool} : SH w 18 = mm_arr 0 404 := rfl
theorem SH_19 {w : Bool} : SH w 19 = mm_arr 0 404 := rfl
theorem SH_20 {w : Bool} : SH w 20 = mm_arr 0 4 := rfl
theorem SH_21 {w : Bool} : SH w 21 = mm_arr 0 4 := rfl
theorem SH_22 {w : Bool} : SH w 22 = mm_obj 3 [some (some 23), some (some 24), some (some 25), some (some 26), some (some 27), some (some 28), some (some 29), some (some 30), none, none, none, none, none] := rfl
theorem SH_23 {w : Bool} : SH w 23 = mm_arr 3 7 := rfl
theorem SH_24 {w : Bool} : SH w 24 = mm_arr 3 6 := rfl
theorem SH_25 {w : Bool} : SH w 25 = mm_arr 0 6 := rfl
theorem SH_26 {w : Bool} : SH w 26 = mm_arr 0 12 := rfl
theorem SH_27 {w : Bool} : SH w 27 = mm_arr 0 20 := rfl
theorem SH_28 {w : Bool} : SH w 28 = mm_arr 0 20 := rfl
theorem SH_29 {w : Bool} : SH w 29 = mm_arr 0 10 := rfl
theorem SH_30 {w : Bool} : SH w 30 = mm_obj 1 [some (some 31), some (some 32), some (some 33), some (some 34), none] := rfl
theorem SH_31 {w : Bool} : SH w 31 = mm_arr 0 404 := rfl
theorem SH_32 {w : Bool} : SH w 32 = mm_arr 0 404 := rfl
theorem SH_33 {w : Bool} : SH w 33 = mm_arr 0 4 := rfl
theorem SH_34 {w : Bool} : SH w 34 = mm_arr 0 4 := rfl
theorem SH_47 {w : Bool} : SH w 47 = mm_obj 6 [some (some 48), some (some 49), some (some 50)] := rfl
theorem SH_48 {w : Bool} : SH w 48 = mm_arr 0 64 := rfl
theorem SH_49 {w : Bool} : SH w 49 = mm_arr 0 9 := rfl
theorem SH_50 {w : Bool} : SH w 50 = mm_arr 0 10 := rfl
theorem SH_51 {w : Bool} : SH w 51 = mm_obj 5 [some (some 52)] := rfl
theorem SH_52 {w : Bool} : SH w 52 = mm_arr 0 10 := rfl
theorem SH_53 {w : Bool} : SH w 53 = mm_obj 2 [some (some 54), none, some (some 55), some (some 56), none, none] := rfl
theorem SH_54 {w : Bool} : SH w 54 = mm_arr 0 6 := rfl
theorem SH_55 {w : Bool} : SH w 55 = mm_arr 0 6 := rfl
theorem SH_56 {w : Bool} : SH w 56 = mm_arr 0 36 := rfl
theorem SH_57 {w : Bool} : SH w 57 = mm_obj 0 [some (some 58), none, none] := rfl
theorem SH_58 {w : Bool} : SH w 58 = mm_rows 40 (fun i => if i < 40 then some (59 + 6 * i) else none) := rfl
theorem SH_299 {w : Bool} : SH w 299 = mm_obj 10 [some (some 300), some (some 301), some (some 302), some (some 303), none] := rfl
theorem SH_300 {w : Bool} : SH w 300 = mm_arr 0 20 := rfl
theorem SH_301 {w : Bool} : SH w 301 = mm_arr 0 20 := rfl
theorem SH_302 {w : Bool} : SH w 302 = mm_arr 2 20 := rfl
theorem SH_303 {w : Bool} : SH w 303 = mm_arr 0 7 := rfl
theorem SH_304 {w : Bool} : SH w 304 = mm_rows 3 (fun i => if i < 3 then some (305 + 6 * i) else none) := rfl
theorem SH_323 {w : Bool} : SH w 323 = mm_obj 12 [none, some (some 324), none, some (some 325), none, some (some 326), some (some 327), some (some 328), some (some 329), some (some 330), none, none, none, none, none, none, none, none, none, none, none, some (some 331), some (some 332), some (some 333), some (some 334), some (some 335), some (some 336), some (some 337), some (some 338), some (some 339), some (some 340), some (some 341), some (some 342), some (some 343), some (some 344), some (some 345), some (some 346), some (some 347), none, some (some 348), some (some 349), some (some 350), some (some 351), some (some 352), none, some (some 353), some (some 354), some (some 355), none, some (some 356), some (some 357), none, some (some 358), some (some 359), none, none, some (some 360), some (some 361), some (some 362), none, some (some 363), some (some 364), none, some (some 365), some (some 366), some (some 367), some (some 368), some (some 369)] := rfl
theorem SH_324 {w : Bool} : SH w 324 = mm_arr 1 2000 := rfl
theorem SH_325 {w : Bool} : SH w 325 = mm_arr 1 2000 := rfl
theorem SH_326 {w : Bool} : SH w 326 = mm_arr 0 403 := rfl
theorem SH_327 {w : Bool} : SH w 327 = mm_arr 0 403 := rfl
theorem SH_328 {w : Bool} : SH w 328 = mm_arr 0 403 := rfl
theorem SH_329 {w : Bool} : SH w 329 = mm_arr 3 403 := rfl
theorem SH_330 {w : Bool} : SH w 330 = mm_arr 3 21 := rfl
theorem SH_331 {w : Bool} : SH w 331 = mm_arr 3 13 := rfl
theorem SH_332 {w : Bool} : SH w 332 = mm_arr 0 13 := rfl
theorem SH_333 {w : Bool} : SH w 333 = mm_arr 0 2 := rfl
theorem SH_334 {w : Bool} : SH w 334 = mm_arr 0 2 := rfl
theorem SH_335 {w : Bool} : SH w 335 = mm_arr 0 12 := rfl
theorem SH_336 {w : Bool} : SH w 336 = mm_arr 0 12 := rfl
theorem SH_337 {w : Bool} : SH w 337 = mm_arr 0 12 := rfl
theorem SH_338 {w : Bool} : SH w 338 = mm_arr 0 2 := rfl
theorem SH_339 {w : Bool} : SH w 339 = mm_arr 0 20 := rfl
theorem SH_340 {w : Bool} : SH w 340 = mm_arr 0 20 := rfl
theorem SH_341 {w : Bool} : SH w 341 = mm_arr 0 20 := rfl
theorem SH_342 {w : Bool} : SH w 342 = mm_arr 0 20 := rfl
theorem SH_343 {w : Bool} : SH w 343 = mm_arr 0 20 := rfl
theorem SH_344 {w : Bool} : SH w 344 = mm_arr 0 2 := rfl
theorem SH_345 {w : Bool} : SH w 345 = mm_arr 0 2 := rfl
theorem SH_346 {w : Bool} : SH w 346 = mm_arr 0 8 := rfl
theorem SH_347 {w : Bool} : SH w 347 = mm_arr 0 8 := rfl
theorem SH_348 {w : Bool} : SH w 348 = mm_arr 2 260 := rfl
theorem SH_349 {w : Bool} : SH w 349 = mm_arr 0 260 := rfl
theorem SH_350 {w : Bool} : SH w 350 = mm_arr 0 260 := rfl
theorem SH_351 {w : Bool} : SH w 351 = mm_arr 0 260 := rfl
theorem SH_352 {w : Bool} : SH w 352 = mm_arr 0 260 := rfl
theorem SH_353 {w : Bool} : SH w 353 = mm_arr 0 840 := rfl
theorem SH_354 {w : Bool} : SH w 354 = mm_arr 0 840 := rfl
theorem SH_355 {w : Bool} : SH w 355 = mm_arr 0 64 := rfl
theorem SH_356 {w : Bool} : SH w 356 = mm_arr 0 9 := rfl
theorem SH_357 {w : Bool} : SH w 357 = mm_arr 0 400 := rfl
theorem SH_358 {w : Bool} : SH w 358 = mm_arr 0 69 := rfl
theorem SH_359 {w : Bool} : SH w 359 = mm_arr 0 69 := rfl
theorem SH_360 {w : Bool} : SH w 360 = mm_arr 2 6 := rfl
theorem SH_361 {w : Bool} : SH w 361 = mm_arr 0 10 := rfl
theorem SH_362 {w : Bool} : SH w 362 = mm_arr 2 10 := rfl
theorem SH_363 {w : Bool} : SH w 363 = mm_arr 0 2760 := rfl
theorem SH_364 {w : Bool} : SH w 364 = mm_arr 0 64 := rfl
theorem SH_365 {w : Bool} : SH w 365 = mm_arr 0 20 := rfl
theorem SH_366 {w : Bool} : SH w 366 = mm_arr 0 20 := rfl
theorem SH_367 {w : Bool} : SH w 367 = mm_arr 2 20 := rfl
theorem SH_368 {w : Bool} : SH w 368 = mm_arr 2 3 := rfl
theorem SH_369 {w : Bool} : SH w 369 = mm_arr 0 207 := rfl
/-- a State lies at q -/
def IsSt (w : Bool) (q : Nat) : Prop := SH w q = stO q ∧ SH w (q + 1) = mm_arr 0 6 ∧ SH w (q + 2) = mm_arr 0 6 ∧ SH w (q + 3) = mm_arr 0 20 ∧ SH w (q + 4) = mm_arr 0 10 ∧ SH w (q + 5) = mm_arr 0 10
theorem IsSt_now {w : Bool} : IsSt w 35 := ⟨rfl, rfl, rfl, rfl, rfl, rfl⟩
theorem IsSt_trial {w : Bool} : IsSt w 41 := ⟨rfl, rfl, rfl, rfl, rfl, rfl⟩
theorem IsSt_s0 {w : Bool} : IsSt w 305 := ⟨rfl, rfl, rfl, rfl, rfl, rfl⟩
theorem IsSt_s1 {w : Bool} : IsSt w 311 := ⟨rfl, rfl, rfl, rfl, rfl, rfl⟩
theorem IsSt_s2 {w : Bool} : IsSt w 317 := ⟨rfl, rfl, rfl, rfl, rfl, rfl⟩
