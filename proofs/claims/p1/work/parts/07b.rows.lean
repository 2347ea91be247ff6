theorem ok13_moves {S : HP} {x0 : Int} {x1 : Int} {x2 : Int} {x3 : Int} {x4 : Int} {x5 : Int} {r : Int × HP} (h : s13_moves S x0 x1 x2 x3 x4 x5 = some r) : 0 ≤ x0 ∧ x0.toNat < e_n S ∧ e_g S x0.toNat = 13 := (gd_some h).1
set_option maxRecDepth 100000 in
set_option maxHeartbeats 4000000 in
theorem w13_moves_b414 {p : Program} {l : Launch} {e : Env} {s : State} {m : MethodId} {args : Array Value} {below : List Frame} {meth : Method} {c : Code} {D : va_G} {cA : Nat → ClassId} {B : Nat} {res : Int × HP} (E : e_En p s m args meth c cX13_moves RX13 7 (some .boolean)) {ls : Array Slot} {H : Heap} {locs : List Loc} {S : HP} {y0 : Int} (hp : e_Pic D cA B S s H) (hS : va_S (e_A B) s.heap H locs) (hl : e_lo ls 7 []) (hsh : s13_moves_b414 S y0 = some res) : W p l e ({ frames := 6, cells := 0, slots := 0, locals := 137 } : Room) s m args below meth c H locs 0 0 (MQ below (e_Qi D cA B res.1 res.2) args s 0 0 (e_A B)) (F0 m 414 ls [.int (iI (y0))]) := by
  obtain ⟨hx, hb, hml, hown, hts, hlk, hrt⟩ := id E
  unfold s13_moves_b414 at hsh
  obtain ⟨hz, hz1, hz2⟩ := zR_some hsh
  rw [← hz1, ← hz2]
  exact e_zret hx hb hrt hlk hp hS hz dX13_moves_414
set_option maxRecDepth 100000 in
set_option maxHeartbeats 4000000 in
theorem w13_moves_b481 {p : Program} {l : Launch} {e : Env} {s : State} {m : MethodId} {args : Array Value} {below : List Frame} {meth : Method} {c : Code} {D : va_G} {cA : Nat → ClassId} {B : Nat} {res : Int × HP} (E : e_En p s m args meth c cX13_moves RX13 7 (some .boolean)) {ls : Array Slot} {H : Heap} {locs : List Loc} {S : HP} {x0 : Int} {x3 : Int} {y0 : Int} {y1 : Int} (hp : e_Pic D cA B S s H) (hS : va_S (e_A B) s.heap H locs) (hl : e_lo ls 7 [(0, e_rv B (x0)), (3, .int (iI (x3)))]) (hsh : s13_moves_b481 S x0 x3 y0 y1 = some res) : W p l e ({ frames := 6, cells := 0, slots := 0, locals := 137 } : Room) s m args below meth c H locs 0 0 (MQ below (e_Qi D cA B res.1 res.2) args s 0 0 (e_A B)) (F0 m 481 ls [.int (iI (y1)), e_rv B (y0)]) := by
  obtain ⟨hx, hb, hml, hown, hts, hlk, hrt⟩ := id E
  unfold s13_moves_b481 at hsh
  refine e_aload_n (B := B) (x := x0) hx hb dX13_moves_481 rfl (hl.at 0 rfl) ?_
  obtain ⟨v482, h482, hsh⟩ := Option.bind_eq_some_iff.mp hsh
  refine e_getI (k := 50) hx hb hts in_X13 hown hp h482 rfl (by decide) (by decide) rfl (hts _ kf13_374) rfl dX13_moves_482 ?_
  refine lv_iload_n hx hb dX13_moves_485 rfl (hl.at 1 rfl) ?_
  obtain ⟨⟨v486, S486⟩, h486, hsh⟩ := Option.bind_eq_some_iff.mp hsh
  have hsh : _ = _ := hsh
  try dsimp only at hsh
  have ok486 := ok13_goesFound h486
  refine e_callI (nL := 7) (mc := 0) (ms := 0) (T := TX13) (N := 126) (As := [.int (iI (y1)), .int (iI (v482)), .int (iI (x3))]) (rest := []) hx hb hml hown hts hp hS hl.size ok486.1 ok486.2.1 ok486.2.2 rfl (by decide) (c13_goesFound l D cA B S S486 (y0) (y1) (v482) (x3) v486 h486) rfl rfl kd13_goesFound (kl13_368) ks13_goesFound kv13_goesFound ki13 kh13_goesFound ⟨Nat.le_of_ble_eq_true rfl, Nat.le_of_ble_eq_true rfl⟩ rfl (by simp [e_rv_cat, e_int_cat]) ⟨Nat.le_refl _, Nat.le_refl _⟩ dX13_moves_486 rfl (fun H locs hp hS => ?_)
  obtain ⟨hz, hz1, hz2⟩ := zR_some hsh
  rw [← hz1, ← hz2]
  exact e_zret hx hb hrt hlk hp hS hz dX13_moves_489
set_option maxRecDepth 100000 in
set_option maxHeartbeats 4000000 in
theorem w13_moves_b573 {p : Program} {l : Launch} {e : Env} {s : State} {m : MethodId} {args : Array Value} {below : List Frame} {meth : Method} {c : Code} {D : va_G} {cA : Nat → ClassId} {B : Nat} {res : Int × HP} (E : e_En p s m args meth c cX13_moves RX13 7 (some .boolean)) {ls : Array Slot} {H : Heap} {locs : List Loc} {S : HP} {x3 : Int} {y0 : Int} {y1 : Int} (hp : e_Pic D cA B S s H) (hS : va_S (e_A B) s.heap H locs) (hl : e_lo ls 7 [(3, .int (iI (x3)))]) (hsh : s13_moves_b573 S x3 y0 y1 = some res) : W p l e ({ frames := 6, cells := 0, slots := 0, locals := 137 } : Room) s m args below meth c H locs 0 0 (MQ below (e_Qi D cA B res.1 res.2) args s 0 0 (e_A B)) (F0 m 573 ls [.int (iI (y1)), e_rv B (y0)]) := by
  obtain ⟨hx, hb, hml, hown, hts, hlk, hrt⟩ := id E
  unfold s13_moves_b573 at hsh
  refine lv_iload_n hx hb dX13_moves_573 rfl (hl.at 0 rfl) ?_
  obtain ⟨⟨v574, S574⟩, h574, hsh⟩ := Option.bind_eq_some_iff.mp hsh
  have hsh : _ = _ := hsh
  try dsimp only at hsh
  have ok574 := ok13_goesSoughts h574
  refine e_callI (nL := 7) (mc := 0) (ms := 0) (T := TX13) (N := 126) (As := [.int (iI (y1)), .int (iI (x3))]) (rest := []) hx hb hml hown hts hp hS hl.size ok574.1 ok574.2.1 ok574.2.2 rfl (by decide) (c13_goesSoughts l D cA B S S574 (y0) (y1) (x3) v574 h574) rfl rfl kd13_goesSoughts (kl13_389) ks13_goesSoughts kv13_goesSoughts ki13 kh13_goesSoughts ⟨Nat.le_of_ble_eq_true rfl, Nat.le_of_ble_eq_true rfl⟩ rfl (by simp [e_rv_cat, e_int_cat]) ⟨Nat.le_refl _, Nat.le_refl _⟩ dX13_moves_574 rfl (fun H locs hp hS => ?_)
  obtain ⟨hz, hz1, hz2⟩ := zR_some hsh
  rw [← hz1, ← hz2]
  exact e_zret hx hb hrt hlk hp hS hz dX13_moves_577
set_option maxRecDepth 100000 in
set_option maxHeartbeats 4000000 in
theorem w13_moves_b530 {p : Program} {l : Launch} {e : Env} {s : State} {m : MethodId} {args : Array Value} {below : List Frame} {meth : Method} {c : Code} {D : va_G} {cA : Nat → ClassId} {B : Nat} {res : Int × HP} (E : e_En p s m args meth c cX13_moves RX13 7 (some .boolean)) {ls : Array Slot} {H : Heap} {locs : List Loc} {S : HP} {y0 : Int} {y1 : Int} (hp : e_Pic D cA B S s H) (hS : va_S (e_A B) s.heap H locs) (hl : e_lo ls 7 []) (hsh : s13_moves_b530 S y0 y1 = some res) : W p l e ({ frames := 6, cells := 0, slots := 0, locals := 137 } : Room) s m args below meth c H locs 0 0 (MQ below (e_Qi D cA B res.1 res.2) args s 0 0 (e_A B)) (F0 m 530 ls [.int (iI (y1)), e_rv B (y0)]) := by
  obtain ⟨hx, hb, hml, hown, hts, hlk, hrt⟩ := id E
  unfold s13_moves_b530 at hsh
  obtain ⟨⟨v530, S530⟩, h530, hsh⟩ := Option.bind_eq_some_iff.mp hsh
  have hsh : _ = _ := hsh
  try dsimp only at hsh
  have ok530 := ok13_goesLine h530
  refine e_callI (nL := 7) (mc := 0) (ms := 0) (T := TX13) (N := 126) (As := [.int (iI (y1))]) (rest := []) hx hb hml hown hts hp hS hl.size ok530.1 ok530.2.1 ok530.2.2 rfl (by decide) (c13_goesLine l D cA B S S530 (y0) (y1) v530 h530) rfl rfl kd13_goesLine (kl13_380) ks13_goesLine kv13_goesLine ki13 kh13_goesLine ⟨Nat.le_of_ble_eq_true rfl, Nat.le_of_ble_eq_true rfl⟩ rfl (by simp [e_rv_cat, e_int_cat]) ⟨Nat.le_refl _, Nat.le_refl _⟩ dX13_moves_530 rfl (fun H locs hp hS => ?_)
  obtain ⟨hz, hz1, hz2⟩ := zR_some hsh
  rw [← hz1, ← hz2]
  exact e_zret hx hb hrt hlk hp hS hz dX13_moves_533
set_option maxRecDepth 100000 in
set_option maxHeartbeats 4000000 in
theorem w13_moves_b282 {p : Program} {l : Launch} {e : Env} {s : State} {m : MethodId} {args : Array Value} {below : List Frame} {meth : Method} {c : Code} {D : va_G} {cA : Nat → ClassId} {B : Nat} {res : Int × HP} (E : e_En p s m args meth c cX13_moves RX13 7 (some .boolean)) {ls : Array Slot} {H : Heap} {locs : List Loc} {S : HP} {y0 : Int} (hp : e_Pic D cA B S s H) (hS : va_S (e_A B) s.heap H locs) (hl : e_lo ls 7 []) (hsh : s13_moves_b282 S y0 = some res) : W p l e ({ frames := 6, cells := 0, slots := 0, locals := 137 } : Room) s m args below meth c H locs 0 0 (MQ below (e_Qi D cA B res.1 res.2) args s 0 0 (e_A B)) (F0 m 282 ls [.int (iI (y0))]) := by
  obtain ⟨hx, hb, hml, hown, hts, hlk, hrt⟩ := id E
  unfold s13_moves_b282 at hsh
  obtain ⟨hz, hz1, hz2⟩ := zR_some hsh
  rw [← hz1, ← hz2]
  exact e_zret hx hb hrt hlk hp hS hz dX13_moves_282
set_option maxRecDepth 100000 in
set_option maxHeartbeats 4000000 in
theorem w13_moves_b331 {p : Program} {l : Launch} {e : Env} {s : State} {m : MethodId} {args : Array Value} {below : List Frame} {meth : Method} {c : Code} {D : va_G} {cA : Nat → ClassId} {B : Nat} {res : Int × HP} (E : e_En p s m args meth c cX13_moves RX13 7 (some .boolean)) {ls : Array Slot} {H : Heap} {locs : List Loc} {S : HP} {y0 : Int} {y1 : Int} {y2 : Int} (hp : e_Pic D cA B S s H) (hS : va_S (e_A B) s.heap H locs) (hl : e_lo ls 7 []) (hsh : s13_moves_b331 S y0 y1 y2 = some res) : W p l e ({ frames := 6, cells := 0, slots := 0, locals := 137 } : Room) s m args below meth c H locs 0 0 (MQ below (e_Qi D cA B res.1 res.2) args s 0 0 (e_A B)) (F0 m 331 ls [.int (iI (y2)), .int (iI (y1)), e_rv B (y0)]) := by
  obtain ⟨hx, hb, hml, hown, hts, hlk, hrt⟩ := id E
  unfold s13_moves_b331 at hsh
  obtain ⟨⟨v331, S331⟩, h331, hsh⟩ := Option.bind_eq_some_iff.mp hsh
  have hsh : _ = _ := hsh
  try dsimp only at hsh
  have ok331 := ok13_goesSeen h331
  refine e_callI (nL := 7) (mc := 0) (ms := 0) (T := TX13) (N := 126) (As := [.int (iI (y1)), .int (iI (y2))]) (rest := []) hx hb hml hown hts hp hS hl.size ok331.1 ok331.2.1 ok331.2.2 rfl (by decide) (c13_goesSeen l D cA B S S331 (y0) (y1) (y2) v331 h331) rfl rfl kd13_goesSeen (kl13_355) ks13_goesSeen kv13_goesSeen ki13 kh13_goesSeen ⟨Nat.le_of_ble_eq_true rfl, Nat.le_of_ble_eq_true rfl⟩ rfl (by simp [e_rv_cat, e_int_cat]) ⟨Nat.le_refl _, Nat.le_refl _⟩ dX13_moves_331 rfl (fun H locs hp hS => ?_)
  obtain ⟨hz, hz1, hz2⟩ := zR_some hsh
  rw [← hz1, ← hz2]
  exact e_zret hx hb hrt hlk hp hS hz dX13_moves_334
set_option maxRecDepth 100000 in
set_option maxHeartbeats 4000000 in
theorem w13_moves_b312 {p : Program} {l : Launch} {e : Env} {s : State} {m : MethodId} {args : Array Value} {below : List Frame} {meth : Method} {c : Code} {D : va_G} {cA : Nat → ClassId} {B : Nat} {res : Int × HP} (E : e_En p s m args meth c cX13_moves RX13 7 (some .boolean)) {ls : Array Slot} {H : Heap} {locs : List Loc} {S : HP} {y0 : Int} (hp : e_Pic D cA B S s H) (hS : va_S (e_A B) s.heap H locs) (hl : e_lo ls 7 []) (hsh : s13_moves_b312 S y0 = some res) : W p l e ({ frames := 6, cells := 0, slots := 0, locals := 137 } : Room) s m args below meth c H locs 0 0 (MQ below (e_Qi D cA B res.1 res.2) args s 0 0 (e_A B)) (F0 m 312 ls [.int (iI (y0))]) := by
  obtain ⟨hx, hb, hml, hown, hts, hlk, hrt⟩ := id E
  unfold s13_moves_b312 at hsh
  obtain ⟨hz, hz1, hz2⟩ := zR_some hsh
  rw [← hz1, ← hz2]
  exact e_zret hx hb hrt hlk hp hS hz dX13_moves_312
set_option maxRecDepth 100000 in
set_option maxHeartbeats 4000000 in
theorem w13_moves_b547 {p : Program} {l : Launch} {e : Env} {s : State} {m : MethodId} {args : Array Value} {below : List Frame} {meth : Method} {c : Code} {D : va_G} {cA : Nat → ClassId} {B : Nat} {res : Int × HP} (E : e_En p s m args meth c cX13_moves RX13 7 (some .boolean)) {ls : Array Slot} {H : Heap} {locs : List Loc} {S : HP} {y0 : Int} {y1 : Int} {y2 : Int} (hp : e_Pic D cA B S s H) (hS : va_S (e_A B) s.heap H locs) (hl : e_lo ls 7 []) (hsh : s13_moves_b547 S y0 y1 y2 = some res) : W p l e ({ frames := 6, cells := 0, slots := 0, locals := 137 } : Room) s m args below meth c H locs 0 0 (MQ below (e_Qi D cA B res.1 res.2) args s 0 0 (e_A B)) (F0 m 547 ls [.int (iI (y2)), .int (iI (y1)), e_rv B (y0)]) := by
  obtain ⟨hx, hb, hml, hown, hts, hlk, hrt⟩ := id E
  unfold s13_moves_b547 at hsh
  obtain ⟨⟨v547, S547⟩, h547, hsh⟩ := Option.bind_eq_some_iff.mp hsh
  have hsh : _ = _ := hsh
  try dsimp only at hsh
  have ok547 := ok13_goesParts h547
  refine e_callI (nL := 7) (mc := 0) (ms := 0) (T := TX13) (N := 126) (As := [.int (iI (y1)), .int (iI (y2))]) (rest := []) hx hb hml hown hts hp hS hl.size ok547.1 ok547.2.1 ok547.2.2 rfl (by decide) (c13_goesParts l D cA B S S547 (y0) (y1) (y2) v547 h547) rfl rfl kd13_goesParts (kl13_383) ks13_goesParts kv13_goesParts ki13 kh13_goesParts ⟨Nat.le_of_ble_eq_true rfl, Nat.le_of_ble_eq_true rfl⟩ rfl (by simp [e_rv_cat, e_int_cat]) ⟨Nat.le_refl _, Nat.le_refl _⟩ dX13_moves_547 rfl (fun H locs hp hS => ?_)
  obtain ⟨hz, hz1, hz2⟩ := zR_some hsh
  rw [← hz1, ← hz2]
  exact e_zret hx hb hrt hlk hp hS hz dX13_moves_550
set_option maxRecDepth 100000 in
set_option maxHeartbeats 4000000 in
theorem w13_moves_b42 {p : Program} {l : Launch} {e : Env} {s : State} {m : MethodId} {args : Array Value} {below : List Frame} {meth : Method} {c : Code} {D : va_G} {cA : Nat → ClassId} {B : Nat} {res : Int × HP} (E : e_En p s m args meth c cX13_moves RX13 7 (some .boolean)) {ls : Array Slot} {H : Heap} {locs : List Loc} {S : HP} {x0 : Int} {x1 : Int} {x2 : Int} {x3 : Int} {x4 : Int} {x5 : Int} {y0 : Int} (hp : e_Pic D cA B S s H) (hS : va_S (e_A B) s.heap H locs) (hl : e_lo ls 7 [(0, e_rv B (x0)), (1, .int (iI (x1))), (2, .int (iI (x2))), (3, .int (iI (x3))), (4, .int (iI (x4))), (5, .int (iI (x5)))]) (hsh : s13_moves_b42 S x0 x1 x2 x3 x4 x5 y0 = some res) : W p l e ({ frames := 6, cells := 0, slots := 0, locals := 137 } : Room) s m args below meth c H locs 0 0 (MQ below (e_Qi D cA B res.1 res.2) args s 0 0 (e_A B)) (F0 m 42 ls [.int (iI (y0))]) := by
  obtain ⟨hx, hb, hml, hown, hts, hlk, hrt⟩ := id E
  unfold s13_moves_b42 at hsh
  refine e_istore (lv' := [(6, .int (iI (y0))), (0, e_rv B (x0)), (1, .int (iI (x1))), (2, .int (iI (x2))), (3, .int (iI (x3))), (4, .int (iI (x4))), (5, .int (iI (x5)))]) hx hb dX13_moves_42 hl (by decide) rfl (fun ls hl => ?_)
  refine lv_iload_n hx hb dX13_moves_44 rfl (hl.at 2 rfl) ?_
  by_cases c45_0 : iW (x1) = 36
  · rw [if_pos c45_0] at hsh
    refine lv_lookup (off := 311) (tgt := 356) hx hb dX13_moves_45 (by decide +kernel) (e_off_h c45_0.symm) (by decide) ?_
    refine e_aload_n (B := B) (x := x0) hx hb dX13_moves_356 rfl (hl.at 1 rfl) ?_
    refine lv_iconst (v := iI (1)) hx hb dX13_moves_357 rfl ?_
    obtain ⟨S358, h358, hsh⟩ := Option.bind_eq_some_iff.mp hsh
    refine e_putI (k := 48) hx hb hts in_X13 tyX13 tyX13_ok nmX13 hown hp hS h358 rfl (by decide) (by decide) rfl (hts _ kf13_349) rfl rfl (by decide +kernel) dX13_moves_358 (fun H locs hp hS => ?_)
    refine e_aload_n (B := B) (x := x0) hx hb dX13_moves_361 rfl (hl.at 1 rfl) ?_
    refine e_aload_n (B := B) (x := x0) hx hb dX13_moves_362 rfl (hl.at 1 rfl) ?_
    obtain ⟨v363, h363, hsh⟩ := Option.bind_eq_some_iff.mp hsh
    refine e_getI (k := 5) hx hb hts in_X13 hown hp h363 rfl (by decide) (by decide) rfl (hts _ kf13_213) rfl dX13_moves_363 ?_
    refine lv_iload_n hx hb dX13_moves_366 rfl (hl.at 4 rfl) ?_
    refine e_iadd hx hb dX13_moves_367 ?_
    refine lv_iconst (v := iI (1)) hx hb dX13_moves_368 rfl ?_
    refine e_isub hx hb dX13_moves_369 ?_
    refine e_aload_n (B := B) (x := x0) hx hb dX13_moves_370 rfl (hl.at 1 rfl) ?_
    obtain ⟨v371, h371, hsh⟩ := Option.bind_eq_some_iff.mp hsh
    refine e_getI (k := 2) hx hb hts in_X13 hown hp h371 rfl (by decide) (by decide) rfl (hts _ kf13_13) rfl dX13_moves_371 ?_
    refine lv_iconst (v := iI (1)) hx hb dX13_moves_374 rfl ?_
    refine e_isub hx hb dX13_moves_375 ?_
    obtain ⟨⟨v376, S376⟩, h376, hsh⟩ := Option.bind_eq_some_iff.mp hsh
    have hsh : _ = _ := hsh
    try dsimp only at hsh
    refine e_callS (nL := 7) (mc := 0) (ms := 0) (As := [.int (iI (((v363 + x3) - 1))), .int (iI ((v371 - 1)))]) (rest := [e_rv B (x0)]) hx hb hml hown hts hp hS hl.size (c13_lesser l D cA B S358 S376 (((v363 + x3) - 1)) ((v371 - 1)) v376 h376) rfl rfl kd13_lesser (kl13_257) ks13_lesser ki13 kh13_lesser ⟨Nat.le_of_ble_eq_true rfl, Nat.le_of_ble_eq_true rfl⟩ rfl (by simp [e_rv_cat, e_int_cat]) ⟨Nat.le_refl _, Nat.le_refl _⟩ dX13_moves_376 rfl (fun H locs hp hS => ?_)
    obtain ⟨S379, h379, hsh⟩ := Option.bind_eq_some_iff.mp hsh
    refine e_putI (k := 46) hx hb hts in_X13 tyX13 tyX13_ok nmX13 hown hp hS h379 rfl (by decide) (by decide) rfl (hts _ kf13_296) rfl rfl (by decide +kernel) dX13_moves_379 (fun H locs hp hS => ?_)
    refine e_aload_n (B := B) (x := x0) hx hb dX13_moves_382 rfl (hl.at 1 rfl) ?_
    refine e_aload_n (B := B) (x := x0) hx hb dX13_moves_383 rfl (hl.at 1 rfl) ?_
    refine e_aload_n (B := B) (x := x0) hx hb dX13_moves_384 rfl (hl.at 1 rfl) ?_
    obtain ⟨v385, h385, hsh⟩ := Option.bind_eq_some_iff.mp hsh
    refine e_getI (k := 46) hx hb hts in_X13 hown hp h385 rfl (by decide) (by decide) rfl (hts _ kf13_296) rfl dX13_moves_385 ?_
    obtain ⟨⟨v388, S388⟩, h388, hsh⟩ := Option.bind_eq_some_iff.mp hsh
    have hsh : _ = _ := hsh
    try dsimp only at hsh
    have ok388 := ok13_lastOf h388
    refine e_callI (nL := 7) (mc := 0) (ms := 0) (T := TX13) (N := 126) (As := [.int (iI (v385))]) (rest := [e_rv B (x0)]) hx hb hml hown hts hp hS hl.size ok388.1 ok388.2.1 ok388.2.2 rfl (by decide) (c13_lastOf l D cA B S379 S388 (x0) (v385) v388 h388) rfl rfl kd13_lastOf (kl13_309) ks13_lastOf kv13_lastOf ki13 kh13_lastOf ⟨Nat.le_of_ble_eq_true rfl, Nat.le_of_ble_eq_true rfl⟩ rfl (by simp [e_rv_cat, e_int_cat]) ⟨Nat.le_refl _, Nat.le_refl _⟩ dX13_moves_388 rfl (fun H locs hp hS => ?_)
    obtain ⟨S391, h391, hsh⟩ := Option.bind_eq_some_iff.mp hsh
    refine e_putI (k := 47) hx hb hts in_X13 tyX13 tyX13_ok nmX13 hown hp hS h391 rfl (by decide) (by decide) rfl (hts _ kf13_299) rfl rfl (by decide +kernel) dX13_moves_391 (fun H locs hp hS => ?_)
    refine e_aload_n (B := B) (x := x0) hx hb dX13_moves_394 rfl (hl.at 1 rfl) ?_
    obtain ⟨v395, h395, hsh⟩ := Option.bind_eq_some_iff.mp hsh
    refine e_getI (k := 5) hx hb hts in_X13 hown hp h395 rfl (by decide) (by decide) rfl (hts _ kf13_213) rfl dX13_moves_395 ?_
    refine lv_iload_n hx hb dX13_moves_398 rfl (hl.at 4 rfl) ?_
    refine e_iadd hx hb dX13_moves_399 ?_
    refine lv_iconst (v := iI (1)) hx hb dX13_moves_400 rfl ?_
    refine e_isub hx hb dX13_moves_401 ?_
    refine e_aload_n (B := B) (x := x0) hx hb dX13_moves_402 rfl (hl.at 1 rfl) ?_
    obtain ⟨v403, h403, hsh⟩ := Option.bind_eq_some_iff.mp hsh
    refine e_getI (k := 2) hx hb hts in_X13 hown hp h403 rfl (by decide) (by decide) rfl (hts _ kf13_13) rfl dX13_moves_403 ?_
    refine e_icmp_ge (tgt := 413) hx hb dX13_moves_406 (by decide) (fun c406 => ?_) (fun c406 => ?_)
    · rw [if_pos c406] at hsh
      refine lv_iconst (v := iI (0)) hx hb dX13_moves_413 rfl ?_
      exact w13_moves_b414 E hp hS (hl.sub [] rfl) hsh
    · rw [if_neg c406] at hsh
      refine lv_iconst (v := iI (1)) hx hb dX13_moves_409 rfl ?_
      refine lv_goto (tgt := 414) hx hb dX13_moves_410 (by decide) ?_
      exact w13_moves_b414 E hp hS (hl.sub [] rfl) hsh
  · rw [if_neg c45_0] at hsh
    by_cases c45_1 : iW (x1) = 37
    · rw [if_pos c45_1] at hsh
      refine lv_lookup (off := 506) (tgt := 551) hx hb dX13_moves_45 (by decide +kernel) (e_off_s (fun q => c45_0 q.symm) (e_off_h c45_1.symm)) (by decide) ?_
      refine e_aload_n (B := B) (x := x0) hx hb dX13_moves_551 rfl (hl.at 1 rfl) ?_
      refine lv_iconst (v := iI (1)) hx hb dX13_moves_552 rfl ?_
      obtain ⟨S553, h553, hsh⟩ := Option.bind_eq_some_iff.mp hsh
      refine e_putI (k := 48) hx hb hts in_X13 tyX13 tyX13_ok nmX13 hown hp hS h553 rfl (by decide) (by decide) rfl (hts _ kf13_349) rfl rfl (by decide +kernel) dX13_moves_553 (fun H locs hp hS => ?_)
      refine e_aload_n (B := B) (x := x0) hx hb dX13_moves_556 rfl (hl.at 1 rfl) ?_
      obtain ⟨⟨v557, S557⟩, h557, hsh⟩ := Option.bind_eq_some_iff.mp hsh
      have hsh : _ = _ := hsh
      try dsimp only at hsh
      have ok557 := ok13_goesBracket h557
      refine e_callI (nL := 7) (mc := 0) (ms := 0) (T := TX13) (N := 126) (As := []) (rest := []) hx hb hml hown hts hp hS hl.size ok557.1 ok557.2.1 ok557.2.2 rfl (by decide) (c13_goesBracket l D cA B S553 S557 (x0) v557 h557) rfl rfl kd13_goesBracket (kl13_386) ks13_goesBracket kv13_goesBracket ki13 kh13_goesBracket ⟨Nat.le_of_ble_eq_true rfl, Nat.le_of_ble_eq_true rfl⟩ rfl (by simp [e_rv_cat, e_int_cat]) ⟨Nat.le_refl _, Nat.le_refl _⟩ dX13_moves_557 rfl (fun H locs hp hS => ?_)
      obtain ⟨hz, hz1, hz2⟩ := zR_some hsh
      rw [← hz1, ← hz2]
      exact e_zret hx hb hrt hlk hp hS hz dX13_moves_560
    · rw [if_neg c45_1] at hsh
      by_cases c45_2 : iW (x1) = 39
      · rw [if_pos c45_2] at hsh
        refine lv_lookup (off := 533) (tgt := 578) hx hb dX13_moves_45 (by decide +kernel) (e_off_s (fun q => c45_0 q.symm) (e_off_s (fun q => c45_1 q.symm) (e_off_h c45_2.symm))) (by decide) ?_
        refine e_aload_n (B := B) (x := x0) hx hb dX13_moves_578 rfl (hl.at 1 rfl) ?_
        refine lv_iconst (v := iI (2)) hx hb dX13_moves_579 rfl ?_
        obtain ⟨S580, h580, hsh⟩ := Option.bind_eq_some_iff.mp hsh
        refine e_putI (k := 48) hx hb hts in_X13 tyX13 tyX13_ok nmX13 hown hp hS h580 rfl (by decide) (by decide) rfl (hts _ kf13_349) rfl rfl (by decide +kernel) dX13_moves_580 (fun H locs hp hS => ?_)
        refine e_aload_n (B := B) (x := x0) hx hb dX13_moves_583 rfl (hl.at 1 rfl) ?_
        refine lv_iload_n hx hb dX13_moves_584 rfl (hl.at 3 rfl) ?_
        refine lv_iconst (v := iI (0)) hx hb dX13_moves_585 rfl ?_
        obtain ⟨⟨v586, S586⟩, h586, hsh⟩ := Option.bind_eq_some_iff.mp hsh
        have hsh : _ = _ := hsh
        try dsimp only at hsh
        have ok586 := ok13_goesMark h586
        refine e_callI (nL := 7) (mc := 0) (ms := 0) (T := TX13) (N := 126) (As := [.int (iI (x2)), .int (iI (0))]) (rest := []) hx hb hml hown hts hp hS hl.size ok586.1 ok586.2.1 ok586.2.2 rfl (by decide) (c13_goesMark l D cA B S580 S586 (x0) (x2) (0) v586 h586) rfl rfl kd13_goesMark (kl13_392) ks13_goesMark kv13_goesMark ki13 kh13_goesMark ⟨Nat.le_of_ble_eq_true rfl, Nat.le_of_ble_eq_true rfl⟩ rfl (by simp [e_rv_cat, e_int_cat]) ⟨Nat.le_refl _, Nat.le_refl _⟩ dX13_moves_586 rfl (fun H locs hp hS => ?_)
        obtain ⟨hz, hz1, hz2⟩ := zR_some hsh
        rw [← hz1, ← hz2]
        exact e_zret hx hb hrt hlk hp hS hz dX13_moves_589
      · rw [if_neg c45_2] at hsh
        by_cases c45_3 : iW (x1) = 44
        · rw [if_pos c45_3] at hsh
          refine lv_lookup (off := 417) (tgt := 462) hx hb dX13_moves_45 (by decide +kernel) (e_off_s (fun q => c45_0 q.symm) (e_off_s (fun q => c45_1 q.symm) (e_off_s (fun q => c45_2 q.symm) (e_off_h c45_3.symm)))) (by decide) ?_
          refine e_aload_n (B := B) (x := x0) hx hb dX13_moves_462 rfl (hl.at 1 rfl) ?_
          refine e_aload_n (B := B) (x := x0) hx hb dX13_moves_463 rfl (hl.at 1 rfl) ?_
          obtain ⟨v464, h464, hsh⟩ := Option.bind_eq_some_iff.mp hsh
          refine e_getI (k := 49) hx hb hts in_X13 hown hp h464 rfl (by decide) (by decide) rfl (hts _ kf13_371) rfl dX13_moves_464 ?_
          refine e_if_ne (tgt := 474) hx hb dX13_moves_467 (by decide) (fun c467 => ?_) (fun c467 => ?_)
          · rw [if_neg c467] at hsh
            refine e_aload_n (B := B) (x := x0) hx hb dX13_moves_474 rfl (hl.at 1 rfl) ?_
            obtain ⟨v475, h475, hsh⟩ := Option.bind_eq_some_iff.mp hsh
            refine e_getI (k := 49) hx hb hts in_X13 hown hp h475 rfl (by decide) (by decide) rfl (hts _ kf13_371) rfl dX13_moves_475 ?_
            obtain ⟨⟨v478, S478⟩, h478, hsh⟩ := Option.bind_eq_some_iff.mp hsh
            have hsh : _ = _ := hsh
            try dsimp only at hsh
            refine e_callS (nL := 7) (mc := 0) (ms := 0) (As := [.int (iI (v475))]) (rest := [e_rv B (x0)]) hx hb hml hown hts hp hS hl.size (c13_turned l D cA B S S478 (v475) v478 h478) rfl rfl kd13_turned (kl13_377) ks13_turned ki13 kh13_turned ⟨Nat.le_of_ble_eq_true rfl, Nat.le_of_ble_eq_true rfl⟩ rfl (by simp [e_rv_cat, e_int_cat]) ⟨Nat.le_refl _, Nat.le_refl _⟩ dX13_moves_478 rfl (fun H locs hp hS => ?_)
            exact w13_moves_b481 E hp hS (hl.sub [1, 4] rfl) hsh
          · rw [if_pos c467] at hsh
            refine lv_iconst (v := iI (0)) hx hb dX13_moves_470 rfl ?_
            refine lv_goto (tgt := 481) hx hb dX13_moves_471 (by decide) ?_
            exact w13_moves_b481 E hp hS (hl.sub [1, 4] rfl) hsh
        · rw [if_neg c45_3] at hsh
          by_cases c45_4 : iW (x1) = 47
          · rw [if_pos c45_4] at hsh
            refine lv_lookup (off := 516) (tgt := 561) hx hb dX13_moves_45 (by decide +kernel) (e_off_s (fun q => c45_0 q.symm) (e_off_s (fun q => c45_1 q.symm) (e_off_s (fun q => c45_2 q.symm) (e_off_s (fun q => c45_3 q.symm) (e_off_h c45_4.symm))))) (by decide) ?_
            refine e_aload_n (B := B) (x := x0) hx hb dX13_moves_561 rfl (hl.at 1 rfl) ?_
            refine lv_iload_n hx hb dX13_moves_562 rfl (hl.at 2 rfl) ?_
            refine lv_bipush (v := iI (78)) hx hb dX13_moves_563 (by decide +kernel) ?_
            refine e_icmp_ne (tgt := 572) hx hb dX13_moves_565 (by decide) (fun c565 => ?_) (fun c565 => ?_)
            · rw [if_neg c565] at hsh
              refine lv_iconst (v := iI (1)) hx hb dX13_moves_572 rfl ?_
              exact w13_moves_b573 E hp hS (hl.sub [4] rfl) hsh
            · rw [if_pos c565] at hsh
              refine lv_iconst (v := iI (-1)) hx hb dX13_moves_568 rfl ?_
              refine lv_goto (tgt := 573) hx hb dX13_moves_569 (by decide) ?_
              exact w13_moves_b573 E hp hS (hl.sub [4] rfl) hsh
          · rw [if_neg c45_4] at hsh
            by_cases c45_5 : iW (x1) = 48
            · rw [if_pos c45_5] at hsh
              refine lv_lookup (off := 290) (tgt := 335) hx hb dX13_moves_45 (by decide +kernel) (e_off_s (fun q => c45_0 q.symm) (e_off_s (fun q => c45_1 q.symm) (e_off_s (fun q => c45_2 q.symm) (e_off_s (fun q => c45_3 q.symm) (e_off_s (fun q => c45_4 q.symm) (e_off_h c45_5.symm)))))) (by decide) ?_
              refine e_aload_n (B := B) (x := x0) hx hb dX13_moves_335 rfl (hl.at 1 rfl) ?_
              refine lv_iconst (v := iI (0)) hx hb dX13_moves_336 rfl ?_
              obtain ⟨S337, h337, hsh⟩ := Option.bind_eq_some_iff.mp hsh
              refine e_putI (k := 47) hx hb hts in_X13 tyX13 tyX13_ok nmX13 hown hp hS h337 rfl (by decide) (by decide) rfl (hts _ kf13_299) rfl rfl (by decide +kernel) dX13_moves_337 (fun H locs hp hS => ?_)
              refine lv_iconst (v := iI (1)) hx hb dX13_moves_340 rfl ?_
              obtain ⟨hz, hz1, hz2⟩ := zR_some hsh
              rw [← hz1, ← hz2]
              exact e_zret hx hb hrt hlk hp hS hz dX13_moves_341
            · rw [if_neg c45_5] at hsh
              by_cases c45_6 : iW (x1) = 59
              · rw [if_pos c45_6] at hsh
                refine lv_lookup (off := 403) (tgt := 448) hx hb dX13_moves_45 (by decide +kernel) (e_off_s (fun q => c45_0 q.symm) (e_off_s (fun q => c45_1 q.symm) (e_off_s (fun q => c45_2 q.symm) (e_off_s (fun q => c45_3 q.symm) (e_off_s (fun q => c45_4 q.symm) (e_off_s (fun q => c45_5 q.symm) (e_off_h c45_6.symm))))))) (by decide) ?_
                refine e_aload_n (B := B) (x := x0) hx hb dX13_moves_448 rfl (hl.at 1 rfl) ?_
                refine e_aload_n (B := B) (x := x0) hx hb dX13_moves_449 rfl (hl.at 1 rfl) ?_
                obtain ⟨v450, h450, hsh⟩ := Option.bind_eq_some_iff.mp hsh
                refine e_getI (k := 49) hx hb hts in_X13 hown hp h450 rfl (by decide) (by decide) rfl (hts _ kf13_371) rfl dX13_moves_450 ?_
                refine e_aload_n (B := B) (x := x0) hx hb dX13_moves_453 rfl (hl.at 1 rfl) ?_
                obtain ⟨v454, h454, hsh⟩ := Option.bind_eq_some_iff.mp hsh
                refine e_getI (k := 50) hx hb hts in_X13 hown hp h454 rfl (by decide) (by decide) rfl (hts _ kf13_374) rfl dX13_moves_454 ?_
                refine lv_iload_n hx hb dX13_moves_457 rfl (hl.at 4 rfl) ?_
                obtain ⟨⟨v458, S458⟩, h458, hsh⟩ := Option.bind_eq_some_iff.mp hsh
                have hsh : _ = _ := hsh
                try dsimp only at hsh
                have ok458 := ok13_goesFound h458
                refine e_callI (nL := 7) (mc := 0) (ms := 0) (T := TX13) (N := 126) (As := [.int (iI (v450)), .int (iI (v454)), .int (iI (x3))]) (rest := []) hx hb hml hown hts hp hS hl.size ok458.1 ok458.2.1 ok458.2.2 rfl (by decide) (c13_goesFound l D cA B S S458 (x0) (v450) (v454) (x3) v458 h458) rfl rfl kd13_goesFound (kl13_368) ks13_goesFound kv13_goesFound ki13 kh13_goesFound ⟨Nat.le_of_ble_eq_true rfl, Nat.le_of_ble_eq_true rfl⟩ rfl (by simp [e_rv_cat, e_int_cat]) ⟨Nat.le_refl _, Nat.le_refl _⟩ dX13_moves_458 rfl (fun H locs hp hS => ?_)
                obtain ⟨hz, hz1, hz2⟩ := zR_some hsh
                rw [← hz1, ← hz2]
                exact e_zret hx hb hrt hlk hp hS hz dX13_moves_461
              · rw [if_neg c45_6] at hsh
                by_cases c45_7 : iW (x1) = 70
                · rw [if_pos c45_7] at hsh
                  refine lv_lookup (off := 395) (tgt := 440) hx hb dX13_moves_45 (by decide +kernel) (e_off_s (fun q => c45_0 q.symm) (e_off_s (fun q => c45_1 q.symm) (e_off_s (fun q => c45_2 q.symm) (e_off_s (fun q => c45_3 q.symm) (e_off_s (fun q => c45_4 q.symm) (e_off_s (fun q => c45_5 q.symm) (e_off_s (fun q => c45_6 q.symm) (e_off_h c45_7.symm)))))))) (by decide) ?_
                  refine e_aload_n (B := B) (x := x0) hx hb dX13_moves_440 rfl (hl.at 1 rfl) ?_
                  refine lv_iload_n hx hb dX13_moves_441 rfl (hl.at 2 rfl) ?_
                  refine lv_iload_n hx hb dX13_moves_442 rfl (hl.at 3 rfl) ?_
                  refine lv_iload_n hx hb dX13_moves_443 rfl (hl.at 4 rfl) ?_
                  obtain ⟨⟨v444, S444⟩, h444, hsh⟩ := Option.bind_eq_some_iff.mp hsh
                  have hsh : _ = _ := hsh
                  try dsimp only at hsh
                  have ok444 := ok13_goesFound h444
                  refine e_callI (nL := 7) (mc := 0) (ms := 0) (T := TX13) (N := 126) (As := [.int (iI (x1)), .int (iI (x2)), .int (iI (x3))]) (rest := []) hx hb hml hown hts hp hS hl.size ok444.1 ok444.2.1 ok444.2.2 rfl (by decide) (c13_goesFound l D cA B S S444 (x0) (x1) (x2) (x3) v444 h444) rfl rfl kd13_goesFound (kl13_368) ks13_goesFound kv13_goesFound ki13 kh13_goesFound ⟨Nat.le_of_ble_eq_true rfl, Nat.le_of_ble_eq_true rfl⟩ rfl (by simp [e_rv_cat, e_int_cat]) ⟨Nat.le_refl _, Nat.le_refl _⟩ dX13_moves_444 rfl (fun H locs hp hS => ?_)
                  obtain ⟨hz, hz1, hz2⟩ := zR_some hsh
                  rw [← hz1, ← hz2]
                  exact e_zret hx hb hrt hlk hp hS hz dX13_moves_447
                · rw [if_neg c45_7] at hsh
                  by_cases c45_8 : iW (x1) = 71
                  · rw [if_pos c45_8] at hsh
                    refine lv_lookup (off := 445) (tgt := 490) hx hb dX13_moves_45 (by decide +kernel) (e_off_s (fun q => c45_0 q.symm) (e_off_s (fun q => c45_1 q.symm) (e_off_s (fun q => c45_2 q.symm) (e_off_s (fun q => c45_3 q.symm) (e_off_s (fun q => c45_4 q.symm) (e_off_s (fun q => c45_5 q.symm) (e_off_s (fun q => c45_6 q.symm) (e_off_s (fun q => c45_7 q.symm) (e_off_h c45_8.symm))))))))) (by decide) ?_
                    refine e_aload_n (B := B) (x := x0) hx hb dX13_moves_490 rfl (hl.at 1 rfl) ?_
                    refine lv_iconst (v := iI (2)) hx hb dX13_moves_491 rfl ?_
                    obtain ⟨S492, h492, hsh⟩ := Option.bind_eq_some_iff.mp hsh
                    refine e_putI (k := 48) hx hb hts in_X13 tyX13 tyX13_ok nmX13 hown hp hS h492 rfl (by decide) (by decide) rfl (hts _ kf13_349) rfl rfl (by decide +kernel) dX13_moves_492 (fun H locs hp hS => ?_)
                    refine e_aload_n (B := B) (x := x0) hx hb dX13_moves_495 rfl (hl.at 1 rfl) ?_
                    refine lv_iload hx hb dX13_moves_496 (hl.at 5 rfl) ?_
                    refine e_if_eq (tgt := 514) hx hb dX13_moves_498 (by decide) (fun c498 => ?_) (fun c498 => ?_)
                    · rw [if_pos c498] at hsh
                      refine lv_iload_n hx hb dX13_moves_514 rfl (hl.at 2 rfl) ?_
                      refine lv_bipush (v := iI (71)) hx hb dX13_moves_515 (by decide +kernel) ?_
                      refine e_icmp_ne (tgt := 529) hx hb dX13_moves_517 (by decide) (fun c517 => ?_) (fun c517 => ?_)
                      · rw [if_neg c517] at hsh
                        refine lv_iconst (v := iI (0)) hx hb dX13_moves_529 rfl ?_
                        exact w13_moves_b530 E hp hS (hl.sub [] rfl) hsh
                      · rw [if_pos c517] at hsh
                        refine e_aload_n (B := B) (x := x0) hx hb dX13_moves_520 rfl (hl.at 1 rfl) ?_
                        obtain ⟨v521, h521, hsh⟩ := Option.bind_eq_some_iff.mp hsh
                        refine e_getI (k := 2) hx hb hts in_X13 hown hp h521 rfl (by decide) (by decide) rfl (hts _ kf13_13) rfl dX13_moves_521 ?_
                        refine lv_iconst (v := iI (1)) hx hb dX13_moves_524 rfl ?_
                        refine e_isub hx hb dX13_moves_525 ?_
                        refine lv_goto (tgt := 530) hx hb dX13_moves_526 (by decide) ?_
                        exact w13_moves_b530 E hp hS (hl.sub [] rfl) hsh
                    · rw [if_neg c498] at hsh
                      refine lv_iload_n hx hb dX13_moves_501 rfl (hl.at 4 rfl) ?_
                      refine e_aload_n (B := B) (x := x0) hx hb dX13_moves_502 rfl (hl.at 1 rfl) ?_
                      obtain ⟨v503, h503, hsh⟩ := Option.bind_eq_some_iff.mp hsh
                      refine e_getI (k := 2) hx hb hts in_X13 hown hp h503 rfl (by decide) (by decide) rfl (hts _ kf13_13) rfl dX13_moves_503 ?_
                      obtain ⟨⟨v506, S506⟩, h506, hsh⟩ := Option.bind_eq_some_iff.mp hsh
                      have hsh : _ = _ := hsh
                      try dsimp only at hsh
                      refine e_callS (nL := 7) (mc := 0) (ms := 0) (As := [.int (iI (x3)), .int (iI (v503))]) (rest := [e_rv B (x0)]) hx hb hml hown hts hp hS hl.size (c13_lesser l D cA B S492 S506 (x3) (v503) v506 h506) rfl rfl kd13_lesser (kl13_257) ks13_lesser ki13 kh13_lesser ⟨Nat.le_of_ble_eq_true rfl, Nat.le_of_ble_eq_true rfl⟩ rfl (by simp [e_rv_cat, e_int_cat]) ⟨Nat.le_refl _, Nat.le_refl _⟩ dX13_moves_506 rfl (fun H locs hp hS => ?_)
                      refine lv_iconst (v := iI (1)) hx hb dX13_moves_509 rfl ?_
                      refine e_isub hx hb dX13_moves_510 ?_
                      refine lv_goto (tgt := 530) hx hb dX13_moves_511 (by decide) ?_
                      exact w13_moves_b530 E hp hS (hl.sub [] rfl) hsh
                  · rw [if_neg c45_8] at hsh
                    by_cases c45_9 : iW (x1) = 78
                    · rw [if_pos c45_9] at hsh
                      refine lv_lookup (off := 516) (tgt := 561) hx hb dX13_moves_45 (by decide +kernel) (e_off_s (fun q => c45_0 q.symm) (e_off_s (fun q => c45_1 q.symm) (e_off_s (fun q => c45_2 q.symm) (e_off_s (fun q => c45_3 q.symm) (e_off_s (fun q => c45_4 q.symm) (e_off_s (fun q => c45_5 q.symm) (e_off_s (fun q => c45_6 q.symm) (e_off_s (fun q => c45_7 q.symm) (e_off_s (fun q => c45_8 q.symm) (e_off_h c45_9.symm)))))))))) (by decide) ?_
                      refine e_aload_n (B := B) (x := x0) hx hb dX13_moves_561 rfl (hl.at 1 rfl) ?_
                      refine lv_iload_n hx hb dX13_moves_562 rfl (hl.at 2 rfl) ?_
                      refine lv_bipush (v := iI (78)) hx hb dX13_moves_563 (by decide +kernel) ?_
                      refine e_icmp_ne (tgt := 572) hx hb dX13_moves_565 (by decide) (fun c565 => ?_) (fun c565 => ?_)
                      · rw [if_neg c565] at hsh
                        refine lv_iconst (v := iI (1)) hx hb dX13_moves_572 rfl ?_
                        exact w13_moves_b573 E hp hS (hl.sub [4] rfl) hsh
                      · rw [if_pos c565] at hsh
                        refine lv_iconst (v := iI (-1)) hx hb dX13_moves_568 rfl ?_
                        refine lv_goto (tgt := 573) hx hb dX13_moves_569 (by decide) ?_
                        exact w13_moves_b573 E hp hS (hl.sub [4] rfl) hsh
                    · rw [if_neg c45_9] at hsh
                      by_cases c45_10 : iW (x1) = 84
                      · rw [if_pos c45_10] at hsh
                        refine lv_lookup (off := 395) (tgt := 440) hx hb dX13_moves_45 (by decide +kernel) (e_off_s (fun q => c45_0 q.symm) (e_off_s (fun q => c45_1 q.symm) (e_off_s (fun q => c45_2 q.symm) (e_off_s (fun q => c45_3 q.symm) (e_off_s (fun q => c45_4 q.symm) (e_off_s (fun q => c45_5 q.symm) (e_off_s (fun q => c45_6 q.symm) (e_off_s (fun q => c45_7 q.symm) (e_off_s (fun q => c45_8 q.symm) (e_off_s (fun q => c45_9 q.symm) (e_off_h c45_10.symm))))))))))) (by decide) ?_
                        refine e_aload_n (B := B) (x := x0) hx hb dX13_moves_440 rfl (hl.at 1 rfl) ?_
                        refine lv_iload_n hx hb dX13_moves_441 rfl (hl.at 2 rfl) ?_
                        refine lv_iload_n hx hb dX13_moves_442 rfl (hl.at 3 rfl) ?_
                        refine lv_iload_n hx hb dX13_moves_443 rfl (hl.at 4 rfl) ?_
                        obtain ⟨⟨v444, S444⟩, h444, hsh⟩ := Option.bind_eq_some_iff.mp hsh
                        have hsh : _ = _ := hsh
                        try dsimp only at hsh
                        have ok444 := ok13_goesFound h444
                        refine e_callI (nL := 7) (mc := 0) (ms := 0) (T := TX13) (N := 126) (As := [.int (iI (x1)), .int (iI (x2)), .int (iI (x3))]) (rest := []) hx hb hml hown hts hp hS hl.size ok444.1 ok444.2.1 ok444.2.2 rfl (by decide) (c13_goesFound l D cA B S S444 (x0) (x1) (x2) (x3) v444 h444) rfl rfl kd13_goesFound (kl13_368) ks13_goesFound kv13_goesFound ki13 kh13_goesFound ⟨Nat.le_of_ble_eq_true rfl, Nat.le_of_ble_eq_true rfl⟩ rfl (by simp [e_rv_cat, e_int_cat]) ⟨Nat.le_refl _, Nat.le_refl _⟩ dX13_moves_444 rfl (fun H locs hp hS => ?_)
                        obtain ⟨hz, hz1, hz2⟩ := zR_some hsh
                        rw [← hz1, ← hz2]
                        exact e_zret hx hb hrt hlk hp hS hz dX13_moves_447
                      · rw [if_neg c45_10] at hsh
                        by_cases c45_11 : iW (x1) = 94
                        · rw [if_pos c45_11] at hsh
                          refine lv_lookup (off := 297) (tgt := 342) hx hb dX13_moves_45 (by decide +kernel) (e_off_s (fun q => c45_0 q.symm) (e_off_s (fun q => c45_1 q.symm) (e_off_s (fun q => c45_2 q.symm) (e_off_s (fun q => c45_3 q.symm) (e_off_s (fun q => c45_4 q.symm) (e_off_s (fun q => c45_5 q.symm) (e_off_s (fun q => c45_6 q.symm) (e_off_s (fun q => c45_7 q.symm) (e_off_s (fun q => c45_8 q.symm) (e_off_s (fun q => c45_9 q.symm) (e_off_s (fun q => c45_10 q.symm) (e_off_h c45_11.symm)))))))))))) (by decide) ?_
                          refine e_aload_n (B := B) (x := x0) hx hb dX13_moves_342 rfl (hl.at 1 rfl) ?_
                          refine e_aload_n (B := B) (x := x0) hx hb dX13_moves_343 rfl (hl.at 1 rfl) ?_
                          refine e_aload_n (B := B) (x := x0) hx hb dX13_moves_344 rfl (hl.at 1 rfl) ?_
                          obtain ⟨v345, h345, hsh⟩ := Option.bind_eq_some_iff.mp hsh
                          refine e_getI (k := 5) hx hb hts in_X13 hown hp h345 rfl (by decide) (by decide) rfl (hts _ kf13_213) rfl dX13_moves_345 ?_
                          obtain ⟨⟨v348, S348⟩, h348, hsh⟩ := Option.bind_eq_some_iff.mp hsh
                          have hsh : _ = _ := hsh
                          try dsimp only at hsh
                          have ok348 := ok13_indent h348
                          refine e_callI (nL := 7) (mc := 0) (ms := 0) (T := TX13) (N := 126) (As := [.int (iI (v345))]) (rest := [e_rv B (x0)]) hx hb hml hown hts hp hS hl.size ok348.1 ok348.2.1 ok348.2.2 rfl (by decide) (c13_indent l D cA B S S348 (x0) (v345) v348 h348) rfl rfl kd13_indent (kl13_222) ks13_indent kv13_indent ki13 kh13_indent ⟨Nat.le_of_ble_eq_true rfl, Nat.le_of_ble_eq_true rfl⟩ rfl (by simp [e_rv_cat, e_int_cat]) ⟨Nat.le_refl _, Nat.le_refl _⟩ dX13_moves_348 rfl (fun H locs hp hS => ?_)
                          obtain ⟨S351, h351, hsh⟩ := Option.bind_eq_some_iff.mp hsh
                          refine e_putI (k := 47) hx hb hts in_X13 tyX13 tyX13_ok nmX13 hown hp hS h351 rfl (by decide) (by decide) rfl (hts _ kf13_299) rfl rfl (by decide +kernel) dX13_moves_351 (fun H locs hp hS => ?_)
                          refine lv_iconst (v := iI (1)) hx hb dX13_moves_354 rfl ?_
                          obtain ⟨hz, hz1, hz2⟩ := zR_some hsh
                          rw [← hz1, ← hz2]
                          exact e_zret hx hb hrt hlk hp hS hz dX13_moves_355
                        · rw [if_neg c45_11] at hsh
                          by_cases c45_12 : iW (x1) = 98
                          · rw [if_pos c45_12] at hsh
                            refine lv_lookup (off := 378) (tgt := 423) hx hb dX13_moves_45 (by decide +kernel) (e_off_s (fun q => c45_0 q.symm) (e_off_s (fun q => c45_1 q.symm) (e_off_s (fun q => c45_2 q.symm) (e_off_s (fun q => c45_3 q.symm) (e_off_s (fun q => c45_4 q.symm) (e_off_s (fun q => c45_5 q.symm) (e_off_s (fun q => c45_6 q.symm) (e_off_s (fun q => c45_7 q.symm) (e_off_s (fun q => c45_8 q.symm) (e_off_s (fun q => c45_9 q.symm) (e_off_s (fun q => c45_10 q.symm) (e_off_s (fun q => c45_11 q.symm) (e_off_h c45_12.symm))))))))))))) (by decide) ?_
                            refine e_aload_n (B := B) (x := x0) hx hb dX13_moves_423 rfl (hl.at 1 rfl) ?_
                            refine lv_iload_n hx hb dX13_moves_424 rfl (hl.at 4 rfl) ?_
                            obtain ⟨⟨v425, S425⟩, h425, hsh⟩ := Option.bind_eq_some_iff.mp hsh
                            have hsh : _ = _ := hsh
                            try dsimp only at hsh
                            have ok425 := ok13_goesWordsBack h425
                            refine e_callI (nL := 7) (mc := 0) (ms := 0) (T := TX13) (N := 126) (As := [.int (iI (x3))]) (rest := []) hx hb hml hown hts hp hS hl.size ok425.1 ok425.2.1 ok425.2.2 rfl (by decide) (c13_goesWordsBack l D cA B S S425 (x0) (x3) v425 h425) rfl rfl kd13_goesWordsBack (kl13_362) ks13_goesWordsBack kv13_goesWordsBack ki13 kh13_goesWordsBack ⟨Nat.le_of_ble_eq_true rfl, Nat.le_of_ble_eq_true rfl⟩ rfl (by simp [e_rv_cat, e_int_cat]) ⟨Nat.le_refl _, Nat.le_refl _⟩ dX13_moves_425 rfl (fun H locs hp hS => ?_)
                            obtain ⟨hz, hz1, hz2⟩ := zR_some hsh
                            rw [← hz1, ← hz2]
                            exact e_zret hx hb hrt hlk hp hS hz dX13_moves_428
                          · rw [if_neg c45_12] at hsh
                            by_cases c45_13 : iW (x1) = 101
                            · rw [if_pos c45_13] at hsh
                              refine lv_lookup (off := 384) (tgt := 429) hx hb dX13_moves_45 (by decide +kernel) (e_off_s (fun q => c45_0 q.symm) (e_off_s (fun q => c45_1 q.symm) (e_off_s (fun q => c45_2 q.symm) (e_off_s (fun q => c45_3 q.symm) (e_off_s (fun q => c45_4 q.symm) (e_off_s (fun q => c45_5 q.symm) (e_off_s (fun q => c45_6 q.symm) (e_off_s (fun q => c45_7 q.symm) (e_off_s (fun q => c45_8 q.symm) (e_off_s (fun q => c45_9 q.symm) (e_off_s (fun q => c45_10 q.symm) (e_off_s (fun q => c45_11 q.symm) (e_off_s (fun q => c45_12 q.symm) (e_off_h c45_13.symm)))))))))))))) (by decide) ?_
                              refine e_aload_n (B := B) (x := x0) hx hb dX13_moves_429 rfl (hl.at 1 rfl) ?_
                              refine lv_iconst (v := iI (1)) hx hb dX13_moves_430 rfl ?_
                              obtain ⟨S431, h431, hsh⟩ := Option.bind_eq_some_iff.mp hsh
                              refine e_putI (k := 48) hx hb hts in_X13 tyX13 tyX13_ok nmX13 hown hp hS h431 rfl (by decide) (by decide) rfl (hts _ kf13_349) rfl rfl (by decide +kernel) dX13_moves_431 (fun H locs hp hS => ?_)
                              refine e_aload_n (B := B) (x := x0) hx hb dX13_moves_434 rfl (hl.at 1 rfl) ?_
                              refine lv_iload_n hx hb dX13_moves_435 rfl (hl.at 4 rfl) ?_
                              obtain ⟨⟨v436, S436⟩, h436, hsh⟩ := Option.bind_eq_some_iff.mp hsh
                              have hsh : _ = _ := hsh
                              try dsimp only at hsh
                              have ok436 := ok13_goesEnds h436
                              refine e_callI (nL := 7) (mc := 0) (ms := 0) (T := TX13) (N := 126) (As := [.int (iI (x3))]) (rest := []) hx hb hml hown hts hp hS hl.size ok436.1 ok436.2.1 ok436.2.2 rfl (by decide) (c13_goesEnds l D cA B S431 S436 (x0) (x3) v436 h436) rfl rfl kd13_goesEnds (kl13_365) ks13_goesEnds kv13_goesEnds ki13 kh13_goesEnds ⟨Nat.le_of_ble_eq_true rfl, Nat.le_of_ble_eq_true rfl⟩ rfl (by simp [e_rv_cat, e_int_cat]) ⟨Nat.le_refl _, Nat.le_refl _⟩ dX13_moves_436 rfl (fun H locs hp hS => ?_)
                              obtain ⟨hz, hz1, hz2⟩ := zR_some hsh
                              rw [← hz1, ← hz2]
                              exact e_zret hx hb hrt hlk hp hS hz dX13_moves_439
                            · rw [if_neg c45_13] at hsh
                              by_cases c45_14 : iW (x1) = 102
                              · rw [if_pos c45_14] at hsh
                                refine lv_lookup (off := 395) (tgt := 440) hx hb dX13_moves_45 (by decide +kernel) (e_off_s (fun q => c45_0 q.symm) (e_off_s (fun q => c45_1 q.symm) (e_off_s (fun q => c45_2 q.symm) (e_off_s (fun q => c45_3 q.symm) (e_off_s (fun q => c45_4 q.symm) (e_off_s (fun q => c45_5 q.symm) (e_off_s (fun q => c45_6 q.symm) (e_off_s (fun q => c45_7 q.symm) (e_off_s (fun q => c45_8 q.symm) (e_off_s (fun q => c45_9 q.symm) (e_off_s (fun q => c45_10 q.symm) (e_off_s (fun q => c45_11 q.symm) (e_off_s (fun q => c45_12 q.symm) (e_off_s (fun q => c45_13 q.symm) (e_off_h c45_14.symm))))))))))))))) (by decide) ?_
                                refine e_aload_n (B := B) (x := x0) hx hb dX13_moves_440 rfl (hl.at 1 rfl) ?_
                                refine lv_iload_n hx hb dX13_moves_441 rfl (hl.at 2 rfl) ?_
                                refine lv_iload_n hx hb dX13_moves_442 rfl (hl.at 3 rfl) ?_
                                refine lv_iload_n hx hb dX13_moves_443 rfl (hl.at 4 rfl) ?_
                                obtain ⟨⟨v444, S444⟩, h444, hsh⟩ := Option.bind_eq_some_iff.mp hsh
                                have hsh : _ = _ := hsh
                                try dsimp only at hsh
                                have ok444 := ok13_goesFound h444
                                refine e_callI (nL := 7) (mc := 0) (ms := 0) (T := TX13) (N := 126) (As := [.int (iI (x1)), .int (iI (x2)), .int (iI (x3))]) (rest := []) hx hb hml hown hts hp hS hl.size ok444.1 ok444.2.1 ok444.2.2 rfl (by decide) (c13_goesFound l D cA B S S444 (x0) (x1) (x2) (x3) v444 h444) rfl rfl kd13_goesFound (kl13_368) ks13_goesFound kv13_goesFound ki13 kh13_goesFound ⟨Nat.le_of_ble_eq_true rfl, Nat.le_of_ble_eq_true rfl⟩ rfl (by simp [e_rv_cat, e_int_cat]) ⟨Nat.le_refl _, Nat.le_refl _⟩ dX13_moves_444 rfl (fun H locs hp hS => ?_)
                                obtain ⟨hz, hz1, hz2⟩ := zR_some hsh
                                rw [← hz1, ← hz2]
                                exact e_zret hx hb hrt hlk hp hS hz dX13_moves_447
                              · rw [if_neg c45_14] at hsh
                                by_cases c45_15 : iW (x1) = 104
                                · rw [if_pos c45_15] at hsh
                                  refine lv_lookup (off := 211) (tgt := 256) hx hb dX13_moves_45 (by decide +kernel) (e_off_s (fun q => c45_0 q.symm) (e_off_s (fun q => c45_1 q.symm) (e_off_s (fun q => c45_2 q.symm) (e_off_s (fun q => c45_3 q.symm) (e_off_s (fun q => c45_4 q.symm) (e_off_s (fun q => c45_5 q.symm) (e_off_s (fun q => c45_6 q.symm) (e_off_s (fun q => c45_7 q.symm) (e_off_s (fun q => c45_8 q.symm) (e_off_s (fun q => c45_9 q.symm) (e_off_s (fun q => c45_10 q.symm) (e_off_s (fun q => c45_11 q.symm) (e_off_s (fun q => c45_12 q.symm) (e_off_s (fun q => c45_13 q.symm) (e_off_s (fun q => c45_14 q.symm) (e_off_h c45_15.symm)))))))))))))))) (by decide) ?_
                                  refine e_aload_n (B := B) (x := x0) hx hb dX13_moves_256 rfl (hl.at 1 rfl) ?_
                                  refine lv_iconst (v := iI (0)) hx hb dX13_moves_257 rfl ?_
                                  refine e_aload_n (B := B) (x := x0) hx hb dX13_moves_258 rfl (hl.at 1 rfl) ?_
                                  obtain ⟨v259, h259, hsh⟩ := Option.bind_eq_some_iff.mp hsh
                                  refine e_getI (k := 6) hx hb hts in_X13 hown hp h259 rfl (by decide) (by decide) rfl (hts _ kf13_216) rfl dX13_moves_259 ?_
                                  refine lv_iload_n hx hb dX13_moves_262 rfl (hl.at 4 rfl) ?_
                                  refine e_isub hx hb dX13_moves_263 ?_
                                  obtain ⟨⟨v264, S264⟩, h264, hsh⟩ := Option.bind_eq_some_iff.mp hsh
                                  have hsh : _ = _ := hsh
                                  try dsimp only at hsh
                                  refine e_callS (nL := 7) (mc := 0) (ms := 0) (As := [.int (iI (0)), .int (iI ((v259 - x3)))]) (rest := [e_rv B (x0)]) hx hb hml hown hts hp hS hl.size (c13_greater l D cA B S S264 (0) ((v259 - x3)) v264 h264) rfl rfl kd13_greater (kl13_210) ks13_greater ki13 kh13_greater ⟨Nat.le_of_ble_eq_true rfl, Nat.le_of_ble_eq_true rfl⟩ rfl (by simp [e_rv_cat, e_int_cat]) ⟨Nat.le_refl _, Nat.le_refl _⟩ dX13_moves_264 rfl (fun H locs hp hS => ?_)
                                  obtain ⟨S267, h267, hsh⟩ := Option.bind_eq_some_iff.mp hsh
                                  refine e_putI (k := 47) hx hb hts in_X13 tyX13 tyX13_ok nmX13 hown hp hS h267 rfl (by decide) (by decide) rfl (hts _ kf13_299) rfl rfl (by decide +kernel) dX13_moves_267 (fun H locs hp hS => ?_)
                                  refine e_aload_n (B := B) (x := x0) hx hb dX13_moves_270 rfl (hl.at 1 rfl) ?_
                                  obtain ⟨v271, h271, hsh⟩ := Option.bind_eq_some_iff.mp hsh
                                  refine e_getI (k := 6) hx hb hts in_X13 hown hp h271 rfl (by decide) (by decide) rfl (hts _ kf13_216) rfl dX13_moves_271 ?_
                                  refine e_if_le (tgt := 281) hx hb dX13_moves_274 (by decide) (fun c274 => ?_) (fun c274 => ?_)
                                  · rw [if_pos c274] at hsh
                                    refine lv_iconst (v := iI (0)) hx hb dX13_moves_281 rfl ?_
                                    exact w13_moves_b282 E hp hS (hl.sub [] rfl) hsh
                                  · rw [if_neg c274] at hsh
                                    refine lv_iconst (v := iI (1)) hx hb dX13_moves_277 rfl ?_
                                    refine lv_goto (tgt := 282) hx hb dX13_moves_278 (by decide) ?_
                                    exact w13_moves_b282 E hp hS (hl.sub [] rfl) hsh
                                · rw [if_neg c45_15] at hsh
                                  by_cases c45_16 : iW (x1) = 106
                                  · rw [if_pos c45_16] at hsh
                                    refine lv_lookup (off := 268) (tgt := 313) hx hb dX13_moves_45 (by decide +kernel) (e_off_s (fun q => c45_0 q.symm) (e_off_s (fun q => c45_1 q.symm) (e_off_s (fun q => c45_2 q.symm) (e_off_s (fun q => c45_3 q.symm) (e_off_s (fun q => c45_4 q.symm) (e_off_s (fun q => c45_5 q.symm) (e_off_s (fun q => c45_6 q.symm) (e_off_s (fun q => c45_7 q.symm) (e_off_s (fun q => c45_8 q.symm) (e_off_s (fun q => c45_9 q.symm) (e_off_s (fun q => c45_10 q.symm) (e_off_s (fun q => c45_11 q.symm) (e_off_s (fun q => c45_12 q.symm) (e_off_s (fun q => c45_13 q.symm) (e_off_s (fun q => c45_14 q.symm) (e_off_s (fun q => c45_15 q.symm) (e_off_h c45_16.symm))))))))))))))))) (by decide) ?_
                                    refine e_aload_n (B := B) (x := x0) hx hb dX13_moves_313 rfl (hl.at 1 rfl) ?_
                                    refine lv_iconst (v := iI (2)) hx hb dX13_moves_314 rfl ?_
                                    obtain ⟨S315, h315, hsh⟩ := Option.bind_eq_some_iff.mp hsh
                                    refine e_putI (k := 48) hx hb hts in_X13 tyX13 tyX13_ok nmX13 hown hp hS h315 rfl (by decide) (by decide) rfl (hts _ kf13_349) rfl rfl (by decide +kernel) dX13_moves_315 (fun H locs hp hS => ?_)
                                    refine e_aload_n (B := B) (x := x0) hx hb dX13_moves_318 rfl (hl.at 1 rfl) ?_
                                    refine lv_iload_n hx hb dX13_moves_319 rfl (hl.at 4 rfl) ?_
                                    refine lv_iload_n hx hb dX13_moves_320 rfl (hl.at 2 rfl) ?_
                                    refine lv_bipush (v := iI (106)) hx hb dX13_moves_321 (by decide +kernel) ?_
                                    refine e_icmp_ne (tgt := 330) hx hb dX13_moves_323 (by decide) (fun c323 => ?_) (fun c323 => ?_)
                                    · rw [if_neg c323] at hsh
                                      refine lv_iconst (v := iI (-1)) hx hb dX13_moves_330 rfl ?_
                                      exact w13_moves_b331 E hp hS (hl.sub [] rfl) hsh
                                    · rw [if_pos c323] at hsh
                                      refine lv_iconst (v := iI (1)) hx hb dX13_moves_326 rfl ?_
                                      refine lv_goto (tgt := 331) hx hb dX13_moves_327 (by decide) ?_
                                      exact w13_moves_b331 E hp hS (hl.sub [] rfl) hsh
                                  · rw [if_neg c45_16] at hsh
                                    by_cases c45_17 : iW (x1) = 107
                                    · rw [if_pos c45_17] at hsh
                                      refine lv_lookup (off := 268) (tgt := 313) hx hb dX13_moves_45 (by decide +kernel) (e_off_s (fun q => c45_0 q.symm) (e_off_s (fun q => c45_1 q.symm) (e_off_s (fun q => c45_2 q.symm) (e_off_s (fun q => c45_3 q.symm) (e_off_s (fun q => c45_4 q.symm) (e_off_s (fun q => c45_5 q.symm) (e_off_s (fun q => c45_6 q.symm) (e_off_s (fun q => c45_7 q.symm) (e_off_s (fun q => c45_8 q.symm) (e_off_s (fun q => c45_9 q.symm) (e_off_s (fun q => c45_10 q.symm) (e_off_s (fun q => c45_11 q.symm) (e_off_s (fun q => c45_12 q.symm) (e_off_s (fun q => c45_13 q.symm) (e_off_s (fun q => c45_14 q.symm) (e_off_s (fun q => c45_15 q.symm) (e_off_s (fun q => c45_16 q.symm) (e_off_h c45_17.symm)))))))))))))))))) (by decide) ?_
                                      refine e_aload_n (B := B) (x := x0) hx hb dX13_moves_313 rfl (hl.at 1 rfl) ?_
                                      refine lv_iconst (v := iI (2)) hx hb dX13_moves_314 rfl ?_
                                      obtain ⟨S315, h315, hsh⟩ := Option.bind_eq_some_iff.mp hsh
                                      refine e_putI (k := 48) hx hb hts in_X13 tyX13 tyX13_ok nmX13 hown hp hS h315 rfl (by decide) (by decide) rfl (hts _ kf13_349) rfl rfl (by decide +kernel) dX13_moves_315 (fun H locs hp hS => ?_)
                                      refine e_aload_n (B := B) (x := x0) hx hb dX13_moves_318 rfl (hl.at 1 rfl) ?_
                                      refine lv_iload_n hx hb dX13_moves_319 rfl (hl.at 4 rfl) ?_
                                      refine lv_iload_n hx hb dX13_moves_320 rfl (hl.at 2 rfl) ?_
                                      refine lv_bipush (v := iI (106)) hx hb dX13_moves_321 (by decide +kernel) ?_
                                      refine e_icmp_ne (tgt := 330) hx hb dX13_moves_323 (by decide) (fun c323 => ?_) (fun c323 => ?_)
                                      · rw [if_neg c323] at hsh
                                        refine lv_iconst (v := iI (-1)) hx hb dX13_moves_330 rfl ?_
                                        exact w13_moves_b331 E hp hS (hl.sub [] rfl) hsh
                                      · rw [if_pos c323] at hsh
                                        refine lv_iconst (v := iI (1)) hx hb dX13_moves_326 rfl ?_
                                        refine lv_goto (tgt := 331) hx hb dX13_moves_327 (by decide) ?_
                                        exact w13_moves_b331 E hp hS (hl.sub [] rfl) hsh
                                    · rw [if_neg c45_17] at hsh
                                      by_cases c45_18 : iW (x1) = 108
                                      · rw [if_pos c45_18] at hsh
                                        refine lv_lookup (off := 238) (tgt := 283) hx hb dX13_moves_45 (by decide +kernel) (e_off_s (fun q => c45_0 q.symm) (e_off_s (fun q => c45_1 q.symm) (e_off_s (fun q => c45_2 q.symm) (e_off_s (fun q => c45_3 q.symm) (e_off_s (fun q => c45_4 q.symm) (e_off_s (fun q => c45_5 q.symm) (e_off_s (fun q => c45_6 q.symm) (e_off_s (fun q => c45_7 q.symm) (e_off_s (fun q => c45_8 q.symm) (e_off_s (fun q => c45_9 q.symm) (e_off_s (fun q => c45_10 q.symm) (e_off_s (fun q => c45_11 q.symm) (e_off_s (fun q => c45_12 q.symm) (e_off_s (fun q => c45_13 q.symm) (e_off_s (fun q => c45_14 q.symm) (e_off_s (fun q => c45_15 q.symm) (e_off_s (fun q => c45_16 q.symm) (e_off_s (fun q => c45_17 q.symm) (e_off_h c45_18.symm))))))))))))))))))) (by decide) ?_
                                        refine e_aload_n (B := B) (x := x0) hx hb dX13_moves_283 rfl (hl.at 1 rfl) ?_
                                        refine e_aload_n (B := B) (x := x0) hx hb dX13_moves_284 rfl (hl.at 1 rfl) ?_
                                        obtain ⟨v285, h285, hsh⟩ := Option.bind_eq_some_iff.mp hsh
                                        refine e_getI (k := 6) hx hb hts in_X13 hown hp h285 rfl (by decide) (by decide) rfl (hts _ kf13_216) rfl dX13_moves_285 ?_
                                        refine lv_iload_n hx hb dX13_moves_288 rfl (hl.at 4 rfl) ?_
                                        refine e_iadd hx hb dX13_moves_289 ?_
                                        refine lv_iload hx hb dX13_moves_290 (hl.at 0 rfl) ?_
                                        obtain ⟨⟨v292, S292⟩, h292, hsh⟩ := Option.bind_eq_some_iff.mp hsh
                                        have hsh : _ = _ := hsh
                                        try dsimp only at hsh
                                        refine e_callS (nL := 7) (mc := 0) (ms := 0) (As := [.int (iI ((v285 + x3))), .int (iI (y0))]) (rest := [e_rv B (x0)]) hx hb hml hown hts hp hS hl.size (c13_lesser l D cA B S S292 ((v285 + x3)) (y0) v292 h292) rfl rfl kd13_lesser (kl13_257) ks13_lesser ki13 kh13_lesser ⟨Nat.le_of_ble_eq_true rfl, Nat.le_of_ble_eq_true rfl⟩ rfl (by simp [e_rv_cat, e_int_cat]) ⟨Nat.le_refl _, Nat.le_refl _⟩ dX13_moves_292 rfl (fun H locs hp hS => ?_)
                                        obtain ⟨S295, h295, hsh⟩ := Option.bind_eq_some_iff.mp hsh
                                        refine e_putI (k := 47) hx hb hts in_X13 tyX13 tyX13_ok nmX13 hown hp hS h295 rfl (by decide) (by decide) rfl (hts _ kf13_299) rfl rfl (by decide +kernel) dX13_moves_295 (fun H locs hp hS => ?_)
                                        refine e_aload_n (B := B) (x := x0) hx hb dX13_moves_298 rfl (hl.at 1 rfl) ?_
                                        obtain ⟨v299, h299, hsh⟩ := Option.bind_eq_some_iff.mp hsh
                                        refine e_getI (k := 6) hx hb hts in_X13 hown hp h299 rfl (by decide) (by decide) rfl (hts _ kf13_216) rfl dX13_moves_299 ?_
                                        refine lv_iload hx hb dX13_moves_302 (hl.at 0 rfl) ?_
                                        refine e_icmp_ge (tgt := 311) hx hb dX13_moves_304 (by decide) (fun c304 => ?_) (fun c304 => ?_)
                                        · rw [if_pos c304] at hsh
                                          refine lv_iconst (v := iI (0)) hx hb dX13_moves_311 rfl ?_
                                          exact w13_moves_b312 E hp hS (hl.sub [] rfl) hsh
                                        · rw [if_neg c304] at hsh
                                          refine lv_iconst (v := iI (1)) hx hb dX13_moves_307 rfl ?_
                                          refine lv_goto (tgt := 312) hx hb dX13_moves_308 (by decide) ?_
                                          exact w13_moves_b312 E hp hS (hl.sub [] rfl) hsh
                                      · rw [if_neg c45_18] at hsh
                                        by_cases c45_19 : iW (x1) = 110
                                        · rw [if_pos c45_19] at hsh
                                          refine lv_lookup (off := 516) (tgt := 561) hx hb dX13_moves_45 (by decide +kernel) (e_off_s (fun q => c45_0 q.symm) (e_off_s (fun q => c45_1 q.symm) (e_off_s (fun q => c45_2 q.symm) (e_off_s (fun q => c45_3 q.symm) (e_off_s (fun q => c45_4 q.symm) (e_off_s (fun q => c45_5 q.symm) (e_off_s (fun q => c45_6 q.symm) (e_off_s (fun q => c45_7 q.symm) (e_off_s (fun q => c45_8 q.symm) (e_off_s (fun q => c45_9 q.symm) (e_off_s (fun q => c45_10 q.symm) (e_off_s (fun q => c45_11 q.symm) (e_off_s (fun q => c45_12 q.symm) (e_off_s (fun q => c45_13 q.symm) (e_off_s (fun q => c45_14 q.symm) (e_off_s (fun q => c45_15 q.symm) (e_off_s (fun q => c45_16 q.symm) (e_off_s (fun q => c45_17 q.symm) (e_off_s (fun q => c45_18 q.symm) (e_off_h c45_19.symm)))))))))))))))))))) (by decide) ?_
                                          refine e_aload_n (B := B) (x := x0) hx hb dX13_moves_561 rfl (hl.at 1 rfl) ?_
                                          refine lv_iload_n hx hb dX13_moves_562 rfl (hl.at 2 rfl) ?_
                                          refine lv_bipush (v := iI (78)) hx hb dX13_moves_563 (by decide +kernel) ?_
                                          refine e_icmp_ne (tgt := 572) hx hb dX13_moves_565 (by decide) (fun c565 => ?_) (fun c565 => ?_)
                                          · rw [if_neg c565] at hsh
                                            refine lv_iconst (v := iI (1)) hx hb dX13_moves_572 rfl ?_
                                            exact w13_moves_b573 E hp hS (hl.sub [4] rfl) hsh
                                          · rw [if_pos c565] at hsh
                                            refine lv_iconst (v := iI (-1)) hx hb dX13_moves_568 rfl ?_
                                            refine lv_goto (tgt := 573) hx hb dX13_moves_569 (by decide) ?_
                                            exact w13_moves_b573 E hp hS (hl.sub [4] rfl) hsh
                                        · rw [if_neg c45_19] at hsh
                                          by_cases c45_20 : iW (x1) = 116
                                          · rw [if_pos c45_20] at hsh
                                            refine lv_lookup (off := 395) (tgt := 440) hx hb dX13_moves_45 (by decide +kernel) (e_off_s (fun q => c45_0 q.symm) (e_off_s (fun q => c45_1 q.symm) (e_off_s (fun q => c45_2 q.symm) (e_off_s (fun q => c45_3 q.symm) (e_off_s (fun q => c45_4 q.symm) (e_off_s (fun q => c45_5 q.symm) (e_off_s (fun q => c45_6 q.symm) (e_off_s (fun q => c45_7 q.symm) (e_off_s (fun q => c45_8 q.symm) (e_off_s (fun q => c45_9 q.symm) (e_off_s (fun q => c45_10 q.symm) (e_off_s (fun q => c45_11 q.symm) (e_off_s (fun q => c45_12 q.symm) (e_off_s (fun q => c45_13 q.symm) (e_off_s (fun q => c45_14 q.symm) (e_off_s (fun q => c45_15 q.symm) (e_off_s (fun q => c45_16 q.symm) (e_off_s (fun q => c45_17 q.symm) (e_off_s (fun q => c45_18 q.symm) (e_off_s (fun q => c45_19 q.symm) (e_off_h c45_20.symm))))))))))))))))))))) (by decide) ?_
                                            refine e_aload_n (B := B) (x := x0) hx hb dX13_moves_440 rfl (hl.at 1 rfl) ?_
                                            refine lv_iload_n hx hb dX13_moves_441 rfl (hl.at 2 rfl) ?_
                                            refine lv_iload_n hx hb dX13_moves_442 rfl (hl.at 3 rfl) ?_
                                            refine lv_iload_n hx hb dX13_moves_443 rfl (hl.at 4 rfl) ?_
                                            obtain ⟨⟨v444, S444⟩, h444, hsh⟩ := Option.bind_eq_some_iff.mp hsh
                                            have hsh : _ = _ := hsh
                                            try dsimp only at hsh
                                            have ok444 := ok13_goesFound h444
                                            refine e_callI (nL := 7) (mc := 0) (ms := 0) (T := TX13) (N := 126) (As := [.int (iI (x1)), .int (iI (x2)), .int (iI (x3))]) (rest := []) hx hb hml hown hts hp hS hl.size ok444.1 ok444.2.1 ok444.2.2 rfl (by decide) (c13_goesFound l D cA B S S444 (x0) (x1) (x2) (x3) v444 h444) rfl rfl kd13_goesFound (kl13_368) ks13_goesFound kv13_goesFound ki13 kh13_goesFound ⟨Nat.le_of_ble_eq_true rfl, Nat.le_of_ble_eq_true rfl⟩ rfl (by simp [e_rv_cat, e_int_cat]) ⟨Nat.le_refl _, Nat.le_refl _⟩ dX13_moves_444 rfl (fun H locs hp hS => ?_)
                                            obtain ⟨hz, hz1, hz2⟩ := zR_some hsh
                                            rw [← hz1, ← hz2]
                                            exact e_zret hx hb hrt hlk hp hS hz dX13_moves_447
                                          · rw [if_neg c45_20] at hsh
                                            by_cases c45_21 : iW (x1) = 119
                                            · rw [if_pos c45_21] at hsh
                                              refine lv_lookup (off := 370) (tgt := 415) hx hb dX13_moves_45 (by decide +kernel) (e_off_s (fun q => c45_0 q.symm) (e_off_s (fun q => c45_1 q.symm) (e_off_s (fun q => c45_2 q.symm) (e_off_s (fun q => c45_3 q.symm) (e_off_s (fun q => c45_4 q.symm) (e_off_s (fun q => c45_5 q.symm) (e_off_s (fun q => c45_6 q.symm) (e_off_s (fun q => c45_7 q.symm) (e_off_s (fun q => c45_8 q.symm) (e_off_s (fun q => c45_9 q.symm) (e_off_s (fun q => c45_10 q.symm) (e_off_s (fun q => c45_11 q.symm) (e_off_s (fun q => c45_12 q.symm) (e_off_s (fun q => c45_13 q.symm) (e_off_s (fun q => c45_14 q.symm) (e_off_s (fun q => c45_15 q.symm) (e_off_s (fun q => c45_16 q.symm) (e_off_s (fun q => c45_17 q.symm) (e_off_s (fun q => c45_18 q.symm) (e_off_s (fun q => c45_19 q.symm) (e_off_s (fun q => c45_20 q.symm) (e_off_h c45_21.symm)))))))))))))))))))))) (by decide) ?_
                                              refine e_aload_n (B := B) (x := x0) hx hb dX13_moves_415 rfl (hl.at 1 rfl) ?_
                                              refine lv_iload_n hx hb dX13_moves_416 rfl (hl.at 4 rfl) ?_
                                              refine lv_iload hx hb dX13_moves_417 (hl.at 6 rfl) ?_
                                              obtain ⟨⟨v419, S419⟩, h419, hsh⟩ := Option.bind_eq_some_iff.mp hsh
                                              have hsh : _ = _ := hsh
                                              try dsimp only at hsh
                                              have ok419 := ok13_goesWords h419
                                              refine e_callI (nL := 7) (mc := 0) (ms := 0) (T := TX13) (N := 126) (As := [.int (iI (x3)), .int (iI (x5))]) (rest := []) hx hb hml hown hts hp hS hl.size ok419.1 ok419.2.1 ok419.2.2 rfl (by decide) (c13_goesWords l D cA B S S419 (x0) (x3) (x5) v419 h419) rfl rfl kd13_goesWords (kl13_358) ks13_goesWords kv13_goesWords ki13 kh13_goesWords ⟨Nat.le_of_ble_eq_true rfl, Nat.le_of_ble_eq_true rfl⟩ rfl (by simp [e_rv_cat, e_int_cat]) ⟨Nat.le_refl _, Nat.le_refl _⟩ dX13_moves_419 rfl (fun H locs hp hS => ?_)
                                              obtain ⟨hz, hz1, hz2⟩ := zR_some hsh
                                              rw [← hz1, ← hz2]
                                              exact e_zret hx hb hrt hlk hp hS hz dX13_moves_422
                                            · rw [if_neg c45_21] at hsh
                                              by_cases c45_22 : iW (x1) = 123
                                              · rw [if_pos c45_22] at hsh
                                                refine lv_lookup (off := 489) (tgt := 534) hx hb dX13_moves_45 (by decide +kernel) (e_off_s (fun q => c45_0 q.symm) (e_off_s (fun q => c45_1 q.symm) (e_off_s (fun q => c45_2 q.symm) (e_off_s (fun q => c45_3 q.symm) (e_off_s (fun q => c45_4 q.symm) (e_off_s (fun q => c45_5 q.symm) (e_off_s (fun q => c45_6 q.symm) (e_off_s (fun q => c45_7 q.symm) (e_off_s (fun q => c45_8 q.symm) (e_off_s (fun q => c45_9 q.symm) (e_off_s (fun q => c45_10 q.symm) (e_off_s (fun q => c45_11 q.symm) (e_off_s (fun q => c45_12 q.symm) (e_off_s (fun q => c45_13 q.symm) (e_off_s (fun q => c45_14 q.symm) (e_off_s (fun q => c45_15 q.symm) (e_off_s (fun q => c45_16 q.symm) (e_off_s (fun q => c45_17 q.symm) (e_off_s (fun q => c45_18 q.symm) (e_off_s (fun q => c45_19 q.symm) (e_off_s (fun q => c45_20 q.symm) (e_off_s (fun q => c45_21 q.symm) (e_off_h c45_22.symm))))))))))))))))))))))) (by decide) ?_
                                                refine e_aload_n (B := B) (x := x0) hx hb dX13_moves_534 rfl (hl.at 1 rfl) ?_
                                                refine lv_iload_n hx hb dX13_moves_535 rfl (hl.at 4 rfl) ?_
                                                refine lv_iload_n hx hb dX13_moves_536 rfl (hl.at 2 rfl) ?_
                                                refine lv_bipush (v := iI (125)) hx hb dX13_moves_537 (by decide +kernel) ?_
                                                refine e_icmp_ne (tgt := 546) hx hb dX13_moves_539 (by decide) (fun c539 => ?_) (fun c539 => ?_)
                                                · rw [if_neg c539] at hsh
                                                  refine lv_iconst (v := iI (-1)) hx hb dX13_moves_546 rfl ?_
                                                  exact w13_moves_b547 E hp hS (hl.sub [] rfl) hsh
                                                · rw [if_pos c539] at hsh
                                                  refine lv_iconst (v := iI (1)) hx hb dX13_moves_542 rfl ?_
                                                  refine lv_goto (tgt := 547) hx hb dX13_moves_543 (by decide) ?_
                                                  exact w13_moves_b547 E hp hS (hl.sub [] rfl) hsh
                                              · rw [if_neg c45_22] at hsh
                                                by_cases c45_23 : iW (x1) = 125
                                                · rw [if_pos c45_23] at hsh
                                                  refine lv_lookup (off := 489) (tgt := 534) hx hb dX13_moves_45 (by decide +kernel) (e_off_s (fun q => c45_0 q.symm) (e_off_s (fun q => c45_1 q.symm) (e_off_s (fun q => c45_2 q.symm) (e_off_s (fun q => c45_3 q.symm) (e_off_s (fun q => c45_4 q.symm) (e_off_s (fun q => c45_5 q.symm) (e_off_s (fun q => c45_6 q.symm) (e_off_s (fun q => c45_7 q.symm) (e_off_s (fun q => c45_8 q.symm) (e_off_s (fun q => c45_9 q.symm) (e_off_s (fun q => c45_10 q.symm) (e_off_s (fun q => c45_11 q.symm) (e_off_s (fun q => c45_12 q.symm) (e_off_s (fun q => c45_13 q.symm) (e_off_s (fun q => c45_14 q.symm) (e_off_s (fun q => c45_15 q.symm) (e_off_s (fun q => c45_16 q.symm) (e_off_s (fun q => c45_17 q.symm) (e_off_s (fun q => c45_18 q.symm) (e_off_s (fun q => c45_19 q.symm) (e_off_s (fun q => c45_20 q.symm) (e_off_s (fun q => c45_21 q.symm) (e_off_s (fun q => c45_22 q.symm) (e_off_h c45_23.symm)))))))))))))))))))))))) (by decide) ?_
                                                  refine e_aload_n (B := B) (x := x0) hx hb dX13_moves_534 rfl (hl.at 1 rfl) ?_
                                                  refine lv_iload_n hx hb dX13_moves_535 rfl (hl.at 4 rfl) ?_
                                                  refine lv_iload_n hx hb dX13_moves_536 rfl (hl.at 2 rfl) ?_
                                                  refine lv_bipush (v := iI (125)) hx hb dX13_moves_537 (by decide +kernel) ?_
                                                  refine e_icmp_ne (tgt := 546) hx hb dX13_moves_539 (by decide) (fun c539 => ?_) (fun c539 => ?_)
                                                  · rw [if_neg c539] at hsh
                                                    refine lv_iconst (v := iI (-1)) hx hb dX13_moves_546 rfl ?_
                                                    exact w13_moves_b547 E hp hS (hl.sub [] rfl) hsh
                                                  · rw [if_pos c539] at hsh
                                                    refine lv_iconst (v := iI (1)) hx hb dX13_moves_542 rfl ?_
                                                    refine lv_goto (tgt := 547) hx hb dX13_moves_543 (by decide) ?_
                                                    exact w13_moves_b547 E hp hS (hl.sub [] rfl) hsh
                                                · rw [if_neg c45_23] at hsh
                                                  by_cases c45_24 : iW (x1) = 359
                                                  · rw [if_pos c45_24] at hsh
                                                    refine lv_lookup (off := 445) (tgt := 490) hx hb dX13_moves_45 (by decide +kernel) (e_off_s (fun q => c45_0 q.symm) (e_off_s (fun q => c45_1 q.symm) (e_off_s (fun q => c45_2 q.symm) (e_off_s (fun q => c45_3 q.symm) (e_off_s (fun q => c45_4 q.symm) (e_off_s (fun q => c45_5 q.symm) (e_off_s (fun q => c45_6 q.symm) (e_off_s (fun q => c45_7 q.symm) (e_off_s (fun q => c45_8 q.symm) (e_off_s (fun q => c45_9 q.symm) (e_off_s (fun q => c45_10 q.symm) (e_off_s (fun q => c45_11 q.symm) (e_off_s (fun q => c45_12 q.symm) (e_off_s (fun q => c45_13 q.symm) (e_off_s (fun q => c45_14 q.symm) (e_off_s (fun q => c45_15 q.symm) (e_off_s (fun q => c45_16 q.symm) (e_off_s (fun q => c45_17 q.symm) (e_off_s (fun q => c45_18 q.symm) (e_off_s (fun q => c45_19 q.symm) (e_off_s (fun q => c45_20 q.symm) (e_off_s (fun q => c45_21 q.symm) (e_off_s (fun q => c45_22 q.symm) (e_off_s (fun q => c45_23 q.symm) (e_off_h c45_24.symm))))))))))))))))))))))))) (by decide) ?_
                                                    refine e_aload_n (B := B) (x := x0) hx hb dX13_moves_490 rfl (hl.at 1 rfl) ?_
                                                    refine lv_iconst (v := iI (2)) hx hb dX13_moves_491 rfl ?_
                                                    obtain ⟨S492, h492, hsh⟩ := Option.bind_eq_some_iff.mp hsh
                                                    refine e_putI (k := 48) hx hb hts in_X13 tyX13 tyX13_ok nmX13 hown hp hS h492 rfl (by decide) (by decide) rfl (hts _ kf13_349) rfl rfl (by decide +kernel) dX13_moves_492 (fun H locs hp hS => ?_)
                                                    refine e_aload_n (B := B) (x := x0) hx hb dX13_moves_495 rfl (hl.at 1 rfl) ?_
                                                    refine lv_iload hx hb dX13_moves_496 (hl.at 5 rfl) ?_
                                                    refine e_if_eq (tgt := 514) hx hb dX13_moves_498 (by decide) (fun c498 => ?_) (fun c498 => ?_)
                                                    · rw [if_pos c498] at hsh
                                                      refine lv_iload_n hx hb dX13_moves_514 rfl (hl.at 2 rfl) ?_
                                                      refine lv_bipush (v := iI (71)) hx hb dX13_moves_515 (by decide +kernel) ?_
                                                      refine e_icmp_ne (tgt := 529) hx hb dX13_moves_517 (by decide) (fun c517 => ?_) (fun c517 => ?_)
                                                      · rw [if_neg c517] at hsh
                                                        refine lv_iconst (v := iI (0)) hx hb dX13_moves_529 rfl ?_
                                                        exact w13_moves_b530 E hp hS (hl.sub [] rfl) hsh
                                                      · rw [if_pos c517] at hsh
                                                        refine e_aload_n (B := B) (x := x0) hx hb dX13_moves_520 rfl (hl.at 1 rfl) ?_
                                                        obtain ⟨v521, h521, hsh⟩ := Option.bind_eq_some_iff.mp hsh
                                                        refine e_getI (k := 2) hx hb hts in_X13 hown hp h521 rfl (by decide) (by decide) rfl (hts _ kf13_13) rfl dX13_moves_521 ?_
                                                        refine lv_iconst (v := iI (1)) hx hb dX13_moves_524 rfl ?_
                                                        refine e_isub hx hb dX13_moves_525 ?_
                                                        refine lv_goto (tgt := 530) hx hb dX13_moves_526 (by decide) ?_
                                                        exact w13_moves_b530 E hp hS (hl.sub [] rfl) hsh
                                                    · rw [if_neg c498] at hsh
                                                      refine lv_iload_n hx hb dX13_moves_501 rfl (hl.at 4 rfl) ?_
                                                      refine e_aload_n (B := B) (x := x0) hx hb dX13_moves_502 rfl (hl.at 1 rfl) ?_
                                                      obtain ⟨v503, h503, hsh⟩ := Option.bind_eq_some_iff.mp hsh
                                                      refine e_getI (k := 2) hx hb hts in_X13 hown hp h503 rfl (by decide) (by decide) rfl (hts _ kf13_13) rfl dX13_moves_503 ?_
                                                      obtain ⟨⟨v506, S506⟩, h506, hsh⟩ := Option.bind_eq_some_iff.mp hsh
                                                      have hsh : _ = _ := hsh
                                                      try dsimp only at hsh
                                                      refine e_callS (nL := 7) (mc := 0) (ms := 0) (As := [.int (iI (x3)), .int (iI (v503))]) (rest := [e_rv B (x0)]) hx hb hml hown hts hp hS hl.size (c13_lesser l D cA B S492 S506 (x3) (v503) v506 h506) rfl rfl kd13_lesser (kl13_257) ks13_lesser ki13 kh13_lesser ⟨Nat.le_of_ble_eq_true rfl, Nat.le_of_ble_eq_true rfl⟩ rfl (by simp [e_rv_cat, e_int_cat]) ⟨Nat.le_refl _, Nat.le_refl _⟩ dX13_moves_506 rfl (fun H locs hp hS => ?_)
                                                      refine lv_iconst (v := iI (1)) hx hb dX13_moves_509 rfl ?_
                                                      refine e_isub hx hb dX13_moves_510 ?_
                                                      refine lv_goto (tgt := 530) hx hb dX13_moves_511 (by decide) ?_
                                                      exact w13_moves_b530 E hp hS (hl.sub [] rfl) hsh
                                                  · rw [if_neg c45_24] at hsh
                                                    refine lv_lookup (off := 545) (tgt := 590) hx hb dX13_moves_45 (by decide +kernel) (e_off_s (fun q => c45_0 q.symm) (e_off_s (fun q => c45_1 q.symm) (e_off_s (fun q => c45_2 q.symm) (e_off_s (fun q => c45_3 q.symm) (e_off_s (fun q => c45_4 q.symm) (e_off_s (fun q => c45_5 q.symm) (e_off_s (fun q => c45_6 q.symm) (e_off_s (fun q => c45_7 q.symm) (e_off_s (fun q => c45_8 q.symm) (e_off_s (fun q => c45_9 q.symm) (e_off_s (fun q => c45_10 q.symm) (e_off_s (fun q => c45_11 q.symm) (e_off_s (fun q => c45_12 q.symm) (e_off_s (fun q => c45_13 q.symm) (e_off_s (fun q => c45_14 q.symm) (e_off_s (fun q => c45_15 q.symm) (e_off_s (fun q => c45_16 q.symm) (e_off_s (fun q => c45_17 q.symm) (e_off_s (fun q => c45_18 q.symm) (e_off_s (fun q => c45_19 q.symm) (e_off_s (fun q => c45_20 q.symm) (e_off_s (fun q => c45_21 q.symm) (e_off_s (fun q => c45_22 q.symm) (e_off_s (fun q => c45_23 q.symm) (e_off_s (fun q => c45_24 q.symm) rfl))))))))))))))))))))))))) (by decide) ?_
                                                    refine e_aload_n (B := B) (x := x0) hx hb dX13_moves_590 rfl (hl.at 1 rfl) ?_
                                                    refine lv_iload_n hx hb dX13_moves_591 rfl (hl.at 3 rfl) ?_
                                                    refine lv_iconst (v := iI (1)) hx hb dX13_moves_592 rfl ?_
                                                    obtain ⟨⟨v593, S593⟩, h593, hsh⟩ := Option.bind_eq_some_iff.mp hsh
                                                    have hsh : _ = _ := hsh
                                                    try dsimp only at hsh
                                                    have ok593 := ok13_goesMark h593
                                                    refine e_callI (nL := 7) (mc := 0) (ms := 0) (T := TX13) (N := 126) (As := [.int (iI (x2)), .int (iI (1))]) (rest := []) hx hb hml hown hts hp hS hl.size ok593.1 ok593.2.1 ok593.2.2 rfl (by decide) (c13_goesMark l D cA B S S593 (x0) (x2) (1) v593 h593) rfl rfl kd13_goesMark (kl13_392) ks13_goesMark kv13_goesMark ki13 kh13_goesMark ⟨Nat.le_of_ble_eq_true rfl, Nat.le_of_ble_eq_true rfl⟩ rfl (by simp [e_rv_cat, e_int_cat]) ⟨Nat.le_refl _, Nat.le_refl _⟩ dX13_moves_593 rfl (fun H locs hp hS => ?_)
                                                    obtain ⟨hz, hz1, hz2⟩ := zR_some hsh
                                                    rw [← hz1, ← hz2]
                                                    exact e_zret hx hb hrt hlk hp hS hz dX13_moves_596
set_option maxRecDepth 100000 in
set_option maxHeartbeats 4000000 in
theorem c13_moves (l : Launch) (D : va_G) (cA : Nat → ClassId) (B : Nat) (S S' : HP) (x0 : Int) (x1 : Int) (x2 : Int) (x3 : Int) (x4 : Int) (x5 : Int) (r : Int) (hsh : s13_moves S x0 x1 x2 x3 x4 x5 = some (r, S')) : Met l yX13_moves (e_wu yX13_moves cX13_moves 7 (some .boolean)) ({ frames := 6, cells := 0, slots := 0, locals := 137 } : Room) (va_Pc [e_rv B (x0), .int (iI (x1)), .int (iI (x2)), .int (iI (x3)), .int (iI (x4)), .int (iI (x5))] (fun U => e_PU D cA B S U)) (e_Qi D cA B r S') 0 0 (e_A B) := by
  refine Met.ofW (cc := cX13_moves) (maxL := 7) (ret := (some .boolean)) (by decide +kernel) rfl ?_
  intro p e s m args below meth c s₁ Bd hml hv
  obtain ⟨rfl, hp⟩ := hv
  have hp : e_Pic D cA B S s s.heap := hp
  have hx := Bd.exec
  have hb := Bd.bytes
  have hrt := Bd.returns
  have hlk := Bd.notSynchronized
  have hown : s.vm.findClass RX13 = some m.cls := findClass_of_methodNamed Bd.named
  have hts : ∀ w ∈ e_tb, w.before ([e_rv B (x0), .int (iI (x1)), .int (iI (x2)), .int (iI (x3)), .int (iI (x4)), .int (iI (x5))] : List Value).toArray s = true := fun w h => atoms_spec (ws := (e_wu yX13_moves cX13_moves 7 (some .boolean))) Bd.pre w (List.mem_cons_of_mem _ h)
  have E : e_En p s m ([e_rv B (x0), .int (iI (x1)), .int (iI (x2)), .int (iI (x3)), .int (iI (x4)), .int (iI (x5))] : List Value).toArray meth c cX13_moves RX13 7 (some .boolean) := ⟨hx, hb, hml, hown, hts, hlk, hrt⟩
  have hS : va_S (e_A B) s.heap s.heap [] := va_S.rf
  have hl := e_entry (vs := [e_rv B (x0), .int (iI (x1)), .int (iI (x2)), .int (iI (x3)), .int (iI (x4)), .int (iI (x5))]) (n := 7) (Nat.le_of_ble_eq_true rfl) (e_cc (e_rv_cat _ _) (e_cc rfl (e_cc rfl (e_cc rfl (e_cc rfl (e_cc rfl e_cn))))))
  rw [lg_entry_eq]
  generalize (lg_sl [e_rv B (x0), .int (iI (x1)), .int (iI (x2)), .int (iI (x3)), .int (iI (x4)), .int (iI (x5))] ++ List.replicate (7 - (lg_sl [e_rv B (x0), .int (iI (x1)), .int (iI (x2)), .int (iI (x3)), .int (iI (x4)), .int (iI (x5))]).length) Slot.unset).toArray = ls at hl ⊢
  generalize ([e_rv B (x0), .int (iI (x1)), .int (iI (x2)), .int (iI (x3)), .int (iI (x4)), .int (iI (x5))] : List Value).toArray = args at hts E ⊢
  have hl : e_lo ls 7 [(0, e_rv B (x0)), (1, .int (iI (x1))), (2, .int (iI (x2))), (3, .int (iI (x3))), (4, .int (iI (x4))), (5, .int (iI (x5)))] := hl
  have hsh := (gd_some hsh).2
  refine e_aload_n (B := B) (x := x0) hx hb dX13_moves_0 rfl (hl.at 0 rfl) ?_
  refine e_aload_n (B := B) (x := x0) hx hb dX13_moves_1 rfl (hl.at 0 rfl) ?_
  obtain ⟨v2, h2, hsh⟩ := Option.bind_eq_some_iff.mp hsh
  refine e_getI (k := 5) hx hb hts in_X13 hown hp h2 rfl (by decide) (by decide) rfl (hts _ kf13_213) rfl dX13_moves_2 ?_
  refine e_aload_n (B := B) (x := x0) hx hb dX13_moves_5 rfl (hl.at 0 rfl) ?_
  obtain ⟨v6, h6, hsh⟩ := Option.bind_eq_some_iff.mp hsh
  refine e_getI (k := 6) hx hb hts in_X13 hown hp h6 rfl (by decide) (by decide) rfl (hts _ kf13_216) rfl dX13_moves_6 ?_
  obtain ⟨S9, h9, hsh⟩ := Option.bind_eq_some_iff.mp hsh
  have ok9 := ok13_reaches h9
  refine e_callV (nL := 7) (mc := 0) (ms := 0) (T := TX13) (N := 126) (As := [.int (iI (v2)), .int (iI (v6))]) (rest := []) hx hb hml hown hts hp hS hl.size ok9.1 ok9.2.1 ok9.2.2 rfl (by decide) (c13_reaches l D cA B S S9 (x0) (v2) (v6) h9) rfl rfl kd13_reaches (kl13_306) ks13_reaches kv13_reaches ki13 kh13_reaches ⟨Nat.le_of_ble_eq_true rfl, Nat.le_of_ble_eq_true rfl⟩ rfl (by simp [e_rv_cat, e_int_cat]) ⟨Nat.le_refl _, Nat.le_refl _⟩ dX13_moves_9 rfl (fun H locs hp hS => ?_)
  refine e_aload_n (B := B) (x := x0) hx hb dX13_moves_12 rfl (hl.at 0 rfl) ?_
  refine lv_iconst (v := iI (0)) hx hb dX13_moves_13 rfl ?_
  obtain ⟨S14, h14, hsh⟩ := Option.bind_eq_some_iff.mp hsh
  refine e_putI (k := 48) hx hb hts in_X13 tyX13 tyX13_ok nmX13 hown hp hS h14 rfl (by decide) (by decide) rfl (hts _ kf13_349) rfl rfl (by decide +kernel) dX13_moves_14 (fun H locs hp hS => ?_)
  refine lv_iload hx hb dX13_moves_17 (hl.at 5 rfl) ?_
  refine e_if_eq (tgt := 34) hx hb dX13_moves_19 (by decide) (fun c19 => ?_) (fun c19 => ?_)
  · rw [if_pos c19] at hsh
    refine e_aload_n (B := B) (x := x0) hx hb dX13_moves_34 rfl (hl.at 0 rfl) ?_
    refine e_aload_n (B := B) (x := x0) hx hb dX13_moves_35 rfl (hl.at 0 rfl) ?_
    obtain ⟨v36, h36, hsh⟩ := Option.bind_eq_some_iff.mp hsh
    refine e_getI (k := 5) hx hb hts in_X13 hown hp h36 rfl (by decide) (by decide) rfl (hts _ kf13_213) rfl dX13_moves_36 ?_
    obtain ⟨⟨v39, S39⟩, h39, hsh⟩ := Option.bind_eq_some_iff.mp hsh
    have hsh : _ = _ := hsh
    try dsimp only at hsh
    have ok39 := ok13_lastOf h39
    refine e_callI (nL := 7) (mc := 0) (ms := 0) (T := TX13) (N := 126) (As := [.int (iI (v36))]) (rest := []) hx hb hml hown hts hp hS hl.size ok39.1 ok39.2.1 ok39.2.2 rfl (by decide) (c13_lastOf l D cA B S14 S39 (x0) (v36) v39 h39) rfl rfl kd13_lastOf (kl13_309) ks13_lastOf kv13_lastOf ki13 kh13_lastOf ⟨Nat.le_of_ble_eq_true rfl, Nat.le_of_ble_eq_true rfl⟩ rfl (by simp [e_rv_cat, e_int_cat]) ⟨Nat.le_refl _, Nat.le_refl _⟩ dX13_moves_39 rfl (fun H locs hp hS => ?_)
    exact w13_moves_b42 E hp hS (hl.sub [0, 1, 2, 3, 4, 5] rfl) hsh
  · rw [if_neg c19] at hsh
    refine e_aload_n (B := B) (x := x0) hx hb dX13_moves_22 rfl (hl.at 0 rfl) ?_
    obtain ⟨v23, h23, hsh⟩ := Option.bind_eq_some_iff.mp hsh
    refine e_getR (k := 3) hx hb hts in_X13 hown hp h23 rfl (by decide) (by decide) rfl (hts _ kf13_17) rfl dX13_moves_23 ?_
    refine e_aload_n (B := B) (x := x0) hx hb dX13_moves_26 rfl (hl.at 0 rfl) ?_
    obtain ⟨v27, h27, hsh⟩ := Option.bind_eq_some_iff.mp hsh
    refine e_getI (k := 5) hx hb hts in_X13 hown hp h27 rfl (by decide) (by decide) rfl (hts _ kf13_213) rfl dX13_moves_27 ?_
    obtain ⟨v30, h30, hsh⟩ := Option.bind_eq_some_iff.mp hsh
    refine e_iald hx hb hp h30 dX13_moves_30 ?_
    refine lv_goto (tgt := 42) hx hb dX13_moves_31 (by decide) ?_
    exact w13_moves_b42 E hp hS (hl.sub [0, 1, 2, 3, 4, 5] rfl) hsh
theorem ok13_spans {S : HP} {x0 : Int} {x1 : Int} {x2 : Int} {x3 : Int} {x4 : Int} {x5 : Int} {r : HP} (h : s13_spans S x0 x1 x2 x3 x4 x5 = some r) : 0 ≤ x0 ∧ x0.toNat < e_n S ∧ e_g S x0.toNat = 13 := (gd_some h).1
set_option maxRecDepth 100000 in
set_option maxHeartbeats 4000000 in
theorem c13_spans (l : Launch) (D : va_G) (cA : Nat → ClassId) (B : Nat) (S S' : HP) (x0 : Int) (x1 : Int) (x2 : Int) (x3 : Int) (x4 : Int) (x5 : Int) (hsh : s13_spans S x0 x1 x2 x3 x4 x5 = some S') : Met l yX13_spans (e_wu yX13_spans cX13_spans 6 none) ({ frames := 0, cells := 0, slots := 0, locals := 0 } : Room) (va_Pc [e_rv B (x0), .int (iI (x1)), .int (iI (x2)), .int (iI (x3)), .int (iI (x4)), .int (iI (x5))] (fun U => e_PU D cA B S U)) (e_Qv D cA B S') 0 0 (e_A B) := by
  refine Met.ofW (cc := cX13_spans) (maxL := 6) (ret := none) (by decide +kernel) rfl ?_
  intro p e s m args below meth c s₁ Bd hml hv
  obtain ⟨rfl, hp⟩ := hv
  have hp : e_Pic D cA B S s s.heap := hp
  have hx := Bd.exec
  have hb := Bd.bytes
  have hrt := Bd.returns
  have hlk := Bd.notSynchronized
  have hown : s.vm.findClass RX13 = some m.cls := findClass_of_methodNamed Bd.named
  have hts : ∀ w ∈ e_tb, w.before ([e_rv B (x0), .int (iI (x1)), .int (iI (x2)), .int (iI (x3)), .int (iI (x4)), .int (iI (x5))] : List Value).toArray s = true := fun w h => atoms_spec (ws := (e_wu yX13_spans cX13_spans 6 none)) Bd.pre w (List.mem_cons_of_mem _ h)
  have E : e_En p s m ([e_rv B (x0), .int (iI (x1)), .int (iI (x2)), .int (iI (x3)), .int (iI (x4)), .int (iI (x5))] : List Value).toArray meth c cX13_spans RX13 6 none := ⟨hx, hb, hml, hown, hts, hlk, hrt⟩
  have hS : va_S (e_A B) s.heap s.heap [] := va_S.rf
  have hl := e_entry (vs := [e_rv B (x0), .int (iI (x1)), .int (iI (x2)), .int (iI (x3)), .int (iI (x4)), .int (iI (x5))]) (n := 6) (Nat.le_of_ble_eq_true rfl) (e_cc (e_rv_cat _ _) (e_cc rfl (e_cc rfl (e_cc rfl (e_cc rfl (e_cc rfl e_cn))))))
  rw [lg_entry_eq]
  generalize (lg_sl [e_rv B (x0), .int (iI (x1)), .int (iI (x2)), .int (iI (x3)), .int (iI (x4)), .int (iI (x5))] ++ List.replicate (6 - (lg_sl [e_rv B (x0), .int (iI (x1)), .int (iI (x2)), .int (iI (x3)), .int (iI (x4)), .int (iI (x5))]).length) Slot.unset).toArray = ls at hl ⊢
  generalize ([e_rv B (x0), .int (iI (x1)), .int (iI (x2)), .int (iI (x3)), .int (iI (x4)), .int (iI (x5))] : List Value).toArray = args at hts E ⊢
  have hl : e_lo ls 6 [(0, e_rv B (x0)), (1, .int (iI (x1))), (2, .int (iI (x2))), (3, .int (iI (x3))), (4, .int (iI (x4))), (5, .int (iI (x5)))] := hl
  have hsh := (gd_some hsh).2
  refine e_aload_n (B := B) (x := x0) hx hb dX13_spans_0 rfl (hl.at 0 rfl) ?_
  refine lv_iload_n hx hb dX13_spans_1 rfl (hl.at 1 rfl) ?_
  obtain ⟨S2, h2, hsh⟩ := Option.bind_eq_some_iff.mp hsh
  refine e_putI (k := 35) hx hb hts in_X13 tyX13 tyX13_ok nmX13 hown hp hS h2 rfl (by decide) (by decide) rfl (hts _ kf13_395) rfl rfl (by decide +kernel) dX13_spans_2 (fun H locs hp hS => ?_)
  refine e_aload_n (B := B) (x := x0) hx hb dX13_spans_5 rfl (hl.at 0 rfl) ?_
  refine lv_iload_n hx hb dX13_spans_6 rfl (hl.at 2 rfl) ?_
  obtain ⟨S7, h7, hsh⟩ := Option.bind_eq_some_iff.mp hsh
  refine e_putI (k := 36) hx hb hts in_X13 tyX13 tyX13_ok nmX13 hown hp hS h7 rfl (by decide) (by decide) rfl (hts _ kf13_398) rfl rfl (by decide +kernel) dX13_spans_7 (fun H locs hp hS => ?_)
  refine e_aload_n (B := B) (x := x0) hx hb dX13_spans_10 rfl (hl.at 0 rfl) ?_
  refine lv_iload_n hx hb dX13_spans_11 rfl (hl.at 3 rfl) ?_
  obtain ⟨S12, h12, hsh⟩ := Option.bind_eq_some_iff.mp hsh
  refine e_putI (k := 37) hx hb hts in_X13 tyX13 tyX13_ok nmX13 hown hp hS h12 rfl (by decide) (by decide) rfl (hts _ kf13_401) rfl rfl (by decide +kernel) dX13_spans_12 (fun H locs hp hS => ?_)
  refine e_aload_n (B := B) (x := x0) hx hb dX13_spans_15 rfl (hl.at 0 rfl) ?_
  refine lv_iload hx hb dX13_spans_16 (hl.at 4 rfl) ?_
  obtain ⟨S18, h18, hsh⟩ := Option.bind_eq_some_iff.mp hsh
  refine e_putI (k := 38) hx hb hts in_X13 tyX13 tyX13_ok nmX13 hown hp hS h18 rfl (by decide) (by decide) rfl (hts _ kf13_404) rfl rfl (by decide +kernel) dX13_spans_18 (fun H locs hp hS => ?_)
  refine e_aload_n (B := B) (x := x0) hx hb dX13_spans_21 rfl (hl.at 0 rfl) ?_
  refine lv_iload hx hb dX13_spans_22 (hl.at 5 rfl) ?_
  obtain ⟨S24, h24, hsh⟩ := Option.bind_eq_some_iff.mp hsh
  refine e_putI (k := 39) hx hb hts in_X13 tyX13 tyX13_ok nmX13 hown hp hS h24 rfl (by decide) (by decide) rfl (hts _ kf13_407) rfl rfl (by decide +kernel) dX13_spans_24 (fun H locs hp hS => ?_)
  cases hsh
  exact e_vret hx hb hrt hlk hp hS dX13_spans_27
theorem ok13_spansLines {S : HP} {x0 : Int} {x1 : Int} {x2 : Int} {r : HP} (h : s13_spansLines S x0 x1 x2 = some r) : 0 ≤ x0 ∧ x0.toNat < e_n S ∧ e_g S x0.toNat = 13 := (gd_some h).1
set_option maxRecDepth 100000 in
set_option maxHeartbeats 4000000 in
theorem c13_spansLines (l : Launch) (D : va_G) (cA : Nat → ClassId) (B : Nat) (S S' : HP) (x0 : Int) (x1 : Int) (x2 : Int) (hsh : s13_spansLines S x0 x1 x2 = some S') : Met l yX13_spansLines (e_wu yX13_spansLines cX13_spansLines 3 none) ({ frames := 1, cells := 0, slots := 0, locals := 25 } : Room) (va_Pc [e_rv B (x0), .int (iI (x1)), .int (iI (x2))] (fun U => e_PU D cA B S U)) (e_Qv D cA B S') 0 0 (e_A B) := by
  refine Met.ofW (cc := cX13_spansLines) (maxL := 3) (ret := none) (by decide +kernel) rfl ?_
  intro p e s m args below meth c s₁ Bd hml hv
  obtain ⟨rfl, hp⟩ := hv
  have hp : e_Pic D cA B S s s.heap := hp
  have hx := Bd.exec
  have hb := Bd.bytes
  have hrt := Bd.returns
  have hlk := Bd.notSynchronized
  have hown : s.vm.findClass RX13 = some m.cls := findClass_of_methodNamed Bd.named
  have hts : ∀ w ∈ e_tb, w.before ([e_rv B (x0), .int (iI (x1)), .int (iI (x2))] : List Value).toArray s = true := fun w h => atoms_spec (ws := (e_wu yX13_spansLines cX13_spansLines 3 none)) Bd.pre w (List.mem_cons_of_mem _ h)
  have E : e_En p s m ([e_rv B (x0), .int (iI (x1)), .int (iI (x2))] : List Value).toArray meth c cX13_spansLines RX13 3 none := ⟨hx, hb, hml, hown, hts, hlk, hrt⟩
  have hS : va_S (e_A B) s.heap s.heap [] := va_S.rf
  have hl := e_entry (vs := [e_rv B (x0), .int (iI (x1)), .int (iI (x2))]) (n := 3) (Nat.le_of_ble_eq_true rfl) (e_cc (e_rv_cat _ _) (e_cc rfl (e_cc rfl e_cn)))
  rw [lg_entry_eq]
  generalize (lg_sl [e_rv B (x0), .int (iI (x1)), .int (iI (x2))] ++ List.replicate (3 - (lg_sl [e_rv B (x0), .int (iI (x1)), .int (iI (x2))]).length) Slot.unset).toArray = ls at hl ⊢
  generalize ([e_rv B (x0), .int (iI (x1)), .int (iI (x2))] : List Value).toArray = args at hts E ⊢
  have hl : e_lo ls 3 [(0, e_rv B (x0)), (1, .int (iI (x1))), (2, .int (iI (x2)))] := hl
  have hsh := (gd_some hsh).2
  refine e_aload_n (B := B) (x := x0) hx hb dX13_spansLines_0 rfl (hl.at 0 rfl) ?_
  refine lv_iconst (v := iI (2)) hx hb dX13_spansLines_1 rfl ?_
  refine lv_iload_n hx hb dX13_spansLines_2 rfl (hl.at 1 rfl) ?_
  refine lv_iconst (v := iI (0)) hx hb dX13_spansLines_3 rfl ?_
  refine lv_iload_n hx hb dX13_spansLines_4 rfl (hl.at 2 rfl) ?_
  refine lv_iconst (v := iI (0)) hx hb dX13_spansLines_5 rfl ?_
  obtain ⟨S6, h6, hsh⟩ := Option.bind_eq_some_iff.mp hsh
  have ok6 := ok13_spans h6
  refine e_callV (nL := 3) (mc := 0) (ms := 0) (T := TX13) (N := 126) (As := [.int (iI (2)), .int (iI (x1)), .int (iI (0)), .int (iI (x2)), .int (iI (0))]) (rest := []) hx hb hml hown hts hp hS hl.size ok6.1 ok6.2.1 ok6.2.2 rfl (by decide) (c13_spans l D cA B S S6 (x0) (2) (x1) (0) (x2) (0) h6) rfl rfl kd13_spans (kl13_410) ks13_spans kv13_spans ki13 kh13_spans ⟨Nat.le_of_ble_eq_true rfl, Nat.le_of_ble_eq_true rfl⟩ rfl (by simp [e_rv_cat, e_int_cat]) ⟨Nat.le_refl _, Nat.le_refl _⟩ dX13_spansLines_6 rfl (fun H locs hp hS => ?_)
  cases hsh
  exact e_vret hx hb hrt hlk hp hS dX13_spansLines_9
theorem ok13_isSomething {S : HP} {x0 : Int} {r : Int × HP} (h : s13_isSomething S x0 = some r) : 0 ≤ x0 ∧ x0.toNat < e_n S ∧ e_g S x0.toNat = 13 := (gd_some h).1
set_option maxRecDepth 100000 in
set_option maxHeartbeats 4000000 in
theorem w13_isSomething_b35 {p : Program} {l : Launch} {e : Env} {s : State} {m : MethodId} {args : Array Value} {below : List Frame} {meth : Method} {c : Code} {D : va_G} {cA : Nat → ClassId} {B : Nat} {res : Int × HP} (E : e_En p s m args meth c cX13_isSomething RX13 1 (some .boolean)) {ls : Array Slot} {H : Heap} {locs : List Loc} {S : HP} {y0 : Int} (hp : e_Pic D cA B S s H) (hS : va_S (e_A B) s.heap H locs) (hl : e_lo ls 1 []) (hsh : s13_isSomething_b35 S y0 = some res) : W p l e ({ frames := 0, cells := 0, slots := 0, locals := 0 } : Room) s m args below meth c H locs 0 0 (MQ below (e_Qi D cA B res.1 res.2) args s 0 0 (e_A B)) (F0 m 35 ls [.int (iI (y0))]) := by
  obtain ⟨hx, hb, hml, hown, hts, hlk, hrt⟩ := id E
  unfold s13_isSomething_b35 at hsh
  obtain ⟨hz, hz1, hz2⟩ := zR_some hsh
  rw [← hz1, ← hz2]
  exact e_zret hx hb hrt hlk hp hS hz dX13_isSomething_35
set_option maxRecDepth 100000 in
set_option maxHeartbeats 4000000 in
theorem w13_isSomething_b30 {p : Program} {l : Launch} {e : Env} {s : State} {m : MethodId} {args : Array Value} {below : List Frame} {meth : Method} {c : Code} {D : va_G} {cA : Nat → ClassId} {B : Nat} {res : Int × HP} (E : e_En p s m args meth c cX13_isSomething RX13 1 (some .boolean)) {ls : Array Slot} {H : Heap} {locs : List Loc} {S : HP} (hp : e_Pic D cA B S s H) (hS : va_S (e_A B) s.heap H locs) (hl : e_lo ls 1 []) (hsh : s13_isSomething_b30 S  = some res) : W p l e ({ frames := 0, cells := 0, slots := 0, locals := 0 } : Room) s m args below meth c H locs 0 0 (MQ below (e_Qi D cA B res.1 res.2) args s 0 0 (e_A B)) (F0 m 30 ls []) := by
  obtain ⟨hx, hb, hml, hown, hts, hlk, hrt⟩ := id E
  unfold s13_isSomething_b30 at hsh
  refine lv_iconst (v := iI (1)) hx hb dX13_isSomething_30 rfl ?_
  refine lv_goto (tgt := 35) hx hb dX13_isSomething_31 (by decide) ?_
  exact w13_isSomething_b35 E hp hS (hl.sub [] rfl) hsh
set_option maxRecDepth 100000 in
set_option maxHeartbeats 4000000 in
theorem c13_isSomething (l : Launch) (D : va_G) (cA : Nat → ClassId) (B : Nat) (S S' : HP) (x0 : Int) (r : Int) (hsh : s13_isSomething S x0 = some (r, S')) : Met l yX13_isSomething (e_wu yX13_isSomething cX13_isSomething 1 (some .boolean)) ({ frames := 0, cells := 0, slots := 0, locals := 0 } : Room) (va_Pc [e_rv B (x0)] (fun U => e_PU D cA B S U)) (e_Qi D cA B r S') 0 0 (e_A B) := by
  refine Met.ofW (cc := cX13_isSomething) (maxL := 1) (ret := (some .boolean)) (by decide +kernel) rfl ?_
  intro p e s m args below meth c s₁ Bd hml hv
  obtain ⟨rfl, hp⟩ := hv
  have hp : e_Pic D cA B S s s.heap := hp
  have hx := Bd.exec
  have hb := Bd.bytes
  have hrt := Bd.returns
  have hlk := Bd.notSynchronized
  have hown : s.vm.findClass RX13 = some m.cls := findClass_of_methodNamed Bd.named
  have hts : ∀ w ∈ e_tb, w.before ([e_rv B (x0)] : List Value).toArray s = true := fun w h => atoms_spec (ws := (e_wu yX13_isSomething cX13_isSomething 1 (some .boolean))) Bd.pre w (List.mem_cons_of_mem _ h)
  have E : e_En p s m ([e_rv B (x0)] : List Value).toArray meth c cX13_isSomething RX13 1 (some .boolean) := ⟨hx, hb, hml, hown, hts, hlk, hrt⟩
  have hS : va_S (e_A B) s.heap s.heap [] := va_S.rf
  have hl := e_entry (vs := [e_rv B (x0)]) (n := 1) (Nat.le_of_ble_eq_true rfl) (e_cc (e_rv_cat _ _) e_cn)
  rw [lg_entry_eq]
  generalize (lg_sl [e_rv B (x0)] ++ List.replicate (1 - (lg_sl [e_rv B (x0)]).length) Slot.unset).toArray = ls at hl ⊢
  generalize ([e_rv B (x0)] : List Value).toArray = args at hts E ⊢
  have hl : e_lo ls 1 [(0, e_rv B (x0))] := hl
  have hsh := (gd_some hsh).2
  refine e_aload_n (B := B) (x := x0) hx hb dX13_isSomething_0 rfl (hl.at 0 rfl) ?_
  obtain ⟨v1, h1, hsh⟩ := Option.bind_eq_some_iff.mp hsh
  refine e_getI (k := 35) hx hb hts in_X13 hown hp h1 rfl (by decide) (by decide) rfl (hts _ kf13_395) rfl dX13_isSomething_1 ?_
  refine lv_iconst (v := iI (1)) hx hb dX13_isSomething_4 rfl ?_
  refine e_icmp_ne (tgt := 30) hx hb dX13_isSomething_5 (by decide) (fun c5 => ?_) (fun c5 => ?_)
  · rw [if_neg c5] at hsh
    exact w13_isSomething_b30 E hp hS (hl.sub [] rfl) hsh
  · rw [if_pos c5] at hsh
    refine e_aload_n (B := B) (x := x0) hx hb dX13_isSomething_8 rfl (hl.at 0 rfl) ?_
    obtain ⟨v9, h9, hsh⟩ := Option.bind_eq_some_iff.mp hsh
    refine e_getI (k := 36) hx hb hts in_X13 hown hp h9 rfl (by decide) (by decide) rfl (hts _ kf13_398) rfl dX13_isSomething_9 ?_
    refine e_aload_n (B := B) (x := x0) hx hb dX13_isSomething_12 rfl (hl.at 0 rfl) ?_
    obtain ⟨v13, h13, hsh⟩ := Option.bind_eq_some_iff.mp hsh
    refine e_getI (k := 38) hx hb hts in_X13 hown hp h13 rfl (by decide) (by decide) rfl (hts _ kf13_404) rfl dX13_isSomething_13 ?_
    refine e_icmp_ne (tgt := 30) hx hb dX13_isSomething_16 (by decide) (fun c16 => ?_) (fun c16 => ?_)
    · rw [if_neg c16] at hsh
      exact w13_isSomething_b30 E hp hS (hl.sub [] rfl) hsh
    · rw [if_pos c16] at hsh
      refine e_aload_n (B := B) (x := x0) hx hb dX13_isSomething_19 rfl (hl.at 0 rfl) ?_
      obtain ⟨v20, h20, hsh⟩ := Option.bind_eq_some_iff.mp hsh
      refine e_getI (k := 37) hx hb hts in_X13 hown hp h20 rfl (by decide) (by decide) rfl (hts _ kf13_401) rfl dX13_isSomething_20 ?_
      refine e_aload_n (B := B) (x := x0) hx hb dX13_isSomething_23 rfl (hl.at 0 rfl) ?_
      obtain ⟨v24, h24, hsh⟩ := Option.bind_eq_some_iff.mp hsh
      refine e_getI (k := 39) hx hb hts in_X13 hown hp h24 rfl (by decide) (by decide) rfl (hts _ kf13_407) rfl dX13_isSomething_24 ?_
      refine e_icmp_eq (tgt := 34) hx hb dX13_isSomething_27 (by decide) (fun c27 => ?_) (fun c27 => ?_)
      · rw [if_pos c27] at hsh
        refine lv_iconst (v := iI (0)) hx hb dX13_isSomething_34 rfl ?_
        exact w13_isSomething_b35 E hp hS (hl.sub [] rfl) hsh
      · rw [if_neg c27] at hsh
        exact w13_isSomething_b30 E hp hS (hl.sub [] rfl) hsh
theorem ok13_spansMotion {S : HP} {x0 : Int} {x1 : Int} {r : Int × HP} (h : s13_spansMotion S x0 x1 = some r) : 0 ≤ x0 ∧ x0.toNat < e_n S ∧ e_g S x0.toNat = 13 := (gd_some h).1
set_option maxRecDepth 100000 in
set_option maxHeartbeats 4000000 in
theorem w13_spansMotion_b223 {p : Program} {l : Launch} {e : Env} {s : State} {m : MethodId} {args : Array Value} {below : List Frame} {meth : Method} {c : Code} {D : va_G} {cA : Nat → ClassId} {B : Nat} {res : Int × HP} (E : e_En p s m args meth c cX13_spansMotion RX13 8 (some .boolean)) {ls : Array Slot} {H : Heap} {locs : List Loc} {S : HP} {x0 : Int} {x3 : Int} {x4 : Int} {x5 : Int} {x6 : Int} (hp : e_Pic D cA B S s H) (hS : va_S (e_A B) s.heap H locs) (hl : e_lo ls 8 [(0, e_rv B (x0)), (3, .int (iI (x3))), (4, .int (iI (x4))), (5, .int (iI (x5))), (6, .int (iI (x6)))]) (hsh : s13_spansMotion_b223 S x0 x3 x4 x5 x6 = some res) : W p l e ({ frames := 2, cells := 0, slots := 0, locals := 47 } : Room) s m args below meth c H locs 0 0 (MQ below (e_Qi D cA B res.1 res.2) args s 0 0 (e_A B)) (F0 m 223 ls []) := by
  obtain ⟨hx, hb, hml, hown, hts, hlk, hrt⟩ := id E
  unfold s13_spansMotion_b223 at hsh
  refine e_aload_n (B := B) (x := x0) hx hb dX13_spansMotion_223 rfl (hl.at 0 rfl) ?_
  refine lv_iconst (v := iI (1)) hx hb dX13_spansMotion_224 rfl ?_
  refine lv_iload_n hx hb dX13_spansMotion_225 rfl (hl.at 1 rfl) ?_
  refine lv_iload hx hb dX13_spansMotion_226 (hl.at 2 rfl) ?_
  refine lv_iload hx hb dX13_spansMotion_228 (hl.at 3 rfl) ?_
  refine lv_iload hx hb dX13_spansMotion_230 (hl.at 4 rfl) ?_
  obtain ⟨S232, h232, hsh⟩ := Option.bind_eq_some_iff.mp hsh
  have ok232 := ok13_spans h232
  refine e_callV (nL := 8) (mc := 0) (ms := 0) (T := TX13) (N := 126) (As := [.int (iI (1)), .int (iI (x3)), .int (iI (x4)), .int (iI (x5)), .int (iI (x6))]) (rest := []) hx hb hml hown hts hp hS hl.size ok232.1 ok232.2.1 ok232.2.2 rfl (by decide) (c13_spans l D cA B S S232 (x0) (1) (x3) (x4) (x5) (x6) h232) rfl rfl kd13_spans (kl13_410) ks13_spans kv13_spans ki13 kh13_spans ⟨Nat.le_of_ble_eq_true rfl, Nat.le_of_ble_eq_true rfl⟩ rfl (by simp [e_rv_cat, e_int_cat]) ⟨Nat.le_refl _, Nat.le_refl _⟩ dX13_spansMotion_232 rfl (fun H locs hp hS => ?_)
  refine e_aload_n (B := B) (x := x0) hx hb dX13_spansMotion_235 rfl (hl.at 0 rfl) ?_
  obtain ⟨⟨v236, S236⟩, h236, hsh⟩ := Option.bind_eq_some_iff.mp hsh
  have hsh : _ = _ := hsh
  try dsimp only at hsh
  have ok236 := ok13_isSomething h236
  refine e_callI (nL := 8) (mc := 0) (ms := 0) (T := TX13) (N := 126) (As := []) (rest := []) hx hb hml hown hts hp hS hl.size ok236.1 ok236.2.1 ok236.2.2 rfl (by decide) (c13_isSomething l D cA B S232 S236 (x0) v236 h236) rfl rfl kd13_isSomething (kl13_417) ks13_isSomething kv13_isSomething ki13 kh13_isSomething ⟨Nat.le_of_ble_eq_true rfl, Nat.le_of_ble_eq_true rfl⟩ rfl (by simp [e_rv_cat, e_int_cat]) ⟨Nat.le_refl _, Nat.le_refl _⟩ dX13_spansMotion_236 rfl (fun H locs hp hS => ?_)
  obtain ⟨hz, hz1, hz2⟩ := zR_some hsh
  rw [← hz1, ← hz2]
  exact e_zret hx hb hrt hlk hp hS hz dX13_spansMotion_239
set_option maxRecDepth 100000 in
set_option maxHeartbeats 4000000 in
theorem w13_spansMotion_b194 {p : Program} {l : Launch} {e : Env} {s : State} {m : MethodId} {args : Array Value} {below : List Frame} {meth : Method} {c : Code} {D : va_G} {cA : Nat → ClassId} {B : Nat} {res : Int × HP} (E : e_En p s m args meth c cX13_spansMotion RX13 8 (some .boolean)) {ls : Array Slot} {H : Heap} {locs : List Loc} {S : HP} {x0 : Int} {x3 : Int} {x4 : Int} {x5 : Int} {y0 : Int} {y1 : Int} (hp : e_Pic D cA B S s H) (hS : va_S (e_A B) s.heap H locs) (hl : e_lo ls 8 [(0, e_rv B (x0)), (3, .int (iI (x3))), (4, .int (iI (x4))), (5, .int (iI (x5)))]) (hsh : s13_spansMotion_b194 S x0 x3 x4 x5 y0 y1 = some res) : W p l e ({ frames := 2, cells := 0, slots := 0, locals := 47 } : Room) s m args below meth c H locs 0 0 (MQ below (e_Qi D cA B res.1 res.2) args s 0 0 (e_A B)) (F0 m 194 ls [.int (iI (y1)), .int (iI (y0))]) := by
  obtain ⟨hx, hb, hml, hown, hts, hlk, hrt⟩ := id E
  unfold s13_spansMotion_b194 at hsh
  refine e_iadd hx hb dX13_spansMotion_194 ?_
  refine e_istore (lv' := [(6, .int (iI ((y0 + y1)))), (0, e_rv B (x0)), (3, .int (iI (x3))), (4, .int (iI (x4))), (5, .int (iI (x5)))]) hx hb dX13_spansMotion_195 hl (by decide) rfl (fun ls hl => ?_)
  refine lv_goto (tgt := 223) hx hb dX13_spansMotion_197 (by decide) ?_
  exact w13_spansMotion_b223 E hp hS (hl.sub [1, 2, 3, 4, 0] rfl) hsh
set_option maxRecDepth 100000 in
set_option maxHeartbeats 4000000 in
theorem w13_spansMotion_b164 {p : Program} {l : Launch} {e : Env} {s : State} {m : MethodId} {args : Array Value} {below : List Frame} {meth : Method} {c : Code} {D : va_G} {cA : Nat → ClassId} {B : Nat} {res : Int × HP} (E : e_En p s m args meth c cX13_spansMotion RX13 8 (some .boolean)) {ls : Array Slot} {H : Heap} {locs : List Loc} {S : HP} {y0 : Int} {y1 : Int} {y2 : Int} (hp : e_Pic D cA B S s H) (hS : va_S (e_A B) s.heap H locs) (hl : e_lo ls 8 []) (hsh : s13_spansMotion_b164 S y0 y1 y2 = some res) : W p l e ({ frames := 2, cells := 0, slots := 0, locals := 47 } : Room) s m args below meth c H locs 0 0 (MQ below (e_Qi D cA B res.1 res.2) args s 0 0 (e_A B)) (F0 m 164 ls [.int (iI (y2)), .int (iI (y1)), e_rv B (y0)]) := by
  obtain ⟨hx, hb, hml, hown, hts, hlk, hrt⟩ := id E
  unfold s13_spansMotion_b164 at hsh
  obtain ⟨S164, h164, hsh⟩ := Option.bind_eq_some_iff.mp hsh
  have ok164 := ok13_spansLines h164
  refine e_callV (nL := 8) (mc := 0) (ms := 0) (T := TX13) (N := 126) (As := [.int (iI (y1)), .int (iI (y2))]) (rest := []) hx hb hml hown hts hp hS hl.size ok164.1 ok164.2.1 ok164.2.2 rfl (by decide) (c13_spansLines l D cA B S S164 (y0) (y1) (y2) h164) rfl rfl kd13_spansLines (kl13_414) ks13_spansLines kv13_spansLines ki13 kh13_spansLines ⟨Nat.le_of_ble_eq_true rfl, Nat.le_of_ble_eq_true rfl⟩ rfl (by simp [e_rv_cat, e_int_cat]) ⟨Nat.le_refl _, Nat.le_refl _⟩ dX13_spansMotion_164 rfl (fun H locs hp hS => ?_)
  refine lv_iconst (v := iI (1)) hx hb dX13_spansMotion_167 rfl ?_
  obtain ⟨hz, hz1, hz2⟩ := zR_some hsh
  rw [← hz1, ← hz2]
  exact e_zret hx hb hrt hlk hp hS hz dX13_spansMotion_168
set_option maxRecDepth 100000 in
set_option maxHeartbeats 4000000 in
theorem w13_spansMotion_b148 {p : Program} {l : Launch} {e : Env} {s : State} {m : MethodId} {args : Array Value} {below : List Frame} {meth : Method} {c : Code} {D : va_G} {cA : Nat → ClassId} {B : Nat} {res : Int × HP} (E : e_En p s m args meth c cX13_spansMotion RX13 8 (some .boolean)) {ls : Array Slot} {H : Heap} {locs : List Loc} {S : HP} {x0 : Int} {x5 : Int} {x7 : Int} {y0 : Int} {y1 : Int} (hp : e_Pic D cA B S s H) (hS : va_S (e_A B) s.heap H locs) (hl : e_lo ls 8 [(0, e_rv B (x0)), (5, .int (iI (x5))), (7, .int (iI (x7)))]) (hsh : s13_spansMotion_b148 S x0 x5 x7 y0 y1 = some res) : W p l e ({ frames := 2, cells := 0, slots := 0, locals := 47 } : Room) s m args below meth c H locs 0 0 (MQ below (e_Qi D cA B res.1 res.2) args s 0 0 (e_A B)) (F0 m 148 ls [.int (iI (y1)), e_rv B (y0)]) := by
  obtain ⟨hx, hb, hml, hown, hts, hlk, hrt⟩ := id E
  unfold s13_spansMotion_b148 at hsh
  refine lv_iload hx hb dX13_spansMotion_148 (hl.at 2 rfl) ?_
  refine e_if_eq (tgt := 162) hx hb dX13_spansMotion_150 (by decide) (fun c150 => ?_) (fun c150 => ?_)
  · rw [if_pos c150] at hsh
    refine lv_iload hx hb dX13_spansMotion_162 (hl.at 1 rfl) ?_
    exact w13_spansMotion_b164 E hp hS (hl.sub [] rfl) hsh
  · rw [if_neg c150] at hsh
    refine e_aload_n (B := B) (x := x0) hx hb dX13_spansMotion_153 rfl (hl.at 0 rfl) ?_
    refine lv_iload hx hb dX13_spansMotion_154 (hl.at 1 rfl) ?_
    obtain ⟨⟨v156, S156⟩, h156, hsh⟩ := Option.bind_eq_some_iff.mp hsh
    have hsh : _ = _ := hsh
    try dsimp only at hsh
    have ok156 := ok13_lastSeen h156
    refine e_callI (nL := 8) (mc := 0) (ms := 0) (T := TX13) (N := 126) (As := [.int (iI (x5))]) (rest := [.int (iI (y1)), e_rv B (y0)]) hx hb hml hown hts hp hS hl.size ok156.1 ok156.2.1 ok156.2.2 rfl (by decide) (c13_lastSeen l D cA B S S156 (x0) (x5) v156 h156) rfl rfl kd13_lastSeen (kl13_343) ks13_lastSeen kv13_lastSeen ki13 kh13_lastSeen ⟨Nat.le_of_ble_eq_true rfl, Nat.le_of_ble_eq_true rfl⟩ rfl (by simp [e_rv_cat, e_int_cat]) ⟨Nat.le_refl _, Nat.le_refl _⟩ dX13_spansMotion_156 rfl (fun H locs hp hS => ?_)
    refine lv_goto (tgt := 164) hx hb dX13_spansMotion_159 (by decide) ?_
    exact w13_spansMotion_b164 E hp hS (hl.sub [] rfl) hsh
set_option maxRecDepth 100000 in
set_option maxHeartbeats 4000000 in
theorem w13_spansMotion_b131 {p : Program} {l : Launch} {e : Env} {s : State} {m : MethodId} {args : Array Value} {below : List Frame} {meth : Method} {c : Code} {D : va_G} {cA : Nat → ClassId} {B : Nat} {res : Int × HP} (E : e_En p s m args meth c cX13_spansMotion RX13 8 (some .boolean)) {ls : Array Slot} {H : Heap} {locs : List Loc} {S : HP} {x0 : Int} {x3 : Int} {x5 : Int} {y0 : Int} (hp : e_Pic D cA B S s H) (hS : va_S (e_A B) s.heap H locs) (hl : e_lo ls 8 [(0, e_rv B (x0)), (3, .int (iI (x3))), (5, .int (iI (x5)))]) (hsh : s13_spansMotion_b131 S x0 x3 x5 y0 = some res) : W p l e ({ frames := 2, cells := 0, slots := 0, locals := 47 } : Room) s m args below meth c H locs 0 0 (MQ below (e_Qi D cA B res.1 res.2) args s 0 0 (e_A B)) (F0 m 131 ls [.int (iI (y0))]) := by
  obtain ⟨hx, hb, hml, hown, hts, hlk, hrt⟩ := id E
  unfold s13_spansMotion_b131 at hsh
  refine e_istore (lv' := [(7, .int (iI (y0))), (0, e_rv B (x0)), (3, .int (iI (x3))), (5, .int (iI (x5)))]) hx hb dX13_spansMotion_131 hl (by decide) rfl (fun ls hl => ?_)
  refine e_aload_n (B := B) (x := x0) hx hb dX13_spansMotion_133 rfl (hl.at 1 rfl) ?_
  refine lv_iload hx hb dX13_spansMotion_134 (hl.at 0 rfl) ?_
  refine e_if_eq (tgt := 147) hx hb dX13_spansMotion_136 (by decide) (fun c136 => ?_) (fun c136 => ?_)
  · rw [if_pos c136] at hsh
    refine lv_iload_n hx hb dX13_spansMotion_147 rfl (hl.at 2 rfl) ?_
    exact w13_spansMotion_b148 E hp hS (hl.sub [1, 3, 0] rfl) hsh
  · rw [if_neg c136] at hsh
    refine e_aload_n (B := B) (x := x0) hx hb dX13_spansMotion_139 rfl (hl.at 1 rfl) ?_
    refine lv_iload_n hx hb dX13_spansMotion_140 rfl (hl.at 2 rfl) ?_
    obtain ⟨⟨v141, S141⟩, h141, hsh⟩ := Option.bind_eq_some_iff.mp hsh
    have hsh : _ = _ := hsh
    try dsimp only at hsh
    have ok141 := ok13_firstSeen h141
    refine e_callI (nL := 8) (mc := 0) (ms := 0) (T := TX13) (N := 126) (As := [.int (iI (x3))]) (rest := [e_rv B (x0)]) hx hb hml hown hts hp hS hl.size ok141.1 ok141.2.1 ok141.2.2 rfl (by decide) (c13_firstSeen l D cA B S S141 (x0) (x3) v141 h141) rfl rfl kd13_firstSeen (kl13_346) ks13_firstSeen kv13_firstSeen ki13 kh13_firstSeen ⟨Nat.le_of_ble_eq_true rfl, Nat.le_of_ble_eq_true rfl⟩ rfl (by simp [e_rv_cat, e_int_cat]) ⟨Nat.le_refl _, Nat.le_refl _⟩ dX13_spansMotion_141 rfl (fun H locs hp hS => ?_)
    refine lv_goto (tgt := 148) hx hb dX13_spansMotion_144 (by decide) ?_
    exact w13_spansMotion_b148 E hp hS (hl.sub [1, 3, 0] rfl) hsh
set_option maxRecDepth 100000 in
set_option maxHeartbeats 4000000 in
theorem w13_spansMotion_b126 {p : Program} {l : Launch} {e : Env} {s : State} {m : MethodId} {args : Array Value} {below : List Frame} {meth : Method} {c : Code} {D : va_G} {cA : Nat → ClassId} {B : Nat} {res : Int × HP} (E : e_En p s m args meth c cX13_spansMotion RX13 8 (some .boolean)) {ls : Array Slot} {H : Heap} {locs : List Loc} {S : HP} {x0 : Int} {x3 : Int} {x5 : Int} (hp : e_Pic D cA B S s H) (hS : va_S (e_A B) s.heap H locs) (hl : e_lo ls 8 [(0, e_rv B (x0)), (3, .int (iI (x3))), (5, .int (iI (x5)))]) (hsh : s13_spansMotion_b126 S x0 x3 x5 = some res) : W p l e ({ frames := 2, cells := 0, slots := 0, locals := 47 } : Room) s m args below meth c H locs 0 0 (MQ below (e_Qi D cA B res.1 res.2) args s 0 0 (e_A B)) (F0 m 126 ls []) := by
  obtain ⟨hx, hb, hml, hown, hts, hlk, hrt⟩ := id E
  unfold s13_spansMotion_b126 at hsh
  refine lv_iconst (v := iI (1)) hx hb dX13_spansMotion_126 rfl ?_
  refine lv_goto (tgt := 131) hx hb dX13_spansMotion_127 (by decide) ?_
  exact w13_spansMotion_b131 E hp hS (hl.sub [0, 1, 2] rfl) hsh
set_option maxRecDepth 100000 in
set_option maxHeartbeats 4000000 in
theorem w13_spansMotion_b104 {p : Program} {l : Launch} {e : Env} {s : State} {m : MethodId} {args : Array Value} {below : List Frame} {meth : Method} {c : Code} {D : va_G} {cA : Nat → ClassId} {B : Nat} {res : Int × HP} (E : e_En p s m args meth c cX13_spansMotion RX13 8 (some .boolean)) {ls : Array Slot} {H : Heap} {locs : List Loc} {S : HP} {x0 : Int} {x1 : Int} {x3 : Int} {x4 : Int} {x5 : Int} {y0 : Int} (hp : e_Pic D cA B S s H) (hS : va_S (e_A B) s.heap H locs) (hl : e_lo ls 8 [(0, e_rv B (x0)), (1, .int (iI (x1))), (3, .int (iI (x3))), (4, .int (iI (x4))), (5, .int (iI (x5)))]) (hsh : s13_spansMotion_b104 S x0 x1 x3 x4 x5 y0 = some res) : W p l e ({ frames := 2, cells := 0, slots := 0, locals := 47 } : Room) s m args below meth c H locs 0 0 (MQ below (e_Qi D cA B res.1 res.2) args s 0 0 (e_A B)) (F0 m 104 ls [.int (iI (y0))]) := by
  obtain ⟨hx, hb, hml, hown, hts, hlk, hrt⟩ := id E
  unfold s13_spansMotion_b104 at hsh
  refine e_istore (lv' := [(6, .int (iI (y0))), (0, e_rv B (x0)), (1, .int (iI (x1))), (3, .int (iI (x3))), (4, .int (iI (x4))), (5, .int (iI (x5)))]) hx hb dX13_spansMotion_104 hl (by decide) rfl (fun ls hl => ?_)
  refine e_aload_n (B := B) (x := x0) hx hb dX13_spansMotion_106 rfl (hl.at 1 rfl) ?_
  obtain ⟨v107, h107, hsh⟩ := Option.bind_eq_some_iff.mp hsh
  refine e_getI (k := 48) hx hb hts in_X13 hown hp h107 rfl (by decide) (by decide) rfl (hts _ kf13_349) rfl dX13_spansMotion_107 ?_
  refine lv_iconst (v := iI (2)) hx hb dX13_spansMotion_110 rfl ?_
  refine e_icmp_ne (tgt := 169) hx hb dX13_spansMotion_111 (by decide) (fun c111 => ?_) (fun c111 => ?_)
  · rw [if_neg c111] at hsh
    refine e_aload_n (B := B) (x := x0) hx hb dX13_spansMotion_169 rfl (hl.at 1 rfl) ?_
    obtain ⟨v170, h170, hsh⟩ := Option.bind_eq_some_iff.mp hsh
    refine e_getI (k := 48) hx hb hts in_X13 hown hp h170 rfl (by decide) (by decide) rfl (hts _ kf13_349) rfl dX13_spansMotion_170 ?_
    refine lv_iconst (v := iI (1)) hx hb dX13_spansMotion_173 rfl ?_
    refine e_icmp_ne (tgt := 200) hx hb dX13_spansMotion_174 (by decide) (fun c174 => ?_) (fun c174 => ?_)
    · rw [if_neg c174] at hsh
      refine lv_iload hx hb dX13_spansMotion_200 (hl.at 0 rfl) ?_
      refine e_if_ne (tgt := 223) hx hb dX13_spansMotion_202 (by decide) (fun c202 => ?_) (fun c202 => ?_)
      · rw [if_neg c202] at hsh
        exact w13_spansMotion_b223 E hp hS (hl.sub [1, 3, 4, 5, 0] rfl) hsh
      · rw [if_pos c202] at hsh
        refine lv_iload hx hb dX13_spansMotion_205 (hl.at 5 rfl) ?_
        refine lv_iload_n hx hb dX13_spansMotion_207 rfl (hl.at 3 rfl) ?_
        refine e_icmp_le (tgt := 223) hx hb dX13_spansMotion_208 (by decide) (fun c208 => ?_) (fun c208 => ?_)
        · rw [if_pos c208] at hsh
          exact w13_spansMotion_b223 E hp hS (hl.sub [1, 3, 4, 5, 0] rfl) hsh
        · rw [if_neg c208] at hsh
          refine e_iinc (n := (-1)) (x := x5) (lv' := [(5, .int (iI ((x5 + (-1))))), (6, .int (iI (y0))), (0, e_rv B (x0)), (1, .int (iI (x1))), (3, .int (iI (x3))), (4, .int (iI (x4)))]) hx hb dX13_spansMotion_211 hl (k := 5) rfl (by decide) rfl (fun ls hl => ?_)
          refine e_aload_n (B := B) (x := x0) hx hb dX13_spansMotion_214 rfl (hl.at 2 rfl) ?_
          obtain ⟨v215, h215, hsh⟩ := Option.bind_eq_some_iff.mp hsh
          refine e_getR (k := 3) hx hb hts in_X13 hown hp h215 rfl (by decide) (by decide) rfl (hts _ kf13_17) rfl dX13_spansMotion_215 ?_
          refine lv_iload hx hb dX13_spansMotion_218 (hl.at 0 rfl) ?_
          obtain ⟨v220, h220, hsh⟩ := Option.bind_eq_some_iff.mp hsh
          refine e_iald hx hb hp h220 dX13_spansMotion_220 ?_
          refine e_istore (lv' := [(6, .int (iI (v220))), (5, .int (iI ((x5 + (-1))))), (0, e_rv B (x0)), (1, .int (iI (x1))), (3, .int (iI (x3))), (4, .int (iI (x4)))]) hx hb dX13_spansMotion_221 hl (by decide) rfl (fun ls hl => ?_)
          exact w13_spansMotion_b223 E hp hS (hl.sub [2, 4, 5, 1, 0] rfl) hsh
    · rw [if_pos c174] at hsh
      refine lv_iload hx hb dX13_spansMotion_177 (hl.at 0 rfl) ?_
      refine e_aload_n (B := B) (x := x0) hx hb dX13_spansMotion_179 rfl (hl.at 1 rfl) ?_
      obtain ⟨v180, h180, hsh⟩ := Option.bind_eq_some_iff.mp hsh
      refine e_getR (k := 3) hx hb hts in_X13 hown hp h180 rfl (by decide) (by decide) rfl (hts _ kf13_17) rfl dX13_spansMotion_180 ?_
      refine lv_iload hx hb dX13_spansMotion_183 (hl.at 5 rfl) ?_
      obtain ⟨v185, h185, hsh⟩ := Option.bind_eq_some_iff.mp hsh
      refine e_iald hx hb hp h185 dX13_spansMotion_185 ?_
      refine e_if_le (tgt := 193) hx hb dX13_spansMotion_186 (by decide) (fun c186 => ?_) (fun c186 => ?_)
      · rw [if_pos c186] at hsh
        refine lv_iconst (v := iI (0)) hx hb dX13_spansMotion_193 rfl ?_
        exact w13_spansMotion_b194 E hp hS (hl.sub [1, 3, 4, 5] rfl) hsh
      · rw [if_neg c186] at hsh
        refine lv_iconst (v := iI (1)) hx hb dX13_spansMotion_189 rfl ?_
        refine lv_goto (tgt := 194) hx hb dX13_spansMotion_190 (by decide) ?_
        exact w13_spansMotion_b194 E hp hS (hl.sub [1, 3, 4, 5] rfl) hsh
  · rw [if_pos c111] at hsh
    refine lv_iload_n hx hb dX13_spansMotion_114 rfl (hl.at 2 rfl) ?_
    refine lv_bipush (v := iI (106)) hx hb dX13_spansMotion_115 (by decide +kernel) ?_
    refine e_icmp_eq (tgt := 126) hx hb dX13_spansMotion_117 (by decide) (fun c117 => ?_) (fun c117 => ?_)
    · rw [if_pos c117] at hsh
      exact w13_spansMotion_b126 E hp hS (hl.sub [1, 3, 5] rfl) hsh
    · rw [if_neg c117] at hsh
      refine lv_iload_n hx hb dX13_spansMotion_120 rfl (hl.at 2 rfl) ?_
      refine lv_bipush (v := iI (107)) hx hb dX13_spansMotion_121 (by decide +kernel) ?_
      refine e_icmp_ne (tgt := 130) hx hb dX13_spansMotion_123 (by decide) (fun c123 => ?_) (fun c123 => ?_)
      · rw [if_neg c123] at hsh
        refine lv_iconst (v := iI (0)) hx hb dX13_spansMotion_130 rfl ?_
        exact w13_spansMotion_b131 E hp hS (hl.sub [1, 3, 5] rfl) hsh
      · rw [if_pos c123] at hsh
        exact w13_spansMotion_b126 E hp hS (hl.sub [1, 3, 5] rfl) hsh
set_option maxRecDepth 100000 in
set_option maxHeartbeats 4000000 in
theorem w13_spansMotion_b87 {p : Program} {l : Launch} {e : Env} {s : State} {m : MethodId} {args : Array Value} {below : List Frame} {meth : Method} {c : Code} {D : va_G} {cA : Nat → ClassId} {B : Nat} {res : Int × HP} (E : e_En p s m args meth c cX13_spansMotion RX13 8 (some .boolean)) {ls : Array Slot} {H : Heap} {locs : List Loc} {S : HP} {x0 : Int} {x1 : Int} {x2 : Int} {x3 : Int} {x4 : Int} {y0 : Int} (hp : e_Pic D cA B S s H) (hS : va_S (e_A B) s.heap H locs) (hl : e_lo ls 8 [(0, e_rv B (x0)), (1, .int (iI (x1))), (2, .int (iI (x2))), (3, .int (iI (x3))), (4, .int (iI (x4)))]) (hsh : s13_spansMotion_b87 S x0 x1 x2 x3 x4 y0 = some res) : W p l e ({ frames := 2, cells := 0, slots := 0, locals := 47 } : Room) s m args below meth c H locs 0 0 (MQ below (e_Qi D cA B res.1 res.2) args s 0 0 (e_A B)) (F0 m 87 ls [.int (iI (y0))]) := by
  obtain ⟨hx, hb, hml, hown, hts, hlk, hrt⟩ := id E
  unfold s13_spansMotion_b87 at hsh
  refine e_istore (lv' := [(5, .int (iI (y0))), (0, e_rv B (x0)), (1, .int (iI (x1))), (2, .int (iI (x2))), (3, .int (iI (x3))), (4, .int (iI (x4)))]) hx hb dX13_spansMotion_87 hl (by decide) rfl (fun ls hl => ?_)
  refine lv_iload_n hx hb dX13_spansMotion_89 rfl (hl.at 3 rfl) ?_
  refine e_if_eq (tgt := 100) hx hb dX13_spansMotion_90 (by decide) (fun c90 => ?_) (fun c90 => ?_)
  · rw [if_pos c90] at hsh
    refine e_aload_n (B := B) (x := x0) hx hb dX13_spansMotion_100 rfl (hl.at 1 rfl) ?_
    obtain ⟨v101, h101, hsh⟩ := Option.bind_eq_some_iff.mp hsh
    refine e_getI (k := 47) hx hb hts in_X13 hown hp h101 rfl (by decide) (by decide) rfl (hts _ kf13_299) rfl dX13_spansMotion_101 ?_
    exact w13_spansMotion_b104 E hp hS (hl.sub [1, 2, 4, 5, 0] rfl) hsh
  · rw [if_neg c90] at hsh
    refine e_aload_n (B := B) (x := x0) hx hb dX13_spansMotion_93 rfl (hl.at 1 rfl) ?_
    obtain ⟨v94, h94, hsh⟩ := Option.bind_eq_some_iff.mp hsh
    refine e_getI (k := 6) hx hb hts in_X13 hown hp h94 rfl (by decide) (by decide) rfl (hts _ kf13_216) rfl dX13_spansMotion_94 ?_
    refine lv_goto (tgt := 104) hx hb dX13_spansMotion_97 (by decide) ?_
    exact w13_spansMotion_b104 E hp hS (hl.sub [1, 2, 4, 5, 0] rfl) hsh
set_option maxRecDepth 100000 in
set_option maxHeartbeats 4000000 in
theorem w13_spansMotion_b70 {p : Program} {l : Launch} {e : Env} {s : State} {m : MethodId} {args : Array Value} {below : List Frame} {meth : Method} {c : Code} {D : va_G} {cA : Nat → ClassId} {B : Nat} {res : Int × HP} (E : e_En p s m args meth c cX13_spansMotion RX13 8 (some .boolean)) {ls : Array Slot} {H : Heap} {locs : List Loc} {S : HP} {x0 : Int} {x1 : Int} {x2 : Int} {x3 : Int} {y0 : Int} (hp : e_Pic D cA B S s H) (hS : va_S (e_A B) s.heap H locs) (hl : e_lo ls 8 [(0, e_rv B (x0)), (1, .int (iI (x1))), (2, .int (iI (x2))), (3, .int (iI (x3)))]) (hsh : s13_spansMotion_b70 S x0 x1 x2 x3 y0 = some res) : W p l e ({ frames := 2, cells := 0, slots := 0, locals := 47 } : Room) s m args below meth c H locs 0 0 (MQ below (e_Qi D cA B res.1 res.2) args s 0 0 (e_A B)) (F0 m 70 ls [.int (iI (y0))]) := by
  obtain ⟨hx, hb, hml, hown, hts, hlk, hrt⟩ := id E
  unfold s13_spansMotion_b70 at hsh
  refine e_istore (lv' := [(4, .int (iI (y0))), (0, e_rv B (x0)), (1, .int (iI (x1))), (2, .int (iI (x2))), (3, .int (iI (x3)))]) hx hb dX13_spansMotion_70 hl (by decide) rfl (fun ls hl => ?_)
  refine lv_iload_n hx hb dX13_spansMotion_72 rfl (hl.at 3 rfl) ?_
  refine e_if_eq (tgt := 83) hx hb dX13_spansMotion_73 (by decide) (fun c73 => ?_) (fun c73 => ?_)
  · rw [if_pos c73] at hsh
    refine e_aload_n (B := B) (x := x0) hx hb dX13_spansMotion_83 rfl (hl.at 1 rfl) ?_
    obtain ⟨v84, h84, hsh⟩ := Option.bind_eq_some_iff.mp hsh
    refine e_getI (k := 46) hx hb hts in_X13 hown hp h84 rfl (by decide) (by decide) rfl (hts _ kf13_296) rfl dX13_spansMotion_84 ?_
    exact w13_spansMotion_b87 E hp hS (hl.sub [1, 2, 3, 4, 0] rfl) hsh
  · rw [if_neg c73] at hsh
    refine e_aload_n (B := B) (x := x0) hx hb dX13_spansMotion_76 rfl (hl.at 1 rfl) ?_
    obtain ⟨v77, h77, hsh⟩ := Option.bind_eq_some_iff.mp hsh
    refine e_getI (k := 5) hx hb hts in_X13 hown hp h77 rfl (by decide) (by decide) rfl (hts _ kf13_213) rfl dX13_spansMotion_77 ?_
    refine lv_goto (tgt := 87) hx hb dX13_spansMotion_80 (by decide) ?_
    exact w13_spansMotion_b87 E hp hS (hl.sub [1, 2, 3, 4, 0] rfl) hsh
set_option maxRecDepth 100000 in
set_option maxHeartbeats 4000000 in
theorem w13_spansMotion_b54 {p : Program} {l : Launch} {e : Env} {s : State} {m : MethodId} {args : Array Value} {below : List Frame} {meth : Method} {c : Code} {D : va_G} {cA : Nat → ClassId} {B : Nat} {res : Int × HP} (E : e_En p s m args meth c cX13_spansMotion RX13 8 (some .boolean)) {ls : Array Slot} {H : Heap} {locs : List Loc} {S : HP} {x0 : Int} {x1 : Int} {x2 : Int} {y0 : Int} (hp : e_Pic D cA B S s H) (hS : va_S (e_A B) s.heap H locs) (hl : e_lo ls 8 [(0, e_rv B (x0)), (1, .int (iI (x1))), (2, .int (iI (x2)))]) (hsh : s13_spansMotion_b54 S x0 x1 x2 y0 = some res) : W p l e ({ frames := 2, cells := 0, slots := 0, locals := 47 } : Room) s m args below meth c H locs 0 0 (MQ below (e_Qi D cA B res.1 res.2) args s 0 0 (e_A B)) (F0 m 54 ls [.int (iI (y0))]) := by
  obtain ⟨hx, hb, hml, hown, hts, hlk, hrt⟩ := id E
  unfold s13_spansMotion_b54 at hsh
  refine e_istore_n (lv' := [(3, .int (iI (y0))), (0, e_rv B (x0)), (1, .int (iI (x1))), (2, .int (iI (x2)))]) hx hb dX13_spansMotion_54 rfl hl (by decide) rfl (fun ls hl => ?_)
  refine lv_iload_n hx hb dX13_spansMotion_55 rfl (hl.at 3 rfl) ?_
  refine e_if_eq (tgt := 66) hx hb dX13_spansMotion_56 (by decide) (fun c56 => ?_) (fun c56 => ?_)
  · rw [if_pos c56] at hsh
    refine e_aload_n (B := B) (x := x0) hx hb dX13_spansMotion_66 rfl (hl.at 1 rfl) ?_
    obtain ⟨v67, h67, hsh⟩ := Option.bind_eq_some_iff.mp hsh
    refine e_getI (k := 6) hx hb hts in_X13 hown hp h67 rfl (by decide) (by decide) rfl (hts _ kf13_216) rfl dX13_spansMotion_67 ?_
    exact w13_spansMotion_b70 E hp hS (hl.sub [1, 2, 3, 0] rfl) hsh
  · rw [if_neg c56] at hsh
    refine e_aload_n (B := B) (x := x0) hx hb dX13_spansMotion_59 rfl (hl.at 1 rfl) ?_
    obtain ⟨v60, h60, hsh⟩ := Option.bind_eq_some_iff.mp hsh
    refine e_getI (k := 47) hx hb hts in_X13 hown hp h60 rfl (by decide) (by decide) rfl (hts _ kf13_299) rfl dX13_spansMotion_60 ?_
    refine lv_goto (tgt := 70) hx hb dX13_spansMotion_63 (by decide) ?_
    exact w13_spansMotion_b70 E hp hS (hl.sub [1, 2, 3, 0] rfl) hsh
set_option maxRecDepth 100000 in
set_option maxHeartbeats 4000000 in
theorem w13_spansMotion_b38 {p : Program} {l : Launch} {e : Env} {s : State} {m : MethodId} {args : Array Value} {below : List Frame} {meth : Method} {c : Code} {D : va_G} {cA : Nat → ClassId} {B : Nat} {res : Int × HP} (E : e_En p s m args meth c cX13_spansMotion RX13 8 (some .boolean)) {ls : Array Slot} {H : Heap} {locs : List Loc} {S : HP} {x0 : Int} {x1 : Int} {y0 : Int} (hp : e_Pic D cA B S s H) (hS : va_S (e_A B) s.heap H locs) (hl : e_lo ls 8 [(0, e_rv B (x0)), (1, .int (iI (x1)))]) (hsh : s13_spansMotion_b38 S x0 x1 y0 = some res) : W p l e ({ frames := 2, cells := 0, slots := 0, locals := 47 } : Room) s m args below meth c H locs 0 0 (MQ below (e_Qi D cA B res.1 res.2) args s 0 0 (e_A B)) (F0 m 38 ls [.int (iI (y0))]) := by
  obtain ⟨hx, hb, hml, hown, hts, hlk, hrt⟩ := id E
  unfold s13_spansMotion_b38 at hsh
  refine e_istore_n (lv' := [(2, .int (iI (y0))), (0, e_rv B (x0)), (1, .int (iI (x1)))]) hx hb dX13_spansMotion_38 rfl hl (by decide) rfl (fun ls hl => ?_)
  refine lv_iload_n hx hb dX13_spansMotion_39 rfl (hl.at 0 rfl) ?_
  refine e_if_eq (tgt := 50) hx hb dX13_spansMotion_40 (by decide) (fun c40 => ?_) (fun c40 => ?_)
  · rw [if_pos c40] at hsh
    refine e_aload_n (B := B) (x := x0) hx hb dX13_spansMotion_50 rfl (hl.at 1 rfl) ?_
    obtain ⟨v51, h51, hsh⟩ := Option.bind_eq_some_iff.mp hsh
    refine e_getI (k := 5) hx hb hts in_X13 hown hp h51 rfl (by decide) (by decide) rfl (hts _ kf13_213) rfl dX13_spansMotion_51 ?_
    exact w13_spansMotion_b54 E hp hS (hl.sub [1, 2, 0] rfl) hsh
  · rw [if_neg c40] at hsh
    refine e_aload_n (B := B) (x := x0) hx hb dX13_spansMotion_43 rfl (hl.at 1 rfl) ?_
    obtain ⟨v44, h44, hsh⟩ := Option.bind_eq_some_iff.mp hsh
    refine e_getI (k := 46) hx hb hts in_X13 hown hp h44 rfl (by decide) (by decide) rfl (hts _ kf13_296) rfl dX13_spansMotion_44 ?_
    refine lv_goto (tgt := 54) hx hb dX13_spansMotion_47 (by decide) ?_
    exact w13_spansMotion_b54 E hp hS (hl.sub [1, 2, 0] rfl) hsh
set_option maxRecDepth 100000 in
set_option maxHeartbeats 4000000 in
theorem w13_spansMotion_b33 {p : Program} {l : Launch} {e : Env} {s : State} {m : MethodId} {args : Array Value} {below : List Frame} {meth : Method} {c : Code} {D : va_G} {cA : Nat → ClassId} {B : Nat} {res : Int × HP} (E : e_En p s m args meth c cX13_spansMotion RX13 8 (some .boolean)) {ls : Array Slot} {H : Heap} {locs : List Loc} {S : HP} {x0 : Int} {x1 : Int} (hp : e_Pic D cA B S s H) (hS : va_S (e_A B) s.heap H locs) (hl : e_lo ls 8 [(0, e_rv B (x0)), (1, .int (iI (x1)))]) (hsh : s13_spansMotion_b33 S x0 x1 = some res) : W p l e ({ frames := 2, cells := 0, slots := 0, locals := 47 } : Room) s m args below meth c H locs 0 0 (MQ below (e_Qi D cA B res.1 res.2) args s 0 0 (e_A B)) (F0 m 33 ls []) := by
  obtain ⟨hx, hb, hml, hown, hts, hlk, hrt⟩ := id E
  unfold s13_spansMotion_b33 at hsh
  refine lv_iconst (v := iI (1)) hx hb dX13_spansMotion_33 rfl ?_
  refine lv_goto (tgt := 38) hx hb dX13_spansMotion_34 (by decide) ?_
  exact w13_spansMotion_b38 E hp hS (hl.sub [0, 1] rfl) hsh
set_option maxRecDepth 100000 in
set_option maxHeartbeats 4000000 in
theorem w13_spansMotion_b37 {p : Program} {l : Launch} {e : Env} {s : State} {m : MethodId} {args : Array Value} {below : List Frame} {meth : Method} {c : Code} {D : va_G} {cA : Nat → ClassId} {B : Nat} {res : Int × HP} (E : e_En p s m args meth c cX13_spansMotion RX13 8 (some .boolean)) {ls : Array Slot} {H : Heap} {locs : List Loc} {S : HP} {x0 : Int} {x1 : Int} (hp : e_Pic D cA B S s H) (hS : va_S (e_A B) s.heap H locs) (hl : e_lo ls 8 [(0, e_rv B (x0)), (1, .int (iI (x1)))]) (hsh : s13_spansMotion_b37 S x0 x1 = some res) : W p l e ({ frames := 2, cells := 0, slots := 0, locals := 47 } : Room) s m args below meth c H locs 0 0 (MQ below (e_Qi D cA B res.1 res.2) args s 0 0 (e_A B)) (F0 m 37 ls []) := by
  obtain ⟨hx, hb, hml, hown, hts, hlk, hrt⟩ := id E
  unfold s13_spansMotion_b37 at hsh
  refine lv_iconst (v := iI (0)) hx hb dX13_spansMotion_37 rfl ?_
  exact w13_spansMotion_b38 E hp hS (hl.sub [0, 1] rfl) hsh
set_option maxRecDepth 100000 in
set_option maxHeartbeats 4000000 in
theorem c13_spansMotion (l : Launch) (D : va_G) (cA : Nat → ClassId) (B : Nat) (S S' : HP) (x0 : Int) (x1 : Int) (r : Int) (hsh : s13_spansMotion S x0 x1 = some (r, S')) : Met l yX13_spansMotion (e_wu yX13_spansMotion cX13_spansMotion 8 (some .boolean)) ({ frames := 2, cells := 0, slots := 0, locals := 47 } : Room) (va_Pc [e_rv B (x0), .int (iI (x1))] (fun U => e_PU D cA B S U)) (e_Qi D cA B r S') 0 0 (e_A B) := by
  refine Met.ofW (cc := cX13_spansMotion) (maxL := 8) (ret := (some .boolean)) (by decide +kernel) rfl ?_
  intro p e s m args below meth c s₁ Bd hml hv
  obtain ⟨rfl, hp⟩ := hv
  have hp : e_Pic D cA B S s s.heap := hp
  have hx := Bd.exec
  have hb := Bd.bytes
  have hrt := Bd.returns
  have hlk := Bd.notSynchronized
  have hown : s.vm.findClass RX13 = some m.cls := findClass_of_methodNamed Bd.named
  have hts : ∀ w ∈ e_tb, w.before ([e_rv B (x0), .int (iI (x1))] : List Value).toArray s = true := fun w h => atoms_spec (ws := (e_wu yX13_spansMotion cX13_spansMotion 8 (some .boolean))) Bd.pre w (List.mem_cons_of_mem _ h)
  have E : e_En p s m ([e_rv B (x0), .int (iI (x1))] : List Value).toArray meth c cX13_spansMotion RX13 8 (some .boolean) := ⟨hx, hb, hml, hown, hts, hlk, hrt⟩
  have hS : va_S (e_A B) s.heap s.heap [] := va_S.rf
  have hl := e_entry (vs := [e_rv B (x0), .int (iI (x1))]) (n := 8) (Nat.le_of_ble_eq_true rfl) (e_cc (e_rv_cat _ _) (e_cc rfl e_cn))
  rw [lg_entry_eq]
  generalize (lg_sl [e_rv B (x0), .int (iI (x1))] ++ List.replicate (8 - (lg_sl [e_rv B (x0), .int (iI (x1))]).length) Slot.unset).toArray = ls at hl ⊢
  generalize ([e_rv B (x0), .int (iI (x1))] : List Value).toArray = args at hts E ⊢
  have hl : e_lo ls 8 [(0, e_rv B (x0)), (1, .int (iI (x1)))] := hl
  have hsh := (gd_some hsh).2
  refine e_aload_n (B := B) (x := x0) hx hb dX13_spansMotion_0 rfl (hl.at 0 rfl) ?_
  obtain ⟨v1, h1, hsh⟩ := Option.bind_eq_some_iff.mp hsh
  refine e_getI (k := 46) hx hb hts in_X13 hown hp h1 rfl (by decide) (by decide) rfl (hts _ kf13_296) rfl dX13_spansMotion_1 ?_
  refine e_aload_n (B := B) (x := x0) hx hb dX13_spansMotion_4 rfl (hl.at 0 rfl) ?_
  obtain ⟨v5, h5, hsh⟩ := Option.bind_eq_some_iff.mp hsh
  refine e_getI (k := 5) hx hb hts in_X13 hown hp h5 rfl (by decide) (by decide) rfl (hts _ kf13_213) rfl dX13_spansMotion_5 ?_
  refine e_icmp_lt (tgt := 33) hx hb dX13_spansMotion_8 (by decide) (fun c8 => ?_) (fun c8 => ?_)
  · rw [if_pos c8] at hsh
    exact w13_spansMotion_b33 E hp hS (hl.sub [0, 1] rfl) hsh
  · rw [if_neg c8] at hsh
    refine e_aload_n (B := B) (x := x0) hx hb dX13_spansMotion_11 rfl (hl.at 0 rfl) ?_
    obtain ⟨v12, h12, hsh⟩ := Option.bind_eq_some_iff.mp hsh
    refine e_getI (k := 46) hx hb hts in_X13 hown hp h12 rfl (by decide) (by decide) rfl (hts _ kf13_296) rfl dX13_spansMotion_12 ?_
    refine e_aload_n (B := B) (x := x0) hx hb dX13_spansMotion_15 rfl (hl.at 0 rfl) ?_
    obtain ⟨v16, h16, hsh⟩ := Option.bind_eq_some_iff.mp hsh
    refine e_getI (k := 5) hx hb hts in_X13 hown hp h16 rfl (by decide) (by decide) rfl (hts _ kf13_213) rfl dX13_spansMotion_16 ?_
    refine e_icmp_ne (tgt := 37) hx hb dX13_spansMotion_19 (by decide) (fun c19 => ?_) (fun c19 => ?_)
    · rw [if_neg c19] at hsh
      exact w13_spansMotion_b37 E hp hS (hl.sub [0, 1] rfl) hsh
    · rw [if_pos c19] at hsh
      refine e_aload_n (B := B) (x := x0) hx hb dX13_spansMotion_22 rfl (hl.at 0 rfl) ?_
      obtain ⟨v23, h23, hsh⟩ := Option.bind_eq_some_iff.mp hsh
      refine e_getI (k := 47) hx hb hts in_X13 hown hp h23 rfl (by decide) (by decide) rfl (hts _ kf13_299) rfl dX13_spansMotion_23 ?_
      refine e_aload_n (B := B) (x := x0) hx hb dX13_spansMotion_26 rfl (hl.at 0 rfl) ?_
      obtain ⟨v27, h27, hsh⟩ := Option.bind_eq_some_iff.mp hsh
      refine e_getI (k := 6) hx hb hts in_X13 hown hp h27 rfl (by decide) (by decide) rfl (hts _ kf13_216) rfl dX13_spansMotion_27 ?_
      refine e_icmp_ge (tgt := 37) hx hb dX13_spansMotion_30 (by decide) (fun c30 => ?_) (fun c30 => ?_)
      · rw [if_pos c30] at hsh
        exact w13_spansMotion_b37 E hp hS (hl.sub [0, 1] rfl) hsh
      · rw [if_neg c30] at hsh
        exact w13_spansMotion_b33 E hp hS (hl.sub [0, 1] rfl) hsh
theorem ok13_runEnd {S : HP} {x0 : Int} {x1 : Int} {x2 : Int} {r : Int × HP} (h : s13_runEnd S x0 x1 x2 = some r) : 0 ≤ x0 ∧ x0.toNat < e_n S ∧ e_g S x0.toNat = 13 := (gd_some h).1
set_option maxRecDepth 100000 in
set_option maxHeartbeats 4000000 in
theorem w13_runEnd_l2 {p : Program} {l : Launch} {e : Env} {s : State} {m : MethodId} {args : Array Value} {below : List Frame} {meth : Method} {c : Code} {D : va_G} {cA : Nat → ClassId} {B : Nat} {res : Int × HP} (E : e_En p s m args meth c cX13_runEnd RX13 4 (some .int)) : ∀ (f : Nat) {ls : Array Slot} {H : Heap} {locs : List Loc} {S : HP} {x0 : Int} {x1 : Int} {x2 : Int} {x3 : Int} (hp : e_Pic D cA B S s H) (hS : va_S (e_A B) s.heap H locs) (hl : e_lo ls 4 [(0, e_rv B (x0)), (1, .int (iI (x1))), (2, .int (iI (x2))), (3, .int (iI (x3)))]) (hsh : s13_runEnd_l2 f S x0 x1 x2 x3 = some res), W p l e ({ frames := 3, cells := 0, slots := 0, locals := 64 } : Room) s m args below meth c H locs 0 0 (MQ below (e_Qi D cA B res.1 res.2) args s 0 0 (e_A B)) (F0 m 2 ls []) := by
  obtain ⟨hx, hb, hml, hown, hts, hlk, hrt⟩ := id E
  intro f
  induction f with
  | zero => intro ls H locs S x0 x1 x2 x3 hp hS hl hsh; cases hsh
  | succ f ih =>
    intro ls H locs S x0 x1 x2 x3 hp hS hl hsh
    have hk2 : ∀ {ls : Array Slot} {H : Heap} {locs : List Loc} {S : HP} {x0 : Int} {x1 : Int} {x2 : Int} {x3 : Int} (hp : e_Pic D cA B S s H) (hS : va_S (e_A B) s.heap H locs) (hl : e_lo ls 4 [(0, e_rv B (x0)), (1, .int (iI (x1))), (2, .int (iI (x2))), (3, .int (iI (x3)))]) (hsh : (s13_runEnd_l2 f) S x0 x1 x2 x3 = some res), W p l e ({ frames := 3, cells := 0, slots := 0, locals := 64 } : Room) s m args below meth c H locs 0 0 (MQ below (e_Qi D cA B res.1 res.2) args s 0 0 (e_A B)) (F0 m 2 ls []) := ih
    generalize hkk : s13_runEnd_l2 f = k2 at hk2
    rw [s13_runEnd_l2] at hsh
    rw [hkk] at hsh
    try dsimp only at hsh
    refine e_aload_n (B := B) (x := x0) hx hb dX13_runEnd_2 rfl (hl.at 0 rfl) ?_
    refine e_aload_n (B := B) (x := x0) hx hb dX13_runEnd_3 rfl (hl.at 0 rfl) ?_
    obtain ⟨v4, h4, hsh⟩ := Option.bind_eq_some_iff.mp hsh
    refine e_getI (k := 5) hx hb hts in_X13 hown hp h4 rfl (by decide) (by decide) rfl (hts _ kf13_213) rfl dX13_runEnd_4 ?_
    refine lv_iload_n hx hb dX13_runEnd_7 rfl (hl.at 3 rfl) ?_
    refine lv_iload_n hx hb dX13_runEnd_8 rfl (hl.at 2 rfl) ?_
    refine e_iadd hx hb dX13_runEnd_9 ?_
    obtain ⟨⟨v10, S10⟩, h10, hsh⟩ := Option.bind_eq_some_iff.mp hsh
    have hsh : _ = _ := hsh
    try dsimp only at hsh
    have ok10 := ok13_classAt h10
    refine e_callI (nL := 4) (mc := 0) (ms := 0) (T := TX13) (N := 126) (As := [.int (iI (v4)), .int (iI ((x3 + x2)))]) (rest := []) hx hb hml hown hts hp hS hl.size ok10.1 ok10.2.1 ok10.2.2 rfl (by decide) (c13_classAt l D cA B S S10 (x0) (v4) ((x3 + x2)) v10 h10) rfl rfl kd13_classAt (kl13_293) ks13_classAt kv13_classAt ki13 kh13_classAt ⟨Nat.le_of_ble_eq_true rfl, Nat.le_of_ble_eq_true rfl⟩ rfl (by simp [e_rv_cat, e_int_cat]) ⟨Nat.le_refl _, Nat.le_refl _⟩ dX13_runEnd_10 rfl (fun H locs hp hS => ?_)
    refine e_aload_n (B := B) (x := x0) hx hb dX13_runEnd_13 rfl (hl.at 0 rfl) ?_
    refine e_aload_n (B := B) (x := x0) hx hb dX13_runEnd_14 rfl (hl.at 0 rfl) ?_
    obtain ⟨v15, h15, hsh⟩ := Option.bind_eq_some_iff.mp hsh
    refine e_getI (k := 5) hx hb hts in_X13 hown hp h15 rfl (by decide) (by decide) rfl (hts _ kf13_213) rfl dX13_runEnd_15 ?_
    refine lv_iload_n hx hb dX13_runEnd_18 rfl (hl.at 1 rfl) ?_
    obtain ⟨⟨v19, S19⟩, h19, hsh⟩ := Option.bind_eq_some_iff.mp hsh
    have hsh : _ = _ := hsh
    try dsimp only at hsh
    have ok19 := ok13_classAt h19
    refine e_callI (nL := 4) (mc := 0) (ms := 0) (T := TX13) (N := 126) (As := [.int (iI (v15)), .int (iI (x1))]) (rest := [.int (iI (v10))]) hx hb hml hown hts hp hS hl.size ok19.1 ok19.2.1 ok19.2.2 rfl (by decide) (c13_classAt l D cA B S10 S19 (x0) (v15) (x1) v19 h19) rfl rfl kd13_classAt (kl13_293) ks13_classAt kv13_classAt ki13 kh13_classAt ⟨Nat.le_of_ble_eq_true rfl, Nat.le_of_ble_eq_true rfl⟩ rfl (by simp [e_rv_cat, e_int_cat]) ⟨Nat.le_refl _, Nat.le_refl _⟩ dX13_runEnd_19 rfl (fun H locs hp hS => ?_)
    refine e_icmp_ne (tgt := 32) hx hb dX13_runEnd_22 (by decide) (fun c22 => ?_) (fun c22 => ?_)
    · rw [if_neg c22] at hsh
      refine lv_iload_n hx hb dX13_runEnd_32 rfl (hl.at 3 rfl) ?_
      cases hsh
      exact e_iret hx hb hrt hlk hp hS dX13_runEnd_33
    · rw [if_pos c22] at hsh
      refine lv_iload_n hx hb dX13_runEnd_25 rfl (hl.at 3 rfl) ?_
      refine lv_iload_n hx hb dX13_runEnd_26 rfl (hl.at 2 rfl) ?_
      refine e_iadd hx hb dX13_runEnd_27 ?_
      refine e_istore_n (lv' := [(3, .int (iI ((x3 + x2)))), (0, e_rv B (x0)), (1, .int (iI (x1))), (2, .int (iI (x2)))]) hx hb dX13_runEnd_28 rfl hl (by decide) rfl (fun ls hl => ?_)
      refine lv_goto (tgt := 2) hx hb dX13_runEnd_29 (by decide) ?_
      exact hk2 hp hS (hl.sub [1, 2, 3, 0] rfl) hsh
set_option maxRecDepth 100000 in
set_option maxHeartbeats 4000000 in
theorem c13_runEnd (l : Launch) (D : va_G) (cA : Nat → ClassId) (B : Nat) (S S' : HP) (x0 : Int) (x1 : Int) (x2 : Int) (r : Int) (hsh : s13_runEnd S x0 x1 x2 = some (r, S')) : Met l yX13_runEnd (e_wu yX13_runEnd cX13_runEnd 4 (some .int)) ({ frames := 3, cells := 0, slots := 0, locals := 64 } : Room) (va_Pc [e_rv B (x0), .int (iI (x1)), .int (iI (x2))] (fun U => e_PU D cA B S U)) (e_Qi D cA B r S') 0 0 (e_A B) := by
  refine Met.ofW (cc := cX13_runEnd) (maxL := 4) (ret := (some .int)) (by decide +kernel) rfl ?_
  intro p e s m args below meth c s₁ Bd hml hv
  obtain ⟨rfl, hp⟩ := hv
  have hp : e_Pic D cA B S s s.heap := hp
  have hx := Bd.exec
  have hb := Bd.bytes
  have hrt := Bd.returns
  have hlk := Bd.notSynchronized
  have hown : s.vm.findClass RX13 = some m.cls := findClass_of_methodNamed Bd.named
  have hts : ∀ w ∈ e_tb, w.before ([e_rv B (x0), .int (iI (x1)), .int (iI (x2))] : List Value).toArray s = true := fun w h => atoms_spec (ws := (e_wu yX13_runEnd cX13_runEnd 4 (some .int))) Bd.pre w (List.mem_cons_of_mem _ h)
  have E : e_En p s m ([e_rv B (x0), .int (iI (x1)), .int (iI (x2))] : List Value).toArray meth c cX13_runEnd RX13 4 (some .int) := ⟨hx, hb, hml, hown, hts, hlk, hrt⟩
  have hS : va_S (e_A B) s.heap s.heap [] := va_S.rf
  have hl := e_entry (vs := [e_rv B (x0), .int (iI (x1)), .int (iI (x2))]) (n := 4) (Nat.le_of_ble_eq_true rfl) (e_cc (e_rv_cat _ _) (e_cc rfl (e_cc rfl e_cn)))
  rw [lg_entry_eq]
  generalize (lg_sl [e_rv B (x0), .int (iI (x1)), .int (iI (x2))] ++ List.replicate (4 - (lg_sl [e_rv B (x0), .int (iI (x1)), .int (iI (x2))]).length) Slot.unset).toArray = ls at hl ⊢
  generalize ([e_rv B (x0), .int (iI (x1)), .int (iI (x2))] : List Value).toArray = args at hts E ⊢
  have hl : e_lo ls 4 [(0, e_rv B (x0)), (1, .int (iI (x1))), (2, .int (iI (x2)))] := hl
  have hsh := (gd_some hsh).2
  refine lv_iload_n hx hb dX13_runEnd_0 rfl (hl.at 1 rfl) ?_
  refine e_istore_n (lv' := [(3, .int (iI (x1))), (0, e_rv B (x0)), (1, .int (iI (x1))), (2, .int (iI (x2)))]) hx hb dX13_runEnd_1 rfl hl (by decide) rfl (fun ls hl => ?_)
  exact w13_runEnd_l2 E 1000000 hp hS (hl.sub [1, 2, 3, 0] rfl) hsh
theorem ok13_spansWord {S : HP} {x0 : Int} {x1 : Int} {x2 : Int} {r : Int × HP} (h : s13_spansWord S x0 x1 x2 = some r) : 0 ≤ x0 ∧ x0.toNat < e_n S ∧ e_g S x0.toNat = 13 := (gd_some h).1
set_option maxRecDepth 100000 in
set_option maxHeartbeats 4000000 in
theorem w13_spansWord_b163 {p : Program} {l : Launch} {e : Env} {s : State} {m : MethodId} {args : Array Value} {below : List Frame} {meth : Method} {c : Code} {D : va_G} {cA : Nat → ClassId} {B : Nat} {res : Int × HP} (E : e_En p s m args meth c cX13_spansWord RX13 7 (some .boolean)) {ls : Array Slot} {H : Heap} {locs : List Loc} {S : HP} {x0 : Int} {x3 : Int} {x4 : Int} (hp : e_Pic D cA B S s H) (hS : va_S (e_A B) s.heap H locs) (hl : e_lo ls 7 [(0, e_rv B (x0)), (3, .int (iI (x3))), (4, .int (iI (x4)))]) (hsh : s13_spansWord_b163 S x0 x3 x4 = some res) : W p l e ({ frames := 4, cells := 0, slots := 0, locals := 87 } : Room) s m args below meth c H locs 0 0 (MQ below (e_Qi D cA B res.1 res.2) args s 0 0 (e_A B)) (F0 m 163 ls []) := by
  obtain ⟨hx, hb, hml, hown, hts, hlk, hrt⟩ := id E
  unfold s13_spansWord_b163 at hsh
  refine e_aload_n (B := B) (x := x0) hx hb dX13_spansWord_163 rfl (hl.at 0 rfl) ?_
  refine lv_iconst (v := iI (1)) hx hb dX13_spansWord_164 rfl ?_
  refine e_aload_n (B := B) (x := x0) hx hb dX13_spansWord_165 rfl (hl.at 0 rfl) ?_
  obtain ⟨v166, h166, hsh⟩ := Option.bind_eq_some_iff.mp hsh
  refine e_getI (k := 5) hx hb hts in_X13 hown hp h166 rfl (by decide) (by decide) rfl (hts _ kf13_213) rfl dX13_spansWord_166 ?_
  refine lv_iload_n hx hb dX13_spansWord_169 rfl (hl.at 1 rfl) ?_
  refine e_aload_n (B := B) (x := x0) hx hb dX13_spansWord_170 rfl (hl.at 0 rfl) ?_
  obtain ⟨v171, h171, hsh⟩ := Option.bind_eq_some_iff.mp hsh
  refine e_getI (k := 5) hx hb hts in_X13 hown hp h171 rfl (by decide) (by decide) rfl (hts _ kf13_213) rfl dX13_spansWord_171 ?_
  refine lv_iload hx hb dX13_spansWord_174 (hl.at 2 rfl) ?_
  refine lv_iconst (v := iI (1)) hx hb dX13_spansWord_176 rfl ?_
  refine e_iadd hx hb dX13_spansWord_177 ?_
  obtain ⟨S178, h178, hsh⟩ := Option.bind_eq_some_iff.mp hsh
  have ok178 := ok13_spans h178
  refine e_callV (nL := 7) (mc := 0) (ms := 0) (T := TX13) (N := 126) (As := [.int (iI (1)), .int (iI (v166)), .int (iI (x3)), .int (iI (v171)), .int (iI ((x4 + 1)))]) (rest := []) hx hb hml hown hts hp hS hl.size ok178.1 ok178.2.1 ok178.2.2 rfl (by decide) (c13_spans l D cA B S S178 (x0) (1) (v166) (x3) (v171) ((x4 + 1)) h178) rfl rfl kd13_spans (kl13_410) ks13_spans kv13_spans ki13 kh13_spans ⟨Nat.le_of_ble_eq_true rfl, Nat.le_of_ble_eq_true rfl⟩ rfl (by simp [e_rv_cat, e_int_cat]) ⟨Nat.le_refl _, Nat.le_refl _⟩ dX13_spansWord_178 rfl (fun H locs hp hS => ?_)
  refine lv_iconst (v := iI (1)) hx hb dX13_spansWord_181 rfl ?_
  obtain ⟨hz, hz1, hz2⟩ := zR_some hsh
  rw [← hz1, ← hz2]
  exact e_zret hx hb hrt hlk hp hS hz dX13_spansWord_182
set_option maxRecDepth 100000 in
set_option maxHeartbeats 4000000 in
theorem w13_spansWord_b145 {p : Program} {l : Launch} {e : Env} {s : State} {m : MethodId} {args : Array Value} {below : List Frame} {meth : Method} {c : Code} {D : va_G} {cA : Nat → ClassId} {B : Nat} {res : Int × HP} (E : e_En p s m args meth c cX13_spansWord RX13 7 (some .boolean)) {ls : Array Slot} {H : Heap} {locs : List Loc} {S : HP} {x0 : Int} {x1 : Int} {x3 : Int} {x4 : Int} {x6 : Int} (hp : e_Pic D cA B S s H) (hS : va_S (e_A B) s.heap H locs) (hl : e_lo ls 7 [(0, e_rv B (x0)), (1, .int (iI (x1))), (3, .int (iI (x3))), (4, .int (iI (x4))), (6, .int (iI (x6)))]) (hsh : s13_spansWord_b145 S x0 x1 x3 x4 x6 = some res) : W p l e ({ frames := 4, cells := 0, slots := 0, locals := 87 } : Room) s m args below meth c H locs 0 0 (MQ below (e_Qi D cA B res.1 res.2) args s 0 0 (e_A B)) (F0 m 145 ls []) := by
  obtain ⟨hx, hb, hml, hown, hts, hlk, hrt⟩ := id E
  unfold s13_spansWord_b145 at hsh
  refine lv_iload_n hx hb dX13_spansWord_145 rfl (hl.at 1 rfl) ?_
  refine e_if_eq (tgt := 163) hx hb dX13_spansWord_146 (by decide) (fun c146 => ?_) (fun c146 => ?_)
  · rw [if_pos c146] at hsh
    exact w13_spansWord_b163 E hp hS (hl.sub [0, 2, 3] rfl) hsh
  · rw [if_neg c146] at hsh
    refine lv_iload hx hb dX13_spansWord_149 (hl.at 4 rfl) ?_
    refine e_if_eq (tgt := 163) hx hb dX13_spansWord_151 (by decide) (fun c151 => ?_) (fun c151 => ?_)
    · rw [if_pos c151] at hsh
      exact w13_spansWord_b163 E hp hS (hl.sub [0, 2, 3] rfl) hsh
    · rw [if_neg c151] at hsh
      refine e_aload_n (B := B) (x := x0) hx hb dX13_spansWord_154 rfl (hl.at 0 rfl) ?_
      refine lv_iload_n hx hb dX13_spansWord_155 rfl (hl.at 2 rfl) ?_
      refine lv_iconst (v := iI (1)) hx hb dX13_spansWord_156 rfl ?_
      refine e_isub hx hb dX13_spansWord_157 ?_
      refine lv_iconst (v := iI (-1)) hx hb dX13_spansWord_158 rfl ?_
      obtain ⟨⟨v159, S159⟩, h159, hsh⟩ := Option.bind_eq_some_iff.mp hsh
      have hsh : _ = _ := hsh
      try dsimp only at hsh
      have ok159 := ok13_runEnd h159
      refine e_callI (nL := 7) (mc := 0) (ms := 0) (T := TX13) (N := 126) (As := [.int (iI ((x3 - 1))), .int (iI ((-1)))]) (rest := []) hx hb hml hown hts hp hS hl.size ok159.1 ok159.2.1 ok159.2.2 rfl (by decide) (c13_runEnd l D cA B S S159 (x0) ((x3 - 1)) ((-1)) v159 h159) rfl rfl kd13_runEnd (kl13_420) ks13_runEnd kv13_runEnd ki13 kh13_runEnd ⟨Nat.le_of_ble_eq_true rfl, Nat.le_of_ble_eq_true rfl⟩ rfl (by simp [e_rv_cat, e_int_cat]) ⟨Nat.le_refl _, Nat.le_refl _⟩ dX13_spansWord_159 rfl (fun H locs hp hS => ?_)
      refine e_istore_n (lv' := [(3, .int (iI (v159))), (0, e_rv B (x0)), (1, .int (iI (x1))), (4, .int (iI (x4))), (6, .int (iI (x6)))]) hx hb dX13_spansWord_162 rfl hl (by decide) rfl (fun ls hl => ?_)
      exact w13_spansWord_b163 E hp hS (hl.sub [1, 0, 3] rfl) hsh
set_option maxRecDepth 100000 in
set_option maxHeartbeats 4000000 in
theorem w13_spansWord_b120 {p : Program} {l : Launch} {e : Env} {s : State} {m : MethodId} {args : Array Value} {below : List Frame} {meth : Method} {c : Code} {D : va_G} {cA : Nat → ClassId} {B : Nat} {res : Int × HP} (E : e_En p s m args meth c cX13_spansWord RX13 7 (some .boolean)) {ls : Array Slot} {H : Heap} {locs : List Loc} {S : HP} {x0 : Int} {x1 : Int} {x3 : Int} {x4 : Int} {x5 : Int} {y0 : Int} (hp : e_Pic D cA B S s H) (hS : va_S (e_A B) s.heap H locs) (hl : e_lo ls 7 [(0, e_rv B (x0)), (1, .int (iI (x1))), (3, .int (iI (x3))), (4, .int (iI (x4))), (5, .int (iI (x5)))]) (hsh : s13_spansWord_b120 S x0 x1 x3 x4 x5 y0 = some res) : W p l e ({ frames := 4, cells := 0, slots := 0, locals := 87 } : Room) s m args below meth c H locs 0 0 (MQ below (e_Qi D cA B res.1 res.2) args s 0 0 (e_A B)) (F0 m 120 ls [.int (iI (y0))]) := by
  obtain ⟨hx, hb, hml, hown, hts, hlk, hrt⟩ := id E
  unfold s13_spansWord_b120 at hsh
  refine e_istore (lv' := [(6, .int (iI (y0))), (0, e_rv B (x0)), (1, .int (iI (x1))), (3, .int (iI (x3))), (4, .int (iI (x4))), (5, .int (iI (x5)))]) hx hb dX13_spansWord_120 hl (by decide) rfl (fun ls hl => ?_)
  refine lv_iload_n hx hb dX13_spansWord_122 rfl (hl.at 2 rfl) ?_
  refine e_if_eq (tgt := 145) hx hb dX13_spansWord_123 (by decide) (fun c123 => ?_) (fun c123 => ?_)
  · rw [if_pos c123] at hsh
    exact w13_spansWord_b145 E hp hS (hl.sub [1, 2, 3, 4, 0] rfl) hsh
  · rw [if_neg c123] at hsh
    refine lv_iload hx hb dX13_spansWord_126 (hl.at 5 rfl) ?_
    refine e_if_eq (tgt := 145) hx hb dX13_spansWord_128 (by decide) (fun c128 => ?_) (fun c128 => ?_)
    · rw [if_pos c128] at hsh
      exact w13_spansWord_b145 E hp hS (hl.sub [1, 2, 3, 4, 0] rfl) hsh
    · rw [if_neg c128] at hsh
      refine e_aload_n (B := B) (x := x0) hx hb dX13_spansWord_131 rfl (hl.at 1 rfl) ?_
      refine lv_iload hx hb dX13_spansWord_132 (hl.at 4 rfl) ?_
      refine lv_iconst (v := iI (1)) hx hb dX13_spansWord_134 rfl ?_
      refine e_iadd hx hb dX13_spansWord_135 ?_
      refine lv_iconst (v := iI (1)) hx hb dX13_spansWord_136 rfl ?_
      obtain ⟨⟨v137, S137⟩, h137, hsh⟩ := Option.bind_eq_some_iff.mp hsh
      have hsh : _ = _ := hsh
      try dsimp only at hsh
      have ok137 := ok13_runEnd h137
      refine e_callI (nL := 7) (mc := 0) (ms := 0) (T := TX13) (N := 126) (As := [.int (iI ((x4 + 1))), .int (iI (1))]) (rest := []) hx hb hml hown hts hp hS hl.size ok137.1 ok137.2.1 ok137.2.2 rfl (by decide) (c13_runEnd l D cA B S S137 (x0) ((x4 + 1)) (1) v137 h137) rfl rfl kd13_runEnd (kl13_420) ks13_runEnd kv13_runEnd ki13 kh13_runEnd ⟨Nat.le_of_ble_eq_true rfl, Nat.le_of_ble_eq_true rfl⟩ rfl (by simp [e_rv_cat, e_int_cat]) ⟨Nat.le_refl _, Nat.le_refl _⟩ dX13_spansWord_137 rfl (fun H locs hp hS => ?_)
      refine e_istore (lv' := [(4, .int (iI (v137))), (6, .int (iI (y0))), (0, e_rv B (x0)), (1, .int (iI (x1))), (3, .int (iI (x3))), (5, .int (iI (x5)))]) hx hb dX13_spansWord_140 hl (by decide) rfl (fun ls hl => ?_)
      refine lv_goto (tgt := 163) hx hb dX13_spansWord_142 (by decide) ?_
      exact w13_spansWord_b163 E hp hS (hl.sub [2, 4, 0] rfl) hsh
set_option maxRecDepth 100000 in
set_option maxHeartbeats 4000000 in
theorem w13_spansWord_b99 {p : Program} {l : Launch} {e : Env} {s : State} {m : MethodId} {args : Array Value} {below : List Frame} {meth : Method} {c : Code} {D : va_G} {cA : Nat → ClassId} {B : Nat} {res : Int × HP} (E : e_En p s m args meth c cX13_spansWord RX13 7 (some .boolean)) {ls : Array Slot} {H : Heap} {locs : List Loc} {S : HP} {x0 : Int} {x1 : Int} {x3 : Int} {x4 : Int} {y0 : Int} (hp : e_Pic D cA B S s H) (hS : va_S (e_A B) s.heap H locs) (hl : e_lo ls 7 [(0, e_rv B (x0)), (1, .int (iI (x1))), (3, .int (iI (x3))), (4, .int (iI (x4)))]) (hsh : s13_spansWord_b99 S x0 x1 x3 x4 y0 = some res) : W p l e ({ frames := 4, cells := 0, slots := 0, locals := 87 } : Room) s m args below meth c H locs 0 0 (MQ below (e_Qi D cA B res.1 res.2) args s 0 0 (e_A B)) (F0 m 99 ls [.int (iI (y0))]) := by
  obtain ⟨hx, hb, hml, hown, hts, hlk, hrt⟩ := id E
  unfold s13_spansWord_b99 at hsh
  refine e_istore (lv' := [(5, .int (iI (y0))), (0, e_rv B (x0)), (1, .int (iI (x1))), (3, .int (iI (x3))), (4, .int (iI (x4)))]) hx hb dX13_spansWord_99 hl (by decide) rfl (fun ls hl => ?_)
  refine e_aload_n (B := B) (x := x0) hx hb dX13_spansWord_101 rfl (hl.at 1 rfl) ?_
  refine e_aload_n (B := B) (x := x0) hx hb dX13_spansWord_102 rfl (hl.at 1 rfl) ?_
  obtain ⟨v103, h103, hsh⟩ := Option.bind_eq_some_iff.mp hsh
  refine e_getI (k := 5) hx hb hts in_X13 hown hp h103 rfl (by decide) (by decide) rfl (hts _ kf13_213) rfl dX13_spansWord_103 ?_
  refine lv_iload_n hx hb dX13_spansWord_106 rfl (hl.at 3 rfl) ?_
  refine lv_iconst (v := iI (1)) hx hb dX13_spansWord_107 rfl ?_
  refine e_isub hx hb dX13_spansWord_108 ?_
  obtain ⟨⟨v109, S109⟩, h109, hsh⟩ := Option.bind_eq_some_iff.mp hsh
  have hsh : _ = _ := hsh
  try dsimp only at hsh
  have ok109 := ok13_classAt h109
  refine e_callI (nL := 7) (mc := 0) (ms := 0) (T := TX13) (N := 126) (As := [.int (iI (v103)), .int (iI ((x3 - 1)))]) (rest := []) hx hb hml hown hts hp hS hl.size ok109.1 ok109.2.1 ok109.2.2 rfl (by decide) (c13_classAt l D cA B S S109 (x0) (v103) ((x3 - 1)) v109 h109) rfl rfl kd13_classAt (kl13_293) ks13_classAt kv13_classAt ki13 kh13_classAt ⟨Nat.le_of_ble_eq_true rfl, Nat.le_of_ble_eq_true rfl⟩ rfl (by simp [e_rv_cat, e_int_cat]) ⟨Nat.le_refl _, Nat.le_refl _⟩ dX13_spansWord_109 rfl (fun H locs hp hS => ?_)
  refine e_if_ne (tgt := 119) hx hb dX13_spansWord_112 (by decide) (fun c112 => ?_) (fun c112 => ?_)
  · rw [if_neg c112] at hsh
    refine lv_iconst (v := iI (0)) hx hb dX13_spansWord_119 rfl ?_
    exact w13_spansWord_b120 E hp hS (hl.sub [1, 2, 3, 4, 0] rfl) hsh
  · rw [if_pos c112] at hsh
    refine lv_iconst (v := iI (1)) hx hb dX13_spansWord_115 rfl ?_
    refine lv_goto (tgt := 120) hx hb dX13_spansWord_116 (by decide) ?_
    exact w13_spansWord_b120 E hp hS (hl.sub [1, 2, 3, 4, 0] rfl) hsh
set_option maxRecDepth 100000 in
set_option maxHeartbeats 4000000 in
theorem w13_spansWord_l38 {p : Program} {l : Launch} {e : Env} {s : State} {m : MethodId} {args : Array Value} {below : List Frame} {meth : Method} {c : Code} {D : va_G} {cA : Nat → ClassId} {B : Nat} {res : Int × HP} (E : e_En p s m args meth c cX13_spansWord RX13 7 (some .boolean)) : ∀ (f : Nat) {ls : Array Slot} {H : Heap} {locs : List Loc} {S : HP} {x0 : Int} {x1 : Int} {x2 : Int} {x3 : Int} {x4 : Int} {x5 : Int} (hp : e_Pic D cA B S s H) (hS : va_S (e_A B) s.heap H locs) (hl : e_lo ls 7 [(0, e_rv B (x0)), (1, .int (iI (x1))), (2, .int (iI (x2))), (3, .int (iI (x3))), (4, .int (iI (x4))), (5, .int (iI (x5)))]) (hsh : s13_spansWord_l38 f S x0 x1 x2 x3 x4 x5 = some res), W p l e ({ frames := 4, cells := 0, slots := 0, locals := 87 } : Room) s m args below meth c H locs 0 0 (MQ below (e_Qi D cA B res.1 res.2) args s 0 0 (e_A B)) (F0 m 38 ls []) := by
  obtain ⟨hx, hb, hml, hown, hts, hlk, hrt⟩ := id E
  intro f
  induction f with
  | zero => intro ls H locs S x0 x1 x2 x3 x4 x5 hp hS hl hsh; cases hsh
  | succ f ih =>
    intro ls H locs S x0 x1 x2 x3 x4 x5 hp hS hl hsh
    have hk38 : ∀ {ls : Array Slot} {H : Heap} {locs : List Loc} {S : HP} {x0 : Int} {x1 : Int} {x2 : Int} {x3 : Int} {x4 : Int} {x5 : Int} (hp : e_Pic D cA B S s H) (hS : va_S (e_A B) s.heap H locs) (hl : e_lo ls 7 [(0, e_rv B (x0)), (1, .int (iI (x1))), (2, .int (iI (x2))), (3, .int (iI (x3))), (4, .int (iI (x4))), (5, .int (iI (x5)))]) (hsh : (s13_spansWord_l38 f) S x0 x1 x2 x3 x4 x5 = some res), W p l e ({ frames := 4, cells := 0, slots := 0, locals := 87 } : Room) s m args below meth c H locs 0 0 (MQ below (e_Qi D cA B res.1 res.2) args s 0 0 (e_A B)) (F0 m 38 ls []) := ih
    generalize hkk : s13_spansWord_l38 f = k38 at hk38
    rw [s13_spansWord_l38] at hsh
    rw [hkk] at hsh
    try dsimp only at hsh
    refine lv_iload hx hb dX13_spansWord_38 (hl.at 5 rfl) ?_
    refine lv_iload_n hx hb dX13_spansWord_40 rfl (hl.at 2 rfl) ?_
    refine e_icmp_ge (tgt := 79) hx hb dX13_spansWord_41 (by decide) (fun c41 => ?_) (fun c41 => ?_)
    · rw [if_pos c41] at hsh
      refine e_aload_n (B := B) (x := x0) hx hb dX13_spansWord_79 rfl (hl.at 0 rfl) ?_
      refine e_aload_n (B := B) (x := x0) hx hb dX13_spansWord_80 rfl (hl.at 0 rfl) ?_
      obtain ⟨v81, h81, hsh⟩ := Option.bind_eq_some_iff.mp hsh
      refine e_getI (k := 5) hx hb hts in_X13 hown hp h81 rfl (by decide) (by decide) rfl (hts _ kf13_213) rfl dX13_spansWord_81 ?_
      refine lv_iload hx hb dX13_spansWord_84 (hl.at 4 rfl) ?_
      refine lv_iconst (v := iI (1)) hx hb dX13_spansWord_86 rfl ?_
      refine e_iadd hx hb dX13_spansWord_87 ?_
      obtain ⟨⟨v88, S88⟩, h88, hsh⟩ := Option.bind_eq_some_iff.mp hsh
      have hsh : _ = _ := hsh
      try dsimp only at hsh
      have ok88 := ok13_classAt h88
      refine e_callI (nL := 7) (mc := 0) (ms := 0) (T := TX13) (N := 126) (As := [.int (iI (v81)), .int (iI ((x4 + 1)))]) (rest := []) hx hb hml hown hts hp hS hl.size ok88.1 ok88.2.1 ok88.2.2 rfl (by decide) (c13_classAt l D cA B S S88 (x0) (v81) ((x4 + 1)) v88 h88) rfl rfl kd13_classAt (kl13_293) ks13_classAt kv13_classAt ki13 kh13_classAt ⟨Nat.le_of_ble_eq_true rfl, Nat.le_of_ble_eq_true rfl⟩ rfl (by simp [e_rv_cat, e_int_cat]) ⟨Nat.le_refl _, Nat.le_refl _⟩ dX13_spansWord_88 rfl (fun H locs hp hS => ?_)
      refine e_if_ne (tgt := 98) hx hb dX13_spansWord_91 (by decide) (fun c91 => ?_) (fun c91 => ?_)
      · rw [if_neg c91] at hsh
        refine lv_iconst (v := iI (0)) hx hb dX13_spansWord_98 rfl ?_
        exact w13_spansWord_b99 E hp hS (hl.sub [0, 1, 3, 4] rfl) hsh
      · rw [if_pos c91] at hsh
        refine lv_iconst (v := iI (1)) hx hb dX13_spansWord_94 rfl ?_
        refine lv_goto (tgt := 99) hx hb dX13_spansWord_95 (by decide) ?_
        exact w13_spansWord_b99 E hp hS (hl.sub [0, 1, 3, 4] rfl) hsh
    · rw [if_neg c41] at hsh
      refine lv_iload hx hb dX13_spansWord_44 (hl.at 4 rfl) ?_
      refine lv_iconst (v := iI (1)) hx hb dX13_spansWord_46 rfl ?_
      refine e_iadd hx hb dX13_spansWord_47 ?_
      refine e_aload_n (B := B) (x := x0) hx hb dX13_spansWord_48 rfl (hl.at 0 rfl) ?_
      obtain ⟨v49, h49, hsh⟩ := Option.bind_eq_some_iff.mp hsh
      refine e_getR (k := 3) hx hb hts in_X13 hown hp h49 rfl (by decide) (by decide) rfl (hts _ kf13_17) rfl dX13_spansWord_49 ?_
      refine e_aload_n (B := B) (x := x0) hx hb dX13_spansWord_52 rfl (hl.at 0 rfl) ?_
      obtain ⟨v53, h53, hsh⟩ := Option.bind_eq_some_iff.mp hsh
      refine e_getI (k := 5) hx hb hts in_X13 hown hp h53 rfl (by decide) (by decide) rfl (hts _ kf13_213) rfl dX13_spansWord_53 ?_
      obtain ⟨v56, h56, hsh⟩ := Option.bind_eq_some_iff.mp hsh
      refine e_iald hx hb hp h56 dX13_spansWord_56 ?_
      refine e_icmp_lt (tgt := 62) hx hb dX13_spansWord_57 (by decide) (fun c57 => ?_) (fun c57 => ?_)
      · rw [if_pos c57] at hsh
        refine e_aload_n (B := B) (x := x0) hx hb dX13_spansWord_62 rfl (hl.at 0 rfl) ?_
        refine lv_iload hx hb dX13_spansWord_63 (hl.at 4 rfl) ?_
        refine lv_iconst (v := iI (1)) hx hb dX13_spansWord_65 rfl ?_
        refine e_iadd hx hb dX13_spansWord_66 ?_
        refine lv_iconst (v := iI (1)) hx hb dX13_spansWord_67 rfl ?_
        obtain ⟨⟨v68, S68⟩, h68, hsh⟩ := Option.bind_eq_some_iff.mp hsh
        have hsh : _ = _ := hsh
        try dsimp only at hsh
        have ok68 := ok13_runEnd h68
        refine e_callI (nL := 7) (mc := 0) (ms := 0) (T := TX13) (N := 126) (As := [.int (iI ((x4 + 1))), .int (iI (1))]) (rest := []) hx hb hml hown hts hp hS hl.size ok68.1 ok68.2.1 ok68.2.2 rfl (by decide) (c13_runEnd l D cA B S S68 (x0) ((x4 + 1)) (1) v68 h68) rfl rfl kd13_runEnd (kl13_420) ks13_runEnd kv13_runEnd ki13 kh13_runEnd ⟨Nat.le_of_ble_eq_true rfl, Nat.le_of_ble_eq_true rfl⟩ rfl (by simp [e_rv_cat, e_int_cat]) ⟨Nat.le_refl _, Nat.le_refl _⟩ dX13_spansWord_68 rfl (fun H locs hp hS => ?_)
        refine e_istore (lv' := [(4, .int (iI (v68))), (0, e_rv B (x0)), (1, .int (iI (x1))), (2, .int (iI (x2))), (3, .int (iI (x3))), (5, .int (iI (x5)))]) hx hb dX13_spansWord_71 hl (by decide) rfl (fun ls hl => ?_)
        refine e_iinc (n := 1) (x := x5) (lv' := [(5, .int (iI ((x5 + 1)))), (4, .int (iI (v68))), (0, e_rv B (x0)), (1, .int (iI (x1))), (2, .int (iI (x2))), (3, .int (iI (x3)))]) hx hb dX13_spansWord_73 hl (k := 5) rfl (by decide) rfl (fun ls hl => ?_)
        refine lv_goto (tgt := 38) hx hb dX13_spansWord_76 (by decide) ?_
        exact hk38 hp hS (hl.sub [2, 3, 4, 5, 1, 0] rfl) hsh
      · rw [if_neg c57] at hsh
        refine lv_iconst (v := iI (0)) hx hb dX13_spansWord_60 rfl ?_
        obtain ⟨hz, hz1, hz2⟩ := zR_some hsh
        rw [← hz1, ← hz2]
        exact e_zret hx hb hrt hlk hp hS hz dX13_spansWord_61
set_option maxRecDepth 100000 in
set_option maxHeartbeats 4000000 in
theorem c13_spansWord (l : Launch) (D : va_G) (cA : Nat → ClassId) (B : Nat) (S S' : HP) (x0 : Int) (x1 : Int) (x2 : Int) (r : Int) (hsh : s13_spansWord S x0 x1 x2 = some (r, S')) : Met l yX13_spansWord (e_wu yX13_spansWord cX13_spansWord 7 (some .boolean)) ({ frames := 4, cells := 0, slots := 0, locals := 87 } : Room) (va_Pc [e_rv B (x0), .int (iI (x1)), .int (iI (x2))] (fun U => e_PU D cA B S U)) (e_Qi D cA B r S') 0 0 (e_A B) := by
  refine Met.ofW (cc := cX13_spansWord) (maxL := 7) (ret := (some .boolean)) (by decide +kernel) rfl ?_
  intro p e s m args below meth c s₁ Bd hml hv
  obtain ⟨rfl, hp⟩ := hv
  have hp : e_Pic D cA B S s s.heap := hp
  have hx := Bd.exec
  have hb := Bd.bytes
  have hrt := Bd.returns
  have hlk := Bd.notSynchronized
  have hown : s.vm.findClass RX13 = some m.cls := findClass_of_methodNamed Bd.named
  have hts : ∀ w ∈ e_tb, w.before ([e_rv B (x0), .int (iI (x1)), .int (iI (x2))] : List Value).toArray s = true := fun w h => atoms_spec (ws := (e_wu yX13_spansWord cX13_spansWord 7 (some .boolean))) Bd.pre w (List.mem_cons_of_mem _ h)
  have E : e_En p s m ([e_rv B (x0), .int (iI (x1)), .int (iI (x2))] : List Value).toArray meth c cX13_spansWord RX13 7 (some .boolean) := ⟨hx, hb, hml, hown, hts, hlk, hrt⟩
  have hS : va_S (e_A B) s.heap s.heap [] := va_S.rf
  have hl := e_entry (vs := [e_rv B (x0), .int (iI (x1)), .int (iI (x2))]) (n := 7) (Nat.le_of_ble_eq_true rfl) (e_cc (e_rv_cat _ _) (e_cc rfl (e_cc rfl e_cn)))
  rw [lg_entry_eq]
  generalize (lg_sl [e_rv B (x0), .int (iI (x1)), .int (iI (x2))] ++ List.replicate (7 - (lg_sl [e_rv B (x0), .int (iI (x1)), .int (iI (x2))]).length) Slot.unset).toArray = ls at hl ⊢
  generalize ([e_rv B (x0), .int (iI (x1)), .int (iI (x2))] : List Value).toArray = args at hts E ⊢
  have hl : e_lo ls 7 [(0, e_rv B (x0)), (1, .int (iI (x1))), (2, .int (iI (x2)))] := hl
  have hsh := (gd_some hsh).2
  refine e_aload_n (B := B) (x := x0) hx hb dX13_spansWord_0 rfl (hl.at 0 rfl) ?_
  obtain ⟨v1, h1, hsh⟩ := Option.bind_eq_some_iff.mp hsh
  refine e_getR (k := 3) hx hb hts in_X13 hown hp h1 rfl (by decide) (by decide) rfl (hts _ kf13_17) rfl dX13_spansWord_1 ?_
  refine e_aload_n (B := B) (x := x0) hx hb dX13_spansWord_4 rfl (hl.at 0 rfl) ?_
  obtain ⟨v5, h5, hsh⟩ := Option.bind_eq_some_iff.mp hsh
  refine e_getI (k := 5) hx hb hts in_X13 hown hp h5 rfl (by decide) (by decide) rfl (hts _ kf13_213) rfl dX13_spansWord_5 ?_
  obtain ⟨v8, h8, hsh⟩ := Option.bind_eq_some_iff.mp hsh
  refine e_iald hx hb hp h8 dX13_spansWord_8 ?_
  refine e_if_ne (tgt := 14) hx hb dX13_spansWord_9 (by decide) (fun c9 => ?_) (fun c9 => ?_)
  · rw [if_neg c9] at hsh
    refine e_aload_n (B := B) (x := x0) hx hb dX13_spansWord_14 rfl (hl.at 0 rfl) ?_
    refine e_aload_n (B := B) (x := x0) hx hb dX13_spansWord_15 rfl (hl.at 0 rfl) ?_
    obtain ⟨v16, h16, hsh⟩ := Option.bind_eq_some_iff.mp hsh
    refine e_getI (k := 6) hx hb hts in_X13 hown hp h16 rfl (by decide) (by decide) rfl (hts _ kf13_216) rfl dX13_spansWord_16 ?_
    refine lv_iconst (v := iI (-1)) hx hb dX13_spansWord_19 rfl ?_
    obtain ⟨⟨v20, S20⟩, h20, hsh⟩ := Option.bind_eq_some_iff.mp hsh
    have hsh : _ = _ := hsh
    try dsimp only at hsh
    have ok20 := ok13_runEnd h20
    refine e_callI (nL := 7) (mc := 0) (ms := 0) (T := TX13) (N := 126) (As := [.int (iI (v16)), .int (iI ((-1)))]) (rest := []) hx hb hml hown hts hp hS hl.size ok20.1 ok20.2.1 ok20.2.2 rfl (by decide) (c13_runEnd l D cA B S S20 (x0) (v16) ((-1)) v20 h20) rfl rfl kd13_runEnd (kl13_420) ks13_runEnd kv13_runEnd ki13 kh13_runEnd ⟨Nat.le_of_ble_eq_true rfl, Nat.le_of_ble_eq_true rfl⟩ rfl (by simp [e_rv_cat, e_int_cat]) ⟨Nat.le_refl _, Nat.le_refl _⟩ dX13_spansWord_20 rfl (fun H locs hp hS => ?_)
    refine e_istore_n (lv' := [(3, .int (iI (v20))), (0, e_rv B (x0)), (1, .int (iI (x1))), (2, .int (iI (x2)))]) hx hb dX13_spansWord_23 rfl hl (by decide) rfl (fun ls hl => ?_)
    refine e_aload_n (B := B) (x := x0) hx hb dX13_spansWord_24 rfl (hl.at 1 rfl) ?_
    refine e_aload_n (B := B) (x := x0) hx hb dX13_spansWord_25 rfl (hl.at 1 rfl) ?_
    obtain ⟨v26, h26, hsh⟩ := Option.bind_eq_some_iff.mp hsh
    refine e_getI (k := 6) hx hb hts in_X13 hown hp h26 rfl (by decide) (by decide) rfl (hts _ kf13_216) rfl dX13_spansWord_26 ?_
    refine lv_iconst (v := iI (1)) hx hb dX13_spansWord_29 rfl ?_
    obtain ⟨⟨v30, S30⟩, h30, hsh⟩ := Option.bind_eq_some_iff.mp hsh
    have hsh : _ = _ := hsh
    try dsimp only at hsh
    have ok30 := ok13_runEnd h30
    refine e_callI (nL := 7) (mc := 0) (ms := 0) (T := TX13) (N := 126) (As := [.int (iI (v26)), .int (iI (1))]) (rest := []) hx hb hml hown hts hp hS hl.size ok30.1 ok30.2.1 ok30.2.2 rfl (by decide) (c13_runEnd l D cA B S20 S30 (x0) (v26) (1) v30 h30) rfl rfl kd13_runEnd (kl13_420) ks13_runEnd kv13_runEnd ki13 kh13_runEnd ⟨Nat.le_of_ble_eq_true rfl, Nat.le_of_ble_eq_true rfl⟩ rfl (by simp [e_rv_cat, e_int_cat]) ⟨Nat.le_refl _, Nat.le_refl _⟩ dX13_spansWord_30 rfl (fun H locs hp hS => ?_)
    refine e_istore (lv' := [(4, .int (iI (v30))), (3, .int (iI (v20))), (0, e_rv B (x0)), (1, .int (iI (x1))), (2, .int (iI (x2)))]) hx hb dX13_spansWord_33 hl (by decide) rfl (fun ls hl => ?_)
    refine lv_iconst (v := iI (1)) hx hb dX13_spansWord_35 rfl ?_
    refine e_istore (lv' := [(5, .int (iI (1))), (4, .int (iI (v30))), (3, .int (iI (v20))), (0, e_rv B (x0)), (1, .int (iI (x1))), (2, .int (iI (x2)))]) hx hb dX13_spansWord_36 hl (by decide) rfl (fun ls hl => ?_)
    exact w13_spansWord_l38 E 1000000 hp hS (hl.sub [3, 4, 5, 2, 1, 0] rfl) hsh
  · rw [if_pos c9] at hsh
    refine lv_iconst (v := iI (0)) hx hb dX13_spansWord_12 rfl ?_
    obtain ⟨hz, hz1, hz2⟩ := zR_some hsh
    rw [← hz1, ← hz2]
    exact e_zret hx hb hrt hlk hp hS hz dX13_spansWord_13
theorem ok13_spansQuotes {S : HP} {x0 : Int} {x1 : Int} {r : Int × HP} (h : s13_spansQuotes S x0 x1 = some r) : 0 ≤ x0 ∧ x0.toNat < e_n S ∧ e_g S x0.toNat = 13 := (gd_some h).1
set_option maxRecDepth 100000 in
set_option maxHeartbeats 4000000 in
theorem w13_spansQuotes_b92 {p : Program} {l : Launch} {e : Env} {s : State} {m : MethodId} {args : Array Value} {below : List Frame} {meth : Method} {c : Code} {D : va_G} {cA : Nat → ClassId} {B : Nat} {res : Int × HP} {k4 : HP → Int → Int → Int → Int → Option (Int × HP)} (hk4 : ∀ {ls : Array Slot} {H : Heap} {locs : List Loc} {S : HP} {x0 : Int} {x1 : Int} {x2 : Int} {x3 : Int} (hp : e_Pic D cA B S s H) (hS : va_S (e_A B) s.heap H locs) (hl : e_lo ls 4 [(0, e_rv B (x0)), (1, .int (iI (x1))), (2, .int (iI (x2))), (3, .int (iI (x3)))]) (hsh : k4 S x0 x1 x2 x3 = some res), W p l e ({ frames := 1, cells := 0, slots := 0, locals := 25 } : Room) s m args below meth c H locs 0 0 (MQ below (e_Qi D cA B res.1 res.2) args s 0 0 (e_A B)) (F0 m 4 ls [])) (E : e_En p s m args meth c cX13_spansQuotes RX13 4 (some .boolean)) {ls : Array Slot} {H : Heap} {locs : List Loc} {S : HP} {x0 : Int} {x1 : Int} {x2 : Int} {x3 : Int} (hp : e_Pic D cA B S s H) (hS : va_S (e_A B) s.heap H locs) (hl : e_lo ls 4 [(0, e_rv B (x0)), (1, .int (iI (x1))), (2, .int (iI (x2))), (3, .int (iI (x3)))]) (hsh : s13_spansQuotes_b92 k4 S x0 x1 x2 x3 = some res) : W p l e ({ frames := 1, cells := 0, slots := 0, locals := 25 } : Room) s m args below meth c H locs 0 0 (MQ below (e_Qi D cA B res.1 res.2) args s 0 0 (e_A B)) (F0 m 92 ls []) := by
  obtain ⟨hx, hb, hml, hown, hts, hlk, hrt⟩ := id E
  unfold s13_spansQuotes_b92 at hsh
  refine e_iinc (n := 1) (x := x3) (lv' := [(3, .int (iI ((x3 + 1)))), (0, e_rv B (x0)), (1, .int (iI (x1))), (2, .int (iI (x2)))]) hx hb dX13_spansQuotes_92 hl (k := 3) rfl (by decide) rfl (fun ls hl => ?_)
  refine lv_goto (tgt := 4) hx hb dX13_spansQuotes_95 (by decide) ?_
  exact hk4 hp hS (hl.sub [1, 2, 3, 0] rfl) hsh
set_option maxRecDepth 100000 in
set_option maxHeartbeats 4000000 in
theorem w13_spansQuotes_b91 {p : Program} {l : Launch} {e : Env} {s : State} {m : MethodId} {args : Array Value} {below : List Frame} {meth : Method} {c : Code} {D : va_G} {cA : Nat → ClassId} {B : Nat} {res : Int × HP} {k4 : HP → Int → Int → Int → Int → Option (Int × HP)} (hk4 : ∀ {ls : Array Slot} {H : Heap} {locs : List Loc} {S : HP} {x0 : Int} {x1 : Int} {x2 : Int} {x3 : Int} (hp : e_Pic D cA B S s H) (hS : va_S (e_A B) s.heap H locs) (hl : e_lo ls 4 [(0, e_rv B (x0)), (1, .int (iI (x1))), (2, .int (iI (x2))), (3, .int (iI (x3)))]) (hsh : k4 S x0 x1 x2 x3 = some res), W p l e ({ frames := 1, cells := 0, slots := 0, locals := 25 } : Room) s m args below meth c H locs 0 0 (MQ below (e_Qi D cA B res.1 res.2) args s 0 0 (e_A B)) (F0 m 4 ls [])) (E : e_En p s m args meth c cX13_spansQuotes RX13 4 (some .boolean)) {ls : Array Slot} {H : Heap} {locs : List Loc} {S : HP} {x0 : Int} {x1 : Int} {x3 : Int} {y0 : Int} (hp : e_Pic D cA B S s H) (hS : va_S (e_A B) s.heap H locs) (hl : e_lo ls 4 [(0, e_rv B (x0)), (1, .int (iI (x1))), (3, .int (iI (x3)))]) (hsh : s13_spansQuotes_b91 k4 S x0 x1 x3 y0 = some res) : W p l e ({ frames := 1, cells := 0, slots := 0, locals := 25 } : Room) s m args below meth c H locs 0 0 (MQ below (e_Qi D cA B res.1 res.2) args s 0 0 (e_A B)) (F0 m 91 ls [.int (iI (y0))]) := by
  obtain ⟨hx, hb, hml, hown, hts, hlk, hrt⟩ := id E
  unfold s13_spansQuotes_b91 at hsh
  refine e_istore_n (lv' := [(2, .int (iI (y0))), (0, e_rv B (x0)), (1, .int (iI (x1))), (3, .int (iI (x3)))]) hx hb dX13_spansQuotes_91 rfl hl (by decide) rfl (fun ls hl => ?_)
  exact w13_spansQuotes_b92 (hk4 := hk4) E hp hS (hl.sub [1, 2, 0, 3] rfl) hsh
set_option maxRecDepth 100000 in
set_option maxHeartbeats 4000000 in
theorem w13_spansQuotes_b81 {p : Program} {l : Launch} {e : Env} {s : State} {m : MethodId} {args : Array Value} {below : List Frame} {meth : Method} {c : Code} {D : va_G} {cA : Nat → ClassId} {B : Nat} {res : Int × HP} {k4 : HP → Int → Int → Int → Int → Option (Int × HP)} (hk4 : ∀ {ls : Array Slot} {H : Heap} {locs : List Loc} {S : HP} {x0 : Int} {x1 : Int} {x2 : Int} {x3 : Int} (hp : e_Pic D cA B S s H) (hS : va_S (e_A B) s.heap H locs) (hl : e_lo ls 4 [(0, e_rv B (x0)), (1, .int (iI (x1))), (2, .int (iI (x2))), (3, .int (iI (x3)))]) (hsh : k4 S x0 x1 x2 x3 = some res), W p l e ({ frames := 1, cells := 0, slots := 0, locals := 25 } : Room) s m args below meth c H locs 0 0 (MQ below (e_Qi D cA B res.1 res.2) args s 0 0 (e_A B)) (F0 m 4 ls [])) (E : e_En p s m args meth c cX13_spansQuotes RX13 4 (some .boolean)) {ls : Array Slot} {H : Heap} {locs : List Loc} {S : HP} {x0 : Int} {x1 : Int} {x2 : Int} {x3 : Int} (hp : e_Pic D cA B S s H) (hS : va_S (e_A B) s.heap H locs) (hl : e_lo ls 4 [(0, e_rv B (x0)), (1, .int (iI (x1))), (2, .int (iI (x2))), (3, .int (iI (x3)))]) (hsh : s13_spansQuotes_b81 k4 S x0 x1 x2 x3 = some res) : W p l e ({ frames := 1, cells := 0, slots := 0, locals := 25 } : Room) s m args below meth c H locs 0 0 (MQ below (e_Qi D cA B res.1 res.2) args s 0 0 (e_A B)) (F0 m 81 ls []) := by
  obtain ⟨hx, hb, hml, hown, hts, hlk, hrt⟩ := id E
  unfold s13_spansQuotes_b81 at hsh
  refine lv_iload_n hx hb dX13_spansQuotes_81 rfl (hl.at 2 rfl) ?_
  refine lv_iconst (v := iI (-1)) hx hb dX13_spansQuotes_82 rfl ?_
  refine e_icmp_ne (tgt := 90) hx hb dX13_spansQuotes_83 (by decide) (fun c83 => ?_) (fun c83 => ?_)
  · rw [if_neg c83] at hsh
    refine lv_iconst (v := iI (-1)) hx hb dX13_spansQuotes_90 rfl ?_
    exact w13_spansQuotes_b91 (hk4 := hk4) E hp hS (hl.sub [0, 1, 3] rfl) hsh
  · rw [if_pos c83] at hsh
    refine lv_iload_n hx hb dX13_spansQuotes_86 rfl (hl.at 3 rfl) ?_
    refine lv_goto (tgt := 91) hx hb dX13_spansQuotes_87 (by decide) ?_
    exact w13_spansQuotes_b91 (hk4 := hk4) E hp hS (hl.sub [0, 1, 3] rfl) hsh
set_option maxRecDepth 100000 in
set_option maxHeartbeats 4000000 in
theorem w13_spansQuotes_b76 {p : Program} {l : Launch} {e : Env} {s : State} {m : MethodId} {args : Array Value} {below : List Frame} {meth : Method} {c : Code} {D : va_G} {cA : Nat → ClassId} {B : Nat} {res : Int × HP} (E : e_En p s m args meth c cX13_spansQuotes RX13 4 (some .boolean)) {ls : Array Slot} {H : Heap} {locs : List Loc} {S : HP} {y0 : Int} {y1 : Int} {y2 : Int} {y3 : Int} {y4 : Int} {y5 : Int} (hp : e_Pic D cA B S s H) (hS : va_S (e_A B) s.heap H locs) (hl : e_lo ls 4 []) (hsh : s13_spansQuotes_b76 S y0 y1 y2 y3 y4 y5 = some res) : W p l e ({ frames := 1, cells := 0, slots := 0, locals := 25 } : Room) s m args below meth c H locs 0 0 (MQ below (e_Qi D cA B res.1 res.2) args s 0 0 (e_A B)) (F0 m 76 ls [.int (iI (y5)), .int (iI (y4)), .int (iI (y3)), .int (iI (y2)), .int (iI (y1)), e_rv B (y0)]) := by
  obtain ⟨hx, hb, hml, hown, hts, hlk, hrt⟩ := id E
  unfold s13_spansQuotes_b76 at hsh
  obtain ⟨S76, h76, hsh⟩ := Option.bind_eq_some_iff.mp hsh
  have ok76 := ok13_spans h76
  refine e_callV (nL := 4) (mc := 0) (ms := 0) (T := TX13) (N := 126) (As := [.int (iI (y1)), .int (iI (y2)), .int (iI (y3)), .int (iI (y4)), .int (iI (y5))]) (rest := []) hx hb hml hown hts hp hS hl.size ok76.1 ok76.2.1 ok76.2.2 rfl (by decide) (c13_spans l D cA B S S76 (y0) (y1) (y2) (y3) (y4) (y5) h76) rfl rfl kd13_spans (kl13_410) ks13_spans kv13_spans ki13 kh13_spans ⟨Nat.le_of_ble_eq_true rfl, Nat.le_of_ble_eq_true rfl⟩ rfl (by simp [e_rv_cat, e_int_cat]) ⟨Nat.le_refl _, Nat.le_refl _⟩ dX13_spansQuotes_76 rfl (fun H locs hp hS => ?_)
  refine lv_iconst (v := iI (1)) hx hb dX13_spansQuotes_79 rfl ?_
  obtain ⟨hz, hz1, hz2⟩ := zR_some hsh
  rw [← hz1, ← hz2]
  exact e_zret hx hb hrt hlk hp hS hz dX13_spansQuotes_80
set_option maxRecDepth 100000 in
set_option maxHeartbeats 4000000 in
theorem w13_spansQuotes_b61 {p : Program} {l : Launch} {e : Env} {s : State} {m : MethodId} {args : Array Value} {below : List Frame} {meth : Method} {c : Code} {D : va_G} {cA : Nat → ClassId} {B : Nat} {res : Int × HP} (E : e_En p s m args meth c cX13_spansQuotes RX13 4 (some .boolean)) {ls : Array Slot} {H : Heap} {locs : List Loc} {S : HP} {x0 : Int} {x1 : Int} {x3 : Int} {y0 : Int} {y1 : Int} {y2 : Int} {y3 : Int} (hp : e_Pic D cA B S s H) (hS : va_S (e_A B) s.heap H locs) (hl : e_lo ls 4 [(0, e_rv B (x0)), (1, .int (iI (x1))), (3, .int (iI (x3)))]) (hsh : s13_spansQuotes_b61 S x0 x1 x3 y0 y1 y2 y3 = some res) : W p l e ({ frames := 1, cells := 0, slots := 0, locals := 25 } : Room) s m args below meth c H locs 0 0 (MQ below (e_Qi D cA B res.1 res.2) args s 0 0 (e_A B)) (F0 m 61 ls [.int (iI (y3)), .int (iI (y2)), .int (iI (y1)), e_rv B (y0)]) := by
  obtain ⟨hx, hb, hml, hown, hts, hlk, hrt⟩ := id E
  unfold s13_spansQuotes_b61 at hsh
  refine e_aload_n (B := B) (x := x0) hx hb dX13_spansQuotes_61 rfl (hl.at 0 rfl) ?_
  obtain ⟨v62, h62, hsh⟩ := Option.bind_eq_some_iff.mp hsh
  refine e_getI (k := 5) hx hb hts in_X13 hown hp h62 rfl (by decide) (by decide) rfl (hts _ kf13_213) rfl dX13_spansQuotes_62 ?_
  refine lv_iload_n hx hb dX13_spansQuotes_65 rfl (hl.at 1 rfl) ?_
  refine e_if_eq (tgt := 75) hx hb dX13_spansQuotes_66 (by decide) (fun c66 => ?_) (fun c66 => ?_)
  · rw [if_pos c66] at hsh
    refine lv_iload_n hx hb dX13_spansQuotes_75 rfl (hl.at 2 rfl) ?_
    exact w13_spansQuotes_b76 E hp hS (hl.sub [] rfl) hsh
  · rw [if_neg c66] at hsh
    refine lv_iload_n hx hb dX13_spansQuotes_69 rfl (hl.at 2 rfl) ?_
    refine lv_iconst (v := iI (1)) hx hb dX13_spansQuotes_70 rfl ?_
    refine e_iadd hx hb dX13_spansQuotes_71 ?_
    refine lv_goto (tgt := 76) hx hb dX13_spansQuotes_72 (by decide) ?_
    exact w13_spansQuotes_b76 E hp hS (hl.sub [] rfl) hsh
set_option maxRecDepth 100000 in
set_option maxHeartbeats 4000000 in
theorem w13_spansQuotes_l4 {p : Program} {l : Launch} {e : Env} {s : State} {m : MethodId} {args : Array Value} {below : List Frame} {meth : Method} {c : Code} {D : va_G} {cA : Nat → ClassId} {B : Nat} {res : Int × HP} (E : e_En p s m args meth c cX13_spansQuotes RX13 4 (some .boolean)) : ∀ (f : Nat) {ls : Array Slot} {H : Heap} {locs : List Loc} {S : HP} {x0 : Int} {x1 : Int} {x2 : Int} {x3 : Int} (hp : e_Pic D cA B S s H) (hS : va_S (e_A B) s.heap H locs) (hl : e_lo ls 4 [(0, e_rv B (x0)), (1, .int (iI (x1))), (2, .int (iI (x2))), (3, .int (iI (x3)))]) (hsh : s13_spansQuotes_l4 f S x0 x1 x2 x3 = some res), W p l e ({ frames := 1, cells := 0, slots := 0, locals := 25 } : Room) s m args below meth c H locs 0 0 (MQ below (e_Qi D cA B res.1 res.2) args s 0 0 (e_A B)) (F0 m 4 ls []) := by
  obtain ⟨hx, hb, hml, hown, hts, hlk, hrt⟩ := id E
  intro f
  induction f with
  | zero => intro ls H locs S x0 x1 x2 x3 hp hS hl hsh; cases hsh
  | succ f ih =>
    intro ls H locs S x0 x1 x2 x3 hp hS hl hsh
    have hk4 : ∀ {ls : Array Slot} {H : Heap} {locs : List Loc} {S : HP} {x0 : Int} {x1 : Int} {x2 : Int} {x3 : Int} (hp : e_Pic D cA B S s H) (hS : va_S (e_A B) s.heap H locs) (hl : e_lo ls 4 [(0, e_rv B (x0)), (1, .int (iI (x1))), (2, .int (iI (x2))), (3, .int (iI (x3)))]) (hsh : (s13_spansQuotes_l4 f) S x0 x1 x2 x3 = some res), W p l e ({ frames := 1, cells := 0, slots := 0, locals := 25 } : Room) s m args below meth c H locs 0 0 (MQ below (e_Qi D cA B res.1 res.2) args s 0 0 (e_A B)) (F0 m 4 ls []) := ih
    generalize hkk : s13_spansQuotes_l4 f = k4 at hk4
    rw [s13_spansQuotes_l4] at hsh
    rw [hkk] at hsh
    try dsimp only at hsh
    refine lv_iload_n hx hb dX13_spansQuotes_4 rfl (hl.at 3 rfl) ?_
    refine e_aload_n (B := B) (x := x0) hx hb dX13_spansQuotes_5 rfl (hl.at 0 rfl) ?_
    obtain ⟨v6, h6, hsh⟩ := Option.bind_eq_some_iff.mp hsh
    refine e_getR (k := 3) hx hb hts in_X13 hown hp h6 rfl (by decide) (by decide) rfl (hts _ kf13_17) rfl dX13_spansQuotes_6 ?_
    refine e_aload_n (B := B) (x := x0) hx hb dX13_spansQuotes_9 rfl (hl.at 0 rfl) ?_
    obtain ⟨v10, h10, hsh⟩ := Option.bind_eq_some_iff.mp hsh
    refine e_getI (k := 5) hx hb hts in_X13 hown hp h10 rfl (by decide) (by decide) rfl (hts _ kf13_213) rfl dX13_spansQuotes_10 ?_
    obtain ⟨v13, h13, hsh⟩ := Option.bind_eq_some_iff.mp hsh
    refine e_iald hx hb hp h13 dX13_spansQuotes_13 ?_
    refine e_icmp_ge (tgt := 98) hx hb dX13_spansQuotes_14 (by decide) (fun c14 => ?_) (fun c14 => ?_)
    · rw [if_pos c14] at hsh
      refine lv_iconst (v := iI (0)) hx hb dX13_spansQuotes_98 rfl ?_
      obtain ⟨hz, hz1, hz2⟩ := zR_some hsh
      rw [← hz1, ← hz2]
      exact e_zret hx hb hrt hlk hp hS hz dX13_spansQuotes_99
    · rw [if_neg c14] at hsh
      refine e_aload_n (B := B) (x := x0) hx hb dX13_spansQuotes_17 rfl (hl.at 0 rfl) ?_
      refine e_aload_n (B := B) (x := x0) hx hb dX13_spansQuotes_18 rfl (hl.at 0 rfl) ?_
      obtain ⟨v19, h19, hsh⟩ := Option.bind_eq_some_iff.mp hsh
      refine e_getI (k := 5) hx hb hts in_X13 hown hp h19 rfl (by decide) (by decide) rfl (hts _ kf13_213) rfl dX13_spansQuotes_19 ?_
      refine lv_iload_n hx hb dX13_spansQuotes_22 rfl (hl.at 3 rfl) ?_
      obtain ⟨⟨v23, S23⟩, h23, hsh⟩ := Option.bind_eq_some_iff.mp hsh
      have hsh : _ = _ := hsh
      try dsimp only at hsh
      have ok23 := ok13_at h23
      refine e_callI (nL := 4) (mc := 0) (ms := 0) (T := TX13) (N := 126) (As := [.int (iI (v19)), .int (iI (x3))]) (rest := []) hx hb hml hown hts hp hS hl.size ok23.1 ok23.2.1 ok23.2.2 rfl (by decide) (c13_at l D cA B S S23 (x0) (v19) (x3) v23 h23) rfl rfl kd13_at (kl13_206) ks13_at kv13_at ki13 kh13_at ⟨Nat.le_of_ble_eq_true rfl, Nat.le_of_ble_eq_true rfl⟩ rfl (by simp [e_rv_cat, e_int_cat]) ⟨Nat.le_refl _, Nat.le_refl _⟩ dX13_spansQuotes_23 rfl (fun H locs hp hS => ?_)
      refine lv_bipush (v := iI (34)) hx hb dX13_spansQuotes_26 (by decide +kernel) ?_
      refine e_icmp_ne (tgt := 92) hx hb dX13_spansQuotes_28 (by decide) (fun c28 => ?_) (fun c28 => ?_)
      · rw [if_neg c28] at hsh
        exact w13_spansQuotes_b92 (hk4 := hk4) E hp hS (hl.sub [0, 1, 2, 3] rfl) hsh
      · rw [if_pos c28] at hsh
        refine lv_iload_n hx hb dX13_spansQuotes_31 rfl (hl.at 2 rfl) ?_
        refine lv_iconst (v := iI (-1)) hx hb dX13_spansQuotes_32 rfl ?_
        refine e_icmp_eq (tgt := 81) hx hb dX13_spansQuotes_33 (by decide) (fun c33 => ?_) (fun c33 => ?_)
        · rw [if_pos c33] at hsh
          exact w13_spansQuotes_b81 (hk4 := hk4) E hp hS (hl.sub [0, 1, 2, 3] rfl) hsh
        · rw [if_neg c33] at hsh
          refine lv_iload_n hx hb dX13_spansQuotes_36 rfl (hl.at 3 rfl) ?_
          refine e_aload_n (B := B) (x := x0) hx hb dX13_spansQuotes_37 rfl (hl.at 0 rfl) ?_
          obtain ⟨v38, h38, hsh⟩ := Option.bind_eq_some_iff.mp hsh
          refine e_getI (k := 6) hx hb hts in_X13 hown hp h38 rfl (by decide) (by decide) rfl (hts _ kf13_216) rfl dX13_spansQuotes_38 ?_
          refine e_icmp_lt (tgt := 81) hx hb dX13_spansQuotes_41 (by decide) (fun c41 => ?_) (fun c41 => ?_)
          · rw [if_pos c41] at hsh
            exact w13_spansQuotes_b81 (hk4 := hk4) E hp hS (hl.sub [0, 1, 2, 3] rfl) hsh
          · rw [if_neg c41] at hsh
            refine e_aload_n (B := B) (x := x0) hx hb dX13_spansQuotes_44 rfl (hl.at 0 rfl) ?_
            refine lv_iconst (v := iI (1)) hx hb dX13_spansQuotes_45 rfl ?_
            refine e_aload_n (B := B) (x := x0) hx hb dX13_spansQuotes_46 rfl (hl.at 0 rfl) ?_
            obtain ⟨v47, h47, hsh⟩ := Option.bind_eq_some_iff.mp hsh
            refine e_getI (k := 5) hx hb hts in_X13 hown hp h47 rfl (by decide) (by decide) rfl (hts _ kf13_213) rfl dX13_spansQuotes_47 ?_
            refine lv_iload_n hx hb dX13_spansQuotes_50 rfl (hl.at 1 rfl) ?_
            refine e_if_eq (tgt := 58) hx hb dX13_spansQuotes_51 (by decide) (fun c51 => ?_) (fun c51 => ?_)
            · rw [if_pos c51] at hsh
              refine lv_iload_n hx hb dX13_spansQuotes_58 rfl (hl.at 2 rfl) ?_
              refine lv_iconst (v := iI (1)) hx hb dX13_spansQuotes_59 rfl ?_
              refine e_iadd hx hb dX13_spansQuotes_60 ?_
              exact w13_spansQuotes_b61 E hp hS (hl.sub [0, 1, 3] rfl) hsh
            · rw [if_neg c51] at hsh
              refine lv_iload_n hx hb dX13_spansQuotes_54 rfl (hl.at 2 rfl) ?_
              refine lv_goto (tgt := 61) hx hb dX13_spansQuotes_55 (by decide) ?_
              exact w13_spansQuotes_b61 E hp hS (hl.sub [0, 1, 3] rfl) hsh
set_option maxRecDepth 100000 in
set_option maxHeartbeats 4000000 in
theorem c13_spansQuotes (l : Launch) (D : va_G) (cA : Nat → ClassId) (B : Nat) (S S' : HP) (x0 : Int) (x1 : Int) (r : Int) (hsh : s13_spansQuotes S x0 x1 = some (r, S')) : Met l yX13_spansQuotes (e_wu yX13_spansQuotes cX13_spansQuotes 4 (some .boolean)) ({ frames := 1, cells := 0, slots := 0, locals := 25 } : Room) (va_Pc [e_rv B (x0), .int (iI (x1))] (fun U => e_PU D cA B S U)) (e_Qi D cA B r S') 0 0 (e_A B) := by
  refine Met.ofW (cc := cX13_spansQuotes) (maxL := 4) (ret := (some .boolean)) (by decide +kernel) rfl ?_
  intro p e s m args below meth c s₁ Bd hml hv
  obtain ⟨rfl, hp⟩ := hv
  have hp : e_Pic D cA B S s s.heap := hp
  have hx := Bd.exec
  have hb := Bd.bytes
  have hrt := Bd.returns
  have hlk := Bd.notSynchronized
  have hown : s.vm.findClass RX13 = some m.cls := findClass_of_methodNamed Bd.named
  have hts : ∀ w ∈ e_tb, w.before ([e_rv B (x0), .int (iI (x1))] : List Value).toArray s = true := fun w h => atoms_spec (ws := (e_wu yX13_spansQuotes cX13_spansQuotes 4 (some .boolean))) Bd.pre w (List.mem_cons_of_mem _ h)
  have E : e_En p s m ([e_rv B (x0), .int (iI (x1))] : List Value).toArray meth c cX13_spansQuotes RX13 4 (some .boolean) := ⟨hx, hb, hml, hown, hts, hlk, hrt⟩
  have hS : va_S (e_A B) s.heap s.heap [] := va_S.rf
  have hl := e_entry (vs := [e_rv B (x0), .int (iI (x1))]) (n := 4) (Nat.le_of_ble_eq_true rfl) (e_cc (e_rv_cat _ _) (e_cc rfl e_cn))
  rw [lg_entry_eq]
  generalize (lg_sl [e_rv B (x0), .int (iI (x1))] ++ List.replicate (4 - (lg_sl [e_rv B (x0), .int (iI (x1))]).length) Slot.unset).toArray = ls at hl ⊢
  generalize ([e_rv B (x0), .int (iI (x1))] : List Value).toArray = args at hts E ⊢
  have hl : e_lo ls 4 [(0, e_rv B (x0)), (1, .int (iI (x1)))] := hl
  have hsh := (gd_some hsh).2
  refine lv_iconst (v := iI (-1)) hx hb dX13_spansQuotes_0 rfl ?_
  refine e_istore_n (lv' := [(2, .int (iI ((-1)))), (0, e_rv B (x0)), (1, .int (iI (x1)))]) hx hb dX13_spansQuotes_1 rfl hl (by decide) rfl (fun ls hl => ?_)
  refine lv_iconst (v := iI (0)) hx hb dX13_spansQuotes_2 rfl ?_
  refine e_istore_n (lv' := [(3, .int (iI (0))), (2, .int (iI ((-1)))), (0, e_rv B (x0)), (1, .int (iI (x1)))]) hx hb dX13_spansQuotes_3 rfl hl (by decide) rfl (fun ls hl => ?_)
  exact w13_spansQuotes_l4 E 1000000 hp hS (hl.sub [2, 3, 1, 0] rfl) hsh
theorem ok13_spansBrackets {S : HP} {x0 : Int} {x1 : Int} {x2 : Int} {x3 : Int} {r : Int × HP} (h : s13_spansBrackets S x0 x1 x2 x3 = some r) : 0 ≤ x0 ∧ x0.toNat < e_n S ∧ e_g S x0.toNat = 13 := (gd_some h).1
set_option maxRecDepth 100000 in
set_option maxHeartbeats 4000000 in
theorem w13_spansBrackets_b179 {p : Program} {l : Launch} {e : Env} {s : State} {m : MethodId} {args : Array Value} {below : List Frame} {meth : Method} {c : Code} {D : va_G} {cA : Nat → ClassId} {B : Nat} {res : Int × HP} (E : e_En p s m args meth c cX13_spansBrackets RX13 9 (some .boolean)) {ls : Array Slot} {H : Heap} {locs : List Loc} {S : HP} {y0 : Int} {y1 : Int} {y2 : Int} {y3 : Int} {y4 : Int} {y5 : Int} (hp : e_Pic D cA B S s H) (hS : va_S (e_A B) s.heap H locs) (hl : e_lo ls 9 []) (hsh : s13_spansBrackets_b179 S y0 y1 y2 y3 y4 y5 = some res) : W p l e ({ frames := 3, cells := 0, slots := 0, locals := 64 } : Room) s m args below meth c H locs 0 0 (MQ below (e_Qi D cA B res.1 res.2) args s 0 0 (e_A B)) (F0 m 179 ls [.int (iI (y5)), .int (iI (y4)), .int (iI (y3)), .int (iI (y2)), .int (iI (y1)), e_rv B (y0)]) := by
  obtain ⟨hx, hb, hml, hown, hts, hlk, hrt⟩ := id E
  unfold s13_spansBrackets_b179 at hsh
  obtain ⟨S179, h179, hsh⟩ := Option.bind_eq_some_iff.mp hsh
  have ok179 := ok13_spans h179
  refine e_callV (nL := 9) (mc := 0) (ms := 0) (T := TX13) (N := 126) (As := [.int (iI (y1)), .int (iI (y2)), .int (iI (y3)), .int (iI (y4)), .int (iI (y5))]) (rest := []) hx hb hml hown hts hp hS hl.size ok179.1 ok179.2.1 ok179.2.2 rfl (by decide) (c13_spans l D cA B S S179 (y0) (y1) (y2) (y3) (y4) (y5) h179) rfl rfl kd13_spans (kl13_410) ks13_spans kv13_spans ki13 kh13_spans ⟨Nat.le_of_ble_eq_true rfl, Nat.le_of_ble_eq_true rfl⟩ rfl (by simp [e_rv_cat, e_int_cat]) ⟨Nat.le_refl _, Nat.le_refl _⟩ dX13_spansBrackets_179 rfl (fun H locs hp hS => ?_)
  refine lv_iconst (v := iI (1)) hx hb dX13_spansBrackets_182 rfl ?_
  obtain ⟨hz, hz1, hz2⟩ := zR_some hsh
  rw [← hz1, ← hz2]
  exact e_zret hx hb hrt hlk hp hS hz dX13_spansBrackets_183
set_option maxRecDepth 100000 in
set_option maxHeartbeats 4000000 in
theorem w13_spansBrackets_b158 {p : Program} {l : Launch} {e : Env} {s : State} {m : MethodId} {args : Array Value} {below : List Frame} {meth : Method} {c : Code} {D : va_G} {cA : Nat → ClassId} {B : Nat} {res : Int × HP} (E : e_En p s m args meth c cX13_spansBrackets RX13 9 (some .boolean)) {ls : Array Slot} {H : Heap} {locs : List Loc} {S : HP} {x0 : Int} {x2 : Int} {y0 : Int} {y1 : Int} {y2 : Int} {y3 : Int} (hp : e_Pic D cA B S s H) (hS : va_S (e_A B) s.heap H locs) (hl : e_lo ls 9 [(0, e_rv B (x0)), (2, .int (iI (x2)))]) (hsh : s13_spansBrackets_b158 S x0 x2 y0 y1 y2 y3 = some res) : W p l e ({ frames := 3, cells := 0, slots := 0, locals := 64 } : Room) s m args below meth c H locs 0 0 (MQ below (e_Qi D cA B res.1 res.2) args s 0 0 (e_A B)) (F0 m 158 ls [.int (iI (y3)), .int (iI (y2)), .int (iI (y1)), e_rv B (y0)]) := by
  obtain ⟨hx, hb, hml, hown, hts, hlk, hrt⟩ := id E
  unfold s13_spansBrackets_b158 at hsh
  refine e_aload_n (B := B) (x := x0) hx hb dX13_spansBrackets_158 rfl (hl.at 0 rfl) ?_
  obtain ⟨v159, h159, hsh⟩ := Option.bind_eq_some_iff.mp hsh
  refine e_getI (k := 46) hx hb hts in_X13 hown hp h159 rfl (by decide) (by decide) rfl (hts _ kf13_296) rfl dX13_spansBrackets_159 ?_
  refine lv_iload_n hx hb dX13_spansBrackets_162 rfl (hl.at 1 rfl) ?_
  refine e_if_eq (tgt := 175) hx hb dX13_spansBrackets_163 (by decide) (fun c163 => ?_) (fun c163 => ?_)
  · rw [if_pos c163] at hsh
    refine e_aload_n (B := B) (x := x0) hx hb dX13_spansBrackets_175 rfl (hl.at 0 rfl) ?_
    obtain ⟨v176, h176, hsh⟩ := Option.bind_eq_some_iff.mp hsh
    refine e_getI (k := 47) hx hb hts in_X13 hown hp h176 rfl (by decide) (by decide) rfl (hts _ kf13_299) rfl dX13_spansBrackets_176 ?_
    exact w13_spansBrackets_b179 E hp hS (hl.sub [] rfl) hsh
  · rw [if_neg c163] at hsh
    refine e_aload_n (B := B) (x := x0) hx hb dX13_spansBrackets_166 rfl (hl.at 0 rfl) ?_
    obtain ⟨v167, h167, hsh⟩ := Option.bind_eq_some_iff.mp hsh
    refine e_getI (k := 47) hx hb hts in_X13 hown hp h167 rfl (by decide) (by decide) rfl (hts _ kf13_299) rfl dX13_spansBrackets_167 ?_
    refine lv_iconst (v := iI (1)) hx hb dX13_spansBrackets_170 rfl ?_
    refine e_iadd hx hb dX13_spansBrackets_171 ?_
    refine lv_goto (tgt := 179) hx hb dX13_spansBrackets_172 (by decide) ?_
    exact w13_spansBrackets_b179 E hp hS (hl.sub [] rfl) hsh
set_option maxRecDepth 100000 in
set_option maxHeartbeats 4000000 in
theorem w13_spansBrackets_b115 {p : Program} {l : Launch} {e : Env} {s : State} {m : MethodId} {args : Array Value} {below : List Frame} {meth : Method} {c : Code} {D : va_G} {cA : Nat → ClassId} {B : Nat} {res : Int × HP} (E : e_En p s m args meth c cX13_spansBrackets RX13 9 (some .boolean)) {ls : Array Slot} {H : Heap} {locs : List Loc} {S : HP} {x0 : Int} {x1 : Int} {x2 : Int} {x4 : Int} (hp : e_Pic D cA B S s H) (hS : va_S (e_A B) s.heap H locs) (hl : e_lo ls 9 [(0, e_rv B (x0)), (1, .int (iI (x1))), (2, .int (iI (x2))), (4, .int (iI (x4)))]) (hsh : s13_spansBrackets_b115 S x0 x1 x2 x4 = some res) : W p l e ({ frames := 3, cells := 0, slots := 0, locals := 64 } : Room) s m args below meth c H locs 0 0 (MQ below (e_Qi D cA B res.1 res.2) args s 0 0 (e_A B)) (F0 m 115 ls []) := by
  obtain ⟨hx, hb, hml, hown, hts, hlk, hrt⟩ := id E
  unfold s13_spansBrackets_b115 at hsh
  refine e_aload_n (B := B) (x := x0) hx hb dX13_spansBrackets_115 rfl (hl.at 0 rfl) ?_
  obtain ⟨v116, h116, hsh⟩ := Option.bind_eq_some_iff.mp hsh
  refine e_getI (k := 46) hx hb hts in_X13 hown hp h116 rfl (by decide) (by decide) rfl (hts _ kf13_296) rfl dX13_spansBrackets_116 ?_
  refine e_istore (lv' := [(7, .int (iI (v116))), (0, e_rv B (x0)), (1, .int (iI (x1))), (2, .int (iI (x2))), (4, .int (iI (x4)))]) hx hb dX13_spansBrackets_119 hl (by decide) rfl (fun ls hl => ?_)
  refine e_aload_n (B := B) (x := x0) hx hb dX13_spansBrackets_121 rfl (hl.at 1 rfl) ?_
  obtain ⟨v122, h122, hsh⟩ := Option.bind_eq_some_iff.mp hsh
  refine e_getI (k := 47) hx hb hts in_X13 hown hp h122 rfl (by decide) (by decide) rfl (hts _ kf13_299) rfl dX13_spansBrackets_122 ?_
  refine e_istore (lv' := [(8, .int (iI (v122))), (7, .int (iI (v116))), (0, e_rv B (x0)), (1, .int (iI (x1))), (2, .int (iI (x2))), (4, .int (iI (x4)))]) hx hb dX13_spansBrackets_125 hl (by decide) rfl (fun ls hl => ?_)
  refine e_aload_n (B := B) (x := x0) hx hb dX13_spansBrackets_127 rfl (hl.at 2 rfl) ?_
  refine lv_iload_n hx hb dX13_spansBrackets_128 rfl (hl.at 3 rfl) ?_
  refine lv_iload hx hb dX13_spansBrackets_129 (hl.at 5 rfl) ?_
  refine lv_iconst (v := iI (1)) hx hb dX13_spansBrackets_131 rfl ?_
  refine lv_iconst (v := iI (1)) hx hb dX13_spansBrackets_132 rfl ?_
  obtain ⟨⟨v133, S133⟩, h133, hsh⟩ := Option.bind_eq_some_iff.mp hsh
  have hsh : _ = _ := hsh
  try dsimp only at hsh
  have ok133 := ok13_goesMatch h133
  refine e_callI (nL := 9) (mc := 0) (ms := 0) (T := TX13) (N := 126) (As := [.int (iI (x1)), .int (iI (x4)), .int (iI (1)), .int (iI (1))]) (rest := []) hx hb hml hown hts hp hS hl.size ok133.1 ok133.2.1 ok133.2.2 rfl (by decide) (c13_goesMatch l D cA B S S133 (x0) (x1) (x4) (1) (1) v133 h133) rfl rfl kd13_goesMatch (kl13_339) ks13_goesMatch kv13_goesMatch ki13 kh13_goesMatch ⟨Nat.le_of_ble_eq_true rfl, Nat.le_of_ble_eq_true rfl⟩ rfl (by simp [e_rv_cat, e_int_cat]) ⟨Nat.le_refl _, Nat.le_refl _⟩ dX13_spansBrackets_133 rfl (fun H locs hp hS => ?_)
  refine e_if_ne (tgt := 141) hx hb dX13_spansBrackets_136 (by decide) (fun c136 => ?_) (fun c136 => ?_)
  · rw [if_neg c136] at hsh
    refine e_aload_n (B := B) (x := x0) hx hb dX13_spansBrackets_141 rfl (hl.at 2 rfl) ?_
    refine lv_iconst (v := iI (1)) hx hb dX13_spansBrackets_142 rfl ?_
    refine lv_iload hx hb dX13_spansBrackets_143 (hl.at 1 rfl) ?_
    refine lv_iload_n hx hb dX13_spansBrackets_145 rfl (hl.at 4 rfl) ?_
    refine e_if_eq (tgt := 154) hx hb dX13_spansBrackets_146 (by decide) (fun c146 => ?_) (fun c146 => ?_)
    · rw [if_pos c146] at hsh
      refine lv_iload hx hb dX13_spansBrackets_154 (hl.at 0 rfl) ?_
      refine lv_iconst (v := iI (1)) hx hb dX13_spansBrackets_156 rfl ?_
      refine e_iadd hx hb dX13_spansBrackets_157 ?_
      exact w13_spansBrackets_b158 E hp hS (hl.sub [2, 4] rfl) hsh
    · rw [if_neg c146] at hsh
      refine lv_iload hx hb dX13_spansBrackets_149 (hl.at 0 rfl) ?_
      refine lv_goto (tgt := 158) hx hb dX13_spansBrackets_151 (by decide) ?_
      exact w13_spansBrackets_b158 E hp hS (hl.sub [2, 4] rfl) hsh
  · rw [if_pos c136] at hsh
    refine lv_iconst (v := iI (0)) hx hb dX13_spansBrackets_139 rfl ?_
    obtain ⟨hz, hz1, hz2⟩ := zR_some hsh
    rw [← hz1, ← hz2]
    exact e_zret hx hb hrt hlk hp hS hz dX13_spansBrackets_140
set_option maxRecDepth 100000 in
set_option maxHeartbeats 4000000 in
theorem w13_spansBrackets_b95 {p : Program} {l : Launch} {e : Env} {s : State} {m : MethodId} {args : Array Value} {below : List Frame} {meth : Method} {c : Code} {D : va_G} {cA : Nat → ClassId} {B : Nat} {res : Int × HP} (E : e_En p s m args meth c cX13_spansBrackets RX13 9 (some .boolean)) {ls : Array Slot} {H : Heap} {locs : List Loc} {S : HP} {x0 : Int} {x1 : Int} {x2 : Int} {x4 : Int} {x6 : Int} (hp : e_Pic D cA B S s H) (hS : va_S (e_A B) s.heap H locs) (hl : e_lo ls 9 [(0, e_rv B (x0)), (1, .int (iI (x1))), (2, .int (iI (x2))), (4, .int (iI (x4))), (6, .int (iI (x6)))]) (hsh : s13_spansBrackets_b95 S x0 x1 x2 x4 x6 = some res) : W p l e ({ frames := 3, cells := 0, slots := 0, locals := 64 } : Room) s m args below meth c H locs 0 0 (MQ below (e_Qi D cA B res.1 res.2) args s 0 0 (e_A B)) (F0 m 95 ls []) := by
  obtain ⟨hx, hb, hml, hown, hts, hlk, hrt⟩ := id E
  unfold s13_spansBrackets_b95 at hsh
  refine lv_iload hx hb dX13_spansBrackets_95 (hl.at 4 rfl) ?_
  refine e_if_le (tgt := 115) hx hb dX13_spansBrackets_97 (by decide) (fun c97 => ?_) (fun c97 => ?_)
  · rw [if_pos c97] at hsh
    exact w13_spansBrackets_b115 E hp hS (hl.sub [0, 1, 2, 3] rfl) hsh
  · rw [if_neg c97] at hsh
    refine e_aload_n (B := B) (x := x0) hx hb dX13_spansBrackets_100 rfl (hl.at 0 rfl) ?_
    refine lv_iload hx hb dX13_spansBrackets_101 (hl.at 3 rfl) ?_
    refine lv_iload_n hx hb dX13_spansBrackets_103 rfl (hl.at 1 rfl) ?_
    refine lv_iconst (v := iI (-1)) hx hb dX13_spansBrackets_104 rfl ?_
    refine lv_iload hx hb dX13_spansBrackets_105 (hl.at 4 rfl) ?_
    obtain ⟨⟨v107, S107⟩, h107, hsh⟩ := Option.bind_eq_some_iff.mp hsh
    have hsh : _ = _ := hsh
    try dsimp only at hsh
    have ok107 := ok13_goesMatch h107
    refine e_callI (nL := 9) (mc := 0) (ms := 0) (T := TX13) (N := 126) (As := [.int (iI (x4)), .int (iI (x1)), .int (iI ((-1))), .int (iI (x6))]) (rest := []) hx hb hml hown hts hp hS hl.size ok107.1 ok107.2.1 ok107.2.2 rfl (by decide) (c13_goesMatch l D cA B S S107 (x0) (x4) (x1) ((-1)) (x6) v107 h107) rfl rfl kd13_goesMatch (kl13_339) ks13_goesMatch kv13_goesMatch ki13 kh13_goesMatch ⟨Nat.le_of_ble_eq_true rfl, Nat.le_of_ble_eq_true rfl⟩ rfl (by simp [e_rv_cat, e_int_cat]) ⟨Nat.le_refl _, Nat.le_refl _⟩ dX13_spansBrackets_107 rfl (fun H locs hp hS => ?_)
    refine e_if_ne (tgt := 115) hx hb dX13_spansBrackets_110 (by decide) (fun c110 => ?_) (fun c110 => ?_)
    · rw [if_neg c110] at hsh
      exact w13_spansBrackets_b115 E hp hS (hl.sub [0, 1, 2, 3] rfl) hsh
    · rw [if_pos c110] at hsh
      refine lv_iconst (v := iI (0)) hx hb dX13_spansBrackets_113 rfl ?_
      obtain ⟨hz, hz1, hz2⟩ := zR_some hsh
      rw [← hz1, ← hz2]
      exact e_zret hx hb hrt hlk hp hS hz dX13_spansBrackets_114
set_option maxRecDepth 100000 in
set_option maxHeartbeats 4000000 in
theorem w13_spansBrackets_b72 {p : Program} {l : Launch} {e : Env} {s : State} {m : MethodId} {args : Array Value} {below : List Frame} {meth : Method} {c : Code} {D : va_G} {cA : Nat → ClassId} {B : Nat} {res : Int × HP} (E : e_En p s m args meth c cX13_spansBrackets RX13 9 (some .boolean)) {ls : Array Slot} {H : Heap} {locs : List Loc} {S : HP} {x0 : Int} {x1 : Int} {x2 : Int} {x4 : Int} {x5 : Int} {y0 : Int} (hp : e_Pic D cA B S s H) (hS : va_S (e_A B) s.heap H locs) (hl : e_lo ls 9 [(0, e_rv B (x0)), (1, .int (iI (x1))), (2, .int (iI (x2))), (4, .int (iI (x4))), (5, .int (iI (x5)))]) (hsh : s13_spansBrackets_b72 S x0 x1 x2 x4 x5 y0 = some res) : W p l e ({ frames := 3, cells := 0, slots := 0, locals := 64 } : Room) s m args below meth c H locs 0 0 (MQ below (e_Qi D cA B res.1 res.2) args s 0 0 (e_A B)) (F0 m 72 ls [.int (iI (y0))]) := by
  obtain ⟨hx, hb, hml, hown, hts, hlk, hrt⟩ := id E
  unfold s13_spansBrackets_b72 at hsh
  refine e_istore (lv' := [(6, .int (iI (y0))), (0, e_rv B (x0)), (1, .int (iI (x1))), (2, .int (iI (x2))), (4, .int (iI (x4))), (5, .int (iI (x5)))]) hx hb dX13_spansBrackets_72 hl (by decide) rfl (fun ls hl => ?_)
  refine lv_iload hx hb dX13_spansBrackets_74 (hl.at 5 rfl) ?_
  refine lv_iload hx hb dX13_spansBrackets_76 (hl.at 4 rfl) ?_
  refine e_icmp_ne (tgt := 95) hx hb dX13_spansBrackets_78 (by decide) (fun c78 => ?_) (fun c78 => ?_)
  · rw [if_neg c78] at hsh
    exact w13_spansBrackets_b95 E hp hS (hl.sub [1, 2, 3, 4, 0] rfl) hsh
  · rw [if_pos c78] at hsh
    refine e_aload_n (B := B) (x := x0) hx hb dX13_spansBrackets_81 rfl (hl.at 1 rfl) ?_
    refine lv_iload hx hb dX13_spansBrackets_82 (hl.at 4 rfl) ?_
    refine lv_iload_n hx hb dX13_spansBrackets_84 rfl (hl.at 2 rfl) ?_
    refine lv_iconst (v := iI (-1)) hx hb dX13_spansBrackets_85 rfl ?_
    refine lv_iconst (v := iI (1)) hx hb dX13_spansBrackets_86 rfl ?_
    obtain ⟨⟨v87, S87⟩, h87, hsh⟩ := Option.bind_eq_some_iff.mp hsh
    have hsh : _ = _ := hsh
    try dsimp only at hsh
    have ok87 := ok13_goesMatch h87
    refine e_callI (nL := 9) (mc := 0) (ms := 0) (T := TX13) (N := 126) (As := [.int (iI (x4)), .int (iI (x1)), .int (iI ((-1))), .int (iI (1))]) (rest := []) hx hb hml hown hts hp hS hl.size ok87.1 ok87.2.1 ok87.2.2 rfl (by decide) (c13_goesMatch l D cA B S S87 (x0) (x4) (x1) ((-1)) (1) v87 h87) rfl rfl kd13_goesMatch (kl13_339) ks13_goesMatch kv13_goesMatch ki13 kh13_goesMatch ⟨Nat.le_of_ble_eq_true rfl, Nat.le_of_ble_eq_true rfl⟩ rfl (by simp [e_rv_cat, e_int_cat]) ⟨Nat.le_refl _, Nat.le_refl _⟩ dX13_spansBrackets_87 rfl (fun H locs hp hS => ?_)
    refine e_if_ne (tgt := 95) hx hb dX13_spansBrackets_90 (by decide) (fun c90 => ?_) (fun c90 => ?_)
    · rw [if_neg c90] at hsh
      exact w13_spansBrackets_b95 E hp hS (hl.sub [1, 2, 3, 4, 0] rfl) hsh
    · rw [if_pos c90] at hsh
      refine lv_iconst (v := iI (0)) hx hb dX13_spansBrackets_93 rfl ?_
      obtain ⟨hz, hz1, hz2⟩ := zR_some hsh
      rw [← hz1, ← hz2]
      exact e_zret hx hb hrt hlk hp hS hz dX13_spansBrackets_94
set_option maxRecDepth 100000 in
set_option maxHeartbeats 4000000 in
theorem w13_spansBrackets_b65 {p : Program} {l : Launch} {e : Env} {s : State} {m : MethodId} {args : Array Value} {below : List Frame} {meth : Method} {c : Code} {D : va_G} {cA : Nat → ClassId} {B : Nat} {res : Int × HP} (E : e_En p s m args meth c cX13_spansBrackets RX13 9 (some .boolean)) {ls : Array Slot} {H : Heap} {locs : List Loc} {S : HP} {x0 : Int} {x1 : Int} {x2 : Int} {x3 : Int} {x4 : Int} {x5 : Int} (hp : e_Pic D cA B S s H) (hS : va_S (e_A B) s.heap H locs) (hl : e_lo ls 9 [(0, e_rv B (x0)), (1, .int (iI (x1))), (2, .int (iI (x2))), (3, .int (iI (x3))), (4, .int (iI (x4))), (5, .int (iI (x5)))]) (hsh : s13_spansBrackets_b65 S x0 x1 x2 x3 x4 x5 = some res) : W p l e ({ frames := 3, cells := 0, slots := 0, locals := 64 } : Room) s m args below meth c H locs 0 0 (MQ below (e_Qi D cA B res.1 res.2) args s 0 0 (e_A B)) (F0 m 65 ls []) := by
  obtain ⟨hx, hb, hml, hown, hts, hlk, hrt⟩ := id E
  unfold s13_spansBrackets_b65 at hsh
  refine lv_iload_n hx hb dX13_spansBrackets_65 rfl (hl.at 3 rfl) ?_
  refine lv_iconst (v := iI (1)) hx hb dX13_spansBrackets_66 rfl ?_
  refine e_isub hx hb dX13_spansBrackets_67 ?_
  refine lv_goto (tgt := 72) hx hb dX13_spansBrackets_68 (by decide) ?_
  exact w13_spansBrackets_b72 E hp hS (hl.sub [0, 1, 2, 4, 5] rfl) hsh
set_option maxRecDepth 100000 in
set_option maxHeartbeats 4000000 in
theorem w13_spansBrackets_b50 {p : Program} {l : Launch} {e : Env} {s : State} {m : MethodId} {args : Array Value} {below : List Frame} {meth : Method} {c : Code} {D : va_G} {cA : Nat → ClassId} {B : Nat} {res : Int × HP} (E : e_En p s m args meth c cX13_spansBrackets RX13 9 (some .boolean)) {ls : Array Slot} {H : Heap} {locs : List Loc} {S : HP} {x0 : Int} {x1 : Int} {x2 : Int} {x3 : Int} {x4 : Int} {y0 : Int} (hp : e_Pic D cA B S s H) (hS : va_S (e_A B) s.heap H locs) (hl : e_lo ls 9 [(0, e_rv B (x0)), (1, .int (iI (x1))), (2, .int (iI (x2))), (3, .int (iI (x3))), (4, .int (iI (x4)))]) (hsh : s13_spansBrackets_b50 S x0 x1 x2 x3 x4 y0 = some res) : W p l e ({ frames := 3, cells := 0, slots := 0, locals := 64 } : Room) s m args below meth c H locs 0 0 (MQ below (e_Qi D cA B res.1 res.2) args s 0 0 (e_A B)) (F0 m 50 ls [.int (iI (y0))]) := by
  obtain ⟨hx, hb, hml, hown, hts, hlk, hrt⟩ := id E
  unfold s13_spansBrackets_b50 at hsh
  refine e_istore (lv' := [(5, .int (iI (y0))), (0, e_rv B (x0)), (1, .int (iI (x1))), (2, .int (iI (x2))), (3, .int (iI (x3))), (4, .int (iI (x4)))]) hx hb dX13_spansBrackets_50 hl (by decide) rfl (fun ls hl => ?_)
  refine lv_iload hx hb dX13_spansBrackets_52 (hl.at 0 rfl) ?_
  refine lv_iload_n hx hb dX13_spansBrackets_54 rfl (hl.at 2 rfl) ?_
  refine e_icmp_eq (tgt := 65) hx hb dX13_spansBrackets_55 (by decide) (fun c55 => ?_) (fun c55 => ?_)
  · rw [if_pos c55] at hsh
    exact w13_spansBrackets_b65 E hp hS (hl.sub [1, 2, 3, 4, 5, 0] rfl) hsh
  · rw [if_neg c55] at hsh
    refine lv_iload hx hb dX13_spansBrackets_58 (hl.at 0 rfl) ?_
    refine lv_iload hx hb dX13_spansBrackets_60 (hl.at 5 rfl) ?_
    refine e_icmp_ne (tgt := 71) hx hb dX13_spansBrackets_62 (by decide) (fun c62 => ?_) (fun c62 => ?_)
    · rw [if_neg c62] at hsh
      refine lv_iload_n hx hb dX13_spansBrackets_71 rfl (hl.at 4 rfl) ?_
      exact w13_spansBrackets_b72 E hp hS (hl.sub [1, 2, 3, 5, 0] rfl) hsh
    · rw [if_pos c62] at hsh
      exact w13_spansBrackets_b65 E hp hS (hl.sub [1, 2, 3, 4, 5, 0] rfl) hsh
set_option maxRecDepth 100000 in
set_option maxHeartbeats 4000000 in
theorem c13_spansBrackets (l : Launch) (D : va_G) (cA : Nat → ClassId) (B : Nat) (S S' : HP) (x0 : Int) (x1 : Int) (x2 : Int) (x3 : Int) (r : Int) (hsh : s13_spansBrackets S x0 x1 x2 x3 = some (r, S')) : Met l yX13_spansBrackets (e_wu yX13_spansBrackets cX13_spansBrackets 9 (some .boolean)) ({ frames := 3, cells := 0, slots := 0, locals := 64 } : Room) (va_Pc [e_rv B (x0), .int (iI (x1)), .int (iI (x2)), .int (iI (x3))] (fun U => e_PU D cA B S U)) (e_Qi D cA B r S') 0 0 (e_A B) := by
  refine Met.ofW (cc := cX13_spansBrackets) (maxL := 9) (ret := (some .boolean)) (by decide +kernel) rfl ?_
  intro p e s m args below meth c s₁ Bd hml hv
  obtain ⟨rfl, hp⟩ := hv
  have hp : e_Pic D cA B S s s.heap := hp
  have hx := Bd.exec
  have hb := Bd.bytes
  have hrt := Bd.returns
  have hlk := Bd.notSynchronized
  have hown : s.vm.findClass RX13 = some m.cls := findClass_of_methodNamed Bd.named
  have hts : ∀ w ∈ e_tb, w.before ([e_rv B (x0), .int (iI (x1)), .int (iI (x2)), .int (iI (x3))] : List Value).toArray s = true := fun w h => atoms_spec (ws := (e_wu yX13_spansBrackets cX13_spansBrackets 9 (some .boolean))) Bd.pre w (List.mem_cons_of_mem _ h)
  have E : e_En p s m ([e_rv B (x0), .int (iI (x1)), .int (iI (x2)), .int (iI (x3))] : List Value).toArray meth c cX13_spansBrackets RX13 9 (some .boolean) := ⟨hx, hb, hml, hown, hts, hlk, hrt⟩
  have hS : va_S (e_A B) s.heap s.heap [] := va_S.rf
  have hl := e_entry (vs := [e_rv B (x0), .int (iI (x1)), .int (iI (x2)), .int (iI (x3))]) (n := 9) (Nat.le_of_ble_eq_true rfl) (e_cc (e_rv_cat _ _) (e_cc rfl (e_cc rfl (e_cc rfl e_cn))))
  rw [lg_entry_eq]
  generalize (lg_sl [e_rv B (x0), .int (iI (x1)), .int (iI (x2)), .int (iI (x3))] ++ List.replicate (9 - (lg_sl [e_rv B (x0), .int (iI (x1)), .int (iI (x2)), .int (iI (x3))]).length) Slot.unset).toArray = ls at hl ⊢
  generalize ([e_rv B (x0), .int (iI (x1)), .int (iI (x2)), .int (iI (x3))] : List Value).toArray = args at hts E ⊢
  have hl : e_lo ls 9 [(0, e_rv B (x0)), (1, .int (iI (x1))), (2, .int (iI (x2))), (3, .int (iI (x3)))] := hl
  have hsh := (gd_some hsh).2
  refine e_aload_n (B := B) (x := x0) hx hb dX13_spansBrackets_0 rfl (hl.at 0 rfl) ?_
  refine e_aload_n (B := B) (x := x0) hx hb dX13_spansBrackets_1 rfl (hl.at 0 rfl) ?_
  obtain ⟨v2, h2, hsh⟩ := Option.bind_eq_some_iff.mp hsh
  refine e_getI (k := 5) hx hb hts in_X13 hown hp h2 rfl (by decide) (by decide) rfl (hts _ kf13_213) rfl dX13_spansBrackets_2 ?_
  refine e_aload_n (B := B) (x := x0) hx hb dX13_spansBrackets_5 rfl (hl.at 0 rfl) ?_
  obtain ⟨v6, h6, hsh⟩ := Option.bind_eq_some_iff.mp hsh
  refine e_getI (k := 6) hx hb hts in_X13 hown hp h6 rfl (by decide) (by decide) rfl (hts _ kf13_216) rfl dX13_spansBrackets_6 ?_
  obtain ⟨S9, h9, hsh⟩ := Option.bind_eq_some_iff.mp hsh
  have ok9 := ok13_reaches h9
  refine e_callV (nL := 9) (mc := 0) (ms := 0) (T := TX13) (N := 126) (As := [.int (iI (v2)), .int (iI (v6))]) (rest := []) hx hb hml hown hts hp hS hl.size ok9.1 ok9.2.1 ok9.2.2 rfl (by decide) (c13_reaches l D cA B S S9 (x0) (v2) (v6) h9) rfl rfl kd13_reaches (kl13_306) ks13_reaches kv13_reaches ki13 kh13_reaches ⟨Nat.le_of_ble_eq_true rfl, Nat.le_of_ble_eq_true rfl⟩ rfl (by simp [e_rv_cat, e_int_cat]) ⟨Nat.le_refl _, Nat.le_refl _⟩ dX13_spansBrackets_9 rfl (fun H locs hp hS => ?_)
  refine lv_iload_n hx hb dX13_spansBrackets_12 rfl (hl.at 1 rfl) ?_
  obtain ⟨⟨v13, S13⟩, h13, hsh⟩ := Option.bind_eq_some_iff.mp hsh
  have hsh : _ = _ := hsh
  try dsimp only at hsh
  refine e_callS (nL := 9) (mc := 0) (ms := 0) (As := [.int (iI (x1))]) (rest := []) hx hb hml hown hts hp hS hl.size (c13_other l D cA B S9 S13 (x1) v13 h13) rfl rfl kd13_other (kl13_333) ks13_other ki13 kh13_other ⟨Nat.le_of_ble_eq_true rfl, Nat.le_of_ble_eq_true rfl⟩ rfl (by simp [e_rv_cat, e_int_cat]) ⟨Nat.le_refl _, Nat.le_refl _⟩ dX13_spansBrackets_13 rfl (fun H locs hp hS => ?_)
  refine e_istore (lv' := [(4, .int (iI (v13))), (0, e_rv B (x0)), (1, .int (iI (x1))), (2, .int (iI (x2))), (3, .int (iI (x3)))]) hx hb dX13_spansBrackets_16 hl (by decide) rfl (fun ls hl => ?_)
  refine e_aload_n (B := B) (x := x0) hx hb dX13_spansBrackets_18 rfl (hl.at 1 rfl) ?_
  refine e_aload_n (B := B) (x := x0) hx hb dX13_spansBrackets_19 rfl (hl.at 1 rfl) ?_
  obtain ⟨v20, h20, hsh⟩ := Option.bind_eq_some_iff.mp hsh
  refine e_getI (k := 5) hx hb hts in_X13 hown hp h20 rfl (by decide) (by decide) rfl (hts _ kf13_213) rfl dX13_spansBrackets_20 ?_
  refine e_aload_n (B := B) (x := x0) hx hb dX13_spansBrackets_23 rfl (hl.at 1 rfl) ?_
  obtain ⟨v24, h24, hsh⟩ := Option.bind_eq_some_iff.mp hsh
  refine e_getI (k := 6) hx hb hts in_X13 hown hp h24 rfl (by decide) (by decide) rfl (hts _ kf13_216) rfl dX13_spansBrackets_24 ?_
  obtain ⟨⟨v27, S27⟩, h27, hsh⟩ := Option.bind_eq_some_iff.mp hsh
  have hsh : _ = _ := hsh
  try dsimp only at hsh
  have ok27 := ok13_classAt h27
  refine e_callI (nL := 9) (mc := 0) (ms := 0) (T := TX13) (N := 126) (As := [.int (iI (v20)), .int (iI (v24))]) (rest := []) hx hb hml hown hts hp hS hl.size ok27.1 ok27.2.1 ok27.2.2 rfl (by decide) (c13_classAt l D cA B S13 S27 (x0) (v20) (v24) v27 h27) rfl rfl kd13_classAt (kl13_293) ks13_classAt kv13_classAt ki13 kh13_classAt ⟨Nat.le_of_ble_eq_true rfl, Nat.le_of_ble_eq_true rfl⟩ rfl (by simp [e_rv_cat, e_int_cat]) ⟨Nat.le_refl _, Nat.le_refl _⟩ dX13_spansBrackets_27 rfl (fun H locs hp hS => ?_)
  refine lv_iconst (v := iI (-1)) hx hb dX13_spansBrackets_30 rfl ?_
  refine e_icmp_ne (tgt := 38) hx hb dX13_spansBrackets_31 (by decide) (fun c31 => ?_) (fun c31 => ?_)
  · rw [if_neg c31] at hsh
    refine e_aload_n (B := B) (x := x0) hx hb dX13_spansBrackets_38 rfl (hl.at 1 rfl) ?_
    refine e_aload_n (B := B) (x := x0) hx hb dX13_spansBrackets_39 rfl (hl.at 1 rfl) ?_
    obtain ⟨v40, h40, hsh⟩ := Option.bind_eq_some_iff.mp hsh
    refine e_getI (k := 5) hx hb hts in_X13 hown hp h40 rfl (by decide) (by decide) rfl (hts _ kf13_213) rfl dX13_spansBrackets_40 ?_
    refine e_aload_n (B := B) (x := x0) hx hb dX13_spansBrackets_43 rfl (hl.at 1 rfl) ?_
    obtain ⟨v44, h44, hsh⟩ := Option.bind_eq_some_iff.mp hsh
    refine e_getI (k := 6) hx hb hts in_X13 hown hp h44 rfl (by decide) (by decide) rfl (hts _ kf13_216) rfl dX13_spansBrackets_44 ?_
    obtain ⟨⟨v47, S47⟩, h47, hsh⟩ := Option.bind_eq_some_iff.mp hsh
    have hsh : _ = _ := hsh
    try dsimp only at hsh
    have ok47 := ok13_at h47
    refine e_callI (nL := 9) (mc := 0) (ms := 0) (T := TX13) (N := 126) (As := [.int (iI (v40)), .int (iI (v44))]) (rest := []) hx hb hml hown hts hp hS hl.size ok47.1 ok47.2.1 ok47.2.2 rfl (by decide) (c13_at l D cA B S27 S47 (x0) (v40) (v44) v47 h47) rfl rfl kd13_at (kl13_206) ks13_at kv13_at ki13 kh13_at ⟨Nat.le_of_ble_eq_true rfl, Nat.le_of_ble_eq_true rfl⟩ rfl (by simp [e_rv_cat, e_int_cat]) ⟨Nat.le_refl _, Nat.le_refl _⟩ dX13_spansBrackets_47 rfl (fun H locs hp hS => ?_)
    exact w13_spansBrackets_b50 E hp hS (hl.sub [1, 2, 3, 4, 0] rfl) hsh
  · rw [if_pos c31] at hsh
    refine lv_iconst (v := iI (-1)) hx hb dX13_spansBrackets_34 rfl ?_
    refine lv_goto (tgt := 50) hx hb dX13_spansBrackets_35 (by decide) ?_
    exact w13_spansBrackets_b50 E hp hS (hl.sub [1, 2, 3, 4, 0] rfl) hsh
theorem ok13_isEmpty {S : HP} {x0 : Int} {x1 : Int} {r : Int × HP} (h : s13_isEmpty S x0 x1 = some r) : 0 ≤ x0 ∧ x0.toNat < e_n S ∧ e_g S x0.toNat = 13 := (gd_some h).1
set_option maxRecDepth 100000 in
set_option maxHeartbeats 4000000 in
theorem w13_isEmpty_b14 {p : Program} {l : Launch} {e : Env} {s : State} {m : MethodId} {args : Array Value} {below : List Frame} {meth : Method} {c : Code} {D : va_G} {cA : Nat → ClassId} {B : Nat} {res : Int × HP} (E : e_En p s m args meth c cX13_isEmpty RX13 2 (some .boolean)) {ls : Array Slot} {H : Heap} {locs : List Loc} {S : HP} {y0 : Int} (hp : e_Pic D cA B S s H) (hS : va_S (e_A B) s.heap H locs) (hl : e_lo ls 2 []) (hsh : s13_isEmpty_b14 S y0 = some res) : W p l e ({ frames := 0, cells := 0, slots := 0, locals := 0 } : Room) s m args below meth c H locs 0 0 (MQ below (e_Qi D cA B res.1 res.2) args s 0 0 (e_A B)) (F0 m 14 ls [.int (iI (y0))]) := by
  obtain ⟨hx, hb, hml, hown, hts, hlk, hrt⟩ := id E
  unfold s13_isEmpty_b14 at hsh
  obtain ⟨hz, hz1, hz2⟩ := zR_some hsh
  rw [← hz1, ← hz2]
  exact e_zret hx hb hrt hlk hp hS hz dX13_isEmpty_14
set_option maxRecDepth 100000 in
set_option maxHeartbeats 4000000 in
theorem c13_isEmpty (l : Launch) (D : va_G) (cA : Nat → ClassId) (B : Nat) (S S' : HP) (x0 : Int) (x1 : Int) (r : Int) (hsh : s13_isEmpty S x0 x1 = some (r, S')) : Met l yX13_isEmpty (e_wu yX13_isEmpty cX13_isEmpty 2 (some .boolean)) ({ frames := 0, cells := 0, slots := 0, locals := 0 } : Room) (va_Pc [e_rv B (x0), .int (iI (x1))] (fun U => e_PU D cA B S U)) (e_Qi D cA B r S') 0 0 (e_A B) := by
  refine Met.ofW (cc := cX13_isEmpty) (maxL := 2) (ret := (some .boolean)) (by decide +kernel) rfl ?_
  intro p e s m args below meth c s₁ Bd hml hv
  obtain ⟨rfl, hp⟩ := hv
  have hp : e_Pic D cA B S s s.heap := hp
  have hx := Bd.exec
  have hb := Bd.bytes
  have hrt := Bd.returns
  have hlk := Bd.notSynchronized
  have hown : s.vm.findClass RX13 = some m.cls := findClass_of_methodNamed Bd.named
  have hts : ∀ w ∈ e_tb, w.before ([e_rv B (x0), .int (iI (x1))] : List Value).toArray s = true := fun w h => atoms_spec (ws := (e_wu yX13_isEmpty cX13_isEmpty 2 (some .boolean))) Bd.pre w (List.mem_cons_of_mem _ h)
  have E : e_En p s m ([e_rv B (x0), .int (iI (x1))] : List Value).toArray meth c cX13_isEmpty RX13 2 (some .boolean) := ⟨hx, hb, hml, hown, hts, hlk, hrt⟩
  have hS : va_S (e_A B) s.heap s.heap [] := va_S.rf
  have hl := e_entry (vs := [e_rv B (x0), .int (iI (x1))]) (n := 2) (Nat.le_of_ble_eq_true rfl) (e_cc (e_rv_cat _ _) (e_cc rfl e_cn))
  rw [lg_entry_eq]
  generalize (lg_sl [e_rv B (x0), .int (iI (x1))] ++ List.replicate (2 - (lg_sl [e_rv B (x0), .int (iI (x1))]).length) Slot.unset).toArray = ls at hl ⊢
  generalize ([e_rv B (x0), .int (iI (x1))] : List Value).toArray = args at hts E ⊢
  have hl : e_lo ls 2 [(0, e_rv B (x0)), (1, .int (iI (x1)))] := hl
  have hsh := (gd_some hsh).2
  refine e_aload_n (B := B) (x := x0) hx hb dX13_isEmpty_0 rfl (hl.at 0 rfl) ?_
  obtain ⟨v1, h1, hsh⟩ := Option.bind_eq_some_iff.mp hsh
  refine e_getR (k := 3) hx hb hts in_X13 hown hp h1 rfl (by decide) (by decide) rfl (hts _ kf13_17) rfl dX13_isEmpty_1 ?_
  refine lv_iload_n hx hb dX13_isEmpty_4 rfl (hl.at 1 rfl) ?_
  obtain ⟨v5, h5, hsh⟩ := Option.bind_eq_some_iff.mp hsh
  refine e_iald hx hb hp h5 dX13_isEmpty_5 ?_
  refine e_if_ne (tgt := 13) hx hb dX13_isEmpty_6 (by decide) (fun c6 => ?_) (fun c6 => ?_)
  · rw [if_neg c6] at hsh
    refine lv_iconst (v := iI (0)) hx hb dX13_isEmpty_13 rfl ?_
    exact w13_isEmpty_b14 E hp hS (hl.sub [] rfl) hsh
  · rw [if_pos c6] at hsh
    refine lv_iconst (v := iI (1)) hx hb dX13_isEmpty_9 rfl ?_
    refine lv_goto (tgt := 14) hx hb dX13_isEmpty_10 (by decide) ?_
    exact w13_isEmpty_b14 E hp hS (hl.sub [] rfl) hsh
theorem ok13_spansPart {S : HP} {x0 : Int} {x1 : Int} {r : Int × HP} (h : s13_spansPart S x0 x1 = some r) : 0 ≤ x0 ∧ x0.toNat < e_n S ∧ e_g S x0.toNat = 13 := (gd_some h).1
set_option maxRecDepth 100000 in
set_option maxHeartbeats 4000000 in
theorem w13_spansPart_b162 {p : Program} {l : Launch} {e : Env} {s : State} {m : MethodId} {args : Array Value} {below : List Frame} {meth : Method} {c : Code} {D : va_G} {cA : Nat → ClassId} {B : Nat} {res : Int × HP} (E : e_En p s m args meth c cX13_spansPart RX13 4 (some .boolean)) {ls : Array Slot} {H : Heap} {locs : List Loc} {S : HP} {x0 : Int} {x2 : Int} {x3 : Int} (hp : e_Pic D cA B S s H) (hS : va_S (e_A B) s.heap H locs) (hl : e_lo ls 4 [(0, e_rv B (x0)), (2, .int (iI (x2))), (3, .int (iI (x3)))]) (hsh : s13_spansPart_b162 S x0 x2 x3 = some res) : W p l e ({ frames := 2, cells := 0, slots := 0, locals := 47 } : Room) s m args below meth c H locs 0 0 (MQ below (e_Qi D cA B res.1 res.2) args s 0 0 (e_A B)) (F0 m 162 ls []) := by
  obtain ⟨hx, hb, hml, hown, hts, hlk, hrt⟩ := id E
  unfold s13_spansPart_b162 at hsh
  refine e_aload_n (B := B) (x := x0) hx hb dX13_spansPart_162 rfl (hl.at 0 rfl) ?_
  refine lv_iload_n hx hb dX13_spansPart_163 rfl (hl.at 1 rfl) ?_
  refine lv_iload_n hx hb dX13_spansPart_164 rfl (hl.at 2 rfl) ?_
  obtain ⟨S165, h165, hsh⟩ := Option.bind_eq_some_iff.mp hsh
  have ok165 := ok13_spansLines h165
  refine e_callV (nL := 4) (mc := 0) (ms := 0) (T := TX13) (N := 126) (As := [.int (iI (x2)), .int (iI (x3))]) (rest := []) hx hb hml hown hts hp hS hl.size ok165.1 ok165.2.1 ok165.2.2 rfl (by decide) (c13_spansLines l D cA B S S165 (x0) (x2) (x3) h165) rfl rfl kd13_spansLines (kl13_414) ks13_spansLines kv13_spansLines ki13 kh13_spansLines ⟨Nat.le_of_ble_eq_true rfl, Nat.le_of_ble_eq_true rfl⟩ rfl (by simp [e_rv_cat, e_int_cat]) ⟨Nat.le_refl _, Nat.le_refl _⟩ dX13_spansPart_165 rfl (fun H locs hp hS => ?_)
  refine lv_iconst (v := iI (1)) hx hb dX13_spansPart_168 rfl ?_
  obtain ⟨hz, hz1, hz2⟩ := zR_some hsh
  rw [← hz1, ← hz2]
  exact e_zret hx hb hrt hlk hp hS hz dX13_spansPart_169
set_option maxRecDepth 100000 in
set_option maxHeartbeats 4000000 in
theorem w13_spansPart_l134 {p : Program} {l : Launch} {e : Env} {s : State} {m : MethodId} {args : Array Value} {below : List Frame} {meth : Method} {c : Code} {D : va_G} {cA : Nat → ClassId} {B : Nat} {res : Int × HP} (E : e_En p s m args meth c cX13_spansPart RX13 4 (some .boolean)) : ∀ (f : Nat) {ls : Array Slot} {H : Heap} {locs : List Loc} {S : HP} {x0 : Int} {x2 : Int} {x3 : Int} (hp : e_Pic D cA B S s H) (hS : va_S (e_A B) s.heap H locs) (hl : e_lo ls 4 [(0, e_rv B (x0)), (2, .int (iI (x2))), (3, .int (iI (x3)))]) (hsh : s13_spansPart_l134 f S x0 x2 x3 = some res), W p l e ({ frames := 2, cells := 0, slots := 0, locals := 47 } : Room) s m args below meth c H locs 0 0 (MQ below (e_Qi D cA B res.1 res.2) args s 0 0 (e_A B)) (F0 m 134 ls []) := by
  obtain ⟨hx, hb, hml, hown, hts, hlk, hrt⟩ := id E
  intro f
  induction f with
  | zero => intro ls H locs S x0 x2 x3 hp hS hl hsh; cases hsh
  | succ f ih =>
    intro ls H locs S x0 x2 x3 hp hS hl hsh
    have hk134 : ∀ {ls : Array Slot} {H : Heap} {locs : List Loc} {S : HP} {x0 : Int} {x2 : Int} {x3 : Int} (hp : e_Pic D cA B S s H) (hS : va_S (e_A B) s.heap H locs) (hl : e_lo ls 4 [(0, e_rv B (x0)), (2, .int (iI (x2))), (3, .int (iI (x3)))]) (hsh : (s13_spansPart_l134 f) S x0 x2 x3 = some res), W p l e ({ frames := 2, cells := 0, slots := 0, locals := 47 } : Room) s m args below meth c H locs 0 0 (MQ below (e_Qi D cA B res.1 res.2) args s 0 0 (e_A B)) (F0 m 134 ls []) := ih
    generalize hkk : s13_spansPart_l134 f = k134 at hk134
    rw [s13_spansPart_l134] at hsh
    rw [hkk] at hsh
    try dsimp only at hsh
    refine lv_iload_n hx hb dX13_spansPart_134 rfl (hl.at 1 rfl) ?_
    refine e_if_le (tgt := 162) hx hb dX13_spansPart_135 (by decide) (fun c135 => ?_) (fun c135 => ?_)
    · rw [if_pos c135] at hsh
      exact w13_spansPart_b162 E hp hS (hl.sub [0, 1, 2] rfl) hsh
    · rw [if_neg c135] at hsh
      refine e_aload_n (B := B) (x := x0) hx hb dX13_spansPart_138 rfl (hl.at 0 rfl) ?_
      refine lv_iload_n hx hb dX13_spansPart_139 rfl (hl.at 1 rfl) ?_
      refine lv_iconst (v := iI (1)) hx hb dX13_spansPart_140 rfl ?_
      refine e_isub hx hb dX13_spansPart_141 ?_
      obtain ⟨⟨v142, S142⟩, h142, hsh⟩ := Option.bind_eq_some_iff.mp hsh
      have hsh : _ = _ := hsh
      try dsimp only at hsh
      have ok142 := ok13_isEmpty h142
      refine e_callI (nL := 4) (mc := 0) (ms := 0) (T := TX13) (N := 126) (As := [.int (iI ((x2 - 1)))]) (rest := []) hx hb hml hown hts hp hS hl.size ok142.1 ok142.2.1 ok142.2.2 rfl (by decide) (c13_isEmpty l D cA B S S142 (x0) ((x2 - 1)) v142 h142) rfl rfl kd13_isEmpty (kl13_423) ks13_isEmpty kv13_isEmpty ki13 kh13_isEmpty ⟨Nat.le_of_ble_eq_true rfl, Nat.le_of_ble_eq_true rfl⟩ rfl (by simp [e_rv_cat, e_int_cat]) ⟨Nat.le_refl _, Nat.le_refl _⟩ dX13_spansPart_142 rfl (fun H locs hp hS => ?_)
      refine e_aload_n (B := B) (x := x0) hx hb dX13_spansPart_145 rfl (hl.at 0 rfl) ?_
      refine e_aload_n (B := B) (x := x0) hx hb dX13_spansPart_146 rfl (hl.at 0 rfl) ?_
      obtain ⟨v147, h147, hsh⟩ := Option.bind_eq_some_iff.mp hsh
      refine e_getI (k := 5) hx hb hts in_X13 hown hp h147 rfl (by decide) (by decide) rfl (hts _ kf13_213) rfl dX13_spansPart_147 ?_
      obtain ⟨⟨v150, S150⟩, h150, hsh⟩ := Option.bind_eq_some_iff.mp hsh
      have hsh : _ = _ := hsh
      try dsimp only at hsh
      have ok150 := ok13_isEmpty h150
      refine e_callI (nL := 4) (mc := 0) (ms := 0) (T := TX13) (N := 126) (As := [.int (iI (v147))]) (rest := [.int (iI (v142))]) hx hb hml hown hts hp hS hl.size ok150.1 ok150.2.1 ok150.2.2 rfl (by decide) (c13_isEmpty l D cA B S142 S150 (x0) (v147) v150 h150) rfl rfl kd13_isEmpty (kl13_423) ks13_isEmpty kv13_isEmpty ki13 kh13_isEmpty ⟨Nat.le_of_ble_eq_true rfl, Nat.le_of_ble_eq_true rfl⟩ rfl (by simp [e_rv_cat, e_int_cat]) ⟨Nat.le_refl _, Nat.le_refl _⟩ dX13_spansPart_150 rfl (fun H locs hp hS => ?_)
      refine e_icmp_eq (tgt := 162) hx hb dX13_spansPart_153 (by decide) (fun c153 => ?_) (fun c153 => ?_)
      · rw [if_pos c153] at hsh
        exact w13_spansPart_b162 E hp hS (hl.sub [0, 1, 2] rfl) hsh
      · rw [if_neg c153] at hsh
        refine e_iinc (n := (-1)) (x := x2) (lv' := [(2, .int (iI ((x2 + (-1))))), (0, e_rv B (x0)), (3, .int (iI (x3)))]) hx hb dX13_spansPart_156 hl (k := 1) rfl (by decide) rfl (fun ls hl => ?_)
        refine lv_goto (tgt := 134) hx hb dX13_spansPart_159 (by decide) ?_
        exact hk134 hp hS (hl.sub [1, 0, 2] rfl) hsh
set_option maxRecDepth 100000 in
set_option maxHeartbeats 4000000 in
theorem w13_spansPart_b123 {p : Program} {l : Launch} {e : Env} {s : State} {m : MethodId} {args : Array Value} {below : List Frame} {meth : Method} {c : Code} {D : va_G} {cA : Nat → ClassId} {B : Nat} {res : Int × HP} (E : e_En p s m args meth c cX13_spansPart RX13 4 (some .boolean)) {ls : Array Slot} {H : Heap} {locs : List Loc} {S : HP} {x0 : Int} {x1 : Int} {x2 : Int} {x3 : Int} (hp : e_Pic D cA B S s H) (hS : va_S (e_A B) s.heap H locs) (hl : e_lo ls 4 [(0, e_rv B (x0)), (1, .int (iI (x1))), (2, .int (iI (x2))), (3, .int (iI (x3)))]) (hsh : s13_spansPart_b123 S x0 x1 x2 x3 = some res) : W p l e ({ frames := 2, cells := 0, slots := 0, locals := 47 } : Room) s m args below meth c H locs 0 0 (MQ below (e_Qi D cA B res.1 res.2) args s 0 0 (e_A B)) (F0 m 123 ls []) := by
  obtain ⟨hx, hb, hml, hown, hts, hlk, hrt⟩ := id E
  unfold s13_spansPart_b123 at hsh
  refine lv_iload_n hx hb dX13_spansPart_123 rfl (hl.at 1 rfl) ?_
  refine e_if_eq (tgt := 162) hx hb dX13_spansPart_124 (by decide) (fun c124 => ?_) (fun c124 => ?_)
  · rw [if_pos c124] at hsh
    exact w13_spansPart_b162 E hp hS (hl.sub [0, 2, 3] rfl) hsh
  · rw [if_neg c124] at hsh
    refine lv_iload_n hx hb dX13_spansPart_127 rfl (hl.at 2 rfl) ?_
    refine e_if_le (tgt := 162) hx hb dX13_spansPart_128 (by decide) (fun c128 => ?_) (fun c128 => ?_)
    · rw [if_pos c128] at hsh
      exact w13_spansPart_b162 E hp hS (hl.sub [0, 2, 3] rfl) hsh
    · rw [if_neg c128] at hsh
      refine e_iinc (n := (-1)) (x := x2) (lv' := [(2, .int (iI ((x2 + (-1))))), (0, e_rv B (x0)), (1, .int (iI (x1))), (3, .int (iI (x3)))]) hx hb dX13_spansPart_131 hl (k := 2) rfl (by decide) rfl (fun ls hl => ?_)
      exact w13_spansPart_l134 E 1000000 hp hS (hl.sub [1, 0, 3] rfl) hsh
set_option maxRecDepth 100000 in
set_option maxHeartbeats 4000000 in
theorem w13_spansPart_l89 {p : Program} {l : Launch} {e : Env} {s : State} {m : MethodId} {args : Array Value} {below : List Frame} {meth : Method} {c : Code} {D : va_G} {cA : Nat → ClassId} {B : Nat} {res : Int × HP} (E : e_En p s m args meth c cX13_spansPart RX13 4 (some .boolean)) : ∀ (f : Nat) {ls : Array Slot} {H : Heap} {locs : List Loc} {S : HP} {x0 : Int} {x2 : Int} {x3 : Int} (hp : e_Pic D cA B S s H) (hS : va_S (e_A B) s.heap H locs) (hl : e_lo ls 4 [(0, e_rv B (x0)), (2, .int (iI (x2))), (3, .int (iI (x3)))]) (hsh : s13_spansPart_l89 f S x0 x2 x3 = some res), W p l e ({ frames := 2, cells := 0, slots := 0, locals := 47 } : Room) s m args below meth c H locs 0 0 (MQ below (e_Qi D cA B res.1 res.2) args s 0 0 (e_A B)) (F0 m 89 ls []) := by
  obtain ⟨hx, hb, hml, hown, hts, hlk, hrt⟩ := id E
  intro f
  induction f with
  | zero => intro ls H locs S x0 x2 x3 hp hS hl hsh; cases hsh
  | succ f ih =>
    intro ls H locs S x0 x2 x3 hp hS hl hsh
    have hk89 : ∀ {ls : Array Slot} {H : Heap} {locs : List Loc} {S : HP} {x0 : Int} {x2 : Int} {x3 : Int} (hp : e_Pic D cA B S s H) (hS : va_S (e_A B) s.heap H locs) (hl : e_lo ls 4 [(0, e_rv B (x0)), (2, .int (iI (x2))), (3, .int (iI (x3)))]) (hsh : (s13_spansPart_l89 f) S x0 x2 x3 = some res), W p l e ({ frames := 2, cells := 0, slots := 0, locals := 47 } : Room) s m args below meth c H locs 0 0 (MQ below (e_Qi D cA B res.1 res.2) args s 0 0 (e_A B)) (F0 m 89 ls []) := ih
    generalize hkk : s13_spansPart_l89 f = k89 at hk89
    rw [s13_spansPart_l89] at hsh
    rw [hkk] at hsh
    try dsimp only at hsh
    refine lv_iload_n hx hb dX13_spansPart_89 rfl (hl.at 2 rfl) ?_
    refine lv_iconst (v := iI (1)) hx hb dX13_spansPart_90 rfl ?_
    refine e_iadd hx hb dX13_spansPart_91 ?_
    refine e_aload_n (B := B) (x := x0) hx hb dX13_spansPart_92 rfl (hl.at 0 rfl) ?_
    obtain ⟨v93, h93, hsh⟩ := Option.bind_eq_some_iff.mp hsh
    refine e_getI (k := 2) hx hb hts in_X13 hown hp h93 rfl (by decide) (by decide) rfl (hts _ kf13_13) rfl dX13_spansPart_93 ?_
    refine e_icmp_ge (tgt := 162) hx hb dX13_spansPart_96 (by decide) (fun c96 => ?_) (fun c96 => ?_)
    · rw [if_pos c96] at hsh
      exact w13_spansPart_b162 E hp hS (hl.sub [0, 1, 2] rfl) hsh
    · rw [if_neg c96] at hsh
      refine e_aload_n (B := B) (x := x0) hx hb dX13_spansPart_99 rfl (hl.at 0 rfl) ?_
      refine lv_iload_n hx hb dX13_spansPart_100 rfl (hl.at 2 rfl) ?_
      refine lv_iconst (v := iI (1)) hx hb dX13_spansPart_101 rfl ?_
      refine e_iadd hx hb dX13_spansPart_102 ?_
      obtain ⟨⟨v103, S103⟩, h103, hsh⟩ := Option.bind_eq_some_iff.mp hsh
      have hsh : _ = _ := hsh
      try dsimp only at hsh
      have ok103 := ok13_isEmpty h103
      refine e_callI (nL := 4) (mc := 0) (ms := 0) (T := TX13) (N := 126) (As := [.int (iI ((x3 + 1)))]) (rest := []) hx hb hml hown hts hp hS hl.size ok103.1 ok103.2.1 ok103.2.2 rfl (by decide) (c13_isEmpty l D cA B S S103 (x0) ((x3 + 1)) v103 h103) rfl rfl kd13_isEmpty (kl13_423) ks13_isEmpty kv13_isEmpty ki13 kh13_isEmpty ⟨Nat.le_of_ble_eq_true rfl, Nat.le_of_ble_eq_true rfl⟩ rfl (by simp [e_rv_cat, e_int_cat]) ⟨Nat.le_refl _, Nat.le_refl _⟩ dX13_spansPart_103 rfl (fun H locs hp hS => ?_)
      refine e_aload_n (B := B) (x := x0) hx hb dX13_spansPart_106 rfl (hl.at 0 rfl) ?_
      refine e_aload_n (B := B) (x := x0) hx hb dX13_spansPart_107 rfl (hl.at 0 rfl) ?_
      obtain ⟨v108, h108, hsh⟩ := Option.bind_eq_some_iff.mp hsh
      refine e_getI (k := 5) hx hb hts in_X13 hown hp h108 rfl (by decide) (by decide) rfl (hts _ kf13_213) rfl dX13_spansPart_108 ?_
      obtain ⟨⟨v111, S111⟩, h111, hsh⟩ := Option.bind_eq_some_iff.mp hsh
      have hsh : _ = _ := hsh
      try dsimp only at hsh
      have ok111 := ok13_isEmpty h111
      refine e_callI (nL := 4) (mc := 0) (ms := 0) (T := TX13) (N := 126) (As := [.int (iI (v108))]) (rest := [.int (iI (v103))]) hx hb hml hown hts hp hS hl.size ok111.1 ok111.2.1 ok111.2.2 rfl (by decide) (c13_isEmpty l D cA B S103 S111 (x0) (v108) v111 h111) rfl rfl kd13_isEmpty (kl13_423) ks13_isEmpty kv13_isEmpty ki13 kh13_isEmpty ⟨Nat.le_of_ble_eq_true rfl, Nat.le_of_ble_eq_true rfl⟩ rfl (by simp [e_rv_cat, e_int_cat]) ⟨Nat.le_refl _, Nat.le_refl _⟩ dX13_spansPart_111 rfl (fun H locs hp hS => ?_)
      refine e_icmp_eq (tgt := 162) hx hb dX13_spansPart_114 (by decide) (fun c114 => ?_) (fun c114 => ?_)
      · rw [if_pos c114] at hsh
        exact w13_spansPart_b162 E hp hS (hl.sub [0, 1, 2] rfl) hsh
      · rw [if_neg c114] at hsh
        refine e_iinc (n := 1) (x := x3) (lv' := [(3, .int (iI ((x3 + 1)))), (0, e_rv B (x0)), (2, .int (iI (x2)))]) hx hb dX13_spansPart_117 hl (k := 2) rfl (by decide) rfl (fun ls hl => ?_)
        refine lv_goto (tgt := 89) hx hb dX13_spansPart_120 (by decide) ?_
        exact hk89 hp hS (hl.sub [1, 2, 0] rfl) hsh
set_option maxRecDepth 100000 in
set_option maxHeartbeats 4000000 in
theorem w13_spansPart_b72 {p : Program} {l : Launch} {e : Env} {s : State} {m : MethodId} {args : Array Value} {below : List Frame} {meth : Method} {c : Code} {D : va_G} {cA : Nat → ClassId} {B : Nat} {res : Int × HP} (E : e_En p s m args meth c cX13_spansPart RX13 4 (some .boolean)) {ls : Array Slot} {H : Heap} {locs : List Loc} {S : HP} {x0 : Int} {x1 : Int} {x2 : Int} {x3 : Int} (hp : e_Pic D cA B S s H) (hS : va_S (e_A B) s.heap H locs) (hl : e_lo ls 4 [(0, e_rv B (x0)), (1, .int (iI (x1))), (2, .int (iI (x2))), (3, .int (iI (x3)))]) (hsh : s13_spansPart_b72 S x0 x1 x2 x3 = some res) : W p l e ({ frames := 2, cells := 0, slots := 0, locals := 47 } : Room) s m args below meth c H locs 0 0 (MQ below (e_Qi D cA B res.1 res.2) args s 0 0 (e_A B)) (F0 m 72 ls []) := by
  obtain ⟨hx, hb, hml, hown, hts, hlk, hrt⟩ := id E
  unfold s13_spansPart_b72 at hsh
  refine lv_iload_n hx hb dX13_spansPart_72 rfl (hl.at 1 rfl) ?_
  refine e_if_eq (tgt := 123) hx hb dX13_spansPart_73 (by decide) (fun c73 => ?_) (fun c73 => ?_)
  · rw [if_pos c73] at hsh
    exact w13_spansPart_b123 E hp hS (hl.sub [0, 1, 2, 3] rfl) hsh
  · rw [if_neg c73] at hsh
    refine lv_iload_n hx hb dX13_spansPart_76 rfl (hl.at 3 rfl) ?_
    refine lv_iconst (v := iI (1)) hx hb dX13_spansPart_77 rfl ?_
    refine e_iadd hx hb dX13_spansPart_78 ?_
    refine e_aload_n (B := B) (x := x0) hx hb dX13_spansPart_79 rfl (hl.at 0 rfl) ?_
    obtain ⟨v80, h80, hsh⟩ := Option.bind_eq_some_iff.mp hsh
    refine e_getI (k := 2) hx hb hts in_X13 hown hp h80 rfl (by decide) (by decide) rfl (hts _ kf13_13) rfl dX13_spansPart_80 ?_
    refine e_icmp_ge (tgt := 123) hx hb dX13_spansPart_83 (by decide) (fun c83 => ?_) (fun c83 => ?_)
    · rw [if_pos c83] at hsh
      exact w13_spansPart_b123 E hp hS (hl.sub [0, 1, 2, 3] rfl) hsh
    · rw [if_neg c83] at hsh
      refine e_iinc (n := 1) (x := x3) (lv' := [(3, .int (iI ((x3 + 1)))), (0, e_rv B (x0)), (1, .int (iI (x1))), (2, .int (iI (x2)))]) hx hb dX13_spansPart_86 hl (k := 3) rfl (by decide) rfl (fun ls hl => ?_)
      exact w13_spansPart_l89 E 1000000 hp hS (hl.sub [1, 3, 0] rfl) hsh
set_option maxRecDepth 100000 in
set_option maxHeartbeats 4000000 in
theorem w13_spansPart_l38 {p : Program} {l : Launch} {e : Env} {s : State} {m : MethodId} {args : Array Value} {below : List Frame} {meth : Method} {c : Code} {D : va_G} {cA : Nat → ClassId} {B : Nat} {res : Int × HP} (E : e_En p s m args meth c cX13_spansPart RX13 4 (some .boolean)) : ∀ (f : Nat) {ls : Array Slot} {H : Heap} {locs : List Loc} {S : HP} {x0 : Int} {x1 : Int} {x2 : Int} {x3 : Int} (hp : e_Pic D cA B S s H) (hS : va_S (e_A B) s.heap H locs) (hl : e_lo ls 4 [(0, e_rv B (x0)), (1, .int (iI (x1))), (2, .int (iI (x2))), (3, .int (iI (x3)))]) (hsh : s13_spansPart_l38 f S x0 x1 x2 x3 = some res), W p l e ({ frames := 2, cells := 0, slots := 0, locals := 47 } : Room) s m args below meth c H locs 0 0 (MQ below (e_Qi D cA B res.1 res.2) args s 0 0 (e_A B)) (F0 m 38 ls []) := by
  obtain ⟨hx, hb, hml, hown, hts, hlk, hrt⟩ := id E
  intro f
  induction f with
  | zero => intro ls H locs S x0 x1 x2 x3 hp hS hl hsh; cases hsh
  | succ f ih =>
    intro ls H locs S x0 x1 x2 x3 hp hS hl hsh
    have hk38 : ∀ {ls : Array Slot} {H : Heap} {locs : List Loc} {S : HP} {x0 : Int} {x1 : Int} {x2 : Int} {x3 : Int} (hp : e_Pic D cA B S s H) (hS : va_S (e_A B) s.heap H locs) (hl : e_lo ls 4 [(0, e_rv B (x0)), (1, .int (iI (x1))), (2, .int (iI (x2))), (3, .int (iI (x3)))]) (hsh : (s13_spansPart_l38 f) S x0 x1 x2 x3 = some res), W p l e ({ frames := 2, cells := 0, slots := 0, locals := 47 } : Room) s m args below meth c H locs 0 0 (MQ below (e_Qi D cA B res.1 res.2) args s 0 0 (e_A B)) (F0 m 38 ls []) := ih
    generalize hkk : s13_spansPart_l38 f = k38 at hk38
    rw [s13_spansPart_l38] at hsh
    rw [hkk] at hsh
    try dsimp only at hsh
    refine lv_iload_n hx hb dX13_spansPart_38 rfl (hl.at 3 rfl) ?_
    refine lv_iconst (v := iI (1)) hx hb dX13_spansPart_39 rfl ?_
    refine e_iadd hx hb dX13_spansPart_40 ?_
    refine e_aload_n (B := B) (x := x0) hx hb dX13_spansPart_41 rfl (hl.at 0 rfl) ?_
    obtain ⟨v42, h42, hsh⟩ := Option.bind_eq_some_iff.mp hsh
    refine e_getI (k := 2) hx hb hts in_X13 hown hp h42 rfl (by decide) (by decide) rfl (hts _ kf13_13) rfl dX13_spansPart_42 ?_
    refine e_icmp_ge (tgt := 72) hx hb dX13_spansPart_45 (by decide) (fun c45 => ?_) (fun c45 => ?_)
    · rw [if_pos c45] at hsh
      exact w13_spansPart_b72 E hp hS (hl.sub [0, 1, 2, 3] rfl) hsh
    · rw [if_neg c45] at hsh
      refine e_aload_n (B := B) (x := x0) hx hb dX13_spansPart_48 rfl (hl.at 0 rfl) ?_
      refine lv_iload_n hx hb dX13_spansPart_49 rfl (hl.at 3 rfl) ?_
      refine lv_iconst (v := iI (1)) hx hb dX13_spansPart_50 rfl ?_
      refine e_iadd hx hb dX13_spansPart_51 ?_
      obtain ⟨⟨v52, S52⟩, h52, hsh⟩ := Option.bind_eq_some_iff.mp hsh
      have hsh : _ = _ := hsh
      try dsimp only at hsh
      have ok52 := ok13_isEmpty h52
      refine e_callI (nL := 4) (mc := 0) (ms := 0) (T := TX13) (N := 126) (As := [.int (iI ((x3 + 1)))]) (rest := []) hx hb hml hown hts hp hS hl.size ok52.1 ok52.2.1 ok52.2.2 rfl (by decide) (c13_isEmpty l D cA B S S52 (x0) ((x3 + 1)) v52 h52) rfl rfl kd13_isEmpty (kl13_423) ks13_isEmpty kv13_isEmpty ki13 kh13_isEmpty ⟨Nat.le_of_ble_eq_true rfl, Nat.le_of_ble_eq_true rfl⟩ rfl (by simp [e_rv_cat, e_int_cat]) ⟨Nat.le_refl _, Nat.le_refl _⟩ dX13_spansPart_52 rfl (fun H locs hp hS => ?_)
      refine e_aload_n (B := B) (x := x0) hx hb dX13_spansPart_55 rfl (hl.at 0 rfl) ?_
      refine e_aload_n (B := B) (x := x0) hx hb dX13_spansPart_56 rfl (hl.at 0 rfl) ?_
      obtain ⟨v57, h57, hsh⟩ := Option.bind_eq_some_iff.mp hsh
      refine e_getI (k := 5) hx hb hts in_X13 hown hp h57 rfl (by decide) (by decide) rfl (hts _ kf13_213) rfl dX13_spansPart_57 ?_
      obtain ⟨⟨v60, S60⟩, h60, hsh⟩ := Option.bind_eq_some_iff.mp hsh
      have hsh : _ = _ := hsh
      try dsimp only at hsh
      have ok60 := ok13_isEmpty h60
      refine e_callI (nL := 4) (mc := 0) (ms := 0) (T := TX13) (N := 126) (As := [.int (iI (v57))]) (rest := [.int (iI (v52))]) hx hb hml hown hts hp hS hl.size ok60.1 ok60.2.1 ok60.2.2 rfl (by decide) (c13_isEmpty l D cA B S52 S60 (x0) (v57) v60 h60) rfl rfl kd13_isEmpty (kl13_423) ks13_isEmpty kv13_isEmpty ki13 kh13_isEmpty ⟨Nat.le_of_ble_eq_true rfl, Nat.le_of_ble_eq_true rfl⟩ rfl (by simp [e_rv_cat, e_int_cat]) ⟨Nat.le_refl _, Nat.le_refl _⟩ dX13_spansPart_60 rfl (fun H locs hp hS => ?_)
      refine e_icmp_ne (tgt := 72) hx hb dX13_spansPart_63 (by decide) (fun c63 => ?_) (fun c63 => ?_)
      · rw [if_neg c63] at hsh
        exact w13_spansPart_b72 E hp hS (hl.sub [0, 1, 2, 3] rfl) hsh
      · rw [if_pos c63] at hsh
        refine e_iinc (n := 1) (x := x3) (lv' := [(3, .int (iI ((x3 + 1)))), (0, e_rv B (x0)), (1, .int (iI (x1))), (2, .int (iI (x2)))]) hx hb dX13_spansPart_66 hl (k := 3) rfl (by decide) rfl (fun ls hl => ?_)
        refine lv_goto (tgt := 38) hx hb dX13_spansPart_69 (by decide) ?_
        exact hk38 hp hS (hl.sub [1, 2, 3, 0] rfl) hsh
set_option maxRecDepth 100000 in
set_option maxHeartbeats 4000000 in
theorem w13_spansPart_l10 {p : Program} {l : Launch} {e : Env} {s : State} {m : MethodId} {args : Array Value} {below : List Frame} {meth : Method} {c : Code} {D : va_G} {cA : Nat → ClassId} {B : Nat} {res : Int × HP} (E : e_En p s m args meth c cX13_spansPart RX13 4 (some .boolean)) : ∀ (f : Nat) {ls : Array Slot} {H : Heap} {locs : List Loc} {S : HP} {x0 : Int} {x1 : Int} {x2 : Int} {x3 : Int} (hp : e_Pic D cA B S s H) (hS : va_S (e_A B) s.heap H locs) (hl : e_lo ls 4 [(0, e_rv B (x0)), (1, .int (iI (x1))), (2, .int (iI (x2))), (3, .int (iI (x3)))]) (hsh : s13_spansPart_l10 f S x0 x1 x2 x3 = some res), W p l e ({ frames := 2, cells := 0, slots := 0, locals := 47 } : Room) s m args below meth c H locs 0 0 (MQ below (e_Qi D cA B res.1 res.2) args s 0 0 (e_A B)) (F0 m 10 ls []) := by
  obtain ⟨hx, hb, hml, hown, hts, hlk, hrt⟩ := id E
  intro f
  induction f with
  | zero => intro ls H locs S x0 x1 x2 x3 hp hS hl hsh; cases hsh
  | succ f ih =>
    intro ls H locs S x0 x1 x2 x3 hp hS hl hsh
    have hk10 : ∀ {ls : Array Slot} {H : Heap} {locs : List Loc} {S : HP} {x0 : Int} {x1 : Int} {x2 : Int} {x3 : Int} (hp : e_Pic D cA B S s H) (hS : va_S (e_A B) s.heap H locs) (hl : e_lo ls 4 [(0, e_rv B (x0)), (1, .int (iI (x1))), (2, .int (iI (x2))), (3, .int (iI (x3)))]) (hsh : (s13_spansPart_l10 f) S x0 x1 x2 x3 = some res), W p l e ({ frames := 2, cells := 0, slots := 0, locals := 47 } : Room) s m args below meth c H locs 0 0 (MQ below (e_Qi D cA B res.1 res.2) args s 0 0 (e_A B)) (F0 m 10 ls []) := ih
    generalize hkk : s13_spansPart_l10 f = k10 at hk10
    rw [s13_spansPart_l10] at hsh
    rw [hkk] at hsh
    try dsimp only at hsh
    refine lv_iload_n hx hb dX13_spansPart_10 rfl (hl.at 2 rfl) ?_
    refine e_if_le (tgt := 38) hx hb dX13_spansPart_11 (by decide) (fun c11 => ?_) (fun c11 => ?_)
    · rw [if_pos c11] at hsh
      exact w13_spansPart_l38 E 1000000 hp hS (hl.sub [0, 1, 2, 3] rfl) hsh
    · rw [if_neg c11] at hsh
      refine e_aload_n (B := B) (x := x0) hx hb dX13_spansPart_14 rfl (hl.at 0 rfl) ?_
      refine lv_iload_n hx hb dX13_spansPart_15 rfl (hl.at 2 rfl) ?_
      refine lv_iconst (v := iI (1)) hx hb dX13_spansPart_16 rfl ?_
      refine e_isub hx hb dX13_spansPart_17 ?_
      obtain ⟨⟨v18, S18⟩, h18, hsh⟩ := Option.bind_eq_some_iff.mp hsh
      have hsh : _ = _ := hsh
      try dsimp only at hsh
      have ok18 := ok13_isEmpty h18
      refine e_callI (nL := 4) (mc := 0) (ms := 0) (T := TX13) (N := 126) (As := [.int (iI ((x2 - 1)))]) (rest := []) hx hb hml hown hts hp hS hl.size ok18.1 ok18.2.1 ok18.2.2 rfl (by decide) (c13_isEmpty l D cA B S S18 (x0) ((x2 - 1)) v18 h18) rfl rfl kd13_isEmpty (kl13_423) ks13_isEmpty kv13_isEmpty ki13 kh13_isEmpty ⟨Nat.le_of_ble_eq_true rfl, Nat.le_of_ble_eq_true rfl⟩ rfl (by simp [e_rv_cat, e_int_cat]) ⟨Nat.le_refl _, Nat.le_refl _⟩ dX13_spansPart_18 rfl (fun H locs hp hS => ?_)
      refine e_aload_n (B := B) (x := x0) hx hb dX13_spansPart_21 rfl (hl.at 0 rfl) ?_
      refine e_aload_n (B := B) (x := x0) hx hb dX13_spansPart_22 rfl (hl.at 0 rfl) ?_
      obtain ⟨v23, h23, hsh⟩ := Option.bind_eq_some_iff.mp hsh
      refine e_getI (k := 5) hx hb hts in_X13 hown hp h23 rfl (by decide) (by decide) rfl (hts _ kf13_213) rfl dX13_spansPart_23 ?_
      obtain ⟨⟨v26, S26⟩, h26, hsh⟩ := Option.bind_eq_some_iff.mp hsh
      have hsh : _ = _ := hsh
      try dsimp only at hsh
      have ok26 := ok13_isEmpty h26
      refine e_callI (nL := 4) (mc := 0) (ms := 0) (T := TX13) (N := 126) (As := [.int (iI (v23))]) (rest := [.int (iI (v18))]) hx hb hml hown hts hp hS hl.size ok26.1 ok26.2.1 ok26.2.2 rfl (by decide) (c13_isEmpty l D cA B S18 S26 (x0) (v23) v26 h26) rfl rfl kd13_isEmpty (kl13_423) ks13_isEmpty kv13_isEmpty ki13 kh13_isEmpty ⟨Nat.le_of_ble_eq_true rfl, Nat.le_of_ble_eq_true rfl⟩ rfl (by simp [e_rv_cat, e_int_cat]) ⟨Nat.le_refl _, Nat.le_refl _⟩ dX13_spansPart_26 rfl (fun H locs hp hS => ?_)
      refine e_icmp_ne (tgt := 38) hx hb dX13_spansPart_29 (by decide) (fun c29 => ?_) (fun c29 => ?_)
      · rw [if_neg c29] at hsh
        exact w13_spansPart_l38 E 1000000 hp hS (hl.sub [0, 1, 2, 3] rfl) hsh
      · rw [if_pos c29] at hsh
        refine e_iinc (n := (-1)) (x := x2) (lv' := [(2, .int (iI ((x2 + (-1))))), (0, e_rv B (x0)), (1, .int (iI (x1))), (3, .int (iI (x3)))]) hx hb dX13_spansPart_32 hl (k := 2) rfl (by decide) rfl (fun ls hl => ?_)
        refine lv_goto (tgt := 10) hx hb dX13_spansPart_35 (by decide) ?_
        exact hk10 hp hS (hl.sub [1, 2, 0, 3] rfl) hsh
set_option maxRecDepth 100000 in
set_option maxHeartbeats 4000000 in
theorem c13_spansPart (l : Launch) (D : va_G) (cA : Nat → ClassId) (B : Nat) (S S' : HP) (x0 : Int) (x1 : Int) (r : Int) (hsh : s13_spansPart S x0 x1 = some (r, S')) : Met l yX13_spansPart (e_wu yX13_spansPart cX13_spansPart 4 (some .boolean)) ({ frames := 2, cells := 0, slots := 0, locals := 47 } : Room) (va_Pc [e_rv B (x0), .int (iI (x1))] (fun U => e_PU D cA B S U)) (e_Qi D cA B r S') 0 0 (e_A B) := by
  refine Met.ofW (cc := cX13_spansPart) (maxL := 4) (ret := (some .boolean)) (by decide +kernel) rfl ?_
  intro p e s m args below meth c s₁ Bd hml hv
  obtain ⟨rfl, hp⟩ := hv
  have hp : e_Pic D cA B S s s.heap := hp
  have hx := Bd.exec
  have hb := Bd.bytes
  have hrt := Bd.returns
  have hlk := Bd.notSynchronized
  have hown : s.vm.findClass RX13 = some m.cls := findClass_of_methodNamed Bd.named
  have hts : ∀ w ∈ e_tb, w.before ([e_rv B (x0), .int (iI (x1))] : List Value).toArray s = true := fun w h => atoms_spec (ws := (e_wu yX13_spansPart cX13_spansPart 4 (some .boolean))) Bd.pre w (List.mem_cons_of_mem _ h)
  have E : e_En p s m ([e_rv B (x0), .int (iI (x1))] : List Value).toArray meth c cX13_spansPart RX13 4 (some .boolean) := ⟨hx, hb, hml, hown, hts, hlk, hrt⟩
  have hS : va_S (e_A B) s.heap s.heap [] := va_S.rf
  have hl := e_entry (vs := [e_rv B (x0), .int (iI (x1))]) (n := 4) (Nat.le_of_ble_eq_true rfl) (e_cc (e_rv_cat _ _) (e_cc rfl e_cn))
  rw [lg_entry_eq]
  generalize (lg_sl [e_rv B (x0), .int (iI (x1))] ++ List.replicate (4 - (lg_sl [e_rv B (x0), .int (iI (x1))]).length) Slot.unset).toArray = ls at hl ⊢
  generalize ([e_rv B (x0), .int (iI (x1))] : List Value).toArray = args at hts E ⊢
  have hl : e_lo ls 4 [(0, e_rv B (x0)), (1, .int (iI (x1)))] := hl
  have hsh := (gd_some hsh).2
  refine e_aload_n (B := B) (x := x0) hx hb dX13_spansPart_0 rfl (hl.at 0 rfl) ?_
  obtain ⟨v1, h1, hsh⟩ := Option.bind_eq_some_iff.mp hsh
  refine e_getI (k := 5) hx hb hts in_X13 hown hp h1 rfl (by decide) (by decide) rfl (hts _ kf13_213) rfl dX13_spansPart_1 ?_
  refine e_istore_n (lv' := [(2, .int (iI (v1))), (0, e_rv B (x0)), (1, .int (iI (x1)))]) hx hb dX13_spansPart_4 rfl hl (by decide) rfl (fun ls hl => ?_)
  refine e_aload_n (B := B) (x := x0) hx hb dX13_spansPart_5 rfl (hl.at 1 rfl) ?_
  obtain ⟨v6, h6, hsh⟩ := Option.bind_eq_some_iff.mp hsh
  refine e_getI (k := 5) hx hb hts in_X13 hown hp h6 rfl (by decide) (by decide) rfl (hts _ kf13_213) rfl dX13_spansPart_6 ?_
  refine e_istore_n (lv' := [(3, .int (iI (v6))), (2, .int (iI (v1))), (0, e_rv B (x0)), (1, .int (iI (x1)))]) hx hb dX13_spansPart_9 rfl hl (by decide) rfl (fun ls hl => ?_)
  exact w13_spansPart_l10 E 1000000 hp hS (hl.sub [2, 3, 1, 0] rfl) hsh
theorem ok13_spansObject {S : HP} {x0 : Int} {x1 : Int} {x2 : Int} {x3 : Int} {r : Int × HP} (h : s13_spansObject S x0 x1 x2 x3 = some r) : 0 ≤ x0 ∧ x0.toNat < e_n S ∧ e_g S x0.toNat = 13 := (gd_some h).1
set_option maxRecDepth 100000 in
set_option maxHeartbeats 4000000 in
theorem w13_spansObject_b50 {p : Program} {l : Launch} {e : Env} {s : State} {m : MethodId} {args : Array Value} {below : List Frame} {meth : Method} {c : Code} {D : va_G} {cA : Nat → ClassId} {B : Nat} {res : Int × HP} (E : e_En p s m args meth c cX13_spansObject RX13 4 (some .boolean)) {ls : Array Slot} {H : Heap} {locs : List Loc} {S : HP} {y0 : Int} (hp : e_Pic D cA B S s H) (hS : va_S (e_A B) s.heap H locs) (hl : e_lo ls 4 []) (hsh : s13_spansObject_b50 S y0 = some res) : W p l e ({ frames := 5, cells := 0, slots := 0, locals := 113 } : Room) s m args below meth c H locs 0 0 (MQ below (e_Qi D cA B res.1 res.2) args s 0 0 (e_A B)) (F0 m 50 ls [.int (iI (y0))]) := by
  obtain ⟨hx, hb, hml, hown, hts, hlk, hrt⟩ := id E
  unfold s13_spansObject_b50 at hsh
  obtain ⟨hz, hz1, hz2⟩ := zR_some hsh
  rw [← hz1, ← hz2]
  exact e_zret hx hb hrt hlk hp hS hz dX13_spansObject_50
set_option maxRecDepth 100000 in
set_option maxHeartbeats 4000000 in
theorem c13_spansObject (l : Launch) (D : va_G) (cA : Nat → ClassId) (B : Nat) (S S' : HP) (x0 : Int) (x1 : Int) (x2 : Int) (x3 : Int) (r : Int) (hsh : s13_spansObject S x0 x1 x2 x3 = some (r, S')) : Met l yX13_spansObject (e_wu yX13_spansObject cX13_spansObject 4 (some .boolean)) ({ frames := 5, cells := 0, slots := 0, locals := 113 } : Room) (va_Pc [e_rv B (x0), .int (iI (x1)), .int (iI (x2)), .int (iI (x3))] (fun U => e_PU D cA B S U)) (e_Qi D cA B r S') 0 0 (e_A B) := by
  refine Met.ofW (cc := cX13_spansObject) (maxL := 4) (ret := (some .boolean)) (by decide +kernel) rfl ?_
  intro p e s m args below meth c s₁ Bd hml hv
  obtain ⟨rfl, hp⟩ := hv
  have hp : e_Pic D cA B S s s.heap := hp
  have hx := Bd.exec
  have hb := Bd.bytes
  have hrt := Bd.returns
  have hlk := Bd.notSynchronized
  have hown : s.vm.findClass RX13 = some m.cls := findClass_of_methodNamed Bd.named
  have hts : ∀ w ∈ e_tb, w.before ([e_rv B (x0), .int (iI (x1)), .int (iI (x2)), .int (iI (x3))] : List Value).toArray s = true := fun w h => atoms_spec (ws := (e_wu yX13_spansObject cX13_spansObject 4 (some .boolean))) Bd.pre w (List.mem_cons_of_mem _ h)
  have E : e_En p s m ([e_rv B (x0), .int (iI (x1)), .int (iI (x2)), .int (iI (x3))] : List Value).toArray meth c cX13_spansObject RX13 4 (some .boolean) := ⟨hx, hb, hml, hown, hts, hlk, hrt⟩
  have hS : va_S (e_A B) s.heap s.heap [] := va_S.rf
  have hl := e_entry (vs := [e_rv B (x0), .int (iI (x1)), .int (iI (x2)), .int (iI (x3))]) (n := 4) (Nat.le_of_ble_eq_true rfl) (e_cc (e_rv_cat _ _) (e_cc rfl (e_cc rfl (e_cc rfl e_cn))))
  rw [lg_entry_eq]
  generalize (lg_sl [e_rv B (x0), .int (iI (x1)), .int (iI (x2)), .int (iI (x3))] ++ List.replicate (4 - (lg_sl [e_rv B (x0), .int (iI (x1)), .int (iI (x2)), .int (iI (x3))]).length) Slot.unset).toArray = ls at hl ⊢
  generalize ([e_rv B (x0), .int (iI (x1)), .int (iI (x2)), .int (iI (x3))] : List Value).toArray = args at hts E ⊢
  have hl : e_lo ls 4 [(0, e_rv B (x0)), (1, .int (iI (x1))), (2, .int (iI (x2))), (3, .int (iI (x3)))] := hl
  have hsh := (gd_some hsh).2
  refine lv_iload_n hx hb dX13_spansObject_0 rfl (hl.at 1 rfl) ?_
  refine lv_bipush (v := iI (119)) hx hb dX13_spansObject_1 (by decide +kernel) ?_
  refine e_icmp_ne (tgt := 15) hx hb dX13_spansObject_3 (by decide) (fun c3 => ?_) (fun c3 => ?_)
  · rw [if_neg c3] at hsh
    refine lv_iload_n hx hb dX13_spansObject_15 rfl (hl.at 1 rfl) ?_
    refine lv_bipush (v := iI (34)) hx hb dX13_spansObject_16 (by decide +kernel) ?_
    refine e_icmp_ne (tgt := 29) hx hb dX13_spansObject_18 (by decide) (fun c18 => ?_) (fun c18 => ?_)
    · rw [if_neg c18] at hsh
      refine lv_iload_n hx hb dX13_spansObject_29 rfl (hl.at 1 rfl) ?_
      refine lv_bipush (v := iI (112)) hx hb dX13_spansObject_30 (by decide +kernel) ?_
      refine e_icmp_ne (tgt := 43) hx hb dX13_spansObject_32 (by decide) (fun c32 => ?_) (fun c32 => ?_)
      · rw [if_neg c32] at hsh
        refine e_aload_n (B := B) (x := x0) hx hb dX13_spansObject_43 rfl (hl.at 0 rfl) ?_
        refine lv_iload_n hx hb dX13_spansObject_44 rfl (hl.at 1 rfl) ?_
        refine lv_iload_n hx hb dX13_spansObject_45 rfl (hl.at 2 rfl) ?_
        refine lv_iload_n hx hb dX13_spansObject_46 rfl (hl.at 3 rfl) ?_
        obtain ⟨⟨v47, S47⟩, h47, hsh⟩ := Option.bind_eq_some_iff.mp hsh
        have hsh : _ = _ := hsh
        try dsimp only at hsh
        have ok47 := ok13_spansBrackets h47
        refine e_callI (nL := 4) (mc := 0) (ms := 0) (T := TX13) (N := 126) (As := [.int (iI (x1)), .int (iI (x2)), .int (iI (x3))]) (rest := []) hx hb hml hown hts hp hS hl.size ok47.1 ok47.2.1 ok47.2.2 rfl (by decide) (c13_spansBrackets l D cA B S S47 (x0) (x1) (x2) (x3) v47 h47) rfl rfl kd13_spansBrackets (kl13_437) ks13_spansBrackets kv13_spansBrackets ki13 kh13_spansBrackets ⟨Nat.le_of_ble_eq_true rfl, Nat.le_of_ble_eq_true rfl⟩ rfl (by simp [e_rv_cat, e_int_cat]) ⟨Nat.le_refl _, Nat.le_refl _⟩ dX13_spansObject_47 rfl (fun H locs hp hS => ?_)
        exact w13_spansObject_b50 E hp hS (hl.sub [] rfl) hsh
      · rw [if_pos c32] at hsh
        refine e_aload_n (B := B) (x := x0) hx hb dX13_spansObject_35 rfl (hl.at 0 rfl) ?_
        refine lv_iload_n hx hb dX13_spansObject_36 rfl (hl.at 2 rfl) ?_
        obtain ⟨⟨v37, S37⟩, h37, hsh⟩ := Option.bind_eq_some_iff.mp hsh
        have hsh : _ = _ := hsh
        try dsimp only at hsh
        have ok37 := ok13_spansPart h37
        refine e_callI (nL := 4) (mc := 0) (ms := 0) (T := TX13) (N := 126) (As := [.int (iI (x2))]) (rest := []) hx hb hml hown hts hp hS hl.size ok37.1 ok37.2.1 ok37.2.2 rfl (by decide) (c13_spansPart l D cA B S S37 (x0) (x2) v37 h37) rfl rfl kd13_spansPart (kl13_434) ks13_spansPart kv13_spansPart ki13 kh13_spansPart ⟨Nat.le_of_ble_eq_true rfl, Nat.le_of_ble_eq_true rfl⟩ rfl (by simp [e_rv_cat, e_int_cat]) ⟨Nat.le_refl _, Nat.le_refl _⟩ dX13_spansObject_37 rfl (fun H locs hp hS => ?_)
        refine lv_goto (tgt := 50) hx hb dX13_spansObject_40 (by decide) ?_
        exact w13_spansObject_b50 E hp hS (hl.sub [] rfl) hsh
    · rw [if_pos c18] at hsh
      refine e_aload_n (B := B) (x := x0) hx hb dX13_spansObject_21 rfl (hl.at 0 rfl) ?_
      refine lv_iload_n hx hb dX13_spansObject_22 rfl (hl.at 2 rfl) ?_
      obtain ⟨⟨v23, S23⟩, h23, hsh⟩ := Option.bind_eq_some_iff.mp hsh
      have hsh : _ = _ := hsh
      try dsimp only at hsh
      have ok23 := ok13_spansQuotes h23
      refine e_callI (nL := 4) (mc := 0) (ms := 0) (T := TX13) (N := 126) (As := [.int (iI (x2))]) (rest := []) hx hb hml hown hts hp hS hl.size ok23.1 ok23.2.1 ok23.2.2 rfl (by decide) (c13_spansQuotes l D cA B S S23 (x0) (x2) v23 h23) rfl rfl kd13_spansQuotes (kl13_430) ks13_spansQuotes kv13_spansQuotes ki13 kh13_spansQuotes ⟨Nat.le_of_ble_eq_true rfl, Nat.le_of_ble_eq_true rfl⟩ rfl (by simp [e_rv_cat, e_int_cat]) ⟨Nat.le_refl _, Nat.le_refl _⟩ dX13_spansObject_23 rfl (fun H locs hp hS => ?_)
      refine lv_goto (tgt := 50) hx hb dX13_spansObject_26 (by decide) ?_
      exact w13_spansObject_b50 E hp hS (hl.sub [] rfl) hsh
  · rw [if_pos c3] at hsh
    refine e_aload_n (B := B) (x := x0) hx hb dX13_spansObject_6 rfl (hl.at 0 rfl) ?_
    refine lv_iload_n hx hb dX13_spansObject_7 rfl (hl.at 2 rfl) ?_
    refine lv_iload_n hx hb dX13_spansObject_8 rfl (hl.at 3 rfl) ?_
    obtain ⟨⟨v9, S9⟩, h9, hsh⟩ := Option.bind_eq_some_iff.mp hsh
    have hsh : _ = _ := hsh
    try dsimp only at hsh
    have ok9 := ok13_spansWord h9
    refine e_callI (nL := 4) (mc := 0) (ms := 0) (T := TX13) (N := 126) (As := [.int (iI (x2)), .int (iI (x3))]) (rest := []) hx hb hml hown hts hp hS hl.size ok9.1 ok9.2.1 ok9.2.2 rfl (by decide) (c13_spansWord l D cA B S S9 (x0) (x2) (x3) v9 h9) rfl rfl kd13_spansWord (kl13_426) ks13_spansWord kv13_spansWord ki13 kh13_spansWord ⟨Nat.le_of_ble_eq_true rfl, Nat.le_of_ble_eq_true rfl⟩ rfl (by simp [e_rv_cat, e_int_cat]) ⟨Nat.le_refl _, Nat.le_refl _⟩ dX13_spansObject_9 rfl (fun H locs hp hS => ?_)
    refine lv_goto (tgt := 50) hx hb dX13_spansObject_12 (by decide) ?_
    exact w13_spansObject_b50 E hp hS (hl.sub [] rfl) hsh
set_option maxRecDepth 100000 in
set_option maxHeartbeats 4000000 in
theorem w13_registerOf_b39 {p : Program} {l : Launch} {e : Env} {s : State} {m : MethodId} {args : Array Value} {below : List Frame} {meth : Method} {c : Code} {D : va_G} {cA : Nat → ClassId} {B : Nat} {res : Int × HP} (E : e_En p s m args meth c cX13_registerOf RX13 1 (some .int)) {ls : Array Slot} {H : Heap} {locs : List Loc} {S : HP} {y0 : Int} (hp : e_Pic D cA B S s H) (hS : va_S (e_A B) s.heap H locs) (hl : e_lo ls 1 []) (hsh : s13_registerOf_b39 S y0 = some res) : W p l e ({ frames := 1, cells := 0, slots := 0, locals := 22 } : Room) s m args below meth c H locs 0 0 (MQ below (e_Qi D cA B res.1 res.2) args s 0 0 (e_A B)) (F0 m 39 ls [.int (iI (y0))]) := by
  obtain ⟨hx, hb, hml, hown, hts, hlk, hrt⟩ := id E
  unfold s13_registerOf_b39 at hsh
  cases hsh
  exact e_iret hx hb hrt hlk hp hS dX13_registerOf_39
set_option maxRecDepth 100000 in
set_option maxHeartbeats 4000000 in
theorem w13_registerOf_b22 {p : Program} {l : Launch} {e : Env} {s : State} {m : MethodId} {args : Array Value} {below : List Frame} {meth : Method} {c : Code} {D : va_G} {cA : Nat → ClassId} {B : Nat} {res : Int × HP} (E : e_En p s m args meth c cX13_registerOf RX13 1 (some .int)) {ls : Array Slot} {H : Heap} {locs : List Loc} {S : HP} {x0 : Int} (hp : e_Pic D cA B S s H) (hS : va_S (e_A B) s.heap H locs) (hl : e_lo ls 1 [(0, .int (iI (x0)))]) (hsh : s13_registerOf_b22 S x0 = some res) : W p l e ({ frames := 1, cells := 0, slots := 0, locals := 22 } : Room) s m args below meth c H locs 0 0 (MQ below (e_Qi D cA B res.1 res.2) args s 0 0 (e_A B)) (F0 m 22 ls []) := by
  obtain ⟨hx, hb, hml, hown, hts, hlk, hrt⟩ := id E
  unfold s13_registerOf_b22 at hsh
  refine lv_iload_n hx hb dX13_registerOf_22 rfl (hl.at 0 rfl) ?_
  refine lv_bipush (v := iI (97)) hx hb dX13_registerOf_23 (by decide +kernel) ?_
  refine e_icmp_lt (tgt := 35) hx hb dX13_registerOf_25 (by decide) (fun c25 => ?_) (fun c25 => ?_)
  · rw [if_pos c25] at hsh
    refine lv_iload_n hx hb dX13_registerOf_35 rfl (hl.at 0 rfl) ?_
    refine lv_bipush (v := iI (65)) hx hb dX13_registerOf_36 (by decide +kernel) ?_
    refine e_isub hx hb dX13_registerOf_38 ?_
    exact w13_registerOf_b39 E hp hS (hl.sub [] rfl) hsh
  · rw [if_neg c25] at hsh
    refine lv_iload_n hx hb dX13_registerOf_28 rfl (hl.at 0 rfl) ?_
    refine lv_bipush (v := iI (97)) hx hb dX13_registerOf_29 (by decide +kernel) ?_
    refine e_isub hx hb dX13_registerOf_31 ?_
    refine lv_goto (tgt := 39) hx hb dX13_registerOf_32 (by decide) ?_
    exact w13_registerOf_b39 E hp hS (hl.sub [] rfl) hsh
set_option maxRecDepth 100000 in
set_option maxHeartbeats 4000000 in
theorem w13_registerOf_b95 {p : Program} {l : Launch} {e : Env} {s : State} {m : MethodId} {args : Array Value} {below : List Frame} {meth : Method} {c : Code} {D : va_G} {cA : Nat → ClassId} {B : Nat} {res : Int × HP} (E : e_En p s m args meth c cX13_registerOf RX13 1 (some .int)) {ls : Array Slot} {H : Heap} {locs : List Loc} {S : HP} {y0 : Int} (hp : e_Pic D cA B S s H) (hS : va_S (e_A B) s.heap H locs) (hl : e_lo ls 1 []) (hsh : s13_registerOf_b95 S y0 = some res) : W p l e ({ frames := 1, cells := 0, slots := 0, locals := 22 } : Room) s m args below meth c H locs 0 0 (MQ below (e_Qi D cA B res.1 res.2) args s 0 0 (e_A B)) (F0 m 95 ls [.int (iI (y0))]) := by
  obtain ⟨hx, hb, hml, hown, hts, hlk, hrt⟩ := id E
  unfold s13_registerOf_b95 at hsh
  cases hsh
  exact e_iret hx hb hrt hlk hp hS dX13_registerOf_95
set_option maxRecDepth 100000 in
set_option maxHeartbeats 4000000 in
theorem c13_registerOf (l : Launch) (D : va_G) (cA : Nat → ClassId) (B : Nat) (S S' : HP) (x0 : Int) (r : Int) (hsh : s13_registerOf S x0 = some (r, S')) : Met l yX13_registerOf (e_wu yX13_registerOf cX13_registerOf 1 (some .int)) ({ frames := 1, cells := 0, slots := 0, locals := 22 } : Room) (va_Pc [.int (iI (x0))] (fun U => e_PU D cA B S U)) (e_Qi D cA B r S') 0 0 (e_A B) := by
  refine Met.ofW (cc := cX13_registerOf) (maxL := 1) (ret := (some .int)) (by decide +kernel) rfl ?_
  intro p e s m args below meth c s₁ Bd hml hv
  obtain ⟨rfl, hp⟩ := hv
  have hp : e_Pic D cA B S s s.heap := hp
  have hx := Bd.exec
  have hb := Bd.bytes
  have hrt := Bd.returns
  have hlk := Bd.notSynchronized
  have hown : s.vm.findClass RX13 = some m.cls := findClass_of_methodNamed Bd.named
  have hts : ∀ w ∈ e_tb, w.before ([.int (iI (x0))] : List Value).toArray s = true := fun w h => atoms_spec (ws := (e_wu yX13_registerOf cX13_registerOf 1 (some .int))) Bd.pre w (List.mem_cons_of_mem _ h)
  have E : e_En p s m ([.int (iI (x0))] : List Value).toArray meth c cX13_registerOf RX13 1 (some .int) := ⟨hx, hb, hml, hown, hts, hlk, hrt⟩
  have hS : va_S (e_A B) s.heap s.heap [] := va_S.rf
  have hl := e_entry (vs := [.int (iI (x0))]) (n := 1) (Nat.le_of_ble_eq_true rfl) (e_cc rfl e_cn)
  rw [lg_entry_eq]
  generalize (lg_sl [.int (iI (x0))] ++ List.replicate (1 - (lg_sl [.int (iI (x0))]).length) Slot.unset).toArray = ls at hl ⊢
  generalize ([.int (iI (x0))] : List Value).toArray = args at hts E ⊢
  have hl : e_lo ls 1 [(0, .int (iI (x0)))] := hl
  unfold s13_registerOf at hsh
  refine lv_iload_n hx hb dX13_registerOf_0 rfl (hl.at 0 rfl) ?_
  refine lv_bipush (v := iI (97)) hx hb dX13_registerOf_1 (by decide +kernel) ?_
  refine lv_bipush (v := iI (122)) hx hb dX13_registerOf_3 (by decide +kernel) ?_
  obtain ⟨⟨v5, S5⟩, h5, hsh⟩ := Option.bind_eq_some_iff.mp hsh
  have hsh : _ = _ := hsh
  try dsimp only at hsh
  refine e_callS (nL := 1) (mc := 0) (ms := 0) (As := [.int (iI (x0)), .int (iI (97)), .int (iI (122))]) (rest := []) hx hb hml hown hts hp hS hl.size (c13_isIn l D cA B S S5 (x0) (97) (122) v5 h5) rfl rfl kd13_isIn (kl13_198) ks13_isIn ki13 kh13_isIn ⟨Nat.le_of_ble_eq_true rfl, Nat.le_of_ble_eq_true rfl⟩ rfl (by simp [e_rv_cat, e_int_cat]) ⟨Nat.le_refl _, Nat.le_refl _⟩ dX13_registerOf_5 rfl (fun H locs hp hS => ?_)
  refine e_if_ne (tgt := 22) hx hb dX13_registerOf_8 (by decide) (fun c8 => ?_) (fun c8 => ?_)
  · rw [if_neg c8] at hsh
    exact w13_registerOf_b22 E hp hS (hl.sub [0] rfl) hsh
  · rw [if_pos c8] at hsh
    refine lv_iload_n hx hb dX13_registerOf_11 rfl (hl.at 0 rfl) ?_
    refine lv_bipush (v := iI (65)) hx hb dX13_registerOf_12 (by decide +kernel) ?_
    refine lv_bipush (v := iI (90)) hx hb dX13_registerOf_14 (by decide +kernel) ?_
    obtain ⟨⟨v16, S16⟩, h16, hsh⟩ := Option.bind_eq_some_iff.mp hsh
    have hsh : _ = _ := hsh
    try dsimp only at hsh
    refine e_callS (nL := 1) (mc := 0) (ms := 0) (As := [.int (iI (x0)), .int (iI (65)), .int (iI (90))]) (rest := []) hx hb hml hown hts hp hS hl.size (c13_isIn l D cA B S5 S16 (x0) (65) (90) v16 h16) rfl rfl kd13_isIn (kl13_198) ks13_isIn ki13 kh13_isIn ⟨Nat.le_of_ble_eq_true rfl, Nat.le_of_ble_eq_true rfl⟩ rfl (by simp [e_rv_cat, e_int_cat]) ⟨Nat.le_refl _, Nat.le_refl _⟩ dX13_registerOf_16 rfl (fun H locs hp hS => ?_)
    refine e_if_eq (tgt := 40) hx hb dX13_registerOf_19 (by decide) (fun c19 => ?_) (fun c19 => ?_)
    · rw [if_pos c19] at hsh
      refine lv_iload_n hx hb dX13_registerOf_40 rfl (hl.at 0 rfl) ?_
      refine lv_bipush (v := iI (48)) hx hb dX13_registerOf_41 (by decide +kernel) ?_
      refine lv_bipush (v := iI (57)) hx hb dX13_registerOf_43 (by decide +kernel) ?_
      obtain ⟨⟨v45, S45⟩, h45, hsh⟩ := Option.bind_eq_some_iff.mp hsh
      have hsh : _ = _ := hsh
      try dsimp only at hsh
      refine e_callS (nL := 1) (mc := 0) (ms := 0) (As := [.int (iI (x0)), .int (iI (48)), .int (iI (57))]) (rest := []) hx hb hml hown hts hp hS hl.size (c13_isIn l D cA B S16 S45 (x0) (48) (57) v45 h45) rfl rfl kd13_isIn (kl13_198) ks13_isIn ki13 kh13_isIn ⟨Nat.le_of_ble_eq_true rfl, Nat.le_of_ble_eq_true rfl⟩ rfl (by simp [e_rv_cat, e_int_cat]) ⟨Nat.le_refl _, Nat.le_refl _⟩ dX13_registerOf_45 rfl (fun H locs hp hS => ?_)
      refine e_if_eq (tgt := 61) hx hb dX13_registerOf_48 (by decide) (fun c48 => ?_) (fun c48 => ?_)
      · rw [if_pos c48] at hsh
        refine lv_iload_n hx hb dX13_registerOf_61 rfl (hl.at 0 rfl) ?_
        refine lv_bipush (v := iI (45)) hx hb dX13_registerOf_62 (by decide +kernel) ?_
        refine e_icmp_ne (tgt := 72) hx hb dX13_registerOf_64 (by decide) (fun c64 => ?_) (fun c64 => ?_)
        · rw [if_neg c64] at hsh
          refine lv_iload_n hx hb dX13_registerOf_72 rfl (hl.at 0 rfl) ?_
          refine lv_bipush (v := iI (34)) hx hb dX13_registerOf_73 (by decide +kernel) ?_
          refine e_icmp_ne (tgt := 83) hx hb dX13_registerOf_75 (by decide) (fun c75 => ?_) (fun c75 => ?_)
          · rw [if_neg c75] at hsh
            refine lv_iload_n hx hb dX13_registerOf_83 rfl (hl.at 0 rfl) ?_
            refine lv_bipush (v := iI (95)) hx hb dX13_registerOf_84 (by decide +kernel) ?_
            refine e_icmp_ne (tgt := 94) hx hb dX13_registerOf_86 (by decide) (fun c86 => ?_) (fun c86 => ?_)
            · rw [if_neg c86] at hsh
              refine lv_iconst (v := iI (-1)) hx hb dX13_registerOf_94 rfl ?_
              exact w13_registerOf_b95 E hp hS (hl.sub [] rfl) hsh
            · rw [if_pos c86] at hsh
              refine lv_bipush (v := iI (38)) hx hb dX13_registerOf_89 (by decide +kernel) ?_
              refine lv_goto (tgt := 95) hx hb dX13_registerOf_91 (by decide) ?_
              exact w13_registerOf_b95 E hp hS (hl.sub [] rfl) hsh
          · rw [if_pos c75] at hsh
            refine lv_bipush (v := iI (37)) hx hb dX13_registerOf_78 (by decide +kernel) ?_
            refine lv_goto (tgt := 95) hx hb dX13_registerOf_80 (by decide) ?_
            exact w13_registerOf_b95 E hp hS (hl.sub [] rfl) hsh
        · rw [if_pos c64] at hsh
          refine lv_bipush (v := iI (36)) hx hb dX13_registerOf_67 (by decide +kernel) ?_
          refine lv_goto (tgt := 95) hx hb dX13_registerOf_69 (by decide) ?_
          exact w13_registerOf_b95 E hp hS (hl.sub [] rfl) hsh
      · rw [if_neg c48] at hsh
        refine lv_bipush (v := iI (26)) hx hb dX13_registerOf_51 (by decide +kernel) ?_
        refine lv_iload_n hx hb dX13_registerOf_53 rfl (hl.at 0 rfl) ?_
        refine e_iadd hx hb dX13_registerOf_54 ?_
        refine lv_bipush (v := iI (48)) hx hb dX13_registerOf_55 (by decide +kernel) ?_
        refine e_isub hx hb dX13_registerOf_57 ?_
        refine lv_goto (tgt := 95) hx hb dX13_registerOf_58 (by decide) ?_
        exact w13_registerOf_b95 E hp hS (hl.sub [] rfl) hsh
    · rw [if_neg c19] at hsh
      exact w13_registerOf_b22 E hp hS (hl.sub [0] rfl) hsh
theorem ok13_segmentEnd {S : HP} {x0 : Int} {x1 : Int} {r : Int × HP} (h : s13_segmentEnd S x0 x1 = some r) : 0 ≤ x0 ∧ x0.toNat < e_n S ∧ e_g S x0.toNat = 13 := (gd_some h).1
set_option maxRecDepth 100000 in
set_option maxHeartbeats 4000000 in
theorem c13_segmentEnd (l : Launch) (D : va_G) (cA : Nat → ClassId) (B : Nat) (S S' : HP) (x0 : Int) (x1 : Int) (r : Int) (hsh : s13_segmentEnd S x0 x1 = some (r, S')) : Met l yX13_segmentEnd (e_wu yX13_segmentEnd cX13_segmentEnd 2 (some .int)) ({ frames := 1, cells := 0, slots := 0, locals := 21 } : Room) (va_Pc [e_rv B (x0), .int (iI (x1))] (fun U => e_PU D cA B S U)) (e_Qi D cA B r S') 0 0 (e_A B) := by
  refine Met.ofW (cc := cX13_segmentEnd) (maxL := 2) (ret := (some .int)) (by decide +kernel) rfl ?_
  intro p e s m args below meth c s₁ Bd hml hv
  obtain ⟨rfl, hp⟩ := hv
  have hp : e_Pic D cA B S s s.heap := hp
  have hx := Bd.exec
  have hb := Bd.bytes
  have hrt := Bd.returns
  have hlk := Bd.notSynchronized
  have hown : s.vm.findClass RX13 = some m.cls := findClass_of_methodNamed Bd.named
  have hts : ∀ w ∈ e_tb, w.before ([e_rv B (x0), .int (iI (x1))] : List Value).toArray s = true := fun w h => atoms_spec (ws := (e_wu yX13_segmentEnd cX13_segmentEnd 2 (some .int))) Bd.pre w (List.mem_cons_of_mem _ h)
  have E : e_En p s m ([e_rv B (x0), .int (iI (x1))] : List Value).toArray meth c cX13_segmentEnd RX13 2 (some .int) := ⟨hx, hb, hml, hown, hts, hlk, hrt⟩
  have hS : va_S (e_A B) s.heap s.heap [] := va_S.rf
  have hl := e_entry (vs := [e_rv B (x0), .int (iI (x1))]) (n := 2) (Nat.le_of_ble_eq_true rfl) (e_cc (e_rv_cat _ _) (e_cc rfl e_cn))
  rw [lg_entry_eq]
  generalize (lg_sl [e_rv B (x0), .int (iI (x1))] ++ List.replicate (2 - (lg_sl [e_rv B (x0), .int (iI (x1))]).length) Slot.unset).toArray = ls at hl ⊢
  generalize ([e_rv B (x0), .int (iI (x1))] : List Value).toArray = args at hts E ⊢
  have hl : e_lo ls 2 [(0, e_rv B (x0)), (1, .int (iI (x1)))] := hl
  have hsh := (gd_some hsh).2
  refine e_aload_n (B := B) (x := x0) hx hb dX13_segmentEnd_0 rfl (hl.at 0 rfl) ?_
  obtain ⟨v1, h1, hsh⟩ := Option.bind_eq_some_iff.mp hsh
  refine e_getI (k := 39) hx hb hts in_X13 hown hp h1 rfl (by decide) (by decide) rfl (hts _ kf13_407) rfl dX13_segmentEnd_1 ?_
  refine e_aload_n (B := B) (x := x0) hx hb dX13_segmentEnd_4 rfl (hl.at 0 rfl) ?_
  obtain ⟨v5, h5, hsh⟩ := Option.bind_eq_some_iff.mp hsh
  refine e_getR (k := 3) hx hb hts in_X13 hown hp h5 rfl (by decide) (by decide) rfl (hts _ kf13_17) rfl dX13_segmentEnd_5 ?_
  refine lv_iload_n hx hb dX13_segmentEnd_8 rfl (hl.at 1 rfl) ?_
  obtain ⟨v9, h9, hsh⟩ := Option.bind_eq_some_iff.mp hsh
  refine e_iald hx hb hp h9 dX13_segmentEnd_9 ?_
  obtain ⟨⟨v10, S10⟩, h10, hsh⟩ := Option.bind_eq_some_iff.mp hsh
  have hsh : _ = _ := hsh
  try dsimp only at hsh
  refine e_callS (nL := 2) (mc := 0) (ms := 0) (As := [.int (iI (v1)), .int (iI (v9))]) (rest := []) hx hb hml hown hts hp hS hl.size (c13_lesser l D cA B S S10 (v1) (v9) v10 h10) rfl rfl kd13_lesser (kl13_257) ks13_lesser ki13 kh13_lesser ⟨Nat.le_of_ble_eq_true rfl, Nat.le_of_ble_eq_true rfl⟩ rfl (by simp [e_rv_cat, e_int_cat]) ⟨Nat.le_refl _, Nat.le_refl _⟩ dX13_segmentEnd_10 rfl (fun H locs hp hS => ?_)
  cases hsh
  exact e_iret hx hb hrt hlk hp hS dX13_segmentEnd_13
theorem ok13_copies {S : HP} {x0 : Int} {x1 : Int} {x2 : Int} {x3 : Int} {x4 : Int} {r : HP} (h : s13_copies S x0 x1 x2 x3 x4 = some r) : 0 ≤ x0 ∧ x0.toNat < e_n S ∧ e_g S x0.toNat = 13 := (gd_some h).1
set_option maxRecDepth 100000 in
set_option maxHeartbeats 4000000 in
theorem w13_copies_b67 {p : Program} {l : Launch} {e : Env} {s : State} {m : MethodId} {args : Array Value} {below : List Frame} {meth : Method} {c : Code} {D : va_G} {cA : Nat → ClassId} {B : Nat} {res : HP} (E : e_En p s m args meth c cX13_copies RX13 6 none) {ls : Array Slot} {H : Heap} {locs : List Loc} {S : HP} (hp : e_Pic D cA B S s H) (hS : va_S (e_A B) s.heap H locs) (hl : e_lo ls 6 []) (hsh : s13_copies_b67 S  = some res) : W p l e ({ frames := 1, cells := 0, slots := 0, locals := 22 } : Room) s m args below meth c H locs 0 0 (MQ below (e_Qv D cA B res) args s 0 0 (e_A B)) (F0 m 67 ls []) := by
  obtain ⟨hx, hb, hml, hown, hts, hlk, hrt⟩ := id E
  unfold s13_copies_b67 at hsh
  cases hsh
  exact e_vret hx hb hrt hlk hp hS dX13_copies_67
set_option maxRecDepth 100000 in
set_option maxHeartbeats 4000000 in
theorem w13_copies_l3 {p : Program} {l : Launch} {e : Env} {s : State} {m : MethodId} {args : Array Value} {below : List Frame} {meth : Method} {c : Code} {D : va_G} {cA : Nat → ClassId} {B : Nat} {res : HP} (E : e_En p s m args meth c cX13_copies RX13 6 none) : ∀ (f : Nat) {ls : Array Slot} {H : Heap} {locs : List Loc} {S : HP} {x0 : Int} {x1 : Int} {x3 : Int} {x4 : Int} {x5 : Int} (hp : e_Pic D cA B S s H) (hS : va_S (e_A B) s.heap H locs) (hl : e_lo ls 6 [(0, e_rv B (x0)), (1, .int (iI (x1))), (3, .int (iI (x3))), (4, .int (iI (x4))), (5, .int (iI (x5)))]) (hsh : s13_copies_l3 f S x0 x1 x3 x4 x5 = some res), W p l e ({ frames := 1, cells := 0, slots := 0, locals := 22 } : Room) s m args below meth c H locs 0 0 (MQ below (e_Qv D cA B res) args s 0 0 (e_A B)) (F0 m 3 ls []) := by
  obtain ⟨hx, hb, hml, hown, hts, hlk, hrt⟩ := id E
  intro f
  induction f with
  | zero => intro ls H locs S x0 x1 x3 x4 x5 hp hS hl hsh; cases hsh
  | succ f ih =>
    intro ls H locs S x0 x1 x3 x4 x5 hp hS hl hsh
    have hk3 : ∀ {ls : Array Slot} {H : Heap} {locs : List Loc} {S : HP} {x0 : Int} {x1 : Int} {x3 : Int} {x4 : Int} {x5 : Int} (hp : e_Pic D cA B S s H) (hS : va_S (e_A B) s.heap H locs) (hl : e_lo ls 6 [(0, e_rv B (x0)), (1, .int (iI (x1))), (3, .int (iI (x3))), (4, .int (iI (x4))), (5, .int (iI (x5)))]) (hsh : (s13_copies_l3 f) S x0 x1 x3 x4 x5 = some res), W p l e ({ frames := 1, cells := 0, slots := 0, locals := 22 } : Room) s m args below meth c H locs 0 0 (MQ below (e_Qv D cA B res) args s 0 0 (e_A B)) (F0 m 3 ls []) := ih
    generalize hkk : s13_copies_l3 f = k3 at hk3
    rw [s13_copies_l3] at hsh
    rw [hkk] at hsh
    try dsimp only at hsh
    refine lv_iload hx hb dX13_copies_3 (hl.at 4 rfl) ?_
    refine lv_iload_n hx hb dX13_copies_5 rfl (hl.at 2 rfl) ?_
    refine e_icmp_ge (tgt := 41) hx hb dX13_copies_6 (by decide) (fun c6 => ?_) (fun c6 => ?_)
    · rw [if_pos c6] at hsh
      refine lv_iload hx hb dX13_copies_41 (hl.at 3 rfl) ?_
      refine e_if_eq (tgt := 67) hx hb dX13_copies_43 (by decide) (fun c43 => ?_) (fun c43 => ?_)
      · rw [if_pos c43] at hsh
        exact w13_copies_b67 E hp hS (hl.sub [] rfl) hsh
      · rw [if_neg c43] at hsh
        refine e_aload_n (B := B) (x := x0) hx hb dX13_copies_46 rfl (hl.at 0 rfl) ?_
        obtain ⟨v47, h47, hsh⟩ := Option.bind_eq_some_iff.mp hsh
        refine e_getR (k := 41) hx hb hts in_X13 hown hp h47 rfl (by decide) (by decide) rfl (hts _ kf13_80) rfl dX13_copies_47 ?_
        refine e_aload_n (B := B) (x := x0) hx hb dX13_copies_50 rfl (hl.at 0 rfl) ?_
        obtain ⟨v51, h51, hsh⟩ := Option.bind_eq_some_iff.mp hsh
        refine e_getI (k := 40) hx hb hts in_X13 hown hp h51 rfl (by decide) (by decide) rfl (hts _ kf13_441) rfl dX13_copies_51 ?_
        refine lv_bipush (v := iI (10)) hx hb dX13_copies_54 (by decide +kernel) ?_
        obtain ⟨S56, h56, hsh⟩ := Option.bind_eq_some_iff.mp hsh
        refine e_iast hx hb hp hS h56 dX13_copies_56 (fun H locs hp hS => ?_)
        refine e_aload_n (B := B) (x := x0) hx hb dX13_copies_57 rfl (hl.at 0 rfl) ?_
        refine lv_dup hx hb dX13_copies_58 (e_rv_cat _ _) ?_
        obtain ⟨v59, h59, hsh⟩ := Option.bind_eq_some_iff.mp hsh
        refine e_getI (k := 40) hx hb hts in_X13 hown hp h59 rfl (by decide) (by decide) rfl (hts _ kf13_441) rfl dX13_copies_59 ?_
        refine lv_iconst (v := iI (1)) hx hb dX13_copies_62 rfl ?_
        refine e_iadd hx hb dX13_copies_63 ?_
        obtain ⟨S64, h64, hsh⟩ := Option.bind_eq_some_iff.mp hsh
        refine e_putI (k := 40) hx hb hts in_X13 tyX13 tyX13_ok nmX13 hown hp hS h64 rfl (by decide) (by decide) rfl (hts _ kf13_441) rfl rfl (by decide +kernel) dX13_copies_64 (fun H locs hp hS => ?_)
        exact w13_copies_b67 E hp hS (hl.sub [] rfl) hsh
    · rw [if_neg c6] at hsh
      refine e_aload_n (B := B) (x := x0) hx hb dX13_copies_9 rfl (hl.at 0 rfl) ?_
      obtain ⟨v10, h10, hsh⟩ := Option.bind_eq_some_iff.mp hsh
      refine e_getR (k := 41) hx hb hts in_X13 hown hp h10 rfl (by decide) (by decide) rfl (hts _ kf13_80) rfl dX13_copies_10 ?_
      refine e_aload_n (B := B) (x := x0) hx hb dX13_copies_13 rfl (hl.at 0 rfl) ?_
      obtain ⟨v14, h14, hsh⟩ := Option.bind_eq_some_iff.mp hsh
      refine e_getI (k := 40) hx hb hts in_X13 hown hp h14 rfl (by decide) (by decide) rfl (hts _ kf13_441) rfl dX13_copies_14 ?_
      refine e_aload_n (B := B) (x := x0) hx hb dX13_copies_17 rfl (hl.at 0 rfl) ?_
      refine lv_iload_n hx hb dX13_copies_18 rfl (hl.at 1 rfl) ?_
      refine lv_iload hx hb dX13_copies_19 (hl.at 4 rfl) ?_
      obtain ⟨⟨v21, S21⟩, h21, hsh⟩ := Option.bind_eq_some_iff.mp hsh
      have hsh : _ = _ := hsh
      try dsimp only at hsh
      have ok21 := ok13_at h21
      refine e_callI (nL := 6) (mc := 0) (ms := 0) (T := TX13) (N := 126) (As := [.int (iI (x1)), .int (iI (x5))]) (rest := [.int (iI (v14)), e_rv B (v10)]) hx hb hml hown hts hp hS hl.size ok21.1 ok21.2.1 ok21.2.2 rfl (by decide) (c13_at l D cA B S S21 (x0) (x1) (x5) v21 h21) rfl rfl kd13_at (kl13_206) ks13_at kv13_at ki13 kh13_at ⟨Nat.le_of_ble_eq_true rfl, Nat.le_of_ble_eq_true rfl⟩ rfl (by simp [e_rv_cat, e_int_cat]) ⟨Nat.le_refl _, Nat.le_refl _⟩ dX13_copies_21 rfl (fun H locs hp hS => ?_)
      obtain ⟨S24, h24, hsh⟩ := Option.bind_eq_some_iff.mp hsh
      refine e_iast hx hb hp hS h24 dX13_copies_24 (fun H locs hp hS => ?_)
      refine e_aload_n (B := B) (x := x0) hx hb dX13_copies_25 rfl (hl.at 0 rfl) ?_
      refine lv_dup hx hb dX13_copies_26 (e_rv_cat _ _) ?_
      obtain ⟨v27, h27, hsh⟩ := Option.bind_eq_some_iff.mp hsh
      refine e_getI (k := 40) hx hb hts in_X13 hown hp h27 rfl (by decide) (by decide) rfl (hts _ kf13_441) rfl dX13_copies_27 ?_
      refine lv_iconst (v := iI (1)) hx hb dX13_copies_30 rfl ?_
      refine e_iadd hx hb dX13_copies_31 ?_
      obtain ⟨S32, h32, hsh⟩ := Option.bind_eq_some_iff.mp hsh
      refine e_putI (k := 40) hx hb hts in_X13 tyX13 tyX13_ok nmX13 hown hp hS h32 rfl (by decide) (by decide) rfl (hts _ kf13_441) rfl rfl (by decide +kernel) dX13_copies_32 (fun H locs hp hS => ?_)
      refine e_iinc (n := 1) (x := x5) (lv' := [(5, .int (iI ((x5 + 1)))), (0, e_rv B (x0)), (1, .int (iI (x1))), (3, .int (iI (x3))), (4, .int (iI (x4)))]) hx hb dX13_copies_35 hl (k := 4) rfl (by decide) rfl (fun ls hl => ?_)
      refine lv_goto (tgt := 3) hx hb dX13_copies_38 (by decide) ?_
      exact hk3 hp hS (hl.sub [1, 2, 3, 4, 0] rfl) hsh
set_option maxRecDepth 100000 in
set_option maxHeartbeats 4000000 in
theorem c13_copies (l : Launch) (D : va_G) (cA : Nat → ClassId) (B : Nat) (S S' : HP) (x0 : Int) (x1 : Int) (x2 : Int) (x3 : Int) (x4 : Int) (hsh : s13_copies S x0 x1 x2 x3 x4 = some S') : Met l yX13_copies (e_wu yX13_copies cX13_copies 6 none) ({ frames := 1, cells := 0, slots := 0, locals := 22 } : Room) (va_Pc [e_rv B (x0), .int (iI (x1)), .int (iI (x2)), .int (iI (x3)), .int (iI (x4))] (fun U => e_PU D cA B S U)) (e_Qv D cA B S') 0 0 (e_A B) := by
  refine Met.ofW (cc := cX13_copies) (maxL := 6) (ret := none) (by decide +kernel) rfl ?_
  intro p e s m args below meth c s₁ Bd hml hv
  obtain ⟨rfl, hp⟩ := hv
  have hp : e_Pic D cA B S s s.heap := hp
  have hx := Bd.exec
  have hb := Bd.bytes
  have hrt := Bd.returns
  have hlk := Bd.notSynchronized
  have hown : s.vm.findClass RX13 = some m.cls := findClass_of_methodNamed Bd.named
  have hts : ∀ w ∈ e_tb, w.before ([e_rv B (x0), .int (iI (x1)), .int (iI (x2)), .int (iI (x3)), .int (iI (x4))] : List Value).toArray s = true := fun w h => atoms_spec (ws := (e_wu yX13_copies cX13_copies 6 none)) Bd.pre w (List.mem_cons_of_mem _ h)
  have E : e_En p s m ([e_rv B (x0), .int (iI (x1)), .int (iI (x2)), .int (iI (x3)), .int (iI (x4))] : List Value).toArray meth c cX13_copies RX13 6 none := ⟨hx, hb, hml, hown, hts, hlk, hrt⟩
  have hS : va_S (e_A B) s.heap s.heap [] := va_S.rf
  have hl := e_entry (vs := [e_rv B (x0), .int (iI (x1)), .int (iI (x2)), .int (iI (x3)), .int (iI (x4))]) (n := 6) (Nat.le_of_ble_eq_true rfl) (e_cc (e_rv_cat _ _) (e_cc rfl (e_cc rfl (e_cc rfl (e_cc rfl e_cn)))))
  rw [lg_entry_eq]
  generalize (lg_sl [e_rv B (x0), .int (iI (x1)), .int (iI (x2)), .int (iI (x3)), .int (iI (x4))] ++ List.replicate (6 - (lg_sl [e_rv B (x0), .int (iI (x1)), .int (iI (x2)), .int (iI (x3)), .int (iI (x4))]).length) Slot.unset).toArray = ls at hl ⊢
  generalize ([e_rv B (x0), .int (iI (x1)), .int (iI (x2)), .int (iI (x3)), .int (iI (x4))] : List Value).toArray = args at hts E ⊢
  have hl : e_lo ls 6 [(0, e_rv B (x0)), (1, .int (iI (x1))), (2, .int (iI (x2))), (3, .int (iI (x3))), (4, .int (iI (x4)))] := hl
  have hsh := (gd_some hsh).2
  refine lv_iload_n hx hb dX13_copies_0 rfl (hl.at 2 rfl) ?_
  refine e_istore (lv' := [(5, .int (iI (x2))), (0, e_rv B (x0)), (1, .int (iI (x1))), (2, .int (iI (x2))), (3, .int (iI (x3))), (4, .int (iI (x4)))]) hx hb dX13_copies_1 hl (by decide) rfl (fun ls hl => ?_)
  exact w13_copies_l3 E 1000000 hp hS (hl.sub [1, 2, 4, 5, 0] rfl) hsh
theorem ok13_copiesSpan {S : HP} {x0 : Int} {r : HP} (h : s13_copiesSpan S x0 = some r) : 0 ≤ x0 ∧ x0.toNat < e_n S ∧ e_g S x0.toNat = 13 := (gd_some h).1
set_option maxRecDepth 100000 in
set_option maxHeartbeats 4000000 in
theorem w13_copiesSpan_b123 {p : Program} {l : Launch} {e : Env} {s : State} {m : MethodId} {args : Array Value} {below : List Frame} {meth : Method} {c : Code} {D : va_G} {cA : Nat → ClassId} {B : Nat} {res : HP} {k10 : HP → Int → Int → Option (HP)} (hk10 : ∀ {ls : Array Slot} {H : Heap} {locs : List Loc} {S : HP} {x0 : Int} {x1 : Int} (hp : e_Pic D cA B S s H) (hS : va_S (e_A B) s.heap H locs) (hl : e_lo ls 2 [(0, e_rv B (x0)), (1, .int (iI (x1)))]) (hsh : k10 S x0 x1 = some res), W p l e ({ frames := 2, cells := 0, slots := 0, locals := 47 } : Room) s m args below meth c H locs 0 0 (MQ below (e_Qv D cA B res) args s 0 0 (e_A B)) (F0 m 10 ls [])) (E : e_En p s m args meth c cX13_copiesSpan RX13 2 none) {ls : Array Slot} {H : Heap} {locs : List Loc} {S : HP} {x0 : Int} {x1 : Int} (hp : e_Pic D cA B S s H) (hS : va_S (e_A B) s.heap H locs) (hl : e_lo ls 2 [(0, e_rv B (x0)), (1, .int (iI (x1)))]) (hsh : s13_copiesSpan_b123 k10 S x0 x1 = some res) : W p l e ({ frames := 2, cells := 0, slots := 0, locals := 47 } : Room) s m args below meth c H locs 0 0 (MQ below (e_Qv D cA B res) args s 0 0 (e_A B)) (F0 m 123 ls []) := by
  obtain ⟨hx, hb, hml, hown, hts, hlk, hrt⟩ := id E
  unfold s13_copiesSpan_b123 at hsh
  refine e_iinc (n := 1) (x := x1) (lv' := [(1, .int (iI ((x1 + 1)))), (0, e_rv B (x0))]) hx hb dX13_copiesSpan_123 hl (k := 1) rfl (by decide) rfl (fun ls hl => ?_)
  refine lv_goto (tgt := 10) hx hb dX13_copiesSpan_126 (by decide) ?_
  exact hk10 hp hS (hl.sub [1, 0] rfl) hsh
set_option maxRecDepth 100000 in
set_option maxHeartbeats 4000000 in
theorem w13_copiesSpan_b78 {p : Program} {l : Launch} {e : Env} {s : State} {m : MethodId} {args : Array Value} {below : List Frame} {meth : Method} {c : Code} {D : va_G} {cA : Nat → ClassId} {B : Nat} {res : HP} {k10 : HP → Int → Int → Option (HP)} (hk10 : ∀ {ls : Array Slot} {H : Heap} {locs : List Loc} {S : HP} {x0 : Int} {x1 : Int} (hp : e_Pic D cA B S s H) (hS : va_S (e_A B) s.heap H locs) (hl : e_lo ls 2 [(0, e_rv B (x0)), (1, .int (iI (x1)))]) (hsh : k10 S x0 x1 = some res), W p l e ({ frames := 2, cells := 0, slots := 0, locals := 47 } : Room) s m args below meth c H locs 0 0 (MQ below (e_Qv D cA B res) args s 0 0 (e_A B)) (F0 m 10 ls [])) (E : e_En p s m args meth c cX13_copiesSpan RX13 2 none) {ls : Array Slot} {H : Heap} {locs : List Loc} {S : HP} {x0 : Int} {x1 : Int} {y0 : Int} {y1 : Int} {y2 : Int} {y3 : Int} {y4 : Int} (hp : e_Pic D cA B S s H) (hS : va_S (e_A B) s.heap H locs) (hl : e_lo ls 2 [(0, e_rv B (x0)), (1, .int (iI (x1)))]) (hsh : s13_copiesSpan_b78 k10 S x0 x1 y0 y1 y2 y3 y4 = some res) : W p l e ({ frames := 2, cells := 0, slots := 0, locals := 47 } : Room) s m args below meth c H locs 0 0 (MQ below (e_Qv D cA B res) args s 0 0 (e_A B)) (F0 m 78 ls [.int (iI (y4)), .int (iI (y3)), .int (iI (y2)), .int (iI (y1)), e_rv B (y0)]) := by
  obtain ⟨hx, hb, hml, hown, hts, hlk, hrt⟩ := id E
  unfold s13_copiesSpan_b78 at hsh
  obtain ⟨S78, h78, hsh⟩ := Option.bind_eq_some_iff.mp hsh
  have ok78 := ok13_copies h78
  refine e_callV (nL := 2) (mc := 0) (ms := 0) (T := TX13) (N := 126) (As := [.int (iI (y1)), .int (iI (y2)), .int (iI (y3)), .int (iI (y4))]) (rest := []) hx hb hml hown hts hp hS hl.size ok78.1 ok78.2.1 ok78.2.2 rfl (by decide) (c13_copies l D cA B S S78 (y0) (y1) (y2) (y3) (y4) h78) rfl rfl kd13_copies (kl13_444) ks13_copies kv13_copies ki13 kh13_copies ⟨Nat.le_of_ble_eq_true rfl, Nat.le_of_ble_eq_true rfl⟩ rfl (by simp [e_rv_cat, e_int_cat]) ⟨Nat.le_refl _, Nat.le_refl _⟩ dX13_copiesSpan_78 rfl (fun H locs hp hS => ?_)
  refine lv_goto (tgt := 123) hx hb dX13_copiesSpan_81 (by decide) ?_
  exact w13_copiesSpan_b123 (hk10 := hk10) E hp hS (hl.sub [0, 1] rfl) hsh
set_option maxRecDepth 100000 in
set_option maxHeartbeats 4000000 in
theorem w13_copiesSpan_b65 {p : Program} {l : Launch} {e : Env} {s : State} {m : MethodId} {args : Array Value} {below : List Frame} {meth : Method} {c : Code} {D : va_G} {cA : Nat → ClassId} {B : Nat} {res : HP} {k10 : HP → Int → Int → Option (HP)} (hk10 : ∀ {ls : Array Slot} {H : Heap} {locs : List Loc} {S : HP} {x0 : Int} {x1 : Int} (hp : e_Pic D cA B S s H) (hS : va_S (e_A B) s.heap H locs) (hl : e_lo ls 2 [(0, e_rv B (x0)), (1, .int (iI (x1)))]) (hsh : k10 S x0 x1 = some res), W p l e ({ frames := 2, cells := 0, slots := 0, locals := 47 } : Room) s m args below meth c H locs 0 0 (MQ below (e_Qv D cA B res) args s 0 0 (e_A B)) (F0 m 10 ls [])) (E : e_En p s m args meth c cX13_copiesSpan RX13 2 none) {ls : Array Slot} {H : Heap} {locs : List Loc} {S : HP} {x0 : Int} {x1 : Int} {y0 : Int} {y1 : Int} {y2 : Int} {y3 : Int} (hp : e_Pic D cA B S s H) (hS : va_S (e_A B) s.heap H locs) (hl : e_lo ls 2 [(0, e_rv B (x0)), (1, .int (iI (x1)))]) (hsh : s13_copiesSpan_b65 k10 S x0 x1 y0 y1 y2 y3 = some res) : W p l e ({ frames := 2, cells := 0, slots := 0, locals := 47 } : Room) s m args below meth c H locs 0 0 (MQ below (e_Qv D cA B res) args s 0 0 (e_A B)) (F0 m 65 ls [.int (iI (y3)), .int (iI (y2)), .int (iI (y1)), e_rv B (y0)]) := by
  obtain ⟨hx, hb, hml, hown, hts, hlk, hrt⟩ := id E
  unfold s13_copiesSpan_b65 at hsh
  refine lv_iload_n hx hb dX13_copiesSpan_65 rfl (hl.at 1 rfl) ?_
  refine e_aload_n (B := B) (x := x0) hx hb dX13_copiesSpan_66 rfl (hl.at 0 rfl) ?_
  obtain ⟨v67, h67, hsh⟩ := Option.bind_eq_some_iff.mp hsh
  refine e_getI (k := 38) hx hb hts in_X13 hown hp h67 rfl (by decide) (by decide) rfl (hts _ kf13_404) rfl dX13_copiesSpan_67 ?_
  refine e_icmp_ge (tgt := 77) hx hb dX13_copiesSpan_70 (by decide) (fun c70 => ?_) (fun c70 => ?_)
  · rw [if_pos c70] at hsh
    refine lv_iconst (v := iI (0)) hx hb dX13_copiesSpan_77 rfl ?_
    exact w13_copiesSpan_b78 (hk10 := hk10) E hp hS (hl.sub [0, 1] rfl) hsh
  · rw [if_neg c70] at hsh
    refine lv_iconst (v := iI (1)) hx hb dX13_copiesSpan_73 rfl ?_
    refine lv_goto (tgt := 78) hx hb dX13_copiesSpan_74 (by decide) ?_
    exact w13_copiesSpan_b78 (hk10 := hk10) E hp hS (hl.sub [0, 1] rfl) hsh
set_option maxRecDepth 100000 in
set_option maxHeartbeats 4000000 in
theorem w13_copiesSpan_b44 {p : Program} {l : Launch} {e : Env} {s : State} {m : MethodId} {args : Array Value} {below : List Frame} {meth : Method} {c : Code} {D : va_G} {cA : Nat → ClassId} {B : Nat} {res : HP} {k10 : HP → Int → Int → Option (HP)} (hk10 : ∀ {ls : Array Slot} {H : Heap} {locs : List Loc} {S : HP} {x0 : Int} {x1 : Int} (hp : e_Pic D cA B S s H) (hS : va_S (e_A B) s.heap H locs) (hl : e_lo ls 2 [(0, e_rv B (x0)), (1, .int (iI (x1)))]) (hsh : k10 S x0 x1 = some res), W p l e ({ frames := 2, cells := 0, slots := 0, locals := 47 } : Room) s m args below meth c H locs 0 0 (MQ below (e_Qv D cA B res) args s 0 0 (e_A B)) (F0 m 10 ls [])) (E : e_En p s m args meth c cX13_copiesSpan RX13 2 none) {ls : Array Slot} {H : Heap} {locs : List Loc} {S : HP} {x0 : Int} {x1 : Int} {y0 : Int} {y1 : Int} {y2 : Int} (hp : e_Pic D cA B S s H) (hS : va_S (e_A B) s.heap H locs) (hl : e_lo ls 2 [(0, e_rv B (x0)), (1, .int (iI (x1)))]) (hsh : s13_copiesSpan_b44 k10 S x0 x1 y0 y1 y2 = some res) : W p l e ({ frames := 2, cells := 0, slots := 0, locals := 47 } : Room) s m args below meth c H locs 0 0 (MQ below (e_Qv D cA B res) args s 0 0 (e_A B)) (F0 m 44 ls [.int (iI (y2)), .int (iI (y1)), e_rv B (y0)]) := by
  obtain ⟨hx, hb, hml, hown, hts, hlk, hrt⟩ := id E
  unfold s13_copiesSpan_b44 at hsh
  refine lv_iload_n hx hb dX13_copiesSpan_44 rfl (hl.at 1 rfl) ?_
  refine e_aload_n (B := B) (x := x0) hx hb dX13_copiesSpan_45 rfl (hl.at 0 rfl) ?_
  obtain ⟨v46, h46, hsh⟩ := Option.bind_eq_some_iff.mp hsh
  refine e_getI (k := 38) hx hb hts in_X13 hown hp h46 rfl (by decide) (by decide) rfl (hts _ kf13_404) rfl dX13_copiesSpan_46 ?_
  refine e_icmp_ne (tgt := 59) hx hb dX13_copiesSpan_49 (by decide) (fun c49 => ?_) (fun c49 => ?_)
  · rw [if_neg c49] at hsh
    refine e_aload_n (B := B) (x := x0) hx hb dX13_copiesSpan_59 rfl (hl.at 0 rfl) ?_
    obtain ⟨v60, h60, hsh⟩ := Option.bind_eq_some_iff.mp hsh
    refine e_getR (k := 3) hx hb hts in_X13 hown hp h60 rfl (by decide) (by decide) rfl (hts _ kf13_17) rfl dX13_copiesSpan_60 ?_
    refine lv_iload_n hx hb dX13_copiesSpan_63 rfl (hl.at 1 rfl) ?_
    obtain ⟨v64, h64, hsh⟩ := Option.bind_eq_some_iff.mp hsh
    refine e_iald hx hb hp h64 dX13_copiesSpan_64 ?_
    exact w13_copiesSpan_b65 (hk10 := hk10) E hp hS (hl.sub [0, 1] rfl) hsh
  · rw [if_pos c49] at hsh
    refine e_aload_n (B := B) (x := x0) hx hb dX13_copiesSpan_52 rfl (hl.at 0 rfl) ?_
    obtain ⟨v53, h53, hsh⟩ := Option.bind_eq_some_iff.mp hsh
    refine e_getI (k := 39) hx hb hts in_X13 hown hp h53 rfl (by decide) (by decide) rfl (hts _ kf13_407) rfl dX13_copiesSpan_53 ?_
    refine lv_goto (tgt := 65) hx hb dX13_copiesSpan_56 (by decide) ?_
    exact w13_copiesSpan_b65 (hk10 := hk10) E hp hS (hl.sub [0, 1] rfl) hsh
set_option maxRecDepth 100000 in
set_option maxHeartbeats 4000000 in
theorem w13_copiesSpan_l10 {p : Program} {l : Launch} {e : Env} {s : State} {m : MethodId} {args : Array Value} {below : List Frame} {meth : Method} {c : Code} {D : va_G} {cA : Nat → ClassId} {B : Nat} {res : HP} (E : e_En p s m args meth c cX13_copiesSpan RX13 2 none) : ∀ (f : Nat) {ls : Array Slot} {H : Heap} {locs : List Loc} {S : HP} {x0 : Int} {x1 : Int} (hp : e_Pic D cA B S s H) (hS : va_S (e_A B) s.heap H locs) (hl : e_lo ls 2 [(0, e_rv B (x0)), (1, .int (iI (x1)))]) (hsh : s13_copiesSpan_l10 f S x0 x1 = some res), W p l e ({ frames := 2, cells := 0, slots := 0, locals := 47 } : Room) s m args below meth c H locs 0 0 (MQ below (e_Qv D cA B res) args s 0 0 (e_A B)) (F0 m 10 ls []) := by
  obtain ⟨hx, hb, hml, hown, hts, hlk, hrt⟩ := id E
  intro f
  induction f with
  | zero => intro ls H locs S x0 x1 hp hS hl hsh; cases hsh
  | succ f ih =>
    intro ls H locs S x0 x1 hp hS hl hsh
    have hk10 : ∀ {ls : Array Slot} {H : Heap} {locs : List Loc} {S : HP} {x0 : Int} {x1 : Int} (hp : e_Pic D cA B S s H) (hS : va_S (e_A B) s.heap H locs) (hl : e_lo ls 2 [(0, e_rv B (x0)), (1, .int (iI (x1)))]) (hsh : (s13_copiesSpan_l10 f) S x0 x1 = some res), W p l e ({ frames := 2, cells := 0, slots := 0, locals := 47 } : Room) s m args below meth c H locs 0 0 (MQ below (e_Qv D cA B res) args s 0 0 (e_A B)) (F0 m 10 ls []) := ih
    generalize hkk : s13_copiesSpan_l10 f = k10 at hk10
    rw [s13_copiesSpan_l10] at hsh
    rw [hkk] at hsh
    try dsimp only at hsh
    refine lv_iload_n hx hb dX13_copiesSpan_10 rfl (hl.at 1 rfl) ?_
    refine e_aload_n (B := B) (x := x0) hx hb dX13_copiesSpan_11 rfl (hl.at 0 rfl) ?_
    obtain ⟨v12, h12, hsh⟩ := Option.bind_eq_some_iff.mp hsh
    refine e_getI (k := 38) hx hb hts in_X13 hown hp h12 rfl (by decide) (by decide) rfl (hts _ kf13_404) rfl dX13_copiesSpan_12 ?_
    refine e_icmp_gt (tgt := 129) hx hb dX13_copiesSpan_15 (by decide) (fun c15 => ?_) (fun c15 => ?_)
    · rw [if_pos c15] at hsh
      cases hsh
      exact e_vret hx hb hrt hlk hp hS dX13_copiesSpan_129
    · rw [if_neg c15] at hsh
      refine e_aload_n (B := B) (x := x0) hx hb dX13_copiesSpan_18 rfl (hl.at 0 rfl) ?_
      obtain ⟨v19, h19, hsh⟩ := Option.bind_eq_some_iff.mp hsh
      refine e_getI (k := 35) hx hb hts in_X13 hown hp h19 rfl (by decide) (by decide) rfl (hts _ kf13_395) rfl dX13_copiesSpan_19 ?_
      refine lv_iconst (v := iI (1)) hx hb dX13_copiesSpan_22 rfl ?_
      refine e_icmp_ne (tgt := 84) hx hb dX13_copiesSpan_23 (by decide) (fun c23 => ?_) (fun c23 => ?_)
      · rw [if_neg c23] at hsh
        refine e_aload_n (B := B) (x := x0) hx hb dX13_copiesSpan_84 rfl (hl.at 0 rfl) ?_
        obtain ⟨v85, h85, hsh⟩ := Option.bind_eq_some_iff.mp hsh
        refine e_getI (k := 35) hx hb hts in_X13 hown hp h85 rfl (by decide) (by decide) rfl (hts _ kf13_395) rfl dX13_copiesSpan_85 ?_
        refine lv_iconst (v := iI (2)) hx hb dX13_copiesSpan_88 rfl ?_
        refine e_icmp_ne (tgt := 108) hx hb dX13_copiesSpan_89 (by decide) (fun c89 => ?_) (fun c89 => ?_)
        · rw [if_neg c89] at hsh
          refine e_aload_n (B := B) (x := x0) hx hb dX13_copiesSpan_108 rfl (hl.at 0 rfl) ?_
          refine lv_iload_n hx hb dX13_copiesSpan_109 rfl (hl.at 1 rfl) ?_
          refine e_aload_n (B := B) (x := x0) hx hb dX13_copiesSpan_110 rfl (hl.at 0 rfl) ?_
          obtain ⟨v111, h111, hsh⟩ := Option.bind_eq_some_iff.mp hsh
          refine e_getI (k := 37) hx hb hts in_X13 hown hp h111 rfl (by decide) (by decide) rfl (hts _ kf13_401) rfl dX13_copiesSpan_111 ?_
          refine e_aload_n (B := B) (x := x0) hx hb dX13_copiesSpan_114 rfl (hl.at 0 rfl) ?_
          refine lv_iload_n hx hb dX13_copiesSpan_115 rfl (hl.at 1 rfl) ?_
          obtain ⟨⟨v116, S116⟩, h116, hsh⟩ := Option.bind_eq_some_iff.mp hsh
          have hsh : _ = _ := hsh
          try dsimp only at hsh
          have ok116 := ok13_segmentEnd h116
          refine e_callI (nL := 2) (mc := 0) (ms := 0) (T := TX13) (N := 126) (As := [.int (iI (x1))]) (rest := [.int (iI (v111)), .int (iI (x1)), e_rv B (x0)]) hx hb hml hown hts hp hS hl.size ok116.1 ok116.2.1 ok116.2.2 rfl (by decide) (c13_segmentEnd l D cA B S S116 (x0) (x1) v116 h116) rfl rfl kd13_segmentEnd (kl13_448) ks13_segmentEnd kv13_segmentEnd ki13 kh13_segmentEnd ⟨Nat.le_of_ble_eq_true rfl, Nat.le_of_ble_eq_true rfl⟩ rfl (by simp [e_rv_cat, e_int_cat]) ⟨Nat.le_refl _, Nat.le_refl _⟩ dX13_copiesSpan_116 rfl (fun H locs hp hS => ?_)
          refine lv_iconst (v := iI (1)) hx hb dX13_copiesSpan_119 rfl ?_
          obtain ⟨S120, h120, hsh⟩ := Option.bind_eq_some_iff.mp hsh
          have ok120 := ok13_copies h120
          refine e_callV (nL := 2) (mc := 0) (ms := 0) (T := TX13) (N := 126) (As := [.int (iI (x1)), .int (iI (v111)), .int (iI (v116)), .int (iI (1))]) (rest := []) hx hb hml hown hts hp hS hl.size ok120.1 ok120.2.1 ok120.2.2 rfl (by decide) (c13_copies l D cA B S116 S120 (x0) (x1) (v111) (v116) (1) h120) rfl rfl kd13_copies (kl13_444) ks13_copies kv13_copies ki13 kh13_copies ⟨Nat.le_of_ble_eq_true rfl, Nat.le_of_ble_eq_true rfl⟩ rfl (by simp [e_rv_cat, e_int_cat]) ⟨Nat.le_refl _, Nat.le_refl _⟩ dX13_copiesSpan_120 rfl (fun H locs hp hS => ?_)
          exact w13_copiesSpan_b123 (hk10 := hk10) E hp hS (hl.sub [0, 1] rfl) hsh
        · rw [if_pos c89] at hsh
          refine e_aload_n (B := B) (x := x0) hx hb dX13_copiesSpan_92 rfl (hl.at 0 rfl) ?_
          refine lv_iload_n hx hb dX13_copiesSpan_93 rfl (hl.at 1 rfl) ?_
          refine lv_iconst (v := iI (0)) hx hb dX13_copiesSpan_94 rfl ?_
          refine e_aload_n (B := B) (x := x0) hx hb dX13_copiesSpan_95 rfl (hl.at 0 rfl) ?_
          obtain ⟨v96, h96, hsh⟩ := Option.bind_eq_some_iff.mp hsh
          refine e_getR (k := 3) hx hb hts in_X13 hown hp h96 rfl (by decide) (by decide) rfl (hts _ kf13_17) rfl dX13_copiesSpan_96 ?_
          refine lv_iload_n hx hb dX13_copiesSpan_99 rfl (hl.at 1 rfl) ?_
          obtain ⟨v100, h100, hsh⟩ := Option.bind_eq_some_iff.mp hsh
          refine e_iald hx hb hp h100 dX13_copiesSpan_100 ?_
          refine lv_iconst (v := iI (1)) hx hb dX13_copiesSpan_101 rfl ?_
          obtain ⟨S102, h102, hsh⟩ := Option.bind_eq_some_iff.mp hsh
          have ok102 := ok13_copies h102
          refine e_callV (nL := 2) (mc := 0) (ms := 0) (T := TX13) (N := 126) (As := [.int (iI (x1)), .int (iI (0)), .int (iI (v100)), .int (iI (1))]) (rest := []) hx hb hml hown hts hp hS hl.size ok102.1 ok102.2.1 ok102.2.2 rfl (by decide) (c13_copies l D cA B S S102 (x0) (x1) (0) (v100) (1) h102) rfl rfl kd13_copies (kl13_444) ks13_copies kv13_copies ki13 kh13_copies ⟨Nat.le_of_ble_eq_true rfl, Nat.le_of_ble_eq_true rfl⟩ rfl (by simp [e_rv_cat, e_int_cat]) ⟨Nat.le_refl _, Nat.le_refl _⟩ dX13_copiesSpan_102 rfl (fun H locs hp hS => ?_)
          refine lv_goto (tgt := 123) hx hb dX13_copiesSpan_105 (by decide) ?_
          exact w13_copiesSpan_b123 (hk10 := hk10) E hp hS (hl.sub [0, 1] rfl) hsh
      · rw [if_pos c23] at hsh
        refine e_aload_n (B := B) (x := x0) hx hb dX13_copiesSpan_26 rfl (hl.at 0 rfl) ?_
        refine lv_iload_n hx hb dX13_copiesSpan_27 rfl (hl.at 1 rfl) ?_
        refine lv_iload_n hx hb dX13_copiesSpan_28 rfl (hl.at 1 rfl) ?_
        refine e_aload_n (B := B) (x := x0) hx hb dX13_copiesSpan_29 rfl (hl.at 0 rfl) ?_
        obtain ⟨v30, h30, hsh⟩ := Option.bind_eq_some_iff.mp hsh
        refine e_getI (k := 36) hx hb hts in_X13 hown hp h30 rfl (by decide) (by decide) rfl (hts _ kf13_398) rfl dX13_copiesSpan_30 ?_
        refine e_icmp_ne (tgt := 43) hx hb dX13_copiesSpan_33 (by decide) (fun c33 => ?_) (fun c33 => ?_)
        · rw [if_neg c33] at hsh
          refine lv_iconst (v := iI (0)) hx hb dX13_copiesSpan_43 rfl ?_
          exact w13_copiesSpan_b44 (hk10 := hk10) E hp hS (hl.sub [0, 1] rfl) hsh
        · rw [if_pos c33] at hsh
          refine e_aload_n (B := B) (x := x0) hx hb dX13_copiesSpan_36 rfl (hl.at 0 rfl) ?_
          obtain ⟨v37, h37, hsh⟩ := Option.bind_eq_some_iff.mp hsh
          refine e_getI (k := 37) hx hb hts in_X13 hown hp h37 rfl (by decide) (by decide) rfl (hts _ kf13_401) rfl dX13_copiesSpan_37 ?_
          refine lv_goto (tgt := 44) hx hb dX13_copiesSpan_40 (by decide) ?_
          exact w13_copiesSpan_b44 (hk10 := hk10) E hp hS (hl.sub [0, 1] rfl) hsh
set_option maxRecDepth 100000 in
set_option maxHeartbeats 4000000 in
theorem c13_copiesSpan (l : Launch) (D : va_G) (cA : Nat → ClassId) (B : Nat) (S S' : HP) (x0 : Int) (hsh : s13_copiesSpan S x0 = some S') : Met l yX13_copiesSpan (e_wu yX13_copiesSpan cX13_copiesSpan 2 none) ({ frames := 2, cells := 0, slots := 0, locals := 47 } : Room) (va_Pc [e_rv B (x0)] (fun U => e_PU D cA B S U)) (e_Qv D cA B S') 0 0 (e_A B) := by
  refine Met.ofW (cc := cX13_copiesSpan) (maxL := 2) (ret := none) (by decide +kernel) rfl ?_
  intro p e s m args below meth c s₁ Bd hml hv
  obtain ⟨rfl, hp⟩ := hv
  have hp : e_Pic D cA B S s s.heap := hp
  have hx := Bd.exec
  have hb := Bd.bytes
  have hrt := Bd.returns
  have hlk := Bd.notSynchronized
  have hown : s.vm.findClass RX13 = some m.cls := findClass_of_methodNamed Bd.named
  have hts : ∀ w ∈ e_tb, w.before ([e_rv B (x0)] : List Value).toArray s = true := fun w h => atoms_spec (ws := (e_wu yX13_copiesSpan cX13_copiesSpan 2 none)) Bd.pre w (List.mem_cons_of_mem _ h)
  have E : e_En p s m ([e_rv B (x0)] : List Value).toArray meth c cX13_copiesSpan RX13 2 none := ⟨hx, hb, hml, hown, hts, hlk, hrt⟩
  have hS : va_S (e_A B) s.heap s.heap [] := va_S.rf
  have hl := e_entry (vs := [e_rv B (x0)]) (n := 2) (Nat.le_of_ble_eq_true rfl) (e_cc (e_rv_cat _ _) e_cn)
  rw [lg_entry_eq]
  generalize (lg_sl [e_rv B (x0)] ++ List.replicate (2 - (lg_sl [e_rv B (x0)]).length) Slot.unset).toArray = ls at hl ⊢
  generalize ([e_rv B (x0)] : List Value).toArray = args at hts E ⊢
  have hl : e_lo ls 2 [(0, e_rv B (x0))] := hl
  have hsh := (gd_some hsh).2
  refine e_aload_n (B := B) (x := x0) hx hb dX13_copiesSpan_0 rfl (hl.at 0 rfl) ?_
  refine lv_iconst (v := iI (0)) hx hb dX13_copiesSpan_1 rfl ?_
  obtain ⟨S2, h2, hsh⟩ := Option.bind_eq_some_iff.mp hsh
  refine e_putI (k := 40) hx hb hts in_X13 tyX13 tyX13_ok nmX13 hown hp hS h2 rfl (by decide) (by decide) rfl (hts _ kf13_441) rfl rfl (by decide +kernel) dX13_copiesSpan_2 (fun H locs hp hS => ?_)
  refine e_aload_n (B := B) (x := x0) hx hb dX13_copiesSpan_5 rfl (hl.at 0 rfl) ?_
  obtain ⟨v6, h6, hsh⟩ := Option.bind_eq_some_iff.mp hsh
  refine e_getI (k := 36) hx hb hts in_X13 hown hp h6 rfl (by decide) (by decide) rfl (hts _ kf13_398) rfl dX13_copiesSpan_6 ?_
  refine e_istore_n (lv' := [(1, .int (iI (v6))), (0, e_rv B (x0))]) hx hb dX13_copiesSpan_9 rfl hl (by decide) rfl (fun ls hl => ?_)
  exact w13_copiesSpan_l10 E 1000000 hp hS (hl.sub [1, 0] rfl) hsh
theorem ok13_setsRegister {S : HP} {x0 : Int} {x1 : Int} {r : HP} (h : s13_setsRegister S x0 x1 = some r) : 0 ≤ x0 ∧ x0.toNat < e_n S ∧ e_g S x0.toNat = 13 := (gd_some h).1
set_option maxRecDepth 100000 in
set_option maxHeartbeats 4000000 in
theorem w13_setsRegister_l22 {p : Program} {l : Launch} {e : Env} {s : State} {m : MethodId} {args : Array Value} {below : List Frame} {meth : Method} {c : Code} {D : va_G} {cA : Nat → ClassId} {B : Nat} {res : HP} (E : e_En p s m args meth c cX13_setsRegister RX13 3 none) : ∀ (f : Nat) {ls : Array Slot} {H : Heap} {locs : List Loc} {S : HP} {x0 : Int} {x1 : Int} {x2 : Int} (hp : e_Pic D cA B S s H) (hS : va_S (e_A B) s.heap H locs) (hl : e_lo ls 3 [(0, e_rv B (x0)), (1, .int (iI (x1))), (2, .int (iI (x2)))]) (hsh : s13_setsRegister_l22 f S x0 x1 x2 = some res), W p l e ({ frames := 0, cells := 0, slots := 0, locals := 0 } : Room) s m args below meth c H locs 0 0 (MQ below (e_Qv D cA B res) args s 0 0 (e_A B)) (F0 m 22 ls []) := by
  obtain ⟨hx, hb, hml, hown, hts, hlk, hrt⟩ := id E
  intro f
  induction f with
  | zero => intro ls H locs S x0 x1 x2 hp hS hl hsh; cases hsh
  | succ f ih =>
    intro ls H locs S x0 x1 x2 hp hS hl hsh
    have hk22 : ∀ {ls : Array Slot} {H : Heap} {locs : List Loc} {S : HP} {x0 : Int} {x1 : Int} {x2 : Int} (hp : e_Pic D cA B S s H) (hS : va_S (e_A B) s.heap H locs) (hl : e_lo ls 3 [(0, e_rv B (x0)), (1, .int (iI (x1))), (2, .int (iI (x2)))]) (hsh : (s13_setsRegister_l22 f) S x0 x1 x2 = some res), W p l e ({ frames := 0, cells := 0, slots := 0, locals := 0 } : Room) s m args below meth c H locs 0 0 (MQ below (e_Qv D cA B res) args s 0 0 (e_A B)) (F0 m 22 ls []) := ih
    generalize hkk : s13_setsRegister_l22 f = k22 at hk22
    rw [s13_setsRegister_l22] at hsh
    rw [hkk] at hsh
    try dsimp only at hsh
    refine lv_iload_n hx hb dX13_setsRegister_22 rfl (hl.at 2 rfl) ?_
    refine e_aload_n (B := B) (x := x0) hx hb dX13_setsRegister_23 rfl (hl.at 0 rfl) ?_
    obtain ⟨v24, h24, hsh⟩ := Option.bind_eq_some_iff.mp hsh
    refine e_getI (k := 40) hx hb hts in_X13 hown hp h24 rfl (by decide) (by decide) rfl (hts _ kf13_441) rfl dX13_setsRegister_24 ?_
    refine e_icmp_ge (tgt := 54) hx hb dX13_setsRegister_27 (by decide) (fun c27 => ?_) (fun c27 => ?_)
    · rw [if_pos c27] at hsh
      cases hsh
      exact e_vret hx hb hrt hlk hp hS dX13_setsRegister_54
    · rw [if_neg c27] at hsh
      refine e_aload_n (B := B) (x := x0) hx hb dX13_setsRegister_30 rfl (hl.at 0 rfl) ?_
      obtain ⟨v31, h31, hsh⟩ := Option.bind_eq_some_iff.mp hsh
      refine e_getR (k := 13) hx hb hts in_X13 hown hp h31 rfl (by decide) (by decide) rfl (hts _ kf13_30) rfl dX13_setsRegister_31 ?_
      refine lv_sipush (v := iI (3000)) hx hb dX13_setsRegister_34 (by decide +kernel) ?_
      refine lv_iload_n hx hb dX13_setsRegister_37 rfl (hl.at 1 rfl) ?_
      refine e_imul hx hb dX13_setsRegister_38 ?_
      refine lv_iload_n hx hb dX13_setsRegister_39 rfl (hl.at 2 rfl) ?_
      refine e_iadd hx hb dX13_setsRegister_40 ?_
      refine e_aload_n (B := B) (x := x0) hx hb dX13_setsRegister_41 rfl (hl.at 0 rfl) ?_
      obtain ⟨v42, h42, hsh⟩ := Option.bind_eq_some_iff.mp hsh
      refine e_getR (k := 41) hx hb hts in_X13 hown hp h42 rfl (by decide) (by decide) rfl (hts _ kf13_80) rfl dX13_setsRegister_42 ?_
      refine lv_iload_n hx hb dX13_setsRegister_45 rfl (hl.at 2 rfl) ?_
      obtain ⟨v46, h46, hsh⟩ := Option.bind_eq_some_iff.mp hsh
      refine e_iald hx hb hp h46 dX13_setsRegister_46 ?_
      obtain ⟨S47, h47, hsh⟩ := Option.bind_eq_some_iff.mp hsh
      refine e_iast hx hb hp hS h47 dX13_setsRegister_47 (fun H locs hp hS => ?_)
      refine e_iinc (n := 1) (x := x2) (lv' := [(2, .int (iI ((x2 + 1)))), (0, e_rv B (x0)), (1, .int (iI (x1)))]) hx hb dX13_setsRegister_48 hl (k := 2) rfl (by decide) rfl (fun ls hl => ?_)
      refine lv_goto (tgt := 22) hx hb dX13_setsRegister_51 (by decide) ?_
      exact hk22 hp hS (hl.sub [1, 2, 0] rfl) hsh
set_option maxRecDepth 100000 in
set_option maxHeartbeats 4000000 in
theorem c13_setsRegister (l : Launch) (D : va_G) (cA : Nat → ClassId) (B : Nat) (S S' : HP) (x0 : Int) (x1 : Int) (hsh : s13_setsRegister S x0 x1 = some S') : Met l yX13_setsRegister (e_wu yX13_setsRegister cX13_setsRegister 3 none) ({ frames := 0, cells := 0, slots := 0, locals := 0 } : Room) (va_Pc [e_rv B (x0), .int (iI (x1))] (fun U => e_PU D cA B S U)) (e_Qv D cA B S') 0 0 (e_A B) := by
  refine Met.ofW (cc := cX13_setsRegister) (maxL := 3) (ret := none) (by decide +kernel) rfl ?_
  intro p e s m args below meth c s₁ Bd hml hv
  obtain ⟨rfl, hp⟩ := hv
  have hp : e_Pic D cA B S s s.heap := hp
  have hx := Bd.exec
  have hb := Bd.bytes
  have hrt := Bd.returns
  have hlk := Bd.notSynchronized
  have hown : s.vm.findClass RX13 = some m.cls := findClass_of_methodNamed Bd.named
  have hts : ∀ w ∈ e_tb, w.before ([e_rv B (x0), .int (iI (x1))] : List Value).toArray s = true := fun w h => atoms_spec (ws := (e_wu yX13_setsRegister cX13_setsRegister 3 none)) Bd.pre w (List.mem_cons_of_mem _ h)
  have E : e_En p s m ([e_rv B (x0), .int (iI (x1))] : List Value).toArray meth c cX13_setsRegister RX13 3 none := ⟨hx, hb, hml, hown, hts, hlk, hrt⟩
  have hS : va_S (e_A B) s.heap s.heap [] := va_S.rf
  have hl := e_entry (vs := [e_rv B (x0), .int (iI (x1))]) (n := 3) (Nat.le_of_ble_eq_true rfl) (e_cc (e_rv_cat _ _) (e_cc rfl e_cn))
  rw [lg_entry_eq]
  generalize (lg_sl [e_rv B (x0), .int (iI (x1))] ++ List.replicate (3 - (lg_sl [e_rv B (x0), .int (iI (x1))]).length) Slot.unset).toArray = ls at hl ⊢
  generalize ([e_rv B (x0), .int (iI (x1))] : List Value).toArray = args at hts E ⊢
  have hl : e_lo ls 3 [(0, e_rv B (x0)), (1, .int (iI (x1)))] := hl
  have hsh := (gd_some hsh).2
  refine e_aload_n (B := B) (x := x0) hx hb dX13_setsRegister_0 rfl (hl.at 0 rfl) ?_
  obtain ⟨v1, h1, hsh⟩ := Option.bind_eq_some_iff.mp hsh
  refine e_getR (k := 11) hx hb hts in_X13 hown hp h1 rfl (by decide) (by decide) rfl (hts _ kf13_23) rfl dX13_setsRegister_1 ?_
  refine lv_iload_n hx hb dX13_setsRegister_4 rfl (hl.at 1 rfl) ?_
  refine e_aload_n (B := B) (x := x0) hx hb dX13_setsRegister_5 rfl (hl.at 0 rfl) ?_
  obtain ⟨v6, h6, hsh⟩ := Option.bind_eq_some_iff.mp hsh
  refine e_getI (k := 35) hx hb hts in_X13 hown hp h6 rfl (by decide) (by decide) rfl (hts _ kf13_395) rfl dX13_setsRegister_6 ?_
  obtain ⟨S9, h9, hsh⟩ := Option.bind_eq_some_iff.mp hsh
  refine e_iast hx hb hp hS h9 dX13_setsRegister_9 (fun H locs hp hS => ?_)
  refine e_aload_n (B := B) (x := x0) hx hb dX13_setsRegister_10 rfl (hl.at 0 rfl) ?_
  obtain ⟨v11, h11, hsh⟩ := Option.bind_eq_some_iff.mp hsh
  refine e_getR (k := 12) hx hb hts in_X13 hown hp h11 rfl (by decide) (by decide) rfl (hts _ kf13_26) rfl dX13_setsRegister_11 ?_
  refine lv_iload_n hx hb dX13_setsRegister_14 rfl (hl.at 1 rfl) ?_
  refine e_aload_n (B := B) (x := x0) hx hb dX13_setsRegister_15 rfl (hl.at 0 rfl) ?_
  obtain ⟨v16, h16, hsh⟩ := Option.bind_eq_some_iff.mp hsh
  refine e_getI (k := 40) hx hb hts in_X13 hown hp h16 rfl (by decide) (by decide) rfl (hts _ kf13_441) rfl dX13_setsRegister_16 ?_
  obtain ⟨S19, h19, hsh⟩ := Option.bind_eq_some_iff.mp hsh
  refine e_iast hx hb hp hS h19 dX13_setsRegister_19 (fun H locs hp hS => ?_)
  refine lv_iconst (v := iI (0)) hx hb dX13_setsRegister_20 rfl ?_
  refine e_istore_n (lv' := [(2, .int (iI (0))), (0, e_rv B (x0)), (1, .int (iI (x1)))]) hx hb dX13_setsRegister_21 rfl hl (by decide) rfl (fun ls hl => ?_)
  exact w13_setsRegister_l22 E 1000000 hp hS (hl.sub [1, 2, 0] rfl) hsh
theorem ok13_addsCode {S : HP} {x0 : Int} {x1 : Int} {x2 : Int} {r : HP} (h : s13_addsCode S x0 x1 x2 = some r) : 0 ≤ x0 ∧ x0.toNat < e_n S ∧ e_g S x0.toNat = 13 := (gd_some h).1
set_option maxRecDepth 100000 in
set_option maxHeartbeats 4000000 in
theorem c13_addsCode (l : Launch) (D : va_G) (cA : Nat → ClassId) (B : Nat) (S S' : HP) (x0 : Int) (x1 : Int) (x2 : Int) (hsh : s13_addsCode S x0 x1 x2 = some S') : Met l yX13_addsCode (e_wu yX13_addsCode cX13_addsCode 3 none) ({ frames := 0, cells := 0, slots := 0, locals := 0 } : Room) (va_Pc [e_rv B (x0), .int (iI (x1)), .int (iI (x2))] (fun U => e_PU D cA B S U)) (e_Qv D cA B S') 0 0 (e_A B) := by
  refine Met.ofW (cc := cX13_addsCode) (maxL := 3) (ret := none) (by decide +kernel) rfl ?_
  intro p e s m args below meth c s₁ Bd hml hv
  obtain ⟨rfl, hp⟩ := hv
  have hp : e_Pic D cA B S s s.heap := hp
  have hx := Bd.exec
  have hb := Bd.bytes
  have hrt := Bd.returns
  have hlk := Bd.notSynchronized
  have hown : s.vm.findClass RX13 = some m.cls := findClass_of_methodNamed Bd.named
  have hts : ∀ w ∈ e_tb, w.before ([e_rv B (x0), .int (iI (x1)), .int (iI (x2))] : List Value).toArray s = true := fun w h => atoms_spec (ws := (e_wu yX13_addsCode cX13_addsCode 3 none)) Bd.pre w (List.mem_cons_of_mem _ h)
  have E : e_En p s m ([e_rv B (x0), .int (iI (x1)), .int (iI (x2))] : List Value).toArray meth c cX13_addsCode RX13 3 none := ⟨hx, hb, hml, hown, hts, hlk, hrt⟩
  have hS : va_S (e_A B) s.heap s.heap [] := va_S.rf
  have hl := e_entry (vs := [e_rv B (x0), .int (iI (x1)), .int (iI (x2))]) (n := 3) (Nat.le_of_ble_eq_true rfl) (e_cc (e_rv_cat _ _) (e_cc rfl (e_cc rfl e_cn)))
  rw [lg_entry_eq]
  generalize (lg_sl [e_rv B (x0), .int (iI (x1)), .int (iI (x2))] ++ List.replicate (3 - (lg_sl [e_rv B (x0), .int (iI (x1)), .int (iI (x2))]).length) Slot.unset).toArray = ls at hl ⊢
  generalize ([e_rv B (x0), .int (iI (x1)), .int (iI (x2))] : List Value).toArray = args at hts E ⊢
  have hl : e_lo ls 3 [(0, e_rv B (x0)), (1, .int (iI (x1))), (2, .int (iI (x2)))] := hl
  have hsh := (gd_some hsh).2
  refine e_aload_n (B := B) (x := x0) hx hb dX13_addsCode_0 rfl (hl.at 0 rfl) ?_
  obtain ⟨v1, h1, hsh⟩ := Option.bind_eq_some_iff.mp hsh
  refine e_getR (k := 13) hx hb hts in_X13 hown hp h1 rfl (by decide) (by decide) rfl (hts _ kf13_30) rfl dX13_addsCode_1 ?_
  refine lv_sipush (v := iI (3000)) hx hb dX13_addsCode_4 (by decide +kernel) ?_
  refine lv_iload_n hx hb dX13_addsCode_7 rfl (hl.at 1 rfl) ?_
  refine e_imul hx hb dX13_addsCode_8 ?_
  refine e_aload_n (B := B) (x := x0) hx hb dX13_addsCode_9 rfl (hl.at 0 rfl) ?_
  obtain ⟨v10, h10, hsh⟩ := Option.bind_eq_some_iff.mp hsh
  refine e_getR (k := 12) hx hb hts in_X13 hown hp h10 rfl (by decide) (by decide) rfl (hts _ kf13_26) rfl dX13_addsCode_10 ?_
  refine lv_iload_n hx hb dX13_addsCode_13 rfl (hl.at 1 rfl) ?_
  obtain ⟨v14, h14, hsh⟩ := Option.bind_eq_some_iff.mp hsh
  refine e_iald hx hb hp h14 dX13_addsCode_14 ?_
  refine e_iadd hx hb dX13_addsCode_15 ?_
  refine lv_iload_n hx hb dX13_addsCode_16 rfl (hl.at 2 rfl) ?_
  obtain ⟨S17, h17, hsh⟩ := Option.bind_eq_some_iff.mp hsh
  refine e_iast hx hb hp hS h17 dX13_addsCode_17 (fun H locs hp hS => ?_)
  refine e_aload_n (B := B) (x := x0) hx hb dX13_addsCode_18 rfl (hl.at 0 rfl) ?_
  obtain ⟨v19, h19, hsh⟩ := Option.bind_eq_some_iff.mp hsh
  refine e_getR (k := 12) hx hb hts in_X13 hown hp h19 rfl (by decide) (by decide) rfl (hts _ kf13_26) rfl dX13_addsCode_19 ?_
  refine lv_iload_n hx hb dX13_addsCode_22 rfl (hl.at 1 rfl) ?_
  refine lv_dup2_11 hx hb dX13_addsCode_23 rfl (e_rv_cat _ _) ?_
  obtain ⟨v24, h24, hsh⟩ := Option.bind_eq_some_iff.mp hsh
  refine e_iald hx hb hp h24 dX13_addsCode_24 ?_
  refine lv_iconst (v := iI (1)) hx hb dX13_addsCode_25 rfl ?_
  refine e_iadd hx hb dX13_addsCode_26 ?_
  obtain ⟨S27, h27, hsh⟩ := Option.bind_eq_some_iff.mp hsh
  refine e_iast hx hb hp hS h27 dX13_addsCode_27 (fun H locs hp hS => ?_)
  cases hsh
  exact e_vret hx hb hrt hlk hp hS dX13_addsCode_28
theorem ok13_addsRegister {S : HP} {x0 : Int} {x1 : Int} {r : HP} (h : s13_addsRegister S x0 x1 = some r) : 0 ≤ x0 ∧ x0.toNat < e_n S ∧ e_g S x0.toNat = 13 := (gd_some h).1
set_option maxRecDepth 100000 in
set_option maxHeartbeats 4000000 in
theorem w13_addsRegister_b120 {p : Program} {l : Launch} {e : Env} {s : State} {m : MethodId} {args : Array Value} {below : List Frame} {meth : Method} {c : Code} {D : va_G} {cA : Nat → ClassId} {B : Nat} {res : HP} (E : e_En p s m args meth c cX13_addsRegister RX13 4 none) {ls : Array Slot} {H : Heap} {locs : List Loc} {S : HP} {y0 : Int} {y1 : Int} {y2 : Int} (hp : e_Pic D cA B S s H) (hS : va_S (e_A B) s.heap H locs) (hl : e_lo ls 4 []) (hsh : s13_addsRegister_b120 S y0 y1 y2 = some res) : W p l e ({ frames := 1, cells := 0, slots := 0, locals := 22 } : Room) s m args below meth c H locs 0 0 (MQ below (e_Qv D cA B res) args s 0 0 (e_A B)) (F0 m 120 ls [.int (iI (y2)), .int (iI (y1)), e_rv B (y0)]) := by
  obtain ⟨hx, hb, hml, hown, hts, hlk, hrt⟩ := id E
  unfold s13_addsRegister_b120 at hsh
  obtain ⟨S120, h120, hsh⟩ := Option.bind_eq_some_iff.mp hsh
  refine e_iast hx hb hp hS h120 dX13_addsRegister_120 (fun H locs hp hS => ?_)
  cases hsh
  exact e_vret hx hb hrt hlk hp hS dX13_addsRegister_121
set_option maxRecDepth 100000 in
set_option maxHeartbeats 4000000 in
theorem w13_addsRegister_b106 {p : Program} {l : Launch} {e : Env} {s : State} {m : MethodId} {args : Array Value} {below : List Frame} {meth : Method} {c : Code} {D : va_G} {cA : Nat → ClassId} {B : Nat} {res : HP} (E : e_En p s m args meth c cX13_addsRegister RX13 4 none) {ls : Array Slot} {H : Heap} {locs : List Loc} {S : HP} {x0 : Int} {x1 : Int} {x2 : Int} (hp : e_Pic D cA B S s H) (hS : va_S (e_A B) s.heap H locs) (hl : e_lo ls 4 [(0, e_rv B (x0)), (1, .int (iI (x1))), (2, .int (iI (x2)))]) (hsh : s13_addsRegister_b106 S x0 x1 x2 = some res) : W p l e ({ frames := 1, cells := 0, slots := 0, locals := 22 } : Room) s m args below meth c H locs 0 0 (MQ below (e_Qv D cA B res) args s 0 0 (e_A B)) (F0 m 106 ls []) := by
  obtain ⟨hx, hb, hml, hown, hts, hlk, hrt⟩ := id E
  unfold s13_addsRegister_b106 at hsh
  refine e_aload_n (B := B) (x := x0) hx hb dX13_addsRegister_106 rfl (hl.at 0 rfl) ?_
  obtain ⟨v107, h107, hsh⟩ := Option.bind_eq_some_iff.mp hsh
  refine e_getR (k := 11) hx hb hts in_X13 hown hp h107 rfl (by decide) (by decide) rfl (hts _ kf13_23) rfl dX13_addsRegister_107 ?_
  refine lv_iload_n hx hb dX13_addsRegister_110 rfl (hl.at 1 rfl) ?_
  refine lv_iload_n hx hb dX13_addsRegister_111 rfl (hl.at 2 rfl) ?_
  refine e_if_eq (tgt := 119) hx hb dX13_addsRegister_112 (by decide) (fun c112 => ?_) (fun c112 => ?_)
  · rw [if_pos c112] at hsh
    refine lv_iconst (v := iI (1)) hx hb dX13_addsRegister_119 rfl ?_
    exact w13_addsRegister_b120 E hp hS (hl.sub [] rfl) hsh
  · rw [if_neg c112] at hsh
    refine lv_iconst (v := iI (2)) hx hb dX13_addsRegister_115 rfl ?_
    refine lv_goto (tgt := 120) hx hb dX13_addsRegister_116 (by decide) ?_
    exact w13_addsRegister_b120 E hp hS (hl.sub [] rfl) hsh
set_option maxRecDepth 100000 in
set_option maxHeartbeats 4000000 in
theorem w13_addsRegister_l62 {p : Program} {l : Launch} {e : Env} {s : State} {m : MethodId} {args : Array Value} {below : List Frame} {meth : Method} {c : Code} {D : va_G} {cA : Nat → ClassId} {B : Nat} {res : HP} (E : e_En p s m args meth c cX13_addsRegister RX13 4 none) : ∀ (f : Nat) {ls : Array Slot} {H : Heap} {locs : List Loc} {S : HP} {x0 : Int} {x1 : Int} {x2 : Int} {x3 : Int} (hp : e_Pic D cA B S s H) (hS : va_S (e_A B) s.heap H locs) (hl : e_lo ls 4 [(0, e_rv B (x0)), (1, .int (iI (x1))), (2, .int (iI (x2))), (3, .int (iI (x3)))]) (hsh : s13_addsRegister_l62 f S x0 x1 x2 x3 = some res), W p l e ({ frames := 1, cells := 0, slots := 0, locals := 22 } : Room) s m args below meth c H locs 0 0 (MQ below (e_Qv D cA B res) args s 0 0 (e_A B)) (F0 m 62 ls []) := by
  obtain ⟨hx, hb, hml, hown, hts, hlk, hrt⟩ := id E
  intro f
  induction f with
  | zero => intro ls H locs S x0 x1 x2 x3 hp hS hl hsh; cases hsh
  | succ f ih =>
    intro ls H locs S x0 x1 x2 x3 hp hS hl hsh
    have hk62 : ∀ {ls : Array Slot} {H : Heap} {locs : List Loc} {S : HP} {x0 : Int} {x1 : Int} {x2 : Int} {x3 : Int} (hp : e_Pic D cA B S s H) (hS : va_S (e_A B) s.heap H locs) (hl : e_lo ls 4 [(0, e_rv B (x0)), (1, .int (iI (x1))), (2, .int (iI (x2))), (3, .int (iI (x3)))]) (hsh : (s13_addsRegister_l62 f) S x0 x1 x2 x3 = some res), W p l e ({ frames := 1, cells := 0, slots := 0, locals := 22 } : Room) s m args below meth c H locs 0 0 (MQ below (e_Qv D cA B res) args s 0 0 (e_A B)) (F0 m 62 ls []) := ih
    generalize hkk : s13_addsRegister_l62 f = k62 at hk62
    rw [s13_addsRegister_l62] at hsh
    rw [hkk] at hsh
    try dsimp only at hsh
    refine lv_iload_n hx hb dX13_addsRegister_62 rfl (hl.at 3 rfl) ?_
    refine e_aload_n (B := B) (x := x0) hx hb dX13_addsRegister_63 rfl (hl.at 0 rfl) ?_
    obtain ⟨v64, h64, hsh⟩ := Option.bind_eq_some_iff.mp hsh
    refine e_getI (k := 40) hx hb hts in_X13 hown hp h64 rfl (by decide) (by decide) rfl (hts _ kf13_441) rfl dX13_addsRegister_64 ?_
    refine e_icmp_ge (tgt := 87) hx hb dX13_addsRegister_67 (by decide) (fun c67 => ?_) (fun c67 => ?_)
    · rw [if_pos c67] at hsh
      refine lv_iload_n hx hb dX13_addsRegister_87 rfl (hl.at 2 rfl) ?_
      refine e_if_eq (tgt := 106) hx hb dX13_addsRegister_88 (by decide) (fun c88 => ?_) (fun c88 => ?_)
      · rw [if_pos c88] at hsh
        exact w13_addsRegister_b106 E hp hS (hl.sub [0, 1, 2] rfl) hsh
      · rw [if_neg c88] at hsh
        refine e_aload_n (B := B) (x := x0) hx hb dX13_addsRegister_91 rfl (hl.at 0 rfl) ?_
        obtain ⟨v92, h92, hsh⟩ := Option.bind_eq_some_iff.mp hsh
        refine e_getI (k := 35) hx hb hts in_X13 hown hp h92 rfl (by decide) (by decide) rfl (hts _ kf13_395) rfl dX13_addsRegister_92 ?_
        refine lv_iconst (v := iI (1)) hx hb dX13_addsRegister_95 rfl ?_
        refine e_icmp_ne (tgt := 106) hx hb dX13_addsRegister_96 (by decide) (fun c96 => ?_) (fun c96 => ?_)
        · rw [if_neg c96] at hsh
          exact w13_addsRegister_b106 E hp hS (hl.sub [0, 1, 2] rfl) hsh
        · rw [if_pos c96] at hsh
          refine e_aload_n (B := B) (x := x0) hx hb dX13_addsRegister_99 rfl (hl.at 0 rfl) ?_
          refine lv_iload_n hx hb dX13_addsRegister_100 rfl (hl.at 1 rfl) ?_
          refine lv_bipush (v := iI (10)) hx hb dX13_addsRegister_101 (by decide +kernel) ?_
          obtain ⟨S103, h103, hsh⟩ := Option.bind_eq_some_iff.mp hsh
          have ok103 := ok13_addsCode h103
          refine e_callV (nL := 4) (mc := 0) (ms := 0) (T := TX13) (N := 126) (As := [.int (iI (x1)), .int (iI (10))]) (rest := []) hx hb hml hown hts hp hS hl.size ok103.1 ok103.2.1 ok103.2.2 rfl (by decide) (c13_addsCode l D cA B S S103 (x0) (x1) (10) h103) rfl rfl kd13_addsCode (kl13_454) ks13_addsCode kv13_addsCode ki13 kh13_addsCode ⟨Nat.le_of_ble_eq_true rfl, Nat.le_of_ble_eq_true rfl⟩ rfl (by simp [e_rv_cat, e_int_cat]) ⟨Nat.le_refl _, Nat.le_refl _⟩ dX13_addsRegister_103 rfl (fun H locs hp hS => ?_)
          exact w13_addsRegister_b106 E hp hS (hl.sub [0, 1, 2] rfl) hsh
    · rw [if_neg c67] at hsh
      refine e_aload_n (B := B) (x := x0) hx hb dX13_addsRegister_70 rfl (hl.at 0 rfl) ?_
      refine lv_iload_n hx hb dX13_addsRegister_71 rfl (hl.at 1 rfl) ?_
      refine e_aload_n (B := B) (x := x0) hx hb dX13_addsRegister_72 rfl (hl.at 0 rfl) ?_
      obtain ⟨v73, h73, hsh⟩ := Option.bind_eq_some_iff.mp hsh
      refine e_getR (k := 41) hx hb hts in_X13 hown hp h73 rfl (by decide) (by decide) rfl (hts _ kf13_80) rfl dX13_addsRegister_73 ?_
      refine lv_iload_n hx hb dX13_addsRegister_76 rfl (hl.at 3 rfl) ?_
      obtain ⟨v77, h77, hsh⟩ := Option.bind_eq_some_iff.mp hsh
      refine e_iald hx hb hp h77 dX13_addsRegister_77 ?_
      obtain ⟨S78, h78, hsh⟩ := Option.bind_eq_some_iff.mp hsh
      have ok78 := ok13_addsCode h78
      refine e_callV (nL := 4) (mc := 0) (ms := 0) (T := TX13) (N := 126) (As := [.int (iI (x1)), .int (iI (v77))]) (rest := []) hx hb hml hown hts hp hS hl.size ok78.1 ok78.2.1 ok78.2.2 rfl (by decide) (c13_addsCode l D cA B S S78 (x0) (x1) (v77) h78) rfl rfl kd13_addsCode (kl13_454) ks13_addsCode kv13_addsCode ki13 kh13_addsCode ⟨Nat.le_of_ble_eq_true rfl, Nat.le_of_ble_eq_true rfl⟩ rfl (by simp [e_rv_cat, e_int_cat]) ⟨Nat.le_refl _, Nat.le_refl _⟩ dX13_addsRegister_78 rfl (fun H locs hp hS => ?_)
      refine e_iinc (n := 1) (x := x3) (lv' := [(3, .int (iI ((x3 + 1)))), (0, e_rv B (x0)), (1, .int (iI (x1))), (2, .int (iI (x2)))]) hx hb dX13_addsRegister_81 hl (k := 3) rfl (by decide) rfl (fun ls hl => ?_)
      refine lv_goto (tgt := 62) hx hb dX13_addsRegister_84 (by decide) ?_
      exact hk62 hp hS (hl.sub [1, 2, 3, 0] rfl) hsh
set_option maxRecDepth 100000 in
set_option maxHeartbeats 4000000 in
theorem w13_addsRegister_b60 {p : Program} {l : Launch} {e : Env} {s : State} {m : MethodId} {args : Array Value} {below : List Frame} {meth : Method} {c : Code} {D : va_G} {cA : Nat → ClassId} {B : Nat} {res : HP} (E : e_En p s m args meth c cX13_addsRegister RX13 4 none) {ls : Array Slot} {H : Heap} {locs : List Loc} {S : HP} {x0 : Int} {x1 : Int} {x2 : Int} (hp : e_Pic D cA B S s H) (hS : va_S (e_A B) s.heap H locs) (hl : e_lo ls 4 [(0, e_rv B (x0)), (1, .int (iI (x1))), (2, .int (iI (x2)))]) (hsh : s13_addsRegister_b60 S x0 x1 x2 = some res) : W p l e ({ frames := 1, cells := 0, slots := 0, locals := 22 } : Room) s m args below meth c H locs 0 0 (MQ below (e_Qv D cA B res) args s 0 0 (e_A B)) (F0 m 60 ls []) := by
  obtain ⟨hx, hb, hml, hown, hts, hlk, hrt⟩ := id E
  unfold s13_addsRegister_b60 at hsh
  refine lv_iconst (v := iI (0)) hx hb dX13_addsRegister_60 rfl ?_
  refine e_istore_n (lv' := [(3, .int (iI (0))), (0, e_rv B (x0)), (1, .int (iI (x1))), (2, .int (iI (x2)))]) hx hb dX13_addsRegister_61 rfl hl (by decide) rfl (fun ls hl => ?_)
  exact w13_addsRegister_l62 E 1000000 hp hS (hl.sub [1, 2, 3, 0] rfl) hsh
set_option maxRecDepth 100000 in
set_option maxHeartbeats 4000000 in
theorem w13_addsRegister_b38 {p : Program} {l : Launch} {e : Env} {s : State} {m : MethodId} {args : Array Value} {below : List Frame} {meth : Method} {c : Code} {D : va_G} {cA : Nat → ClassId} {B : Nat} {res : HP} (E : e_En p s m args meth c cX13_addsRegister RX13 4 none) {ls : Array Slot} {H : Heap} {locs : List Loc} {S : HP} {x0 : Int} {x1 : Int} {y0 : Int} (hp : e_Pic D cA B S s H) (hS : va_S (e_A B) s.heap H locs) (hl : e_lo ls 4 [(0, e_rv B (x0)), (1, .int (iI (x1)))]) (hsh : s13_addsRegister_b38 S x0 x1 y0 = some res) : W p l e ({ frames := 1, cells := 0, slots := 0, locals := 22 } : Room) s m args below meth c H locs 0 0 (MQ below (e_Qv D cA B res) args s 0 0 (e_A B)) (F0 m 38 ls [.int (iI (y0))]) := by
  obtain ⟨hx, hb, hml, hown, hts, hlk, hrt⟩ := id E
  unfold s13_addsRegister_b38 at hsh
  refine e_istore_n (lv' := [(2, .int (iI (y0))), (0, e_rv B (x0)), (1, .int (iI (x1)))]) hx hb dX13_addsRegister_38 rfl hl (by decide) rfl (fun ls hl => ?_)
  refine lv_iload_n hx hb dX13_addsRegister_39 rfl (hl.at 0 rfl) ?_
  refine e_if_eq (tgt := 60) hx hb dX13_addsRegister_40 (by decide) (fun c40 => ?_) (fun c40 => ?_)
  · rw [if_pos c40] at hsh
    exact w13_addsRegister_b60 E hp hS (hl.sub [1, 2, 0] rfl) hsh
  · rw [if_neg c40] at hsh
    refine e_aload_n (B := B) (x := x0) hx hb dX13_addsRegister_43 rfl (hl.at 1 rfl) ?_
    obtain ⟨v44, h44, hsh⟩ := Option.bind_eq_some_iff.mp hsh
    refine e_getR (k := 11) hx hb hts in_X13 hown hp h44 rfl (by decide) (by decide) rfl (hts _ kf13_23) rfl dX13_addsRegister_44 ?_
    refine lv_iload_n hx hb dX13_addsRegister_47 rfl (hl.at 2 rfl) ?_
    obtain ⟨v48, h48, hsh⟩ := Option.bind_eq_some_iff.mp hsh
    refine e_iald hx hb hp h48 dX13_addsRegister_48 ?_
    refine lv_iconst (v := iI (1)) hx hb dX13_addsRegister_49 rfl ?_
    refine e_icmp_ne (tgt := 60) hx hb dX13_addsRegister_50 (by decide) (fun c50 => ?_) (fun c50 => ?_)
    · rw [if_neg c50] at hsh
      exact w13_addsRegister_b60 E hp hS (hl.sub [1, 2, 0] rfl) hsh
    · rw [if_pos c50] at hsh
      refine e_aload_n (B := B) (x := x0) hx hb dX13_addsRegister_53 rfl (hl.at 1 rfl) ?_
      refine lv_iload_n hx hb dX13_addsRegister_54 rfl (hl.at 2 rfl) ?_
      refine lv_bipush (v := iI (10)) hx hb dX13_addsRegister_55 (by decide +kernel) ?_
      obtain ⟨S57, h57, hsh⟩ := Option.bind_eq_some_iff.mp hsh
      have ok57 := ok13_addsCode h57
      refine e_callV (nL := 4) (mc := 0) (ms := 0) (T := TX13) (N := 126) (As := [.int (iI (x1)), .int (iI (10))]) (rest := []) hx hb hml hown hts hp hS hl.size ok57.1 ok57.2.1 ok57.2.2 rfl (by decide) (c13_addsCode l D cA B S S57 (x0) (x1) (10) h57) rfl rfl kd13_addsCode (kl13_454) ks13_addsCode kv13_addsCode ki13 kh13_addsCode ⟨Nat.le_of_ble_eq_true rfl, Nat.le_of_ble_eq_true rfl⟩ rfl (by simp [e_rv_cat, e_int_cat]) ⟨Nat.le_refl _, Nat.le_refl _⟩ dX13_addsRegister_57 rfl (fun H locs hp hS => ?_)
      exact w13_addsRegister_b60 E hp hS (hl.sub [1, 2, 0] rfl) hsh
set_option maxRecDepth 100000 in
set_option maxHeartbeats 4000000 in
theorem w13_addsRegister_b33 {p : Program} {l : Launch} {e : Env} {s : State} {m : MethodId} {args : Array Value} {below : List Frame} {meth : Method} {c : Code} {D : va_G} {cA : Nat → ClassId} {B : Nat} {res : HP} (E : e_En p s m args meth c cX13_addsRegister RX13 4 none) {ls : Array Slot} {H : Heap} {locs : List Loc} {S : HP} {x0 : Int} {x1 : Int} (hp : e_Pic D cA B S s H) (hS : va_S (e_A B) s.heap H locs) (hl : e_lo ls 4 [(0, e_rv B (x0)), (1, .int (iI (x1)))]) (hsh : s13_addsRegister_b33 S x0 x1 = some res) : W p l e ({ frames := 1, cells := 0, slots := 0, locals := 22 } : Room) s m args below meth c H locs 0 0 (MQ below (e_Qv D cA B res) args s 0 0 (e_A B)) (F0 m 33 ls []) := by
  obtain ⟨hx, hb, hml, hown, hts, hlk, hrt⟩ := id E
  unfold s13_addsRegister_b33 at hsh
  refine lv_iconst (v := iI (1)) hx hb dX13_addsRegister_33 rfl ?_
  refine lv_goto (tgt := 38) hx hb dX13_addsRegister_34 (by decide) ?_
  exact w13_addsRegister_b38 E hp hS (hl.sub [0, 1] rfl) hsh
set_option maxRecDepth 100000 in
set_option maxHeartbeats 4000000 in
theorem c13_addsRegister (l : Launch) (D : va_G) (cA : Nat → ClassId) (B : Nat) (S S' : HP) (x0 : Int) (x1 : Int) (hsh : s13_addsRegister S x0 x1 = some S') : Met l yX13_addsRegister (e_wu yX13_addsRegister cX13_addsRegister 4 none) ({ frames := 1, cells := 0, slots := 0, locals := 22 } : Room) (va_Pc [e_rv B (x0), .int (iI (x1))] (fun U => e_PU D cA B S U)) (e_Qv D cA B S') 0 0 (e_A B) := by
  refine Met.ofW (cc := cX13_addsRegister) (maxL := 4) (ret := none) (by decide +kernel) rfl ?_
  intro p e s m args below meth c s₁ Bd hml hv
  obtain ⟨rfl, hp⟩ := hv
  have hp : e_Pic D cA B S s s.heap := hp
  have hx := Bd.exec
  have hb := Bd.bytes
  have hrt := Bd.returns
  have hlk := Bd.notSynchronized
  have hown : s.vm.findClass RX13 = some m.cls := findClass_of_methodNamed Bd.named
  have hts : ∀ w ∈ e_tb, w.before ([e_rv B (x0), .int (iI (x1))] : List Value).toArray s = true := fun w h => atoms_spec (ws := (e_wu yX13_addsRegister cX13_addsRegister 4 none)) Bd.pre w (List.mem_cons_of_mem _ h)
  have E : e_En p s m ([e_rv B (x0), .int (iI (x1))] : List Value).toArray meth c cX13_addsRegister RX13 4 none := ⟨hx, hb, hml, hown, hts, hlk, hrt⟩
  have hS : va_S (e_A B) s.heap s.heap [] := va_S.rf
  have hl := e_entry (vs := [e_rv B (x0), .int (iI (x1))]) (n := 4) (Nat.le_of_ble_eq_true rfl) (e_cc (e_rv_cat _ _) (e_cc rfl e_cn))
  rw [lg_entry_eq]
  generalize (lg_sl [e_rv B (x0), .int (iI (x1))] ++ List.replicate (4 - (lg_sl [e_rv B (x0), .int (iI (x1))]).length) Slot.unset).toArray = ls at hl ⊢
  generalize ([e_rv B (x0), .int (iI (x1))] : List Value).toArray = args at hts E ⊢
  have hl : e_lo ls 4 [(0, e_rv B (x0)), (1, .int (iI (x1)))] := hl
  have hsh := (gd_some hsh).2
  refine e_aload_n (B := B) (x := x0) hx hb dX13_addsRegister_0 rfl (hl.at 0 rfl) ?_
  obtain ⟨v1, h1, hsh⟩ := Option.bind_eq_some_iff.mp hsh
  refine e_getR (k := 11) hx hb hts in_X13 hown hp h1 rfl (by decide) (by decide) rfl (hts _ kf13_23) rfl dX13_addsRegister_1 ?_
  refine lv_iload_n hx hb dX13_addsRegister_4 rfl (hl.at 1 rfl) ?_
  obtain ⟨v5, h5, hsh⟩ := Option.bind_eq_some_iff.mp hsh
  refine e_iald hx hb hp h5 dX13_addsRegister_5 ?_
  refine e_if_ne (tgt := 15) hx hb dX13_addsRegister_6 (by decide) (fun c6 => ?_) (fun c6 => ?_)
  · rw [if_neg c6] at hsh
    refine e_aload_n (B := B) (x := x0) hx hb dX13_addsRegister_15 rfl (hl.at 0 rfl) ?_
    obtain ⟨v16, h16, hsh⟩ := Option.bind_eq_some_iff.mp hsh
    refine e_getR (k := 11) hx hb hts in_X13 hown hp h16 rfl (by decide) (by decide) rfl (hts _ kf13_23) rfl dX13_addsRegister_16 ?_
    refine lv_iload_n hx hb dX13_addsRegister_19 rfl (hl.at 1 rfl) ?_
    obtain ⟨v20, h20, hsh⟩ := Option.bind_eq_some_iff.mp hsh
    refine e_iald hx hb hp h20 dX13_addsRegister_20 ?_
    refine lv_iconst (v := iI (1)) hx hb dX13_addsRegister_21 rfl ?_
    refine e_icmp_ne (tgt := 33) hx hb dX13_addsRegister_22 (by decide) (fun c22 => ?_) (fun c22 => ?_)
    · rw [if_neg c22] at hsh
      exact w13_addsRegister_b33 E hp hS (hl.sub [0, 1] rfl) hsh
    · rw [if_pos c22] at hsh
      refine e_aload_n (B := B) (x := x0) hx hb dX13_addsRegister_25 rfl (hl.at 0 rfl) ?_
      obtain ⟨v26, h26, hsh⟩ := Option.bind_eq_some_iff.mp hsh
      refine e_getI (k := 35) hx hb hts in_X13 hown hp h26 rfl (by decide) (by decide) rfl (hts _ kf13_395) rfl dX13_addsRegister_26 ?_
      refine lv_iconst (v := iI (1)) hx hb dX13_addsRegister_29 rfl ?_
      refine e_icmp_eq (tgt := 37) hx hb dX13_addsRegister_30 (by decide) (fun c30 => ?_) (fun c30 => ?_)
      · rw [if_pos c30] at hsh
        refine lv_iconst (v := iI (0)) hx hb dX13_addsRegister_37 rfl ?_
        exact w13_addsRegister_b38 E hp hS (hl.sub [0, 1] rfl) hsh
      · rw [if_neg c30] at hsh
        exact w13_addsRegister_b33 E hp hS (hl.sub [0, 1] rfl) hsh
  · rw [if_pos c6] at hsh
    refine e_aload_n (B := B) (x := x0) hx hb dX13_addsRegister_9 rfl (hl.at 0 rfl) ?_
    refine lv_iload_n hx hb dX13_addsRegister_10 rfl (hl.at 1 rfl) ?_
    obtain ⟨S11, h11, hsh⟩ := Option.bind_eq_some_iff.mp hsh
    have ok11 := ok13_setsRegister h11
    refine e_callV (nL := 4) (mc := 0) (ms := 0) (T := TX13) (N := 126) (As := [.int (iI (x1))]) (rest := []) hx hb hml hown hts hp hS hl.size ok11.1 ok11.2.1 ok11.2.2 rfl (by decide) (c13_setsRegister l D cA B S S11 (x0) (x1) h11) rfl rfl kd13_setsRegister (kl13_451) ks13_setsRegister kv13_setsRegister ki13 kh13_setsRegister ⟨Nat.le_of_ble_eq_true rfl, Nat.le_of_ble_eq_true rfl⟩ rfl (by simp [e_rv_cat, e_int_cat]) ⟨Nat.le_refl _, Nat.le_refl _⟩ dX13_addsRegister_11 rfl (fun H locs hp hS => ?_)
    cases hsh
    exact e_vret hx hb hrt hlk hp hS dX13_addsRegister_14
theorem ok13_fitsRegister {S : HP} {x0 : Int} {x1 : Int} {r : Int × HP} (h : s13_fitsRegister S x0 x1 = some r) : 0 ≤ x0 ∧ x0.toNat < e_n S ∧ e_g S x0.toNat = 13 := (gd_some h).1
set_option maxRecDepth 100000 in
set_option maxHeartbeats 4000000 in
theorem w13_fitsRegister_b80 {p : Program} {l : Launch} {e : Env} {s : State} {m : MethodId} {args : Array Value} {below : List Frame} {meth : Method} {c : Code} {D : va_G} {cA : Nat → ClassId} {B : Nat} {res : Int × HP} (E : e_En p s m args meth c cX13_fitsRegister RX13 3 (some .boolean)) {ls : Array Slot} {H : Heap} {locs : List Loc} {S : HP} {y0 : Int} (hp : e_Pic D cA B S s H) (hS : va_S (e_A B) s.heap H locs) (hl : e_lo ls 3 []) (hsh : s13_fitsRegister_b80 S y0 = some res) : W p l e ({ frames := 2, cells := 0, slots := 0, locals := 42 } : Room) s m args below meth c H locs 0 0 (MQ below (e_Qi D cA B res.1 res.2) args s 0 0 (e_A B)) (F0 m 80 ls [.int (iI (y0))]) := by
  obtain ⟨hx, hb, hml, hown, hts, hlk, hrt⟩ := id E
  unfold s13_fitsRegister_b80 at hsh
  obtain ⟨hz, hz1, hz2⟩ := zR_some hsh
  rw [← hz1, ← hz2]
  exact e_zret hx hb hrt hlk hp hS hz dX13_fitsRegister_80
set_option maxRecDepth 100000 in
set_option maxHeartbeats 4000000 in
theorem w13_fitsRegister_b75 {p : Program} {l : Launch} {e : Env} {s : State} {m : MethodId} {args : Array Value} {below : List Frame} {meth : Method} {c : Code} {D : va_G} {cA : Nat → ClassId} {B : Nat} {res : Int × HP} (E : e_En p s m args meth c cX13_fitsRegister RX13 3 (some .boolean)) {ls : Array Slot} {H : Heap} {locs : List Loc} {S : HP} (hp : e_Pic D cA B S s H) (hS : va_S (e_A B) s.heap H locs) (hl : e_lo ls 3 []) (hsh : s13_fitsRegister_b75 S  = some res) : W p l e ({ frames := 2, cells := 0, slots := 0, locals := 42 } : Room) s m args below meth c H locs 0 0 (MQ below (e_Qi D cA B res.1 res.2) args s 0 0 (e_A B)) (F0 m 75 ls []) := by
  obtain ⟨hx, hb, hml, hown, hts, hlk, hrt⟩ := id E
  unfold s13_fitsRegister_b75 at hsh
  refine lv_iconst (v := iI (1)) hx hb dX13_fitsRegister_75 rfl ?_
  refine lv_goto (tgt := 80) hx hb dX13_fitsRegister_76 (by decide) ?_
  exact w13_fitsRegister_b80 E hp hS (hl.sub [] rfl) hsh
set_option maxRecDepth 100000 in
set_option maxHeartbeats 4000000 in
theorem w13_fitsRegister_b68 {p : Program} {l : Launch} {e : Env} {s : State} {m : MethodId} {args : Array Value} {below : List Frame} {meth : Method} {c : Code} {D : va_G} {cA : Nat → ClassId} {B : Nat} {res : Int × HP} (E : e_En p s m args meth c cX13_fitsRegister RX13 3 (some .boolean)) {ls : Array Slot} {H : Heap} {locs : List Loc} {S : HP} {y0 : Int} {y1 : Int} (hp : e_Pic D cA B S s H) (hS : va_S (e_A B) s.heap H locs) (hl : e_lo ls 3 []) (hsh : s13_fitsRegister_b68 S y0 y1 = some res) : W p l e ({ frames := 2, cells := 0, slots := 0, locals := 42 } : Room) s m args below meth c H locs 0 0 (MQ below (e_Qi D cA B res.1 res.2) args s 0 0 (e_A B)) (F0 m 68 ls [.int (iI (y1)), .int (iI (y0))]) := by
  obtain ⟨hx, hb, hml, hown, hts, hlk, hrt⟩ := id E
  unfold s13_fitsRegister_b68 at hsh
  refine e_iadd hx hb dX13_fitsRegister_68 ?_
  refine lv_sipush (v := iI (3000)) hx hb dX13_fitsRegister_69 (by decide +kernel) ?_
  refine e_icmp_gt (tgt := 79) hx hb dX13_fitsRegister_72 (by decide) (fun c72 => ?_) (fun c72 => ?_)
  · rw [if_pos c72] at hsh
    refine lv_iconst (v := iI (0)) hx hb dX13_fitsRegister_79 rfl ?_
    exact w13_fitsRegister_b80 E hp hS (hl.sub [] rfl) hsh
  · rw [if_neg c72] at hsh
    exact w13_fitsRegister_b75 E hp hS (hl.sub [] rfl) hsh
set_option maxRecDepth 100000 in
set_option maxHeartbeats 4000000 in
theorem w13_fitsRegister_b67 {p : Program} {l : Launch} {e : Env} {s : State} {m : MethodId} {args : Array Value} {below : List Frame} {meth : Method} {c : Code} {D : va_G} {cA : Nat → ClassId} {B : Nat} {res : Int × HP} (E : e_En p s m args meth c cX13_fitsRegister RX13 3 (some .boolean)) {ls : Array Slot} {H : Heap} {locs : List Loc} {S : HP} {y0 : Int} (hp : e_Pic D cA B S s H) (hS : va_S (e_A B) s.heap H locs) (hl : e_lo ls 3 []) (hsh : s13_fitsRegister_b67 S y0 = some res) : W p l e ({ frames := 2, cells := 0, slots := 0, locals := 42 } : Room) s m args below meth c H locs 0 0 (MQ below (e_Qi D cA B res.1 res.2) args s 0 0 (e_A B)) (F0 m 67 ls [.int (iI (y0))]) := by
  obtain ⟨hx, hb, hml, hown, hts, hlk, hrt⟩ := id E
  unfold s13_fitsRegister_b67 at hsh
  refine lv_iconst (v := iI (0)) hx hb dX13_fitsRegister_67 rfl ?_
  exact w13_fitsRegister_b68 E hp hS (hl.sub [] rfl) hsh
set_option maxRecDepth 100000 in
set_option maxHeartbeats 4000000 in
theorem w13_fitsRegister_b63 {p : Program} {l : Launch} {e : Env} {s : State} {m : MethodId} {args : Array Value} {below : List Frame} {meth : Method} {c : Code} {D : va_G} {cA : Nat → ClassId} {B : Nat} {res : Int × HP} (E : e_En p s m args meth c cX13_fitsRegister RX13 3 (some .boolean)) {ls : Array Slot} {H : Heap} {locs : List Loc} {S : HP} {y0 : Int} (hp : e_Pic D cA B S s H) (hS : va_S (e_A B) s.heap H locs) (hl : e_lo ls 3 []) (hsh : s13_fitsRegister_b63 S y0 = some res) : W p l e ({ frames := 2, cells := 0, slots := 0, locals := 42 } : Room) s m args below meth c H locs 0 0 (MQ below (e_Qi D cA B res.1 res.2) args s 0 0 (e_A B)) (F0 m 63 ls [.int (iI (y0))]) := by
  obtain ⟨hx, hb, hml, hown, hts, hlk, hrt⟩ := id E
  unfold s13_fitsRegister_b63 at hsh
  refine lv_iconst (v := iI (1)) hx hb dX13_fitsRegister_63 rfl ?_
  refine lv_goto (tgt := 68) hx hb dX13_fitsRegister_64 (by decide) ?_
  exact w13_fitsRegister_b68 E hp hS (hl.sub [] rfl) hsh
set_option maxRecDepth 100000 in
set_option maxHeartbeats 4000000 in
theorem w13_fitsRegister_b45 {p : Program} {l : Launch} {e : Env} {s : State} {m : MethodId} {args : Array Value} {below : List Frame} {meth : Method} {c : Code} {D : va_G} {cA : Nat → ClassId} {B : Nat} {res : Int × HP} (E : e_En p s m args meth c cX13_fitsRegister RX13 3 (some .boolean)) {ls : Array Slot} {H : Heap} {locs : List Loc} {S : HP} {x0 : Int} {x2 : Int} {y0 : Int} (hp : e_Pic D cA B S s H) (hS : va_S (e_A B) s.heap H locs) (hl : e_lo ls 3 [(0, e_rv B (x0)), (2, .int (iI (x2)))]) (hsh : s13_fitsRegister_b45 S x0 x2 y0 = some res) : W p l e ({ frames := 2, cells := 0, slots := 0, locals := 42 } : Room) s m args below meth c H locs 0 0 (MQ below (e_Qi D cA B res.1 res.2) args s 0 0 (e_A B)) (F0 m 45 ls [.int (iI (y0))]) := by
  obtain ⟨hx, hb, hml, hown, hts, hlk, hrt⟩ := id E
  unfold s13_fitsRegister_b45 at hsh
  refine e_aload_n (B := B) (x := x0) hx hb dX13_fitsRegister_45 rfl (hl.at 0 rfl) ?_
  obtain ⟨v46, h46, hsh⟩ := Option.bind_eq_some_iff.mp hsh
  refine e_getR (k := 11) hx hb hts in_X13 hown hp h46 rfl (by decide) (by decide) rfl (hts _ kf13_23) rfl dX13_fitsRegister_46 ?_
  refine lv_iload_n hx hb dX13_fitsRegister_49 rfl (hl.at 1 rfl) ?_
  obtain ⟨v50, h50, hsh⟩ := Option.bind_eq_some_iff.mp hsh
  refine e_iald hx hb hp h50 dX13_fitsRegister_50 ?_
  refine lv_iconst (v := iI (1)) hx hb dX13_fitsRegister_51 rfl ?_
  refine e_icmp_le (tgt := 67) hx hb dX13_fitsRegister_52 (by decide) (fun c52 => ?_) (fun c52 => ?_)
  · rw [if_pos c52] at hsh
    exact w13_fitsRegister_b67 E hp hS (hl.sub [] rfl) hsh
  · rw [if_neg c52] at hsh
    refine e_aload_n (B := B) (x := x0) hx hb dX13_fitsRegister_55 rfl (hl.at 0 rfl) ?_
    obtain ⟨v56, h56, hsh⟩ := Option.bind_eq_some_iff.mp hsh
    refine e_getI (k := 35) hx hb hts in_X13 hown hp h56 rfl (by decide) (by decide) rfl (hts _ kf13_395) rfl dX13_fitsRegister_56 ?_
    refine lv_iconst (v := iI (1)) hx hb dX13_fitsRegister_59 rfl ?_
    refine e_icmp_ne (tgt := 67) hx hb dX13_fitsRegister_60 (by decide) (fun c60 => ?_) (fun c60 => ?_)
    · rw [if_neg c60] at hsh
      exact w13_fitsRegister_b67 E hp hS (hl.sub [] rfl) hsh
    · rw [if_pos c60] at hsh
      exact w13_fitsRegister_b63 E hp hS (hl.sub [] rfl) hsh
set_option maxRecDepth 100000 in
set_option maxHeartbeats 4000000 in
theorem c13_fitsRegister (l : Launch) (D : va_G) (cA : Nat → ClassId) (B : Nat) (S S' : HP) (x0 : Int) (x1 : Int) (r : Int) (hsh : s13_fitsRegister S x0 x1 = some (r, S')) : Met l yX13_fitsRegister (e_wu yX13_fitsRegister cX13_fitsRegister 3 (some .boolean)) ({ frames := 2, cells := 0, slots := 0, locals := 42 } : Room) (va_Pc [e_rv B (x0), .int (iI (x1))] (fun U => e_PU D cA B S U)) (e_Qi D cA B r S') 0 0 (e_A B) := by
  refine Met.ofW (cc := cX13_fitsRegister) (maxL := 3) (ret := (some .boolean)) (by decide +kernel) rfl ?_
  intro p e s m args below meth c s₁ Bd hml hv
  obtain ⟨rfl, hp⟩ := hv
  have hp : e_Pic D cA B S s s.heap := hp
  have hx := Bd.exec
  have hb := Bd.bytes
  have hrt := Bd.returns
  have hlk := Bd.notSynchronized
  have hown : s.vm.findClass RX13 = some m.cls := findClass_of_methodNamed Bd.named
  have hts : ∀ w ∈ e_tb, w.before ([e_rv B (x0), .int (iI (x1))] : List Value).toArray s = true := fun w h => atoms_spec (ws := (e_wu yX13_fitsRegister cX13_fitsRegister 3 (some .boolean))) Bd.pre w (List.mem_cons_of_mem _ h)
  have E : e_En p s m ([e_rv B (x0), .int (iI (x1))] : List Value).toArray meth c cX13_fitsRegister RX13 3 (some .boolean) := ⟨hx, hb, hml, hown, hts, hlk, hrt⟩
  have hS : va_S (e_A B) s.heap s.heap [] := va_S.rf
  have hl := e_entry (vs := [e_rv B (x0), .int (iI (x1))]) (n := 3) (Nat.le_of_ble_eq_true rfl) (e_cc (e_rv_cat _ _) (e_cc rfl e_cn))
  rw [lg_entry_eq]
  generalize (lg_sl [e_rv B (x0), .int (iI (x1))] ++ List.replicate (3 - (lg_sl [e_rv B (x0), .int (iI (x1))]).length) Slot.unset).toArray = ls at hl ⊢
  generalize ([e_rv B (x0), .int (iI (x1))] : List Value).toArray = args at hts E ⊢
  have hl : e_lo ls 3 [(0, e_rv B (x0)), (1, .int (iI (x1)))] := hl
  have hsh := (gd_some hsh).2
  refine lv_iload_n hx hb dX13_fitsRegister_0 rfl (hl.at 1 rfl) ?_
  obtain ⟨⟨v1, S1⟩, h1, hsh⟩ := Option.bind_eq_some_iff.mp hsh
  have hsh : _ = _ := hsh
  try dsimp only at hsh
  refine e_callS (nL := 3) (mc := 0) (ms := 0) (As := [.int (iI (x1))]) (rest := []) hx hb hml hown hts hp hS hl.size (c13_registerOf l D cA B S S1 (x1) v1 h1) rfl rfl kd13_registerOf (kl13_457) ks13_registerOf ki13 kh13_registerOf ⟨Nat.le_of_ble_eq_true rfl, Nat.le_of_ble_eq_true rfl⟩ rfl (by simp [e_rv_cat, e_int_cat]) ⟨Nat.le_refl _, Nat.le_refl _⟩ dX13_fitsRegister_1 rfl (fun H locs hp hS => ?_)
  refine e_istore_n (lv' := [(2, .int (iI (v1))), (0, e_rv B (x0)), (1, .int (iI (x1)))]) hx hb dX13_fitsRegister_4 rfl hl (by decide) rfl (fun ls hl => ?_)
  refine lv_iload_n hx hb dX13_fitsRegister_5 rfl (hl.at 2 rfl) ?_
  refine lv_bipush (v := iI (65)) hx hb dX13_fitsRegister_6 (by decide +kernel) ?_
  refine lv_bipush (v := iI (90)) hx hb dX13_fitsRegister_8 (by decide +kernel) ?_
  obtain ⟨⟨v10, S10⟩, h10, hsh⟩ := Option.bind_eq_some_iff.mp hsh
  have hsh : _ = _ := hsh
  try dsimp only at hsh
  refine e_callS (nL := 3) (mc := 0) (ms := 0) (As := [.int (iI (x1)), .int (iI (65)), .int (iI (90))]) (rest := []) hx hb hml hown hts hp hS hl.size (c13_isIn l D cA B S1 S10 (x1) (65) (90) v10 h10) rfl rfl kd13_isIn (kl13_198) ks13_isIn ki13 kh13_isIn ⟨Nat.le_of_ble_eq_true rfl, Nat.le_of_ble_eq_true rfl⟩ rfl (by simp [e_rv_cat, e_int_cat]) ⟨Nat.le_refl _, Nat.le_refl _⟩ dX13_fitsRegister_10 rfl (fun H locs hp hS => ?_)
  refine e_if_eq (tgt := 75) hx hb dX13_fitsRegister_13 (by decide) (fun c13 => ?_) (fun c13 => ?_)
  · rw [if_pos c13] at hsh
    exact w13_fitsRegister_b75 E hp hS (hl.sub [] rfl) hsh
  · rw [if_neg c13] at hsh
    refine e_aload_n (B := B) (x := x0) hx hb dX13_fitsRegister_16 rfl (hl.at 1 rfl) ?_
    obtain ⟨v17, h17, hsh⟩ := Option.bind_eq_some_iff.mp hsh
    refine e_getR (k := 12) hx hb hts in_X13 hown hp h17 rfl (by decide) (by decide) rfl (hts _ kf13_26) rfl dX13_fitsRegister_17 ?_
    refine lv_iload_n hx hb dX13_fitsRegister_20 rfl (hl.at 0 rfl) ?_
    obtain ⟨v21, h21, hsh⟩ := Option.bind_eq_some_iff.mp hsh
    refine e_iald hx hb hp h21 dX13_fitsRegister_21 ?_
    refine e_aload_n (B := B) (x := x0) hx hb dX13_fitsRegister_22 rfl (hl.at 1 rfl) ?_
    obtain ⟨v23, h23, hsh⟩ := Option.bind_eq_some_iff.mp hsh
    refine e_getI (k := 40) hx hb hts in_X13 hown hp h23 rfl (by decide) (by decide) rfl (hts _ kf13_441) rfl dX13_fitsRegister_23 ?_
    refine e_iadd hx hb dX13_fitsRegister_26 ?_
    refine e_aload_n (B := B) (x := x0) hx hb dX13_fitsRegister_27 rfl (hl.at 1 rfl) ?_
    obtain ⟨v28, h28, hsh⟩ := Option.bind_eq_some_iff.mp hsh
    refine e_getR (k := 11) hx hb hts in_X13 hown hp h28 rfl (by decide) (by decide) rfl (hts _ kf13_23) rfl dX13_fitsRegister_28 ?_
    refine lv_iload_n hx hb dX13_fitsRegister_31 rfl (hl.at 0 rfl) ?_
    obtain ⟨v32, h32, hsh⟩ := Option.bind_eq_some_iff.mp hsh
    refine e_iald hx hb hp h32 dX13_fitsRegister_32 ?_
    refine lv_iconst (v := iI (1)) hx hb dX13_fitsRegister_33 rfl ?_
    refine e_icmp_ne (tgt := 45) hx hb dX13_fitsRegister_34 (by decide) (fun c34 => ?_) (fun c34 => ?_)
    · rw [if_neg c34] at hsh
      exact w13_fitsRegister_b45 E hp hS (hl.sub [1, 0] rfl) hsh
    · rw [if_pos c34] at hsh
      refine e_aload_n (B := B) (x := x0) hx hb dX13_fitsRegister_37 rfl (hl.at 1 rfl) ?_
      obtain ⟨v38, h38, hsh⟩ := Option.bind_eq_some_iff.mp hsh
      refine e_getI (k := 35) hx hb hts in_X13 hown hp h38 rfl (by decide) (by decide) rfl (hts _ kf13_395) rfl dX13_fitsRegister_38 ?_
      refine lv_iconst (v := iI (1)) hx hb dX13_fitsRegister_41 rfl ?_
      refine e_icmp_ne (tgt := 63) hx hb dX13_fitsRegister_42 (by decide) (fun c42 => ?_) (fun c42 => ?_)
      · rw [if_neg c42] at hsh
        exact w13_fitsRegister_b63 E hp hS (hl.sub [] rfl) hsh
      · rw [if_pos c42] at hsh
        exact w13_fitsRegister_b45 E hp hS (hl.sub [1, 0] rfl) hsh
theorem ok13_movesRegister {S : HP} {x0 : Int} {x1 : Int} {x2 : Int} {r : HP} (h : s13_movesRegister S x0 x1 x2 = some r) : 0 ≤ x0 ∧ x0.toNat < e_n S ∧ e_g S x0.toNat = 13 := (gd_some h).1
set_option maxRecDepth 100000 in
set_option maxHeartbeats 4000000 in
theorem w13_movesRegister_l26 {p : Program} {l : Launch} {e : Env} {s : State} {m : MethodId} {args : Array Value} {below : List Frame} {meth : Method} {c : Code} {D : va_G} {cA : Nat → ClassId} {B : Nat} {res : HP} (E : e_En p s m args meth c cX13_movesRegister RX13 4 none) : ∀ (f : Nat) {ls : Array Slot} {H : Heap} {locs : List Loc} {S : HP} {x0 : Int} {x1 : Int} {x2 : Int} {x3 : Int} (hp : e_Pic D cA B S s H) (hS : va_S (e_A B) s.heap H locs) (hl : e_lo ls 4 [(0, e_rv B (x0)), (1, .int (iI (x1))), (2, .int (iI (x2))), (3, .int (iI (x3)))]) (hsh : s13_movesRegister_l26 f S x0 x1 x2 x3 = some res), W p l e ({ frames := 0, cells := 0, slots := 0, locals := 0 } : Room) s m args below meth c H locs 0 0 (MQ below (e_Qv D cA B res) args s 0 0 (e_A B)) (F0 m 26 ls []) := by
  obtain ⟨hx, hb, hml, hown, hts, hlk, hrt⟩ := id E
  intro f
  induction f with
  | zero => intro ls H locs S x0 x1 x2 x3 hp hS hl hsh; cases hsh
  | succ f ih =>
    intro ls H locs S x0 x1 x2 x3 hp hS hl hsh
    have hk26 : ∀ {ls : Array Slot} {H : Heap} {locs : List Loc} {S : HP} {x0 : Int} {x1 : Int} {x2 : Int} {x3 : Int} (hp : e_Pic D cA B S s H) (hS : va_S (e_A B) s.heap H locs) (hl : e_lo ls 4 [(0, e_rv B (x0)), (1, .int (iI (x1))), (2, .int (iI (x2))), (3, .int (iI (x3)))]) (hsh : (s13_movesRegister_l26 f) S x0 x1 x2 x3 = some res), W p l e ({ frames := 0, cells := 0, slots := 0, locals := 0 } : Room) s m args below meth c H locs 0 0 (MQ below (e_Qv D cA B res) args s 0 0 (e_A B)) (F0 m 26 ls []) := ih
    generalize hkk : s13_movesRegister_l26 f = k26 at hk26
    rw [s13_movesRegister_l26] at hsh
    rw [hkk] at hsh
    try dsimp only at hsh
    refine lv_iload_n hx hb dX13_movesRegister_26 rfl (hl.at 3 rfl) ?_
    refine e_aload_n (B := B) (x := x0) hx hb dX13_movesRegister_27 rfl (hl.at 0 rfl) ?_
    obtain ⟨v28, h28, hsh⟩ := Option.bind_eq_some_iff.mp hsh
    refine e_getR (k := 12) hx hb hts in_X13 hown hp h28 rfl (by decide) (by decide) rfl (hts _ kf13_26) rfl dX13_movesRegister_28 ?_
    refine lv_iload_n hx hb dX13_movesRegister_31 rfl (hl.at 1 rfl) ?_
    obtain ⟨v32, h32, hsh⟩ := Option.bind_eq_some_iff.mp hsh
    refine e_iald hx hb hp h32 dX13_movesRegister_32 ?_
    refine e_icmp_ge (tgt := 66) hx hb dX13_movesRegister_33 (by decide) (fun c33 => ?_) (fun c33 => ?_)
    · rw [if_pos c33] at hsh
      cases hsh
      exact e_vret hx hb hrt hlk hp hS dX13_movesRegister_66
    · rw [if_neg c33] at hsh
      refine e_aload_n (B := B) (x := x0) hx hb dX13_movesRegister_36 rfl (hl.at 0 rfl) ?_
      obtain ⟨v37, h37, hsh⟩ := Option.bind_eq_some_iff.mp hsh
      refine e_getR (k := 13) hx hb hts in_X13 hown hp h37 rfl (by decide) (by decide) rfl (hts _ kf13_30) rfl dX13_movesRegister_37 ?_
      refine lv_sipush (v := iI (3000)) hx hb dX13_movesRegister_40 (by decide +kernel) ?_
      refine lv_iload_n hx hb dX13_movesRegister_43 rfl (hl.at 2 rfl) ?_
      refine e_imul hx hb dX13_movesRegister_44 ?_
      refine lv_iload_n hx hb dX13_movesRegister_45 rfl (hl.at 3 rfl) ?_
      refine e_iadd hx hb dX13_movesRegister_46 ?_
      refine e_aload_n (B := B) (x := x0) hx hb dX13_movesRegister_47 rfl (hl.at 0 rfl) ?_
      obtain ⟨v48, h48, hsh⟩ := Option.bind_eq_some_iff.mp hsh
      refine e_getR (k := 13) hx hb hts in_X13 hown hp h48 rfl (by decide) (by decide) rfl (hts _ kf13_30) rfl dX13_movesRegister_48 ?_
      refine lv_sipush (v := iI (3000)) hx hb dX13_movesRegister_51 (by decide +kernel) ?_
      refine lv_iload_n hx hb dX13_movesRegister_54 rfl (hl.at 1 rfl) ?_
      refine e_imul hx hb dX13_movesRegister_55 ?_
      refine lv_iload_n hx hb dX13_movesRegister_56 rfl (hl.at 3 rfl) ?_
      refine e_iadd hx hb dX13_movesRegister_57 ?_
      obtain ⟨v58, h58, hsh⟩ := Option.bind_eq_some_iff.mp hsh
      refine e_iald hx hb hp h58 dX13_movesRegister_58 ?_
      obtain ⟨S59, h59, hsh⟩ := Option.bind_eq_some_iff.mp hsh
      refine e_iast hx hb hp hS h59 dX13_movesRegister_59 (fun H locs hp hS => ?_)
      refine e_iinc (n := 1) (x := x3) (lv' := [(3, .int (iI ((x3 + 1)))), (0, e_rv B (x0)), (1, .int (iI (x1))), (2, .int (iI (x2)))]) hx hb dX13_movesRegister_60 hl (k := 3) rfl (by decide) rfl (fun ls hl => ?_)
      refine lv_goto (tgt := 26) hx hb dX13_movesRegister_63 (by decide) ?_
      exact hk26 hp hS (hl.sub [1, 2, 3, 0] rfl) hsh
set_option maxRecDepth 100000 in
set_option maxHeartbeats 4000000 in
theorem c13_movesRegister (l : Launch) (D : va_G) (cA : Nat → ClassId) (B : Nat) (S S' : HP) (x0 : Int) (x1 : Int) (x2 : Int) (hsh : s13_movesRegister S x0 x1 x2 = some S') : Met l yX13_movesRegister (e_wu yX13_movesRegister cX13_movesRegister 4 none) ({ frames := 0, cells := 0, slots := 0, locals := 0 } : Room) (va_Pc [e_rv B (x0), .int (iI (x1)), .int (iI (x2))] (fun U => e_PU D cA B S U)) (e_Qv D cA B S') 0 0 (e_A B) := by
  refine Met.ofW (cc := cX13_movesRegister) (maxL := 4) (ret := none) (by decide +kernel) rfl ?_
  intro p e s m args below meth c s₁ Bd hml hv
  obtain ⟨rfl, hp⟩ := hv
  have hp : e_Pic D cA B S s s.heap := hp
  have hx := Bd.exec
  have hb := Bd.bytes
  have hrt := Bd.returns
  have hlk := Bd.notSynchronized
  have hown : s.vm.findClass RX13 = some m.cls := findClass_of_methodNamed Bd.named
  have hts : ∀ w ∈ e_tb, w.before ([e_rv B (x0), .int (iI (x1)), .int (iI (x2))] : List Value).toArray s = true := fun w h => atoms_spec (ws := (e_wu yX13_movesRegister cX13_movesRegister 4 none)) Bd.pre w (List.mem_cons_of_mem _ h)
  have E : e_En p s m ([e_rv B (x0), .int (iI (x1)), .int (iI (x2))] : List Value).toArray meth c cX13_movesRegister RX13 4 none := ⟨hx, hb, hml, hown, hts, hlk, hrt⟩
  have hS : va_S (e_A B) s.heap s.heap [] := va_S.rf
  have hl := e_entry (vs := [e_rv B (x0), .int (iI (x1)), .int (iI (x2))]) (n := 4) (Nat.le_of_ble_eq_true rfl) (e_cc (e_rv_cat _ _) (e_cc rfl (e_cc rfl e_cn)))
  rw [lg_entry_eq]
  generalize (lg_sl [e_rv B (x0), .int (iI (x1)), .int (iI (x2))] ++ List.replicate (4 - (lg_sl [e_rv B (x0), .int (iI (x1)), .int (iI (x2))]).length) Slot.unset).toArray = ls at hl ⊢
  generalize ([e_rv B (x0), .int (iI (x1)), .int (iI (x2))] : List Value).toArray = args at hts E ⊢
  have hl : e_lo ls 4 [(0, e_rv B (x0)), (1, .int (iI (x1))), (2, .int (iI (x2)))] := hl
  have hsh := (gd_some hsh).2
  refine e_aload_n (B := B) (x := x0) hx hb dX13_movesRegister_0 rfl (hl.at 0 rfl) ?_
  obtain ⟨v1, h1, hsh⟩ := Option.bind_eq_some_iff.mp hsh
  refine e_getR (k := 11) hx hb hts in_X13 hown hp h1 rfl (by decide) (by decide) rfl (hts _ kf13_23) rfl dX13_movesRegister_1 ?_
  refine lv_iload_n hx hb dX13_movesRegister_4 rfl (hl.at 2 rfl) ?_
  refine e_aload_n (B := B) (x := x0) hx hb dX13_movesRegister_5 rfl (hl.at 0 rfl) ?_
  obtain ⟨v6, h6, hsh⟩ := Option.bind_eq_some_iff.mp hsh
  refine e_getR (k := 11) hx hb hts in_X13 hown hp h6 rfl (by decide) (by decide) rfl (hts _ kf13_23) rfl dX13_movesRegister_6 ?_
  refine lv_iload_n hx hb dX13_movesRegister_9 rfl (hl.at 1 rfl) ?_
  obtain ⟨v10, h10, hsh⟩ := Option.bind_eq_some_iff.mp hsh
  refine e_iald hx hb hp h10 dX13_movesRegister_10 ?_
  obtain ⟨S11, h11, hsh⟩ := Option.bind_eq_some_iff.mp hsh
  refine e_iast hx hb hp hS h11 dX13_movesRegister_11 (fun H locs hp hS => ?_)
  refine e_aload_n (B := B) (x := x0) hx hb dX13_movesRegister_12 rfl (hl.at 0 rfl) ?_
  obtain ⟨v13, h13, hsh⟩ := Option.bind_eq_some_iff.mp hsh
  refine e_getR (k := 12) hx hb hts in_X13 hown hp h13 rfl (by decide) (by decide) rfl (hts _ kf13_26) rfl dX13_movesRegister_13 ?_
  refine lv_iload_n hx hb dX13_movesRegister_16 rfl (hl.at 2 rfl) ?_
  refine e_aload_n (B := B) (x := x0) hx hb dX13_movesRegister_17 rfl (hl.at 0 rfl) ?_
  obtain ⟨v18, h18, hsh⟩ := Option.bind_eq_some_iff.mp hsh
  refine e_getR (k := 12) hx hb hts in_X13 hown hp h18 rfl (by decide) (by decide) rfl (hts _ kf13_26) rfl dX13_movesRegister_18 ?_
  refine lv_iload_n hx hb dX13_movesRegister_21 rfl (hl.at 1 rfl) ?_
  obtain ⟨v22, h22, hsh⟩ := Option.bind_eq_some_iff.mp hsh
  refine e_iald hx hb hp h22 dX13_movesRegister_22 ?_
  obtain ⟨S23, h23, hsh⟩ := Option.bind_eq_some_iff.mp hsh
  refine e_iast hx hb hp hS h23 dX13_movesRegister_23 (fun H locs hp hS => ?_)
  refine lv_iconst (v := iI (0)) hx hb dX13_movesRegister_24 rfl ?_
  refine e_istore_n (lv' := [(3, .int (iI (0))), (0, e_rv B (x0)), (1, .int (iI (x1))), (2, .int (iI (x2)))]) hx hb dX13_movesRegister_25 rfl hl (by decide) rfl (fun ls hl => ?_)
  exact w13_movesRegister_l26 E 1000000 hp hS (hl.sub [1, 2, 3, 0] rfl) hsh
theorem ok13_writes {S : HP} {x0 : Int} {x1 : Int} {x2 : Int} {r : HP} (h : s13_writes S x0 x1 x2 = some r) : 0 ≤ x0 ∧ x0.toNat < e_n S ∧ e_g S x0.toNat = 13 := (gd_some h).1
set_option maxRecDepth 100000 in
set_option maxHeartbeats 4000000 in
theorem w13_writes_b131 {p : Program} {l : Launch} {e : Env} {s : State} {m : MethodId} {args : Array Value} {below : List Frame} {meth : Method} {c : Code} {D : va_G} {cA : Nat → ClassId} {B : Nat} {res : HP} (E : e_En p s m args meth c cX13_writes RX13 4 none) {ls : Array Slot} {H : Heap} {locs : List Loc} {S : HP} (hp : e_Pic D cA B S s H) (hS : va_S (e_A B) s.heap H locs) (hl : e_lo ls 4 []) (hsh : s13_writes_b131 S  = some res) : W p l e ({ frames := 2, cells := 0, slots := 0, locals := 45 } : Room) s m args below meth c H locs 0 0 (MQ below (e_Qv D cA B res) args s 0 0 (e_A B)) (F0 m 131 ls []) := by
  obtain ⟨hx, hb, hml, hown, hts, hlk, hrt⟩ := id E
  unfold s13_writes_b131 at hsh
  cases hsh
  exact e_vret hx hb hrt hlk hp hS dX13_writes_131
set_option maxRecDepth 100000 in
set_option maxHeartbeats 4000000 in
theorem w13_writes_l91 {p : Program} {l : Launch} {e : Env} {s : State} {m : MethodId} {args : Array Value} {below : List Frame} {meth : Method} {c : Code} {D : va_G} {cA : Nat → ClassId} {B : Nat} {res : HP} (E : e_En p s m args meth c cX13_writes RX13 4 none) : ∀ (f : Nat) {ls : Array Slot} {H : Heap} {locs : List Loc} {S : HP} {x0 : Int} {x3 : Int} (hp : e_Pic D cA B S s H) (hS : va_S (e_A B) s.heap H locs) (hl : e_lo ls 4 [(0, e_rv B (x0)), (3, .int (iI (x3)))]) (hsh : s13_writes_l91 f S x0 x3 = some res), W p l e ({ frames := 2, cells := 0, slots := 0, locals := 45 } : Room) s m args below meth c H locs 0 0 (MQ below (e_Qv D cA B res) args s 0 0 (e_A B)) (F0 m 91 ls []) := by
  obtain ⟨hx, hb, hml, hown, hts, hlk, hrt⟩ := id E
  intro f
  induction f with
  | zero => intro ls H locs S x0 x3 hp hS hl hsh; cases hsh
  | succ f ih =>
    intro ls H locs S x0 x3 hp hS hl hsh
    have hk91 : ∀ {ls : Array Slot} {H : Heap} {locs : List Loc} {S : HP} {x0 : Int} {x3 : Int} (hp : e_Pic D cA B S s H) (hS : va_S (e_A B) s.heap H locs) (hl : e_lo ls 4 [(0, e_rv B (x0)), (3, .int (iI (x3)))]) (hsh : (s13_writes_l91 f) S x0 x3 = some res), W p l e ({ frames := 2, cells := 0, slots := 0, locals := 45 } : Room) s m args below meth c H locs 0 0 (MQ below (e_Qv D cA B res) args s 0 0 (e_A B)) (F0 m 91 ls []) := ih
    generalize hkk : s13_writes_l91 f = k91 at hk91
    rw [s13_writes_l91] at hsh
    rw [hkk] at hsh
    try dsimp only at hsh
    refine lv_iload_n hx hb dX13_writes_91 rfl (hl.at 1 rfl) ?_
    refine lv_iconst (v := iI (1)) hx hb dX13_writes_92 rfl ?_
    refine e_icmp_le (tgt := 116) hx hb dX13_writes_93 (by decide) (fun c93 => ?_) (fun c93 => ?_)
    · rw [if_pos c93] at hsh
      refine e_aload_n (B := B) (x := x0) hx hb dX13_writes_116 rfl (hl.at 0 rfl) ?_
      refine lv_bipush (v := iI (27)) hx hb dX13_writes_117 (by decide +kernel) ?_
      obtain ⟨S119, h119, hsh⟩ := Option.bind_eq_some_iff.mp hsh
      have ok119 := ok13_setsRegister h119
      refine e_callV (nL := 4) (mc := 0) (ms := 0) (T := TX13) (N := 126) (As := [.int (iI (27))]) (rest := []) hx hb hml hown hts hp hS hl.size ok119.1 ok119.2.1 ok119.2.2 rfl (by decide) (c13_setsRegister l D cA B S S119 (x0) (27) h119) rfl rfl kd13_setsRegister (kl13_451) ks13_setsRegister kv13_setsRegister ki13 kh13_setsRegister ⟨Nat.le_of_ble_eq_true rfl, Nat.le_of_ble_eq_true rfl⟩ rfl (by simp [e_rv_cat, e_int_cat]) ⟨Nat.le_refl _, Nat.le_refl _⟩ dX13_writes_119 rfl (fun H locs hp hS => ?_)
      refine lv_goto (tgt := 131) hx hb dX13_writes_122 (by decide) ?_
      exact w13_writes_b131 E hp hS (hl.sub [] rfl) hsh
    · rw [if_neg c93] at hsh
      refine e_aload_n (B := B) (x := x0) hx hb dX13_writes_96 rfl (hl.at 0 rfl) ?_
      refine lv_bipush (v := iI (26)) hx hb dX13_writes_97 (by decide +kernel) ?_
      refine lv_iload_n hx hb dX13_writes_99 rfl (hl.at 1 rfl) ?_
      refine e_iadd hx hb dX13_writes_100 ?_
      refine lv_iconst (v := iI (1)) hx hb dX13_writes_101 rfl ?_
      refine e_isub hx hb dX13_writes_102 ?_
      refine lv_bipush (v := iI (26)) hx hb dX13_writes_103 (by decide +kernel) ?_
      refine lv_iload_n hx hb dX13_writes_105 rfl (hl.at 1 rfl) ?_
      refine e_iadd hx hb dX13_writes_106 ?_
      obtain ⟨S107, h107, hsh⟩ := Option.bind_eq_some_iff.mp hsh
      have ok107 := ok13_movesRegister h107
      refine e_callV (nL := 4) (mc := 0) (ms := 0) (T := TX13) (N := 126) (As := [.int (iI (((26 + x3) - 1))), .int (iI ((26 + x3)))]) (rest := []) hx hb hml hown hts hp hS hl.size ok107.1 ok107.2.1 ok107.2.2 rfl (by decide) (c13_movesRegister l D cA B S S107 (x0) (((26 + x3) - 1)) ((26 + x3)) h107) rfl rfl kd13_movesRegister (kl13_463) ks13_movesRegister kv13_movesRegister ki13 kh13_movesRegister ⟨Nat.le_of_ble_eq_true rfl, Nat.le_of_ble_eq_true rfl⟩ rfl (by simp [e_rv_cat, e_int_cat]) ⟨Nat.le_refl _, Nat.le_refl _⟩ dX13_writes_107 rfl (fun H locs hp hS => ?_)
      refine e_iinc (n := (-1)) (x := x3) (lv' := [(3, .int (iI ((x3 + (-1))))), (0, e_rv B (x0))]) hx hb dX13_writes_110 hl (k := 1) rfl (by decide) rfl (fun ls hl => ?_)
      refine lv_goto (tgt := 91) hx hb dX13_writes_113 (by decide) ?_
      exact hk91 hp hS (hl.sub [1, 0] rfl) hsh
set_option maxRecDepth 100000 in
set_option maxHeartbeats 4000000 in
theorem w13_writes_b88 {p : Program} {l : Launch} {e : Env} {s : State} {m : MethodId} {args : Array Value} {below : List Frame} {meth : Method} {c : Code} {D : va_G} {cA : Nat → ClassId} {B : Nat} {res : HP} (E : e_En p s m args meth c cX13_writes RX13 4 none) {ls : Array Slot} {H : Heap} {locs : List Loc} {S : HP} {x0 : Int} (hp : e_Pic D cA B S s H) (hS : va_S (e_A B) s.heap H locs) (hl : e_lo ls 4 [(0, e_rv B (x0))]) (hsh : s13_writes_b88 S x0 = some res) : W p l e ({ frames := 2, cells := 0, slots := 0, locals := 45 } : Room) s m args below meth c H locs 0 0 (MQ below (e_Qv D cA B res) args s 0 0 (e_A B)) (F0 m 88 ls []) := by
  obtain ⟨hx, hb, hml, hown, hts, hlk, hrt⟩ := id E
  unfold s13_writes_b88 at hsh
  refine lv_bipush (v := iI (9)) hx hb dX13_writes_88 (by decide +kernel) ?_
  refine e_istore_n (lv' := [(3, .int (iI (9))), (0, e_rv B (x0))]) hx hb dX13_writes_90 rfl hl (by decide) rfl (fun ls hl => ?_)
  exact w13_writes_l91 E 1000000 hp hS (hl.sub [1, 0] rfl) hsh
set_option maxRecDepth 100000 in
set_option maxHeartbeats 4000000 in
theorem w13_writes_b56 {p : Program} {l : Launch} {e : Env} {s : State} {m : MethodId} {args : Array Value} {below : List Frame} {meth : Method} {c : Code} {D : va_G} {cA : Nat → ClassId} {B : Nat} {res : HP} (E : e_En p s m args meth c cX13_writes RX13 4 none) {ls : Array Slot} {H : Heap} {locs : List Loc} {S : HP} {x0 : Int} {x2 : Int} (hp : e_Pic D cA B S s H) (hS : va_S (e_A B) s.heap H locs) (hl : e_lo ls 4 [(0, e_rv B (x0)), (2, .int (iI (x2)))]) (hsh : s13_writes_b56 S x0 x2 = some res) : W p l e ({ frames := 2, cells := 0, slots := 0, locals := 45 } : Room) s m args below meth c H locs 0 0 (MQ below (e_Qv D cA B res) args s 0 0 (e_A B)) (F0 m 56 ls []) := by
  obtain ⟨hx, hb, hml, hown, hts, hlk, hrt⟩ := id E
  unfold s13_writes_b56 at hsh
  refine lv_iload_n hx hb dX13_writes_56 rfl (hl.at 1 rfl) ?_
  refine e_if_eq (tgt := 69) hx hb dX13_writes_57 (by decide) (fun c57 => ?_) (fun c57 => ?_)
  · rw [if_pos c57] at hsh
    refine e_aload_n (B := B) (x := x0) hx hb dX13_writes_69 rfl (hl.at 0 rfl) ?_
    obtain ⟨v70, h70, hsh⟩ := Option.bind_eq_some_iff.mp hsh
    refine e_getI (k := 35) hx hb hts in_X13 hown hp h70 rfl (by decide) (by decide) rfl (hts _ kf13_395) rfl dX13_writes_70 ?_
    refine lv_iconst (v := iI (2)) hx hb dX13_writes_73 rfl ?_
    refine e_icmp_eq (tgt := 88) hx hb dX13_writes_74 (by decide) (fun c74 => ?_) (fun c74 => ?_)
    · rw [if_pos c74] at hsh
      exact w13_writes_b88 E hp hS (hl.sub [0] rfl) hsh
    · rw [if_neg c74] at hsh
      refine e_aload_n (B := B) (x := x0) hx hb dX13_writes_77 rfl (hl.at 0 rfl) ?_
      obtain ⟨v78, h78, hsh⟩ := Option.bind_eq_some_iff.mp hsh
      refine e_getI (k := 38) hx hb hts in_X13 hown hp h78 rfl (by decide) (by decide) rfl (hts _ kf13_404) rfl dX13_writes_78 ?_
      refine e_aload_n (B := B) (x := x0) hx hb dX13_writes_81 rfl (hl.at 0 rfl) ?_
      obtain ⟨v82, h82, hsh⟩ := Option.bind_eq_some_iff.mp hsh
      refine e_getI (k := 36) hx hb hts in_X13 hown hp h82 rfl (by decide) (by decide) rfl (hts _ kf13_398) rfl dX13_writes_82 ?_
      refine e_icmp_le (tgt := 125) hx hb dX13_writes_85 (by decide) (fun c85 => ?_) (fun c85 => ?_)
      · rw [if_pos c85] at hsh
        refine e_aload_n (B := B) (x := x0) hx hb dX13_writes_125 rfl (hl.at 0 rfl) ?_
        refine lv_bipush (v := iI (36)) hx hb dX13_writes_126 (by decide +kernel) ?_
        obtain ⟨S128, h128, hsh⟩ := Option.bind_eq_some_iff.mp hsh
        have ok128 := ok13_setsRegister h128
        refine e_callV (nL := 4) (mc := 0) (ms := 0) (T := TX13) (N := 126) (As := [.int (iI (36))]) (rest := []) hx hb hml hown hts hp hS hl.size ok128.1 ok128.2.1 ok128.2.2 rfl (by decide) (c13_setsRegister l D cA B S S128 (x0) (36) h128) rfl rfl kd13_setsRegister (kl13_451) ks13_setsRegister kv13_setsRegister ki13 kh13_setsRegister ⟨Nat.le_of_ble_eq_true rfl, Nat.le_of_ble_eq_true rfl⟩ rfl (by simp [e_rv_cat, e_int_cat]) ⟨Nat.le_refl _, Nat.le_refl _⟩ dX13_writes_128 rfl (fun H locs hp hS => ?_)
        exact w13_writes_b131 E hp hS (hl.sub [] rfl) hsh
      · rw [if_neg c85] at hsh
        exact w13_writes_b88 E hp hS (hl.sub [0] rfl) hsh
  · rw [if_neg c57] at hsh
    refine e_aload_n (B := B) (x := x0) hx hb dX13_writes_60 rfl (hl.at 0 rfl) ?_
    refine lv_bipush (v := iI (26)) hx hb dX13_writes_61 (by decide +kernel) ?_
    obtain ⟨S63, h63, hsh⟩ := Option.bind_eq_some_iff.mp hsh
    have ok63 := ok13_setsRegister h63
    refine e_callV (nL := 4) (mc := 0) (ms := 0) (T := TX13) (N := 126) (As := [.int (iI (26))]) (rest := []) hx hb hml hown hts hp hS hl.size ok63.1 ok63.2.1 ok63.2.2 rfl (by decide) (c13_setsRegister l D cA B S S63 (x0) (26) h63) rfl rfl kd13_setsRegister (kl13_451) ks13_setsRegister kv13_setsRegister ki13 kh13_setsRegister ⟨Nat.le_of_ble_eq_true rfl, Nat.le_of_ble_eq_true rfl⟩ rfl (by simp [e_rv_cat, e_int_cat]) ⟨Nat.le_refl _, Nat.le_refl _⟩ dX13_writes_63 rfl (fun H locs hp hS => ?_)
    refine lv_goto (tgt := 131) hx hb dX13_writes_66 (by decide) ?_
    exact w13_writes_b131 E hp hS (hl.sub [] rfl) hsh
set_option maxRecDepth 100000 in
set_option maxHeartbeats 4000000 in
theorem c13_writes (l : Launch) (D : va_G) (cA : Nat → ClassId) (B : Nat) (S S' : HP) (x0 : Int) (x1 : Int) (x2 : Int) (hsh : s13_writes S x0 x1 x2 = some S') : Met l yX13_writes (e_wu yX13_writes cX13_writes 4 none) ({ frames := 2, cells := 0, slots := 0, locals := 45 } : Room) (va_Pc [e_rv B (x0), .int (iI (x1)), .int (iI (x2))] (fun U => e_PU D cA B S U)) (e_Qv D cA B S') 0 0 (e_A B) := by
  refine Met.ofW (cc := cX13_writes) (maxL := 4) (ret := none) (by decide +kernel) rfl ?_
  intro p e s m args below meth c s₁ Bd hml hv
  obtain ⟨rfl, hp⟩ := hv
  have hp : e_Pic D cA B S s s.heap := hp
  have hx := Bd.exec
  have hb := Bd.bytes
  have hrt := Bd.returns
  have hlk := Bd.notSynchronized
  have hown : s.vm.findClass RX13 = some m.cls := findClass_of_methodNamed Bd.named
  have hts : ∀ w ∈ e_tb, w.before ([e_rv B (x0), .int (iI (x1)), .int (iI (x2))] : List Value).toArray s = true := fun w h => atoms_spec (ws := (e_wu yX13_writes cX13_writes 4 none)) Bd.pre w (List.mem_cons_of_mem _ h)
  have E : e_En p s m ([e_rv B (x0), .int (iI (x1)), .int (iI (x2))] : List Value).toArray meth c cX13_writes RX13 4 none := ⟨hx, hb, hml, hown, hts, hlk, hrt⟩
  have hS : va_S (e_A B) s.heap s.heap [] := va_S.rf
  have hl := e_entry (vs := [e_rv B (x0), .int (iI (x1)), .int (iI (x2))]) (n := 4) (Nat.le_of_ble_eq_true rfl) (e_cc (e_rv_cat _ _) (e_cc rfl (e_cc rfl e_cn)))
  rw [lg_entry_eq]
  generalize (lg_sl [e_rv B (x0), .int (iI (x1)), .int (iI (x2))] ++ List.replicate (4 - (lg_sl [e_rv B (x0), .int (iI (x1)), .int (iI (x2))]).length) Slot.unset).toArray = ls at hl ⊢
  generalize ([e_rv B (x0), .int (iI (x1)), .int (iI (x2))] : List Value).toArray = args at hts E ⊢
  have hl : e_lo ls 4 [(0, e_rv B (x0)), (1, .int (iI (x1))), (2, .int (iI (x2)))] := hl
  have hsh := (gd_some hsh).2
  refine lv_iload_n hx hb dX13_writes_0 rfl (hl.at 1 rfl) ?_
  refine lv_bipush (v := iI (95)) hx hb dX13_writes_1 (by decide +kernel) ?_
  refine e_icmp_ne (tgt := 7) hx hb dX13_writes_3 (by decide) (fun c3 => ?_) (fun c3 => ?_)
  · rw [if_neg c3] at hsh
    refine e_aload_n (B := B) (x := x0) hx hb dX13_writes_7 rfl (hl.at 0 rfl) ?_
    refine lv_bipush (v := iI (37)) hx hb dX13_writes_8 (by decide +kernel) ?_
    obtain ⟨S10, h10, hsh⟩ := Option.bind_eq_some_iff.mp hsh
    have ok10 := ok13_setsRegister h10
    refine e_callV (nL := 4) (mc := 0) (ms := 0) (T := TX13) (N := 126) (As := [.int (iI (37))]) (rest := []) hx hb hml hown hts hp hS hl.size ok10.1 ok10.2.1 ok10.2.2 rfl (by decide) (c13_setsRegister l D cA B S S10 (x0) (37) h10) rfl rfl kd13_setsRegister (kl13_451) ks13_setsRegister kv13_setsRegister ki13 kh13_setsRegister ⟨Nat.le_of_ble_eq_true rfl, Nat.le_of_ble_eq_true rfl⟩ rfl (by simp [e_rv_cat, e_int_cat]) ⟨Nat.le_refl _, Nat.le_refl _⟩ dX13_writes_10 rfl (fun H locs hp hS => ?_)
    refine lv_iload_n hx hb dX13_writes_13 rfl (hl.at 1 rfl) ?_
    refine lv_bipush (v := iI (65)) hx hb dX13_writes_14 (by decide +kernel) ?_
    refine lv_bipush (v := iI (90)) hx hb dX13_writes_16 (by decide +kernel) ?_
    obtain ⟨⟨v18, S18⟩, h18, hsh⟩ := Option.bind_eq_some_iff.mp hsh
    have hsh : _ = _ := hsh
    try dsimp only at hsh
    refine e_callS (nL := 4) (mc := 0) (ms := 0) (As := [.int (iI (x1)), .int (iI (65)), .int (iI (90))]) (rest := []) hx hb hml hown hts hp hS hl.size (c13_isIn l D cA B S10 S18 (x1) (65) (90) v18 h18) rfl rfl kd13_isIn (kl13_198) ks13_isIn ki13 kh13_isIn ⟨Nat.le_of_ble_eq_true rfl, Nat.le_of_ble_eq_true rfl⟩ rfl (by simp [e_rv_cat, e_int_cat]) ⟨Nat.le_refl _, Nat.le_refl _⟩ dX13_writes_18 rfl (fun H locs hp hS => ?_)
    refine e_if_eq (tgt := 35) hx hb dX13_writes_21 (by decide) (fun c21 => ?_) (fun c21 => ?_)
    · rw [if_pos c21] at hsh
      refine lv_iload_n hx hb dX13_writes_35 rfl (hl.at 1 rfl) ?_
      refine e_if_eq (tgt := 56) hx hb dX13_writes_36 (by decide) (fun c36 => ?_) (fun c36 => ?_)
      · rw [if_pos c36] at hsh
        exact w13_writes_b56 E hp hS (hl.sub [0, 2] rfl) hsh
      · rw [if_neg c36] at hsh
        refine lv_iload_n hx hb dX13_writes_39 rfl (hl.at 1 rfl) ?_
        refine lv_bipush (v := iI (34)) hx hb dX13_writes_40 (by decide +kernel) ?_
        refine e_icmp_eq (tgt := 56) hx hb dX13_writes_42 (by decide) (fun c42 => ?_) (fun c42 => ?_)
        · rw [if_pos c42] at hsh
          exact w13_writes_b56 E hp hS (hl.sub [0, 2] rfl) hsh
        · rw [if_neg c42] at hsh
          refine e_aload_n (B := B) (x := x0) hx hb dX13_writes_45 rfl (hl.at 0 rfl) ?_
          refine lv_iload_n hx hb dX13_writes_46 rfl (hl.at 1 rfl) ?_
          obtain ⟨⟨v47, S47⟩, h47, hsh⟩ := Option.bind_eq_some_iff.mp hsh
          have hsh : _ = _ := hsh
          try dsimp only at hsh
          refine e_callS (nL := 4) (mc := 0) (ms := 0) (As := [.int (iI (x1))]) (rest := [e_rv B (x0)]) hx hb hml hown hts hp hS hl.size (c13_registerOf l D cA B S18 S47 (x1) v47 h47) rfl rfl kd13_registerOf (kl13_457) ks13_registerOf ki13 kh13_registerOf ⟨Nat.le_of_ble_eq_true rfl, Nat.le_of_ble_eq_true rfl⟩ rfl (by simp [e_rv_cat, e_int_cat]) ⟨Nat.le_refl _, Nat.le_refl _⟩ dX13_writes_47 rfl (fun H locs hp hS => ?_)
          obtain ⟨S50, h50, hsh⟩ := Option.bind_eq_some_iff.mp hsh
          have ok50 := ok13_setsRegister h50
          refine e_callV (nL := 4) (mc := 0) (ms := 0) (T := TX13) (N := 126) (As := [.int (iI (v47))]) (rest := []) hx hb hml hown hts hp hS hl.size ok50.1 ok50.2.1 ok50.2.2 rfl (by decide) (c13_setsRegister l D cA B S47 S50 (x0) (v47) h50) rfl rfl kd13_setsRegister (kl13_451) ks13_setsRegister kv13_setsRegister ki13 kh13_setsRegister ⟨Nat.le_of_ble_eq_true rfl, Nat.le_of_ble_eq_true rfl⟩ rfl (by simp [e_rv_cat, e_int_cat]) ⟨Nat.le_refl _, Nat.le_refl _⟩ dX13_writes_50 rfl (fun H locs hp hS => ?_)
          refine lv_goto (tgt := 131) hx hb dX13_writes_53 (by decide) ?_
          exact w13_writes_b131 E hp hS (hl.sub [] rfl) hsh
    · rw [if_neg c21] at hsh
      refine e_aload_n (B := B) (x := x0) hx hb dX13_writes_24 rfl (hl.at 0 rfl) ?_
      refine lv_iload_n hx hb dX13_writes_25 rfl (hl.at 1 rfl) ?_
      obtain ⟨⟨v26, S26⟩, h26, hsh⟩ := Option.bind_eq_some_iff.mp hsh
      have hsh : _ = _ := hsh
      try dsimp only at hsh
      refine e_callS (nL := 4) (mc := 0) (ms := 0) (As := [.int (iI (x1))]) (rest := [e_rv B (x0)]) hx hb hml hown hts hp hS hl.size (c13_registerOf l D cA B S18 S26 (x1) v26 h26) rfl rfl kd13_registerOf (kl13_457) ks13_registerOf ki13 kh13_registerOf ⟨Nat.le_of_ble_eq_true rfl, Nat.le_of_ble_eq_true rfl⟩ rfl (by simp [e_rv_cat, e_int_cat]) ⟨Nat.le_refl _, Nat.le_refl _⟩ dX13_writes_26 rfl (fun H locs hp hS => ?_)
      obtain ⟨S29, h29, hsh⟩ := Option.bind_eq_some_iff.mp hsh
      have ok29 := ok13_addsRegister h29
      refine e_callV (nL := 4) (mc := 0) (ms := 0) (T := TX13) (N := 126) (As := [.int (iI (v26))]) (rest := []) hx hb hml hown hts hp hS hl.size ok29.1 ok29.2.1 ok29.2.2 rfl (by decide) (c13_addsRegister l D cA B S26 S29 (x0) (v26) h29) rfl rfl kd13_addsRegister (kl13_460) ks13_addsRegister kv13_addsRegister ki13 kh13_addsRegister ⟨Nat.le_of_ble_eq_true rfl, Nat.le_of_ble_eq_true rfl⟩ rfl (by simp [e_rv_cat, e_int_cat]) ⟨Nat.le_refl _, Nat.le_refl _⟩ dX13_writes_29 rfl (fun H locs hp hS => ?_)
      refine lv_goto (tgt := 131) hx hb dX13_writes_32 (by decide) ?_
      exact w13_writes_b131 E hp hS (hl.sub [] rfl) hsh
  · rw [if_pos c3] at hsh
    cases hsh
    exact e_vret hx hb hrt hlk hp hS dX13_writes_6
theorem ok13_opensFolds {S : HP} {x0 : Int} {x1 : Int} {r : HP} (h : s13_opensFolds S x0 x1 = some r) : 0 ≤ x0 ∧ x0.toNat < e_n S ∧ e_g S x0.toNat = 13 := (gd_some h).1
set_option maxRecDepth 100000 in
set_option maxHeartbeats 4000000 in
theorem w13_opensFolds_b59 {p : Program} {l : Launch} {e : Env} {s : State} {m : MethodId} {args : Array Value} {below : List Frame} {meth : Method} {c : Code} {D : va_G} {cA : Nat → ClassId} {B : Nat} {res : HP} (E : e_En p s m args meth c cX13_opensFolds RX13 3 none) {ls : Array Slot} {H : Heap} {locs : List Loc} {S : HP} (hp : e_Pic D cA B S s H) (hS : va_S (e_A B) s.heap H locs) (hl : e_lo ls 3 []) (hsh : s13_opensFolds_b59 S  = some res) : W p l e ({ frames := 1, cells := 0, slots := 0, locals := 22 } : Room) s m args below meth c H locs 0 0 (MQ below (e_Qv D cA B res) args s 0 0 (e_A B)) (F0 m 59 ls []) := by
  obtain ⟨hx, hb, hml, hown, hts, hlk, hrt⟩ := id E
  unfold s13_opensFolds_b59 at hsh
  cases hsh
  exact e_vret hx hb hrt hlk hp hS dX13_opensFolds_59
set_option maxRecDepth 100000 in
set_option maxHeartbeats 4000000 in
theorem w13_opensFolds_b53 {p : Program} {l : Launch} {e : Env} {s : State} {m : MethodId} {args : Array Value} {below : List Frame} {meth : Method} {c : Code} {D : va_G} {cA : Nat → ClassId} {B : Nat} {res : HP} {k2 : HP → Int → Int → Int → Option (HP)} (hk2 : ∀ {ls : Array Slot} {H : Heap} {locs : List Loc} {S : HP} {x0 : Int} {x1 : Int} {x2 : Int} (hp : e_Pic D cA B S s H) (hS : va_S (e_A B) s.heap H locs) (hl : e_lo ls 3 [(0, e_rv B (x0)), (1, .int (iI (x1))), (2, .int (iI (x2)))]) (hsh : k2 S x0 x1 x2 = some res), W p l e ({ frames := 1, cells := 0, slots := 0, locals := 22 } : Room) s m args below meth c H locs 0 0 (MQ below (e_Qv D cA B res) args s 0 0 (e_A B)) (F0 m 2 ls [])) (E : e_En p s m args meth c cX13_opensFolds RX13 3 none) {ls : Array Slot} {H : Heap} {locs : List Loc} {S : HP} {x0 : Int} {x1 : Int} {x2 : Int} (hp : e_Pic D cA B S s H) (hS : va_S (e_A B) s.heap H locs) (hl : e_lo ls 3 [(0, e_rv B (x0)), (1, .int (iI (x1))), (2, .int (iI (x2)))]) (hsh : s13_opensFolds_b53 k2 S x0 x1 x2 = some res) : W p l e ({ frames := 1, cells := 0, slots := 0, locals := 22 } : Room) s m args below meth c H locs 0 0 (MQ below (e_Qv D cA B res) args s 0 0 (e_A B)) (F0 m 53 ls []) := by
  obtain ⟨hx, hb, hml, hown, hts, hlk, hrt⟩ := id E
  unfold s13_opensFolds_b53 at hsh
  refine e_iinc (n := 1) (x := x2) (lv' := [(2, .int (iI ((x2 + 1)))), (0, e_rv B (x0)), (1, .int (iI (x1)))]) hx hb dX13_opensFolds_53 hl (k := 2) rfl (by decide) rfl (fun ls hl => ?_)
  refine lv_goto (tgt := 2) hx hb dX13_opensFolds_56 (by decide) ?_
  exact hk2 hp hS (hl.sub [1, 2, 0] rfl) hsh
set_option maxRecDepth 100000 in
set_option maxHeartbeats 4000000 in
theorem w13_opensFolds_l2 {p : Program} {l : Launch} {e : Env} {s : State} {m : MethodId} {args : Array Value} {below : List Frame} {meth : Method} {c : Code} {D : va_G} {cA : Nat → ClassId} {B : Nat} {res : HP} (E : e_En p s m args meth c cX13_opensFolds RX13 3 none) : ∀ (f : Nat) {ls : Array Slot} {H : Heap} {locs : List Loc} {S : HP} {x0 : Int} {x1 : Int} {x2 : Int} (hp : e_Pic D cA B S s H) (hS : va_S (e_A B) s.heap H locs) (hl : e_lo ls 3 [(0, e_rv B (x0)), (1, .int (iI (x1))), (2, .int (iI (x2)))]) (hsh : s13_opensFolds_l2 f S x0 x1 x2 = some res), W p l e ({ frames := 1, cells := 0, slots := 0, locals := 22 } : Room) s m args below meth c H locs 0 0 (MQ below (e_Qv D cA B res) args s 0 0 (e_A B)) (F0 m 2 ls []) := by
  obtain ⟨hx, hb, hml, hown, hts, hlk, hrt⟩ := id E
  intro f
  induction f with
  | zero => intro ls H locs S x0 x1 x2 hp hS hl hsh; cases hsh
  | succ f ih =>
    intro ls H locs S x0 x1 x2 hp hS hl hsh
    have hk2 : ∀ {ls : Array Slot} {H : Heap} {locs : List Loc} {S : HP} {x0 : Int} {x1 : Int} {x2 : Int} (hp : e_Pic D cA B S s H) (hS : va_S (e_A B) s.heap H locs) (hl : e_lo ls 3 [(0, e_rv B (x0)), (1, .int (iI (x1))), (2, .int (iI (x2)))]) (hsh : (s13_opensFolds_l2 f) S x0 x1 x2 = some res), W p l e ({ frames := 1, cells := 0, slots := 0, locals := 22 } : Room) s m args below meth c H locs 0 0 (MQ below (e_Qv D cA B res) args s 0 0 (e_A B)) (F0 m 2 ls []) := ih
    generalize hkk : s13_opensFolds_l2 f = k2 at hk2
    rw [s13_opensFolds_l2] at hsh
    rw [hkk] at hsh
    try dsimp only at hsh
    refine lv_iload_n hx hb dX13_opensFolds_2 rfl (hl.at 2 rfl) ?_
    refine lv_sipush (v := iI (1600)) hx hb dX13_opensFolds_3 (by decide +kernel) ?_
    refine e_icmp_ge (tgt := 59) hx hb dX13_opensFolds_6 (by decide) (fun c6 => ?_) (fun c6 => ?_)
    · rw [if_pos c6] at hsh
      exact w13_opensFolds_b59 E hp hS (hl.sub [] rfl) hsh
    · rw [if_neg c6] at hsh
      refine e_aload_n (B := B) (x := x0) hx hb dX13_opensFolds_9 rfl (hl.at 0 rfl) ?_
      obtain ⟨v10, h10, hsh⟩ := Option.bind_eq_some_iff.mp hsh
      refine e_getI (k := 20) hx hb hts in_X13 hown hp h10 rfl (by decide) (by decide) rfl (hts _ kf13_237) rfl dX13_opensFolds_10 ?_
      refine e_if_le (tgt := 59) hx hb dX13_opensFolds_13 (by decide) (fun c13 => ?_) (fun c13 => ?_)
      · rw [if_pos c13] at hsh
        exact w13_opensFolds_b59 E hp hS (hl.sub [] rfl) hsh
      · rw [if_neg c13] at hsh
        refine lv_iload_n hx hb dX13_opensFolds_16 rfl (hl.at 1 rfl) ?_
        refine lv_iload_n hx hb dX13_opensFolds_17 rfl (hl.at 2 rfl) ?_
        refine lv_bipush (v := iI (40)) hx hb dX13_opensFolds_18 (by decide +kernel) ?_
        obtain ⟨v20, h20, hsh⟩ := Option.bind_eq_some_iff.mp hsh
        refine e_idiv hx hb h20 dX13_opensFolds_20 ?_
        refine lv_iload_n hx hb dX13_opensFolds_21 rfl (hl.at 2 rfl) ?_
        refine lv_bipush (v := iI (40)) hx hb dX13_opensFolds_22 (by decide +kernel) ?_
        obtain ⟨v24, h24, hsh⟩ := Option.bind_eq_some_iff.mp hsh
        refine e_irem hx hb h24 dX13_opensFolds_24 ?_
        obtain ⟨⟨v25, S25⟩, h25, hsh⟩ := Option.bind_eq_some_iff.mp hsh
        have hsh : _ = _ := hsh
        try dsimp only at hsh
        refine e_callS (nL := 3) (mc := 0) (ms := 0) (As := [.int (iI (x1)), .int (iI (v20)), .int (iI (v24))]) (rest := []) hx hb hml hown hts hp hS hl.size (c13_isIn l D cA B S S25 (x1) (v20) (v24) v25 h25) rfl rfl kd13_isIn (kl13_198) ks13_isIn ki13 kh13_isIn ⟨Nat.le_of_ble_eq_true rfl, Nat.le_of_ble_eq_true rfl⟩ rfl (by simp [e_rv_cat, e_int_cat]) ⟨Nat.le_refl _, Nat.le_refl _⟩ dX13_opensFolds_25 rfl (fun H locs hp hS => ?_)
        refine e_if_eq (tgt := 53) hx hb dX13_opensFolds_28 (by decide) (fun c28 => ?_) (fun c28 => ?_)
        · rw [if_pos c28] at hsh
          exact w13_opensFolds_b53 (hk2 := hk2) E hp hS (hl.sub [0, 1, 2] rfl) hsh
        · rw [if_neg c28] at hsh
          refine e_aload_n (B := B) (x := x0) hx hb dX13_opensFolds_31 rfl (hl.at 0 rfl) ?_
          obtain ⟨v32, h32, hsh⟩ := Option.bind_eq_some_iff.mp hsh
          refine e_getR (k := 21) hx hb hts in_X13 hown hp h32 rfl (by decide) (by decide) rfl (hts _ kf13_48) rfl dX13_opensFolds_32 ?_
          refine lv_iload_n hx hb dX13_opensFolds_35 rfl (hl.at 2 rfl) ?_
          refine lv_dup2_11 hx hb dX13_opensFolds_36 rfl (e_rv_cat _ _) ?_
          obtain ⟨v37, h37, hsh⟩ := Option.bind_eq_some_iff.mp hsh
          refine e_iald hx hb hp h37 dX13_opensFolds_37 ?_
          refine e_aload_n (B := B) (x := x0) hx hb dX13_opensFolds_38 rfl (hl.at 0 rfl) ?_
          obtain ⟨v39, h39, hsh⟩ := Option.bind_eq_some_iff.mp hsh
          refine e_getR (k := 22) hx hb hts in_X13 hown hp h39 rfl (by decide) (by decide) rfl (hts _ kf13_51) rfl dX13_opensFolds_39 ?_
          refine lv_iload_n hx hb dX13_opensFolds_42 rfl (hl.at 2 rfl) ?_
          obtain ⟨v43, h43, hsh⟩ := Option.bind_eq_some_iff.mp hsh
          refine e_iald hx hb hp h43 dX13_opensFolds_43 ?_
          refine e_iadd hx hb dX13_opensFolds_44 ?_
          obtain ⟨S45, h45, hsh⟩ := Option.bind_eq_some_iff.mp hsh
          refine e_iast hx hb hp hS h45 dX13_opensFolds_45 (fun H locs hp hS => ?_)
          refine e_aload_n (B := B) (x := x0) hx hb dX13_opensFolds_46 rfl (hl.at 0 rfl) ?_
          obtain ⟨v47, h47, hsh⟩ := Option.bind_eq_some_iff.mp hsh
          refine e_getR (k := 22) hx hb hts in_X13 hown hp h47 rfl (by decide) (by decide) rfl (hts _ kf13_51) rfl dX13_opensFolds_47 ?_
          refine lv_iload_n hx hb dX13_opensFolds_50 rfl (hl.at 2 rfl) ?_
          refine lv_iconst (v := iI (0)) hx hb dX13_opensFolds_51 rfl ?_
          obtain ⟨S52, h52, hsh⟩ := Option.bind_eq_some_iff.mp hsh
          refine e_iast hx hb hp hS h52 dX13_opensFolds_52 (fun H locs hp hS => ?_)
          exact w13_opensFolds_b53 (hk2 := hk2) E hp hS (hl.sub [0, 1, 2] rfl) hsh
set_option maxRecDepth 100000 in
set_option maxHeartbeats 4000000 in
theorem c13_opensFolds (l : Launch) (D : va_G) (cA : Nat → ClassId) (B : Nat) (S S' : HP) (x0 : Int) (x1 : Int) (hsh : s13_opensFolds S x0 x1 = some S') : Met l yX13_opensFolds (e_wu yX13_opensFolds cX13_opensFolds 3 none) ({ frames := 1, cells := 0, slots := 0, locals := 22 } : Room) (va_Pc [e_rv B (x0), .int (iI (x1))] (fun U => e_PU D cA B S U)) (e_Qv D cA B S') 0 0 (e_A B) := by
  refine Met.ofW (cc := cX13_opensFolds) (maxL := 3) (ret := none) (by decide +kernel) rfl ?_
  intro p e s m args below meth c s₁ Bd hml hv
  obtain ⟨rfl, hp⟩ := hv
  have hp : e_Pic D cA B S s s.heap := hp
  have hx := Bd.exec
  have hb := Bd.bytes
  have hrt := Bd.returns
  have hlk := Bd.notSynchronized
  have hown : s.vm.findClass RX13 = some m.cls := findClass_of_methodNamed Bd.named
  have hts : ∀ w ∈ e_tb, w.before ([e_rv B (x0), .int (iI (x1))] : List Value).toArray s = true := fun w h => atoms_spec (ws := (e_wu yX13_opensFolds cX13_opensFolds 3 none)) Bd.pre w (List.mem_cons_of_mem _ h)
  have E : e_En p s m ([e_rv B (x0), .int (iI (x1))] : List Value).toArray meth c cX13_opensFolds RX13 3 none := ⟨hx, hb, hml, hown, hts, hlk, hrt⟩
  have hS : va_S (e_A B) s.heap s.heap [] := va_S.rf
  have hl := e_entry (vs := [e_rv B (x0), .int (iI (x1))]) (n := 3) (Nat.le_of_ble_eq_true rfl) (e_cc (e_rv_cat _ _) (e_cc rfl e_cn))
  rw [lg_entry_eq]
  generalize (lg_sl [e_rv B (x0), .int (iI (x1))] ++ List.replicate (3 - (lg_sl [e_rv B (x0), .int (iI (x1))]).length) Slot.unset).toArray = ls at hl ⊢
  generalize ([e_rv B (x0), .int (iI (x1))] : List Value).toArray = args at hts E ⊢
  have hl : e_lo ls 3 [(0, e_rv B (x0)), (1, .int (iI (x1)))] := hl
  have hsh := (gd_some hsh).2
  refine lv_iconst (v := iI (0)) hx hb dX13_opensFolds_0 rfl ?_
  refine e_istore_n (lv' := [(2, .int (iI (0))), (0, e_rv B (x0)), (1, .int (iI (x1)))]) hx hb dX13_opensFolds_1 rfl hl (by decide) rfl (fun ls hl => ?_)
  exact w13_opensFolds_l2 E 1000000 hp hS (hl.sub [1, 2, 0] rfl) hsh
theorem ok13_inserts {S : HP} {x0 : Int} {x1 : Int} {x2 : Int} {x3 : Int} {r : Int × HP} (h : s13_inserts S x0 x1 x2 x3 = some r) : 0 ≤ x0 ∧ x0.toNat < e_n S ∧ e_g S x0.toNat = 13 := (gd_some h).1
set_option maxRecDepth 100000 in
set_option maxHeartbeats 4000000 in
theorem c13_inserts (l : Launch) (D : va_G) (cA : Nat → ClassId) (B : Nat) (S S' : HP) (x0 : Int) (x1 : Int) (x2 : Int) (x3 : Int) (r : Int) (hsh : s13_inserts S x0 x1 x2 x3 = some (r, S')) : Met l yX13_inserts (e_wu yX13_inserts cX13_inserts 4 (some .boolean)) ({ frames := 2, cells := 0, slots := 0, locals := 44 } : Room) (va_Pc [e_rv B (x0), .int (iI (x1)), .int (iI (x2)), .int (iI (x3))] (fun U => e_PU D cA B S U)) (e_Qi D cA B r S') 0 0 (e_A B) := by
  refine Met.ofW (cc := cX13_inserts) (maxL := 4) (ret := (some .boolean)) (by decide +kernel) rfl ?_
  intro p e s m args below meth c s₁ Bd hml hv
  obtain ⟨rfl, hp⟩ := hv
  have hp : e_Pic D cA B S s s.heap := hp
  have hx := Bd.exec
  have hb := Bd.bytes
  have hrt := Bd.returns
  have hlk := Bd.notSynchronized
  have hown : s.vm.findClass RX13 = some m.cls := findClass_of_methodNamed Bd.named
  have hts : ∀ w ∈ e_tb, w.before ([e_rv B (x0), .int (iI (x1)), .int (iI (x2)), .int (iI (x3))] : List Value).toArray s = true := fun w h => atoms_spec (ws := (e_wu yX13_inserts cX13_inserts 4 (some .boolean))) Bd.pre w (List.mem_cons_of_mem _ h)
  have E : e_En p s m ([e_rv B (x0), .int (iI (x1)), .int (iI (x2)), .int (iI (x3))] : List Value).toArray meth c cX13_inserts RX13 4 (some .boolean) := ⟨hx, hb, hml, hown, hts, hlk, hrt⟩
  have hS : va_S (e_A B) s.heap s.heap [] := va_S.rf
  have hl := e_entry (vs := [e_rv B (x0), .int (iI (x1)), .int (iI (x2)), .int (iI (x3))]) (n := 4) (Nat.le_of_ble_eq_true rfl) (e_cc (e_rv_cat _ _) (e_cc rfl (e_cc rfl (e_cc rfl e_cn))))
  rw [lg_entry_eq]
  generalize (lg_sl [e_rv B (x0), .int (iI (x1)), .int (iI (x2)), .int (iI (x3))] ++ List.replicate (4 - (lg_sl [e_rv B (x0), .int (iI (x1)), .int (iI (x2)), .int (iI (x3))]).length) Slot.unset).toArray = ls at hl ⊢
  generalize ([e_rv B (x0), .int (iI (x1)), .int (iI (x2)), .int (iI (x3))] : List Value).toArray = args at hts E ⊢
  have hl : e_lo ls 4 [(0, e_rv B (x0)), (1, .int (iI (x1))), (2, .int (iI (x2))), (3, .int (iI (x3)))] := hl
  have hsh := (gd_some hsh).2
  refine e_aload_n (B := B) (x := x0) hx hb dX13_inserts_0 rfl (hl.at 0 rfl) ?_
  refine lv_iconst (v := iI (1)) hx hb dX13_inserts_1 rfl ?_
  obtain ⟨S2, h2, hsh⟩ := Option.bind_eq_some_iff.mp hsh
  refine e_putI (k := 8) hx hb hts in_X13 tyX13 tyX13_ok nmX13 hown hp hS h2 rfl (by decide) (by decide) rfl (hts _ kf13_466) rfl rfl (by decide +kernel) dX13_inserts_2 (fun H locs hp hS => ?_)
  refine e_aload_n (B := B) (x := x0) hx hb dX13_inserts_5 rfl (hl.at 0 rfl) ?_
  refine lv_iload_n hx hb dX13_inserts_6 rfl (hl.at 1 rfl) ?_
  obtain ⟨S7, h7, hsh⟩ := Option.bind_eq_some_iff.mp hsh
  refine e_putI (k := 5) hx hb hts in_X13 tyX13 tyX13_ok nmX13 hown hp hS h7 rfl (by decide) (by decide) rfl (hts _ kf13_213) rfl rfl (by decide +kernel) dX13_inserts_7 (fun H locs hp hS => ?_)
  refine e_aload_n (B := B) (x := x0) hx hb dX13_inserts_10 rfl (hl.at 0 rfl) ?_
  refine lv_iload_n hx hb dX13_inserts_11 rfl (hl.at 2 rfl) ?_
  obtain ⟨S12, h12, hsh⟩ := Option.bind_eq_some_iff.mp hsh
  refine e_putI (k := 6) hx hb hts in_X13 tyX13 tyX13_ok nmX13 hown hp hS h12 rfl (by decide) (by decide) rfl (hts _ kf13_216) rfl rfl (by decide +kernel) dX13_inserts_12 (fun H locs hp hS => ?_)
  refine e_aload_n (B := B) (x := x0) hx hb dX13_inserts_15 rfl (hl.at 0 rfl) ?_
  refine lv_iload_n hx hb dX13_inserts_16 rfl (hl.at 2 rfl) ?_
  obtain ⟨S17, h17, hsh⟩ := Option.bind_eq_some_iff.mp hsh
  refine e_putI (k := 7) hx hb hts in_X13 tyX13 tyX13_ok nmX13 hown hp hS h17 rfl (by decide) (by decide) rfl (hts _ kf13_219) rfl rfl (by decide +kernel) dX13_inserts_17 (fun H locs hp hS => ?_)
  refine e_aload_n (B := B) (x := x0) hx hb dX13_inserts_20 rfl (hl.at 0 rfl) ?_
  refine lv_iload_n hx hb dX13_inserts_21 rfl (hl.at 1 rfl) ?_
  obtain ⟨S22, h22, hsh⟩ := Option.bind_eq_some_iff.mp hsh
  refine e_putI (k := 71) hx hb hts in_X13 tyX13 tyX13_ok nmX13 hown hp hS h22 rfl (by decide) (by decide) rfl (hts _ kf13_469) rfl rfl (by decide +kernel) dX13_inserts_22 (fun H locs hp hS => ?_)
  refine e_aload_n (B := B) (x := x0) hx hb dX13_inserts_25 rfl (hl.at 0 rfl) ?_
  refine lv_iload_n hx hb dX13_inserts_26 rfl (hl.at 2 rfl) ?_
  obtain ⟨S27, h27, hsh⟩ := Option.bind_eq_some_iff.mp hsh
  refine e_putI (k := 72) hx hb hts in_X13 tyX13 tyX13_ok nmX13 hown hp hS h27 rfl (by decide) (by decide) rfl (hts _ kf13_472) rfl rfl (by decide +kernel) dX13_inserts_27 (fun H locs hp hS => ?_)
  refine e_aload_n (B := B) (x := x0) hx hb dX13_inserts_30 rfl (hl.at 0 rfl) ?_
  refine lv_iload_n hx hb dX13_inserts_31 rfl (hl.at 3 rfl) ?_
  obtain ⟨S32, h32, hsh⟩ := Option.bind_eq_some_iff.mp hsh
  refine e_putI (k := 73) hx hb hts in_X13 tyX13 tyX13_ok nmX13 hown hp hS h32 rfl (by decide) (by decide) rfl (hts _ kf13_475) rfl rfl (by decide +kernel) dX13_inserts_32 (fun H locs hp hS => ?_)
  refine e_aload_n (B := B) (x := x0) hx hb dX13_inserts_35 rfl (hl.at 0 rfl) ?_
  refine lv_iload_n hx hb dX13_inserts_36 rfl (hl.at 1 rfl) ?_
  obtain ⟨S37, h37, hsh⟩ := Option.bind_eq_some_iff.mp hsh
  have ok37 := ok13_opensFolds h37
  refine e_callV (nL := 4) (mc := 0) (ms := 0) (T := TX13) (N := 126) (As := [.int (iI (x1))]) (rest := []) hx hb hml hown hts hp hS hl.size ok37.1 ok37.2.1 ok37.2.2 rfl (by decide) (c13_opensFolds l D cA B S32 S37 (x0) (x1) h37) rfl rfl kd13_opensFolds (kl13_478) ks13_opensFolds kv13_opensFolds ki13 kh13_opensFolds ⟨Nat.le_of_ble_eq_true rfl, Nat.le_of_ble_eq_true rfl⟩ rfl (by simp [e_rv_cat, e_int_cat]) ⟨Nat.le_refl _, Nat.le_refl _⟩ dX13_inserts_37 rfl (fun H locs hp hS => ?_)
  refine lv_iconst (v := iI (1)) hx hb dX13_inserts_40 rfl ?_
  obtain ⟨hz, hz1, hz2⟩ := zR_some hsh
  rw [← hz1, ← hz2]
  exact e_zret hx hb hrt hlk hp hS hz dX13_inserts_41
theorem ok13_fitsTaken {S : HP} {x0 : Int} {r : Int × HP} (h : s13_fitsTaken S x0 = some r) : 0 ≤ x0 ∧ x0.toNat < e_n S ∧ e_g S x0.toNat = 13 := (gd_some h).1
set_option maxRecDepth 100000 in
set_option maxHeartbeats 4000000 in
theorem w13_fitsTaken_b36 {p : Program} {l : Launch} {e : Env} {s : State} {m : MethodId} {args : Array Value} {below : List Frame} {meth : Method} {c : Code} {D : va_G} {cA : Nat → ClassId} {B : Nat} {res : Int × HP} (E : e_En p s m args meth c cX13_fitsTaken RX13 1 (some .boolean)) {ls : Array Slot} {H : Heap} {locs : List Loc} {S : HP} {y0 : Int} (hp : e_Pic D cA B S s H) (hS : va_S (e_A B) s.heap H locs) (hl : e_lo ls 1 []) (hsh : s13_fitsTaken_b36 S y0 = some res) : W p l e ({ frames := 1, cells := 0, slots := 0, locals := 24 } : Room) s m args below meth c H locs 0 0 (MQ below (e_Qi D cA B res.1 res.2) args s 0 0 (e_A B)) (F0 m 36 ls [.int (iI (y0))]) := by
  obtain ⟨hx, hb, hml, hown, hts, hlk, hrt⟩ := id E
  unfold s13_fitsTaken_b36 at hsh
  obtain ⟨hz, hz1, hz2⟩ := zR_some hsh
  rw [← hz1, ← hz2]
  exact e_zret hx hb hrt hlk hp hS hz dX13_fitsTaken_36
set_option maxRecDepth 100000 in
set_option maxHeartbeats 4000000 in
theorem w13_fitsTaken_b31 {p : Program} {l : Launch} {e : Env} {s : State} {m : MethodId} {args : Array Value} {below : List Frame} {meth : Method} {c : Code} {D : va_G} {cA : Nat → ClassId} {B : Nat} {res : Int × HP} (E : e_En p s m args meth c cX13_fitsTaken RX13 1 (some .boolean)) {ls : Array Slot} {H : Heap} {locs : List Loc} {S : HP} (hp : e_Pic D cA B S s H) (hS : va_S (e_A B) s.heap H locs) (hl : e_lo ls 1 []) (hsh : s13_fitsTaken_b31 S  = some res) : W p l e ({ frames := 1, cells := 0, slots := 0, locals := 24 } : Room) s m args below meth c H locs 0 0 (MQ below (e_Qi D cA B res.1 res.2) args s 0 0 (e_A B)) (F0 m 31 ls []) := by
  obtain ⟨hx, hb, hml, hown, hts, hlk, hrt⟩ := id E
  unfold s13_fitsTaken_b31 at hsh
  refine lv_iconst (v := iI (1)) hx hb dX13_fitsTaken_31 rfl ?_
  refine lv_goto (tgt := 36) hx hb dX13_fitsTaken_32 (by decide) ?_
  exact w13_fitsTaken_b36 E hp hS (hl.sub [] rfl) hsh
set_option maxRecDepth 100000 in
set_option maxHeartbeats 4000000 in
theorem c13_fitsTaken (l : Launch) (D : va_G) (cA : Nat → ClassId) (B : Nat) (S S' : HP) (x0 : Int) (r : Int) (hsh : s13_fitsTaken S x0 = some (r, S')) : Met l yX13_fitsTaken (e_wu yX13_fitsTaken cX13_fitsTaken 1 (some .boolean)) ({ frames := 1, cells := 0, slots := 0, locals := 24 } : Room) (va_Pc [e_rv B (x0)] (fun U => e_PU D cA B S U)) (e_Qi D cA B r S') 0 0 (e_A B) := by
  refine Met.ofW (cc := cX13_fitsTaken) (maxL := 1) (ret := (some .boolean)) (by decide +kernel) rfl ?_
  intro p e s m args below meth c s₁ Bd hml hv
  obtain ⟨rfl, hp⟩ := hv
  have hp : e_Pic D cA B S s s.heap := hp
  have hx := Bd.exec
  have hb := Bd.bytes
  have hrt := Bd.returns
  have hlk := Bd.notSynchronized
  have hown : s.vm.findClass RX13 = some m.cls := findClass_of_methodNamed Bd.named
  have hts : ∀ w ∈ e_tb, w.before ([e_rv B (x0)] : List Value).toArray s = true := fun w h => atoms_spec (ws := (e_wu yX13_fitsTaken cX13_fitsTaken 1 (some .boolean))) Bd.pre w (List.mem_cons_of_mem _ h)
  have E : e_En p s m ([e_rv B (x0)] : List Value).toArray meth c cX13_fitsTaken RX13 1 (some .boolean) := ⟨hx, hb, hml, hown, hts, hlk, hrt⟩
  have hS : va_S (e_A B) s.heap s.heap [] := va_S.rf
  have hl := e_entry (vs := [e_rv B (x0)]) (n := 1) (Nat.le_of_ble_eq_true rfl) (e_cc (e_rv_cat _ _) e_cn)
  rw [lg_entry_eq]
  generalize (lg_sl [e_rv B (x0)] ++ List.replicate (1 - (lg_sl [e_rv B (x0)]).length) Slot.unset).toArray = ls at hl ⊢
  generalize ([e_rv B (x0)] : List Value).toArray = args at hts E ⊢
  have hl : e_lo ls 1 [(0, e_rv B (x0))] := hl
  have hsh := (gd_some hsh).2
  refine e_aload_n (B := B) (x := x0) hx hb dX13_fitsTaken_0 rfl (hl.at 0 rfl) ?_
  obtain ⟨v1, h1, hsh⟩ := Option.bind_eq_some_iff.mp hsh
  refine e_getI (k := 35) hx hb hts in_X13 hown hp h1 rfl (by decide) (by decide) rfl (hts _ kf13_395) rfl dX13_fitsTaken_1 ?_
  refine lv_iconst (v := iI (1)) hx hb dX13_fitsTaken_4 rfl ?_
  refine e_icmp_ne (tgt := 31) hx hb dX13_fitsTaken_5 (by decide) (fun c5 => ?_) (fun c5 => ?_)
  · rw [if_neg c5] at hsh
    exact w13_fitsTaken_b31 E hp hS (hl.sub [] rfl) hsh
  · rw [if_pos c5] at hsh
    refine e_aload_n (B := B) (x := x0) hx hb dX13_fitsTaken_8 rfl (hl.at 0 rfl) ?_
    refine e_aload_n (B := B) (x := x0) hx hb dX13_fitsTaken_9 rfl (hl.at 0 rfl) ?_
    obtain ⟨v10, h10, hsh⟩ := Option.bind_eq_some_iff.mp hsh
    refine e_getI (k := 36) hx hb hts in_X13 hown hp h10 rfl (by decide) (by decide) rfl (hts _ kf13_398) rfl dX13_fitsTaken_10 ?_
    refine e_aload_n (B := B) (x := x0) hx hb dX13_fitsTaken_13 rfl (hl.at 0 rfl) ?_
    obtain ⟨v14, h14, hsh⟩ := Option.bind_eq_some_iff.mp hsh
    refine e_getI (k := 37) hx hb hts in_X13 hown hp h14 rfl (by decide) (by decide) rfl (hts _ kf13_401) rfl dX13_fitsTaken_14 ?_
    refine e_aload_n (B := B) (x := x0) hx hb dX13_fitsTaken_17 rfl (hl.at 0 rfl) ?_
    obtain ⟨v18, h18, hsh⟩ := Option.bind_eq_some_iff.mp hsh
    refine e_getI (k := 38) hx hb hts in_X13 hown hp h18 rfl (by decide) (by decide) rfl (hts _ kf13_404) rfl dX13_fitsTaken_18 ?_
    refine e_aload_n (B := B) (x := x0) hx hb dX13_fitsTaken_21 rfl (hl.at 0 rfl) ?_
    obtain ⟨v22, h22, hsh⟩ := Option.bind_eq_some_iff.mp hsh
    refine e_getI (k := 39) hx hb hts in_X13 hown hp h22 rfl (by decide) (by decide) rfl (hts _ kf13_407) rfl dX13_fitsTaken_22 ?_
    obtain ⟨⟨v25, S25⟩, h25, hsh⟩ := Option.bind_eq_some_iff.mp hsh
    have hsh : _ = _ := hsh
    try dsimp only at hsh
    have ok25 := ok13_fitsWithout h25
    refine e_callI (nL := 1) (mc := 0) (ms := 0) (T := TX13) (N := 126) (As := [.int (iI (v10)), .int (iI (v14)), .int (iI (v18)), .int (iI (v22))]) (rest := []) hx hb hml hown hts hp hS hl.size ok25.1 ok25.2.1 ok25.2.2 rfl (by decide) (c13_fitsWithout l D cA B S S25 (x0) (v10) (v14) (v18) (v22) v25 h25) rfl rfl kd13_fitsWithout (kl13_481) ks13_fitsWithout kv13_fitsWithout ki13 kh13_fitsWithout ⟨Nat.le_of_ble_eq_true rfl, Nat.le_of_ble_eq_true rfl⟩ rfl (by simp [e_rv_cat, e_int_cat]) ⟨Nat.le_refl _, Nat.le_refl _⟩ dX13_fitsTaken_25 rfl (fun H locs hp hS => ?_)
    refine e_if_eq (tgt := 35) hx hb dX13_fitsTaken_28 (by decide) (fun c28 => ?_) (fun c28 => ?_)
    · rw [if_pos c28] at hsh
      refine lv_iconst (v := iI (0)) hx hb dX13_fitsTaken_35 rfl ?_
      exact w13_fitsTaken_b36 E hp hS (hl.sub [] rfl) hsh
    · rw [if_neg c28] at hsh
      exact w13_fitsTaken_b31 E hp hS (hl.sub [] rfl) hsh
theorem ok13_goesNear {S : HP} {x0 : Int} {x1 : Int} {x2 : Int} {r : HP} (h : s13_goesNear S x0 x1 x2 = some r) : 0 ≤ x0 ∧ x0.toNat < e_n S ∧ e_g S x0.toNat = 13 := (gd_some h).1
set_option maxRecDepth 100000 in
set_option maxHeartbeats 4000000 in
theorem c13_goesNear (l : Launch) (D : va_G) (cA : Nat → ClassId) (B : Nat) (S S' : HP) (x0 : Int) (x1 : Int) (x2 : Int) (hsh : s13_goesNear S x0 x1 x2 = some S') : Met l yX13_goesNear (e_wu yX13_goesNear cX13_goesNear 3 none) ({ frames := 1, cells := 0, slots := 0, locals := 22 } : Room) (va_Pc [e_rv B (x0), .int (iI (x1)), .int (iI (x2))] (fun U => e_PU D cA B S U)) (e_Qv D cA B S') 0 0 (e_A B) := by
  refine Met.ofW (cc := cX13_goesNear) (maxL := 3) (ret := none) (by decide +kernel) rfl ?_
  intro p e s m args below meth c s₁ Bd hml hv
  obtain ⟨rfl, hp⟩ := hv
  have hp : e_Pic D cA B S s s.heap := hp
  have hx := Bd.exec
  have hb := Bd.bytes
  have hrt := Bd.returns
  have hlk := Bd.notSynchronized
  have hown : s.vm.findClass RX13 = some m.cls := findClass_of_methodNamed Bd.named
  have hts : ∀ w ∈ e_tb, w.before ([e_rv B (x0), .int (iI (x1)), .int (iI (x2))] : List Value).toArray s = true := fun w h => atoms_spec (ws := (e_wu yX13_goesNear cX13_goesNear 3 none)) Bd.pre w (List.mem_cons_of_mem _ h)
  have E : e_En p s m ([e_rv B (x0), .int (iI (x1)), .int (iI (x2))] : List Value).toArray meth c cX13_goesNear RX13 3 none := ⟨hx, hb, hml, hown, hts, hlk, hrt⟩
  have hS : va_S (e_A B) s.heap s.heap [] := va_S.rf
  have hl := e_entry (vs := [e_rv B (x0), .int (iI (x1)), .int (iI (x2))]) (n := 3) (Nat.le_of_ble_eq_true rfl) (e_cc (e_rv_cat _ _) (e_cc rfl (e_cc rfl e_cn)))
  rw [lg_entry_eq]
  generalize (lg_sl [e_rv B (x0), .int (iI (x1)), .int (iI (x2))] ++ List.replicate (3 - (lg_sl [e_rv B (x0), .int (iI (x1)), .int (iI (x2))]).length) Slot.unset).toArray = ls at hl ⊢
  generalize ([e_rv B (x0), .int (iI (x1)), .int (iI (x2))] : List Value).toArray = args at hts E ⊢
  have hl : e_lo ls 3 [(0, e_rv B (x0)), (1, .int (iI (x1))), (2, .int (iI (x2)))] := hl
  have hsh := (gd_some hsh).2
  refine e_aload_n (B := B) (x := x0) hx hb dX13_goesNear_0 rfl (hl.at 0 rfl) ?_
  refine lv_iload_n hx hb dX13_goesNear_1 rfl (hl.at 1 rfl) ?_
  refine lv_iconst (v := iI (0)) hx hb dX13_goesNear_2 rfl ?_
  refine lv_iload_n hx hb dX13_goesNear_3 rfl (hl.at 2 rfl) ?_
  refine e_aload_n (B := B) (x := x0) hx hb dX13_goesNear_4 rfl (hl.at 0 rfl) ?_
  obtain ⟨v5, h5, hsh⟩ := Option.bind_eq_some_iff.mp hsh
  refine e_getR (k := 3) hx hb hts in_X13 hown hp h5 rfl (by decide) (by decide) rfl (hts _ kf13_17) rfl dX13_goesNear_5 ?_
  refine lv_iload_n hx hb dX13_goesNear_8 rfl (hl.at 1 rfl) ?_
  obtain ⟨v9, h9, hsh⟩ := Option.bind_eq_some_iff.mp hsh
  refine e_iald hx hb hp h9 dX13_goesNear_9 ?_
  refine lv_iconst (v := iI (1)) hx hb dX13_goesNear_10 rfl ?_
  refine e_isub hx hb dX13_goesNear_11 ?_
  obtain ⟨⟨v12, S12⟩, h12, hsh⟩ := Option.bind_eq_some_iff.mp hsh
  have hsh : _ = _ := hsh
  try dsimp only at hsh
  refine e_callS (nL := 3) (mc := 0) (ms := 0) (As := [.int (iI (x2)), .int (iI ((v9 - 1)))]) (rest := [.int (iI (0)), .int (iI (x1)), e_rv B (x0)]) hx hb hml hown hts hp hS hl.size (c13_lesser l D cA B S S12 (x2) ((v9 - 1)) v12 h12) rfl rfl kd13_lesser (kl13_257) ks13_lesser ki13 kh13_lesser ⟨Nat.le_of_ble_eq_true rfl, Nat.le_of_ble_eq_true rfl⟩ rfl (by simp [e_rv_cat, e_int_cat]) ⟨Nat.le_refl _, Nat.le_refl _⟩ dX13_goesNear_12 rfl (fun H locs hp hS => ?_)
  obtain ⟨⟨v15, S15⟩, h15, hsh⟩ := Option.bind_eq_some_iff.mp hsh
  have hsh : _ = _ := hsh
  try dsimp only at hsh
  refine e_callS (nL := 3) (mc := 0) (ms := 0) (As := [.int (iI (0)), .int (iI (v12))]) (rest := [.int (iI (x1)), e_rv B (x0)]) hx hb hml hown hts hp hS hl.size (c13_greater l D cA B S12 S15 (0) (v12) v15 h15) rfl rfl kd13_greater (kl13_210) ks13_greater ki13 kh13_greater ⟨Nat.le_of_ble_eq_true rfl, Nat.le_of_ble_eq_true rfl⟩ rfl (by simp [e_rv_cat, e_int_cat]) ⟨Nat.le_refl _, Nat.le_refl _⟩ dX13_goesNear_15 rfl (fun H locs hp hS => ?_)
  obtain ⟨S18, h18, hsh⟩ := Option.bind_eq_some_iff.mp hsh
  have ok18 := ok13_goes h18
  refine e_callV (nL := 3) (mc := 0) (ms := 0) (T := TX13) (N := 126) (As := [.int (iI (x1)), .int (iI (v15))]) (rest := []) hx hb hml hown hts hp hS hl.size ok18.1 ok18.2.1 ok18.2.2 rfl (by decide) (c13_goes l D cA B S15 S18 (x0) (x1) (v15) h18) rfl rfl kd13_goes (kl13_226) ks13_goes kv13_goes ki13 kh13_goes ⟨Nat.le_of_ble_eq_true rfl, Nat.le_of_ble_eq_true rfl⟩ rfl (by simp [e_rv_cat, e_int_cat]) ⟨Nat.le_refl _, Nat.le_refl _⟩ dX13_goesNear_18 rfl (fun H locs hp hS => ?_)
  cases hsh
  exact e_vret hx hb hrt hlk hp hS dX13_goesNear_21
theorem ok13_yanks {S : HP} {x0 : Int} {x1 : Int} {r : Int × HP} (h : s13_yanks S x0 x1 = some r) : 0 ≤ x0 ∧ x0.toNat < e_n S ∧ e_g S x0.toNat = 13 := (gd_some h).1
set_option maxRecDepth 100000 in
set_option maxHeartbeats 4000000 in
theorem w13_yanks_b44 {p : Program} {l : Launch} {e : Env} {s : State} {m : MethodId} {args : Array Value} {below : List Frame} {meth : Method} {c : Code} {D : va_G} {cA : Nat → ClassId} {B : Nat} {res : Int × HP} (E : e_En p s m args meth c cX13_yanks RX13 2 (some .boolean)) {ls : Array Slot} {H : Heap} {locs : List Loc} {S : HP} {y0 : Int} {y1 : Int} {y2 : Int} (hp : e_Pic D cA B S s H) (hS : va_S (e_A B) s.heap H locs) (hl : e_lo ls 2 []) (hsh : s13_yanks_b44 S y0 y1 y2 = some res) : W p l e ({ frames := 3, cells := 0, slots := 0, locals := 68 } : Room) s m args below meth c H locs 0 0 (MQ below (e_Qi D cA B res.1 res.2) args s 0 0 (e_A B)) (F0 m 44 ls [.int (iI (y2)), .int (iI (y1)), e_rv B (y0)]) := by
  obtain ⟨hx, hb, hml, hown, hts, hlk, hrt⟩ := id E
  unfold s13_yanks_b44 at hsh
  obtain ⟨S44, h44, hsh⟩ := Option.bind_eq_some_iff.mp hsh
  have ok44 := ok13_goesNear h44
  refine e_callV (nL := 2) (mc := 0) (ms := 0) (T := TX13) (N := 126) (As := [.int (iI (y1)), .int (iI (y2))]) (rest := []) hx hb hml hown hts hp hS hl.size ok44.1 ok44.2.1 ok44.2.2 rfl (by decide) (c13_goesNear l D cA B S S44 (y0) (y1) (y2) h44) rfl rfl kd13_goesNear (kl13_510) ks13_goesNear kv13_goesNear ki13 kh13_goesNear ⟨Nat.le_of_ble_eq_true rfl, Nat.le_of_ble_eq_true rfl⟩ rfl (by simp [e_rv_cat, e_int_cat]) ⟨Nat.le_refl _, Nat.le_refl _⟩ dX13_yanks_44 rfl (fun H locs hp hS => ?_)
  refine lv_iconst (v := iI (1)) hx hb dX13_yanks_47 rfl ?_
  obtain ⟨hz, hz1, hz2⟩ := zR_some hsh
  rw [← hz1, ← hz2]
  exact e_zret hx hb hrt hlk hp hS hz dX13_yanks_48
set_option maxRecDepth 100000 in
set_option maxHeartbeats 4000000 in
theorem c13_yanks (l : Launch) (D : va_G) (cA : Nat → ClassId) (B : Nat) (S S' : HP) (x0 : Int) (x1 : Int) (r : Int) (hsh : s13_yanks S x0 x1 = some (r, S')) : Met l yX13_yanks (e_wu yX13_yanks cX13_yanks 2 (some .boolean)) ({ frames := 3, cells := 0, slots := 0, locals := 68 } : Room) (va_Pc [e_rv B (x0), .int (iI (x1))] (fun U => e_PU D cA B S U)) (e_Qi D cA B r S') 0 0 (e_A B) := by
  refine Met.ofW (cc := cX13_yanks) (maxL := 2) (ret := (some .boolean)) (by decide +kernel) rfl ?_
  intro p e s m args below meth c s₁ Bd hml hv
  obtain ⟨rfl, hp⟩ := hv
  have hp : e_Pic D cA B S s s.heap := hp
  have hx := Bd.exec
  have hb := Bd.bytes
  have hrt := Bd.returns
  have hlk := Bd.notSynchronized
  have hown : s.vm.findClass RX13 = some m.cls := findClass_of_methodNamed Bd.named
  have hts : ∀ w ∈ e_tb, w.before ([e_rv B (x0), .int (iI (x1))] : List Value).toArray s = true := fun w h => atoms_spec (ws := (e_wu yX13_yanks cX13_yanks 2 (some .boolean))) Bd.pre w (List.mem_cons_of_mem _ h)
  have E : e_En p s m ([e_rv B (x0), .int (iI (x1))] : List Value).toArray meth c cX13_yanks RX13 2 (some .boolean) := ⟨hx, hb, hml, hown, hts, hlk, hrt⟩
  have hS : va_S (e_A B) s.heap s.heap [] := va_S.rf
  have hl := e_entry (vs := [e_rv B (x0), .int (iI (x1))]) (n := 2) (Nat.le_of_ble_eq_true rfl) (e_cc (e_rv_cat _ _) (e_cc rfl e_cn))
  rw [lg_entry_eq]
  generalize (lg_sl [e_rv B (x0), .int (iI (x1))] ++ List.replicate (2 - (lg_sl [e_rv B (x0), .int (iI (x1))]).length) Slot.unset).toArray = ls at hl ⊢
  generalize ([e_rv B (x0), .int (iI (x1))] : List Value).toArray = args at hts E ⊢
  have hl : e_lo ls 2 [(0, e_rv B (x0)), (1, .int (iI (x1)))] := hl
  have hsh := (gd_some hsh).2
  refine e_aload_n (B := B) (x := x0) hx hb dX13_yanks_0 rfl (hl.at 0 rfl) ?_
  obtain ⟨S1, h1, hsh⟩ := Option.bind_eq_some_iff.mp hsh
  have ok1 := ok13_copiesSpan h1
  refine e_callV (nL := 2) (mc := 0) (ms := 0) (T := TX13) (N := 126) (As := []) (rest := []) hx hb hml hown hts hp hS hl.size ok1.1 ok1.2.1 ok1.2.2 rfl (by decide) (c13_copiesSpan l D cA B S S1 (x0) h1) rfl rfl kd13_copiesSpan (kl13_487) ks13_copiesSpan kv13_copiesSpan ki13 kh13_copiesSpan ⟨Nat.le_of_ble_eq_true rfl, Nat.le_of_ble_eq_true rfl⟩ rfl (by simp [e_rv_cat, e_int_cat]) ⟨Nat.le_refl _, Nat.le_refl _⟩ dX13_yanks_1 rfl (fun H locs hp hS => ?_)
  refine e_aload_n (B := B) (x := x0) hx hb dX13_yanks_4 rfl (hl.at 0 rfl) ?_
  refine lv_iload_n hx hb dX13_yanks_5 rfl (hl.at 1 rfl) ?_
  obtain ⟨⟨v6, S6⟩, h6, hsh⟩ := Option.bind_eq_some_iff.mp hsh
  have hsh : _ = _ := hsh
  try dsimp only at hsh
  have ok6 := ok13_fitsRegister h6
  refine e_callI (nL := 2) (mc := 0) (ms := 0) (T := TX13) (N := 126) (As := [.int (iI (x1))]) (rest := []) hx hb hml hown hts hp hS hl.size ok6.1 ok6.2.1 ok6.2.2 rfl (by decide) (c13_fitsRegister l D cA B S1 S6 (x0) (x1) v6 h6) rfl rfl kd13_fitsRegister (kl13_493) ks13_fitsRegister kv13_fitsRegister ki13 kh13_fitsRegister ⟨Nat.le_of_ble_eq_true rfl, Nat.le_of_ble_eq_true rfl⟩ rfl (by simp [e_rv_cat, e_int_cat]) ⟨Nat.le_refl _, Nat.le_refl _⟩ dX13_yanks_6 rfl (fun H locs hp hS => ?_)
  refine e_if_ne (tgt := 14) hx hb dX13_yanks_9 (by decide) (fun c9 => ?_) (fun c9 => ?_)
  · rw [if_neg c9] at hsh
    refine e_aload_n (B := B) (x := x0) hx hb dX13_yanks_14 rfl (hl.at 0 rfl) ?_
    refine lv_iload_n hx hb dX13_yanks_15 rfl (hl.at 1 rfl) ?_
    refine lv_iconst (v := iI (1)) hx hb dX13_yanks_16 rfl ?_
    obtain ⟨S17, h17, hsh⟩ := Option.bind_eq_some_iff.mp hsh
    have ok17 := ok13_writes h17
    refine e_callV (nL := 2) (mc := 0) (ms := 0) (T := TX13) (N := 126) (As := [.int (iI (x1)), .int (iI (1))]) (rest := []) hx hb hml hown hts hp hS hl.size ok17.1 ok17.2.1 ok17.2.2 rfl (by decide) (c13_writes l D cA B S6 S17 (x0) (x1) (1) h17) rfl rfl kd13_writes (kl13_496) ks13_writes kv13_writes ki13 kh13_writes ⟨Nat.le_of_ble_eq_true rfl, Nat.le_of_ble_eq_true rfl⟩ rfl (by simp [e_rv_cat, e_int_cat]) ⟨Nat.le_refl _, Nat.le_refl _⟩ dX13_yanks_17 rfl (fun H locs hp hS => ?_)
    refine e_aload_n (B := B) (x := x0) hx hb dX13_yanks_20 rfl (hl.at 0 rfl) ?_
    refine e_aload_n (B := B) (x := x0) hx hb dX13_yanks_21 rfl (hl.at 0 rfl) ?_
    obtain ⟨v22, h22, hsh⟩ := Option.bind_eq_some_iff.mp hsh
    refine e_getI (k := 36) hx hb hts in_X13 hown hp h22 rfl (by decide) (by decide) rfl (hts _ kf13_398) rfl dX13_yanks_22 ?_
    refine e_aload_n (B := B) (x := x0) hx hb dX13_yanks_25 rfl (hl.at 0 rfl) ?_
    obtain ⟨v26, h26, hsh⟩ := Option.bind_eq_some_iff.mp hsh
    refine e_getI (k := 35) hx hb hts in_X13 hown hp h26 rfl (by decide) (by decide) rfl (hts _ kf13_395) rfl dX13_yanks_26 ?_
    refine lv_iconst (v := iI (2)) hx hb dX13_yanks_29 rfl ?_
    refine e_icmp_ne (tgt := 40) hx hb dX13_yanks_30 (by decide) (fun c30 => ?_) (fun c30 => ?_)
    · rw [if_neg c30] at hsh
      refine e_aload_n (B := B) (x := x0) hx hb dX13_yanks_40 rfl (hl.at 0 rfl) ?_
      obtain ⟨v41, h41, hsh⟩ := Option.bind_eq_some_iff.mp hsh
      refine e_getI (k := 37) hx hb hts in_X13 hown hp h41 rfl (by decide) (by decide) rfl (hts _ kf13_401) rfl dX13_yanks_41 ?_
      exact w13_yanks_b44 E hp hS (hl.sub [] rfl) hsh
    · rw [if_pos c30] at hsh
      refine e_aload_n (B := B) (x := x0) hx hb dX13_yanks_33 rfl (hl.at 0 rfl) ?_
      obtain ⟨v34, h34, hsh⟩ := Option.bind_eq_some_iff.mp hsh
      refine e_getI (k := 6) hx hb hts in_X13 hown hp h34 rfl (by decide) (by decide) rfl (hts _ kf13_216) rfl dX13_yanks_34 ?_
      refine lv_goto (tgt := 44) hx hb dX13_yanks_37 (by decide) ?_
      exact w13_yanks_b44 E hp hS (hl.sub [] rfl) hsh
  · rw [if_pos c9] at hsh
    refine lv_iconst (v := iI (0)) hx hb dX13_yanks_12 rfl ?_
    obtain ⟨hz, hz1, hz2⟩ := zR_some hsh
    rw [← hz1, ← hz2]
    exact e_zret hx hb hrt hlk hp hS hz dX13_yanks_13
theorem ok13_turnsCase {S : HP} {x0 : Int} {x1 : Int} {x2 : Int} {x3 : Int} {r : HP} (h : s13_turnsCase S x0 x1 x2 x3 = some r) : 0 ≤ x0 ∧ x0.toNat < e_n S ∧ e_g S x0.toNat = 13 := (gd_some h).1
set_option maxRecDepth 100000 in
set_option maxHeartbeats 4000000 in
theorem w13_turnsCase_b92 {p : Program} {l : Launch} {e : Env} {s : State} {m : MethodId} {args : Array Value} {below : List Frame} {meth : Method} {c : Code} {D : va_G} {cA : Nat → ClassId} {B : Nat} {res : HP} {k8 : HP → Int → Int → Int → Int → Option (HP)} (hk8 : ∀ {ls : Array Slot} {H : Heap} {locs : List Loc} {S : HP} {x0 : Int} {x1 : Int} {x3 : Int} {x4 : Int} (hp : e_Pic D cA B S s H) (hS : va_S (e_A B) s.heap H locs) (hl : e_lo ls 5 [(0, e_rv B (x0)), (1, .int (iI (x1))), (3, .int (iI (x3))), (4, .int (iI (x4)))]) (hsh : k8 S x0 x1 x3 x4 = some res), W p l e ({ frames := 1, cells := 0, slots := 0, locals := 22 } : Room) s m args below meth c H locs 0 0 (MQ below (e_Qv D cA B res) args s 0 0 (e_A B)) (F0 m 8 ls [])) (E : e_En p s m args meth c cX13_turnsCase RX13 5 none) {ls : Array Slot} {H : Heap} {locs : List Loc} {S : HP} {x0 : Int} {x1 : Int} {x3 : Int} {x4 : Int} {y0 : Int} {y1 : Int} {y2 : Int} (hp : e_Pic D cA B S s H) (hS : va_S (e_A B) s.heap H locs) (hl : e_lo ls 5 [(0, e_rv B (x0)), (1, .int (iI (x1))), (3, .int (iI (x3))), (4, .int (iI (x4)))]) (hsh : s13_turnsCase_b92 k8 S x0 x1 x3 x4 y0 y1 y2 = some res) : W p l e ({ frames := 1, cells := 0, slots := 0, locals := 22 } : Room) s m args below meth c H locs 0 0 (MQ below (e_Qv D cA B res) args s 0 0 (e_A B)) (F0 m 92 ls [.int (iI (y2)), .int (iI (y1)), e_rv B (y0)]) := by
  obtain ⟨hx, hb, hml, hown, hts, hlk, hrt⟩ := id E
  unfold s13_turnsCase_b92 at hsh
  obtain ⟨S92, h92, hsh⟩ := Option.bind_eq_some_iff.mp hsh
  refine e_iast hx hb hp hS h92 dX13_turnsCase_92 (fun H locs hp hS => ?_)
  refine e_iinc (n := 1) (x := x4) (lv' := [(4, .int (iI ((x4 + 1)))), (0, e_rv B (x0)), (1, .int (iI (x1))), (3, .int (iI (x3)))]) hx hb dX13_turnsCase_93 hl (k := 3) rfl (by decide) rfl (fun ls hl => ?_)
  refine lv_goto (tgt := 8) hx hb dX13_turnsCase_96 (by decide) ?_
  exact hk8 hp hS (hl.sub [1, 2, 3, 0] rfl) hsh
set_option maxRecDepth 100000 in
set_option maxHeartbeats 4000000 in
theorem w13_turnsCase_l8 {p : Program} {l : Launch} {e : Env} {s : State} {m : MethodId} {args : Array Value} {below : List Frame} {meth : Method} {c : Code} {D : va_G} {cA : Nat → ClassId} {B : Nat} {res : HP} (E : e_En p s m args meth c cX13_turnsCase RX13 5 none) : ∀ (f : Nat) {ls : Array Slot} {H : Heap} {locs : List Loc} {S : HP} {x0 : Int} {x1 : Int} {x3 : Int} {x4 : Int} (hp : e_Pic D cA B S s H) (hS : va_S (e_A B) s.heap H locs) (hl : e_lo ls 5 [(0, e_rv B (x0)), (1, .int (iI (x1))), (3, .int (iI (x3))), (4, .int (iI (x4)))]) (hsh : s13_turnsCase_l8 f S x0 x1 x3 x4 = some res), W p l e ({ frames := 1, cells := 0, slots := 0, locals := 22 } : Room) s m args below meth c H locs 0 0 (MQ below (e_Qv D cA B res) args s 0 0 (e_A B)) (F0 m 8 ls []) := by
  obtain ⟨hx, hb, hml, hown, hts, hlk, hrt⟩ := id E
  intro f
  induction f with
  | zero => intro ls H locs S x0 x1 x3 x4 hp hS hl hsh; cases hsh
  | succ f ih =>
    intro ls H locs S x0 x1 x3 x4 hp hS hl hsh
    have hk8 : ∀ {ls : Array Slot} {H : Heap} {locs : List Loc} {S : HP} {x0 : Int} {x1 : Int} {x3 : Int} {x4 : Int} (hp : e_Pic D cA B S s H) (hS : va_S (e_A B) s.heap H locs) (hl : e_lo ls 5 [(0, e_rv B (x0)), (1, .int (iI (x1))), (3, .int (iI (x3))), (4, .int (iI (x4)))]) (hsh : (s13_turnsCase_l8 f) S x0 x1 x3 x4 = some res), W p l e ({ frames := 1, cells := 0, slots := 0, locals := 22 } : Room) s m args below meth c H locs 0 0 (MQ below (e_Qv D cA B res) args s 0 0 (e_A B)) (F0 m 8 ls []) := ih
    generalize hkk : s13_turnsCase_l8 f = k8 at hk8
    rw [s13_turnsCase_l8] at hsh
    rw [hkk] at hsh
    try dsimp only at hsh
    refine lv_iload hx hb dX13_turnsCase_8 (hl.at 3 rfl) ?_
    refine lv_bipush (v := iI (60)) hx hb dX13_turnsCase_10 (by decide +kernel) ?_
    refine lv_iload_n hx hb dX13_turnsCase_12 rfl (hl.at 1 rfl) ?_
    refine e_imul hx hb dX13_turnsCase_13 ?_
    refine lv_iload_n hx hb dX13_turnsCase_14 rfl (hl.at 2 rfl) ?_
    refine e_iadd hx hb dX13_turnsCase_15 ?_
    refine e_icmp_ge (tgt := 99) hx hb dX13_turnsCase_16 (by decide) (fun c16 => ?_) (fun c16 => ?_)
    · rw [if_pos c16] at hsh
      cases hsh
      exact e_vret hx hb hrt hlk hp hS dX13_turnsCase_99
    · rw [if_neg c16] at hsh
      refine e_aload_n (B := B) (x := x0) hx hb dX13_turnsCase_19 rfl (hl.at 0 rfl) ?_
      obtain ⟨v20, h20, hsh⟩ := Option.bind_eq_some_iff.mp hsh
      refine e_getR (k := 4) hx hb hts in_X13 hown hp h20 rfl (by decide) (by decide) rfl (hts _ kf13_20) rfl dX13_turnsCase_20 ?_
      refine lv_iload hx hb dX13_turnsCase_23 (hl.at 3 rfl) ?_
      refine e_aload_n (B := B) (x := x0) hx hb dX13_turnsCase_25 rfl (hl.at 0 rfl) ?_
      obtain ⟨v26, h26, hsh⟩ := Option.bind_eq_some_iff.mp hsh
      refine e_getR (k := 4) hx hb hts in_X13 hown hp h26 rfl (by decide) (by decide) rfl (hts _ kf13_20) rfl dX13_turnsCase_26 ?_
      refine lv_iload hx hb dX13_turnsCase_29 (hl.at 3 rfl) ?_
      obtain ⟨v31, h31, hsh⟩ := Option.bind_eq_some_iff.mp hsh
      refine e_iald hx hb hp h31 dX13_turnsCase_31 ?_
      refine lv_bipush (v := iI (97)) hx hb dX13_turnsCase_32 (by decide +kernel) ?_
      refine lv_bipush (v := iI (122)) hx hb dX13_turnsCase_34 (by decide +kernel) ?_
      obtain ⟨⟨v36, S36⟩, h36, hsh⟩ := Option.bind_eq_some_iff.mp hsh
      have hsh : _ = _ := hsh
      try dsimp only at hsh
      refine e_callS (nL := 5) (mc := 0) (ms := 0) (As := [.int (iI (v31)), .int (iI (97)), .int (iI (122))]) (rest := [.int (iI (x4)), e_rv B (v20)]) hx hb hml hown hts hp hS hl.size (c13_isIn l D cA B S S36 (v31) (97) (122) v36 h36) rfl rfl kd13_isIn (kl13_198) ks13_isIn ki13 kh13_isIn ⟨Nat.le_of_ble_eq_true rfl, Nat.le_of_ble_eq_true rfl⟩ rfl (by simp [e_rv_cat, e_int_cat]) ⟨Nat.le_refl _, Nat.le_refl _⟩ dX13_turnsCase_36 rfl (fun H locs hp hS => ?_)
      refine e_if_eq (tgt := 55) hx hb dX13_turnsCase_39 (by decide) (fun c39 => ?_) (fun c39 => ?_)
      · rw [if_pos c39] at hsh
        refine e_aload_n (B := B) (x := x0) hx hb dX13_turnsCase_55 rfl (hl.at 0 rfl) ?_
        obtain ⟨v56, h56, hsh⟩ := Option.bind_eq_some_iff.mp hsh
        refine e_getR (k := 4) hx hb hts in_X13 hown hp h56 rfl (by decide) (by decide) rfl (hts _ kf13_20) rfl dX13_turnsCase_56 ?_
        refine lv_iload hx hb dX13_turnsCase_59 (hl.at 3 rfl) ?_
        obtain ⟨v61, h61, hsh⟩ := Option.bind_eq_some_iff.mp hsh
        refine e_iald hx hb hp h61 dX13_turnsCase_61 ?_
        refine lv_bipush (v := iI (65)) hx hb dX13_turnsCase_62 (by decide +kernel) ?_
        refine lv_bipush (v := iI (90)) hx hb dX13_turnsCase_64 (by decide +kernel) ?_
        obtain ⟨⟨v66, S66⟩, h66, hsh⟩ := Option.bind_eq_some_iff.mp hsh
        have hsh : _ = _ := hsh
        try dsimp only at hsh
        refine e_callS (nL := 5) (mc := 0) (ms := 0) (As := [.int (iI (v61)), .int (iI (65)), .int (iI (90))]) (rest := [.int (iI (x4)), e_rv B (v20)]) hx hb hml hown hts hp hS hl.size (c13_isIn l D cA B S36 S66 (v61) (65) (90) v66 h66) rfl rfl kd13_isIn (kl13_198) ks13_isIn ki13 kh13_isIn ⟨Nat.le_of_ble_eq_true rfl, Nat.le_of_ble_eq_true rfl⟩ rfl (by simp [e_rv_cat, e_int_cat]) ⟨Nat.le_refl _, Nat.le_refl _⟩ dX13_turnsCase_66 rfl (fun H locs hp hS => ?_)
        refine e_if_eq (tgt := 85) hx hb dX13_turnsCase_69 (by decide) (fun c69 => ?_) (fun c69 => ?_)
        · rw [if_pos c69] at hsh
          refine e_aload_n (B := B) (x := x0) hx hb dX13_turnsCase_85 rfl (hl.at 0 rfl) ?_
          obtain ⟨v86, h86, hsh⟩ := Option.bind_eq_some_iff.mp hsh
          refine e_getR (k := 4) hx hb hts in_X13 hown hp h86 rfl (by decide) (by decide) rfl (hts _ kf13_20) rfl dX13_turnsCase_86 ?_
          refine lv_iload hx hb dX13_turnsCase_89 (hl.at 3 rfl) ?_
          obtain ⟨v91, h91, hsh⟩ := Option.bind_eq_some_iff.mp hsh
          refine e_iald hx hb hp h91 dX13_turnsCase_91 ?_
          exact w13_turnsCase_b92 (hk8 := hk8) E hp hS (hl.sub [0, 1, 2, 3] rfl) hsh
        · rw [if_neg c69] at hsh
          refine e_aload_n (B := B) (x := x0) hx hb dX13_turnsCase_72 rfl (hl.at 0 rfl) ?_
          obtain ⟨v73, h73, hsh⟩ := Option.bind_eq_some_iff.mp hsh
          refine e_getR (k := 4) hx hb hts in_X13 hown hp h73 rfl (by decide) (by decide) rfl (hts _ kf13_20) rfl dX13_turnsCase_73 ?_
          refine lv_iload hx hb dX13_turnsCase_76 (hl.at 3 rfl) ?_
          obtain ⟨v78, h78, hsh⟩ := Option.bind_eq_some_iff.mp hsh
          refine e_iald hx hb hp h78 dX13_turnsCase_78 ?_
          refine lv_bipush (v := iI (32)) hx hb dX13_turnsCase_79 (by decide +kernel) ?_
          refine e_iadd hx hb dX13_turnsCase_81 ?_
          refine lv_goto (tgt := 92) hx hb dX13_turnsCase_82 (by decide) ?_
          exact w13_turnsCase_b92 (hk8 := hk8) E hp hS (hl.sub [0, 1, 2, 3] rfl) hsh
      · rw [if_neg c39] at hsh
        refine e_aload_n (B := B) (x := x0) hx hb dX13_turnsCase_42 rfl (hl.at 0 rfl) ?_
        obtain ⟨v43, h43, hsh⟩ := Option.bind_eq_some_iff.mp hsh
        refine e_getR (k := 4) hx hb hts in_X13 hown hp h43 rfl (by decide) (by decide) rfl (hts _ kf13_20) rfl dX13_turnsCase_43 ?_
        refine lv_iload hx hb dX13_turnsCase_46 (hl.at 3 rfl) ?_
        obtain ⟨v48, h48, hsh⟩ := Option.bind_eq_some_iff.mp hsh
        refine e_iald hx hb hp h48 dX13_turnsCase_48 ?_
        refine lv_bipush (v := iI (32)) hx hb dX13_turnsCase_49 (by decide +kernel) ?_
        refine e_isub hx hb dX13_turnsCase_51 ?_
        refine lv_goto (tgt := 92) hx hb dX13_turnsCase_52 (by decide) ?_
        exact w13_turnsCase_b92 (hk8 := hk8) E hp hS (hl.sub [0, 1, 2, 3] rfl) hsh
set_option maxRecDepth 100000 in
set_option maxHeartbeats 4000000 in
theorem c13_turnsCase (l : Launch) (D : va_G) (cA : Nat → ClassId) (B : Nat) (S S' : HP) (x0 : Int) (x1 : Int) (x2 : Int) (x3 : Int) (hsh : s13_turnsCase S x0 x1 x2 x3 = some S') : Met l yX13_turnsCase (e_wu yX13_turnsCase cX13_turnsCase 5 none) ({ frames := 1, cells := 0, slots := 0, locals := 22 } : Room) (va_Pc [e_rv B (x0), .int (iI (x1)), .int (iI (x2)), .int (iI (x3))] (fun U => e_PU D cA B S U)) (e_Qv D cA B S') 0 0 (e_A B) := by
  refine Met.ofW (cc := cX13_turnsCase) (maxL := 5) (ret := none) (by decide +kernel) rfl ?_
  intro p e s m args below meth c s₁ Bd hml hv
  obtain ⟨rfl, hp⟩ := hv
  have hp : e_Pic D cA B S s s.heap := hp
  have hx := Bd.exec
  have hb := Bd.bytes
  have hrt := Bd.returns
  have hlk := Bd.notSynchronized
  have hown : s.vm.findClass RX13 = some m.cls := findClass_of_methodNamed Bd.named
  have hts : ∀ w ∈ e_tb, w.before ([e_rv B (x0), .int (iI (x1)), .int (iI (x2)), .int (iI (x3))] : List Value).toArray s = true := fun w h => atoms_spec (ws := (e_wu yX13_turnsCase cX13_turnsCase 5 none)) Bd.pre w (List.mem_cons_of_mem _ h)
  have E : e_En p s m ([e_rv B (x0), .int (iI (x1)), .int (iI (x2)), .int (iI (x3))] : List Value).toArray meth c cX13_turnsCase RX13 5 none := ⟨hx, hb, hml, hown, hts, hlk, hrt⟩
  have hS : va_S (e_A B) s.heap s.heap [] := va_S.rf
  have hl := e_entry (vs := [e_rv B (x0), .int (iI (x1)), .int (iI (x2)), .int (iI (x3))]) (n := 5) (Nat.le_of_ble_eq_true rfl) (e_cc (e_rv_cat _ _) (e_cc rfl (e_cc rfl (e_cc rfl e_cn))))
  rw [lg_entry_eq]
  generalize (lg_sl [e_rv B (x0), .int (iI (x1)), .int (iI (x2)), .int (iI (x3))] ++ List.replicate (5 - (lg_sl [e_rv B (x0), .int (iI (x1)), .int (iI (x2)), .int (iI (x3))]).length) Slot.unset).toArray = ls at hl ⊢
  generalize ([e_rv B (x0), .int (iI (x1)), .int (iI (x2)), .int (iI (x3))] : List Value).toArray = args at hts E ⊢
  have hl : e_lo ls 5 [(0, e_rv B (x0)), (1, .int (iI (x1))), (2, .int (iI (x2))), (3, .int (iI (x3)))] := hl
  have hsh := (gd_some hsh).2
  refine lv_bipush (v := iI (60)) hx hb dX13_turnsCase_0 (by decide +kernel) ?_
  refine lv_iload_n hx hb dX13_turnsCase_2 rfl (hl.at 1 rfl) ?_
  refine e_imul hx hb dX13_turnsCase_3 ?_
  refine lv_iload_n hx hb dX13_turnsCase_4 rfl (hl.at 2 rfl) ?_
  refine e_iadd hx hb dX13_turnsCase_5 ?_
  refine e_istore (lv' := [(4, .int (iI (((60 * x1) + x2)))), (0, e_rv B (x0)), (1, .int (iI (x1))), (2, .int (iI (x2))), (3, .int (iI (x3)))]) hx hb dX13_turnsCase_6 hl (by decide) rfl (fun ls hl => ?_)
  exact w13_turnsCase_l8 E 1000000 hp hS (hl.sub [1, 2, 4, 0] rfl) hsh
theorem ok13_spanFrom {S : HP} {x0 : Int} {x1 : Int} {r : Int × HP} (h : s13_spanFrom S x0 x1 = some r) : 0 ≤ x0 ∧ x0.toNat < e_n S ∧ e_g S x0.toNat = 13 := (gd_some h).1
set_option maxRecDepth 100000 in
set_option maxHeartbeats 4000000 in
theorem w13_spanFrom_b32 {p : Program} {l : Launch} {e : Env} {s : State} {m : MethodId} {args : Array Value} {below : List Frame} {meth : Method} {c : Code} {D : va_G} {cA : Nat → ClassId} {B : Nat} {res : Int × HP} (E : e_En p s m args meth c cX13_spanFrom RX13 2 (some .int)) {ls : Array Slot} {H : Heap} {locs : List Loc} {S : HP} {y0 : Int} (hp : e_Pic D cA B S s H) (hS : va_S (e_A B) s.heap H locs) (hl : e_lo ls 2 []) (hsh : s13_spanFrom_b32 S y0 = some res) : W p l e ({ frames := 0, cells := 0, slots := 0, locals := 0 } : Room) s m args below meth c H locs 0 0 (MQ below (e_Qi D cA B res.1 res.2) args s 0 0 (e_A B)) (F0 m 32 ls [.int (iI (y0))]) := by
  obtain ⟨hx, hb, hml, hown, hts, hlk, hrt⟩ := id E
  unfold s13_spanFrom_b32 at hsh
  cases hsh
  exact e_iret hx hb hrt hlk hp hS dX13_spanFrom_32
set_option maxRecDepth 100000 in
set_option maxHeartbeats 4000000 in
theorem w13_spanFrom_b24 {p : Program} {l : Launch} {e : Env} {s : State} {m : MethodId} {args : Array Value} {below : List Frame} {meth : Method} {c : Code} {D : va_G} {cA : Nat → ClassId} {B : Nat} {res : Int × HP} (E : e_En p s m args meth c cX13_spanFrom RX13 2 (some .int)) {ls : Array Slot} {H : Heap} {locs : List Loc} {S : HP} {x0 : Int} (hp : e_Pic D cA B S s H) (hS : va_S (e_A B) s.heap H locs) (hl : e_lo ls 2 [(0, e_rv B (x0))]) (hsh : s13_spanFrom_b24 S x0 = some res) : W p l e ({ frames := 0, cells := 0, slots := 0, locals := 0 } : Room) s m args below meth c H locs 0 0 (MQ below (e_Qi D cA B res.1 res.2) args s 0 0 (e_A B)) (F0 m 24 ls []) := by
  obtain ⟨hx, hb, hml, hown, hts, hlk, hrt⟩ := id E
  unfold s13_spanFrom_b24 at hsh
  refine e_aload_n (B := B) (x := x0) hx hb dX13_spanFrom_24 rfl (hl.at 0 rfl) ?_
  obtain ⟨v25, h25, hsh⟩ := Option.bind_eq_some_iff.mp hsh
  refine e_getI (k := 37) hx hb hts in_X13 hown hp h25 rfl (by decide) (by decide) rfl (hts _ kf13_401) rfl dX13_spanFrom_25 ?_
  refine lv_goto (tgt := 32) hx hb dX13_spanFrom_28 (by decide) ?_
  exact w13_spanFrom_b32 E hp hS (hl.sub [] rfl) hsh
set_option maxRecDepth 100000 in
set_option maxHeartbeats 4000000 in
theorem w13_spanFrom_b31 {p : Program} {l : Launch} {e : Env} {s : State} {m : MethodId} {args : Array Value} {below : List Frame} {meth : Method} {c : Code} {D : va_G} {cA : Nat → ClassId} {B : Nat} {res : Int × HP} (E : e_En p s m args meth c cX13_spanFrom RX13 2 (some .int)) {ls : Array Slot} {H : Heap} {locs : List Loc} {S : HP} (hp : e_Pic D cA B S s H) (hS : va_S (e_A B) s.heap H locs) (hl : e_lo ls 2 []) (hsh : s13_spanFrom_b31 S  = some res) : W p l e ({ frames := 0, cells := 0, slots := 0, locals := 0 } : Room) s m args below meth c H locs 0 0 (MQ below (e_Qi D cA B res.1 res.2) args s 0 0 (e_A B)) (F0 m 31 ls []) := by
  obtain ⟨hx, hb, hml, hown, hts, hlk, hrt⟩ := id E
  unfold s13_spanFrom_b31 at hsh
  refine lv_iconst (v := iI (0)) hx hb dX13_spanFrom_31 rfl ?_
  exact w13_spanFrom_b32 E hp hS (hl.sub [] rfl) hsh
set_option maxRecDepth 100000 in
set_option maxHeartbeats 4000000 in
theorem c13_spanFrom (l : Launch) (D : va_G) (cA : Nat → ClassId) (B : Nat) (S S' : HP) (x0 : Int) (x1 : Int) (r : Int) (hsh : s13_spanFrom S x0 x1 = some (r, S')) : Met l yX13_spanFrom (e_wu yX13_spanFrom cX13_spanFrom 2 (some .int)) ({ frames := 0, cells := 0, slots := 0, locals := 0 } : Room) (va_Pc [e_rv B (x0), .int (iI (x1))] (fun U => e_PU D cA B S U)) (e_Qi D cA B r S') 0 0 (e_A B) := by
  refine Met.ofW (cc := cX13_spanFrom) (maxL := 2) (ret := (some .int)) (by decide +kernel) rfl ?_
  intro p e s m args below meth c s₁ Bd hml hv
  obtain ⟨rfl, hp⟩ := hv
  have hp : e_Pic D cA B S s s.heap := hp
  have hx := Bd.exec
  have hb := Bd.bytes
  have hrt := Bd.returns
  have hlk := Bd.notSynchronized
  have hown : s.vm.findClass RX13 = some m.cls := findClass_of_methodNamed Bd.named
  have hts : ∀ w ∈ e_tb, w.before ([e_rv B (x0), .int (iI (x1))] : List Value).toArray s = true := fun w h => atoms_spec (ws := (e_wu yX13_spanFrom cX13_spanFrom 2 (some .int))) Bd.pre w (List.mem_cons_of_mem _ h)
  have E : e_En p s m ([e_rv B (x0), .int (iI (x1))] : List Value).toArray meth c cX13_spanFrom RX13 2 (some .int) := ⟨hx, hb, hml, hown, hts, hlk, hrt⟩
  have hS : va_S (e_A B) s.heap s.heap [] := va_S.rf
  have hl := e_entry (vs := [e_rv B (x0), .int (iI (x1))]) (n := 2) (Nat.le_of_ble_eq_true rfl) (e_cc (e_rv_cat _ _) (e_cc rfl e_cn))
  rw [lg_entry_eq]
  generalize (lg_sl [e_rv B (x0), .int (iI (x1))] ++ List.replicate (2 - (lg_sl [e_rv B (x0), .int (iI (x1))]).length) Slot.unset).toArray = ls at hl ⊢
  generalize ([e_rv B (x0), .int (iI (x1))] : List Value).toArray = args at hts E ⊢
  have hl : e_lo ls 2 [(0, e_rv B (x0)), (1, .int (iI (x1)))] := hl
  have hsh := (gd_some hsh).2
  refine e_aload_n (B := B) (x := x0) hx hb dX13_spanFrom_0 rfl (hl.at 0 rfl) ?_
  obtain ⟨v1, h1, hsh⟩ := Option.bind_eq_some_iff.mp hsh
  refine e_getI (k := 35) hx hb hts in_X13 hown hp h1 rfl (by decide) (by decide) rfl (hts _ kf13_395) rfl dX13_spanFrom_1 ?_
  refine lv_iconst (v := iI (3)) hx hb dX13_spanFrom_4 rfl ?_
  refine e_icmp_eq (tgt := 24) hx hb dX13_spanFrom_5 (by decide) (fun c5 => ?_) (fun c5 => ?_)
  · rw [if_pos c5] at hsh
    exact w13_spanFrom_b24 E hp hS (hl.sub [0] rfl) hsh
  · rw [if_neg c5] at hsh
    refine e_aload_n (B := B) (x := x0) hx hb dX13_spanFrom_8 rfl (hl.at 0 rfl) ?_
    obtain ⟨v9, h9, hsh⟩ := Option.bind_eq_some_iff.mp hsh
    refine e_getI (k := 35) hx hb hts in_X13 hown hp h9 rfl (by decide) (by decide) rfl (hts _ kf13_395) rfl dX13_spanFrom_9 ?_
    refine lv_iconst (v := iI (1)) hx hb dX13_spanFrom_12 rfl ?_
    refine e_icmp_ne (tgt := 31) hx hb dX13_spanFrom_13 (by decide) (fun c13 => ?_) (fun c13 => ?_)
    · rw [if_neg c13] at hsh
      exact w13_spanFrom_b31 E hp hS (hl.sub [] rfl) hsh
    · rw [if_pos c13] at hsh
      refine lv_iload_n hx hb dX13_spanFrom_16 rfl (hl.at 1 rfl) ?_
      refine e_aload_n (B := B) (x := x0) hx hb dX13_spanFrom_17 rfl (hl.at 0 rfl) ?_
      obtain ⟨v18, h18, hsh⟩ := Option.bind_eq_some_iff.mp hsh
      refine e_getI (k := 36) hx hb hts in_X13 hown hp h18 rfl (by decide) (by decide) rfl (hts _ kf13_398) rfl dX13_spanFrom_18 ?_
      refine e_icmp_ne (tgt := 31) hx hb dX13_spanFrom_21 (by decide) (fun c21 => ?_) (fun c21 => ?_)
      · rw [if_neg c21] at hsh
        exact w13_spanFrom_b31 E hp hS (hl.sub [] rfl) hsh
      · rw [if_pos c21] at hsh
        exact w13_spanFrom_b24 E hp hS (hl.sub [0] rfl) hsh
theorem ok13_spanTo {S : HP} {x0 : Int} {x1 : Int} {r : Int × HP} (h : s13_spanTo S x0 x1 = some r) : 0 ≤ x0 ∧ x0.toNat < e_n S ∧ e_g S x0.toNat = 13 := (gd_some h).1
set_option maxRecDepth 100000 in
set_option maxHeartbeats 4000000 in
theorem w13_spanTo_b45 {p : Program} {l : Launch} {e : Env} {s : State} {m : MethodId} {args : Array Value} {below : List Frame} {meth : Method} {c : Code} {D : va_G} {cA : Nat → ClassId} {B : Nat} {res : Int × HP} (E : e_En p s m args meth c cX13_spanTo RX13 2 (some .int)) {ls : Array Slot} {H : Heap} {locs : List Loc} {S : HP} {y0 : Int} (hp : e_Pic D cA B S s H) (hS : va_S (e_A B) s.heap H locs) (hl : e_lo ls 2 []) (hsh : s13_spanTo_b45 S y0 = some res) : W p l e ({ frames := 2, cells := 0, slots := 0, locals := 42 } : Room) s m args below meth c H locs 0 0 (MQ below (e_Qi D cA B res.1 res.2) args s 0 0 (e_A B)) (F0 m 45 ls [.int (iI (y0))]) := by
  obtain ⟨hx, hb, hml, hown, hts, hlk, hrt⟩ := id E
  unfold s13_spanTo_b45 at hsh
  cases hsh
  exact e_iret hx hb hrt hlk hp hS dX13_spanTo_45
set_option maxRecDepth 100000 in
set_option maxHeartbeats 4000000 in
theorem w13_spanTo_b39 {p : Program} {l : Launch} {e : Env} {s : State} {m : MethodId} {args : Array Value} {below : List Frame} {meth : Method} {c : Code} {D : va_G} {cA : Nat → ClassId} {B : Nat} {res : Int × HP} (E : e_En p s m args meth c cX13_spanTo RX13 2 (some .int)) {ls : Array Slot} {H : Heap} {locs : List Loc} {S : HP} {x0 : Int} {x1 : Int} (hp : e_Pic D cA B S s H) (hS : va_S (e_A B) s.heap H locs) (hl : e_lo ls 2 [(0, e_rv B (x0)), (1, .int (iI (x1)))]) (hsh : s13_spanTo_b39 S x0 x1 = some res) : W p l e ({ frames := 2, cells := 0, slots := 0, locals := 42 } : Room) s m args below meth c H locs 0 0 (MQ below (e_Qi D cA B res.1 res.2) args s 0 0 (e_A B)) (F0 m 39 ls []) := by
  obtain ⟨hx, hb, hml, hown, hts, hlk, hrt⟩ := id E
  unfold s13_spanTo_b39 at hsh
  refine e_aload_n (B := B) (x := x0) hx hb dX13_spanTo_39 rfl (hl.at 0 rfl) ?_
  obtain ⟨v40, h40, hsh⟩ := Option.bind_eq_some_iff.mp hsh
  refine e_getR (k := 3) hx hb hts in_X13 hown hp h40 rfl (by decide) (by decide) rfl (hts _ kf13_17) rfl dX13_spanTo_40 ?_
  refine lv_iload_n hx hb dX13_spanTo_43 rfl (hl.at 1 rfl) ?_
  obtain ⟨v44, h44, hsh⟩ := Option.bind_eq_some_iff.mp hsh
  refine e_iald hx hb hp h44 dX13_spanTo_44 ?_
  exact w13_spanTo_b45 E hp hS (hl.sub [] rfl) hsh
set_option maxRecDepth 100000 in
set_option maxHeartbeats 4000000 in
theorem c13_spanTo (l : Launch) (D : va_G) (cA : Nat → ClassId) (B : Nat) (S S' : HP) (x0 : Int) (x1 : Int) (r : Int) (hsh : s13_spanTo S x0 x1 = some (r, S')) : Met l yX13_spanTo (e_wu yX13_spanTo cX13_spanTo 2 (some .int)) ({ frames := 2, cells := 0, slots := 0, locals := 42 } : Room) (va_Pc [e_rv B (x0), .int (iI (x1))] (fun U => e_PU D cA B S U)) (e_Qi D cA B r S') 0 0 (e_A B) := by
  refine Met.ofW (cc := cX13_spanTo) (maxL := 2) (ret := (some .int)) (by decide +kernel) rfl ?_
  intro p e s m args below meth c s₁ Bd hml hv
  obtain ⟨rfl, hp⟩ := hv
  have hp : e_Pic D cA B S s s.heap := hp
  have hx := Bd.exec
  have hb := Bd.bytes
  have hrt := Bd.returns
  have hlk := Bd.notSynchronized
  have hown : s.vm.findClass RX13 = some m.cls := findClass_of_methodNamed Bd.named
  have hts : ∀ w ∈ e_tb, w.before ([e_rv B (x0), .int (iI (x1))] : List Value).toArray s = true := fun w h => atoms_spec (ws := (e_wu yX13_spanTo cX13_spanTo 2 (some .int))) Bd.pre w (List.mem_cons_of_mem _ h)
  have E : e_En p s m ([e_rv B (x0), .int (iI (x1))] : List Value).toArray meth c cX13_spanTo RX13 2 (some .int) := ⟨hx, hb, hml, hown, hts, hlk, hrt⟩
  have hS : va_S (e_A B) s.heap s.heap [] := va_S.rf
  have hl := e_entry (vs := [e_rv B (x0), .int (iI (x1))]) (n := 2) (Nat.le_of_ble_eq_true rfl) (e_cc (e_rv_cat _ _) (e_cc rfl e_cn))
  rw [lg_entry_eq]
  generalize (lg_sl [e_rv B (x0), .int (iI (x1))] ++ List.replicate (2 - (lg_sl [e_rv B (x0), .int (iI (x1))]).length) Slot.unset).toArray = ls at hl ⊢
  generalize ([e_rv B (x0), .int (iI (x1))] : List Value).toArray = args at hts E ⊢
  have hl : e_lo ls 2 [(0, e_rv B (x0)), (1, .int (iI (x1)))] := hl
  have hsh := (gd_some hsh).2
  refine e_aload_n (B := B) (x := x0) hx hb dX13_spanTo_0 rfl (hl.at 0 rfl) ?_
  obtain ⟨v1, h1, hsh⟩ := Option.bind_eq_some_iff.mp hsh
  refine e_getI (k := 35) hx hb hts in_X13 hown hp h1 rfl (by decide) (by decide) rfl (hts _ kf13_395) rfl dX13_spanTo_1 ?_
  refine lv_iconst (v := iI (3)) hx hb dX13_spanTo_4 rfl ?_
  refine e_icmp_ne (tgt := 16) hx hb dX13_spanTo_5 (by decide) (fun c5 => ?_) (fun c5 => ?_)
  · rw [if_neg c5] at hsh
    refine e_aload_n (B := B) (x := x0) hx hb dX13_spanTo_16 rfl (hl.at 0 rfl) ?_
    obtain ⟨v17, h17, hsh⟩ := Option.bind_eq_some_iff.mp hsh
    refine e_getI (k := 35) hx hb hts in_X13 hown hp h17 rfl (by decide) (by decide) rfl (hts _ kf13_395) rfl dX13_spanTo_17 ?_
    refine lv_iconst (v := iI (1)) hx hb dX13_spanTo_20 rfl ?_
    refine e_icmp_ne (tgt := 39) hx hb dX13_spanTo_21 (by decide) (fun c21 => ?_) (fun c21 => ?_)
    · rw [if_neg c21] at hsh
      exact w13_spanTo_b39 E hp hS (hl.sub [0, 1] rfl) hsh
    · rw [if_pos c21] at hsh
      refine lv_iload_n hx hb dX13_spanTo_24 rfl (hl.at 1 rfl) ?_
      refine e_aload_n (B := B) (x := x0) hx hb dX13_spanTo_25 rfl (hl.at 0 rfl) ?_
      obtain ⟨v26, h26, hsh⟩ := Option.bind_eq_some_iff.mp hsh
      refine e_getI (k := 38) hx hb hts in_X13 hown hp h26 rfl (by decide) (by decide) rfl (hts _ kf13_404) rfl dX13_spanTo_26 ?_
      refine e_icmp_ne (tgt := 39) hx hb dX13_spanTo_29 (by decide) (fun c29 => ?_) (fun c29 => ?_)
      · rw [if_neg c29] at hsh
        exact w13_spanTo_b39 E hp hS (hl.sub [0, 1] rfl) hsh
      · rw [if_pos c29] at hsh
        refine e_aload_n (B := B) (x := x0) hx hb dX13_spanTo_32 rfl (hl.at 0 rfl) ?_
        obtain ⟨v33, h33, hsh⟩ := Option.bind_eq_some_iff.mp hsh
        refine e_getI (k := 39) hx hb hts in_X13 hown hp h33 rfl (by decide) (by decide) rfl (hts _ kf13_407) rfl dX13_spanTo_33 ?_
        refine lv_goto (tgt := 45) hx hb dX13_spanTo_36 (by decide) ?_
        exact w13_spanTo_b45 E hp hS (hl.sub [] rfl) hsh
  · rw [if_pos c5] at hsh
    refine e_aload_n (B := B) (x := x0) hx hb dX13_spanTo_8 rfl (hl.at 0 rfl) ?_
    refine lv_iload_n hx hb dX13_spanTo_9 rfl (hl.at 1 rfl) ?_
    obtain ⟨⟨v10, S10⟩, h10, hsh⟩ := Option.bind_eq_some_iff.mp hsh
    have hsh : _ = _ := hsh
    try dsimp only at hsh
    have ok10 := ok13_segmentEnd h10
    refine e_callI (nL := 2) (mc := 0) (ms := 0) (T := TX13) (N := 126) (As := [.int (iI (x1))]) (rest := []) hx hb hml hown hts hp hS hl.size ok10.1 ok10.2.1 ok10.2.2 rfl (by decide) (c13_segmentEnd l D cA B S S10 (x0) (x1) v10 h10) rfl rfl kd13_segmentEnd (kl13_448) ks13_segmentEnd kv13_segmentEnd ki13 kh13_segmentEnd ⟨Nat.le_of_ble_eq_true rfl, Nat.le_of_ble_eq_true rfl⟩ rfl (by simp [e_rv_cat, e_int_cat]) ⟨Nat.le_refl _, Nat.le_refl _⟩ dX13_spanTo_10 rfl (fun H locs hp hS => ?_)
    refine lv_goto (tgt := 45) hx hb dX13_spanTo_13 (by decide) ?_
    exact w13_spanTo_b45 E hp hS (hl.sub [] rfl) hsh
theorem ok13_turnsSpan {S : HP} {x0 : Int} {r : Int × HP} (h : s13_turnsSpan S x0 = some r) : 0 ≤ x0 ∧ x0.toNat < e_n S ∧ e_g S x0.toNat = 13 := (gd_some h).1
set_option maxRecDepth 100000 in
set_option maxHeartbeats 4000000 in
theorem w13_turnsSpan_l5 {p : Program} {l : Launch} {e : Env} {s : State} {m : MethodId} {args : Array Value} {below : List Frame} {meth : Method} {c : Code} {D : va_G} {cA : Nat → ClassId} {B : Nat} {res : Int × HP} (E : e_En p s m args meth c cX13_turnsSpan RX13 2 (some .boolean)) : ∀ (f : Nat) {ls : Array Slot} {H : Heap} {locs : List Loc} {S : HP} {x0 : Int} {x1 : Int} (hp : e_Pic D cA B S s H) (hS : va_S (e_A B) s.heap H locs) (hl : e_lo ls 2 [(0, e_rv B (x0)), (1, .int (iI (x1)))]) (hsh : s13_turnsSpan_l5 f S x0 x1 = some res), W p l e ({ frames := 3, cells := 0, slots := 0, locals := 63 } : Room) s m args below meth c H locs 0 0 (MQ below (e_Qi D cA B res.1 res.2) args s 0 0 (e_A B)) (F0 m 5 ls []) := by
  obtain ⟨hx, hb, hml, hown, hts, hlk, hrt⟩ := id E
  intro f
  induction f with
  | zero => intro ls H locs S x0 x1 hp hS hl hsh; cases hsh
  | succ f ih =>
    intro ls H locs S x0 x1 hp hS hl hsh
    have hk5 : ∀ {ls : Array Slot} {H : Heap} {locs : List Loc} {S : HP} {x0 : Int} {x1 : Int} (hp : e_Pic D cA B S s H) (hS : va_S (e_A B) s.heap H locs) (hl : e_lo ls 2 [(0, e_rv B (x0)), (1, .int (iI (x1)))]) (hsh : (s13_turnsSpan_l5 f) S x0 x1 = some res), W p l e ({ frames := 3, cells := 0, slots := 0, locals := 63 } : Room) s m args below meth c H locs 0 0 (MQ below (e_Qi D cA B res.1 res.2) args s 0 0 (e_A B)) (F0 m 5 ls []) := ih
    generalize hkk : s13_turnsSpan_l5 f = k5 at hk5
    rw [s13_turnsSpan_l5] at hsh
    rw [hkk] at hsh
    try dsimp only at hsh
    refine lv_iload_n hx hb dX13_turnsSpan_5 rfl (hl.at 1 rfl) ?_
    refine e_aload_n (B := B) (x := x0) hx hb dX13_turnsSpan_6 rfl (hl.at 0 rfl) ?_
    obtain ⟨v7, h7, hsh⟩ := Option.bind_eq_some_iff.mp hsh
    refine e_getI (k := 38) hx hb hts in_X13 hown hp h7 rfl (by decide) (by decide) rfl (hts _ kf13_404) rfl dX13_turnsSpan_7 ?_
    refine e_icmp_gt (tgt := 42) hx hb dX13_turnsSpan_10 (by decide) (fun c10 => ?_) (fun c10 => ?_)
    · rw [if_pos c10] at hsh
      refine e_aload_n (B := B) (x := x0) hx hb dX13_turnsSpan_42 rfl (hl.at 0 rfl) ?_
      refine e_aload_n (B := B) (x := x0) hx hb dX13_turnsSpan_43 rfl (hl.at 0 rfl) ?_
      obtain ⟨v44, h44, hsh⟩ := Option.bind_eq_some_iff.mp hsh
      refine e_getI (k := 36) hx hb hts in_X13 hown hp h44 rfl (by decide) (by decide) rfl (hts _ kf13_398) rfl dX13_turnsSpan_44 ?_
      refine e_aload_n (B := B) (x := x0) hx hb dX13_turnsSpan_47 rfl (hl.at 0 rfl) ?_
      refine e_aload_n (B := B) (x := x0) hx hb dX13_turnsSpan_48 rfl (hl.at 0 rfl) ?_
      obtain ⟨v49, h49, hsh⟩ := Option.bind_eq_some_iff.mp hsh
      refine e_getI (k := 36) hx hb hts in_X13 hown hp h49 rfl (by decide) (by decide) rfl (hts _ kf13_398) rfl dX13_turnsSpan_49 ?_
      obtain ⟨⟨v52, S52⟩, h52, hsh⟩ := Option.bind_eq_some_iff.mp hsh
      have hsh : _ = _ := hsh
      try dsimp only at hsh
      have ok52 := ok13_spanFrom h52
      refine e_callI (nL := 2) (mc := 0) (ms := 0) (T := TX13) (N := 126) (As := [.int (iI (v49))]) (rest := [.int (iI (v44)), e_rv B (x0)]) hx hb hml hown hts hp hS hl.size ok52.1 ok52.2.1 ok52.2.2 rfl (by decide) (c13_spanFrom l D cA B S S52 (x0) (v49) v52 h52) rfl rfl kd13_spanFrom (kl13_517) ks13_spanFrom kv13_spanFrom ki13 kh13_spanFrom ⟨Nat.le_of_ble_eq_true rfl, Nat.le_of_ble_eq_true rfl⟩ rfl (by simp [e_rv_cat, e_int_cat]) ⟨Nat.le_refl _, Nat.le_refl _⟩ dX13_turnsSpan_52 rfl (fun H locs hp hS => ?_)
      obtain ⟨S55, h55, hsh⟩ := Option.bind_eq_some_iff.mp hsh
      have ok55 := ok13_goesNear h55
      refine e_callV (nL := 2) (mc := 0) (ms := 0) (T := TX13) (N := 126) (As := [.int (iI (v44)), .int (iI (v52))]) (rest := []) hx hb hml hown hts hp hS hl.size ok55.1 ok55.2.1 ok55.2.2 rfl (by decide) (c13_goesNear l D cA B S52 S55 (x0) (v44) (v52) h55) rfl rfl kd13_goesNear (kl13_510) ks13_goesNear kv13_goesNear ki13 kh13_goesNear ⟨Nat.le_of_ble_eq_true rfl, Nat.le_of_ble_eq_true rfl⟩ rfl (by simp [e_rv_cat, e_int_cat]) ⟨Nat.le_refl _, Nat.le_refl _⟩ dX13_turnsSpan_55 rfl (fun H locs hp hS => ?_)
      refine lv_iconst (v := iI (1)) hx hb dX13_turnsSpan_58 rfl ?_
      obtain ⟨hz, hz1, hz2⟩ := zR_some hsh
      rw [← hz1, ← hz2]
      exact e_zret hx hb hrt hlk hp hS hz dX13_turnsSpan_59
    · rw [if_neg c10] at hsh
      refine e_aload_n (B := B) (x := x0) hx hb dX13_turnsSpan_13 rfl (hl.at 0 rfl) ?_
      refine lv_iload_n hx hb dX13_turnsSpan_14 rfl (hl.at 1 rfl) ?_
      refine e_aload_n (B := B) (x := x0) hx hb dX13_turnsSpan_15 rfl (hl.at 0 rfl) ?_
      refine lv_iload_n hx hb dX13_turnsSpan_16 rfl (hl.at 1 rfl) ?_
      obtain ⟨⟨v17, S17⟩, h17, hsh⟩ := Option.bind_eq_some_iff.mp hsh
      have hsh : _ = _ := hsh
      try dsimp only at hsh
      have ok17 := ok13_spanFrom h17
      refine e_callI (nL := 2) (mc := 0) (ms := 0) (T := TX13) (N := 126) (As := [.int (iI (x1))]) (rest := [.int (iI (x1)), e_rv B (x0)]) hx hb hml hown hts hp hS hl.size ok17.1 ok17.2.1 ok17.2.2 rfl (by decide) (c13_spanFrom l D cA B S S17 (x0) (x1) v17 h17) rfl rfl kd13_spanFrom (kl13_517) ks13_spanFrom kv13_spanFrom ki13 kh13_spanFrom ⟨Nat.le_of_ble_eq_true rfl, Nat.le_of_ble_eq_true rfl⟩ rfl (by simp [e_rv_cat, e_int_cat]) ⟨Nat.le_refl _, Nat.le_refl _⟩ dX13_turnsSpan_17 rfl (fun H locs hp hS => ?_)
      refine e_aload_n (B := B) (x := x0) hx hb dX13_turnsSpan_20 rfl (hl.at 0 rfl) ?_
      refine lv_iload_n hx hb dX13_turnsSpan_21 rfl (hl.at 1 rfl) ?_
      obtain ⟨⟨v22, S22⟩, h22, hsh⟩ := Option.bind_eq_some_iff.mp hsh
      have hsh : _ = _ := hsh
      try dsimp only at hsh
      have ok22 := ok13_spanFrom h22
      refine e_callI (nL := 2) (mc := 0) (ms := 0) (T := TX13) (N := 126) (As := [.int (iI (x1))]) (rest := [.int (iI (v17)), .int (iI (x1)), e_rv B (x0)]) hx hb hml hown hts hp hS hl.size ok22.1 ok22.2.1 ok22.2.2 rfl (by decide) (c13_spanFrom l D cA B S17 S22 (x0) (x1) v22 h22) rfl rfl kd13_spanFrom (kl13_517) ks13_spanFrom kv13_spanFrom ki13 kh13_spanFrom ⟨Nat.le_of_ble_eq_true rfl, Nat.le_of_ble_eq_true rfl⟩ rfl (by simp [e_rv_cat, e_int_cat]) ⟨Nat.le_refl _, Nat.le_refl _⟩ dX13_turnsSpan_22 rfl (fun H locs hp hS => ?_)
      refine e_aload_n (B := B) (x := x0) hx hb dX13_turnsSpan_25 rfl (hl.at 0 rfl) ?_
      refine lv_iload_n hx hb dX13_turnsSpan_26 rfl (hl.at 1 rfl) ?_
      obtain ⟨⟨v27, S27⟩, h27, hsh⟩ := Option.bind_eq_some_iff.mp hsh
      have hsh : _ = _ := hsh
      try dsimp only at hsh
      have ok27 := ok13_spanTo h27
      refine e_callI (nL := 2) (mc := 0) (ms := 0) (T := TX13) (N := 126) (As := [.int (iI (x1))]) (rest := [.int (iI (v22)), .int (iI (v17)), .int (iI (x1)), e_rv B (x0)]) hx hb hml hown hts hp hS hl.size ok27.1 ok27.2.1 ok27.2.2 rfl (by decide) (c13_spanTo l D cA B S22 S27 (x0) (x1) v27 h27) rfl rfl kd13_spanTo (kl13_520) ks13_spanTo kv13_spanTo ki13 kh13_spanTo ⟨Nat.le_of_ble_eq_true rfl, Nat.le_of_ble_eq_true rfl⟩ rfl (by simp [e_rv_cat, e_int_cat]) ⟨Nat.le_refl _, Nat.le_refl _⟩ dX13_turnsSpan_27 rfl (fun H locs hp hS => ?_)
      obtain ⟨⟨v30, S30⟩, h30, hsh⟩ := Option.bind_eq_some_iff.mp hsh
      have hsh : _ = _ := hsh
      try dsimp only at hsh
      refine e_callS (nL := 2) (mc := 0) (ms := 0) (As := [.int (iI (v22)), .int (iI (v27))]) (rest := [.int (iI (v17)), .int (iI (x1)), e_rv B (x0)]) hx hb hml hown hts hp hS hl.size (c13_greater l D cA B S27 S30 (v22) (v27) v30 h30) rfl rfl kd13_greater (kl13_210) ks13_greater ki13 kh13_greater ⟨Nat.le_of_ble_eq_true rfl, Nat.le_of_ble_eq_true rfl⟩ rfl (by simp [e_rv_cat, e_int_cat]) ⟨Nat.le_refl _, Nat.le_refl _⟩ dX13_turnsSpan_30 rfl (fun H locs hp hS => ?_)
      obtain ⟨S33, h33, hsh⟩ := Option.bind_eq_some_iff.mp hsh
      have ok33 := ok13_turnsCase h33
      refine e_callV (nL := 2) (mc := 0) (ms := 0) (T := TX13) (N := 126) (As := [.int (iI (x1)), .int (iI (v17)), .int (iI (v30))]) (rest := []) hx hb hml hown hts hp hS hl.size ok33.1 ok33.2.1 ok33.2.2 rfl (by decide) (c13_turnsCase l D cA B S30 S33 (x0) (x1) (v17) (v30) h33) rfl rfl kd13_turnsCase (kl13_523) ks13_turnsCase kv13_turnsCase ki13 kh13_turnsCase ⟨Nat.le_of_ble_eq_true rfl, Nat.le_of_ble_eq_true rfl⟩ rfl (by simp [e_rv_cat, e_int_cat]) ⟨Nat.le_refl _, Nat.le_refl _⟩ dX13_turnsSpan_33 rfl (fun H locs hp hS => ?_)
      refine e_iinc (n := 1) (x := x1) (lv' := [(1, .int (iI ((x1 + 1)))), (0, e_rv B (x0))]) hx hb dX13_turnsSpan_36 hl (k := 1) rfl (by decide) rfl (fun ls hl => ?_)
      refine lv_goto (tgt := 5) hx hb dX13_turnsSpan_39 (by decide) ?_
      exact hk5 hp hS (hl.sub [1, 0] rfl) hsh
set_option maxRecDepth 100000 in
set_option maxHeartbeats 4000000 in
theorem c13_turnsSpan (l : Launch) (D : va_G) (cA : Nat → ClassId) (B : Nat) (S S' : HP) (x0 : Int) (r : Int) (hsh : s13_turnsSpan S x0 = some (r, S')) : Met l yX13_turnsSpan (e_wu yX13_turnsSpan cX13_turnsSpan 2 (some .boolean)) ({ frames := 3, cells := 0, slots := 0, locals := 63 } : Room) (va_Pc [e_rv B (x0)] (fun U => e_PU D cA B S U)) (e_Qi D cA B r S') 0 0 (e_A B) := by
  refine Met.ofW (cc := cX13_turnsSpan) (maxL := 2) (ret := (some .boolean)) (by decide +kernel) rfl ?_
  intro p e s m args below meth c s₁ Bd hml hv
  obtain ⟨rfl, hp⟩ := hv
  have hp : e_Pic D cA B S s s.heap := hp
  have hx := Bd.exec
  have hb := Bd.bytes
  have hrt := Bd.returns
  have hlk := Bd.notSynchronized
  have hown : s.vm.findClass RX13 = some m.cls := findClass_of_methodNamed Bd.named
  have hts : ∀ w ∈ e_tb, w.before ([e_rv B (x0)] : List Value).toArray s = true := fun w h => atoms_spec (ws := (e_wu yX13_turnsSpan cX13_turnsSpan 2 (some .boolean))) Bd.pre w (List.mem_cons_of_mem _ h)
  have E : e_En p s m ([e_rv B (x0)] : List Value).toArray meth c cX13_turnsSpan RX13 2 (some .boolean) := ⟨hx, hb, hml, hown, hts, hlk, hrt⟩
  have hS : va_S (e_A B) s.heap s.heap [] := va_S.rf
  have hl := e_entry (vs := [e_rv B (x0)]) (n := 2) (Nat.le_of_ble_eq_true rfl) (e_cc (e_rv_cat _ _) e_cn)
  rw [lg_entry_eq]
  generalize (lg_sl [e_rv B (x0)] ++ List.replicate (2 - (lg_sl [e_rv B (x0)]).length) Slot.unset).toArray = ls at hl ⊢
  generalize ([e_rv B (x0)] : List Value).toArray = args at hts E ⊢
  have hl : e_lo ls 2 [(0, e_rv B (x0))] := hl
  have hsh := (gd_some hsh).2
  refine e_aload_n (B := B) (x := x0) hx hb dX13_turnsSpan_0 rfl (hl.at 0 rfl) ?_
  obtain ⟨v1, h1, hsh⟩ := Option.bind_eq_some_iff.mp hsh
  refine e_getI (k := 36) hx hb hts in_X13 hown hp h1 rfl (by decide) (by decide) rfl (hts _ kf13_398) rfl dX13_turnsSpan_1 ?_
  refine e_istore_n (lv' := [(1, .int (iI (v1))), (0, e_rv B (x0))]) hx hb dX13_turnsSpan_4 rfl hl (by decide) rfl (fun ls hl => ?_)
  exact w13_turnsSpan_l5 E 1000000 hp hS (hl.sub [1, 0] rfl) hsh
theorem ok13_makesFold {S : HP} {x0 : Int} {r : Int × HP} (h : s13_makesFold S x0 = some r) : 0 ≤ x0 ∧ x0.toNat < e_n S ∧ e_g S x0.toNat = 13 := (gd_some h).1
set_option maxRecDepth 100000 in
set_option maxHeartbeats 4000000 in
theorem w13_makesFold_b189 {p : Program} {l : Launch} {e : Env} {s : State} {m : MethodId} {args : Array Value} {below : List Frame} {meth : Method} {c : Code} {D : va_G} {cA : Nat → ClassId} {B : Nat} {res : Int × HP} (E : e_En p s m args meth c cX13_makesFold RX13 7 (some .boolean)) {ls : Array Slot} {H : Heap} {locs : List Loc} {S : HP} {x1 : Int} (hp : e_Pic D cA B S s H) (hS : va_S (e_A B) s.heap H locs) (hl : e_lo ls 7 [(1, .int (iI (x1)))]) (hsh : s13_makesFold_b189 S x1 = some res) : W p l e ({ frames := 1, cells := 0, slots := 0, locals := 24 } : Room) s m args below meth c H locs 0 0 (MQ below (e_Qi D cA B res.1 res.2) args s 0 0 (e_A B)) (F0 m 189 ls []) := by
  obtain ⟨hx, hb, hml, hown, hts, hlk, hrt⟩ := id E
  unfold s13_makesFold_b189 at hsh
  refine lv_iload_n hx hb dX13_makesFold_189 rfl (hl.at 0 rfl) ?_
  obtain ⟨hz, hz1, hz2⟩ := zR_some hsh
  rw [← hz1, ← hz2]
  exact e_zret hx hb hrt hlk hp hS hz dX13_makesFold_190
set_option maxRecDepth 100000 in
set_option maxHeartbeats 4000000 in
theorem w13_makesFold_b161 {p : Program} {l : Launch} {e : Env} {s : State} {m : MethodId} {args : Array Value} {below : List Frame} {meth : Method} {c : Code} {D : va_G} {cA : Nat → ClassId} {B : Nat} {res : Int × HP} (E : e_En p s m args meth c cX13_makesFold RX13 7 (some .boolean)) {ls : Array Slot} {H : Heap} {locs : List Loc} {S : HP} {x0 : Int} {x1 : Int} (hp : e_Pic D cA B S s H) (hS : va_S (e_A B) s.heap H locs) (hl : e_lo ls 7 [(0, e_rv B (x0)), (1, .int (iI (x1)))]) (hsh : s13_makesFold_b161 S x0 x1 = some res) : W p l e ({ frames := 1, cells := 0, slots := 0, locals := 24 } : Room) s m args below meth c H locs 0 0 (MQ below (e_Qi D cA B res.1 res.2) args s 0 0 (e_A B)) (F0 m 161 ls []) := by
  obtain ⟨hx, hb, hml, hown, hts, hlk, hrt⟩ := id E
  unfold s13_makesFold_b161 at hsh
  refine lv_iload_n hx hb dX13_makesFold_161 rfl (hl.at 1 rfl) ?_
  refine e_if_eq (tgt := 189) hx hb dX13_makesFold_162 (by decide) (fun c162 => ?_) (fun c162 => ?_)
  · rw [if_pos c162] at hsh
    exact w13_makesFold_b189 E hp hS (hl.sub [1] rfl) hsh
  · rw [if_neg c162] at hsh
    refine e_aload_n (B := B) (x := x0) hx hb dX13_makesFold_165 rfl (hl.at 0 rfl) ?_
    refine e_aload_n (B := B) (x := x0) hx hb dX13_makesFold_166 rfl (hl.at 0 rfl) ?_
    obtain ⟨v167, h167, hsh⟩ := Option.bind_eq_some_iff.mp hsh
    refine e_getI (k := 36) hx hb hts in_X13 hown hp h167 rfl (by decide) (by decide) rfl (hts _ kf13_398) rfl dX13_makesFold_167 ?_
    refine e_aload_n (B := B) (x := x0) hx hb dX13_makesFold_170 rfl (hl.at 0 rfl) ?_
    obtain ⟨v171, h171, hsh⟩ := Option.bind_eq_some_iff.mp hsh
    refine e_getI (k := 38) hx hb hts in_X13 hown hp h171 rfl (by decide) (by decide) rfl (hts _ kf13_404) rfl dX13_makesFold_171 ?_
    refine lv_iconst (v := iI (0)) hx hb dX13_makesFold_174 rfl ?_
    refine lv_iconst (v := iI (1)) hx hb dX13_makesFold_175 rfl ?_
    obtain ⟨S176, h176, hsh⟩ := Option.bind_eq_some_iff.mp hsh
    have ok176 := ok13_addsFolds h176
    refine e_callV (nL := 7) (mc := 0) (ms := 0) (T := TX13) (N := 126) (As := [.int (iI (v167)), .int (iI (v171)), .int (iI (0)), .int (iI (1))]) (rest := []) hx hb hml hown hts hp hS hl.size ok176.1 ok176.2.1 ok176.2.2 rfl (by decide) (c13_addsFolds l D cA B S S176 (x0) (v167) (v171) (0) (1) h176) rfl rfl kd13_addsFolds (kl13_240) ks13_addsFolds kv13_addsFolds ki13 kh13_addsFolds ⟨Nat.le_of_ble_eq_true rfl, Nat.le_of_ble_eq_true rfl⟩ rfl (by simp [e_rv_cat, e_int_cat]) ⟨Nat.le_refl _, Nat.le_refl _⟩ dX13_makesFold_176 rfl (fun H locs hp hS => ?_)
    refine e_aload_n (B := B) (x := x0) hx hb dX13_makesFold_179 rfl (hl.at 0 rfl) ?_
    refine lv_dup hx hb dX13_makesFold_180 (e_rv_cat _ _) ?_
    obtain ⟨v181, h181, hsh⟩ := Option.bind_eq_some_iff.mp hsh
    refine e_getI (k := 20) hx hb hts in_X13 hown hp h181 rfl (by decide) (by decide) rfl (hts _ kf13_237) rfl dX13_makesFold_181 ?_
    refine lv_iconst (v := iI (1)) hx hb dX13_makesFold_184 rfl ?_
    refine e_iadd hx hb dX13_makesFold_185 ?_
    obtain ⟨S186, h186, hsh⟩ := Option.bind_eq_some_iff.mp hsh
    refine e_putI (k := 20) hx hb hts in_X13 tyX13 tyX13_ok nmX13 hown hp hS h186 rfl (by decide) (by decide) rfl (hts _ kf13_237) rfl rfl (by decide +kernel) dX13_makesFold_186 (fun H locs hp hS => ?_)
    exact w13_makesFold_b189 E hp hS (hl.sub [1] rfl) hsh
set_option maxRecDepth 100000 in
set_option maxHeartbeats 4000000 in
theorem w13_makesFold_b154 {p : Program} {l : Launch} {e : Env} {s : State} {m : MethodId} {args : Array Value} {below : List Frame} {meth : Method} {c : Code} {D : va_G} {cA : Nat → ClassId} {B : Nat} {res : Int × HP} {k19 : HP → Int → Int → Int → Option (Int × HP)} (hk19 : ∀ {ls : Array Slot} {H : Heap} {locs : List Loc} {S : HP} {x0 : Int} {x1 : Int} {x2 : Int} (hp : e_Pic D cA B S s H) (hS : va_S (e_A B) s.heap H locs) (hl : e_lo ls 7 [(0, e_rv B (x0)), (1, .int (iI (x1))), (2, .int (iI (x2)))]) (hsh : k19 S x0 x1 x2 = some res), W p l e ({ frames := 1, cells := 0, slots := 0, locals := 24 } : Room) s m args below meth c H locs 0 0 (MQ below (e_Qi D cA B res.1 res.2) args s 0 0 (e_A B)) (F0 m 19 ls [])) (E : e_En p s m args meth c cX13_makesFold RX13 7 (some .boolean)) {ls : Array Slot} {H : Heap} {locs : List Loc} {S : HP} {x0 : Int} {x2 : Int} {y0 : Int} (hp : e_Pic D cA B S s H) (hS : va_S (e_A B) s.heap H locs) (hl : e_lo ls 7 [(0, e_rv B (x0)), (2, .int (iI (x2)))]) (hsh : s13_makesFold_b154 k19 S x0 x2 y0 = some res) : W p l e ({ frames := 1, cells := 0, slots := 0, locals := 24 } : Room) s m args below meth c H locs 0 0 (MQ below (e_Qi D cA B res.1 res.2) args s 0 0 (e_A B)) (F0 m 154 ls [.int (iI (y0))]) := by
  obtain ⟨hx, hb, hml, hown, hts, hlk, hrt⟩ := id E
  unfold s13_makesFold_b154 at hsh
  refine e_istore_n (lv' := [(1, .int (iI (y0))), (0, e_rv B (x0)), (2, .int (iI (x2)))]) hx hb dX13_makesFold_154 rfl hl (by decide) rfl (fun ls hl => ?_)
  refine e_iinc (n := 1) (x := x2) (lv' := [(2, .int (iI ((x2 + 1)))), (1, .int (iI (y0))), (0, e_rv B (x0))]) hx hb dX13_makesFold_155 hl (k := 2) rfl (by decide) rfl (fun ls hl => ?_)
  refine lv_goto (tgt := 19) hx hb dX13_makesFold_158 (by decide) ?_
  exact hk19 hp hS (hl.sub [2, 1, 0] rfl) hsh
set_option maxRecDepth 100000 in
set_option maxHeartbeats 4000000 in
theorem w13_makesFold_b149 {p : Program} {l : Launch} {e : Env} {s : State} {m : MethodId} {args : Array Value} {below : List Frame} {meth : Method} {c : Code} {D : va_G} {cA : Nat → ClassId} {B : Nat} {res : Int × HP} {k19 : HP → Int → Int → Int → Option (Int × HP)} (hk19 : ∀ {ls : Array Slot} {H : Heap} {locs : List Loc} {S : HP} {x0 : Int} {x1 : Int} {x2 : Int} (hp : e_Pic D cA B S s H) (hS : va_S (e_A B) s.heap H locs) (hl : e_lo ls 7 [(0, e_rv B (x0)), (1, .int (iI (x1))), (2, .int (iI (x2)))]) (hsh : k19 S x0 x1 x2 = some res), W p l e ({ frames := 1, cells := 0, slots := 0, locals := 24 } : Room) s m args below meth c H locs 0 0 (MQ below (e_Qi D cA B res.1 res.2) args s 0 0 (e_A B)) (F0 m 19 ls [])) (E : e_En p s m args meth c cX13_makesFold RX13 7 (some .boolean)) {ls : Array Slot} {H : Heap} {locs : List Loc} {S : HP} {x0 : Int} {x2 : Int} (hp : e_Pic D cA B S s H) (hS : va_S (e_A B) s.heap H locs) (hl : e_lo ls 7 [(0, e_rv B (x0)), (2, .int (iI (x2)))]) (hsh : s13_makesFold_b149 k19 S x0 x2 = some res) : W p l e ({ frames := 1, cells := 0, slots := 0, locals := 24 } : Room) s m args below meth c H locs 0 0 (MQ below (e_Qi D cA B res.1 res.2) args s 0 0 (e_A B)) (F0 m 149 ls []) := by
  obtain ⟨hx, hb, hml, hown, hts, hlk, hrt⟩ := id E
  unfold s13_makesFold_b149 at hsh
  refine lv_iconst (v := iI (1)) hx hb dX13_makesFold_149 rfl ?_
  refine lv_goto (tgt := 154) hx hb dX13_makesFold_150 (by decide) ?_
  exact w13_makesFold_b154 (hk19 := hk19) E hp hS (hl.sub [0, 1] rfl) hsh
set_option maxRecDepth 100000 in
set_option maxHeartbeats 4000000 in
theorem w13_makesFold_b153 {p : Program} {l : Launch} {e : Env} {s : State} {m : MethodId} {args : Array Value} {below : List Frame} {meth : Method} {c : Code} {D : va_G} {cA : Nat → ClassId} {B : Nat} {res : Int × HP} {k19 : HP → Int → Int → Int → Option (Int × HP)} (hk19 : ∀ {ls : Array Slot} {H : Heap} {locs : List Loc} {S : HP} {x0 : Int} {x1 : Int} {x2 : Int} (hp : e_Pic D cA B S s H) (hS : va_S (e_A B) s.heap H locs) (hl : e_lo ls 7 [(0, e_rv B (x0)), (1, .int (iI (x1))), (2, .int (iI (x2)))]) (hsh : k19 S x0 x1 x2 = some res), W p l e ({ frames := 1, cells := 0, slots := 0, locals := 24 } : Room) s m args below meth c H locs 0 0 (MQ below (e_Qi D cA B res.1 res.2) args s 0 0 (e_A B)) (F0 m 19 ls [])) (E : e_En p s m args meth c cX13_makesFold RX13 7 (some .boolean)) {ls : Array Slot} {H : Heap} {locs : List Loc} {S : HP} {x0 : Int} {x2 : Int} (hp : e_Pic D cA B S s H) (hS : va_S (e_A B) s.heap H locs) (hl : e_lo ls 7 [(0, e_rv B (x0)), (2, .int (iI (x2)))]) (hsh : s13_makesFold_b153 k19 S x0 x2 = some res) : W p l e ({ frames := 1, cells := 0, slots := 0, locals := 24 } : Room) s m args below meth c H locs 0 0 (MQ below (e_Qi D cA B res.1 res.2) args s 0 0 (e_A B)) (F0 m 153 ls []) := by
  obtain ⟨hx, hb, hml, hown, hts, hlk, hrt⟩ := id E
  unfold s13_makesFold_b153 at hsh
  refine lv_iconst (v := iI (0)) hx hb dX13_makesFold_153 rfl ?_
  exact w13_makesFold_b154 (hk19 := hk19) E hp hS (hl.sub [0, 1] rfl) hsh
set_option maxRecDepth 100000 in
set_option maxHeartbeats 4000000 in
theorem w13_makesFold_b104 {p : Program} {l : Launch} {e : Env} {s : State} {m : MethodId} {args : Array Value} {below : List Frame} {meth : Method} {c : Code} {D : va_G} {cA : Nat → ClassId} {B : Nat} {res : Int × HP} {k19 : HP → Int → Int → Int → Option (Int × HP)} (hk19 : ∀ {ls : Array Slot} {H : Heap} {locs : List Loc} {S : HP} {x0 : Int} {x1 : Int} {x2 : Int} (hp : e_Pic D cA B S s H) (hS : va_S (e_A B) s.heap H locs) (hl : e_lo ls 7 [(0, e_rv B (x0)), (1, .int (iI (x1))), (2, .int (iI (x2)))]) (hsh : k19 S x0 x1 x2 = some res), W p l e ({ frames := 1, cells := 0, slots := 0, locals := 24 } : Room) s m args below meth c H locs 0 0 (MQ below (e_Qi D cA B res.1 res.2) args s 0 0 (e_A B)) (F0 m 19 ls [])) (E : e_En p s m args meth c cX13_makesFold RX13 7 (some .boolean)) {ls : Array Slot} {H : Heap} {locs : List Loc} {S : HP} {x0 : Int} {x2 : Int} {x3 : Int} {x4 : Int} {x5 : Int} {y0 : Int} (hp : e_Pic D cA B S s H) (hS : va_S (e_A B) s.heap H locs) (hl : e_lo ls 7 [(0, e_rv B (x0)), (2, .int (iI (x2))), (3, .int (iI (x3))), (4, .int (iI (x4))), (5, .int (iI (x5)))]) (hsh : s13_makesFold_b104 k19 S x0 x2 x3 x4 x5 y0 = some res) : W p l e ({ frames := 1, cells := 0, slots := 0, locals := 24 } : Room) s m args below meth c H locs 0 0 (MQ below (e_Qi D cA B res.1 res.2) args s 0 0 (e_A B)) (F0 m 104 ls [.int (iI (y0))]) := by
  obtain ⟨hx, hb, hml, hown, hts, hlk, hrt⟩ := id E
  unfold s13_makesFold_b104 at hsh
  refine e_istore (lv' := [(6, .int (iI (y0))), (0, e_rv B (x0)), (2, .int (iI (x2))), (3, .int (iI (x3))), (4, .int (iI (x4))), (5, .int (iI (x5)))]) hx hb dX13_makesFold_104 hl (by decide) rfl (fun ls hl => ?_)
  refine e_aload_n (B := B) (x := x0) hx hb dX13_makesFold_106 rfl (hl.at 1 rfl) ?_
  obtain ⟨v107, h107, hsh⟩ := Option.bind_eq_some_iff.mp hsh
  refine e_getR (k := 21) hx hb hts in_X13 hown hp h107 rfl (by decide) (by decide) rfl (hts _ kf13_48) rfl dX13_makesFold_107 ?_
  refine lv_iload_n hx hb dX13_makesFold_110 rfl (hl.at 2 rfl) ?_
  obtain ⟨v111, h111, hsh⟩ := Option.bind_eq_some_iff.mp hsh
  refine e_iald hx hb hp h111 dX13_makesFold_111 ?_
  refine e_aload_n (B := B) (x := x0) hx hb dX13_makesFold_112 rfl (hl.at 1 rfl) ?_
  obtain ⟨v113, h113, hsh⟩ := Option.bind_eq_some_iff.mp hsh
  refine e_getR (k := 22) hx hb hts in_X13 hown hp h113 rfl (by decide) (by decide) rfl (hts _ kf13_51) rfl dX13_makesFold_113 ?_
  refine lv_iload_n hx hb dX13_makesFold_116 rfl (hl.at 2 rfl) ?_
  obtain ⟨v117, h117, hsh⟩ := Option.bind_eq_some_iff.mp hsh
  refine e_iald hx hb hp h117 dX13_makesFold_117 ?_
  refine e_iadd hx hb dX13_makesFold_118 ?_
  refine e_if_eq (tgt := 149) hx hb dX13_makesFold_119 (by decide) (fun c119 => ?_) (fun c119 => ?_)
  · rw [if_pos c119] at hsh
    exact w13_makesFold_b149 (hk19 := hk19) E hp hS (hl.sub [1, 2] rfl) hsh
  · rw [if_neg c119] at hsh
    refine lv_iload hx hb dX13_makesFold_122 (hl.at 5 rfl) ?_
    refine e_if_ne (tgt := 149) hx hb dX13_makesFold_124 (by decide) (fun c124 => ?_) (fun c124 => ?_)
    · rw [if_neg c124] at hsh
      exact w13_makesFold_b149 (hk19 := hk19) E hp hS (hl.sub [1, 2] rfl) hsh
    · rw [if_pos c124] at hsh
      refine lv_iload hx hb dX13_makesFold_127 (hl.at 0 rfl) ?_
      refine e_if_eq (tgt := 153) hx hb dX13_makesFold_129 (by decide) (fun c129 => ?_) (fun c129 => ?_)
      · rw [if_pos c129] at hsh
        exact w13_makesFold_b153 (hk19 := hk19) E hp hS (hl.sub [1, 2] rfl) hsh
      · rw [if_neg c129] at hsh
        refine lv_iload_n hx hb dX13_makesFold_132 rfl (hl.at 3 rfl) ?_
        refine e_aload_n (B := B) (x := x0) hx hb dX13_makesFold_133 rfl (hl.at 1 rfl) ?_
        obtain ⟨v134, h134, hsh⟩ := Option.bind_eq_some_iff.mp hsh
        refine e_getI (k := 36) hx hb hts in_X13 hown hp h134 rfl (by decide) (by decide) rfl (hts _ kf13_398) rfl dX13_makesFold_134 ?_
        refine e_icmp_ne (tgt := 149) hx hb dX13_makesFold_137 (by decide) (fun c137 => ?_) (fun c137 => ?_)
        · rw [if_neg c137] at hsh
          exact w13_makesFold_b149 (hk19 := hk19) E hp hS (hl.sub [1, 2] rfl) hsh
        · rw [if_pos c137] at hsh
          refine lv_iload hx hb dX13_makesFold_140 (hl.at 4 rfl) ?_
          refine e_aload_n (B := B) (x := x0) hx hb dX13_makesFold_142 rfl (hl.at 1 rfl) ?_
          obtain ⟨v143, h143, hsh⟩ := Option.bind_eq_some_iff.mp hsh
          refine e_getI (k := 38) hx hb hts in_X13 hown hp h143 rfl (by decide) (by decide) rfl (hts _ kf13_404) rfl dX13_makesFold_143 ?_
          refine e_icmp_eq (tgt := 153) hx hb dX13_makesFold_146 (by decide) (fun c146 => ?_) (fun c146 => ?_)
          · rw [if_pos c146] at hsh
            exact w13_makesFold_b153 (hk19 := hk19) E hp hS (hl.sub [1, 2] rfl) hsh
          · rw [if_neg c146] at hsh
            exact w13_makesFold_b149 (hk19 := hk19) E hp hS (hl.sub [1, 2] rfl) hsh
set_option maxRecDepth 100000 in
set_option maxHeartbeats 4000000 in
theorem w13_makesFold_b103 {p : Program} {l : Launch} {e : Env} {s : State} {m : MethodId} {args : Array Value} {below : List Frame} {meth : Method} {c : Code} {D : va_G} {cA : Nat → ClassId} {B : Nat} {res : Int × HP} {k19 : HP → Int → Int → Int → Option (Int × HP)} (hk19 : ∀ {ls : Array Slot} {H : Heap} {locs : List Loc} {S : HP} {x0 : Int} {x1 : Int} {x2 : Int} (hp : e_Pic D cA B S s H) (hS : va_S (e_A B) s.heap H locs) (hl : e_lo ls 7 [(0, e_rv B (x0)), (1, .int (iI (x1))), (2, .int (iI (x2)))]) (hsh : k19 S x0 x1 x2 = some res), W p l e ({ frames := 1, cells := 0, slots := 0, locals := 24 } : Room) s m args below meth c H locs 0 0 (MQ below (e_Qi D cA B res.1 res.2) args s 0 0 (e_A B)) (F0 m 19 ls [])) (E : e_En p s m args meth c cX13_makesFold RX13 7 (some .boolean)) {ls : Array Slot} {H : Heap} {locs : List Loc} {S : HP} {x0 : Int} {x2 : Int} {x3 : Int} {x4 : Int} {x5 : Int} (hp : e_Pic D cA B S s H) (hS : va_S (e_A B) s.heap H locs) (hl : e_lo ls 7 [(0, e_rv B (x0)), (2, .int (iI (x2))), (3, .int (iI (x3))), (4, .int (iI (x4))), (5, .int (iI (x5)))]) (hsh : s13_makesFold_b103 k19 S x0 x2 x3 x4 x5 = some res) : W p l e ({ frames := 1, cells := 0, slots := 0, locals := 24 } : Room) s m args below meth c H locs 0 0 (MQ below (e_Qi D cA B res.1 res.2) args s 0 0 (e_A B)) (F0 m 103 ls []) := by
  obtain ⟨hx, hb, hml, hown, hts, hlk, hrt⟩ := id E
  unfold s13_makesFold_b103 at hsh
  refine lv_iconst (v := iI (0)) hx hb dX13_makesFold_103 rfl ?_
  exact w13_makesFold_b104 (hk19 := hk19) E hp hS (hl.sub [0, 1, 2, 3, 4] rfl) hsh
set_option maxRecDepth 100000 in
set_option maxHeartbeats 4000000 in
theorem w13_makesFold_b99 {p : Program} {l : Launch} {e : Env} {s : State} {m : MethodId} {args : Array Value} {below : List Frame} {meth : Method} {c : Code} {D : va_G} {cA : Nat → ClassId} {B : Nat} {res : Int × HP} {k19 : HP → Int → Int → Int → Option (Int × HP)} (hk19 : ∀ {ls : Array Slot} {H : Heap} {locs : List Loc} {S : HP} {x0 : Int} {x1 : Int} {x2 : Int} (hp : e_Pic D cA B S s H) (hS : va_S (e_A B) s.heap H locs) (hl : e_lo ls 7 [(0, e_rv B (x0)), (1, .int (iI (x1))), (2, .int (iI (x2)))]) (hsh : k19 S x0 x1 x2 = some res), W p l e ({ frames := 1, cells := 0, slots := 0, locals := 24 } : Room) s m args below meth c H locs 0 0 (MQ below (e_Qi D cA B res.1 res.2) args s 0 0 (e_A B)) (F0 m 19 ls [])) (E : e_En p s m args meth c cX13_makesFold RX13 7 (some .boolean)) {ls : Array Slot} {H : Heap} {locs : List Loc} {S : HP} {x0 : Int} {x2 : Int} {x3 : Int} {x4 : Int} {x5 : Int} (hp : e_Pic D cA B S s H) (hS : va_S (e_A B) s.heap H locs) (hl : e_lo ls 7 [(0, e_rv B (x0)), (2, .int (iI (x2))), (3, .int (iI (x3))), (4, .int (iI (x4))), (5, .int (iI (x5)))]) (hsh : s13_makesFold_b99 k19 S x0 x2 x3 x4 x5 = some res) : W p l e ({ frames := 1, cells := 0, slots := 0, locals := 24 } : Room) s m args below meth c H locs 0 0 (MQ below (e_Qi D cA B res.1 res.2) args s 0 0 (e_A B)) (F0 m 99 ls []) := by
  obtain ⟨hx, hb, hml, hown, hts, hlk, hrt⟩ := id E
  unfold s13_makesFold_b99 at hsh
  refine lv_iconst (v := iI (1)) hx hb dX13_makesFold_99 rfl ?_
  refine lv_goto (tgt := 104) hx hb dX13_makesFold_100 (by decide) ?_
  exact w13_makesFold_b104 (hk19 := hk19) E hp hS (hl.sub [0, 1, 2, 3, 4] rfl) hsh
set_option maxRecDepth 100000 in
set_option maxHeartbeats 4000000 in
theorem w13_makesFold_b82 {p : Program} {l : Launch} {e : Env} {s : State} {m : MethodId} {args : Array Value} {below : List Frame} {meth : Method} {c : Code} {D : va_G} {cA : Nat → ClassId} {B : Nat} {res : Int × HP} {k19 : HP → Int → Int → Int → Option (Int × HP)} (hk19 : ∀ {ls : Array Slot} {H : Heap} {locs : List Loc} {S : HP} {x0 : Int} {x1 : Int} {x2 : Int} (hp : e_Pic D cA B S s H) (hS : va_S (e_A B) s.heap H locs) (hl : e_lo ls 7 [(0, e_rv B (x0)), (1, .int (iI (x1))), (2, .int (iI (x2)))]) (hsh : k19 S x0 x1 x2 = some res), W p l e ({ frames := 1, cells := 0, slots := 0, locals := 24 } : Room) s m args below meth c H locs 0 0 (MQ below (e_Qi D cA B res.1 res.2) args s 0 0 (e_A B)) (F0 m 19 ls [])) (E : e_En p s m args meth c cX13_makesFold RX13 7 (some .boolean)) {ls : Array Slot} {H : Heap} {locs : List Loc} {S : HP} {x0 : Int} {x2 : Int} {x3 : Int} {x4 : Int} {x5 : Int} (hp : e_Pic D cA B S s H) (hS : va_S (e_A B) s.heap H locs) (hl : e_lo ls 7 [(0, e_rv B (x0)), (2, .int (iI (x2))), (3, .int (iI (x3))), (4, .int (iI (x4))), (5, .int (iI (x5)))]) (hsh : s13_makesFold_b82 k19 S x0 x2 x3 x4 x5 = some res) : W p l e ({ frames := 1, cells := 0, slots := 0, locals := 24 } : Room) s m args below meth c H locs 0 0 (MQ below (e_Qi D cA B res.1 res.2) args s 0 0 (e_A B)) (F0 m 82 ls []) := by
  obtain ⟨hx, hb, hml, hown, hts, hlk, hrt⟩ := id E
  unfold s13_makesFold_b82 at hsh
  refine lv_iload_n hx hb dX13_makesFold_82 rfl (hl.at 2 rfl) ?_
  refine e_aload_n (B := B) (x := x0) hx hb dX13_makesFold_83 rfl (hl.at 0 rfl) ?_
  obtain ⟨v84, h84, hsh⟩ := Option.bind_eq_some_iff.mp hsh
  refine e_getI (k := 36) hx hb hts in_X13 hown hp h84 rfl (by decide) (by decide) rfl (hts _ kf13_398) rfl dX13_makesFold_84 ?_
  refine e_icmp_gt (tgt := 103) hx hb dX13_makesFold_87 (by decide) (fun c87 => ?_) (fun c87 => ?_)
  · rw [if_pos c87] at hsh
    exact w13_makesFold_b103 (hk19 := hk19) E hp hS (hl.sub [0, 1, 2, 3, 4] rfl) hsh
  · rw [if_neg c87] at hsh
    refine lv_iload hx hb dX13_makesFold_90 (hl.at 3 rfl) ?_
    refine e_aload_n (B := B) (x := x0) hx hb dX13_makesFold_92 rfl (hl.at 0 rfl) ?_
    obtain ⟨v93, h93, hsh⟩ := Option.bind_eq_some_iff.mp hsh
    refine e_getI (k := 38) hx hb hts in_X13 hown hp h93 rfl (by decide) (by decide) rfl (hts _ kf13_404) rfl dX13_makesFold_93 ?_
    refine e_icmp_lt (tgt := 103) hx hb dX13_makesFold_96 (by decide) (fun c96 => ?_) (fun c96 => ?_)
    · rw [if_pos c96] at hsh
      exact w13_makesFold_b103 (hk19 := hk19) E hp hS (hl.sub [0, 1, 2, 3, 4] rfl) hsh
    · rw [if_neg c96] at hsh
      exact w13_makesFold_b99 (hk19 := hk19) E hp hS (hl.sub [0, 1, 2, 3, 4] rfl) hsh
set_option maxRecDepth 100000 in
set_option maxHeartbeats 4000000 in
theorem w13_makesFold_b63 {p : Program} {l : Launch} {e : Env} {s : State} {m : MethodId} {args : Array Value} {below : List Frame} {meth : Method} {c : Code} {D : va_G} {cA : Nat → ClassId} {B : Nat} {res : Int × HP} {k19 : HP → Int → Int → Int → Option (Int × HP)} (hk19 : ∀ {ls : Array Slot} {H : Heap} {locs : List Loc} {S : HP} {x0 : Int} {x1 : Int} {x2 : Int} (hp : e_Pic D cA B S s H) (hS : va_S (e_A B) s.heap H locs) (hl : e_lo ls 7 [(0, e_rv B (x0)), (1, .int (iI (x1))), (2, .int (iI (x2)))]) (hsh : k19 S x0 x1 x2 = some res), W p l e ({ frames := 1, cells := 0, slots := 0, locals := 24 } : Room) s m args below meth c H locs 0 0 (MQ below (e_Qi D cA B res.1 res.2) args s 0 0 (e_A B)) (F0 m 19 ls [])) (E : e_En p s m args meth c cX13_makesFold RX13 7 (some .boolean)) {ls : Array Slot} {H : Heap} {locs : List Loc} {S : HP} {x0 : Int} {x2 : Int} {x3 : Int} {x4 : Int} {y0 : Int} (hp : e_Pic D cA B S s H) (hS : va_S (e_A B) s.heap H locs) (hl : e_lo ls 7 [(0, e_rv B (x0)), (2, .int (iI (x2))), (3, .int (iI (x3))), (4, .int (iI (x4)))]) (hsh : s13_makesFold_b63 k19 S x0 x2 x3 x4 y0 = some res) : W p l e ({ frames := 1, cells := 0, slots := 0, locals := 24 } : Room) s m args below meth c H locs 0 0 (MQ below (e_Qi D cA B res.1 res.2) args s 0 0 (e_A B)) (F0 m 63 ls [.int (iI (y0))]) := by
  obtain ⟨hx, hb, hml, hown, hts, hlk, hrt⟩ := id E
  unfold s13_makesFold_b63 at hsh
  refine e_istore (lv' := [(5, .int (iI (y0))), (0, e_rv B (x0)), (2, .int (iI (x2))), (3, .int (iI (x3))), (4, .int (iI (x4)))]) hx hb dX13_makesFold_63 hl (by decide) rfl (fun ls hl => ?_)
  refine lv_iload_n hx hb dX13_makesFold_65 rfl (hl.at 3 rfl) ?_
  refine e_aload_n (B := B) (x := x0) hx hb dX13_makesFold_66 rfl (hl.at 1 rfl) ?_
  obtain ⟨v67, h67, hsh⟩ := Option.bind_eq_some_iff.mp hsh
  refine e_getI (k := 36) hx hb hts in_X13 hown hp h67 rfl (by decide) (by decide) rfl (hts _ kf13_398) rfl dX13_makesFold_67 ?_
  refine e_icmp_lt (tgt := 82) hx hb dX13_makesFold_70 (by decide) (fun c70 => ?_) (fun c70 => ?_)
  · rw [if_pos c70] at hsh
    exact w13_makesFold_b82 (hk19 := hk19) E hp hS (hl.sub [1, 2, 3, 4, 0] rfl) hsh
  · rw [if_neg c70] at hsh
    refine lv_iload hx hb dX13_makesFold_73 (hl.at 4 rfl) ?_
    refine e_aload_n (B := B) (x := x0) hx hb dX13_makesFold_75 rfl (hl.at 1 rfl) ?_
    obtain ⟨v76, h76, hsh⟩ := Option.bind_eq_some_iff.mp hsh
    refine e_getI (k := 38) hx hb hts in_X13 hown hp h76 rfl (by decide) (by decide) rfl (hts _ kf13_404) rfl dX13_makesFold_76 ?_
    refine e_icmp_le (tgt := 99) hx hb dX13_makesFold_79 (by decide) (fun c79 => ?_) (fun c79 => ?_)
    · rw [if_pos c79] at hsh
      exact w13_makesFold_b99 (hk19 := hk19) E hp hS (hl.sub [1, 2, 3, 4, 0] rfl) hsh
    · rw [if_neg c79] at hsh
      exact w13_makesFold_b82 (hk19 := hk19) E hp hS (hl.sub [1, 2, 3, 4, 0] rfl) hsh
set_option maxRecDepth 100000 in
set_option maxHeartbeats 4000000 in
theorem w13_makesFold_b58 {p : Program} {l : Launch} {e : Env} {s : State} {m : MethodId} {args : Array Value} {below : List Frame} {meth : Method} {c : Code} {D : va_G} {cA : Nat → ClassId} {B : Nat} {res : Int × HP} {k19 : HP → Int → Int → Int → Option (Int × HP)} (hk19 : ∀ {ls : Array Slot} {H : Heap} {locs : List Loc} {S : HP} {x0 : Int} {x1 : Int} {x2 : Int} (hp : e_Pic D cA B S s H) (hS : va_S (e_A B) s.heap H locs) (hl : e_lo ls 7 [(0, e_rv B (x0)), (1, .int (iI (x1))), (2, .int (iI (x2)))]) (hsh : k19 S x0 x1 x2 = some res), W p l e ({ frames := 1, cells := 0, slots := 0, locals := 24 } : Room) s m args below meth c H locs 0 0 (MQ below (e_Qi D cA B res.1 res.2) args s 0 0 (e_A B)) (F0 m 19 ls [])) (E : e_En p s m args meth c cX13_makesFold RX13 7 (some .boolean)) {ls : Array Slot} {H : Heap} {locs : List Loc} {S : HP} {x0 : Int} {x2 : Int} {x3 : Int} {x4 : Int} (hp : e_Pic D cA B S s H) (hS : va_S (e_A B) s.heap H locs) (hl : e_lo ls 7 [(0, e_rv B (x0)), (2, .int (iI (x2))), (3, .int (iI (x3))), (4, .int (iI (x4)))]) (hsh : s13_makesFold_b58 k19 S x0 x2 x3 x4 = some res) : W p l e ({ frames := 1, cells := 0, slots := 0, locals := 24 } : Room) s m args below meth c H locs 0 0 (MQ below (e_Qi D cA B res.1 res.2) args s 0 0 (e_A B)) (F0 m 58 ls []) := by
  obtain ⟨hx, hb, hml, hown, hts, hlk, hrt⟩ := id E
  unfold s13_makesFold_b58 at hsh
  refine lv_iconst (v := iI (1)) hx hb dX13_makesFold_58 rfl ?_
  refine lv_goto (tgt := 63) hx hb dX13_makesFold_59 (by decide) ?_
  exact w13_makesFold_b63 (hk19 := hk19) E hp hS (hl.sub [0, 1, 2, 3] rfl) hsh
set_option maxRecDepth 100000 in
set_option maxHeartbeats 4000000 in
theorem w13_makesFold_l19 {p : Program} {l : Launch} {e : Env} {s : State} {m : MethodId} {args : Array Value} {below : List Frame} {meth : Method} {c : Code} {D : va_G} {cA : Nat → ClassId} {B : Nat} {res : Int × HP} (E : e_En p s m args meth c cX13_makesFold RX13 7 (some .boolean)) : ∀ (f : Nat) {ls : Array Slot} {H : Heap} {locs : List Loc} {S : HP} {x0 : Int} {x1 : Int} {x2 : Int} (hp : e_Pic D cA B S s H) (hS : va_S (e_A B) s.heap H locs) (hl : e_lo ls 7 [(0, e_rv B (x0)), (1, .int (iI (x1))), (2, .int (iI (x2)))]) (hsh : s13_makesFold_l19 f S x0 x1 x2 = some res), W p l e ({ frames := 1, cells := 0, slots := 0, locals := 24 } : Room) s m args below meth c H locs 0 0 (MQ below (e_Qi D cA B res.1 res.2) args s 0 0 (e_A B)) (F0 m 19 ls []) := by
  obtain ⟨hx, hb, hml, hown, hts, hlk, hrt⟩ := id E
  intro f
  induction f with
  | zero => intro ls H locs S x0 x1 x2 hp hS hl hsh; cases hsh
  | succ f ih =>
    intro ls H locs S x0 x1 x2 hp hS hl hsh
    have hk19 : ∀ {ls : Array Slot} {H : Heap} {locs : List Loc} {S : HP} {x0 : Int} {x1 : Int} {x2 : Int} (hp : e_Pic D cA B S s H) (hS : va_S (e_A B) s.heap H locs) (hl : e_lo ls 7 [(0, e_rv B (x0)), (1, .int (iI (x1))), (2, .int (iI (x2)))]) (hsh : (s13_makesFold_l19 f) S x0 x1 x2 = some res), W p l e ({ frames := 1, cells := 0, slots := 0, locals := 24 } : Room) s m args below meth c H locs 0 0 (MQ below (e_Qi D cA B res.1 res.2) args s 0 0 (e_A B)) (F0 m 19 ls []) := ih
    generalize hkk : s13_makesFold_l19 f = k19 at hk19
    rw [s13_makesFold_l19] at hsh
    rw [hkk] at hsh
    try dsimp only at hsh
    refine lv_iload_n hx hb dX13_makesFold_19 rfl (hl.at 2 rfl) ?_
    refine lv_sipush (v := iI (1600)) hx hb dX13_makesFold_20 (by decide +kernel) ?_
    refine e_icmp_ge (tgt := 161) hx hb dX13_makesFold_23 (by decide) (fun c23 => ?_) (fun c23 => ?_)
    · rw [if_pos c23] at hsh
      exact w13_makesFold_b161 E hp hS (hl.sub [0, 1] rfl) hsh
    · rw [if_neg c23] at hsh
      refine lv_iload_n hx hb dX13_makesFold_26 rfl (hl.at 1 rfl) ?_
      refine e_if_eq (tgt := 161) hx hb dX13_makesFold_27 (by decide) (fun c27 => ?_) (fun c27 => ?_)
      · rw [if_pos c27] at hsh
        exact w13_makesFold_b161 E hp hS (hl.sub [0, 1] rfl) hsh
      · rw [if_neg c27] at hsh
        refine lv_iload_n hx hb dX13_makesFold_30 rfl (hl.at 2 rfl) ?_
        refine lv_bipush (v := iI (40)) hx hb dX13_makesFold_31 (by decide +kernel) ?_
        obtain ⟨v33, h33, hsh⟩ := Option.bind_eq_some_iff.mp hsh
        refine e_idiv hx hb h33 dX13_makesFold_33 ?_
        refine e_istore_n (lv' := [(3, .int (iI (v33))), (0, e_rv B (x0)), (1, .int (iI (x1))), (2, .int (iI (x2)))]) hx hb dX13_makesFold_34 rfl hl (by decide) rfl (fun ls hl => ?_)
        refine lv_iload_n hx hb dX13_makesFold_35 rfl (hl.at 3 rfl) ?_
        refine lv_bipush (v := iI (40)) hx hb dX13_makesFold_36 (by decide +kernel) ?_
        obtain ⟨v38, h38, hsh⟩ := Option.bind_eq_some_iff.mp hsh
        refine e_irem hx hb h38 dX13_makesFold_38 ?_
        refine e_istore (lv' := [(4, .int (iI (v38))), (3, .int (iI (v33))), (0, e_rv B (x0)), (1, .int (iI (x1))), (2, .int (iI (x2)))]) hx hb dX13_makesFold_39 hl (by decide) rfl (fun ls hl => ?_)
        refine lv_iload hx hb dX13_makesFold_41 (hl.at 0 rfl) ?_
        refine e_aload_n (B := B) (x := x0) hx hb dX13_makesFold_43 rfl (hl.at 2 rfl) ?_
        obtain ⟨v44, h44, hsh⟩ := Option.bind_eq_some_iff.mp hsh
        refine e_getI (k := 36) hx hb hts in_X13 hown hp h44 rfl (by decide) (by decide) rfl (hts _ kf13_398) rfl dX13_makesFold_44 ?_
        refine e_icmp_lt (tgt := 58) hx hb dX13_makesFold_47 (by decide) (fun c47 => ?_) (fun c47 => ?_)
        · rw [if_pos c47] at hsh
          exact w13_makesFold_b58 (hk19 := hk19) E hp hS (hl.sub [2, 4, 1, 0] rfl) hsh
        · rw [if_neg c47] at hsh
          refine lv_iload_n hx hb dX13_makesFold_50 rfl (hl.at 1 rfl) ?_
          refine e_aload_n (B := B) (x := x0) hx hb dX13_makesFold_51 rfl (hl.at 2 rfl) ?_
          obtain ⟨v52, h52, hsh⟩ := Option.bind_eq_some_iff.mp hsh
          refine e_getI (k := 38) hx hb hts in_X13 hown hp h52 rfl (by decide) (by decide) rfl (hts _ kf13_404) rfl dX13_makesFold_52 ?_
          refine e_icmp_le (tgt := 62) hx hb dX13_makesFold_55 (by decide) (fun c55 => ?_) (fun c55 => ?_)
          · rw [if_pos c55] at hsh
            refine lv_iconst (v := iI (0)) hx hb dX13_makesFold_62 rfl ?_
            exact w13_makesFold_b63 (hk19 := hk19) E hp hS (hl.sub [2, 4, 1, 0] rfl) hsh
          · rw [if_neg c55] at hsh
            exact w13_makesFold_b58 (hk19 := hk19) E hp hS (hl.sub [2, 4, 1, 0] rfl) hsh
set_option maxRecDepth 100000 in
set_option maxHeartbeats 4000000 in
theorem w13_makesFold_b16 {p : Program} {l : Launch} {e : Env} {s : State} {m : MethodId} {args : Array Value} {below : List Frame} {meth : Method} {c : Code} {D : va_G} {cA : Nat → ClassId} {B : Nat} {res : Int × HP} (E : e_En p s m args meth c cX13_makesFold RX13 7 (some .boolean)) {ls : Array Slot} {H : Heap} {locs : List Loc} {S : HP} {x0 : Int} {y0 : Int} (hp : e_Pic D cA B S s H) (hS : va_S (e_A B) s.heap H locs) (hl : e_lo ls 7 [(0, e_rv B (x0))]) (hsh : s13_makesFold_b16 S x0 y0 = some res) : W p l e ({ frames := 1, cells := 0, slots := 0, locals := 24 } : Room) s m args below meth c H locs 0 0 (MQ below (e_Qi D cA B res.1 res.2) args s 0 0 (e_A B)) (F0 m 16 ls [.int (iI (y0))]) := by
  obtain ⟨hx, hb, hml, hown, hts, hlk, hrt⟩ := id E
  unfold s13_makesFold_b16 at hsh
  refine e_istore_n (lv' := [(1, .int (iI (y0))), (0, e_rv B (x0))]) hx hb dX13_makesFold_16 rfl hl (by decide) rfl (fun ls hl => ?_)
  refine lv_iconst (v := iI (0)) hx hb dX13_makesFold_17 rfl ?_
  refine e_istore_n (lv' := [(2, .int (iI (0))), (1, .int (iI (y0))), (0, e_rv B (x0))]) hx hb dX13_makesFold_18 rfl hl (by decide) rfl (fun ls hl => ?_)
  exact w13_makesFold_l19 E 1000000 hp hS (hl.sub [2, 1, 0] rfl) hsh
set_option maxRecDepth 100000 in
set_option maxHeartbeats 4000000 in
theorem c13_makesFold (l : Launch) (D : va_G) (cA : Nat → ClassId) (B : Nat) (S S' : HP) (x0 : Int) (r : Int) (hsh : s13_makesFold S x0 = some (r, S')) : Met l yX13_makesFold (e_wu yX13_makesFold cX13_makesFold 7 (some .boolean)) ({ frames := 1, cells := 0, slots := 0, locals := 24 } : Room) (va_Pc [e_rv B (x0)] (fun U => e_PU D cA B S U)) (e_Qi D cA B r S') 0 0 (e_A B) := by
  refine Met.ofW (cc := cX13_makesFold) (maxL := 7) (ret := (some .boolean)) (by decide +kernel) rfl ?_
  intro p e s m args below meth c s₁ Bd hml hv
  obtain ⟨rfl, hp⟩ := hv
  have hp : e_Pic D cA B S s s.heap := hp
  have hx := Bd.exec
  have hb := Bd.bytes
  have hrt := Bd.returns
  have hlk := Bd.notSynchronized
  have hown : s.vm.findClass RX13 = some m.cls := findClass_of_methodNamed Bd.named
  have hts : ∀ w ∈ e_tb, w.before ([e_rv B (x0)] : List Value).toArray s = true := fun w h => atoms_spec (ws := (e_wu yX13_makesFold cX13_makesFold 7 (some .boolean))) Bd.pre w (List.mem_cons_of_mem _ h)
  have E : e_En p s m ([e_rv B (x0)] : List Value).toArray meth c cX13_makesFold RX13 7 (some .boolean) := ⟨hx, hb, hml, hown, hts, hlk, hrt⟩
  have hS : va_S (e_A B) s.heap s.heap [] := va_S.rf
  have hl := e_entry (vs := [e_rv B (x0)]) (n := 7) (Nat.le_of_ble_eq_true rfl) (e_cc (e_rv_cat _ _) e_cn)
  rw [lg_entry_eq]
  generalize (lg_sl [e_rv B (x0)] ++ List.replicate (7 - (lg_sl [e_rv B (x0)]).length) Slot.unset).toArray = ls at hl ⊢
  generalize ([e_rv B (x0)] : List Value).toArray = args at hts E ⊢
  have hl : e_lo ls 7 [(0, e_rv B (x0))] := hl
  have hsh := (gd_some hsh).2
  refine e_aload_n (B := B) (x := x0) hx hb dX13_makesFold_0 rfl (hl.at 0 rfl) ?_
  obtain ⟨v1, h1, hsh⟩ := Option.bind_eq_some_iff.mp hsh
  refine e_getI (k := 38) hx hb hts in_X13 hown hp h1 rfl (by decide) (by decide) rfl (hts _ kf13_404) rfl dX13_makesFold_1 ?_
  refine e_aload_n (B := B) (x := x0) hx hb dX13_makesFold_4 rfl (hl.at 0 rfl) ?_
  obtain ⟨v5, h5, hsh⟩ := Option.bind_eq_some_iff.mp hsh
  refine e_getI (k := 36) hx hb hts in_X13 hown hp h5 rfl (by decide) (by decide) rfl (hts _ kf13_398) rfl dX13_makesFold_5 ?_
  refine e_icmp_le (tgt := 15) hx hb dX13_makesFold_8 (by decide) (fun c8 => ?_) (fun c8 => ?_)
  · rw [if_pos c8] at hsh
    refine lv_iconst (v := iI (0)) hx hb dX13_makesFold_15 rfl ?_
    exact w13_makesFold_b16 E hp hS (hl.sub [0] rfl) hsh
  · rw [if_neg c8] at hsh
    refine lv_iconst (v := iI (1)) hx hb dX13_makesFold_11 rfl ?_
    refine lv_goto (tgt := 16) hx hb dX13_makesFold_12 (by decide) ?_
    exact w13_makesFold_b16 E hp hS (hl.sub [0] rfl) hsh
theorem ok13_spansSeen {S : HP} {x0 : Int} {x1 : Int} {r : Int × HP} (h : s13_spansSeen S x0 x1 = some r) : 0 ≤ x0 ∧ x0.toNat < e_n S ∧ e_g S x0.toNat = 13 := (gd_some h).1
set_option maxRecDepth 100000 in
set_option maxHeartbeats 4000000 in
theorem w13_spansSeen_l7 {p : Program} {l : Launch} {e : Env} {s : State} {m : MethodId} {args : Array Value} {below : List Frame} {meth : Method} {c : Code} {D : va_G} {cA : Nat → ClassId} {B : Nat} {res : Int × HP} (E : e_En p s m args meth c cX13_spansSeen RX13 4 (some .boolean)) : ∀ (f : Nat) {ls : Array Slot} {H : Heap} {locs : List Loc} {S : HP} {x0 : Int} {x1 : Int} {x2 : Int} {x3 : Int} (hp : e_Pic D cA B S s H) (hS : va_S (e_A B) s.heap H locs) (hl : e_lo ls 4 [(0, e_rv B (x0)), (1, .int (iI (x1))), (2, .int (iI (x2))), (3, .int (iI (x3)))]) (hsh : s13_spansSeen_l7 f S x0 x1 x2 x3 = some res), W p l e ({ frames := 2, cells := 0, slots := 0, locals := 47 } : Room) s m args below meth c H locs 0 0 (MQ below (e_Qi D cA B res.1 res.2) args s 0 0 (e_A B)) (F0 m 7 ls []) := by
  obtain ⟨hx, hb, hml, hown, hts, hlk, hrt⟩ := id E
  intro f
  induction f with
  | zero => intro ls H locs S x0 x1 x2 x3 hp hS hl hsh; cases hsh
  | succ f ih =>
    intro ls H locs S x0 x1 x2 x3 hp hS hl hsh
    have hk7 : ∀ {ls : Array Slot} {H : Heap} {locs : List Loc} {S : HP} {x0 : Int} {x1 : Int} {x2 : Int} {x3 : Int} (hp : e_Pic D cA B S s H) (hS : va_S (e_A B) s.heap H locs) (hl : e_lo ls 4 [(0, e_rv B (x0)), (1, .int (iI (x1))), (2, .int (iI (x2))), (3, .int (iI (x3)))]) (hsh : (s13_spansSeen_l7 f) S x0 x1 x2 x3 = some res), W p l e ({ frames := 2, cells := 0, slots := 0, locals := 47 } : Room) s m args below meth c H locs 0 0 (MQ below (e_Qi D cA B res.1 res.2) args s 0 0 (e_A B)) (F0 m 7 ls []) := ih
    generalize hkk : s13_spansSeen_l7 f = k7 at hk7
    rw [s13_spansSeen_l7] at hsh
    rw [hkk] at hsh
    try dsimp only at hsh
    refine lv_iload_n hx hb dX13_spansSeen_7 rfl (hl.at 3 rfl) ?_
    refine lv_iload_n hx hb dX13_spansSeen_8 rfl (hl.at 1 rfl) ?_
    refine e_icmp_ge (tgt := 36) hx hb dX13_spansSeen_9 (by decide) (fun c9 => ?_) (fun c9 => ?_)
    · rw [if_pos c9] at hsh
      refine e_aload_n (B := B) (x := x0) hx hb dX13_spansSeen_36 rfl (hl.at 0 rfl) ?_
      refine e_aload_n (B := B) (x := x0) hx hb dX13_spansSeen_37 rfl (hl.at 0 rfl) ?_
      refine e_aload_n (B := B) (x := x0) hx hb dX13_spansSeen_38 rfl (hl.at 0 rfl) ?_
      obtain ⟨v39, h39, hsh⟩ := Option.bind_eq_some_iff.mp hsh
      refine e_getI (k := 5) hx hb hts in_X13 hown hp h39 rfl (by decide) (by decide) rfl (hts _ kf13_213) rfl dX13_spansSeen_39 ?_
      obtain ⟨⟨v42, S42⟩, h42, hsh⟩ := Option.bind_eq_some_iff.mp hsh
      have hsh : _ = _ := hsh
      try dsimp only at hsh
      have ok42 := ok13_firstSeen h42
      refine e_callI (nL := 4) (mc := 0) (ms := 0) (T := TX13) (N := 126) (As := [.int (iI (v39))]) (rest := [e_rv B (x0)]) hx hb hml hown hts hp hS hl.size ok42.1 ok42.2.1 ok42.2.2 rfl (by decide) (c13_firstSeen l D cA B S S42 (x0) (v39) v42 h42) rfl rfl kd13_firstSeen (kl13_346) ks13_firstSeen kv13_firstSeen ki13 kh13_firstSeen ⟨Nat.le_of_ble_eq_true rfl, Nat.le_of_ble_eq_true rfl⟩ rfl (by simp [e_rv_cat, e_int_cat]) ⟨Nat.le_refl _, Nat.le_refl _⟩ dX13_spansSeen_42 rfl (fun H locs hp hS => ?_)
      refine e_aload_n (B := B) (x := x0) hx hb dX13_spansSeen_45 rfl (hl.at 0 rfl) ?_
      refine lv_iload_n hx hb dX13_spansSeen_46 rfl (hl.at 2 rfl) ?_
      obtain ⟨⟨v47, S47⟩, h47, hsh⟩ := Option.bind_eq_some_iff.mp hsh
      have hsh : _ = _ := hsh
      try dsimp only at hsh
      have ok47 := ok13_lastSeen h47
      refine e_callI (nL := 4) (mc := 0) (ms := 0) (T := TX13) (N := 126) (As := [.int (iI (x2))]) (rest := [.int (iI (v42)), e_rv B (x0)]) hx hb hml hown hts hp hS hl.size ok47.1 ok47.2.1 ok47.2.2 rfl (by decide) (c13_lastSeen l D cA B S42 S47 (x0) (x2) v47 h47) rfl rfl kd13_lastSeen (kl13_343) ks13_lastSeen kv13_lastSeen ki13 kh13_lastSeen ⟨Nat.le_of_ble_eq_true rfl, Nat.le_of_ble_eq_true rfl⟩ rfl (by simp [e_rv_cat, e_int_cat]) ⟨Nat.le_refl _, Nat.le_refl _⟩ dX13_spansSeen_47 rfl (fun H locs hp hS => ?_)
      obtain ⟨S50, h50, hsh⟩ := Option.bind_eq_some_iff.mp hsh
      have ok50 := ok13_spansLines h50
      refine e_callV (nL := 4) (mc := 0) (ms := 0) (T := TX13) (N := 126) (As := [.int (iI (v42)), .int (iI (v47))]) (rest := []) hx hb hml hown hts hp hS hl.size ok50.1 ok50.2.1 ok50.2.2 rfl (by decide) (c13_spansLines l D cA B S47 S50 (x0) (v42) (v47) h50) rfl rfl kd13_spansLines (kl13_414) ks13_spansLines kv13_spansLines ki13 kh13_spansLines ⟨Nat.le_of_ble_eq_true rfl, Nat.le_of_ble_eq_true rfl⟩ rfl (by simp [e_rv_cat, e_int_cat]) ⟨Nat.le_refl _, Nat.le_refl _⟩ dX13_spansSeen_50 rfl (fun H locs hp hS => ?_)
      refine lv_iconst (v := iI (1)) hx hb dX13_spansSeen_53 rfl ?_
      obtain ⟨hz, hz1, hz2⟩ := zR_some hsh
      rw [← hz1, ← hz2]
      exact e_zret hx hb hrt hlk hp hS hz dX13_spansSeen_54
    · rw [if_neg c9] at hsh
      refine e_aload_n (B := B) (x := x0) hx hb dX13_spansSeen_12 rfl (hl.at 0 rfl) ?_
      refine lv_iload_n hx hb dX13_spansSeen_13 rfl (hl.at 2 rfl) ?_
      obtain ⟨⟨v14, S14⟩, h14, hsh⟩ := Option.bind_eq_some_iff.mp hsh
      have hsh : _ = _ := hsh
      try dsimp only at hsh
      have ok14 := ok13_lastSeen h14
      refine e_callI (nL := 4) (mc := 0) (ms := 0) (T := TX13) (N := 126) (As := [.int (iI (x2))]) (rest := []) hx hb hml hown hts hp hS hl.size ok14.1 ok14.2.1 ok14.2.2 rfl (by decide) (c13_lastSeen l D cA B S S14 (x0) (x2) v14 h14) rfl rfl kd13_lastSeen (kl13_343) ks13_lastSeen kv13_lastSeen ki13 kh13_lastSeen ⟨Nat.le_of_ble_eq_true rfl, Nat.le_of_ble_eq_true rfl⟩ rfl (by simp [e_rv_cat, e_int_cat]) ⟨Nat.le_refl _, Nat.le_refl _⟩ dX13_spansSeen_14 rfl (fun H locs hp hS => ?_)
      refine lv_iconst (v := iI (1)) hx hb dX13_spansSeen_17 rfl ?_
      refine e_iadd hx hb dX13_spansSeen_18 ?_
      refine e_istore_n (lv' := [(2, .int (iI ((v14 + 1)))), (0, e_rv B (x0)), (1, .int (iI (x1))), (3, .int (iI (x3)))]) hx hb dX13_spansSeen_19 rfl hl (by decide) rfl (fun ls hl => ?_)
      refine lv_iload_n hx hb dX13_spansSeen_20 rfl (hl.at 0 rfl) ?_
      refine e_aload_n (B := B) (x := x0) hx hb dX13_spansSeen_21 rfl (hl.at 1 rfl) ?_
      obtain ⟨v22, h22, hsh⟩ := Option.bind_eq_some_iff.mp hsh
      refine e_getI (k := 2) hx hb hts in_X13 hown hp h22 rfl (by decide) (by decide) rfl (hts _ kf13_13) rfl dX13_spansSeen_22 ?_
      refine e_icmp_lt (tgt := 30) hx hb dX13_spansSeen_25 (by decide) (fun c25 => ?_) (fun c25 => ?_)
      · rw [if_pos c25] at hsh
        refine e_iinc (n := 1) (x := x3) (lv' := [(3, .int (iI ((x3 + 1)))), (2, .int (iI ((v14 + 1)))), (0, e_rv B (x0)), (1, .int (iI (x1)))]) hx hb dX13_spansSeen_30 hl (k := 3) rfl (by decide) rfl (fun ls hl => ?_)
        refine lv_goto (tgt := 7) hx hb dX13_spansSeen_33 (by decide) ?_
        exact hk7 hp hS (hl.sub [2, 3, 1, 0] rfl) hsh
      · rw [if_neg c25] at hsh
        refine lv_iconst (v := iI (0)) hx hb dX13_spansSeen_28 rfl ?_
        obtain ⟨hz, hz1, hz2⟩ := zR_some hsh
        rw [← hz1, ← hz2]
        exact e_zret hx hb hrt hlk hp hS hz dX13_spansSeen_29
set_option maxRecDepth 100000 in
set_option maxHeartbeats 4000000 in
theorem c13_spansSeen (l : Launch) (D : va_G) (cA : Nat → ClassId) (B : Nat) (S S' : HP) (x0 : Int) (x1 : Int) (r : Int) (hsh : s13_spansSeen S x0 x1 = some (r, S')) : Met l yX13_spansSeen (e_wu yX13_spansSeen cX13_spansSeen 4 (some .boolean)) ({ frames := 2, cells := 0, slots := 0, locals := 47 } : Room) (va_Pc [e_rv B (x0), .int (iI (x1))] (fun U => e_PU D cA B S U)) (e_Qi D cA B r S') 0 0 (e_A B) := by
  refine Met.ofW (cc := cX13_spansSeen) (maxL := 4) (ret := (some .boolean)) (by decide +kernel) rfl ?_
  intro p e s m args below meth c s₁ Bd hml hv
  obtain ⟨rfl, hp⟩ := hv
  have hp : e_Pic D cA B S s s.heap := hp
  have hx := Bd.exec
  have hb := Bd.bytes
  have hrt := Bd.returns
  have hlk := Bd.notSynchronized
  have hown : s.vm.findClass RX13 = some m.cls := findClass_of_methodNamed Bd.named
  have hts : ∀ w ∈ e_tb, w.before ([e_rv B (x0), .int (iI (x1))] : List Value).toArray s = true := fun w h => atoms_spec (ws := (e_wu yX13_spansSeen cX13_spansSeen 4 (some .boolean))) Bd.pre w (List.mem_cons_of_mem _ h)
  have E : e_En p s m ([e_rv B (x0), .int (iI (x1))] : List Value).toArray meth c cX13_spansSeen RX13 4 (some .boolean) := ⟨hx, hb, hml, hown, hts, hlk, hrt⟩
  have hS : va_S (e_A B) s.heap s.heap [] := va_S.rf
  have hl := e_entry (vs := [e_rv B (x0), .int (iI (x1))]) (n := 4) (Nat.le_of_ble_eq_true rfl) (e_cc (e_rv_cat _ _) (e_cc rfl e_cn))
  rw [lg_entry_eq]
  generalize (lg_sl [e_rv B (x0), .int (iI (x1))] ++ List.replicate (4 - (lg_sl [e_rv B (x0), .int (iI (x1))]).length) Slot.unset).toArray = ls at hl ⊢
  generalize ([e_rv B (x0), .int (iI (x1))] : List Value).toArray = args at hts E ⊢
  have hl : e_lo ls 4 [(0, e_rv B (x0)), (1, .int (iI (x1)))] := hl
  have hsh := (gd_some hsh).2
  refine e_aload_n (B := B) (x := x0) hx hb dX13_spansSeen_0 rfl (hl.at 0 rfl) ?_
  obtain ⟨v1, h1, hsh⟩ := Option.bind_eq_some_iff.mp hsh
  refine e_getI (k := 5) hx hb hts in_X13 hown hp h1 rfl (by decide) (by decide) rfl (hts _ kf13_213) rfl dX13_spansSeen_1 ?_
  refine e_istore_n (lv' := [(2, .int (iI (v1))), (0, e_rv B (x0)), (1, .int (iI (x1)))]) hx hb dX13_spansSeen_4 rfl hl (by decide) rfl (fun ls hl => ?_)
  refine lv_iconst (v := iI (1)) hx hb dX13_spansSeen_5 rfl ?_
  refine e_istore_n (lv' := [(3, .int (iI (1))), (2, .int (iI (v1))), (0, e_rv B (x0)), (1, .int (iI (x1)))]) hx hb dX13_spansSeen_6 rfl hl (by decide) rfl (fun ls hl => ?_)
  exact w13_spansSeen_l7 E 1000000 hp hS (hl.sub [2, 3, 1, 0] rfl) hsh
theorem ok13_replaces {S : HP} {x0 : Int} {x1 : Int} {x2 : Int} {r : Int × HP} (h : s13_replaces S x0 x1 x2 = some r) : 0 ≤ x0 ∧ x0.toNat < e_n S ∧ e_g S x0.toNat = 13 := (gd_some h).1
set_option maxRecDepth 100000 in
set_option maxHeartbeats 4000000 in
theorem w13_replaces_l25 {p : Program} {l : Launch} {e : Env} {s : State} {m : MethodId} {args : Array Value} {below : List Frame} {meth : Method} {c : Code} {D : va_G} {cA : Nat → ClassId} {B : Nat} {res : Int × HP} (E : e_En p s m args meth c cX13_replaces RX13 4 (some .boolean)) : ∀ (f : Nat) {ls : Array Slot} {H : Heap} {locs : List Loc} {S : HP} {x0 : Int} {x1 : Int} {x2 : Int} {x3 : Int} (hp : e_Pic D cA B S s H) (hS : va_S (e_A B) s.heap H locs) (hl : e_lo ls 4 [(0, e_rv B (x0)), (1, .int (iI (x1))), (2, .int (iI (x2))), (3, .int (iI (x3)))]) (hsh : s13_replaces_l25 f S x0 x1 x2 x3 = some res), W p l e ({ frames := 1, cells := 0, slots := 0, locals := 22 } : Room) s m args below meth c H locs 0 0 (MQ below (e_Qi D cA B res.1 res.2) args s 0 0 (e_A B)) (F0 m 25 ls []) := by
  obtain ⟨hx, hb, hml, hown, hts, hlk, hrt⟩ := id E
  intro f
  induction f with
  | zero => intro ls H locs S x0 x1 x2 x3 hp hS hl hsh; cases hsh
  | succ f ih =>
    intro ls H locs S x0 x1 x2 x3 hp hS hl hsh
    have hk25 : ∀ {ls : Array Slot} {H : Heap} {locs : List Loc} {S : HP} {x0 : Int} {x1 : Int} {x2 : Int} {x3 : Int} (hp : e_Pic D cA B S s H) (hS : va_S (e_A B) s.heap H locs) (hl : e_lo ls 4 [(0, e_rv B (x0)), (1, .int (iI (x1))), (2, .int (iI (x2))), (3, .int (iI (x3)))]) (hsh : (s13_replaces_l25 f) S x0 x1 x2 x3 = some res), W p l e ({ frames := 1, cells := 0, slots := 0, locals := 22 } : Room) s m args below meth c H locs 0 0 (MQ below (e_Qi D cA B res.1 res.2) args s 0 0 (e_A B)) (F0 m 25 ls []) := ih
    generalize hkk : s13_replaces_l25 f = k25 at hk25
    rw [s13_replaces_l25] at hsh
    rw [hkk] at hsh
    try dsimp only at hsh
    refine lv_iload_n hx hb dX13_replaces_25 rfl (hl.at 3 rfl) ?_
    refine e_aload_n (B := B) (x := x0) hx hb dX13_replaces_26 rfl (hl.at 0 rfl) ?_
    obtain ⟨v27, h27, hsh⟩ := Option.bind_eq_some_iff.mp hsh
    refine e_getI (k := 6) hx hb hts in_X13 hown hp h27 rfl (by decide) (by decide) rfl (hts _ kf13_216) rfl dX13_replaces_27 ?_
    refine lv_iload_n hx hb dX13_replaces_30 rfl (hl.at 2 rfl) ?_
    refine e_iadd hx hb dX13_replaces_31 ?_
    refine e_icmp_ge (tgt := 56) hx hb dX13_replaces_32 (by decide) (fun c32 => ?_) (fun c32 => ?_)
    · rw [if_pos c32] at hsh
      refine e_aload_n (B := B) (x := x0) hx hb dX13_replaces_56 rfl (hl.at 0 rfl) ?_
      refine e_aload_n (B := B) (x := x0) hx hb dX13_replaces_57 rfl (hl.at 0 rfl) ?_
      obtain ⟨v58, h58, hsh⟩ := Option.bind_eq_some_iff.mp hsh
      refine e_getI (k := 5) hx hb hts in_X13 hown hp h58 rfl (by decide) (by decide) rfl (hts _ kf13_213) rfl dX13_replaces_58 ?_
      refine e_aload_n (B := B) (x := x0) hx hb dX13_replaces_61 rfl (hl.at 0 rfl) ?_
      obtain ⟨v62, h62, hsh⟩ := Option.bind_eq_some_iff.mp hsh
      refine e_getI (k := 6) hx hb hts in_X13 hown hp h62 rfl (by decide) (by decide) rfl (hts _ kf13_216) rfl dX13_replaces_62 ?_
      refine lv_iload_n hx hb dX13_replaces_65 rfl (hl.at 2 rfl) ?_
      refine e_iadd hx hb dX13_replaces_66 ?_
      refine lv_iconst (v := iI (1)) hx hb dX13_replaces_67 rfl ?_
      refine e_isub hx hb dX13_replaces_68 ?_
      obtain ⟨S69, h69, hsh⟩ := Option.bind_eq_some_iff.mp hsh
      have ok69 := ok13_goes h69
      refine e_callV (nL := 4) (mc := 0) (ms := 0) (T := TX13) (N := 126) (As := [.int (iI (v58)), .int (iI (((v62 + x2) - 1)))]) (rest := []) hx hb hml hown hts hp hS hl.size ok69.1 ok69.2.1 ok69.2.2 rfl (by decide) (c13_goes l D cA B S S69 (x0) (v58) (((v62 + x2) - 1)) h69) rfl rfl kd13_goes (kl13_226) ks13_goes kv13_goes ki13 kh13_goes ⟨Nat.le_of_ble_eq_true rfl, Nat.le_of_ble_eq_true rfl⟩ rfl (by simp [e_rv_cat, e_int_cat]) ⟨Nat.le_refl _, Nat.le_refl _⟩ dX13_replaces_69 rfl (fun H locs hp hS => ?_)
      refine lv_iconst (v := iI (1)) hx hb dX13_replaces_72 rfl ?_
      obtain ⟨hz, hz1, hz2⟩ := zR_some hsh
      rw [← hz1, ← hz2]
      exact e_zret hx hb hrt hlk hp hS hz dX13_replaces_73
    · rw [if_neg c32] at hsh
      refine e_aload_n (B := B) (x := x0) hx hb dX13_replaces_35 rfl (hl.at 0 rfl) ?_
      obtain ⟨v36, h36, hsh⟩ := Option.bind_eq_some_iff.mp hsh
      refine e_getR (k := 4) hx hb hts in_X13 hown hp h36 rfl (by decide) (by decide) rfl (hts _ kf13_20) rfl dX13_replaces_36 ?_
      refine lv_bipush (v := iI (60)) hx hb dX13_replaces_39 (by decide +kernel) ?_
      refine e_aload_n (B := B) (x := x0) hx hb dX13_replaces_41 rfl (hl.at 0 rfl) ?_
      obtain ⟨v42, h42, hsh⟩ := Option.bind_eq_some_iff.mp hsh
      refine e_getI (k := 5) hx hb hts in_X13 hown hp h42 rfl (by decide) (by decide) rfl (hts _ kf13_213) rfl dX13_replaces_42 ?_
      refine e_imul hx hb dX13_replaces_45 ?_
      refine lv_iload_n hx hb dX13_replaces_46 rfl (hl.at 3 rfl) ?_
      refine e_iadd hx hb dX13_replaces_47 ?_
      refine lv_iload_n hx hb dX13_replaces_48 rfl (hl.at 1 rfl) ?_
      obtain ⟨S49, h49, hsh⟩ := Option.bind_eq_some_iff.mp hsh
      refine e_iast hx hb hp hS h49 dX13_replaces_49 (fun H locs hp hS => ?_)
      refine e_iinc (n := 1) (x := x3) (lv' := [(3, .int (iI ((x3 + 1)))), (0, e_rv B (x0)), (1, .int (iI (x1))), (2, .int (iI (x2)))]) hx hb dX13_replaces_50 hl (k := 3) rfl (by decide) rfl (fun ls hl => ?_)
      refine lv_goto (tgt := 25) hx hb dX13_replaces_53 (by decide) ?_
      exact hk25 hp hS (hl.sub [1, 2, 3, 0] rfl) hsh
set_option maxRecDepth 100000 in
set_option maxHeartbeats 4000000 in
theorem c13_replaces (l : Launch) (D : va_G) (cA : Nat → ClassId) (B : Nat) (S S' : HP) (x0 : Int) (x1 : Int) (x2 : Int) (r : Int) (hsh : s13_replaces S x0 x1 x2 = some (r, S')) : Met l yX13_replaces (e_wu yX13_replaces cX13_replaces 4 (some .boolean)) ({ frames := 1, cells := 0, slots := 0, locals := 22 } : Room) (va_Pc [e_rv B (x0), .int (iI (x1)), .int (iI (x2))] (fun U => e_PU D cA B S U)) (e_Qi D cA B r S') 0 0 (e_A B) := by
  refine Met.ofW (cc := cX13_replaces) (maxL := 4) (ret := (some .boolean)) (by decide +kernel) rfl ?_
  intro p e s m args below meth c s₁ Bd hml hv
  obtain ⟨rfl, hp⟩ := hv
  have hp : e_Pic D cA B S s s.heap := hp
  have hx := Bd.exec
  have hb := Bd.bytes
  have hrt := Bd.returns
  have hlk := Bd.notSynchronized
  have hown : s.vm.findClass RX13 = some m.cls := findClass_of_methodNamed Bd.named
  have hts : ∀ w ∈ e_tb, w.before ([e_rv B (x0), .int (iI (x1)), .int (iI (x2))] : List Value).toArray s = true := fun w h => atoms_spec (ws := (e_wu yX13_replaces cX13_replaces 4 (some .boolean))) Bd.pre w (List.mem_cons_of_mem _ h)
  have E : e_En p s m ([e_rv B (x0), .int (iI (x1)), .int (iI (x2))] : List Value).toArray meth c cX13_replaces RX13 4 (some .boolean) := ⟨hx, hb, hml, hown, hts, hlk, hrt⟩
  have hS : va_S (e_A B) s.heap s.heap [] := va_S.rf
  have hl := e_entry (vs := [e_rv B (x0), .int (iI (x1)), .int (iI (x2))]) (n := 4) (Nat.le_of_ble_eq_true rfl) (e_cc (e_rv_cat _ _) (e_cc rfl (e_cc rfl e_cn)))
  rw [lg_entry_eq]
  generalize (lg_sl [e_rv B (x0), .int (iI (x1)), .int (iI (x2))] ++ List.replicate (4 - (lg_sl [e_rv B (x0), .int (iI (x1)), .int (iI (x2))]).length) Slot.unset).toArray = ls at hl ⊢
  generalize ([e_rv B (x0), .int (iI (x1)), .int (iI (x2))] : List Value).toArray = args at hts E ⊢
  have hl : e_lo ls 4 [(0, e_rv B (x0)), (1, .int (iI (x1))), (2, .int (iI (x2)))] := hl
  have hsh := (gd_some hsh).2
  refine e_aload_n (B := B) (x := x0) hx hb dX13_replaces_0 rfl (hl.at 0 rfl) ?_
  obtain ⟨v1, h1, hsh⟩ := Option.bind_eq_some_iff.mp hsh
  refine e_getI (k := 6) hx hb hts in_X13 hown hp h1 rfl (by decide) (by decide) rfl (hts _ kf13_216) rfl dX13_replaces_1 ?_
  refine lv_iload_n hx hb dX13_replaces_4 rfl (hl.at 2 rfl) ?_
  refine e_iadd hx hb dX13_replaces_5 ?_
  refine e_aload_n (B := B) (x := x0) hx hb dX13_replaces_6 rfl (hl.at 0 rfl) ?_
  obtain ⟨v7, h7, hsh⟩ := Option.bind_eq_some_iff.mp hsh
  refine e_getR (k := 3) hx hb hts in_X13 hown hp h7 rfl (by decide) (by decide) rfl (hts _ kf13_17) rfl dX13_replaces_7 ?_
  refine e_aload_n (B := B) (x := x0) hx hb dX13_replaces_10 rfl (hl.at 0 rfl) ?_
  obtain ⟨v11, h11, hsh⟩ := Option.bind_eq_some_iff.mp hsh
  refine e_getI (k := 5) hx hb hts in_X13 hown hp h11 rfl (by decide) (by decide) rfl (hts _ kf13_213) rfl dX13_replaces_11 ?_
  obtain ⟨v14, h14, hsh⟩ := Option.bind_eq_some_iff.mp hsh
  refine e_iald hx hb hp h14 dX13_replaces_14 ?_
  refine e_icmp_le (tgt := 20) hx hb dX13_replaces_15 (by decide) (fun c15 => ?_) (fun c15 => ?_)
  · rw [if_pos c15] at hsh
    refine e_aload_n (B := B) (x := x0) hx hb dX13_replaces_20 rfl (hl.at 0 rfl) ?_
    obtain ⟨v21, h21, hsh⟩ := Option.bind_eq_some_iff.mp hsh
    refine e_getI (k := 6) hx hb hts in_X13 hown hp h21 rfl (by decide) (by decide) rfl (hts _ kf13_216) rfl dX13_replaces_21 ?_
    refine e_istore_n (lv' := [(3, .int (iI (v21))), (0, e_rv B (x0)), (1, .int (iI (x1))), (2, .int (iI (x2)))]) hx hb dX13_replaces_24 rfl hl (by decide) rfl (fun ls hl => ?_)
    exact w13_replaces_l25 E 1000000 hp hS (hl.sub [1, 2, 3, 0] rfl) hsh
  · rw [if_neg c15] at hsh
    refine lv_iconst (v := iI (0)) hx hb dX13_replaces_18 rfl ?_
    obtain ⟨hz, hz1, hz2⟩ := zR_some hsh
    rw [← hz1, ← hz2]
    exact e_zret hx hb hrt hlk hp hS hz dX13_replaces_19
theorem ok13_turnsSigns {S : HP} {x0 : Int} {x1 : Int} {r : Int × HP} (h : s13_turnsSigns S x0 x1 = some r) : 0 ≤ x0 ∧ x0.toNat < e_n S ∧ e_g S x0.toNat = 13 := (gd_some h).1
set_option maxRecDepth 100000 in
set_option maxHeartbeats 4000000 in
theorem c13_turnsSigns (l : Launch) (D : va_G) (cA : Nat → ClassId) (B : Nat) (S S' : HP) (x0 : Int) (x1 : Int) (r : Int) (hsh : s13_turnsSigns S x0 x1 = some (r, S')) : Met l yX13_turnsSigns (e_wu yX13_turnsSigns cX13_turnsSigns 3 (some .boolean)) ({ frames := 2, cells := 0, slots := 0, locals := 46 } : Room) (va_Pc [e_rv B (x0), .int (iI (x1))] (fun U => e_PU D cA B S U)) (e_Qi D cA B r S') 0 0 (e_A B) := by
  refine Met.ofW (cc := cX13_turnsSigns) (maxL := 3) (ret := (some .boolean)) (by decide +kernel) rfl ?_
  intro p e s m args below meth c s₁ Bd hml hv
  obtain ⟨rfl, hp⟩ := hv
  have hp : e_Pic D cA B S s s.heap := hp
  have hx := Bd.exec
  have hb := Bd.bytes
  have hrt := Bd.returns
  have hlk := Bd.notSynchronized
  have hown : s.vm.findClass RX13 = some m.cls := findClass_of_methodNamed Bd.named
  have hts : ∀ w ∈ e_tb, w.before ([e_rv B (x0), .int (iI (x1))] : List Value).toArray s = true := fun w h => atoms_spec (ws := (e_wu yX13_turnsSigns cX13_turnsSigns 3 (some .boolean))) Bd.pre w (List.mem_cons_of_mem _ h)
  have E : e_En p s m ([e_rv B (x0), .int (iI (x1))] : List Value).toArray meth c cX13_turnsSigns RX13 3 (some .boolean) := ⟨hx, hb, hml, hown, hts, hlk, hrt⟩
  have hS : va_S (e_A B) s.heap s.heap [] := va_S.rf
  have hl := e_entry (vs := [e_rv B (x0), .int (iI (x1))]) (n := 3) (Nat.le_of_ble_eq_true rfl) (e_cc (e_rv_cat _ _) (e_cc rfl e_cn))
  rw [lg_entry_eq]
  generalize (lg_sl [e_rv B (x0), .int (iI (x1))] ++ List.replicate (3 - (lg_sl [e_rv B (x0), .int (iI (x1))]).length) Slot.unset).toArray = ls at hl ⊢
  generalize ([e_rv B (x0), .int (iI (x1))] : List Value).toArray = args at hts E ⊢
  have hl : e_lo ls 3 [(0, e_rv B (x0)), (1, .int (iI (x1)))] := hl
  have hsh := (gd_some hsh).2
  refine e_aload_n (B := B) (x := x0) hx hb dX13_turnsSigns_0 rfl (hl.at 0 rfl) ?_
  obtain ⟨v1, h1, hsh⟩ := Option.bind_eq_some_iff.mp hsh
  refine e_getR (k := 3) hx hb hts in_X13 hown hp h1 rfl (by decide) (by decide) rfl (hts _ kf13_17) rfl dX13_turnsSigns_1 ?_
  refine e_aload_n (B := B) (x := x0) hx hb dX13_turnsSigns_4 rfl (hl.at 0 rfl) ?_
  obtain ⟨v5, h5, hsh⟩ := Option.bind_eq_some_iff.mp hsh
  refine e_getI (k := 5) hx hb hts in_X13 hown hp h5 rfl (by decide) (by decide) rfl (hts _ kf13_213) rfl dX13_turnsSigns_5 ?_
  obtain ⟨v8, h8, hsh⟩ := Option.bind_eq_some_iff.mp hsh
  refine e_iald hx hb hp h8 dX13_turnsSigns_8 ?_
  refine e_if_ne (tgt := 14) hx hb dX13_turnsSigns_9 (by decide) (fun c9 => ?_) (fun c9 => ?_)
  · rw [if_neg c9] at hsh
    refine e_aload_n (B := B) (x := x0) hx hb dX13_turnsSigns_14 rfl (hl.at 0 rfl) ?_
    obtain ⟨v15, h15, hsh⟩ := Option.bind_eq_some_iff.mp hsh
    refine e_getI (k := 6) hx hb hts in_X13 hown hp h15 rfl (by decide) (by decide) rfl (hts _ kf13_216) rfl dX13_turnsSigns_15 ?_
    refine lv_iload_n hx hb dX13_turnsSigns_18 rfl (hl.at 1 rfl) ?_
    refine e_iadd hx hb dX13_turnsSigns_19 ?_
    refine e_aload_n (B := B) (x := x0) hx hb dX13_turnsSigns_20 rfl (hl.at 0 rfl) ?_
    obtain ⟨v21, h21, hsh⟩ := Option.bind_eq_some_iff.mp hsh
    refine e_getR (k := 3) hx hb hts in_X13 hown hp h21 rfl (by decide) (by decide) rfl (hts _ kf13_17) rfl dX13_turnsSigns_21 ?_
    refine e_aload_n (B := B) (x := x0) hx hb dX13_turnsSigns_24 rfl (hl.at 0 rfl) ?_
    obtain ⟨v25, h25, hsh⟩ := Option.bind_eq_some_iff.mp hsh
    refine e_getI (k := 5) hx hb hts in_X13 hown hp h25 rfl (by decide) (by decide) rfl (hts _ kf13_213) rfl dX13_turnsSigns_25 ?_
    obtain ⟨v28, h28, hsh⟩ := Option.bind_eq_some_iff.mp hsh
    refine e_iald hx hb hp h28 dX13_turnsSigns_28 ?_
    obtain ⟨⟨v29, S29⟩, h29, hsh⟩ := Option.bind_eq_some_iff.mp hsh
    have hsh : _ = _ := hsh
    try dsimp only at hsh
    refine e_callS (nL := 3) (mc := 0) (ms := 0) (As := [.int (iI ((v15 + x1))), .int (iI (v28))]) (rest := []) hx hb hml hown hts hp hS hl.size (c13_lesser l D cA B S S29 ((v15 + x1)) (v28) v29 h29) rfl rfl kd13_lesser (kl13_257) ks13_lesser ki13 kh13_lesser ⟨Nat.le_of_ble_eq_true rfl, Nat.le_of_ble_eq_true rfl⟩ rfl (by simp [e_rv_cat, e_int_cat]) ⟨Nat.le_refl _, Nat.le_refl _⟩ dX13_turnsSigns_29 rfl (fun H locs hp hS => ?_)
    refine e_istore_n (lv' := [(2, .int (iI (v29))), (0, e_rv B (x0)), (1, .int (iI (x1)))]) hx hb dX13_turnsSigns_32 rfl hl (by decide) rfl (fun ls hl => ?_)
    refine e_aload_n (B := B) (x := x0) hx hb dX13_turnsSigns_33 rfl (hl.at 1 rfl) ?_
    refine e_aload_n (B := B) (x := x0) hx hb dX13_turnsSigns_34 rfl (hl.at 1 rfl) ?_
    obtain ⟨v35, h35, hsh⟩ := Option.bind_eq_some_iff.mp hsh
    refine e_getI (k := 5) hx hb hts in_X13 hown hp h35 rfl (by decide) (by decide) rfl (hts _ kf13_213) rfl dX13_turnsSigns_35 ?_
    refine e_aload_n (B := B) (x := x0) hx hb dX13_turnsSigns_38 rfl (hl.at 1 rfl) ?_
    obtain ⟨v39, h39, hsh⟩ := Option.bind_eq_some_iff.mp hsh
    refine e_getI (k := 6) hx hb hts in_X13 hown hp h39 rfl (by decide) (by decide) rfl (hts _ kf13_216) rfl dX13_turnsSigns_39 ?_
    refine lv_iload_n hx hb dX13_turnsSigns_42 rfl (hl.at 0 rfl) ?_
    obtain ⟨S43, h43, hsh⟩ := Option.bind_eq_some_iff.mp hsh
    have ok43 := ok13_turnsCase h43
    refine e_callV (nL := 3) (mc := 0) (ms := 0) (T := TX13) (N := 126) (As := [.int (iI (v35)), .int (iI (v39)), .int (iI (v29))]) (rest := []) hx hb hml hown hts hp hS hl.size ok43.1 ok43.2.1 ok43.2.2 rfl (by decide) (c13_turnsCase l D cA B S29 S43 (x0) (v35) (v39) (v29) h43) rfl rfl kd13_turnsCase (kl13_523) ks13_turnsCase kv13_turnsCase ki13 kh13_turnsCase ⟨Nat.le_of_ble_eq_true rfl, Nat.le_of_ble_eq_true rfl⟩ rfl (by simp [e_rv_cat, e_int_cat]) ⟨Nat.le_refl _, Nat.le_refl _⟩ dX13_turnsSigns_43 rfl (fun H locs hp hS => ?_)
    refine e_aload_n (B := B) (x := x0) hx hb dX13_turnsSigns_46 rfl (hl.at 1 rfl) ?_
    refine e_aload_n (B := B) (x := x0) hx hb dX13_turnsSigns_47 rfl (hl.at 1 rfl) ?_
    obtain ⟨v48, h48, hsh⟩ := Option.bind_eq_some_iff.mp hsh
    refine e_getI (k := 5) hx hb hts in_X13 hown hp h48 rfl (by decide) (by decide) rfl (hts _ kf13_213) rfl dX13_turnsSigns_48 ?_
    refine lv_iload_n hx hb dX13_turnsSigns_51 rfl (hl.at 0 rfl) ?_
    obtain ⟨S52, h52, hsh⟩ := Option.bind_eq_some_iff.mp hsh
    have ok52 := ok13_goesNear h52
    refine e_callV (nL := 3) (mc := 0) (ms := 0) (T := TX13) (N := 126) (As := [.int (iI (v48)), .int (iI (v29))]) (rest := []) hx hb hml hown hts hp hS hl.size ok52.1 ok52.2.1 ok52.2.2 rfl (by decide) (c13_goesNear l D cA B S43 S52 (x0) (v48) (v29) h52) rfl rfl kd13_goesNear (kl13_510) ks13_goesNear kv13_goesNear ki13 kh13_goesNear ⟨Nat.le_of_ble_eq_true rfl, Nat.le_of_ble_eq_true rfl⟩ rfl (by simp [e_rv_cat, e_int_cat]) ⟨Nat.le_refl _, Nat.le_refl _⟩ dX13_turnsSigns_52 rfl (fun H locs hp hS => ?_)
    refine lv_iconst (v := iI (1)) hx hb dX13_turnsSigns_55 rfl ?_
    obtain ⟨hz, hz1, hz2⟩ := zR_some hsh
    rw [← hz1, ← hz2]
    exact e_zret hx hb hrt hlk hp hS hz dX13_turnsSigns_56
  · rw [if_pos c9] at hsh
    refine lv_iconst (v := iI (0)) hx hb dX13_turnsSigns_12 rfl ?_
    obtain ⟨hz, hz1, hz2⟩ := zR_some hsh
    rw [← hz1, ← hz2]
    exact e_zret hx hb hrt hlk hp hS hz dX13_turnsSigns_13
theorem ok13_repeats {S : HP} {x0 : Int} {x1 : Int} {x2 : Int} {r : Int × HP} (h : s13_repeats S x0 x1 x2 = some r) : 0 ≤ x0 ∧ x0.toNat < e_n S ∧ e_g S x0.toNat = 13 := (gd_some h).1
set_option maxRecDepth 100000 in
set_option maxHeartbeats 4000000 in
theorem w13_repeats_l14 {p : Program} {l : Launch} {e : Env} {s : State} {m : MethodId} {args : Array Value} {below : List Frame} {meth : Method} {c : Code} {D : va_G} {cA : Nat → ClassId} {B : Nat} {res : Int × HP} {k5 : HP → Int → Int → Int → Int → Int → Option (Int × HP)} (hk5 : ∀ {ls : Array Slot} {H : Heap} {locs : List Loc} {S : HP} {x0 : Int} {x1 : Int} {x2 : Int} {x3 : Int} {x4 : Int} (hp : e_Pic D cA B S s H) (hS : va_S (e_A B) s.heap H locs) (hl : e_lo ls 6 [(0, e_rv B (x0)), (1, .int (iI (x1))), (2, .int (iI (x2))), (3, .int (iI (x3))), (4, .int (iI (x4)))]) (hsh : k5 S x0 x1 x2 x3 x4 = some res), W p l e ({ frames := 0, cells := 0, slots := 0, locals := 0 } : Room) s m args below meth c H locs 0 0 (MQ below (e_Qi D cA B res.1 res.2) args s 0 0 (e_A B)) (F0 m 5 ls [])) (E : e_En p s m args meth c cX13_repeats RX13 6 (some .int)) : ∀ (f : Nat) {ls : Array Slot} {H : Heap} {locs : List Loc} {S : HP} {x0 : Int} {x1 : Int} {x2 : Int} {x3 : Int} {x4 : Int} {x5 : Int} (hp : e_Pic D cA B S s H) (hS : va_S (e_A B) s.heap H locs) (hl : e_lo ls 6 [(0, e_rv B (x0)), (1, .int (iI (x1))), (2, .int (iI (x2))), (3, .int (iI (x3))), (4, .int (iI (x4))), (5, .int (iI (x5)))]) (hsh : s13_repeats_l14 k5 f S x0 x1 x2 x3 x4 x5 = some res), W p l e ({ frames := 0, cells := 0, slots := 0, locals := 0 } : Room) s m args below meth c H locs 0 0 (MQ below (e_Qi D cA B res.1 res.2) args s 0 0 (e_A B)) (F0 m 14 ls []) := by
  obtain ⟨hx, hb, hml, hown, hts, hlk, hrt⟩ := id E
  intro f
  induction f with
  | zero => intro ls H locs S x0 x1 x2 x3 x4 x5 hp hS hl hsh; cases hsh
  | succ f ih =>
    intro ls H locs S x0 x1 x2 x3 x4 x5 hp hS hl hsh
    have hk14 : ∀ {ls : Array Slot} {H : Heap} {locs : List Loc} {S : HP} {x0 : Int} {x1 : Int} {x2 : Int} {x3 : Int} {x4 : Int} {x5 : Int} (hp : e_Pic D cA B S s H) (hS : va_S (e_A B) s.heap H locs) (hl : e_lo ls 6 [(0, e_rv B (x0)), (1, .int (iI (x1))), (2, .int (iI (x2))), (3, .int (iI (x3))), (4, .int (iI (x4))), (5, .int (iI (x5)))]) (hsh : (s13_repeats_l14 k5 f) S x0 x1 x2 x3 x4 x5 = some res), W p l e ({ frames := 0, cells := 0, slots := 0, locals := 0 } : Room) s m args below meth c H locs 0 0 (MQ below (e_Qi D cA B res.1 res.2) args s 0 0 (e_A B)) (F0 m 14 ls []) := ih
    generalize hkk : s13_repeats_l14 k5 f = k14 at hk14
    rw [s13_repeats_l14] at hsh
    rw [hkk] at hsh
    try dsimp only at hsh
    refine lv_iload hx hb dX13_repeats_14 (hl.at 5 rfl) ?_
    refine e_aload_n (B := B) (x := x0) hx hb dX13_repeats_16 rfl (hl.at 0 rfl) ?_
    obtain ⟨v17, h17, hsh⟩ := Option.bind_eq_some_iff.mp hsh
    refine e_getR (k := 12) hx hb hts in_X13 hown hp h17 rfl (by decide) (by decide) rfl (hts _ kf13_26) rfl dX13_repeats_17 ?_
    refine lv_iload_n hx hb dX13_repeats_20 rfl (hl.at 1 rfl) ?_
    obtain ⟨v21, h21, hsh⟩ := Option.bind_eq_some_iff.mp hsh
    refine e_iald hx hb hp h21 dX13_repeats_21 ?_
    refine e_icmp_ge (tgt := 62) hx hb dX13_repeats_22 (by decide) (fun c22 => ?_) (fun c22 => ?_)
    · rw [if_pos c22] at hsh
      refine e_iinc (n := 1) (x := x4) (lv' := [(4, .int (iI ((x4 + 1)))), (0, e_rv B (x0)), (1, .int (iI (x1))), (2, .int (iI (x2))), (3, .int (iI (x3))), (5, .int (iI (x5)))]) hx hb dX13_repeats_62 hl (k := 4) rfl (by decide) rfl (fun ls hl => ?_)
      refine lv_goto (tgt := 5) hx hb dX13_repeats_65 (by decide) ?_
      exact hk5 hp hS (hl.sub [1, 2, 3, 4, 0] rfl) hsh
    · rw [if_neg c22] at hsh
      refine lv_iload_n hx hb dX13_repeats_25 rfl (hl.at 3 rfl) ?_
      refine lv_sipush (v := iI (2600)) hx hb dX13_repeats_26 (by decide +kernel) ?_
      refine e_icmp_ne (tgt := 34) hx hb dX13_repeats_29 (by decide) (fun c29 => ?_) (fun c29 => ?_)
      · rw [if_neg c29] at hsh
        refine e_aload_n (B := B) (x := x0) hx hb dX13_repeats_34 rfl (hl.at 0 rfl) ?_
        obtain ⟨v35, h35, hsh⟩ := Option.bind_eq_some_iff.mp hsh
        refine e_getR (k := 42) hx hb hts in_X13 hown hp h35 rfl (by decide) (by decide) rfl (hts _ kf13_83) rfl dX13_repeats_35 ?_
        refine lv_iload_n hx hb dX13_repeats_38 rfl (hl.at 3 rfl) ?_
        refine e_aload_n (B := B) (x := x0) hx hb dX13_repeats_39 rfl (hl.at 0 rfl) ?_
        obtain ⟨v40, h40, hsh⟩ := Option.bind_eq_some_iff.mp hsh
        refine e_getR (k := 13) hx hb hts in_X13 hown hp h40 rfl (by decide) (by decide) rfl (hts _ kf13_30) rfl dX13_repeats_40 ?_
        refine lv_sipush (v := iI (3000)) hx hb dX13_repeats_43 (by decide +kernel) ?_
        refine lv_iload_n hx hb dX13_repeats_46 rfl (hl.at 1 rfl) ?_
        refine e_imul hx hb dX13_repeats_47 ?_
        refine lv_iload hx hb dX13_repeats_48 (hl.at 5 rfl) ?_
        refine e_iadd hx hb dX13_repeats_50 ?_
        obtain ⟨v51, h51, hsh⟩ := Option.bind_eq_some_iff.mp hsh
        refine e_iald hx hb hp h51 dX13_repeats_51 ?_
        obtain ⟨S52, h52, hsh⟩ := Option.bind_eq_some_iff.mp hsh
        refine e_iast hx hb hp hS h52 dX13_repeats_52 (fun H locs hp hS => ?_)
        refine e_iinc (n := 1) (x := x3) (lv' := [(3, .int (iI ((x3 + 1)))), (0, e_rv B (x0)), (1, .int (iI (x1))), (2, .int (iI (x2))), (4, .int (iI (x4))), (5, .int (iI (x5)))]) hx hb dX13_repeats_53 hl (k := 3) rfl (by decide) rfl (fun ls hl => ?_)
        refine e_iinc (n := 1) (x := x5) (lv' := [(5, .int (iI ((x5 + 1)))), (3, .int (iI ((x3 + 1)))), (0, e_rv B (x0)), (1, .int (iI (x1))), (2, .int (iI (x2))), (4, .int (iI (x4)))]) hx hb dX13_repeats_56 hl (k := 5) rfl (by decide) rfl (fun ls hl => ?_)
        refine lv_goto (tgt := 14) hx hb dX13_repeats_59 (by decide) ?_
        exact hk14 hp hS (hl.sub [2, 3, 4, 1, 5, 0] rfl) hsh
      · rw [if_pos c29] at hsh
        refine lv_iconst (v := iI (-1)) hx hb dX13_repeats_32 rfl ?_
        cases hsh
        exact e_iret hx hb hrt hlk hp hS dX13_repeats_33
set_option maxRecDepth 100000 in
set_option maxHeartbeats 4000000 in
theorem w13_repeats_l5 {p : Program} {l : Launch} {e : Env} {s : State} {m : MethodId} {args : Array Value} {below : List Frame} {meth : Method} {c : Code} {D : va_G} {cA : Nat → ClassId} {B : Nat} {res : Int × HP} (E : e_En p s m args meth c cX13_repeats RX13 6 (some .int)) : ∀ (f : Nat) {ls : Array Slot} {H : Heap} {locs : List Loc} {S : HP} {x0 : Int} {x1 : Int} {x2 : Int} {x3 : Int} {x4 : Int} (hp : e_Pic D cA B S s H) (hS : va_S (e_A B) s.heap H locs) (hl : e_lo ls 6 [(0, e_rv B (x0)), (1, .int (iI (x1))), (2, .int (iI (x2))), (3, .int (iI (x3))), (4, .int (iI (x4)))]) (hsh : s13_repeats_l5 f S x0 x1 x2 x3 x4 = some res), W p l e ({ frames := 0, cells := 0, slots := 0, locals := 0 } : Room) s m args below meth c H locs 0 0 (MQ below (e_Qi D cA B res.1 res.2) args s 0 0 (e_A B)) (F0 m 5 ls []) := by
  obtain ⟨hx, hb, hml, hown, hts, hlk, hrt⟩ := id E
  intro f
  induction f with
  | zero => intro ls H locs S x0 x1 x2 x3 x4 hp hS hl hsh; cases hsh
  | succ f ih =>
    intro ls H locs S x0 x1 x2 x3 x4 hp hS hl hsh
    have hk5 : ∀ {ls : Array Slot} {H : Heap} {locs : List Loc} {S : HP} {x0 : Int} {x1 : Int} {x2 : Int} {x3 : Int} {x4 : Int} (hp : e_Pic D cA B S s H) (hS : va_S (e_A B) s.heap H locs) (hl : e_lo ls 6 [(0, e_rv B (x0)), (1, .int (iI (x1))), (2, .int (iI (x2))), (3, .int (iI (x3))), (4, .int (iI (x4)))]) (hsh : (s13_repeats_l5 f) S x0 x1 x2 x3 x4 = some res), W p l e ({ frames := 0, cells := 0, slots := 0, locals := 0 } : Room) s m args below meth c H locs 0 0 (MQ below (e_Qi D cA B res.1 res.2) args s 0 0 (e_A B)) (F0 m 5 ls []) := ih
    generalize hkk : s13_repeats_l5 f = k5 at hk5
    rw [s13_repeats_l5] at hsh
    rw [hkk] at hsh
    try dsimp only at hsh
    refine lv_iload hx hb dX13_repeats_5 (hl.at 4 rfl) ?_
    refine lv_iload_n hx hb dX13_repeats_7 rfl (hl.at 2 rfl) ?_
    refine e_icmp_ge (tgt := 68) hx hb dX13_repeats_8 (by decide) (fun c8 => ?_) (fun c8 => ?_)
    · rw [if_pos c8] at hsh
      refine lv_iload_n hx hb dX13_repeats_68 rfl (hl.at 3 rfl) ?_
      cases hsh
      exact e_iret hx hb hrt hlk hp hS dX13_repeats_69
    · rw [if_neg c8] at hsh
      refine lv_iconst (v := iI (0)) hx hb dX13_repeats_11 rfl ?_
      refine e_istore (lv' := [(5, .int (iI (0))), (0, e_rv B (x0)), (1, .int (iI (x1))), (2, .int (iI (x2))), (3, .int (iI (x3))), (4, .int (iI (x4)))]) hx hb dX13_repeats_12 hl (by decide) rfl (fun ls hl => ?_)
      exact w13_repeats_l14 (hk5 := hk5) E 1000000 hp hS (hl.sub [1, 2, 3, 4, 5, 0] rfl) hsh
set_option maxRecDepth 100000 in
set_option maxHeartbeats 4000000 in
theorem c13_repeats (l : Launch) (D : va_G) (cA : Nat → ClassId) (B : Nat) (S S' : HP) (x0 : Int) (x1 : Int) (x2 : Int) (r : Int) (hsh : s13_repeats S x0 x1 x2 = some (r, S')) : Met l yX13_repeats (e_wu yX13_repeats cX13_repeats 6 (some .int)) ({ frames := 0, cells := 0, slots := 0, locals := 0 } : Room) (va_Pc [e_rv B (x0), .int (iI (x1)), .int (iI (x2))] (fun U => e_PU D cA B S U)) (e_Qi D cA B r S') 0 0 (e_A B) := by
  refine Met.ofW (cc := cX13_repeats) (maxL := 6) (ret := (some .int)) (by decide +kernel) rfl ?_
  intro p e s m args below meth c s₁ Bd hml hv
  obtain ⟨rfl, hp⟩ := hv
  have hp : e_Pic D cA B S s s.heap := hp
  have hx := Bd.exec
  have hb := Bd.bytes
  have hrt := Bd.returns
  have hlk := Bd.notSynchronized
  have hown : s.vm.findClass RX13 = some m.cls := findClass_of_methodNamed Bd.named
  have hts : ∀ w ∈ e_tb, w.before ([e_rv B (x0), .int (iI (x1)), .int (iI (x2))] : List Value).toArray s = true := fun w h => atoms_spec (ws := (e_wu yX13_repeats cX13_repeats 6 (some .int))) Bd.pre w (List.mem_cons_of_mem _ h)
  have E : e_En p s m ([e_rv B (x0), .int (iI (x1)), .int (iI (x2))] : List Value).toArray meth c cX13_repeats RX13 6 (some .int) := ⟨hx, hb, hml, hown, hts, hlk, hrt⟩
  have hS : va_S (e_A B) s.heap s.heap [] := va_S.rf
  have hl := e_entry (vs := [e_rv B (x0), .int (iI (x1)), .int (iI (x2))]) (n := 6) (Nat.le_of_ble_eq_true rfl) (e_cc (e_rv_cat _ _) (e_cc rfl (e_cc rfl e_cn)))
  rw [lg_entry_eq]
  generalize (lg_sl [e_rv B (x0), .int (iI (x1)), .int (iI (x2))] ++ List.replicate (6 - (lg_sl [e_rv B (x0), .int (iI (x1)), .int (iI (x2))]).length) Slot.unset).toArray = ls at hl ⊢
  generalize ([e_rv B (x0), .int (iI (x1)), .int (iI (x2))] : List Value).toArray = args at hts E ⊢
  have hl : e_lo ls 6 [(0, e_rv B (x0)), (1, .int (iI (x1))), (2, .int (iI (x2)))] := hl
  have hsh := (gd_some hsh).2
  refine lv_iconst (v := iI (0)) hx hb dX13_repeats_0 rfl ?_
  refine e_istore_n (lv' := [(3, .int (iI (0))), (0, e_rv B (x0)), (1, .int (iI (x1))), (2, .int (iI (x2)))]) hx hb dX13_repeats_1 rfl hl (by decide) rfl (fun ls hl => ?_)
  refine lv_iconst (v := iI (0)) hx hb dX13_repeats_2 rfl ?_
  refine e_istore (lv' := [(4, .int (iI (0))), (3, .int (iI (0))), (0, e_rv B (x0)), (1, .int (iI (x1))), (2, .int (iI (x2)))]) hx hb dX13_repeats_3 hl (by decide) rfl (fun ls hl => ?_)
  exact w13_repeats_l5 E 1000000 hp hS (hl.sub [2, 3, 4, 1, 0] rfl) hsh
theorem ok13_isSameLine {S : HP} {x0 : Int} {x1 : Int} {x2 : Int} {r : Int × HP} (h : s13_isSameLine S x0 x1 x2 = some r) : 0 ≤ x0 ∧ x0.toNat < e_n S ∧ e_g S x0.toNat = 13 := (gd_some h).1
set_option maxRecDepth 100000 in
set_option maxHeartbeats 4000000 in
theorem w13_isSameLine_b83 {p : Program} {l : Launch} {e : Env} {s : State} {m : MethodId} {args : Array Value} {below : List Frame} {meth : Method} {c : Code} {D : va_G} {cA : Nat → ClassId} {B : Nat} {res : Int × HP} (E : e_En p s m args meth c cX13_isSameLine RX13 5 (some .boolean)) {ls : Array Slot} {H : Heap} {locs : List Loc} {S : HP} {x3 : Int} (hp : e_Pic D cA B S s H) (hS : va_S (e_A B) s.heap H locs) (hl : e_lo ls 5 [(3, .int (iI (x3)))]) (hsh : s13_isSameLine_b83 S x3 = some res) : W p l e ({ frames := 1, cells := 0, slots := 0, locals := 22 } : Room) s m args below meth c H locs 0 0 (MQ below (e_Qi D cA B res.1 res.2) args s 0 0 (e_A B)) (F0 m 83 ls []) := by
  obtain ⟨hx, hb, hml, hown, hts, hlk, hrt⟩ := id E
  unfold s13_isSameLine_b83 at hsh
  refine lv_iload_n hx hb dX13_isSameLine_83 rfl (hl.at 0 rfl) ?_
  obtain ⟨hz, hz1, hz2⟩ := zR_some hsh
  rw [← hz1, ← hz2]
  exact e_zret hx hb hrt hlk hp hS hz dX13_isSameLine_84
set_option maxRecDepth 100000 in
set_option maxHeartbeats 4000000 in
theorem w13_isSameLine_b76 {p : Program} {l : Launch} {e : Env} {s : State} {m : MethodId} {args : Array Value} {below : List Frame} {meth : Method} {c : Code} {D : va_G} {cA : Nat → ClassId} {B : Nat} {res : Int × HP} {k29 : HP → Int → Int → Int → Int → Int → Option (Int × HP)} (hk29 : ∀ {ls : Array Slot} {H : Heap} {locs : List Loc} {S : HP} {x0 : Int} {x1 : Int} {x2 : Int} {x3 : Int} {x4 : Int} (hp : e_Pic D cA B S s H) (hS : va_S (e_A B) s.heap H locs) (hl : e_lo ls 5 [(0, e_rv B (x0)), (1, .int (iI (x1))), (2, .int (iI (x2))), (3, .int (iI (x3))), (4, .int (iI (x4)))]) (hsh : k29 S x0 x1 x2 x3 x4 = some res), W p l e ({ frames := 1, cells := 0, slots := 0, locals := 22 } : Room) s m args below meth c H locs 0 0 (MQ below (e_Qi D cA B res.1 res.2) args s 0 0 (e_A B)) (F0 m 29 ls [])) (E : e_En p s m args meth c cX13_isSameLine RX13 5 (some .boolean)) {ls : Array Slot} {H : Heap} {locs : List Loc} {S : HP} {x0 : Int} {x1 : Int} {x2 : Int} {x4 : Int} {y0 : Int} (hp : e_Pic D cA B S s H) (hS : va_S (e_A B) s.heap H locs) (hl : e_lo ls 5 [(0, e_rv B (x0)), (1, .int (iI (x1))), (2, .int (iI (x2))), (4, .int (iI (x4)))]) (hsh : s13_isSameLine_b76 k29 S x0 x1 x2 x4 y0 = some res) : W p l e ({ frames := 1, cells := 0, slots := 0, locals := 22 } : Room) s m args below meth c H locs 0 0 (MQ below (e_Qi D cA B res.1 res.2) args s 0 0 (e_A B)) (F0 m 76 ls [.int (iI (y0))]) := by
  obtain ⟨hx, hb, hml, hown, hts, hlk, hrt⟩ := id E
  unfold s13_isSameLine_b76 at hsh
  refine e_istore_n (lv' := [(3, .int (iI (y0))), (0, e_rv B (x0)), (1, .int (iI (x1))), (2, .int (iI (x2))), (4, .int (iI (x4)))]) hx hb dX13_isSameLine_76 rfl hl (by decide) rfl (fun ls hl => ?_)
  refine e_iinc (n := 1) (x := x4) (lv' := [(4, .int (iI ((x4 + 1)))), (3, .int (iI (y0))), (0, e_rv B (x0)), (1, .int (iI (x1))), (2, .int (iI (x2)))]) hx hb dX13_isSameLine_77 hl (k := 4) rfl (by decide) rfl (fun ls hl => ?_)
  refine lv_goto (tgt := 29) hx hb dX13_isSameLine_80 (by decide) ?_
  exact hk29 hp hS (hl.sub [2, 3, 4, 1, 0] rfl) hsh
set_option maxRecDepth 100000 in
set_option maxHeartbeats 4000000 in
theorem w13_isSameLine_l29 {p : Program} {l : Launch} {e : Env} {s : State} {m : MethodId} {args : Array Value} {below : List Frame} {meth : Method} {c : Code} {D : va_G} {cA : Nat → ClassId} {B : Nat} {res : Int × HP} (E : e_En p s m args meth c cX13_isSameLine RX13 5 (some .boolean)) : ∀ (f : Nat) {ls : Array Slot} {H : Heap} {locs : List Loc} {S : HP} {x0 : Int} {x1 : Int} {x2 : Int} {x3 : Int} {x4 : Int} (hp : e_Pic D cA B S s H) (hS : va_S (e_A B) s.heap H locs) (hl : e_lo ls 5 [(0, e_rv B (x0)), (1, .int (iI (x1))), (2, .int (iI (x2))), (3, .int (iI (x3))), (4, .int (iI (x4)))]) (hsh : s13_isSameLine_l29 f S x0 x1 x2 x3 x4 = some res), W p l e ({ frames := 1, cells := 0, slots := 0, locals := 22 } : Room) s m args below meth c H locs 0 0 (MQ below (e_Qi D cA B res.1 res.2) args s 0 0 (e_A B)) (F0 m 29 ls []) := by
  obtain ⟨hx, hb, hml, hown, hts, hlk, hrt⟩ := id E
  intro f
  induction f with
  | zero => intro ls H locs S x0 x1 x2 x3 x4 hp hS hl hsh; cases hsh
  | succ f ih =>
    intro ls H locs S x0 x1 x2 x3 x4 hp hS hl hsh
    have hk29 : ∀ {ls : Array Slot} {H : Heap} {locs : List Loc} {S : HP} {x0 : Int} {x1 : Int} {x2 : Int} {x3 : Int} {x4 : Int} (hp : e_Pic D cA B S s H) (hS : va_S (e_A B) s.heap H locs) (hl : e_lo ls 5 [(0, e_rv B (x0)), (1, .int (iI (x1))), (2, .int (iI (x2))), (3, .int (iI (x3))), (4, .int (iI (x4)))]) (hsh : (s13_isSameLine_l29 f) S x0 x1 x2 x3 x4 = some res), W p l e ({ frames := 1, cells := 0, slots := 0, locals := 22 } : Room) s m args below meth c H locs 0 0 (MQ below (e_Qi D cA B res.1 res.2) args s 0 0 (e_A B)) (F0 m 29 ls []) := ih
    generalize hkk : s13_isSameLine_l29 f = k29 at hk29
    rw [s13_isSameLine_l29] at hsh
    rw [hkk] at hsh
    try dsimp only at hsh
    refine lv_iload hx hb dX13_isSameLine_29 (hl.at 4 rfl) ?_
    refine e_aload_n (B := B) (x := x0) hx hb dX13_isSameLine_31 rfl (hl.at 0 rfl) ?_
    obtain ⟨v32, h32, hsh⟩ := Option.bind_eq_some_iff.mp hsh
    refine e_getR (k := 3) hx hb hts in_X13 hown hp h32 rfl (by decide) (by decide) rfl (hts _ kf13_17) rfl dX13_isSameLine_32 ?_
    refine lv_iload_n hx hb dX13_isSameLine_35 rfl (hl.at 2 rfl) ?_
    obtain ⟨v36, h36, hsh⟩ := Option.bind_eq_some_iff.mp hsh
    refine e_iald hx hb hp h36 dX13_isSameLine_36 ?_
    refine e_icmp_ge (tgt := 83) hx hb dX13_isSameLine_37 (by decide) (fun c37 => ?_) (fun c37 => ?_)
    · rw [if_pos c37] at hsh
      exact w13_isSameLine_b83 E hp hS (hl.sub [3] rfl) hsh
    · rw [if_neg c37] at hsh
      refine lv_iload_n hx hb dX13_isSameLine_40 rfl (hl.at 3 rfl) ?_
      refine e_if_eq (tgt := 83) hx hb dX13_isSameLine_41 (by decide) (fun c41 => ?_) (fun c41 => ?_)
      · rw [if_pos c41] at hsh
        exact w13_isSameLine_b83 E hp hS (hl.sub [3] rfl) hsh
      · rw [if_neg c41] at hsh
        refine e_aload_n (B := B) (x := x0) hx hb dX13_isSameLine_44 rfl (hl.at 0 rfl) ?_
        obtain ⟨v45, h45, hsh⟩ := Option.bind_eq_some_iff.mp hsh
        refine e_getR (k := 30) hx hb hts in_X13 hown hp h45 rfl (by decide) (by decide) rfl (hts _ kf13_70) rfl dX13_isSameLine_45 ?_
        refine lv_bipush (v := iI (60)) hx hb dX13_isSameLine_48 (by decide +kernel) ?_
        refine lv_bipush (v := iI (40)) hx hb dX13_isSameLine_50 (by decide +kernel) ?_
        refine lv_iload_n hx hb dX13_isSameLine_52 rfl (hl.at 1 rfl) ?_
        refine e_imul hx hb dX13_isSameLine_53 ?_
        refine lv_iload_n hx hb dX13_isSameLine_54 rfl (hl.at 2 rfl) ?_
        refine e_iadd hx hb dX13_isSameLine_55 ?_
        refine e_imul hx hb dX13_isSameLine_56 ?_
        refine lv_iload hx hb dX13_isSameLine_57 (hl.at 4 rfl) ?_
        refine e_iadd hx hb dX13_isSameLine_59 ?_
        obtain ⟨v60, h60, hsh⟩ := Option.bind_eq_some_iff.mp hsh
        refine e_iald hx hb hp h60 dX13_isSameLine_60 ?_
        refine e_aload_n (B := B) (x := x0) hx hb dX13_isSameLine_61 rfl (hl.at 0 rfl) ?_
        refine lv_iload_n hx hb dX13_isSameLine_62 rfl (hl.at 2 rfl) ?_
        refine lv_iload hx hb dX13_isSameLine_63 (hl.at 4 rfl) ?_
        obtain ⟨⟨v65, S65⟩, h65, hsh⟩ := Option.bind_eq_some_iff.mp hsh
        have hsh : _ = _ := hsh
        try dsimp only at hsh
        have ok65 := ok13_at h65
        refine e_callI (nL := 5) (mc := 0) (ms := 0) (T := TX13) (N := 126) (As := [.int (iI (x2)), .int (iI (x4))]) (rest := [.int (iI (v60))]) hx hb hml hown hts hp hS hl.size ok65.1 ok65.2.1 ok65.2.2 rfl (by decide) (c13_at l D cA B S S65 (x0) (x2) (x4) v65 h65) rfl rfl kd13_at (kl13_206) ks13_at kv13_at ki13 kh13_at ⟨Nat.le_of_ble_eq_true rfl, Nat.le_of_ble_eq_true rfl⟩ rfl (by simp [e_rv_cat, e_int_cat]) ⟨Nat.le_refl _, Nat.le_refl _⟩ dX13_isSameLine_65 rfl (fun H locs hp hS => ?_)
        refine e_icmp_ne (tgt := 75) hx hb dX13_isSameLine_68 (by decide) (fun c68 => ?_) (fun c68 => ?_)
        · rw [if_neg c68] at hsh
          refine lv_iconst (v := iI (0)) hx hb dX13_isSameLine_75 rfl ?_
          exact w13_isSameLine_b76 (hk29 := hk29) E hp hS (hl.sub [0, 1, 2, 4] rfl) hsh
        · rw [if_pos c68] at hsh
          refine lv_iconst (v := iI (1)) hx hb dX13_isSameLine_71 rfl ?_
          refine lv_goto (tgt := 76) hx hb dX13_isSameLine_72 (by decide) ?_
          exact w13_isSameLine_b76 (hk29 := hk29) E hp hS (hl.sub [0, 1, 2, 4] rfl) hsh
set_option maxRecDepth 100000 in
set_option maxHeartbeats 4000000 in
theorem w13_isSameLine_b25 {p : Program} {l : Launch} {e : Env} {s : State} {m : MethodId} {args : Array Value} {below : List Frame} {meth : Method} {c : Code} {D : va_G} {cA : Nat → ClassId} {B : Nat} {res : Int × HP} (E : e_En p s m args meth c cX13_isSameLine RX13 5 (some .boolean)) {ls : Array Slot} {H : Heap} {locs : List Loc} {S : HP} {x0 : Int} {x1 : Int} {x2 : Int} {y0 : Int} (hp : e_Pic D cA B S s H) (hS : va_S (e_A B) s.heap H locs) (hl : e_lo ls 5 [(0, e_rv B (x0)), (1, .int (iI (x1))), (2, .int (iI (x2)))]) (hsh : s13_isSameLine_b25 S x0 x1 x2 y0 = some res) : W p l e ({ frames := 1, cells := 0, slots := 0, locals := 22 } : Room) s m args below meth c H locs 0 0 (MQ below (e_Qi D cA B res.1 res.2) args s 0 0 (e_A B)) (F0 m 25 ls [.int (iI (y0))]) := by
  obtain ⟨hx, hb, hml, hown, hts, hlk, hrt⟩ := id E
  unfold s13_isSameLine_b25 at hsh
  refine e_istore_n (lv' := [(3, .int (iI (y0))), (0, e_rv B (x0)), (1, .int (iI (x1))), (2, .int (iI (x2)))]) hx hb dX13_isSameLine_25 rfl hl (by decide) rfl (fun ls hl => ?_)
  refine lv_iconst (v := iI (0)) hx hb dX13_isSameLine_26 rfl ?_
  refine e_istore (lv' := [(4, .int (iI (0))), (3, .int (iI (y0))), (0, e_rv B (x0)), (1, .int (iI (x1))), (2, .int (iI (x2)))]) hx hb dX13_isSameLine_27 hl (by decide) rfl (fun ls hl => ?_)
  exact w13_isSameLine_l29 E 1000000 hp hS (hl.sub [2, 3, 4, 1, 0] rfl) hsh
set_option maxRecDepth 100000 in
set_option maxHeartbeats 4000000 in
theorem c13_isSameLine (l : Launch) (D : va_G) (cA : Nat → ClassId) (B : Nat) (S S' : HP) (x0 : Int) (x1 : Int) (x2 : Int) (r : Int) (hsh : s13_isSameLine S x0 x1 x2 = some (r, S')) : Met l yX13_isSameLine (e_wu yX13_isSameLine cX13_isSameLine 5 (some .boolean)) ({ frames := 1, cells := 0, slots := 0, locals := 22 } : Room) (va_Pc [e_rv B (x0), .int (iI (x1)), .int (iI (x2))] (fun U => e_PU D cA B S U)) (e_Qi D cA B r S') 0 0 (e_A B) := by
  refine Met.ofW (cc := cX13_isSameLine) (maxL := 5) (ret := (some .boolean)) (by decide +kernel) rfl ?_
  intro p e s m args below meth c s₁ Bd hml hv
  obtain ⟨rfl, hp⟩ := hv
  have hp : e_Pic D cA B S s s.heap := hp
  have hx := Bd.exec
  have hb := Bd.bytes
  have hrt := Bd.returns
  have hlk := Bd.notSynchronized
  have hown : s.vm.findClass RX13 = some m.cls := findClass_of_methodNamed Bd.named
  have hts : ∀ w ∈ e_tb, w.before ([e_rv B (x0), .int (iI (x1)), .int (iI (x2))] : List Value).toArray s = true := fun w h => atoms_spec (ws := (e_wu yX13_isSameLine cX13_isSameLine 5 (some .boolean))) Bd.pre w (List.mem_cons_of_mem _ h)
  have E : e_En p s m ([e_rv B (x0), .int (iI (x1)), .int (iI (x2))] : List Value).toArray meth c cX13_isSameLine RX13 5 (some .boolean) := ⟨hx, hb, hml, hown, hts, hlk, hrt⟩
  have hS : va_S (e_A B) s.heap s.heap [] := va_S.rf
  have hl := e_entry (vs := [e_rv B (x0), .int (iI (x1)), .int (iI (x2))]) (n := 5) (Nat.le_of_ble_eq_true rfl) (e_cc (e_rv_cat _ _) (e_cc rfl (e_cc rfl e_cn)))
  rw [lg_entry_eq]
  generalize (lg_sl [e_rv B (x0), .int (iI (x1)), .int (iI (x2))] ++ List.replicate (5 - (lg_sl [e_rv B (x0), .int (iI (x1)), .int (iI (x2))]).length) Slot.unset).toArray = ls at hl ⊢
  generalize ([e_rv B (x0), .int (iI (x1)), .int (iI (x2))] : List Value).toArray = args at hts E ⊢
  have hl : e_lo ls 5 [(0, e_rv B (x0)), (1, .int (iI (x1))), (2, .int (iI (x2)))] := hl
  have hsh := (gd_some hsh).2
  refine e_aload_n (B := B) (x := x0) hx hb dX13_isSameLine_0 rfl (hl.at 0 rfl) ?_
  obtain ⟨v1, h1, hsh⟩ := Option.bind_eq_some_iff.mp hsh
  refine e_getR (k := 29) hx hb hts in_X13 hown hp h1 rfl (by decide) (by decide) rfl (hts _ kf13_66) rfl dX13_isSameLine_1 ?_
  refine lv_bipush (v := iI (40)) hx hb dX13_isSameLine_4 (by decide +kernel) ?_
  refine lv_iload_n hx hb dX13_isSameLine_6 rfl (hl.at 1 rfl) ?_
  refine e_imul hx hb dX13_isSameLine_7 ?_
  refine lv_iload_n hx hb dX13_isSameLine_8 rfl (hl.at 2 rfl) ?_
  refine e_iadd hx hb dX13_isSameLine_9 ?_
  obtain ⟨v10, h10, hsh⟩ := Option.bind_eq_some_iff.mp hsh
  refine e_iald hx hb hp h10 dX13_isSameLine_10 ?_
  refine e_aload_n (B := B) (x := x0) hx hb dX13_isSameLine_11 rfl (hl.at 0 rfl) ?_
  obtain ⟨v12, h12, hsh⟩ := Option.bind_eq_some_iff.mp hsh
  refine e_getR (k := 3) hx hb hts in_X13 hown hp h12 rfl (by decide) (by decide) rfl (hts _ kf13_17) rfl dX13_isSameLine_12 ?_
  refine lv_iload_n hx hb dX13_isSameLine_15 rfl (hl.at 2 rfl) ?_
  obtain ⟨v16, h16, hsh⟩ := Option.bind_eq_some_iff.mp hsh
  refine e_iald hx hb hp h16 dX13_isSameLine_16 ?_
  refine e_icmp_ne (tgt := 24) hx hb dX13_isSameLine_17 (by decide) (fun c17 => ?_) (fun c17 => ?_)
  · rw [if_neg c17] at hsh
    refine lv_iconst (v := iI (0)) hx hb dX13_isSameLine_24 rfl ?_
    exact w13_isSameLine_b25 E hp hS (hl.sub [0, 1, 2] rfl) hsh
  · rw [if_pos c17] at hsh
    refine lv_iconst (v := iI (1)) hx hb dX13_isSameLine_20 rfl ?_
    refine lv_goto (tgt := 25) hx hb dX13_isSameLine_21 (by decide) ?_
    exact w13_isSameLine_b25 E hp hS (hl.sub [0, 1, 2] rfl) hsh
