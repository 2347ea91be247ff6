theorem ok13_doesPlain {S : HP} {x0 : Int} {x1 : Int} {r : Int × HP} (h : s13_doesPlain S x0 x1 = some r) : 0 ≤ x0 ∧ x0.toNat < e_n S ∧ e_g S x0.toNat = 13 := (gd_some h).1
set_option maxRecDepth 100000 in
set_option maxHeartbeats 4000000 in
theorem w13_doesPlain_b489 {p : Program} {l : Launch} {e : Env} {s : State} {m : MethodId} {args : Array Value} {below : List Frame} {meth : Method} {c : Code} {D : va_G} {cA : Nat → ClassId} {B : Nat} {res : Int × HP} (E : e_En p s m args meth c cX13_doesPlain RX13 2 (some .boolean)) {ls : Array Slot} {H : Heap} {locs : List Loc} {S : HP} {x0 : Int} {x1 : Int} {y0 : Int} {y1 : Int} (hp : e_Pic D cA B S s H) (hS : va_S (e_A B) s.heap H locs) (hl : e_lo ls 2 [(0, e_rv B (x0)), (1, .int (iI (x1)))]) (hsh : s13_doesPlain_b489 S x0 x1 y0 y1 = some res) : W p l e ({ frames := 9, cells := 0, slots := 0, locals := 212 } : Room) s m args below meth c H locs 0 0 (MQ below (e_Qi D cA B res.1 res.2) args s 0 0 (e_A B)) (F0 m 489 ls [.int (iI (y1)), e_rv B (y0)]) := by
  obtain ⟨hx, hb, hml, hown, hts, hlk, hrt⟩ := id E
  unfold s13_doesPlain_b489 at hsh
  refine e_aload_n (B := B) (x := x0) hx hb dX13_doesPlain_489 rfl (hl.at 0 rfl) ?_
  obtain ⟨v490, h490, hsh⟩ := Option.bind_eq_some_iff.mp hsh
  refine e_getI (k := 58) hx hb hts in_X13 hown hp h490 rfl (by decide) (by decide) rfl (hts _ kf13_642) rfl dX13_doesPlain_490 ?_
  refine lv_bipush (v := iI (36)) hx hb dX13_doesPlain_493 (by decide +kernel) ?_
  refine lv_iconst (v := iI (0)) hx hb dX13_doesPlain_495 rfl ?_
  refine lv_iload_n hx hb dX13_doesPlain_496 rfl (hl.at 1 rfl) ?_
  refine lv_iconst (v := iI (1)) hx hb dX13_doesPlain_497 rfl ?_
  obtain ⟨⟨v498, S498⟩, h498, hsh⟩ := Option.bind_eq_some_iff.mp hsh
  have hsh : _ = _ := hsh
  try dsimp only at hsh
  have ok498 := ok13_operatesMotion h498
  refine e_callI (nL := 2) (mc := 0) (ms := 0) (T := TX13) (N := 126) (As := [.int (iI (y1)), .int (iI (v490)), .int (iI (36)), .int (iI (0)), .int (iI (x1)), .int (iI (1))]) (rest := []) hx hb hml hown hts hp hS hl.size ok498.1 ok498.2.1 ok498.2.2 rfl (by decide) (c13_operatesMotion l D cA B S S498 (y0) (y1) (v490) (36) (0) (x1) (1) v498 h498) rfl rfl kd13_operatesMotion (kl13_744) ks13_operatesMotion kv13_operatesMotion ki13 kh13_operatesMotion ⟨Nat.le_of_ble_eq_true rfl, Nat.le_of_ble_eq_true rfl⟩ rfl (by simp [e_rv_cat, e_int_cat]) ⟨Nat.le_refl _, Nat.le_refl _⟩ dX13_doesPlain_498 rfl (fun H locs hp hS => ?_)
  obtain ⟨hz, hz1, hz2⟩ := zR_some hsh
  rw [← hz1, ← hz2]
  exact e_zret hx hb hrt hlk hp hS hz dX13_doesPlain_501
set_option maxRecDepth 100000 in
set_option maxHeartbeats 4000000 in
theorem w13_doesPlain_b609 {p : Program} {l : Launch} {e : Env} {s : State} {m : MethodId} {args : Array Value} {below : List Frame} {meth : Method} {c : Code} {D : va_G} {cA : Nat → ClassId} {B : Nat} {res : Int × HP} (E : e_En p s m args meth c cX13_doesPlain RX13 2 (some .boolean)) {ls : Array Slot} {H : Heap} {locs : List Loc} {S : HP} {y0 : Int} {y1 : Int} {y2 : Int} {y3 : Int} (hp : e_Pic D cA B S s H) (hS : va_S (e_A B) s.heap H locs) (hl : e_lo ls 2 []) (hsh : s13_doesPlain_b609 S y0 y1 y2 y3 = some res) : W p l e ({ frames := 9, cells := 0, slots := 0, locals := 212 } : Room) s m args below meth c H locs 0 0 (MQ below (e_Qi D cA B res.1 res.2) args s 0 0 (e_A B)) (F0 m 609 ls [.int (iI (y3)), .int (iI (y2)), .int (iI (y1)), e_rv B (y0)]) := by
  obtain ⟨hx, hb, hml, hown, hts, hlk, hrt⟩ := id E
  unfold s13_doesPlain_b609 at hsh
  obtain ⟨⟨v609, S609⟩, h609, hsh⟩ := Option.bind_eq_some_iff.mp hsh
  have hsh : _ = _ := hsh
  try dsimp only at hsh
  have ok609 := ok13_pastes h609
  refine e_callI (nL := 2) (mc := 0) (ms := 0) (T := TX13) (N := 126) (As := [.int (iI (y1)), .int (iI (y2)), .int (iI (y3))]) (rest := []) hx hb hml hown hts hp hS hl.size ok609.1 ok609.2.1 ok609.2.2 rfl (by decide) (c13_pastes l D cA B S S609 (y0) (y1) (y2) (y3) v609 h609) rfl rfl kd13_pastes (kl13_763) ks13_pastes kv13_pastes ki13 kh13_pastes ⟨Nat.le_of_ble_eq_true rfl, Nat.le_of_ble_eq_true rfl⟩ rfl (by simp [e_rv_cat, e_int_cat]) ⟨Nat.le_refl _, Nat.le_refl _⟩ dX13_doesPlain_609 rfl (fun H locs hp hS => ?_)
  obtain ⟨hz, hz1, hz2⟩ := zR_some hsh
  rw [← hz1, ← hz2]
  exact e_zret hx hb hrt hlk hp hS hz dX13_doesPlain_612
set_option maxRecDepth 100000 in
set_option maxHeartbeats 4000000 in
theorem w13_doesPlain_b558 {p : Program} {l : Launch} {e : Env} {s : State} {m : MethodId} {args : Array Value} {below : List Frame} {meth : Method} {c : Code} {D : va_G} {cA : Nat → ClassId} {B : Nat} {res : Int × HP} (E : e_En p s m args meth c cX13_doesPlain RX13 2 (some .boolean)) {ls : Array Slot} {H : Heap} {locs : List Loc} {S : HP} {y0 : Int} (hp : e_Pic D cA B S s H) (hS : va_S (e_A B) s.heap H locs) (hl : e_lo ls 2 []) (hsh : s13_doesPlain_b558 S y0 = some res) : W p l e ({ frames := 9, cells := 0, slots := 0, locals := 212 } : Room) s m args below meth c H locs 0 0 (MQ below (e_Qi D cA B res.1 res.2) args s 0 0 (e_A B)) (F0 m 558 ls [.int (iI (y0))]) := by
  obtain ⟨hx, hb, hml, hown, hts, hlk, hrt⟩ := id E
  unfold s13_doesPlain_b558 at hsh
  obtain ⟨hz, hz1, hz2⟩ := zR_some hsh
  rw [← hz1, ← hz2]
  exact e_zret hx hb hrt hlk hp hS hz dX13_doesPlain_558
set_option maxRecDepth 100000 in
set_option maxHeartbeats 4000000 in
theorem w13_doesPlain_b557 {p : Program} {l : Launch} {e : Env} {s : State} {m : MethodId} {args : Array Value} {below : List Frame} {meth : Method} {c : Code} {D : va_G} {cA : Nat → ClassId} {B : Nat} {res : Int × HP} (E : e_En p s m args meth c cX13_doesPlain RX13 2 (some .boolean)) {ls : Array Slot} {H : Heap} {locs : List Loc} {S : HP} (hp : e_Pic D cA B S s H) (hS : va_S (e_A B) s.heap H locs) (hl : e_lo ls 2 []) (hsh : s13_doesPlain_b557 S  = some res) : W p l e ({ frames := 9, cells := 0, slots := 0, locals := 212 } : Room) s m args below meth c H locs 0 0 (MQ below (e_Qi D cA B res.1 res.2) args s 0 0 (e_A B)) (F0 m 557 ls []) := by
  obtain ⟨hx, hb, hml, hown, hts, hlk, hrt⟩ := id E
  unfold s13_doesPlain_b557 at hsh
  refine lv_iconst (v := iI (0)) hx hb dX13_doesPlain_557 rfl ?_
  exact w13_doesPlain_b558 E hp hS (hl.sub [] rfl) hsh
set_option maxRecDepth 100000 in
set_option maxHeartbeats 4000000 in
theorem w13_doesPlain_b543 {p : Program} {l : Launch} {e : Env} {s : State} {m : MethodId} {args : Array Value} {below : List Frame} {meth : Method} {c : Code} {D : va_G} {cA : Nat → ClassId} {B : Nat} {res : Int × HP} (E : e_En p s m args meth c cX13_doesPlain RX13 2 (some .boolean)) {ls : Array Slot} {H : Heap} {locs : List Loc} {S : HP} {x0 : Int} {y0 : Int} {y1 : Int} (hp : e_Pic D cA B S s H) (hS : va_S (e_A B) s.heap H locs) (hl : e_lo ls 2 [(0, e_rv B (x0))]) (hsh : s13_doesPlain_b543 S x0 y0 y1 = some res) : W p l e ({ frames := 9, cells := 0, slots := 0, locals := 212 } : Room) s m args below meth c H locs 0 0 (MQ below (e_Qi D cA B res.1 res.2) args s 0 0 (e_A B)) (F0 m 543 ls [.int (iI (y1)), e_rv B (y0)]) := by
  obtain ⟨hx, hb, hml, hown, hts, hlk, hrt⟩ := id E
  unfold s13_doesPlain_b543 at hsh
  refine e_aload_n (B := B) (x := x0) hx hb dX13_doesPlain_543 rfl (hl.at 0 rfl) ?_
  obtain ⟨v544, h544, hsh⟩ := Option.bind_eq_some_iff.mp hsh
  refine e_getI (k := 58) hx hb hts in_X13 hown hp h544 rfl (by decide) (by decide) rfl (hts _ kf13_642) rfl dX13_doesPlain_544 ?_
  obtain ⟨⟨v547, S547⟩, h547, hsh⟩ := Option.bind_eq_some_iff.mp hsh
  have hsh : _ = _ := hsh
  try dsimp only at hsh
  have ok547 := ok13_operates h547
  refine e_callI (nL := 2) (mc := 0) (ms := 0) (T := TX13) (N := 126) (As := [.int (iI (y1)), .int (iI (v544))]) (rest := []) hx hb hml hown hts hp hS hl.size ok547.1 ok547.2.1 ok547.2.2 rfl (by decide) (c13_operates l D cA B S S547 (y0) (y1) (v544) v547 h547) rfl rfl kd13_operates (kl13_548) ks13_operates kv13_operates ki13 kh13_operates ⟨Nat.le_of_ble_eq_true rfl, Nat.le_of_ble_eq_true rfl⟩ rfl (by simp [e_rv_cat, e_int_cat]) ⟨Nat.le_refl _, Nat.le_refl _⟩ dX13_doesPlain_547 rfl (fun H locs hp hS => ?_)
  refine e_if_eq (tgt := 557) hx hb dX13_doesPlain_550 (by decide) (fun c550 => ?_) (fun c550 => ?_)
  · rw [if_pos c550] at hsh
    exact w13_doesPlain_b557 E hp hS (hl.sub [] rfl) hsh
  · rw [if_neg c550] at hsh
    refine lv_iconst (v := iI (1)) hx hb dX13_doesPlain_553 rfl ?_
    refine lv_goto (tgt := 558) hx hb dX13_doesPlain_554 (by decide) ?_
    exact w13_doesPlain_b558 E hp hS (hl.sub [] rfl) hsh
set_option maxRecDepth 100000 in
set_option maxHeartbeats 4000000 in
theorem c13_doesPlain (l : Launch) (D : va_G) (cA : Nat → ClassId) (B : Nat) (S S' : HP) (x0 : Int) (x1 : Int) (r : Int) (hsh : s13_doesPlain S x0 x1 = some (r, S')) : Met l yX13_doesPlain (e_wu yX13_doesPlain cX13_doesPlain 2 (some .boolean)) ({ frames := 9, cells := 0, slots := 0, locals := 212 } : Room) (va_Pc [e_rv B (x0), .int (iI (x1))] (fun U => e_PU D cA B S U)) (e_Qi D cA B r S') 0 0 (e_A B) := by
  refine Met.ofW (cc := cX13_doesPlain) (maxL := 2) (ret := (some .boolean)) (by decide +kernel) rfl ?_
  intro p e s m args below meth c s₁ Bd hml hv
  obtain ⟨rfl, hp⟩ := hv
  have hp : e_Pic D cA B S s s.heap := hp
  have hx := Bd.exec
  have hb := Bd.bytes
  have hrt := Bd.returns
  have hlk := Bd.notSynchronized
  have hown : s.vm.findClass RX13 = some m.cls := findClass_of_methodNamed Bd.named
  have hts : ∀ w ∈ e_tb, w.before ([e_rv B (x0), .int (iI (x1))] : List Value).toArray s = true := fun w h => atoms_spec (ws := (e_wu yX13_doesPlain cX13_doesPlain 2 (some .boolean))) Bd.pre w (List.mem_cons_of_mem _ h)
  have E : e_En p s m ([e_rv B (x0), .int (iI (x1))] : List Value).toArray meth c cX13_doesPlain RX13 2 (some .boolean) := ⟨hx, hb, hml, hown, hts, hlk, hrt⟩
  have hS : va_S (e_A B) s.heap s.heap [] := va_S.rf
  have hl := e_entry (vs := [e_rv B (x0), .int (iI (x1))]) (n := 2) (Nat.le_of_ble_eq_true rfl) (e_cc (e_rv_cat _ _) (e_cc rfl e_cn))
  rw [lg_entry_eq]
  generalize (lg_sl [e_rv B (x0), .int (iI (x1))] ++ List.replicate (2 - (lg_sl [e_rv B (x0), .int (iI (x1))]).length) Slot.unset).toArray = ls at hl ⊢
  generalize ([e_rv B (x0), .int (iI (x1))] : List Value).toArray = args at hts E ⊢
  have hl : e_lo ls 2 [(0, e_rv B (x0)), (1, .int (iI (x1)))] := hl
  have hsh := (gd_some hsh).2
  refine e_aload_n (B := B) (x := x0) hx hb dX13_doesPlain_0 rfl (hl.at 0 rfl) ?_
  obtain ⟨v1, h1, hsh⟩ := Option.bind_eq_some_iff.mp hsh
  refine e_getI (k := 62) hx hb hts in_X13 hown hp h1 rfl (by decide) (by decide) rfl (hts _ kf13_615) rfl dX13_doesPlain_1 ?_
  by_cases c4_0 : iW (v1) = 22
  · rw [if_pos c4_0] at hsh
    refine lv_tableIn (off := 653) (tgt := 657) hx hb dX13_doesPlain_4 (by show ¬ iW (v1) < _; rw [c4_0]; decide) (by show ¬ _ < iW (v1); rw [c4_0]; decide) (by show _[(iW (v1) - _).toNat]? = _; rw [c4_0]; rfl) (by decide) ?_
    refine e_aload_n (B := B) (x := x0) hx hb dX13_doesPlain_657 rfl (hl.at 0 rfl) ?_
    refine e_aload_n (B := B) (x := x0) hx hb dX13_doesPlain_658 rfl (hl.at 0 rfl) ?_
    obtain ⟨v659, h659, hsh⟩ := Option.bind_eq_some_iff.mp hsh
    refine e_getI (k := 62) hx hb hts in_X13 hown hp h659 rfl (by decide) (by decide) rfl (hts _ kf13_615) rfl dX13_doesPlain_659 ?_
    obtain ⟨⟨v662, S662⟩, h662, hsh⟩ := Option.bind_eq_some_iff.mp hsh
    have hsh : _ = _ := hsh
    try dsimp only at hsh
    have ok662 := ok13_selects h662
    refine e_callI (nL := 2) (mc := 0) (ms := 0) (T := TX13) (N := 126) (As := [.int (iI (v659))]) (rest := []) hx hb hml hown hts hp hS hl.size ok662.1 ok662.2.1 ok662.2.2 rfl (by decide) (c13_selects l D cA B S S662 (x0) (v659) v662 h662) rfl rfl kd13_selects (kl13_770) ks13_selects kv13_selects ki13 kh13_selects ⟨Nat.le_of_ble_eq_true rfl, Nat.le_of_ble_eq_true rfl⟩ rfl (by simp [e_rv_cat, e_int_cat]) ⟨Nat.le_refl _, Nat.le_refl _⟩ dX13_doesPlain_662 rfl (fun H locs hp hS => ?_)
    obtain ⟨hz, hz1, hz2⟩ := zR_some hsh
    rw [← hz1, ← hz2]
    exact e_zret hx hb hrt hlk hp hS hz dX13_doesPlain_665
  · rw [if_neg c4_0] at hsh
    by_cases c4_1 : iW (v1) = 23
    · rw [if_pos c4_1] at hsh
      refine lv_tableIn (off := 674) (tgt := 678) hx hb dX13_doesPlain_4 (by show ¬ iW (v1) < _; rw [c4_1]; decide) (by show ¬ _ < iW (v1); rw [c4_1]; decide) (by show _[(iW (v1) - _).toNat]? = _; rw [c4_1]; rfl) (by decide) ?_
      refine e_aload_n (B := B) (x := x0) hx hb dX13_doesPlain_678 rfl (hl.at 0 rfl) ?_
      refine lv_iload_n hx hb dX13_doesPlain_679 rfl (hl.at 1 rfl) ?_
      obtain ⟨⟨v680, S680⟩, h680, hsh⟩ := Option.bind_eq_some_iff.mp hsh
      have hsh : _ = _ := hsh
      try dsimp only at hsh
      have ok680 := ok13_doesFurther h680
      refine e_callI (nL := 2) (mc := 0) (ms := 0) (T := TX13) (N := 126) (As := [.int (iI (x1))]) (rest := []) hx hb hml hown hts hp hS hl.size ok680.1 ok680.2.1 ok680.2.2 rfl (by decide) (c13_doesFurther l D cA B S S680 (x0) (x1) v680 h680) rfl rfl kd13_doesFurther (kl13_776) ks13_doesFurther kv13_doesFurther ki13 kh13_doesFurther ⟨Nat.le_of_ble_eq_true rfl, Nat.le_of_ble_eq_true rfl⟩ rfl (by simp [e_rv_cat, e_int_cat]) ⟨Nat.le_refl _, Nat.le_refl _⟩ dX13_doesPlain_680 rfl (fun H locs hp hS => ?_)
      obtain ⟨hz, hz1, hz2⟩ := zR_some hsh
      rw [← hz1, ← hz2]
      exact e_zret hx hb hrt hlk hp hS hz dX13_doesPlain_683
    · rw [if_neg c4_1] at hsh
      by_cases c4_2 : iW (v1) = 24
      · rw [if_pos c4_2] at hsh
        refine lv_tableIn (off := 674) (tgt := 678) hx hb dX13_doesPlain_4 (by show ¬ iW (v1) < _; rw [c4_2]; decide) (by show ¬ _ < iW (v1); rw [c4_2]; decide) (by show _[(iW (v1) - _).toNat]? = _; rw [c4_2]; rfl) (by decide) ?_
        refine e_aload_n (B := B) (x := x0) hx hb dX13_doesPlain_678 rfl (hl.at 0 rfl) ?_
        refine lv_iload_n hx hb dX13_doesPlain_679 rfl (hl.at 1 rfl) ?_
        obtain ⟨⟨v680, S680⟩, h680, hsh⟩ := Option.bind_eq_some_iff.mp hsh
        have hsh : _ = _ := hsh
        try dsimp only at hsh
        have ok680 := ok13_doesFurther h680
        refine e_callI (nL := 2) (mc := 0) (ms := 0) (T := TX13) (N := 126) (As := [.int (iI (x1))]) (rest := []) hx hb hml hown hts hp hS hl.size ok680.1 ok680.2.1 ok680.2.2 rfl (by decide) (c13_doesFurther l D cA B S S680 (x0) (x1) v680 h680) rfl rfl kd13_doesFurther (kl13_776) ks13_doesFurther kv13_doesFurther ki13 kh13_doesFurther ⟨Nat.le_of_ble_eq_true rfl, Nat.le_of_ble_eq_true rfl⟩ rfl (by simp [e_rv_cat, e_int_cat]) ⟨Nat.le_refl _, Nat.le_refl _⟩ dX13_doesPlain_680 rfl (fun H locs hp hS => ?_)
        obtain ⟨hz, hz1, hz2⟩ := zR_some hsh
        rw [← hz1, ← hz2]
        exact e_zret hx hb hrt hlk hp hS hz dX13_doesPlain_683
      · rw [if_neg c4_2] at hsh
        by_cases c4_3 : iW (v1) = 25
        · rw [if_pos c4_3] at hsh
          refine lv_tableIn (off := 674) (tgt := 678) hx hb dX13_doesPlain_4 (by show ¬ iW (v1) < _; rw [c4_3]; decide) (by show ¬ _ < iW (v1); rw [c4_3]; decide) (by show _[(iW (v1) - _).toNat]? = _; rw [c4_3]; rfl) (by decide) ?_
          refine e_aload_n (B := B) (x := x0) hx hb dX13_doesPlain_678 rfl (hl.at 0 rfl) ?_
          refine lv_iload_n hx hb dX13_doesPlain_679 rfl (hl.at 1 rfl) ?_
          obtain ⟨⟨v680, S680⟩, h680, hsh⟩ := Option.bind_eq_some_iff.mp hsh
          have hsh : _ = _ := hsh
          try dsimp only at hsh
          have ok680 := ok13_doesFurther h680
          refine e_callI (nL := 2) (mc := 0) (ms := 0) (T := TX13) (N := 126) (As := [.int (iI (x1))]) (rest := []) hx hb hml hown hts hp hS hl.size ok680.1 ok680.2.1 ok680.2.2 rfl (by decide) (c13_doesFurther l D cA B S S680 (x0) (x1) v680 h680) rfl rfl kd13_doesFurther (kl13_776) ks13_doesFurther kv13_doesFurther ki13 kh13_doesFurther ⟨Nat.le_of_ble_eq_true rfl, Nat.le_of_ble_eq_true rfl⟩ rfl (by simp [e_rv_cat, e_int_cat]) ⟨Nat.le_refl _, Nat.le_refl _⟩ dX13_doesPlain_680 rfl (fun H locs hp hS => ?_)
          obtain ⟨hz, hz1, hz2⟩ := zR_some hsh
          rw [← hz1, ← hz2]
          exact e_zret hx hb hrt hlk hp hS hz dX13_doesPlain_683
        · rw [if_neg c4_3] at hsh
          by_cases c4_4 : iW (v1) = 26
          · rw [if_pos c4_4] at hsh
            refine lv_tableIn (off := 674) (tgt := 678) hx hb dX13_doesPlain_4 (by show ¬ iW (v1) < _; rw [c4_4]; decide) (by show ¬ _ < iW (v1); rw [c4_4]; decide) (by show _[(iW (v1) - _).toNat]? = _; rw [c4_4]; rfl) (by decide) ?_
            refine e_aload_n (B := B) (x := x0) hx hb dX13_doesPlain_678 rfl (hl.at 0 rfl) ?_
            refine lv_iload_n hx hb dX13_doesPlain_679 rfl (hl.at 1 rfl) ?_
            obtain ⟨⟨v680, S680⟩, h680, hsh⟩ := Option.bind_eq_some_iff.mp hsh
            have hsh : _ = _ := hsh
            try dsimp only at hsh
            have ok680 := ok13_doesFurther h680
            refine e_callI (nL := 2) (mc := 0) (ms := 0) (T := TX13) (N := 126) (As := [.int (iI (x1))]) (rest := []) hx hb hml hown hts hp hS hl.size ok680.1 ok680.2.1 ok680.2.2 rfl (by decide) (c13_doesFurther l D cA B S S680 (x0) (x1) v680 h680) rfl rfl kd13_doesFurther (kl13_776) ks13_doesFurther kv13_doesFurther ki13 kh13_doesFurther ⟨Nat.le_of_ble_eq_true rfl, Nat.le_of_ble_eq_true rfl⟩ rfl (by simp [e_rv_cat, e_int_cat]) ⟨Nat.le_refl _, Nat.le_refl _⟩ dX13_doesPlain_680 rfl (fun H locs hp hS => ?_)
            obtain ⟨hz, hz1, hz2⟩ := zR_some hsh
            rw [← hz1, ← hz2]
            exact e_zret hx hb hrt hlk hp hS hz dX13_doesPlain_683
          · rw [if_neg c4_4] at hsh
            by_cases c4_5 : iW (v1) = 27
            · rw [if_pos c4_5] at hsh
              refine lv_tableIn (off := 674) (tgt := 678) hx hb dX13_doesPlain_4 (by show ¬ iW (v1) < _; rw [c4_5]; decide) (by show ¬ _ < iW (v1); rw [c4_5]; decide) (by show _[(iW (v1) - _).toNat]? = _; rw [c4_5]; rfl) (by decide) ?_
              refine e_aload_n (B := B) (x := x0) hx hb dX13_doesPlain_678 rfl (hl.at 0 rfl) ?_
              refine lv_iload_n hx hb dX13_doesPlain_679 rfl (hl.at 1 rfl) ?_
              obtain ⟨⟨v680, S680⟩, h680, hsh⟩ := Option.bind_eq_some_iff.mp hsh
              have hsh : _ = _ := hsh
              try dsimp only at hsh
              have ok680 := ok13_doesFurther h680
              refine e_callI (nL := 2) (mc := 0) (ms := 0) (T := TX13) (N := 126) (As := [.int (iI (x1))]) (rest := []) hx hb hml hown hts hp hS hl.size ok680.1 ok680.2.1 ok680.2.2 rfl (by decide) (c13_doesFurther l D cA B S S680 (x0) (x1) v680 h680) rfl rfl kd13_doesFurther (kl13_776) ks13_doesFurther kv13_doesFurther ki13 kh13_doesFurther ⟨Nat.le_of_ble_eq_true rfl, Nat.le_of_ble_eq_true rfl⟩ rfl (by simp [e_rv_cat, e_int_cat]) ⟨Nat.le_refl _, Nat.le_refl _⟩ dX13_doesPlain_680 rfl (fun H locs hp hS => ?_)
              obtain ⟨hz, hz1, hz2⟩ := zR_some hsh
              rw [← hz1, ← hz2]
              exact e_zret hx hb hrt hlk hp hS hz dX13_doesPlain_683
            · rw [if_neg c4_5] at hsh
              by_cases c4_6 : iW (v1) = 28
              · rw [if_pos c4_6] at hsh
                refine lv_tableIn (off := 674) (tgt := 678) hx hb dX13_doesPlain_4 (by show ¬ iW (v1) < _; rw [c4_6]; decide) (by show ¬ _ < iW (v1); rw [c4_6]; decide) (by show _[(iW (v1) - _).toNat]? = _; rw [c4_6]; rfl) (by decide) ?_
                refine e_aload_n (B := B) (x := x0) hx hb dX13_doesPlain_678 rfl (hl.at 0 rfl) ?_
                refine lv_iload_n hx hb dX13_doesPlain_679 rfl (hl.at 1 rfl) ?_
                obtain ⟨⟨v680, S680⟩, h680, hsh⟩ := Option.bind_eq_some_iff.mp hsh
                have hsh : _ = _ := hsh
                try dsimp only at hsh
                have ok680 := ok13_doesFurther h680
                refine e_callI (nL := 2) (mc := 0) (ms := 0) (T := TX13) (N := 126) (As := [.int (iI (x1))]) (rest := []) hx hb hml hown hts hp hS hl.size ok680.1 ok680.2.1 ok680.2.2 rfl (by decide) (c13_doesFurther l D cA B S S680 (x0) (x1) v680 h680) rfl rfl kd13_doesFurther (kl13_776) ks13_doesFurther kv13_doesFurther ki13 kh13_doesFurther ⟨Nat.le_of_ble_eq_true rfl, Nat.le_of_ble_eq_true rfl⟩ rfl (by simp [e_rv_cat, e_int_cat]) ⟨Nat.le_refl _, Nat.le_refl _⟩ dX13_doesPlain_680 rfl (fun H locs hp hS => ?_)
                obtain ⟨hz, hz1, hz2⟩ := zR_some hsh
                rw [← hz1, ← hz2]
                exact e_zret hx hb hrt hlk hp hS hz dX13_doesPlain_683
              · rw [if_neg c4_6] at hsh
                by_cases c4_7 : iW (v1) = 29
                · rw [if_pos c4_7] at hsh
                  refine lv_tableIn (off := 674) (tgt := 678) hx hb dX13_doesPlain_4 (by show ¬ iW (v1) < _; rw [c4_7]; decide) (by show ¬ _ < iW (v1); rw [c4_7]; decide) (by show _[(iW (v1) - _).toNat]? = _; rw [c4_7]; rfl) (by decide) ?_
                  refine e_aload_n (B := B) (x := x0) hx hb dX13_doesPlain_678 rfl (hl.at 0 rfl) ?_
                  refine lv_iload_n hx hb dX13_doesPlain_679 rfl (hl.at 1 rfl) ?_
                  obtain ⟨⟨v680, S680⟩, h680, hsh⟩ := Option.bind_eq_some_iff.mp hsh
                  have hsh : _ = _ := hsh
                  try dsimp only at hsh
                  have ok680 := ok13_doesFurther h680
                  refine e_callI (nL := 2) (mc := 0) (ms := 0) (T := TX13) (N := 126) (As := [.int (iI (x1))]) (rest := []) hx hb hml hown hts hp hS hl.size ok680.1 ok680.2.1 ok680.2.2 rfl (by decide) (c13_doesFurther l D cA B S S680 (x0) (x1) v680 h680) rfl rfl kd13_doesFurther (kl13_776) ks13_doesFurther kv13_doesFurther ki13 kh13_doesFurther ⟨Nat.le_of_ble_eq_true rfl, Nat.le_of_ble_eq_true rfl⟩ rfl (by simp [e_rv_cat, e_int_cat]) ⟨Nat.le_refl _, Nat.le_refl _⟩ dX13_doesPlain_680 rfl (fun H locs hp hS => ?_)
                  obtain ⟨hz, hz1, hz2⟩ := zR_some hsh
                  rw [← hz1, ← hz2]
                  exact e_zret hx hb hrt hlk hp hS hz dX13_doesPlain_683
                · rw [if_neg c4_7] at hsh
                  by_cases c4_8 : iW (v1) = 30
                  · rw [if_pos c4_8] at hsh
                    refine lv_tableIn (off := 674) (tgt := 678) hx hb dX13_doesPlain_4 (by show ¬ iW (v1) < _; rw [c4_8]; decide) (by show ¬ _ < iW (v1); rw [c4_8]; decide) (by show _[(iW (v1) - _).toNat]? = _; rw [c4_8]; rfl) (by decide) ?_
                    refine e_aload_n (B := B) (x := x0) hx hb dX13_doesPlain_678 rfl (hl.at 0 rfl) ?_
                    refine lv_iload_n hx hb dX13_doesPlain_679 rfl (hl.at 1 rfl) ?_
                    obtain ⟨⟨v680, S680⟩, h680, hsh⟩ := Option.bind_eq_some_iff.mp hsh
                    have hsh : _ = _ := hsh
                    try dsimp only at hsh
                    have ok680 := ok13_doesFurther h680
                    refine e_callI (nL := 2) (mc := 0) (ms := 0) (T := TX13) (N := 126) (As := [.int (iI (x1))]) (rest := []) hx hb hml hown hts hp hS hl.size ok680.1 ok680.2.1 ok680.2.2 rfl (by decide) (c13_doesFurther l D cA B S S680 (x0) (x1) v680 h680) rfl rfl kd13_doesFurther (kl13_776) ks13_doesFurther kv13_doesFurther ki13 kh13_doesFurther ⟨Nat.le_of_ble_eq_true rfl, Nat.le_of_ble_eq_true rfl⟩ rfl (by simp [e_rv_cat, e_int_cat]) ⟨Nat.le_refl _, Nat.le_refl _⟩ dX13_doesPlain_680 rfl (fun H locs hp hS => ?_)
                    obtain ⟨hz, hz1, hz2⟩ := zR_some hsh
                    rw [← hz1, ← hz2]
                    exact e_zret hx hb hrt hlk hp hS hz dX13_doesPlain_683
                  · rw [if_neg c4_8] at hsh
                    by_cases c4_9 : iW (v1) = 31
                    · rw [if_pos c4_9] at hsh
                      refine lv_tableIn (off := 674) (tgt := 678) hx hb dX13_doesPlain_4 (by show ¬ iW (v1) < _; rw [c4_9]; decide) (by show ¬ _ < iW (v1); rw [c4_9]; decide) (by show _[(iW (v1) - _).toNat]? = _; rw [c4_9]; rfl) (by decide) ?_
                      refine e_aload_n (B := B) (x := x0) hx hb dX13_doesPlain_678 rfl (hl.at 0 rfl) ?_
                      refine lv_iload_n hx hb dX13_doesPlain_679 rfl (hl.at 1 rfl) ?_
                      obtain ⟨⟨v680, S680⟩, h680, hsh⟩ := Option.bind_eq_some_iff.mp hsh
                      have hsh : _ = _ := hsh
                      try dsimp only at hsh
                      have ok680 := ok13_doesFurther h680
                      refine e_callI (nL := 2) (mc := 0) (ms := 0) (T := TX13) (N := 126) (As := [.int (iI (x1))]) (rest := []) hx hb hml hown hts hp hS hl.size ok680.1 ok680.2.1 ok680.2.2 rfl (by decide) (c13_doesFurther l D cA B S S680 (x0) (x1) v680 h680) rfl rfl kd13_doesFurther (kl13_776) ks13_doesFurther kv13_doesFurther ki13 kh13_doesFurther ⟨Nat.le_of_ble_eq_true rfl, Nat.le_of_ble_eq_true rfl⟩ rfl (by simp [e_rv_cat, e_int_cat]) ⟨Nat.le_refl _, Nat.le_refl _⟩ dX13_doesPlain_680 rfl (fun H locs hp hS => ?_)
                      obtain ⟨hz, hz1, hz2⟩ := zR_some hsh
                      rw [← hz1, ← hz2]
                      exact e_zret hx hb hrt hlk hp hS hz dX13_doesPlain_683
                    · rw [if_neg c4_9] at hsh
                      by_cases c4_10 : iW (v1) = 32
                      · rw [if_pos c4_10] at hsh
                        refine lv_tableIn (off := 674) (tgt := 678) hx hb dX13_doesPlain_4 (by show ¬ iW (v1) < _; rw [c4_10]; decide) (by show ¬ _ < iW (v1); rw [c4_10]; decide) (by show _[(iW (v1) - _).toNat]? = _; rw [c4_10]; rfl) (by decide) ?_
                        refine e_aload_n (B := B) (x := x0) hx hb dX13_doesPlain_678 rfl (hl.at 0 rfl) ?_
                        refine lv_iload_n hx hb dX13_doesPlain_679 rfl (hl.at 1 rfl) ?_
                        obtain ⟨⟨v680, S680⟩, h680, hsh⟩ := Option.bind_eq_some_iff.mp hsh
                        have hsh : _ = _ := hsh
                        try dsimp only at hsh
                        have ok680 := ok13_doesFurther h680
                        refine e_callI (nL := 2) (mc := 0) (ms := 0) (T := TX13) (N := 126) (As := [.int (iI (x1))]) (rest := []) hx hb hml hown hts hp hS hl.size ok680.1 ok680.2.1 ok680.2.2 rfl (by decide) (c13_doesFurther l D cA B S S680 (x0) (x1) v680 h680) rfl rfl kd13_doesFurther (kl13_776) ks13_doesFurther kv13_doesFurther ki13 kh13_doesFurther ⟨Nat.le_of_ble_eq_true rfl, Nat.le_of_ble_eq_true rfl⟩ rfl (by simp [e_rv_cat, e_int_cat]) ⟨Nat.le_refl _, Nat.le_refl _⟩ dX13_doesPlain_680 rfl (fun H locs hp hS => ?_)
                        obtain ⟨hz, hz1, hz2⟩ := zR_some hsh
                        rw [← hz1, ← hz2]
                        exact e_zret hx hb hrt hlk hp hS hz dX13_doesPlain_683
                      · rw [if_neg c4_10] at hsh
                        by_cases c4_11 : iW (v1) = 33
                        · rw [if_pos c4_11] at hsh
                          refine lv_tableIn (off := 674) (tgt := 678) hx hb dX13_doesPlain_4 (by show ¬ iW (v1) < _; rw [c4_11]; decide) (by show ¬ _ < iW (v1); rw [c4_11]; decide) (by show _[(iW (v1) - _).toNat]? = _; rw [c4_11]; rfl) (by decide) ?_
                          refine e_aload_n (B := B) (x := x0) hx hb dX13_doesPlain_678 rfl (hl.at 0 rfl) ?_
                          refine lv_iload_n hx hb dX13_doesPlain_679 rfl (hl.at 1 rfl) ?_
                          obtain ⟨⟨v680, S680⟩, h680, hsh⟩ := Option.bind_eq_some_iff.mp hsh
                          have hsh : _ = _ := hsh
                          try dsimp only at hsh
                          have ok680 := ok13_doesFurther h680
                          refine e_callI (nL := 2) (mc := 0) (ms := 0) (T := TX13) (N := 126) (As := [.int (iI (x1))]) (rest := []) hx hb hml hown hts hp hS hl.size ok680.1 ok680.2.1 ok680.2.2 rfl (by decide) (c13_doesFurther l D cA B S S680 (x0) (x1) v680 h680) rfl rfl kd13_doesFurther (kl13_776) ks13_doesFurther kv13_doesFurther ki13 kh13_doesFurther ⟨Nat.le_of_ble_eq_true rfl, Nat.le_of_ble_eq_true rfl⟩ rfl (by simp [e_rv_cat, e_int_cat]) ⟨Nat.le_refl _, Nat.le_refl _⟩ dX13_doesPlain_680 rfl (fun H locs hp hS => ?_)
                          obtain ⟨hz, hz1, hz2⟩ := zR_some hsh
                          rw [← hz1, ← hz2]
                          exact e_zret hx hb hrt hlk hp hS hz dX13_doesPlain_683
                        · rw [if_neg c4_11] at hsh
                          by_cases c4_12 : iW (v1) = 34
                          · rw [if_pos c4_12] at hsh
                            refine lv_tableIn (off := 674) (tgt := 678) hx hb dX13_doesPlain_4 (by show ¬ iW (v1) < _; rw [c4_12]; decide) (by show ¬ _ < iW (v1); rw [c4_12]; decide) (by show _[(iW (v1) - _).toNat]? = _; rw [c4_12]; rfl) (by decide) ?_
                            refine e_aload_n (B := B) (x := x0) hx hb dX13_doesPlain_678 rfl (hl.at 0 rfl) ?_
                            refine lv_iload_n hx hb dX13_doesPlain_679 rfl (hl.at 1 rfl) ?_
                            obtain ⟨⟨v680, S680⟩, h680, hsh⟩ := Option.bind_eq_some_iff.mp hsh
                            have hsh : _ = _ := hsh
                            try dsimp only at hsh
                            have ok680 := ok13_doesFurther h680
                            refine e_callI (nL := 2) (mc := 0) (ms := 0) (T := TX13) (N := 126) (As := [.int (iI (x1))]) (rest := []) hx hb hml hown hts hp hS hl.size ok680.1 ok680.2.1 ok680.2.2 rfl (by decide) (c13_doesFurther l D cA B S S680 (x0) (x1) v680 h680) rfl rfl kd13_doesFurther (kl13_776) ks13_doesFurther kv13_doesFurther ki13 kh13_doesFurther ⟨Nat.le_of_ble_eq_true rfl, Nat.le_of_ble_eq_true rfl⟩ rfl (by simp [e_rv_cat, e_int_cat]) ⟨Nat.le_refl _, Nat.le_refl _⟩ dX13_doesPlain_680 rfl (fun H locs hp hS => ?_)
                            obtain ⟨hz, hz1, hz2⟩ := zR_some hsh
                            rw [← hz1, ← hz2]
                            exact e_zret hx hb hrt hlk hp hS hz dX13_doesPlain_683
                          · rw [if_neg c4_12] at hsh
                            by_cases c4_13 : iW (v1) = 35
                            · rw [if_pos c4_13] at hsh
                              refine lv_tableIn (off := 674) (tgt := 678) hx hb dX13_doesPlain_4 (by show ¬ iW (v1) < _; rw [c4_13]; decide) (by show ¬ _ < iW (v1); rw [c4_13]; decide) (by show _[(iW (v1) - _).toNat]? = _; rw [c4_13]; rfl) (by decide) ?_
                              refine e_aload_n (B := B) (x := x0) hx hb dX13_doesPlain_678 rfl (hl.at 0 rfl) ?_
                              refine lv_iload_n hx hb dX13_doesPlain_679 rfl (hl.at 1 rfl) ?_
                              obtain ⟨⟨v680, S680⟩, h680, hsh⟩ := Option.bind_eq_some_iff.mp hsh
                              have hsh : _ = _ := hsh
                              try dsimp only at hsh
                              have ok680 := ok13_doesFurther h680
                              refine e_callI (nL := 2) (mc := 0) (ms := 0) (T := TX13) (N := 126) (As := [.int (iI (x1))]) (rest := []) hx hb hml hown hts hp hS hl.size ok680.1 ok680.2.1 ok680.2.2 rfl (by decide) (c13_doesFurther l D cA B S S680 (x0) (x1) v680 h680) rfl rfl kd13_doesFurther (kl13_776) ks13_doesFurther kv13_doesFurther ki13 kh13_doesFurther ⟨Nat.le_of_ble_eq_true rfl, Nat.le_of_ble_eq_true rfl⟩ rfl (by simp [e_rv_cat, e_int_cat]) ⟨Nat.le_refl _, Nat.le_refl _⟩ dX13_doesPlain_680 rfl (fun H locs hp hS => ?_)
                              obtain ⟨hz, hz1, hz2⟩ := zR_some hsh
                              rw [← hz1, ← hz2]
                              exact e_zret hx hb hrt hlk hp hS hz dX13_doesPlain_683
                            · rw [if_neg c4_13] at hsh
                              by_cases c4_14 : iW (v1) = 36
                              · rw [if_pos c4_14] at hsh
                                refine lv_tableIn (off := 674) (tgt := 678) hx hb dX13_doesPlain_4 (by show ¬ iW (v1) < _; rw [c4_14]; decide) (by show ¬ _ < iW (v1); rw [c4_14]; decide) (by show _[(iW (v1) - _).toNat]? = _; rw [c4_14]; rfl) (by decide) ?_
                                refine e_aload_n (B := B) (x := x0) hx hb dX13_doesPlain_678 rfl (hl.at 0 rfl) ?_
                                refine lv_iload_n hx hb dX13_doesPlain_679 rfl (hl.at 1 rfl) ?_
                                obtain ⟨⟨v680, S680⟩, h680, hsh⟩ := Option.bind_eq_some_iff.mp hsh
                                have hsh : _ = _ := hsh
                                try dsimp only at hsh
                                have ok680 := ok13_doesFurther h680
                                refine e_callI (nL := 2) (mc := 0) (ms := 0) (T := TX13) (N := 126) (As := [.int (iI (x1))]) (rest := []) hx hb hml hown hts hp hS hl.size ok680.1 ok680.2.1 ok680.2.2 rfl (by decide) (c13_doesFurther l D cA B S S680 (x0) (x1) v680 h680) rfl rfl kd13_doesFurther (kl13_776) ks13_doesFurther kv13_doesFurther ki13 kh13_doesFurther ⟨Nat.le_of_ble_eq_true rfl, Nat.le_of_ble_eq_true rfl⟩ rfl (by simp [e_rv_cat, e_int_cat]) ⟨Nat.le_refl _, Nat.le_refl _⟩ dX13_doesPlain_680 rfl (fun H locs hp hS => ?_)
                                obtain ⟨hz, hz1, hz2⟩ := zR_some hsh
                                rw [← hz1, ← hz2]
                                exact e_zret hx hb hrt hlk hp hS hz dX13_doesPlain_683
                              · rw [if_neg c4_14] at hsh
                                by_cases c4_15 : iW (v1) = 37
                                · rw [if_pos c4_15] at hsh
                                  refine lv_tableIn (off := 674) (tgt := 678) hx hb dX13_doesPlain_4 (by show ¬ iW (v1) < _; rw [c4_15]; decide) (by show ¬ _ < iW (v1); rw [c4_15]; decide) (by show _[(iW (v1) - _).toNat]? = _; rw [c4_15]; rfl) (by decide) ?_
                                  refine e_aload_n (B := B) (x := x0) hx hb dX13_doesPlain_678 rfl (hl.at 0 rfl) ?_
                                  refine lv_iload_n hx hb dX13_doesPlain_679 rfl (hl.at 1 rfl) ?_
                                  obtain ⟨⟨v680, S680⟩, h680, hsh⟩ := Option.bind_eq_some_iff.mp hsh
                                  have hsh : _ = _ := hsh
                                  try dsimp only at hsh
                                  have ok680 := ok13_doesFurther h680
                                  refine e_callI (nL := 2) (mc := 0) (ms := 0) (T := TX13) (N := 126) (As := [.int (iI (x1))]) (rest := []) hx hb hml hown hts hp hS hl.size ok680.1 ok680.2.1 ok680.2.2 rfl (by decide) (c13_doesFurther l D cA B S S680 (x0) (x1) v680 h680) rfl rfl kd13_doesFurther (kl13_776) ks13_doesFurther kv13_doesFurther ki13 kh13_doesFurther ⟨Nat.le_of_ble_eq_true rfl, Nat.le_of_ble_eq_true rfl⟩ rfl (by simp [e_rv_cat, e_int_cat]) ⟨Nat.le_refl _, Nat.le_refl _⟩ dX13_doesPlain_680 rfl (fun H locs hp hS => ?_)
                                  obtain ⟨hz, hz1, hz2⟩ := zR_some hsh
                                  rw [← hz1, ← hz2]
                                  exact e_zret hx hb hrt hlk hp hS hz dX13_doesPlain_683
                                · rw [if_neg c4_15] at hsh
                                  by_cases c4_16 : iW (v1) = 38
                                  · rw [if_pos c4_16] at hsh
                                    refine lv_tableIn (off := 674) (tgt := 678) hx hb dX13_doesPlain_4 (by show ¬ iW (v1) < _; rw [c4_16]; decide) (by show ¬ _ < iW (v1); rw [c4_16]; decide) (by show _[(iW (v1) - _).toNat]? = _; rw [c4_16]; rfl) (by decide) ?_
                                    refine e_aload_n (B := B) (x := x0) hx hb dX13_doesPlain_678 rfl (hl.at 0 rfl) ?_
                                    refine lv_iload_n hx hb dX13_doesPlain_679 rfl (hl.at 1 rfl) ?_
                                    obtain ⟨⟨v680, S680⟩, h680, hsh⟩ := Option.bind_eq_some_iff.mp hsh
                                    have hsh : _ = _ := hsh
                                    try dsimp only at hsh
                                    have ok680 := ok13_doesFurther h680
                                    refine e_callI (nL := 2) (mc := 0) (ms := 0) (T := TX13) (N := 126) (As := [.int (iI (x1))]) (rest := []) hx hb hml hown hts hp hS hl.size ok680.1 ok680.2.1 ok680.2.2 rfl (by decide) (c13_doesFurther l D cA B S S680 (x0) (x1) v680 h680) rfl rfl kd13_doesFurther (kl13_776) ks13_doesFurther kv13_doesFurther ki13 kh13_doesFurther ⟨Nat.le_of_ble_eq_true rfl, Nat.le_of_ble_eq_true rfl⟩ rfl (by simp [e_rv_cat, e_int_cat]) ⟨Nat.le_refl _, Nat.le_refl _⟩ dX13_doesPlain_680 rfl (fun H locs hp hS => ?_)
                                    obtain ⟨hz, hz1, hz2⟩ := zR_some hsh
                                    rw [← hz1, ← hz2]
                                    exact e_zret hx hb hrt hlk hp hS hz dX13_doesPlain_683
                                  · rw [if_neg c4_16] at hsh
                                    by_cases c4_17 : iW (v1) = 39
                                    · rw [if_pos c4_17] at hsh
                                      refine lv_tableIn (off := 674) (tgt := 678) hx hb dX13_doesPlain_4 (by show ¬ iW (v1) < _; rw [c4_17]; decide) (by show ¬ _ < iW (v1); rw [c4_17]; decide) (by show _[(iW (v1) - _).toNat]? = _; rw [c4_17]; rfl) (by decide) ?_
                                      refine e_aload_n (B := B) (x := x0) hx hb dX13_doesPlain_678 rfl (hl.at 0 rfl) ?_
                                      refine lv_iload_n hx hb dX13_doesPlain_679 rfl (hl.at 1 rfl) ?_
                                      obtain ⟨⟨v680, S680⟩, h680, hsh⟩ := Option.bind_eq_some_iff.mp hsh
                                      have hsh : _ = _ := hsh
                                      try dsimp only at hsh
                                      have ok680 := ok13_doesFurther h680
                                      refine e_callI (nL := 2) (mc := 0) (ms := 0) (T := TX13) (N := 126) (As := [.int (iI (x1))]) (rest := []) hx hb hml hown hts hp hS hl.size ok680.1 ok680.2.1 ok680.2.2 rfl (by decide) (c13_doesFurther l D cA B S S680 (x0) (x1) v680 h680) rfl rfl kd13_doesFurther (kl13_776) ks13_doesFurther kv13_doesFurther ki13 kh13_doesFurther ⟨Nat.le_of_ble_eq_true rfl, Nat.le_of_ble_eq_true rfl⟩ rfl (by simp [e_rv_cat, e_int_cat]) ⟨Nat.le_refl _, Nat.le_refl _⟩ dX13_doesPlain_680 rfl (fun H locs hp hS => ?_)
                                      obtain ⟨hz, hz1, hz2⟩ := zR_some hsh
                                      rw [← hz1, ← hz2]
                                      exact e_zret hx hb hrt hlk hp hS hz dX13_doesPlain_683
                                    · rw [if_neg c4_17] at hsh
                                      by_cases c4_18 : iW (v1) = 40
                                      · rw [if_pos c4_18] at hsh
                                        refine lv_tableIn (off := 674) (tgt := 678) hx hb dX13_doesPlain_4 (by show ¬ iW (v1) < _; rw [c4_18]; decide) (by show ¬ _ < iW (v1); rw [c4_18]; decide) (by show _[(iW (v1) - _).toNat]? = _; rw [c4_18]; rfl) (by decide) ?_
                                        refine e_aload_n (B := B) (x := x0) hx hb dX13_doesPlain_678 rfl (hl.at 0 rfl) ?_
                                        refine lv_iload_n hx hb dX13_doesPlain_679 rfl (hl.at 1 rfl) ?_
                                        obtain ⟨⟨v680, S680⟩, h680, hsh⟩ := Option.bind_eq_some_iff.mp hsh
                                        have hsh : _ = _ := hsh
                                        try dsimp only at hsh
                                        have ok680 := ok13_doesFurther h680
                                        refine e_callI (nL := 2) (mc := 0) (ms := 0) (T := TX13) (N := 126) (As := [.int (iI (x1))]) (rest := []) hx hb hml hown hts hp hS hl.size ok680.1 ok680.2.1 ok680.2.2 rfl (by decide) (c13_doesFurther l D cA B S S680 (x0) (x1) v680 h680) rfl rfl kd13_doesFurther (kl13_776) ks13_doesFurther kv13_doesFurther ki13 kh13_doesFurther ⟨Nat.le_of_ble_eq_true rfl, Nat.le_of_ble_eq_true rfl⟩ rfl (by simp [e_rv_cat, e_int_cat]) ⟨Nat.le_refl _, Nat.le_refl _⟩ dX13_doesPlain_680 rfl (fun H locs hp hS => ?_)
                                        obtain ⟨hz, hz1, hz2⟩ := zR_some hsh
                                        rw [← hz1, ← hz2]
                                        exact e_zret hx hb hrt hlk hp hS hz dX13_doesPlain_683
                                      · rw [if_neg c4_18] at hsh
                                        by_cases c4_19 : iW (v1) = 41
                                        · rw [if_pos c4_19] at hsh
                                          refine lv_tableIn (off := 674) (tgt := 678) hx hb dX13_doesPlain_4 (by show ¬ iW (v1) < _; rw [c4_19]; decide) (by show ¬ _ < iW (v1); rw [c4_19]; decide) (by show _[(iW (v1) - _).toNat]? = _; rw [c4_19]; rfl) (by decide) ?_
                                          refine e_aload_n (B := B) (x := x0) hx hb dX13_doesPlain_678 rfl (hl.at 0 rfl) ?_
                                          refine lv_iload_n hx hb dX13_doesPlain_679 rfl (hl.at 1 rfl) ?_
                                          obtain ⟨⟨v680, S680⟩, h680, hsh⟩ := Option.bind_eq_some_iff.mp hsh
                                          have hsh : _ = _ := hsh
                                          try dsimp only at hsh
                                          have ok680 := ok13_doesFurther h680
                                          refine e_callI (nL := 2) (mc := 0) (ms := 0) (T := TX13) (N := 126) (As := [.int (iI (x1))]) (rest := []) hx hb hml hown hts hp hS hl.size ok680.1 ok680.2.1 ok680.2.2 rfl (by decide) (c13_doesFurther l D cA B S S680 (x0) (x1) v680 h680) rfl rfl kd13_doesFurther (kl13_776) ks13_doesFurther kv13_doesFurther ki13 kh13_doesFurther ⟨Nat.le_of_ble_eq_true rfl, Nat.le_of_ble_eq_true rfl⟩ rfl (by simp [e_rv_cat, e_int_cat]) ⟨Nat.le_refl _, Nat.le_refl _⟩ dX13_doesPlain_680 rfl (fun H locs hp hS => ?_)
                                          obtain ⟨hz, hz1, hz2⟩ := zR_some hsh
                                          rw [← hz1, ← hz2]
                                          exact e_zret hx hb hrt hlk hp hS hz dX13_doesPlain_683
                                        · rw [if_neg c4_19] at hsh
                                          by_cases c4_20 : iW (v1) = 42
                                          · rw [if_pos c4_20] at hsh
                                            refine lv_tableIn (off := 674) (tgt := 678) hx hb dX13_doesPlain_4 (by show ¬ iW (v1) < _; rw [c4_20]; decide) (by show ¬ _ < iW (v1); rw [c4_20]; decide) (by show _[(iW (v1) - _).toNat]? = _; rw [c4_20]; rfl) (by decide) ?_
                                            refine e_aload_n (B := B) (x := x0) hx hb dX13_doesPlain_678 rfl (hl.at 0 rfl) ?_
                                            refine lv_iload_n hx hb dX13_doesPlain_679 rfl (hl.at 1 rfl) ?_
                                            obtain ⟨⟨v680, S680⟩, h680, hsh⟩ := Option.bind_eq_some_iff.mp hsh
                                            have hsh : _ = _ := hsh
                                            try dsimp only at hsh
                                            have ok680 := ok13_doesFurther h680
                                            refine e_callI (nL := 2) (mc := 0) (ms := 0) (T := TX13) (N := 126) (As := [.int (iI (x1))]) (rest := []) hx hb hml hown hts hp hS hl.size ok680.1 ok680.2.1 ok680.2.2 rfl (by decide) (c13_doesFurther l D cA B S S680 (x0) (x1) v680 h680) rfl rfl kd13_doesFurther (kl13_776) ks13_doesFurther kv13_doesFurther ki13 kh13_doesFurther ⟨Nat.le_of_ble_eq_true rfl, Nat.le_of_ble_eq_true rfl⟩ rfl (by simp [e_rv_cat, e_int_cat]) ⟨Nat.le_refl _, Nat.le_refl _⟩ dX13_doesPlain_680 rfl (fun H locs hp hS => ?_)
                                            obtain ⟨hz, hz1, hz2⟩ := zR_some hsh
                                            rw [← hz1, ← hz2]
                                            exact e_zret hx hb hrt hlk hp hS hz dX13_doesPlain_683
                                          · rw [if_neg c4_20] at hsh
                                            by_cases c4_21 : iW (v1) = 43
                                            · rw [if_pos c4_21] at hsh
                                              refine lv_tableIn (off := 674) (tgt := 678) hx hb dX13_doesPlain_4 (by show ¬ iW (v1) < _; rw [c4_21]; decide) (by show ¬ _ < iW (v1); rw [c4_21]; decide) (by show _[(iW (v1) - _).toNat]? = _; rw [c4_21]; rfl) (by decide) ?_
                                              refine e_aload_n (B := B) (x := x0) hx hb dX13_doesPlain_678 rfl (hl.at 0 rfl) ?_
                                              refine lv_iload_n hx hb dX13_doesPlain_679 rfl (hl.at 1 rfl) ?_
                                              obtain ⟨⟨v680, S680⟩, h680, hsh⟩ := Option.bind_eq_some_iff.mp hsh
                                              have hsh : _ = _ := hsh
                                              try dsimp only at hsh
                                              have ok680 := ok13_doesFurther h680
                                              refine e_callI (nL := 2) (mc := 0) (ms := 0) (T := TX13) (N := 126) (As := [.int (iI (x1))]) (rest := []) hx hb hml hown hts hp hS hl.size ok680.1 ok680.2.1 ok680.2.2 rfl (by decide) (c13_doesFurther l D cA B S S680 (x0) (x1) v680 h680) rfl rfl kd13_doesFurther (kl13_776) ks13_doesFurther kv13_doesFurther ki13 kh13_doesFurther ⟨Nat.le_of_ble_eq_true rfl, Nat.le_of_ble_eq_true rfl⟩ rfl (by simp [e_rv_cat, e_int_cat]) ⟨Nat.le_refl _, Nat.le_refl _⟩ dX13_doesPlain_680 rfl (fun H locs hp hS => ?_)
                                              obtain ⟨hz, hz1, hz2⟩ := zR_some hsh
                                              rw [← hz1, ← hz2]
                                              exact e_zret hx hb hrt hlk hp hS hz dX13_doesPlain_683
                                            · rw [if_neg c4_21] at hsh
                                              by_cases c4_22 : iW (v1) = 44
                                              · rw [if_pos c4_22] at hsh
                                                refine lv_tableIn (off := 674) (tgt := 678) hx hb dX13_doesPlain_4 (by show ¬ iW (v1) < _; rw [c4_22]; decide) (by show ¬ _ < iW (v1); rw [c4_22]; decide) (by show _[(iW (v1) - _).toNat]? = _; rw [c4_22]; rfl) (by decide) ?_
                                                refine e_aload_n (B := B) (x := x0) hx hb dX13_doesPlain_678 rfl (hl.at 0 rfl) ?_
                                                refine lv_iload_n hx hb dX13_doesPlain_679 rfl (hl.at 1 rfl) ?_
                                                obtain ⟨⟨v680, S680⟩, h680, hsh⟩ := Option.bind_eq_some_iff.mp hsh
                                                have hsh : _ = _ := hsh
                                                try dsimp only at hsh
                                                have ok680 := ok13_doesFurther h680
                                                refine e_callI (nL := 2) (mc := 0) (ms := 0) (T := TX13) (N := 126) (As := [.int (iI (x1))]) (rest := []) hx hb hml hown hts hp hS hl.size ok680.1 ok680.2.1 ok680.2.2 rfl (by decide) (c13_doesFurther l D cA B S S680 (x0) (x1) v680 h680) rfl rfl kd13_doesFurther (kl13_776) ks13_doesFurther kv13_doesFurther ki13 kh13_doesFurther ⟨Nat.le_of_ble_eq_true rfl, Nat.le_of_ble_eq_true rfl⟩ rfl (by simp [e_rv_cat, e_int_cat]) ⟨Nat.le_refl _, Nat.le_refl _⟩ dX13_doesPlain_680 rfl (fun H locs hp hS => ?_)
                                                obtain ⟨hz, hz1, hz2⟩ := zR_some hsh
                                                rw [← hz1, ← hz2]
                                                exact e_zret hx hb hrt hlk hp hS hz dX13_doesPlain_683
                                              · rw [if_neg c4_22] at hsh
                                                by_cases c4_23 : iW (v1) = 45
                                                · rw [if_pos c4_23] at hsh
                                                  refine lv_tableIn (off := 674) (tgt := 678) hx hb dX13_doesPlain_4 (by show ¬ iW (v1) < _; rw [c4_23]; decide) (by show ¬ _ < iW (v1); rw [c4_23]; decide) (by show _[(iW (v1) - _).toNat]? = _; rw [c4_23]; rfl) (by decide) ?_
                                                  refine e_aload_n (B := B) (x := x0) hx hb dX13_doesPlain_678 rfl (hl.at 0 rfl) ?_
                                                  refine lv_iload_n hx hb dX13_doesPlain_679 rfl (hl.at 1 rfl) ?_
                                                  obtain ⟨⟨v680, S680⟩, h680, hsh⟩ := Option.bind_eq_some_iff.mp hsh
                                                  have hsh : _ = _ := hsh
                                                  try dsimp only at hsh
                                                  have ok680 := ok13_doesFurther h680
                                                  refine e_callI (nL := 2) (mc := 0) (ms := 0) (T := TX13) (N := 126) (As := [.int (iI (x1))]) (rest := []) hx hb hml hown hts hp hS hl.size ok680.1 ok680.2.1 ok680.2.2 rfl (by decide) (c13_doesFurther l D cA B S S680 (x0) (x1) v680 h680) rfl rfl kd13_doesFurther (kl13_776) ks13_doesFurther kv13_doesFurther ki13 kh13_doesFurther ⟨Nat.le_of_ble_eq_true rfl, Nat.le_of_ble_eq_true rfl⟩ rfl (by simp [e_rv_cat, e_int_cat]) ⟨Nat.le_refl _, Nat.le_refl _⟩ dX13_doesPlain_680 rfl (fun H locs hp hS => ?_)
                                                  obtain ⟨hz, hz1, hz2⟩ := zR_some hsh
                                                  rw [← hz1, ← hz2]
                                                  exact e_zret hx hb hrt hlk hp hS hz dX13_doesPlain_683
                                                · rw [if_neg c4_23] at hsh
                                                  by_cases c4_24 : iW (v1) = 46
                                                  · rw [if_pos c4_24] at hsh
                                                    refine lv_tableIn (off := 674) (tgt := 678) hx hb dX13_doesPlain_4 (by show ¬ iW (v1) < _; rw [c4_24]; decide) (by show ¬ _ < iW (v1); rw [c4_24]; decide) (by show _[(iW (v1) - _).toNat]? = _; rw [c4_24]; rfl) (by decide) ?_
                                                    refine e_aload_n (B := B) (x := x0) hx hb dX13_doesPlain_678 rfl (hl.at 0 rfl) ?_
                                                    refine lv_iload_n hx hb dX13_doesPlain_679 rfl (hl.at 1 rfl) ?_
                                                    obtain ⟨⟨v680, S680⟩, h680, hsh⟩ := Option.bind_eq_some_iff.mp hsh
                                                    have hsh : _ = _ := hsh
                                                    try dsimp only at hsh
                                                    have ok680 := ok13_doesFurther h680
                                                    refine e_callI (nL := 2) (mc := 0) (ms := 0) (T := TX13) (N := 126) (As := [.int (iI (x1))]) (rest := []) hx hb hml hown hts hp hS hl.size ok680.1 ok680.2.1 ok680.2.2 rfl (by decide) (c13_doesFurther l D cA B S S680 (x0) (x1) v680 h680) rfl rfl kd13_doesFurther (kl13_776) ks13_doesFurther kv13_doesFurther ki13 kh13_doesFurther ⟨Nat.le_of_ble_eq_true rfl, Nat.le_of_ble_eq_true rfl⟩ rfl (by simp [e_rv_cat, e_int_cat]) ⟨Nat.le_refl _, Nat.le_refl _⟩ dX13_doesPlain_680 rfl (fun H locs hp hS => ?_)
                                                    obtain ⟨hz, hz1, hz2⟩ := zR_some hsh
                                                    rw [← hz1, ← hz2]
                                                    exact e_zret hx hb hrt hlk hp hS hz dX13_doesPlain_683
                                                  · rw [if_neg c4_24] at hsh
                                                    by_cases c4_25 : iW (v1) = 47
                                                    · rw [if_pos c4_25] at hsh
                                                      refine lv_tableIn (off := 674) (tgt := 678) hx hb dX13_doesPlain_4 (by show ¬ iW (v1) < _; rw [c4_25]; decide) (by show ¬ _ < iW (v1); rw [c4_25]; decide) (by show _[(iW (v1) - _).toNat]? = _; rw [c4_25]; rfl) (by decide) ?_
                                                      refine e_aload_n (B := B) (x := x0) hx hb dX13_doesPlain_678 rfl (hl.at 0 rfl) ?_
                                                      refine lv_iload_n hx hb dX13_doesPlain_679 rfl (hl.at 1 rfl) ?_
                                                      obtain ⟨⟨v680, S680⟩, h680, hsh⟩ := Option.bind_eq_some_iff.mp hsh
                                                      have hsh : _ = _ := hsh
                                                      try dsimp only at hsh
                                                      have ok680 := ok13_doesFurther h680
                                                      refine e_callI (nL := 2) (mc := 0) (ms := 0) (T := TX13) (N := 126) (As := [.int (iI (x1))]) (rest := []) hx hb hml hown hts hp hS hl.size ok680.1 ok680.2.1 ok680.2.2 rfl (by decide) (c13_doesFurther l D cA B S S680 (x0) (x1) v680 h680) rfl rfl kd13_doesFurther (kl13_776) ks13_doesFurther kv13_doesFurther ki13 kh13_doesFurther ⟨Nat.le_of_ble_eq_true rfl, Nat.le_of_ble_eq_true rfl⟩ rfl (by simp [e_rv_cat, e_int_cat]) ⟨Nat.le_refl _, Nat.le_refl _⟩ dX13_doesPlain_680 rfl (fun H locs hp hS => ?_)
                                                      obtain ⟨hz, hz1, hz2⟩ := zR_some hsh
                                                      rw [← hz1, ← hz2]
                                                      exact e_zret hx hb hrt hlk hp hS hz dX13_doesPlain_683
                                                    · rw [if_neg c4_25] at hsh
                                                      by_cases c4_26 : iW (v1) = 48
                                                      · rw [if_pos c4_26] at hsh
                                                        refine lv_tableIn (off := 674) (tgt := 678) hx hb dX13_doesPlain_4 (by show ¬ iW (v1) < _; rw [c4_26]; decide) (by show ¬ _ < iW (v1); rw [c4_26]; decide) (by show _[(iW (v1) - _).toNat]? = _; rw [c4_26]; rfl) (by decide) ?_
                                                        refine e_aload_n (B := B) (x := x0) hx hb dX13_doesPlain_678 rfl (hl.at 0 rfl) ?_
                                                        refine lv_iload_n hx hb dX13_doesPlain_679 rfl (hl.at 1 rfl) ?_
                                                        obtain ⟨⟨v680, S680⟩, h680, hsh⟩ := Option.bind_eq_some_iff.mp hsh
                                                        have hsh : _ = _ := hsh
                                                        try dsimp only at hsh
                                                        have ok680 := ok13_doesFurther h680
                                                        refine e_callI (nL := 2) (mc := 0) (ms := 0) (T := TX13) (N := 126) (As := [.int (iI (x1))]) (rest := []) hx hb hml hown hts hp hS hl.size ok680.1 ok680.2.1 ok680.2.2 rfl (by decide) (c13_doesFurther l D cA B S S680 (x0) (x1) v680 h680) rfl rfl kd13_doesFurther (kl13_776) ks13_doesFurther kv13_doesFurther ki13 kh13_doesFurther ⟨Nat.le_of_ble_eq_true rfl, Nat.le_of_ble_eq_true rfl⟩ rfl (by simp [e_rv_cat, e_int_cat]) ⟨Nat.le_refl _, Nat.le_refl _⟩ dX13_doesPlain_680 rfl (fun H locs hp hS => ?_)
                                                        obtain ⟨hz, hz1, hz2⟩ := zR_some hsh
                                                        rw [← hz1, ← hz2]
                                                        exact e_zret hx hb hrt hlk hp hS hz dX13_doesPlain_683
                                                      · rw [if_neg c4_26] at hsh
                                                        by_cases c4_27 : iW (v1) = 49
                                                        · rw [if_pos c4_27] at hsh
                                                          refine lv_tableIn (off := 674) (tgt := 678) hx hb dX13_doesPlain_4 (by show ¬ iW (v1) < _; rw [c4_27]; decide) (by show ¬ _ < iW (v1); rw [c4_27]; decide) (by show _[(iW (v1) - _).toNat]? = _; rw [c4_27]; rfl) (by decide) ?_
                                                          refine e_aload_n (B := B) (x := x0) hx hb dX13_doesPlain_678 rfl (hl.at 0 rfl) ?_
                                                          refine lv_iload_n hx hb dX13_doesPlain_679 rfl (hl.at 1 rfl) ?_
                                                          obtain ⟨⟨v680, S680⟩, h680, hsh⟩ := Option.bind_eq_some_iff.mp hsh
                                                          have hsh : _ = _ := hsh
                                                          try dsimp only at hsh
                                                          have ok680 := ok13_doesFurther h680
                                                          refine e_callI (nL := 2) (mc := 0) (ms := 0) (T := TX13) (N := 126) (As := [.int (iI (x1))]) (rest := []) hx hb hml hown hts hp hS hl.size ok680.1 ok680.2.1 ok680.2.2 rfl (by decide) (c13_doesFurther l D cA B S S680 (x0) (x1) v680 h680) rfl rfl kd13_doesFurther (kl13_776) ks13_doesFurther kv13_doesFurther ki13 kh13_doesFurther ⟨Nat.le_of_ble_eq_true rfl, Nat.le_of_ble_eq_true rfl⟩ rfl (by simp [e_rv_cat, e_int_cat]) ⟨Nat.le_refl _, Nat.le_refl _⟩ dX13_doesPlain_680 rfl (fun H locs hp hS => ?_)
                                                          obtain ⟨hz, hz1, hz2⟩ := zR_some hsh
                                                          rw [← hz1, ← hz2]
                                                          exact e_zret hx hb hrt hlk hp hS hz dX13_doesPlain_683
                                                        · rw [if_neg c4_27] at hsh
                                                          by_cases c4_28 : iW (v1) = 50
                                                          · rw [if_pos c4_28] at hsh
                                                            refine lv_tableIn (off := 674) (tgt := 678) hx hb dX13_doesPlain_4 (by show ¬ iW (v1) < _; rw [c4_28]; decide) (by show ¬ _ < iW (v1); rw [c4_28]; decide) (by show _[(iW (v1) - _).toNat]? = _; rw [c4_28]; rfl) (by decide) ?_
                                                            refine e_aload_n (B := B) (x := x0) hx hb dX13_doesPlain_678 rfl (hl.at 0 rfl) ?_
                                                            refine lv_iload_n hx hb dX13_doesPlain_679 rfl (hl.at 1 rfl) ?_
                                                            obtain ⟨⟨v680, S680⟩, h680, hsh⟩ := Option.bind_eq_some_iff.mp hsh
                                                            have hsh : _ = _ := hsh
                                                            try dsimp only at hsh
                                                            have ok680 := ok13_doesFurther h680
                                                            refine e_callI (nL := 2) (mc := 0) (ms := 0) (T := TX13) (N := 126) (As := [.int (iI (x1))]) (rest := []) hx hb hml hown hts hp hS hl.size ok680.1 ok680.2.1 ok680.2.2 rfl (by decide) (c13_doesFurther l D cA B S S680 (x0) (x1) v680 h680) rfl rfl kd13_doesFurther (kl13_776) ks13_doesFurther kv13_doesFurther ki13 kh13_doesFurther ⟨Nat.le_of_ble_eq_true rfl, Nat.le_of_ble_eq_true rfl⟩ rfl (by simp [e_rv_cat, e_int_cat]) ⟨Nat.le_refl _, Nat.le_refl _⟩ dX13_doesPlain_680 rfl (fun H locs hp hS => ?_)
                                                            obtain ⟨hz, hz1, hz2⟩ := zR_some hsh
                                                            rw [← hz1, ← hz2]
                                                            exact e_zret hx hb hrt hlk hp hS hz dX13_doesPlain_683
                                                          · rw [if_neg c4_28] at hsh
                                                            by_cases c4_29 : iW (v1) = 51
                                                            · rw [if_pos c4_29] at hsh
                                                              refine lv_tableIn (off := 674) (tgt := 678) hx hb dX13_doesPlain_4 (by show ¬ iW (v1) < _; rw [c4_29]; decide) (by show ¬ _ < iW (v1); rw [c4_29]; decide) (by show _[(iW (v1) - _).toNat]? = _; rw [c4_29]; rfl) (by decide) ?_
                                                              refine e_aload_n (B := B) (x := x0) hx hb dX13_doesPlain_678 rfl (hl.at 0 rfl) ?_
                                                              refine lv_iload_n hx hb dX13_doesPlain_679 rfl (hl.at 1 rfl) ?_
                                                              obtain ⟨⟨v680, S680⟩, h680, hsh⟩ := Option.bind_eq_some_iff.mp hsh
                                                              have hsh : _ = _ := hsh
                                                              try dsimp only at hsh
                                                              have ok680 := ok13_doesFurther h680
                                                              refine e_callI (nL := 2) (mc := 0) (ms := 0) (T := TX13) (N := 126) (As := [.int (iI (x1))]) (rest := []) hx hb hml hown hts hp hS hl.size ok680.1 ok680.2.1 ok680.2.2 rfl (by decide) (c13_doesFurther l D cA B S S680 (x0) (x1) v680 h680) rfl rfl kd13_doesFurther (kl13_776) ks13_doesFurther kv13_doesFurther ki13 kh13_doesFurther ⟨Nat.le_of_ble_eq_true rfl, Nat.le_of_ble_eq_true rfl⟩ rfl (by simp [e_rv_cat, e_int_cat]) ⟨Nat.le_refl _, Nat.le_refl _⟩ dX13_doesPlain_680 rfl (fun H locs hp hS => ?_)
                                                              obtain ⟨hz, hz1, hz2⟩ := zR_some hsh
                                                              rw [← hz1, ← hz2]
                                                              exact e_zret hx hb hrt hlk hp hS hz dX13_doesPlain_683
                                                            · rw [if_neg c4_29] at hsh
                                                              by_cases c4_30 : iW (v1) = 52
                                                              · rw [if_pos c4_30] at hsh
                                                                refine lv_tableIn (off := 674) (tgt := 678) hx hb dX13_doesPlain_4 (by show ¬ iW (v1) < _; rw [c4_30]; decide) (by show ¬ _ < iW (v1); rw [c4_30]; decide) (by show _[(iW (v1) - _).toNat]? = _; rw [c4_30]; rfl) (by decide) ?_
                                                                refine e_aload_n (B := B) (x := x0) hx hb dX13_doesPlain_678 rfl (hl.at 0 rfl) ?_
                                                                refine lv_iload_n hx hb dX13_doesPlain_679 rfl (hl.at 1 rfl) ?_
                                                                obtain ⟨⟨v680, S680⟩, h680, hsh⟩ := Option.bind_eq_some_iff.mp hsh
                                                                have hsh : _ = _ := hsh
                                                                try dsimp only at hsh
                                                                have ok680 := ok13_doesFurther h680
                                                                refine e_callI (nL := 2) (mc := 0) (ms := 0) (T := TX13) (N := 126) (As := [.int (iI (x1))]) (rest := []) hx hb hml hown hts hp hS hl.size ok680.1 ok680.2.1 ok680.2.2 rfl (by decide) (c13_doesFurther l D cA B S S680 (x0) (x1) v680 h680) rfl rfl kd13_doesFurther (kl13_776) ks13_doesFurther kv13_doesFurther ki13 kh13_doesFurther ⟨Nat.le_of_ble_eq_true rfl, Nat.le_of_ble_eq_true rfl⟩ rfl (by simp [e_rv_cat, e_int_cat]) ⟨Nat.le_refl _, Nat.le_refl _⟩ dX13_doesPlain_680 rfl (fun H locs hp hS => ?_)
                                                                obtain ⟨hz, hz1, hz2⟩ := zR_some hsh
                                                                rw [← hz1, ← hz2]
                                                                exact e_zret hx hb hrt hlk hp hS hz dX13_doesPlain_683
                                                              · rw [if_neg c4_30] at hsh
                                                                by_cases c4_31 : iW (v1) = 53
                                                                · rw [if_pos c4_31] at hsh
                                                                  refine lv_tableIn (off := 674) (tgt := 678) hx hb dX13_doesPlain_4 (by show ¬ iW (v1) < _; rw [c4_31]; decide) (by show ¬ _ < iW (v1); rw [c4_31]; decide) (by show _[(iW (v1) - _).toNat]? = _; rw [c4_31]; rfl) (by decide) ?_
                                                                  refine e_aload_n (B := B) (x := x0) hx hb dX13_doesPlain_678 rfl (hl.at 0 rfl) ?_
                                                                  refine lv_iload_n hx hb dX13_doesPlain_679 rfl (hl.at 1 rfl) ?_
                                                                  obtain ⟨⟨v680, S680⟩, h680, hsh⟩ := Option.bind_eq_some_iff.mp hsh
                                                                  have hsh : _ = _ := hsh
                                                                  try dsimp only at hsh
                                                                  have ok680 := ok13_doesFurther h680
                                                                  refine e_callI (nL := 2) (mc := 0) (ms := 0) (T := TX13) (N := 126) (As := [.int (iI (x1))]) (rest := []) hx hb hml hown hts hp hS hl.size ok680.1 ok680.2.1 ok680.2.2 rfl (by decide) (c13_doesFurther l D cA B S S680 (x0) (x1) v680 h680) rfl rfl kd13_doesFurther (kl13_776) ks13_doesFurther kv13_doesFurther ki13 kh13_doesFurther ⟨Nat.le_of_ble_eq_true rfl, Nat.le_of_ble_eq_true rfl⟩ rfl (by simp [e_rv_cat, e_int_cat]) ⟨Nat.le_refl _, Nat.le_refl _⟩ dX13_doesPlain_680 rfl (fun H locs hp hS => ?_)
                                                                  obtain ⟨hz, hz1, hz2⟩ := zR_some hsh
                                                                  rw [← hz1, ← hz2]
                                                                  exact e_zret hx hb hrt hlk hp hS hz dX13_doesPlain_683
                                                                · rw [if_neg c4_31] at hsh
                                                                  by_cases c4_32 : iW (v1) = 54
                                                                  · rw [if_pos c4_32] at hsh
                                                                    refine lv_tableIn (off := 674) (tgt := 678) hx hb dX13_doesPlain_4 (by show ¬ iW (v1) < _; rw [c4_32]; decide) (by show ¬ _ < iW (v1); rw [c4_32]; decide) (by show _[(iW (v1) - _).toNat]? = _; rw [c4_32]; rfl) (by decide) ?_
                                                                    refine e_aload_n (B := B) (x := x0) hx hb dX13_doesPlain_678 rfl (hl.at 0 rfl) ?_
                                                                    refine lv_iload_n hx hb dX13_doesPlain_679 rfl (hl.at 1 rfl) ?_
                                                                    obtain ⟨⟨v680, S680⟩, h680, hsh⟩ := Option.bind_eq_some_iff.mp hsh
                                                                    have hsh : _ = _ := hsh
                                                                    try dsimp only at hsh
                                                                    have ok680 := ok13_doesFurther h680
                                                                    refine e_callI (nL := 2) (mc := 0) (ms := 0) (T := TX13) (N := 126) (As := [.int (iI (x1))]) (rest := []) hx hb hml hown hts hp hS hl.size ok680.1 ok680.2.1 ok680.2.2 rfl (by decide) (c13_doesFurther l D cA B S S680 (x0) (x1) v680 h680) rfl rfl kd13_doesFurther (kl13_776) ks13_doesFurther kv13_doesFurther ki13 kh13_doesFurther ⟨Nat.le_of_ble_eq_true rfl, Nat.le_of_ble_eq_true rfl⟩ rfl (by simp [e_rv_cat, e_int_cat]) ⟨Nat.le_refl _, Nat.le_refl _⟩ dX13_doesPlain_680 rfl (fun H locs hp hS => ?_)
                                                                    obtain ⟨hz, hz1, hz2⟩ := zR_some hsh
                                                                    rw [← hz1, ← hz2]
                                                                    exact e_zret hx hb hrt hlk hp hS hz dX13_doesPlain_683
                                                                  · rw [if_neg c4_32] at hsh
                                                                    by_cases c4_33 : iW (v1) = 55
                                                                    · rw [if_pos c4_33] at hsh
                                                                      refine lv_tableIn (off := 674) (tgt := 678) hx hb dX13_doesPlain_4 (by show ¬ iW (v1) < _; rw [c4_33]; decide) (by show ¬ _ < iW (v1); rw [c4_33]; decide) (by show _[(iW (v1) - _).toNat]? = _; rw [c4_33]; rfl) (by decide) ?_
                                                                      refine e_aload_n (B := B) (x := x0) hx hb dX13_doesPlain_678 rfl (hl.at 0 rfl) ?_
                                                                      refine lv_iload_n hx hb dX13_doesPlain_679 rfl (hl.at 1 rfl) ?_
                                                                      obtain ⟨⟨v680, S680⟩, h680, hsh⟩ := Option.bind_eq_some_iff.mp hsh
                                                                      have hsh : _ = _ := hsh
                                                                      try dsimp only at hsh
                                                                      have ok680 := ok13_doesFurther h680
                                                                      refine e_callI (nL := 2) (mc := 0) (ms := 0) (T := TX13) (N := 126) (As := [.int (iI (x1))]) (rest := []) hx hb hml hown hts hp hS hl.size ok680.1 ok680.2.1 ok680.2.2 rfl (by decide) (c13_doesFurther l D cA B S S680 (x0) (x1) v680 h680) rfl rfl kd13_doesFurther (kl13_776) ks13_doesFurther kv13_doesFurther ki13 kh13_doesFurther ⟨Nat.le_of_ble_eq_true rfl, Nat.le_of_ble_eq_true rfl⟩ rfl (by simp [e_rv_cat, e_int_cat]) ⟨Nat.le_refl _, Nat.le_refl _⟩ dX13_doesPlain_680 rfl (fun H locs hp hS => ?_)
                                                                      obtain ⟨hz, hz1, hz2⟩ := zR_some hsh
                                                                      rw [← hz1, ← hz2]
                                                                      exact e_zret hx hb hrt hlk hp hS hz dX13_doesPlain_683
                                                                    · rw [if_neg c4_33] at hsh
                                                                      by_cases c4_34 : iW (v1) = 56
                                                                      · rw [if_pos c4_34] at hsh
                                                                        refine lv_tableIn (off := 674) (tgt := 678) hx hb dX13_doesPlain_4 (by show ¬ iW (v1) < _; rw [c4_34]; decide) (by show ¬ _ < iW (v1); rw [c4_34]; decide) (by show _[(iW (v1) - _).toNat]? = _; rw [c4_34]; rfl) (by decide) ?_
                                                                        refine e_aload_n (B := B) (x := x0) hx hb dX13_doesPlain_678 rfl (hl.at 0 rfl) ?_
                                                                        refine lv_iload_n hx hb dX13_doesPlain_679 rfl (hl.at 1 rfl) ?_
                                                                        obtain ⟨⟨v680, S680⟩, h680, hsh⟩ := Option.bind_eq_some_iff.mp hsh
                                                                        have hsh : _ = _ := hsh
                                                                        try dsimp only at hsh
                                                                        have ok680 := ok13_doesFurther h680
                                                                        refine e_callI (nL := 2) (mc := 0) (ms := 0) (T := TX13) (N := 126) (As := [.int (iI (x1))]) (rest := []) hx hb hml hown hts hp hS hl.size ok680.1 ok680.2.1 ok680.2.2 rfl (by decide) (c13_doesFurther l D cA B S S680 (x0) (x1) v680 h680) rfl rfl kd13_doesFurther (kl13_776) ks13_doesFurther kv13_doesFurther ki13 kh13_doesFurther ⟨Nat.le_of_ble_eq_true rfl, Nat.le_of_ble_eq_true rfl⟩ rfl (by simp [e_rv_cat, e_int_cat]) ⟨Nat.le_refl _, Nat.le_refl _⟩ dX13_doesPlain_680 rfl (fun H locs hp hS => ?_)
                                                                        obtain ⟨hz, hz1, hz2⟩ := zR_some hsh
                                                                        rw [← hz1, ← hz2]
                                                                        exact e_zret hx hb hrt hlk hp hS hz dX13_doesPlain_683
                                                                      · rw [if_neg c4_34] at hsh
                                                                        by_cases c4_35 : iW (v1) = 57
                                                                        · rw [if_pos c4_35] at hsh
                                                                          refine lv_tableIn (off := 674) (tgt := 678) hx hb dX13_doesPlain_4 (by show ¬ iW (v1) < _; rw [c4_35]; decide) (by show ¬ _ < iW (v1); rw [c4_35]; decide) (by show _[(iW (v1) - _).toNat]? = _; rw [c4_35]; rfl) (by decide) ?_
                                                                          refine e_aload_n (B := B) (x := x0) hx hb dX13_doesPlain_678 rfl (hl.at 0 rfl) ?_
                                                                          refine lv_iload_n hx hb dX13_doesPlain_679 rfl (hl.at 1 rfl) ?_
                                                                          obtain ⟨⟨v680, S680⟩, h680, hsh⟩ := Option.bind_eq_some_iff.mp hsh
                                                                          have hsh : _ = _ := hsh
                                                                          try dsimp only at hsh
                                                                          have ok680 := ok13_doesFurther h680
                                                                          refine e_callI (nL := 2) (mc := 0) (ms := 0) (T := TX13) (N := 126) (As := [.int (iI (x1))]) (rest := []) hx hb hml hown hts hp hS hl.size ok680.1 ok680.2.1 ok680.2.2 rfl (by decide) (c13_doesFurther l D cA B S S680 (x0) (x1) v680 h680) rfl rfl kd13_doesFurther (kl13_776) ks13_doesFurther kv13_doesFurther ki13 kh13_doesFurther ⟨Nat.le_of_ble_eq_true rfl, Nat.le_of_ble_eq_true rfl⟩ rfl (by simp [e_rv_cat, e_int_cat]) ⟨Nat.le_refl _, Nat.le_refl _⟩ dX13_doesPlain_680 rfl (fun H locs hp hS => ?_)
                                                                          obtain ⟨hz, hz1, hz2⟩ := zR_some hsh
                                                                          rw [← hz1, ← hz2]
                                                                          exact e_zret hx hb hrt hlk hp hS hz dX13_doesPlain_683
                                                                        · rw [if_neg c4_35] at hsh
                                                                          by_cases c4_36 : iW (v1) = 58
                                                                          · rw [if_pos c4_36] at hsh
                                                                            refine lv_tableIn (off := 662) (tgt := 666) hx hb dX13_doesPlain_4 (by show ¬ iW (v1) < _; rw [c4_36]; decide) (by show ¬ _ < iW (v1); rw [c4_36]; decide) (by show _[(iW (v1) - _).toNat]? = _; rw [c4_36]; rfl) (by decide) ?_
                                                                            refine e_aload_n (B := B) (x := x0) hx hb dX13_doesPlain_666 rfl (hl.at 0 rfl) ?_
                                                                            refine lv_iconst (v := iI (5)) hx hb dX13_doesPlain_667 rfl ?_
                                                                            obtain ⟨S668, h668, hsh⟩ := Option.bind_eq_some_iff.mp hsh
                                                                            refine e_putI (k := 8) hx hb hts in_X13 tyX13 tyX13_ok nmX13 hown hp hS h668 rfl (by decide) (by decide) rfl (hts _ kf13_466) rfl rfl (by decide +kernel) dX13_doesPlain_668 (fun H locs hp hS => ?_)
                                                                            refine e_aload_n (B := B) (x := x0) hx hb dX13_doesPlain_671 rfl (hl.at 0 rfl) ?_
                                                                            refine lv_iconst (v := iI (0)) hx hb dX13_doesPlain_672 rfl ?_
                                                                            obtain ⟨S673, h673, hsh⟩ := Option.bind_eq_some_iff.mp hsh
                                                                            refine e_putI (k := 102) hx hb hts in_X13 tyX13 tyX13_ok nmX13 hown hp hS h673 rfl (by decide) (by decide) rfl (hts _ kf13_773) rfl rfl (by decide +kernel) dX13_doesPlain_673 (fun H locs hp hS => ?_)
                                                                            refine lv_iconst (v := iI (1)) hx hb dX13_doesPlain_676 rfl ?_
                                                                            obtain ⟨hz, hz1, hz2⟩ := zR_some hsh
                                                                            rw [← hz1, ← hz2]
                                                                            exact e_zret hx hb hrt hlk hp hS hz dX13_doesPlain_677
                                                                          · rw [if_neg c4_36] at hsh
                                                                            by_cases c4_37 : iW (v1) = 59
                                                                            · rw [if_pos c4_37] at hsh
                                                                              refine lv_tableIn (off := 674) (tgt := 678) hx hb dX13_doesPlain_4 (by show ¬ iW (v1) < _; rw [c4_37]; decide) (by show ¬ _ < iW (v1); rw [c4_37]; decide) (by show _[(iW (v1) - _).toNat]? = _; rw [c4_37]; rfl) (by decide) ?_
                                                                              refine e_aload_n (B := B) (x := x0) hx hb dX13_doesPlain_678 rfl (hl.at 0 rfl) ?_
                                                                              refine lv_iload_n hx hb dX13_doesPlain_679 rfl (hl.at 1 rfl) ?_
                                                                              obtain ⟨⟨v680, S680⟩, h680, hsh⟩ := Option.bind_eq_some_iff.mp hsh
                                                                              have hsh : _ = _ := hsh
                                                                              try dsimp only at hsh
                                                                              have ok680 := ok13_doesFurther h680
                                                                              refine e_callI (nL := 2) (mc := 0) (ms := 0) (T := TX13) (N := 126) (As := [.int (iI (x1))]) (rest := []) hx hb hml hown hts hp hS hl.size ok680.1 ok680.2.1 ok680.2.2 rfl (by decide) (c13_doesFurther l D cA B S S680 (x0) (x1) v680 h680) rfl rfl kd13_doesFurther (kl13_776) ks13_doesFurther kv13_doesFurther ki13 kh13_doesFurther ⟨Nat.le_of_ble_eq_true rfl, Nat.le_of_ble_eq_true rfl⟩ rfl (by simp [e_rv_cat, e_int_cat]) ⟨Nat.le_refl _, Nat.le_refl _⟩ dX13_doesPlain_680 rfl (fun H locs hp hS => ?_)
                                                                              obtain ⟨hz, hz1, hz2⟩ := zR_some hsh
                                                                              rw [← hz1, ← hz2]
                                                                              exact e_zret hx hb hrt hlk hp hS hz dX13_doesPlain_683
                                                                            · rw [if_neg c4_37] at hsh
                                                                              by_cases c4_38 : iW (v1) = 60
                                                                              · rw [if_pos c4_38] at hsh
                                                                                refine lv_tableIn (off := 674) (tgt := 678) hx hb dX13_doesPlain_4 (by show ¬ iW (v1) < _; rw [c4_38]; decide) (by show ¬ _ < iW (v1); rw [c4_38]; decide) (by show _[(iW (v1) - _).toNat]? = _; rw [c4_38]; rfl) (by decide) ?_
                                                                                refine e_aload_n (B := B) (x := x0) hx hb dX13_doesPlain_678 rfl (hl.at 0 rfl) ?_
                                                                                refine lv_iload_n hx hb dX13_doesPlain_679 rfl (hl.at 1 rfl) ?_
                                                                                obtain ⟨⟨v680, S680⟩, h680, hsh⟩ := Option.bind_eq_some_iff.mp hsh
                                                                                have hsh : _ = _ := hsh
                                                                                try dsimp only at hsh
                                                                                have ok680 := ok13_doesFurther h680
                                                                                refine e_callI (nL := 2) (mc := 0) (ms := 0) (T := TX13) (N := 126) (As := [.int (iI (x1))]) (rest := []) hx hb hml hown hts hp hS hl.size ok680.1 ok680.2.1 ok680.2.2 rfl (by decide) (c13_doesFurther l D cA B S S680 (x0) (x1) v680 h680) rfl rfl kd13_doesFurther (kl13_776) ks13_doesFurther kv13_doesFurther ki13 kh13_doesFurther ⟨Nat.le_of_ble_eq_true rfl, Nat.le_of_ble_eq_true rfl⟩ rfl (by simp [e_rv_cat, e_int_cat]) ⟨Nat.le_refl _, Nat.le_refl _⟩ dX13_doesPlain_680 rfl (fun H locs hp hS => ?_)
                                                                                obtain ⟨hz, hz1, hz2⟩ := zR_some hsh
                                                                                rw [← hz1, ← hz2]
                                                                                exact e_zret hx hb hrt hlk hp hS hz dX13_doesPlain_683
                                                                              · rw [if_neg c4_38] at hsh
                                                                                by_cases c4_39 : iW (v1) = 61
                                                                                · rw [if_pos c4_39] at hsh
                                                                                  refine lv_tableIn (off := 674) (tgt := 678) hx hb dX13_doesPlain_4 (by show ¬ iW (v1) < _; rw [c4_39]; decide) (by show ¬ _ < iW (v1); rw [c4_39]; decide) (by show _[(iW (v1) - _).toNat]? = _; rw [c4_39]; rfl) (by decide) ?_
                                                                                  refine e_aload_n (B := B) (x := x0) hx hb dX13_doesPlain_678 rfl (hl.at 0 rfl) ?_
                                                                                  refine lv_iload_n hx hb dX13_doesPlain_679 rfl (hl.at 1 rfl) ?_
                                                                                  obtain ⟨⟨v680, S680⟩, h680, hsh⟩ := Option.bind_eq_some_iff.mp hsh
                                                                                  have hsh : _ = _ := hsh
                                                                                  try dsimp only at hsh
                                                                                  have ok680 := ok13_doesFurther h680
                                                                                  refine e_callI (nL := 2) (mc := 0) (ms := 0) (T := TX13) (N := 126) (As := [.int (iI (x1))]) (rest := []) hx hb hml hown hts hp hS hl.size ok680.1 ok680.2.1 ok680.2.2 rfl (by decide) (c13_doesFurther l D cA B S S680 (x0) (x1) v680 h680) rfl rfl kd13_doesFurther (kl13_776) ks13_doesFurther kv13_doesFurther ki13 kh13_doesFurther ⟨Nat.le_of_ble_eq_true rfl, Nat.le_of_ble_eq_true rfl⟩ rfl (by simp [e_rv_cat, e_int_cat]) ⟨Nat.le_refl _, Nat.le_refl _⟩ dX13_doesPlain_680 rfl (fun H locs hp hS => ?_)
                                                                                  obtain ⟨hz, hz1, hz2⟩ := zR_some hsh
                                                                                  rw [← hz1, ← hz2]
                                                                                  exact e_zret hx hb hrt hlk hp hS hz dX13_doesPlain_683
                                                                                · rw [if_neg c4_39] at hsh
                                                                                  by_cases c4_40 : iW (v1) = 62
                                                                                  · rw [if_pos c4_40] at hsh
                                                                                    refine lv_tableIn (off := 674) (tgt := 678) hx hb dX13_doesPlain_4 (by show ¬ iW (v1) < _; rw [c4_40]; decide) (by show ¬ _ < iW (v1); rw [c4_40]; decide) (by show _[(iW (v1) - _).toNat]? = _; rw [c4_40]; rfl) (by decide) ?_
                                                                                    refine e_aload_n (B := B) (x := x0) hx hb dX13_doesPlain_678 rfl (hl.at 0 rfl) ?_
                                                                                    refine lv_iload_n hx hb dX13_doesPlain_679 rfl (hl.at 1 rfl) ?_
                                                                                    obtain ⟨⟨v680, S680⟩, h680, hsh⟩ := Option.bind_eq_some_iff.mp hsh
                                                                                    have hsh : _ = _ := hsh
                                                                                    try dsimp only at hsh
                                                                                    have ok680 := ok13_doesFurther h680
                                                                                    refine e_callI (nL := 2) (mc := 0) (ms := 0) (T := TX13) (N := 126) (As := [.int (iI (x1))]) (rest := []) hx hb hml hown hts hp hS hl.size ok680.1 ok680.2.1 ok680.2.2 rfl (by decide) (c13_doesFurther l D cA B S S680 (x0) (x1) v680 h680) rfl rfl kd13_doesFurther (kl13_776) ks13_doesFurther kv13_doesFurther ki13 kh13_doesFurther ⟨Nat.le_of_ble_eq_true rfl, Nat.le_of_ble_eq_true rfl⟩ rfl (by simp [e_rv_cat, e_int_cat]) ⟨Nat.le_refl _, Nat.le_refl _⟩ dX13_doesPlain_680 rfl (fun H locs hp hS => ?_)
                                                                                    obtain ⟨hz, hz1, hz2⟩ := zR_some hsh
                                                                                    rw [← hz1, ← hz2]
                                                                                    exact e_zret hx hb hrt hlk hp hS hz dX13_doesPlain_683
                                                                                  · rw [if_neg c4_40] at hsh
                                                                                    by_cases c4_41 : iW (v1) = 63
                                                                                    · rw [if_pos c4_41] at hsh
                                                                                      refine lv_tableIn (off := 674) (tgt := 678) hx hb dX13_doesPlain_4 (by show ¬ iW (v1) < _; rw [c4_41]; decide) (by show ¬ _ < iW (v1); rw [c4_41]; decide) (by show _[(iW (v1) - _).toNat]? = _; rw [c4_41]; rfl) (by decide) ?_
                                                                                      refine e_aload_n (B := B) (x := x0) hx hb dX13_doesPlain_678 rfl (hl.at 0 rfl) ?_
                                                                                      refine lv_iload_n hx hb dX13_doesPlain_679 rfl (hl.at 1 rfl) ?_
                                                                                      obtain ⟨⟨v680, S680⟩, h680, hsh⟩ := Option.bind_eq_some_iff.mp hsh
                                                                                      have hsh : _ = _ := hsh
                                                                                      try dsimp only at hsh
                                                                                      have ok680 := ok13_doesFurther h680
                                                                                      refine e_callI (nL := 2) (mc := 0) (ms := 0) (T := TX13) (N := 126) (As := [.int (iI (x1))]) (rest := []) hx hb hml hown hts hp hS hl.size ok680.1 ok680.2.1 ok680.2.2 rfl (by decide) (c13_doesFurther l D cA B S S680 (x0) (x1) v680 h680) rfl rfl kd13_doesFurther (kl13_776) ks13_doesFurther kv13_doesFurther ki13 kh13_doesFurther ⟨Nat.le_of_ble_eq_true rfl, Nat.le_of_ble_eq_true rfl⟩ rfl (by simp [e_rv_cat, e_int_cat]) ⟨Nat.le_refl _, Nat.le_refl _⟩ dX13_doesPlain_680 rfl (fun H locs hp hS => ?_)
                                                                                      obtain ⟨hz, hz1, hz2⟩ := zR_some hsh
                                                                                      rw [← hz1, ← hz2]
                                                                                      exact e_zret hx hb hrt hlk hp hS hz dX13_doesPlain_683
                                                                                    · rw [if_neg c4_41] at hsh
                                                                                      by_cases c4_42 : iW (v1) = 64
                                                                                      · rw [if_pos c4_42] at hsh
                                                                                        refine lv_tableIn (off := 674) (tgt := 678) hx hb dX13_doesPlain_4 (by show ¬ iW (v1) < _; rw [c4_42]; decide) (by show ¬ _ < iW (v1); rw [c4_42]; decide) (by show _[(iW (v1) - _).toNat]? = _; rw [c4_42]; rfl) (by decide) ?_
                                                                                        refine e_aload_n (B := B) (x := x0) hx hb dX13_doesPlain_678 rfl (hl.at 0 rfl) ?_
                                                                                        refine lv_iload_n hx hb dX13_doesPlain_679 rfl (hl.at 1 rfl) ?_
                                                                                        obtain ⟨⟨v680, S680⟩, h680, hsh⟩ := Option.bind_eq_some_iff.mp hsh
                                                                                        have hsh : _ = _ := hsh
                                                                                        try dsimp only at hsh
                                                                                        have ok680 := ok13_doesFurther h680
                                                                                        refine e_callI (nL := 2) (mc := 0) (ms := 0) (T := TX13) (N := 126) (As := [.int (iI (x1))]) (rest := []) hx hb hml hown hts hp hS hl.size ok680.1 ok680.2.1 ok680.2.2 rfl (by decide) (c13_doesFurther l D cA B S S680 (x0) (x1) v680 h680) rfl rfl kd13_doesFurther (kl13_776) ks13_doesFurther kv13_doesFurther ki13 kh13_doesFurther ⟨Nat.le_of_ble_eq_true rfl, Nat.le_of_ble_eq_true rfl⟩ rfl (by simp [e_rv_cat, e_int_cat]) ⟨Nat.le_refl _, Nat.le_refl _⟩ dX13_doesPlain_680 rfl (fun H locs hp hS => ?_)
                                                                                        obtain ⟨hz, hz1, hz2⟩ := zR_some hsh
                                                                                        rw [← hz1, ← hz2]
                                                                                        exact e_zret hx hb hrt hlk hp hS hz dX13_doesPlain_683
                                                                                      · rw [if_neg c4_42] at hsh
                                                                                        by_cases c4_43 : iW (v1) = 65
                                                                                        · rw [if_pos c4_43] at hsh
                                                                                          refine lv_tableIn (off := 609) (tgt := 613) hx hb dX13_doesPlain_4 (by show ¬ iW (v1) < _; rw [c4_43]; decide) (by show ¬ _ < iW (v1); rw [c4_43]; decide) (by show _[(iW (v1) - _).toNat]? = _; rw [c4_43]; rfl) (by decide) ?_
                                                                                          refine e_aload_n (B := B) (x := x0) hx hb dX13_doesPlain_613 rfl (hl.at 0 rfl) ?_
                                                                                          refine e_aload_n (B := B) (x := x0) hx hb dX13_doesPlain_614 rfl (hl.at 0 rfl) ?_
                                                                                          obtain ⟨v615, h615, hsh⟩ := Option.bind_eq_some_iff.mp hsh
                                                                                          refine e_getI (k := 62) hx hb hts in_X13 hown hp h615 rfl (by decide) (by decide) rfl (hts _ kf13_615) rfl dX13_doesPlain_615 ?_
                                                                                          refine lv_iload_n hx hb dX13_doesPlain_618 rfl (hl.at 1 rfl) ?_
                                                                                          obtain ⟨⟨v619, S619⟩, h619, hsh⟩ := Option.bind_eq_some_iff.mp hsh
                                                                                          have hsh : _ = _ := hsh
                                                                                          try dsimp only at hsh
                                                                                          have ok619 := ok13_beginsInsertion h619
                                                                                          refine e_callI (nL := 2) (mc := 0) (ms := 0) (T := TX13) (N := 126) (As := [.int (iI (v615)), .int (iI (x1))]) (rest := []) hx hb hml hown hts hp hS hl.size ok619.1 ok619.2.1 ok619.2.2 rfl (by decide) (c13_beginsInsertion l D cA B S S619 (x0) (v615) (x1) v619 h619) rfl rfl kd13_beginsInsertion (kl13_767) ks13_beginsInsertion kv13_beginsInsertion ki13 kh13_beginsInsertion ⟨Nat.le_of_ble_eq_true rfl, Nat.le_of_ble_eq_true rfl⟩ rfl (by simp [e_rv_cat, e_int_cat]) ⟨Nat.le_refl _, Nat.le_refl _⟩ dX13_doesPlain_619 rfl (fun H locs hp hS => ?_)
                                                                                          obtain ⟨hz, hz1, hz2⟩ := zR_some hsh
                                                                                          rw [← hz1, ← hz2]
                                                                                          exact e_zret hx hb hrt hlk hp hS hz dX13_doesPlain_622
                                                                                        · rw [if_neg c4_43] at hsh
                                                                                          by_cases c4_44 : iW (v1) = 66
                                                                                          · rw [if_pos c4_44] at hsh
                                                                                            refine lv_tableIn (off := 674) (tgt := 678) hx hb dX13_doesPlain_4 (by show ¬ iW (v1) < _; rw [c4_44]; decide) (by show ¬ _ < iW (v1); rw [c4_44]; decide) (by show _[(iW (v1) - _).toNat]? = _; rw [c4_44]; rfl) (by decide) ?_
                                                                                            refine e_aload_n (B := B) (x := x0) hx hb dX13_doesPlain_678 rfl (hl.at 0 rfl) ?_
                                                                                            refine lv_iload_n hx hb dX13_doesPlain_679 rfl (hl.at 1 rfl) ?_
                                                                                            obtain ⟨⟨v680, S680⟩, h680, hsh⟩ := Option.bind_eq_some_iff.mp hsh
                                                                                            have hsh : _ = _ := hsh
                                                                                            try dsimp only at hsh
                                                                                            have ok680 := ok13_doesFurther h680
                                                                                            refine e_callI (nL := 2) (mc := 0) (ms := 0) (T := TX13) (N := 126) (As := [.int (iI (x1))]) (rest := []) hx hb hml hown hts hp hS hl.size ok680.1 ok680.2.1 ok680.2.2 rfl (by decide) (c13_doesFurther l D cA B S S680 (x0) (x1) v680 h680) rfl rfl kd13_doesFurther (kl13_776) ks13_doesFurther kv13_doesFurther ki13 kh13_doesFurther ⟨Nat.le_of_ble_eq_true rfl, Nat.le_of_ble_eq_true rfl⟩ rfl (by simp [e_rv_cat, e_int_cat]) ⟨Nat.le_refl _, Nat.le_refl _⟩ dX13_doesPlain_680 rfl (fun H locs hp hS => ?_)
                                                                                            obtain ⟨hz, hz1, hz2⟩ := zR_some hsh
                                                                                            rw [← hz1, ← hz2]
                                                                                            exact e_zret hx hb hrt hlk hp hS hz dX13_doesPlain_683
                                                                                          · rw [if_neg c4_44] at hsh
                                                                                            by_cases c4_45 : iW (v1) = 67
                                                                                            · rw [if_pos c4_45] at hsh
                                                                                              refine lv_tableIn (off := 468) (tgt := 472) hx hb dX13_doesPlain_4 (by show ¬ iW (v1) < _; rw [c4_45]; decide) (by show ¬ _ < iW (v1); rw [c4_45]; decide) (by show _[(iW (v1) - _).toNat]? = _; rw [c4_45]; rfl) (by decide) ?_
                                                                                              refine e_aload_n (B := B) (x := x0) hx hb dX13_doesPlain_472 rfl (hl.at 0 rfl) ?_
                                                                                              refine e_aload_n (B := B) (x := x0) hx hb dX13_doesPlain_473 rfl (hl.at 0 rfl) ?_
                                                                                              obtain ⟨v474, h474, hsh⟩ := Option.bind_eq_some_iff.mp hsh
                                                                                              refine e_getI (k := 62) hx hb hts in_X13 hown hp h474 rfl (by decide) (by decide) rfl (hts _ kf13_615) rfl dX13_doesPlain_474 ?_
                                                                                              refine lv_bipush (v := iI (68)) hx hb dX13_doesPlain_477 (by decide +kernel) ?_
                                                                                              refine e_icmp_ne (tgt := 487) hx hb dX13_doesPlain_479 (by decide) (fun c479 => ?_) (fun c479 => ?_)
                                                                                              · rw [if_neg c479] at hsh
                                                                                                refine lv_bipush (v := iI (99)) hx hb dX13_doesPlain_487 (by decide +kernel) ?_
                                                                                                exact w13_doesPlain_b489 E hp hS (hl.sub [0, 1] rfl) hsh
                                                                                              · rw [if_pos c479] at hsh
                                                                                                refine lv_bipush (v := iI (100)) hx hb dX13_doesPlain_482 (by decide +kernel) ?_
                                                                                                refine lv_goto (tgt := 489) hx hb dX13_doesPlain_484 (by decide) ?_
                                                                                                exact w13_doesPlain_b489 E hp hS (hl.sub [0, 1] rfl) hsh
                                                                                            · rw [if_neg c4_45] at hsh
                                                                                              by_cases c4_46 : iW (v1) = 68
                                                                                              · rw [if_pos c4_46] at hsh
                                                                                                refine lv_tableIn (off := 468) (tgt := 472) hx hb dX13_doesPlain_4 (by show ¬ iW (v1) < _; rw [c4_46]; decide) (by show ¬ _ < iW (v1); rw [c4_46]; decide) (by show _[(iW (v1) - _).toNat]? = _; rw [c4_46]; rfl) (by decide) ?_
                                                                                                refine e_aload_n (B := B) (x := x0) hx hb dX13_doesPlain_472 rfl (hl.at 0 rfl) ?_
                                                                                                refine e_aload_n (B := B) (x := x0) hx hb dX13_doesPlain_473 rfl (hl.at 0 rfl) ?_
                                                                                                obtain ⟨v474, h474, hsh⟩ := Option.bind_eq_some_iff.mp hsh
                                                                                                refine e_getI (k := 62) hx hb hts in_X13 hown hp h474 rfl (by decide) (by decide) rfl (hts _ kf13_615) rfl dX13_doesPlain_474 ?_
                                                                                                refine lv_bipush (v := iI (68)) hx hb dX13_doesPlain_477 (by decide +kernel) ?_
                                                                                                refine e_icmp_ne (tgt := 487) hx hb dX13_doesPlain_479 (by decide) (fun c479 => ?_) (fun c479 => ?_)
                                                                                                · rw [if_neg c479] at hsh
                                                                                                  refine lv_bipush (v := iI (99)) hx hb dX13_doesPlain_487 (by decide +kernel) ?_
                                                                                                  exact w13_doesPlain_b489 E hp hS (hl.sub [0, 1] rfl) hsh
                                                                                                · rw [if_pos c479] at hsh
                                                                                                  refine lv_bipush (v := iI (100)) hx hb dX13_doesPlain_482 (by decide +kernel) ?_
                                                                                                  refine lv_goto (tgt := 489) hx hb dX13_doesPlain_484 (by decide) ?_
                                                                                                  exact w13_doesPlain_b489 E hp hS (hl.sub [0, 1] rfl) hsh
                                                                                              · rw [if_neg c4_46] at hsh
                                                                                                by_cases c4_47 : iW (v1) = 69
                                                                                                · rw [if_pos c4_47] at hsh
                                                                                                  refine lv_tableIn (off := 674) (tgt := 678) hx hb dX13_doesPlain_4 (by show ¬ iW (v1) < _; rw [c4_47]; decide) (by show ¬ _ < iW (v1); rw [c4_47]; decide) (by show _[(iW (v1) - _).toNat]? = _; rw [c4_47]; rfl) (by decide) ?_
                                                                                                  refine e_aload_n (B := B) (x := x0) hx hb dX13_doesPlain_678 rfl (hl.at 0 rfl) ?_
                                                                                                  refine lv_iload_n hx hb dX13_doesPlain_679 rfl (hl.at 1 rfl) ?_
                                                                                                  obtain ⟨⟨v680, S680⟩, h680, hsh⟩ := Option.bind_eq_some_iff.mp hsh
                                                                                                  have hsh : _ = _ := hsh
                                                                                                  try dsimp only at hsh
                                                                                                  have ok680 := ok13_doesFurther h680
                                                                                                  refine e_callI (nL := 2) (mc := 0) (ms := 0) (T := TX13) (N := 126) (As := [.int (iI (x1))]) (rest := []) hx hb hml hown hts hp hS hl.size ok680.1 ok680.2.1 ok680.2.2 rfl (by decide) (c13_doesFurther l D cA B S S680 (x0) (x1) v680 h680) rfl rfl kd13_doesFurther (kl13_776) ks13_doesFurther kv13_doesFurther ki13 kh13_doesFurther ⟨Nat.le_of_ble_eq_true rfl, Nat.le_of_ble_eq_true rfl⟩ rfl (by simp [e_rv_cat, e_int_cat]) ⟨Nat.le_refl _, Nat.le_refl _⟩ dX13_doesPlain_680 rfl (fun H locs hp hS => ?_)
                                                                                                  obtain ⟨hz, hz1, hz2⟩ := zR_some hsh
                                                                                                  rw [← hz1, ← hz2]
                                                                                                  exact e_zret hx hb hrt hlk hp hS hz dX13_doesPlain_683
                                                                                                · rw [if_neg c4_47] at hsh
                                                                                                  by_cases c4_48 : iW (v1) = 70
                                                                                                  · rw [if_pos c4_48] at hsh
                                                                                                    refine lv_tableIn (off := 674) (tgt := 678) hx hb dX13_doesPlain_4 (by show ¬ iW (v1) < _; rw [c4_48]; decide) (by show ¬ _ < iW (v1); rw [c4_48]; decide) (by show _[(iW (v1) - _).toNat]? = _; rw [c4_48]; rfl) (by decide) ?_
                                                                                                    refine e_aload_n (B := B) (x := x0) hx hb dX13_doesPlain_678 rfl (hl.at 0 rfl) ?_
                                                                                                    refine lv_iload_n hx hb dX13_doesPlain_679 rfl (hl.at 1 rfl) ?_
                                                                                                    obtain ⟨⟨v680, S680⟩, h680, hsh⟩ := Option.bind_eq_some_iff.mp hsh
                                                                                                    have hsh : _ = _ := hsh
                                                                                                    try dsimp only at hsh
                                                                                                    have ok680 := ok13_doesFurther h680
                                                                                                    refine e_callI (nL := 2) (mc := 0) (ms := 0) (T := TX13) (N := 126) (As := [.int (iI (x1))]) (rest := []) hx hb hml hown hts hp hS hl.size ok680.1 ok680.2.1 ok680.2.2 rfl (by decide) (c13_doesFurther l D cA B S S680 (x0) (x1) v680 h680) rfl rfl kd13_doesFurther (kl13_776) ks13_doesFurther kv13_doesFurther ki13 kh13_doesFurther ⟨Nat.le_of_ble_eq_true rfl, Nat.le_of_ble_eq_true rfl⟩ rfl (by simp [e_rv_cat, e_int_cat]) ⟨Nat.le_refl _, Nat.le_refl _⟩ dX13_doesPlain_680 rfl (fun H locs hp hS => ?_)
                                                                                                    obtain ⟨hz, hz1, hz2⟩ := zR_some hsh
                                                                                                    rw [← hz1, ← hz2]
                                                                                                    exact e_zret hx hb hrt hlk hp hS hz dX13_doesPlain_683
                                                                                                  · rw [if_neg c4_48] at hsh
                                                                                                    by_cases c4_49 : iW (v1) = 71
                                                                                                    · rw [if_pos c4_49] at hsh
                                                                                                      refine lv_tableIn (off := 674) (tgt := 678) hx hb dX13_doesPlain_4 (by show ¬ iW (v1) < _; rw [c4_49]; decide) (by show ¬ _ < iW (v1); rw [c4_49]; decide) (by show _[(iW (v1) - _).toNat]? = _; rw [c4_49]; rfl) (by decide) ?_
                                                                                                      refine e_aload_n (B := B) (x := x0) hx hb dX13_doesPlain_678 rfl (hl.at 0 rfl) ?_
                                                                                                      refine lv_iload_n hx hb dX13_doesPlain_679 rfl (hl.at 1 rfl) ?_
                                                                                                      obtain ⟨⟨v680, S680⟩, h680, hsh⟩ := Option.bind_eq_some_iff.mp hsh
                                                                                                      have hsh : _ = _ := hsh
                                                                                                      try dsimp only at hsh
                                                                                                      have ok680 := ok13_doesFurther h680
                                                                                                      refine e_callI (nL := 2) (mc := 0) (ms := 0) (T := TX13) (N := 126) (As := [.int (iI (x1))]) (rest := []) hx hb hml hown hts hp hS hl.size ok680.1 ok680.2.1 ok680.2.2 rfl (by decide) (c13_doesFurther l D cA B S S680 (x0) (x1) v680 h680) rfl rfl kd13_doesFurther (kl13_776) ks13_doesFurther kv13_doesFurther ki13 kh13_doesFurther ⟨Nat.le_of_ble_eq_true rfl, Nat.le_of_ble_eq_true rfl⟩ rfl (by simp [e_rv_cat, e_int_cat]) ⟨Nat.le_refl _, Nat.le_refl _⟩ dX13_doesPlain_680 rfl (fun H locs hp hS => ?_)
                                                                                                      obtain ⟨hz, hz1, hz2⟩ := zR_some hsh
                                                                                                      rw [← hz1, ← hz2]
                                                                                                      exact e_zret hx hb hrt hlk hp hS hz dX13_doesPlain_683
                                                                                                    · rw [if_neg c4_49] at hsh
                                                                                                      by_cases c4_50 : iW (v1) = 72
                                                                                                      · rw [if_pos c4_50] at hsh
                                                                                                        refine lv_tableIn (off := 674) (tgt := 678) hx hb dX13_doesPlain_4 (by show ¬ iW (v1) < _; rw [c4_50]; decide) (by show ¬ _ < iW (v1); rw [c4_50]; decide) (by show _[(iW (v1) - _).toNat]? = _; rw [c4_50]; rfl) (by decide) ?_
                                                                                                        refine e_aload_n (B := B) (x := x0) hx hb dX13_doesPlain_678 rfl (hl.at 0 rfl) ?_
                                                                                                        refine lv_iload_n hx hb dX13_doesPlain_679 rfl (hl.at 1 rfl) ?_
                                                                                                        obtain ⟨⟨v680, S680⟩, h680, hsh⟩ := Option.bind_eq_some_iff.mp hsh
                                                                                                        have hsh : _ = _ := hsh
                                                                                                        try dsimp only at hsh
                                                                                                        have ok680 := ok13_doesFurther h680
                                                                                                        refine e_callI (nL := 2) (mc := 0) (ms := 0) (T := TX13) (N := 126) (As := [.int (iI (x1))]) (rest := []) hx hb hml hown hts hp hS hl.size ok680.1 ok680.2.1 ok680.2.2 rfl (by decide) (c13_doesFurther l D cA B S S680 (x0) (x1) v680 h680) rfl rfl kd13_doesFurther (kl13_776) ks13_doesFurther kv13_doesFurther ki13 kh13_doesFurther ⟨Nat.le_of_ble_eq_true rfl, Nat.le_of_ble_eq_true rfl⟩ rfl (by simp [e_rv_cat, e_int_cat]) ⟨Nat.le_refl _, Nat.le_refl _⟩ dX13_doesPlain_680 rfl (fun H locs hp hS => ?_)
                                                                                                        obtain ⟨hz, hz1, hz2⟩ := zR_some hsh
                                                                                                        rw [← hz1, ← hz2]
                                                                                                        exact e_zret hx hb hrt hlk hp hS hz dX13_doesPlain_683
                                                                                                      · rw [if_neg c4_50] at hsh
                                                                                                        by_cases c4_51 : iW (v1) = 73
                                                                                                        · rw [if_pos c4_51] at hsh
                                                                                                          refine lv_tableIn (off := 609) (tgt := 613) hx hb dX13_doesPlain_4 (by show ¬ iW (v1) < _; rw [c4_51]; decide) (by show ¬ _ < iW (v1); rw [c4_51]; decide) (by show _[(iW (v1) - _).toNat]? = _; rw [c4_51]; rfl) (by decide) ?_
                                                                                                          refine e_aload_n (B := B) (x := x0) hx hb dX13_doesPlain_613 rfl (hl.at 0 rfl) ?_
                                                                                                          refine e_aload_n (B := B) (x := x0) hx hb dX13_doesPlain_614 rfl (hl.at 0 rfl) ?_
                                                                                                          obtain ⟨v615, h615, hsh⟩ := Option.bind_eq_some_iff.mp hsh
                                                                                                          refine e_getI (k := 62) hx hb hts in_X13 hown hp h615 rfl (by decide) (by decide) rfl (hts _ kf13_615) rfl dX13_doesPlain_615 ?_
                                                                                                          refine lv_iload_n hx hb dX13_doesPlain_618 rfl (hl.at 1 rfl) ?_
                                                                                                          obtain ⟨⟨v619, S619⟩, h619, hsh⟩ := Option.bind_eq_some_iff.mp hsh
                                                                                                          have hsh : _ = _ := hsh
                                                                                                          try dsimp only at hsh
                                                                                                          have ok619 := ok13_beginsInsertion h619
                                                                                                          refine e_callI (nL := 2) (mc := 0) (ms := 0) (T := TX13) (N := 126) (As := [.int (iI (v615)), .int (iI (x1))]) (rest := []) hx hb hml hown hts hp hS hl.size ok619.1 ok619.2.1 ok619.2.2 rfl (by decide) (c13_beginsInsertion l D cA B S S619 (x0) (v615) (x1) v619 h619) rfl rfl kd13_beginsInsertion (kl13_767) ks13_beginsInsertion kv13_beginsInsertion ki13 kh13_beginsInsertion ⟨Nat.le_of_ble_eq_true rfl, Nat.le_of_ble_eq_true rfl⟩ rfl (by simp [e_rv_cat, e_int_cat]) ⟨Nat.le_refl _, Nat.le_refl _⟩ dX13_doesPlain_619 rfl (fun H locs hp hS => ?_)
                                                                                                          obtain ⟨hz, hz1, hz2⟩ := zR_some hsh
                                                                                                          rw [← hz1, ← hz2]
                                                                                                          exact e_zret hx hb hrt hlk hp hS hz dX13_doesPlain_622
                                                                                                        · rw [if_neg c4_51] at hsh
                                                                                                          by_cases c4_52 : iW (v1) = 74
                                                                                                          · rw [if_pos c4_52] at hsh
                                                                                                            refine lv_tableIn (off := 555) (tgt := 559) hx hb dX13_doesPlain_4 (by show ¬ iW (v1) < _; rw [c4_52]; decide) (by show ¬ _ < iW (v1); rw [c4_52]; decide) (by show _[(iW (v1) - _).toNat]? = _; rw [c4_52]; rfl) (by decide) ?_
                                                                                                            refine e_aload_n (B := B) (x := x0) hx hb dX13_doesPlain_559 rfl (hl.at 0 rfl) ?_
                                                                                                            refine e_aload_n (B := B) (x := x0) hx hb dX13_doesPlain_560 rfl (hl.at 0 rfl) ?_
                                                                                                            obtain ⟨v561, h561, hsh⟩ := Option.bind_eq_some_iff.mp hsh
                                                                                                            refine e_getI (k := 5) hx hb hts in_X13 hown hp h561 rfl (by decide) (by decide) rfl (hts _ kf13_213) rfl dX13_doesPlain_561 ?_
                                                                                                            refine lv_iconst (v := iI (2)) hx hb dX13_doesPlain_564 rfl ?_
                                                                                                            refine lv_iload_n hx hb dX13_doesPlain_565 rfl (hl.at 1 rfl) ?_
                                                                                                            obtain ⟨⟨v566, S566⟩, h566, hsh⟩ := Option.bind_eq_some_iff.mp hsh
                                                                                                            have hsh : _ = _ := hsh
                                                                                                            try dsimp only at hsh
                                                                                                            refine e_callS (nL := 2) (mc := 0) (ms := 0) (As := [.int (iI (2)), .int (iI (x1))]) (rest := [.int (iI (v561)), e_rv B (x0)]) hx hb hml hown hts hp hS hl.size (c13_greater l D cA B S S566 (2) (x1) v566 h566) rfl rfl kd13_greater (kl13_210) ks13_greater ki13 kh13_greater ⟨Nat.le_of_ble_eq_true rfl, Nat.le_of_ble_eq_true rfl⟩ rfl (by simp [e_rv_cat, e_int_cat]) ⟨Nat.le_refl _, Nat.le_refl _⟩ dX13_doesPlain_566 rfl (fun H locs hp hS => ?_)
                                                                                                            obtain ⟨⟨v569, S569⟩, h569, hsh⟩ := Option.bind_eq_some_iff.mp hsh
                                                                                                            have hsh : _ = _ := hsh
                                                                                                            try dsimp only at hsh
                                                                                                            have ok569 := ok13_joins h569
                                                                                                            refine e_callI (nL := 2) (mc := 0) (ms := 0) (T := TX13) (N := 126) (As := [.int (iI (v561)), .int (iI (v566))]) (rest := []) hx hb hml hown hts hp hS hl.size ok569.1 ok569.2.1 ok569.2.2 rfl (by decide) (c13_joins l D cA B S566 S569 (x0) (v561) (v566) v569 h569) rfl rfl kd13_joins (kl13_754) ks13_joins kv13_joins ki13 kh13_joins ⟨Nat.le_of_ble_eq_true rfl, Nat.le_of_ble_eq_true rfl⟩ rfl (by simp [e_rv_cat, e_int_cat]) ⟨Nat.le_refl _, Nat.le_refl _⟩ dX13_doesPlain_569 rfl (fun H locs hp hS => ?_)
                                                                                                            obtain ⟨hz, hz1, hz2⟩ := zR_some hsh
                                                                                                            rw [← hz1, ← hz2]
                                                                                                            exact e_zret hx hb hrt hlk hp hS hz dX13_doesPlain_572
                                                                                                          · rw [if_neg c4_52] at hsh
                                                                                                            by_cases c4_53 : iW (v1) = 75
                                                                                                            · rw [if_pos c4_53] at hsh
                                                                                                              refine lv_tableIn (off := 674) (tgt := 678) hx hb dX13_doesPlain_4 (by show ¬ iW (v1) < _; rw [c4_53]; decide) (by show ¬ _ < iW (v1); rw [c4_53]; decide) (by show _[(iW (v1) - _).toNat]? = _; rw [c4_53]; rfl) (by decide) ?_
                                                                                                              refine e_aload_n (B := B) (x := x0) hx hb dX13_doesPlain_678 rfl (hl.at 0 rfl) ?_
                                                                                                              refine lv_iload_n hx hb dX13_doesPlain_679 rfl (hl.at 1 rfl) ?_
                                                                                                              obtain ⟨⟨v680, S680⟩, h680, hsh⟩ := Option.bind_eq_some_iff.mp hsh
                                                                                                              have hsh : _ = _ := hsh
                                                                                                              try dsimp only at hsh
                                                                                                              have ok680 := ok13_doesFurther h680
                                                                                                              refine e_callI (nL := 2) (mc := 0) (ms := 0) (T := TX13) (N := 126) (As := [.int (iI (x1))]) (rest := []) hx hb hml hown hts hp hS hl.size ok680.1 ok680.2.1 ok680.2.2 rfl (by decide) (c13_doesFurther l D cA B S S680 (x0) (x1) v680 h680) rfl rfl kd13_doesFurther (kl13_776) ks13_doesFurther kv13_doesFurther ki13 kh13_doesFurther ⟨Nat.le_of_ble_eq_true rfl, Nat.le_of_ble_eq_true rfl⟩ rfl (by simp [e_rv_cat, e_int_cat]) ⟨Nat.le_refl _, Nat.le_refl _⟩ dX13_doesPlain_680 rfl (fun H locs hp hS => ?_)
                                                                                                              obtain ⟨hz, hz1, hz2⟩ := zR_some hsh
                                                                                                              rw [← hz1, ← hz2]
                                                                                                              exact e_zret hx hb hrt hlk hp hS hz dX13_doesPlain_683
                                                                                                            · rw [if_neg c4_53] at hsh
                                                                                                              by_cases c4_54 : iW (v1) = 76
                                                                                                              · rw [if_pos c4_54] at hsh
                                                                                                                refine lv_tableIn (off := 674) (tgt := 678) hx hb dX13_doesPlain_4 (by show ¬ iW (v1) < _; rw [c4_54]; decide) (by show ¬ _ < iW (v1); rw [c4_54]; decide) (by show _[(iW (v1) - _).toNat]? = _; rw [c4_54]; rfl) (by decide) ?_
                                                                                                                refine e_aload_n (B := B) (x := x0) hx hb dX13_doesPlain_678 rfl (hl.at 0 rfl) ?_
                                                                                                                refine lv_iload_n hx hb dX13_doesPlain_679 rfl (hl.at 1 rfl) ?_
                                                                                                                obtain ⟨⟨v680, S680⟩, h680, hsh⟩ := Option.bind_eq_some_iff.mp hsh
                                                                                                                have hsh : _ = _ := hsh
                                                                                                                try dsimp only at hsh
                                                                                                                have ok680 := ok13_doesFurther h680
                                                                                                                refine e_callI (nL := 2) (mc := 0) (ms := 0) (T := TX13) (N := 126) (As := [.int (iI (x1))]) (rest := []) hx hb hml hown hts hp hS hl.size ok680.1 ok680.2.1 ok680.2.2 rfl (by decide) (c13_doesFurther l D cA B S S680 (x0) (x1) v680 h680) rfl rfl kd13_doesFurther (kl13_776) ks13_doesFurther kv13_doesFurther ki13 kh13_doesFurther ⟨Nat.le_of_ble_eq_true rfl, Nat.le_of_ble_eq_true rfl⟩ rfl (by simp [e_rv_cat, e_int_cat]) ⟨Nat.le_refl _, Nat.le_refl _⟩ dX13_doesPlain_680 rfl (fun H locs hp hS => ?_)
                                                                                                                obtain ⟨hz, hz1, hz2⟩ := zR_some hsh
                                                                                                                rw [← hz1, ← hz2]
                                                                                                                exact e_zret hx hb hrt hlk hp hS hz dX13_doesPlain_683
                                                                                                              · rw [if_neg c4_54] at hsh
                                                                                                                by_cases c4_55 : iW (v1) = 77
                                                                                                                · rw [if_pos c4_55] at hsh
                                                                                                                  refine lv_tableIn (off := 674) (tgt := 678) hx hb dX13_doesPlain_4 (by show ¬ iW (v1) < _; rw [c4_55]; decide) (by show ¬ _ < iW (v1); rw [c4_55]; decide) (by show _[(iW (v1) - _).toNat]? = _; rw [c4_55]; rfl) (by decide) ?_
                                                                                                                  refine e_aload_n (B := B) (x := x0) hx hb dX13_doesPlain_678 rfl (hl.at 0 rfl) ?_
                                                                                                                  refine lv_iload_n hx hb dX13_doesPlain_679 rfl (hl.at 1 rfl) ?_
                                                                                                                  obtain ⟨⟨v680, S680⟩, h680, hsh⟩ := Option.bind_eq_some_iff.mp hsh
                                                                                                                  have hsh : _ = _ := hsh
                                                                                                                  try dsimp only at hsh
                                                                                                                  have ok680 := ok13_doesFurther h680
                                                                                                                  refine e_callI (nL := 2) (mc := 0) (ms := 0) (T := TX13) (N := 126) (As := [.int (iI (x1))]) (rest := []) hx hb hml hown hts hp hS hl.size ok680.1 ok680.2.1 ok680.2.2 rfl (by decide) (c13_doesFurther l D cA B S S680 (x0) (x1) v680 h680) rfl rfl kd13_doesFurther (kl13_776) ks13_doesFurther kv13_doesFurther ki13 kh13_doesFurther ⟨Nat.le_of_ble_eq_true rfl, Nat.le_of_ble_eq_true rfl⟩ rfl (by simp [e_rv_cat, e_int_cat]) ⟨Nat.le_refl _, Nat.le_refl _⟩ dX13_doesPlain_680 rfl (fun H locs hp hS => ?_)
                                                                                                                  obtain ⟨hz, hz1, hz2⟩ := zR_some hsh
                                                                                                                  rw [← hz1, ← hz2]
                                                                                                                  exact e_zret hx hb hrt hlk hp hS hz dX13_doesPlain_683
                                                                                                                · rw [if_neg c4_55] at hsh
                                                                                                                  by_cases c4_56 : iW (v1) = 78
                                                                                                                  · rw [if_pos c4_56] at hsh
                                                                                                                    refine lv_tableIn (off := 674) (tgt := 678) hx hb dX13_doesPlain_4 (by show ¬ iW (v1) < _; rw [c4_56]; decide) (by show ¬ _ < iW (v1); rw [c4_56]; decide) (by show _[(iW (v1) - _).toNat]? = _; rw [c4_56]; rfl) (by decide) ?_
                                                                                                                    refine e_aload_n (B := B) (x := x0) hx hb dX13_doesPlain_678 rfl (hl.at 0 rfl) ?_
                                                                                                                    refine lv_iload_n hx hb dX13_doesPlain_679 rfl (hl.at 1 rfl) ?_
                                                                                                                    obtain ⟨⟨v680, S680⟩, h680, hsh⟩ := Option.bind_eq_some_iff.mp hsh
                                                                                                                    have hsh : _ = _ := hsh
                                                                                                                    try dsimp only at hsh
                                                                                                                    have ok680 := ok13_doesFurther h680
                                                                                                                    refine e_callI (nL := 2) (mc := 0) (ms := 0) (T := TX13) (N := 126) (As := [.int (iI (x1))]) (rest := []) hx hb hml hown hts hp hS hl.size ok680.1 ok680.2.1 ok680.2.2 rfl (by decide) (c13_doesFurther l D cA B S S680 (x0) (x1) v680 h680) rfl rfl kd13_doesFurther (kl13_776) ks13_doesFurther kv13_doesFurther ki13 kh13_doesFurther ⟨Nat.le_of_ble_eq_true rfl, Nat.le_of_ble_eq_true rfl⟩ rfl (by simp [e_rv_cat, e_int_cat]) ⟨Nat.le_refl _, Nat.le_refl _⟩ dX13_doesPlain_680 rfl (fun H locs hp hS => ?_)
                                                                                                                    obtain ⟨hz, hz1, hz2⟩ := zR_some hsh
                                                                                                                    rw [← hz1, ← hz2]
                                                                                                                    exact e_zret hx hb hrt hlk hp hS hz dX13_doesPlain_683
                                                                                                                  · rw [if_neg c4_56] at hsh
                                                                                                                    by_cases c4_57 : iW (v1) = 79
                                                                                                                    · rw [if_pos c4_57] at hsh
                                                                                                                      refine lv_tableIn (off := 609) (tgt := 613) hx hb dX13_doesPlain_4 (by show ¬ iW (v1) < _; rw [c4_57]; decide) (by show ¬ _ < iW (v1); rw [c4_57]; decide) (by show _[(iW (v1) - _).toNat]? = _; rw [c4_57]; rfl) (by decide) ?_
                                                                                                                      refine e_aload_n (B := B) (x := x0) hx hb dX13_doesPlain_613 rfl (hl.at 0 rfl) ?_
                                                                                                                      refine e_aload_n (B := B) (x := x0) hx hb dX13_doesPlain_614 rfl (hl.at 0 rfl) ?_
                                                                                                                      obtain ⟨v615, h615, hsh⟩ := Option.bind_eq_some_iff.mp hsh
                                                                                                                      refine e_getI (k := 62) hx hb hts in_X13 hown hp h615 rfl (by decide) (by decide) rfl (hts _ kf13_615) rfl dX13_doesPlain_615 ?_
                                                                                                                      refine lv_iload_n hx hb dX13_doesPlain_618 rfl (hl.at 1 rfl) ?_
                                                                                                                      obtain ⟨⟨v619, S619⟩, h619, hsh⟩ := Option.bind_eq_some_iff.mp hsh
                                                                                                                      have hsh : _ = _ := hsh
                                                                                                                      try dsimp only at hsh
                                                                                                                      have ok619 := ok13_beginsInsertion h619
                                                                                                                      refine e_callI (nL := 2) (mc := 0) (ms := 0) (T := TX13) (N := 126) (As := [.int (iI (v615)), .int (iI (x1))]) (rest := []) hx hb hml hown hts hp hS hl.size ok619.1 ok619.2.1 ok619.2.2 rfl (by decide) (c13_beginsInsertion l D cA B S S619 (x0) (v615) (x1) v619 h619) rfl rfl kd13_beginsInsertion (kl13_767) ks13_beginsInsertion kv13_beginsInsertion ki13 kh13_beginsInsertion ⟨Nat.le_of_ble_eq_true rfl, Nat.le_of_ble_eq_true rfl⟩ rfl (by simp [e_rv_cat, e_int_cat]) ⟨Nat.le_refl _, Nat.le_refl _⟩ dX13_doesPlain_619 rfl (fun H locs hp hS => ?_)
                                                                                                                      obtain ⟨hz, hz1, hz2⟩ := zR_some hsh
                                                                                                                      rw [← hz1, ← hz2]
                                                                                                                      exact e_zret hx hb hrt hlk hp hS hz dX13_doesPlain_622
                                                                                                                    · rw [if_neg c4_57] at hsh
                                                                                                                      by_cases c4_58 : iW (v1) = 80
                                                                                                                      · rw [if_pos c4_58] at hsh
                                                                                                                        refine lv_tableIn (off := 585) (tgt := 589) hx hb dX13_doesPlain_4 (by show ¬ iW (v1) < _; rw [c4_58]; decide) (by show ¬ _ < iW (v1); rw [c4_58]; decide) (by show _[(iW (v1) - _).toNat]? = _; rw [c4_58]; rfl) (by decide) ?_
                                                                                                                        refine e_aload_n (B := B) (x := x0) hx hb dX13_doesPlain_589 rfl (hl.at 0 rfl) ?_
                                                                                                                        refine e_aload_n (B := B) (x := x0) hx hb dX13_doesPlain_590 rfl (hl.at 0 rfl) ?_
                                                                                                                        obtain ⟨v591, h591, hsh⟩ := Option.bind_eq_some_iff.mp hsh
                                                                                                                        refine e_getI (k := 58) hx hb hts in_X13 hown hp h591 rfl (by decide) (by decide) rfl (hts _ kf13_642) rfl dX13_doesPlain_591 ?_
                                                                                                                        refine lv_iload_n hx hb dX13_doesPlain_594 rfl (hl.at 1 rfl) ?_
                                                                                                                        refine e_aload_n (B := B) (x := x0) hx hb dX13_doesPlain_595 rfl (hl.at 0 rfl) ?_
                                                                                                                        obtain ⟨v596, h596, hsh⟩ := Option.bind_eq_some_iff.mp hsh
                                                                                                                        refine e_getI (k := 62) hx hb hts in_X13 hown hp h596 rfl (by decide) (by decide) rfl (hts _ kf13_615) rfl dX13_doesPlain_596 ?_
                                                                                                                        refine lv_bipush (v := iI (80)) hx hb dX13_doesPlain_599 (by decide +kernel) ?_
                                                                                                                        refine e_icmp_ne (tgt := 608) hx hb dX13_doesPlain_601 (by decide) (fun c601 => ?_) (fun c601 => ?_)
                                                                                                                        · rw [if_neg c601] at hsh
                                                                                                                          refine lv_iconst (v := iI (0)) hx hb dX13_doesPlain_608 rfl ?_
                                                                                                                          exact w13_doesPlain_b609 E hp hS (hl.sub [] rfl) hsh
                                                                                                                        · rw [if_pos c601] at hsh
                                                                                                                          refine lv_iconst (v := iI (1)) hx hb dX13_doesPlain_604 rfl ?_
                                                                                                                          refine lv_goto (tgt := 609) hx hb dX13_doesPlain_605 (by decide) ?_
                                                                                                                          exact w13_doesPlain_b609 E hp hS (hl.sub [] rfl) hsh
                                                                                                                      · rw [if_neg c4_58] at hsh
                                                                                                                        by_cases c4_59 : iW (v1) = 81
                                                                                                                        · rw [if_pos c4_59] at hsh
                                                                                                                          refine lv_tableIn (off := 674) (tgt := 678) hx hb dX13_doesPlain_4 (by show ¬ iW (v1) < _; rw [c4_59]; decide) (by show ¬ _ < iW (v1); rw [c4_59]; decide) (by show _[(iW (v1) - _).toNat]? = _; rw [c4_59]; rfl) (by decide) ?_
                                                                                                                          refine e_aload_n (B := B) (x := x0) hx hb dX13_doesPlain_678 rfl (hl.at 0 rfl) ?_
                                                                                                                          refine lv_iload_n hx hb dX13_doesPlain_679 rfl (hl.at 1 rfl) ?_
                                                                                                                          obtain ⟨⟨v680, S680⟩, h680, hsh⟩ := Option.bind_eq_some_iff.mp hsh
                                                                                                                          have hsh : _ = _ := hsh
                                                                                                                          try dsimp only at hsh
                                                                                                                          have ok680 := ok13_doesFurther h680
                                                                                                                          refine e_callI (nL := 2) (mc := 0) (ms := 0) (T := TX13) (N := 126) (As := [.int (iI (x1))]) (rest := []) hx hb hml hown hts hp hS hl.size ok680.1 ok680.2.1 ok680.2.2 rfl (by decide) (c13_doesFurther l D cA B S S680 (x0) (x1) v680 h680) rfl rfl kd13_doesFurther (kl13_776) ks13_doesFurther kv13_doesFurther ki13 kh13_doesFurther ⟨Nat.le_of_ble_eq_true rfl, Nat.le_of_ble_eq_true rfl⟩ rfl (by simp [e_rv_cat, e_int_cat]) ⟨Nat.le_refl _, Nat.le_refl _⟩ dX13_doesPlain_680 rfl (fun H locs hp hS => ?_)
                                                                                                                          obtain ⟨hz, hz1, hz2⟩ := zR_some hsh
                                                                                                                          rw [← hz1, ← hz2]
                                                                                                                          exact e_zret hx hb hrt hlk hp hS hz dX13_doesPlain_683
                                                                                                                        · rw [if_neg c4_59] at hsh
                                                                                                                          by_cases c4_60 : iW (v1) = 82
                                                                                                                          · rw [if_pos c4_60] at hsh
                                                                                                                            refine lv_tableIn (off := 674) (tgt := 678) hx hb dX13_doesPlain_4 (by show ¬ iW (v1) < _; rw [c4_60]; decide) (by show ¬ _ < iW (v1); rw [c4_60]; decide) (by show _[(iW (v1) - _).toNat]? = _; rw [c4_60]; rfl) (by decide) ?_
                                                                                                                            refine e_aload_n (B := B) (x := x0) hx hb dX13_doesPlain_678 rfl (hl.at 0 rfl) ?_
                                                                                                                            refine lv_iload_n hx hb dX13_doesPlain_679 rfl (hl.at 1 rfl) ?_
                                                                                                                            obtain ⟨⟨v680, S680⟩, h680, hsh⟩ := Option.bind_eq_some_iff.mp hsh
                                                                                                                            have hsh : _ = _ := hsh
                                                                                                                            try dsimp only at hsh
                                                                                                                            have ok680 := ok13_doesFurther h680
                                                                                                                            refine e_callI (nL := 2) (mc := 0) (ms := 0) (T := TX13) (N := 126) (As := [.int (iI (x1))]) (rest := []) hx hb hml hown hts hp hS hl.size ok680.1 ok680.2.1 ok680.2.2 rfl (by decide) (c13_doesFurther l D cA B S S680 (x0) (x1) v680 h680) rfl rfl kd13_doesFurther (kl13_776) ks13_doesFurther kv13_doesFurther ki13 kh13_doesFurther ⟨Nat.le_of_ble_eq_true rfl, Nat.le_of_ble_eq_true rfl⟩ rfl (by simp [e_rv_cat, e_int_cat]) ⟨Nat.le_refl _, Nat.le_refl _⟩ dX13_doesPlain_680 rfl (fun H locs hp hS => ?_)
                                                                                                                            obtain ⟨hz, hz1, hz2⟩ := zR_some hsh
                                                                                                                            rw [← hz1, ← hz2]
                                                                                                                            exact e_zret hx hb hrt hlk hp hS hz dX13_doesPlain_683
                                                                                                                          · rw [if_neg c4_60] at hsh
                                                                                                                            by_cases c4_61 : iW (v1) = 83
                                                                                                                            · rw [if_pos c4_61] at hsh
                                                                                                                              refine lv_tableIn (off := 514) (tgt := 518) hx hb dX13_doesPlain_4 (by show ¬ iW (v1) < _; rw [c4_61]; decide) (by show ¬ _ < iW (v1); rw [c4_61]; decide) (by show _[(iW (v1) - _).toNat]? = _; rw [c4_61]; rfl) (by decide) ?_
                                                                                                                              refine e_aload_n (B := B) (x := x0) hx hb dX13_doesPlain_518 rfl (hl.at 0 rfl) ?_
                                                                                                                              refine lv_iload_n hx hb dX13_doesPlain_519 rfl (hl.at 1 rfl) ?_
                                                                                                                              obtain ⟨⟨v520, S520⟩, h520, hsh⟩ := Option.bind_eq_some_iff.mp hsh
                                                                                                                              have hsh : _ = _ := hsh
                                                                                                                              try dsimp only at hsh
                                                                                                                              have ok520 := ok13_spansSeen h520
                                                                                                                              refine e_callI (nL := 2) (mc := 0) (ms := 0) (T := TX13) (N := 126) (As := [.int (iI (x1))]) (rest := []) hx hb hml hown hts hp hS hl.size ok520.1 ok520.2.1 ok520.2.2 rfl (by decide) (c13_spansSeen l D cA B S S520 (x0) (x1) v520 h520) rfl rfl kd13_spansSeen (kl13_741) ks13_spansSeen kv13_spansSeen ki13 kh13_spansSeen ⟨Nat.le_of_ble_eq_true rfl, Nat.le_of_ble_eq_true rfl⟩ rfl (by simp [e_rv_cat, e_int_cat]) ⟨Nat.le_refl _, Nat.le_refl _⟩ dX13_doesPlain_520 rfl (fun H locs hp hS => ?_)
                                                                                                                              refine e_if_eq (tgt := 557) hx hb dX13_doesPlain_523 (by decide) (fun c523 => ?_) (fun c523 => ?_)
                                                                                                                              · rw [if_pos c523] at hsh
                                                                                                                                exact w13_doesPlain_b557 E hp hS (hl.sub [] rfl) hsh
                                                                                                                              · rw [if_neg c523] at hsh
                                                                                                                                refine e_aload_n (B := B) (x := x0) hx hb dX13_doesPlain_526 rfl (hl.at 0 rfl) ?_
                                                                                                                                refine e_aload_n (B := B) (x := x0) hx hb dX13_doesPlain_527 rfl (hl.at 0 rfl) ?_
                                                                                                                                obtain ⟨v528, h528, hsh⟩ := Option.bind_eq_some_iff.mp hsh
                                                                                                                                refine e_getI (k := 62) hx hb hts in_X13 hown hp h528 rfl (by decide) (by decide) rfl (hts _ kf13_615) rfl dX13_doesPlain_528 ?_
                                                                                                                                refine lv_bipush (v := iI (83)) hx hb dX13_doesPlain_531 (by decide +kernel) ?_
                                                                                                                                refine e_icmp_ne (tgt := 541) hx hb dX13_doesPlain_533 (by decide) (fun c533 => ?_) (fun c533 => ?_)
                                                                                                                                · rw [if_neg c533] at hsh
                                                                                                                                  refine lv_bipush (v := iI (121)) hx hb dX13_doesPlain_541 (by decide +kernel) ?_
                                                                                                                                  exact w13_doesPlain_b543 E hp hS (hl.sub [0] rfl) hsh
                                                                                                                                · rw [if_pos c533] at hsh
                                                                                                                                  refine lv_bipush (v := iI (99)) hx hb dX13_doesPlain_536 (by decide +kernel) ?_
                                                                                                                                  refine lv_goto (tgt := 543) hx hb dX13_doesPlain_538 (by decide) ?_
                                                                                                                                  exact w13_doesPlain_b543 E hp hS (hl.sub [0] rfl) hsh
                                                                                                                            · rw [if_neg c4_61] at hsh
                                                                                                                              by_cases c4_62 : iW (v1) = 84
                                                                                                                              · rw [if_pos c4_62] at hsh
                                                                                                                                refine lv_tableIn (off := 674) (tgt := 678) hx hb dX13_doesPlain_4 (by show ¬ iW (v1) < _; rw [c4_62]; decide) (by show ¬ _ < iW (v1); rw [c4_62]; decide) (by show _[(iW (v1) - _).toNat]? = _; rw [c4_62]; rfl) (by decide) ?_
                                                                                                                                refine e_aload_n (B := B) (x := x0) hx hb dX13_doesPlain_678 rfl (hl.at 0 rfl) ?_
                                                                                                                                refine lv_iload_n hx hb dX13_doesPlain_679 rfl (hl.at 1 rfl) ?_
                                                                                                                                obtain ⟨⟨v680, S680⟩, h680, hsh⟩ := Option.bind_eq_some_iff.mp hsh
                                                                                                                                have hsh : _ = _ := hsh
                                                                                                                                try dsimp only at hsh
                                                                                                                                have ok680 := ok13_doesFurther h680
                                                                                                                                refine e_callI (nL := 2) (mc := 0) (ms := 0) (T := TX13) (N := 126) (As := [.int (iI (x1))]) (rest := []) hx hb hml hown hts hp hS hl.size ok680.1 ok680.2.1 ok680.2.2 rfl (by decide) (c13_doesFurther l D cA B S S680 (x0) (x1) v680 h680) rfl rfl kd13_doesFurther (kl13_776) ks13_doesFurther kv13_doesFurther ki13 kh13_doesFurther ⟨Nat.le_of_ble_eq_true rfl, Nat.le_of_ble_eq_true rfl⟩ rfl (by simp [e_rv_cat, e_int_cat]) ⟨Nat.le_refl _, Nat.le_refl _⟩ dX13_doesPlain_680 rfl (fun H locs hp hS => ?_)
                                                                                                                                obtain ⟨hz, hz1, hz2⟩ := zR_some hsh
                                                                                                                                rw [← hz1, ← hz2]
                                                                                                                                exact e_zret hx hb hrt hlk hp hS hz dX13_doesPlain_683
                                                                                                                              · rw [if_neg c4_62] at hsh
                                                                                                                                by_cases c4_63 : iW (v1) = 85
                                                                                                                                · rw [if_pos c4_63] at hsh
                                                                                                                                  refine lv_tableIn (off := 674) (tgt := 678) hx hb dX13_doesPlain_4 (by show ¬ iW (v1) < _; rw [c4_63]; decide) (by show ¬ _ < iW (v1); rw [c4_63]; decide) (by show _[(iW (v1) - _).toNat]? = _; rw [c4_63]; rfl) (by decide) ?_
                                                                                                                                  refine e_aload_n (B := B) (x := x0) hx hb dX13_doesPlain_678 rfl (hl.at 0 rfl) ?_
                                                                                                                                  refine lv_iload_n hx hb dX13_doesPlain_679 rfl (hl.at 1 rfl) ?_
                                                                                                                                  obtain ⟨⟨v680, S680⟩, h680, hsh⟩ := Option.bind_eq_some_iff.mp hsh
                                                                                                                                  have hsh : _ = _ := hsh
                                                                                                                                  try dsimp only at hsh
                                                                                                                                  have ok680 := ok13_doesFurther h680
                                                                                                                                  refine e_callI (nL := 2) (mc := 0) (ms := 0) (T := TX13) (N := 126) (As := [.int (iI (x1))]) (rest := []) hx hb hml hown hts hp hS hl.size ok680.1 ok680.2.1 ok680.2.2 rfl (by decide) (c13_doesFurther l D cA B S S680 (x0) (x1) v680 h680) rfl rfl kd13_doesFurther (kl13_776) ks13_doesFurther kv13_doesFurther ki13 kh13_doesFurther ⟨Nat.le_of_ble_eq_true rfl, Nat.le_of_ble_eq_true rfl⟩ rfl (by simp [e_rv_cat, e_int_cat]) ⟨Nat.le_refl _, Nat.le_refl _⟩ dX13_doesPlain_680 rfl (fun H locs hp hS => ?_)
                                                                                                                                  obtain ⟨hz, hz1, hz2⟩ := zR_some hsh
                                                                                                                                  rw [← hz1, ← hz2]
                                                                                                                                  exact e_zret hx hb hrt hlk hp hS hz dX13_doesPlain_683
                                                                                                                                · rw [if_neg c4_63] at hsh
                                                                                                                                  by_cases c4_64 : iW (v1) = 86
                                                                                                                                  · rw [if_pos c4_64] at hsh
                                                                                                                                    refine lv_tableIn (off := 653) (tgt := 657) hx hb dX13_doesPlain_4 (by show ¬ iW (v1) < _; rw [c4_64]; decide) (by show ¬ _ < iW (v1); rw [c4_64]; decide) (by show _[(iW (v1) - _).toNat]? = _; rw [c4_64]; rfl) (by decide) ?_
                                                                                                                                    refine e_aload_n (B := B) (x := x0) hx hb dX13_doesPlain_657 rfl (hl.at 0 rfl) ?_
                                                                                                                                    refine e_aload_n (B := B) (x := x0) hx hb dX13_doesPlain_658 rfl (hl.at 0 rfl) ?_
                                                                                                                                    obtain ⟨v659, h659, hsh⟩ := Option.bind_eq_some_iff.mp hsh
                                                                                                                                    refine e_getI (k := 62) hx hb hts in_X13 hown hp h659 rfl (by decide) (by decide) rfl (hts _ kf13_615) rfl dX13_doesPlain_659 ?_
                                                                                                                                    obtain ⟨⟨v662, S662⟩, h662, hsh⟩ := Option.bind_eq_some_iff.mp hsh
                                                                                                                                    have hsh : _ = _ := hsh
                                                                                                                                    try dsimp only at hsh
                                                                                                                                    have ok662 := ok13_selects h662
                                                                                                                                    refine e_callI (nL := 2) (mc := 0) (ms := 0) (T := TX13) (N := 126) (As := [.int (iI (v659))]) (rest := []) hx hb hml hown hts hp hS hl.size ok662.1 ok662.2.1 ok662.2.2 rfl (by decide) (c13_selects l D cA B S S662 (x0) (v659) v662 h662) rfl rfl kd13_selects (kl13_770) ks13_selects kv13_selects ki13 kh13_selects ⟨Nat.le_of_ble_eq_true rfl, Nat.le_of_ble_eq_true rfl⟩ rfl (by simp [e_rv_cat, e_int_cat]) ⟨Nat.le_refl _, Nat.le_refl _⟩ dX13_doesPlain_662 rfl (fun H locs hp hS => ?_)
                                                                                                                                    obtain ⟨hz, hz1, hz2⟩ := zR_some hsh
                                                                                                                                    rw [← hz1, ← hz2]
                                                                                                                                    exact e_zret hx hb hrt hlk hp hS hz dX13_doesPlain_665
                                                                                                                                  · rw [if_neg c4_64] at hsh
                                                                                                                                    by_cases c4_65 : iW (v1) = 87
                                                                                                                                    · rw [if_pos c4_65] at hsh
                                                                                                                                      refine lv_tableIn (off := 674) (tgt := 678) hx hb dX13_doesPlain_4 (by show ¬ iW (v1) < _; rw [c4_65]; decide) (by show ¬ _ < iW (v1); rw [c4_65]; decide) (by show _[(iW (v1) - _).toNat]? = _; rw [c4_65]; rfl) (by decide) ?_
                                                                                                                                      refine e_aload_n (B := B) (x := x0) hx hb dX13_doesPlain_678 rfl (hl.at 0 rfl) ?_
                                                                                                                                      refine lv_iload_n hx hb dX13_doesPlain_679 rfl (hl.at 1 rfl) ?_
                                                                                                                                      obtain ⟨⟨v680, S680⟩, h680, hsh⟩ := Option.bind_eq_some_iff.mp hsh
                                                                                                                                      have hsh : _ = _ := hsh
                                                                                                                                      try dsimp only at hsh
                                                                                                                                      have ok680 := ok13_doesFurther h680
                                                                                                                                      refine e_callI (nL := 2) (mc := 0) (ms := 0) (T := TX13) (N := 126) (As := [.int (iI (x1))]) (rest := []) hx hb hml hown hts hp hS hl.size ok680.1 ok680.2.1 ok680.2.2 rfl (by decide) (c13_doesFurther l D cA B S S680 (x0) (x1) v680 h680) rfl rfl kd13_doesFurther (kl13_776) ks13_doesFurther kv13_doesFurther ki13 kh13_doesFurther ⟨Nat.le_of_ble_eq_true rfl, Nat.le_of_ble_eq_true rfl⟩ rfl (by simp [e_rv_cat, e_int_cat]) ⟨Nat.le_refl _, Nat.le_refl _⟩ dX13_doesPlain_680 rfl (fun H locs hp hS => ?_)
                                                                                                                                      obtain ⟨hz, hz1, hz2⟩ := zR_some hsh
                                                                                                                                      rw [← hz1, ← hz2]
                                                                                                                                      exact e_zret hx hb hrt hlk hp hS hz dX13_doesPlain_683
                                                                                                                                    · rw [if_neg c4_65] at hsh
                                                                                                                                      by_cases c4_66 : iW (v1) = 88
                                                                                                                                      · rw [if_pos c4_66] at hsh
                                                                                                                                        refine lv_tableIn (off := 452) (tgt := 456) hx hb dX13_doesPlain_4 (by show ¬ iW (v1) < _; rw [c4_66]; decide) (by show ¬ _ < iW (v1); rw [c4_66]; decide) (by show _[(iW (v1) - _).toNat]? = _; rw [c4_66]; rfl) (by decide) ?_
                                                                                                                                        refine e_aload_n (B := B) (x := x0) hx hb dX13_doesPlain_456 rfl (hl.at 0 rfl) ?_
                                                                                                                                        refine lv_bipush (v := iI (100)) hx hb dX13_doesPlain_457 (by decide +kernel) ?_
                                                                                                                                        refine e_aload_n (B := B) (x := x0) hx hb dX13_doesPlain_459 rfl (hl.at 0 rfl) ?_
                                                                                                                                        obtain ⟨v460, h460, hsh⟩ := Option.bind_eq_some_iff.mp hsh
                                                                                                                                        refine e_getI (k := 58) hx hb hts in_X13 hown hp h460 rfl (by decide) (by decide) rfl (hts _ kf13_642) rfl dX13_doesPlain_460 ?_
                                                                                                                                        refine lv_bipush (v := iI (104)) hx hb dX13_doesPlain_463 (by decide +kernel) ?_
                                                                                                                                        refine lv_iconst (v := iI (0)) hx hb dX13_doesPlain_465 rfl ?_
                                                                                                                                        refine lv_iload_n hx hb dX13_doesPlain_466 rfl (hl.at 1 rfl) ?_
                                                                                                                                        refine lv_iconst (v := iI (1)) hx hb dX13_doesPlain_467 rfl ?_
                                                                                                                                        obtain ⟨⟨v468, S468⟩, h468, hsh⟩ := Option.bind_eq_some_iff.mp hsh
                                                                                                                                        have hsh : _ = _ := hsh
                                                                                                                                        try dsimp only at hsh
                                                                                                                                        have ok468 := ok13_operatesMotion h468
                                                                                                                                        refine e_callI (nL := 2) (mc := 0) (ms := 0) (T := TX13) (N := 126) (As := [.int (iI (100)), .int (iI (v460)), .int (iI (104)), .int (iI (0)), .int (iI (x1)), .int (iI (1))]) (rest := []) hx hb hml hown hts hp hS hl.size ok468.1 ok468.2.1 ok468.2.2 rfl (by decide) (c13_operatesMotion l D cA B S S468 (x0) (100) (v460) (104) (0) (x1) (1) v468 h468) rfl rfl kd13_operatesMotion (kl13_744) ks13_operatesMotion kv13_operatesMotion ki13 kh13_operatesMotion ⟨Nat.le_of_ble_eq_true rfl, Nat.le_of_ble_eq_true rfl⟩ rfl (by simp [e_rv_cat, e_int_cat]) ⟨Nat.le_refl _, Nat.le_refl _⟩ dX13_doesPlain_468 rfl (fun H locs hp hS => ?_)
                                                                                                                                        obtain ⟨hz, hz1, hz2⟩ := zR_some hsh
                                                                                                                                        rw [← hz1, ← hz2]
                                                                                                                                        exact e_zret hx hb hrt hlk hp hS hz dX13_doesPlain_471
                                                                                                                                      · rw [if_neg c4_66] at hsh
                                                                                                                                        by_cases c4_67 : iW (v1) = 89
                                                                                                                                        · rw [if_pos c4_67] at hsh
                                                                                                                                          refine lv_tableIn (off := 514) (tgt := 518) hx hb dX13_doesPlain_4 (by show ¬ iW (v1) < _; rw [c4_67]; decide) (by show ¬ _ < iW (v1); rw [c4_67]; decide) (by show _[(iW (v1) - _).toNat]? = _; rw [c4_67]; rfl) (by decide) ?_
                                                                                                                                          refine e_aload_n (B := B) (x := x0) hx hb dX13_doesPlain_518 rfl (hl.at 0 rfl) ?_
                                                                                                                                          refine lv_iload_n hx hb dX13_doesPlain_519 rfl (hl.at 1 rfl) ?_
                                                                                                                                          obtain ⟨⟨v520, S520⟩, h520, hsh⟩ := Option.bind_eq_some_iff.mp hsh
                                                                                                                                          have hsh : _ = _ := hsh
                                                                                                                                          try dsimp only at hsh
                                                                                                                                          have ok520 := ok13_spansSeen h520
                                                                                                                                          refine e_callI (nL := 2) (mc := 0) (ms := 0) (T := TX13) (N := 126) (As := [.int (iI (x1))]) (rest := []) hx hb hml hown hts hp hS hl.size ok520.1 ok520.2.1 ok520.2.2 rfl (by decide) (c13_spansSeen l D cA B S S520 (x0) (x1) v520 h520) rfl rfl kd13_spansSeen (kl13_741) ks13_spansSeen kv13_spansSeen ki13 kh13_spansSeen ⟨Nat.le_of_ble_eq_true rfl, Nat.le_of_ble_eq_true rfl⟩ rfl (by simp [e_rv_cat, e_int_cat]) ⟨Nat.le_refl _, Nat.le_refl _⟩ dX13_doesPlain_520 rfl (fun H locs hp hS => ?_)
                                                                                                                                          refine e_if_eq (tgt := 557) hx hb dX13_doesPlain_523 (by decide) (fun c523 => ?_) (fun c523 => ?_)
                                                                                                                                          · rw [if_pos c523] at hsh
                                                                                                                                            exact w13_doesPlain_b557 E hp hS (hl.sub [] rfl) hsh
                                                                                                                                          · rw [if_neg c523] at hsh
                                                                                                                                            refine e_aload_n (B := B) (x := x0) hx hb dX13_doesPlain_526 rfl (hl.at 0 rfl) ?_
                                                                                                                                            refine e_aload_n (B := B) (x := x0) hx hb dX13_doesPlain_527 rfl (hl.at 0 rfl) ?_
                                                                                                                                            obtain ⟨v528, h528, hsh⟩ := Option.bind_eq_some_iff.mp hsh
                                                                                                                                            refine e_getI (k := 62) hx hb hts in_X13 hown hp h528 rfl (by decide) (by decide) rfl (hts _ kf13_615) rfl dX13_doesPlain_528 ?_
                                                                                                                                            refine lv_bipush (v := iI (83)) hx hb dX13_doesPlain_531 (by decide +kernel) ?_
                                                                                                                                            refine e_icmp_ne (tgt := 541) hx hb dX13_doesPlain_533 (by decide) (fun c533 => ?_) (fun c533 => ?_)
                                                                                                                                            · rw [if_neg c533] at hsh
                                                                                                                                              refine lv_bipush (v := iI (121)) hx hb dX13_doesPlain_541 (by decide +kernel) ?_
                                                                                                                                              exact w13_doesPlain_b543 E hp hS (hl.sub [0] rfl) hsh
                                                                                                                                            · rw [if_pos c533] at hsh
                                                                                                                                              refine lv_bipush (v := iI (99)) hx hb dX13_doesPlain_536 (by decide +kernel) ?_
                                                                                                                                              refine lv_goto (tgt := 543) hx hb dX13_doesPlain_538 (by decide) ?_
                                                                                                                                              exact w13_doesPlain_b543 E hp hS (hl.sub [0] rfl) hsh
                                                                                                                                        · rw [if_neg c4_67] at hsh
                                                                                                                                          by_cases c4_68 : iW (v1) = 90
                                                                                                                                          · rw [if_pos c4_68] at hsh
                                                                                                                                            refine lv_tableIn (off := 674) (tgt := 678) hx hb dX13_doesPlain_4 (by show ¬ iW (v1) < _; rw [c4_68]; decide) (by show ¬ _ < iW (v1); rw [c4_68]; decide) (by show _[(iW (v1) - _).toNat]? = _; rw [c4_68]; rfl) (by decide) ?_
                                                                                                                                            refine e_aload_n (B := B) (x := x0) hx hb dX13_doesPlain_678 rfl (hl.at 0 rfl) ?_
                                                                                                                                            refine lv_iload_n hx hb dX13_doesPlain_679 rfl (hl.at 1 rfl) ?_
                                                                                                                                            obtain ⟨⟨v680, S680⟩, h680, hsh⟩ := Option.bind_eq_some_iff.mp hsh
                                                                                                                                            have hsh : _ = _ := hsh
                                                                                                                                            try dsimp only at hsh
                                                                                                                                            have ok680 := ok13_doesFurther h680
                                                                                                                                            refine e_callI (nL := 2) (mc := 0) (ms := 0) (T := TX13) (N := 126) (As := [.int (iI (x1))]) (rest := []) hx hb hml hown hts hp hS hl.size ok680.1 ok680.2.1 ok680.2.2 rfl (by decide) (c13_doesFurther l D cA B S S680 (x0) (x1) v680 h680) rfl rfl kd13_doesFurther (kl13_776) ks13_doesFurther kv13_doesFurther ki13 kh13_doesFurther ⟨Nat.le_of_ble_eq_true rfl, Nat.le_of_ble_eq_true rfl⟩ rfl (by simp [e_rv_cat, e_int_cat]) ⟨Nat.le_refl _, Nat.le_refl _⟩ dX13_doesPlain_680 rfl (fun H locs hp hS => ?_)
                                                                                                                                            obtain ⟨hz, hz1, hz2⟩ := zR_some hsh
                                                                                                                                            rw [← hz1, ← hz2]
                                                                                                                                            exact e_zret hx hb hrt hlk hp hS hz dX13_doesPlain_683
                                                                                                                                          · rw [if_neg c4_68] at hsh
                                                                                                                                            by_cases c4_69 : iW (v1) = 91
                                                                                                                                            · rw [if_pos c4_69] at hsh
                                                                                                                                              refine lv_tableIn (off := 674) (tgt := 678) hx hb dX13_doesPlain_4 (by show ¬ iW (v1) < _; rw [c4_69]; decide) (by show ¬ _ < iW (v1); rw [c4_69]; decide) (by show _[(iW (v1) - _).toNat]? = _; rw [c4_69]; rfl) (by decide) ?_
                                                                                                                                              refine e_aload_n (B := B) (x := x0) hx hb dX13_doesPlain_678 rfl (hl.at 0 rfl) ?_
                                                                                                                                              refine lv_iload_n hx hb dX13_doesPlain_679 rfl (hl.at 1 rfl) ?_
                                                                                                                                              obtain ⟨⟨v680, S680⟩, h680, hsh⟩ := Option.bind_eq_some_iff.mp hsh
                                                                                                                                              have hsh : _ = _ := hsh
                                                                                                                                              try dsimp only at hsh
                                                                                                                                              have ok680 := ok13_doesFurther h680
                                                                                                                                              refine e_callI (nL := 2) (mc := 0) (ms := 0) (T := TX13) (N := 126) (As := [.int (iI (x1))]) (rest := []) hx hb hml hown hts hp hS hl.size ok680.1 ok680.2.1 ok680.2.2 rfl (by decide) (c13_doesFurther l D cA B S S680 (x0) (x1) v680 h680) rfl rfl kd13_doesFurther (kl13_776) ks13_doesFurther kv13_doesFurther ki13 kh13_doesFurther ⟨Nat.le_of_ble_eq_true rfl, Nat.le_of_ble_eq_true rfl⟩ rfl (by simp [e_rv_cat, e_int_cat]) ⟨Nat.le_refl _, Nat.le_refl _⟩ dX13_doesPlain_680 rfl (fun H locs hp hS => ?_)
                                                                                                                                              obtain ⟨hz, hz1, hz2⟩ := zR_some hsh
                                                                                                                                              rw [← hz1, ← hz2]
                                                                                                                                              exact e_zret hx hb hrt hlk hp hS hz dX13_doesPlain_683
                                                                                                                                            · rw [if_neg c4_69] at hsh
                                                                                                                                              by_cases c4_70 : iW (v1) = 92
                                                                                                                                              · rw [if_pos c4_70] at hsh
                                                                                                                                                refine lv_tableIn (off := 674) (tgt := 678) hx hb dX13_doesPlain_4 (by show ¬ iW (v1) < _; rw [c4_70]; decide) (by show ¬ _ < iW (v1); rw [c4_70]; decide) (by show _[(iW (v1) - _).toNat]? = _; rw [c4_70]; rfl) (by decide) ?_
                                                                                                                                                refine e_aload_n (B := B) (x := x0) hx hb dX13_doesPlain_678 rfl (hl.at 0 rfl) ?_
                                                                                                                                                refine lv_iload_n hx hb dX13_doesPlain_679 rfl (hl.at 1 rfl) ?_
                                                                                                                                                obtain ⟨⟨v680, S680⟩, h680, hsh⟩ := Option.bind_eq_some_iff.mp hsh
                                                                                                                                                have hsh : _ = _ := hsh
                                                                                                                                                try dsimp only at hsh
                                                                                                                                                have ok680 := ok13_doesFurther h680
                                                                                                                                                refine e_callI (nL := 2) (mc := 0) (ms := 0) (T := TX13) (N := 126) (As := [.int (iI (x1))]) (rest := []) hx hb hml hown hts hp hS hl.size ok680.1 ok680.2.1 ok680.2.2 rfl (by decide) (c13_doesFurther l D cA B S S680 (x0) (x1) v680 h680) rfl rfl kd13_doesFurther (kl13_776) ks13_doesFurther kv13_doesFurther ki13 kh13_doesFurther ⟨Nat.le_of_ble_eq_true rfl, Nat.le_of_ble_eq_true rfl⟩ rfl (by simp [e_rv_cat, e_int_cat]) ⟨Nat.le_refl _, Nat.le_refl _⟩ dX13_doesPlain_680 rfl (fun H locs hp hS => ?_)
                                                                                                                                                obtain ⟨hz, hz1, hz2⟩ := zR_some hsh
                                                                                                                                                rw [← hz1, ← hz2]
                                                                                                                                                exact e_zret hx hb hrt hlk hp hS hz dX13_doesPlain_683
                                                                                                                                              · rw [if_neg c4_70] at hsh
                                                                                                                                                by_cases c4_71 : iW (v1) = 93
                                                                                                                                                · rw [if_pos c4_71] at hsh
                                                                                                                                                  refine lv_tableIn (off := 674) (tgt := 678) hx hb dX13_doesPlain_4 (by show ¬ iW (v1) < _; rw [c4_71]; decide) (by show ¬ _ < iW (v1); rw [c4_71]; decide) (by show _[(iW (v1) - _).toNat]? = _; rw [c4_71]; rfl) (by decide) ?_
                                                                                                                                                  refine e_aload_n (B := B) (x := x0) hx hb dX13_doesPlain_678 rfl (hl.at 0 rfl) ?_
                                                                                                                                                  refine lv_iload_n hx hb dX13_doesPlain_679 rfl (hl.at 1 rfl) ?_
                                                                                                                                                  obtain ⟨⟨v680, S680⟩, h680, hsh⟩ := Option.bind_eq_some_iff.mp hsh
                                                                                                                                                  have hsh : _ = _ := hsh
                                                                                                                                                  try dsimp only at hsh
                                                                                                                                                  have ok680 := ok13_doesFurther h680
                                                                                                                                                  refine e_callI (nL := 2) (mc := 0) (ms := 0) (T := TX13) (N := 126) (As := [.int (iI (x1))]) (rest := []) hx hb hml hown hts hp hS hl.size ok680.1 ok680.2.1 ok680.2.2 rfl (by decide) (c13_doesFurther l D cA B S S680 (x0) (x1) v680 h680) rfl rfl kd13_doesFurther (kl13_776) ks13_doesFurther kv13_doesFurther ki13 kh13_doesFurther ⟨Nat.le_of_ble_eq_true rfl, Nat.le_of_ble_eq_true rfl⟩ rfl (by simp [e_rv_cat, e_int_cat]) ⟨Nat.le_refl _, Nat.le_refl _⟩ dX13_doesPlain_680 rfl (fun H locs hp hS => ?_)
                                                                                                                                                  obtain ⟨hz, hz1, hz2⟩ := zR_some hsh
                                                                                                                                                  rw [← hz1, ← hz2]
                                                                                                                                                  exact e_zret hx hb hrt hlk hp hS hz dX13_doesPlain_683
                                                                                                                                                · rw [if_neg c4_71] at hsh
                                                                                                                                                  by_cases c4_72 : iW (v1) = 94
                                                                                                                                                  · rw [if_pos c4_72] at hsh
                                                                                                                                                    refine lv_tableIn (off := 674) (tgt := 678) hx hb dX13_doesPlain_4 (by show ¬ iW (v1) < _; rw [c4_72]; decide) (by show ¬ _ < iW (v1); rw [c4_72]; decide) (by show _[(iW (v1) - _).toNat]? = _; rw [c4_72]; rfl) (by decide) ?_
                                                                                                                                                    refine e_aload_n (B := B) (x := x0) hx hb dX13_doesPlain_678 rfl (hl.at 0 rfl) ?_
                                                                                                                                                    refine lv_iload_n hx hb dX13_doesPlain_679 rfl (hl.at 1 rfl) ?_
                                                                                                                                                    obtain ⟨⟨v680, S680⟩, h680, hsh⟩ := Option.bind_eq_some_iff.mp hsh
                                                                                                                                                    have hsh : _ = _ := hsh
                                                                                                                                                    try dsimp only at hsh
                                                                                                                                                    have ok680 := ok13_doesFurther h680
                                                                                                                                                    refine e_callI (nL := 2) (mc := 0) (ms := 0) (T := TX13) (N := 126) (As := [.int (iI (x1))]) (rest := []) hx hb hml hown hts hp hS hl.size ok680.1 ok680.2.1 ok680.2.2 rfl (by decide) (c13_doesFurther l D cA B S S680 (x0) (x1) v680 h680) rfl rfl kd13_doesFurther (kl13_776) ks13_doesFurther kv13_doesFurther ki13 kh13_doesFurther ⟨Nat.le_of_ble_eq_true rfl, Nat.le_of_ble_eq_true rfl⟩ rfl (by simp [e_rv_cat, e_int_cat]) ⟨Nat.le_refl _, Nat.le_refl _⟩ dX13_doesPlain_680 rfl (fun H locs hp hS => ?_)
                                                                                                                                                    obtain ⟨hz, hz1, hz2⟩ := zR_some hsh
                                                                                                                                                    rw [← hz1, ← hz2]
                                                                                                                                                    exact e_zret hx hb hrt hlk hp hS hz dX13_doesPlain_683
                                                                                                                                                  · rw [if_neg c4_72] at hsh
                                                                                                                                                    by_cases c4_73 : iW (v1) = 95
                                                                                                                                                    · rw [if_pos c4_73] at hsh
                                                                                                                                                      refine lv_tableIn (off := 674) (tgt := 678) hx hb dX13_doesPlain_4 (by show ¬ iW (v1) < _; rw [c4_73]; decide) (by show ¬ _ < iW (v1); rw [c4_73]; decide) (by show _[(iW (v1) - _).toNat]? = _; rw [c4_73]; rfl) (by decide) ?_
                                                                                                                                                      refine e_aload_n (B := B) (x := x0) hx hb dX13_doesPlain_678 rfl (hl.at 0 rfl) ?_
                                                                                                                                                      refine lv_iload_n hx hb dX13_doesPlain_679 rfl (hl.at 1 rfl) ?_
                                                                                                                                                      obtain ⟨⟨v680, S680⟩, h680, hsh⟩ := Option.bind_eq_some_iff.mp hsh
                                                                                                                                                      have hsh : _ = _ := hsh
                                                                                                                                                      try dsimp only at hsh
                                                                                                                                                      have ok680 := ok13_doesFurther h680
                                                                                                                                                      refine e_callI (nL := 2) (mc := 0) (ms := 0) (T := TX13) (N := 126) (As := [.int (iI (x1))]) (rest := []) hx hb hml hown hts hp hS hl.size ok680.1 ok680.2.1 ok680.2.2 rfl (by decide) (c13_doesFurther l D cA B S S680 (x0) (x1) v680 h680) rfl rfl kd13_doesFurther (kl13_776) ks13_doesFurther kv13_doesFurther ki13 kh13_doesFurther ⟨Nat.le_of_ble_eq_true rfl, Nat.le_of_ble_eq_true rfl⟩ rfl (by simp [e_rv_cat, e_int_cat]) ⟨Nat.le_refl _, Nat.le_refl _⟩ dX13_doesPlain_680 rfl (fun H locs hp hS => ?_)
                                                                                                                                                      obtain ⟨hz, hz1, hz2⟩ := zR_some hsh
                                                                                                                                                      rw [← hz1, ← hz2]
                                                                                                                                                      exact e_zret hx hb hrt hlk hp hS hz dX13_doesPlain_683
                                                                                                                                                    · rw [if_neg c4_73] at hsh
                                                                                                                                                      by_cases c4_74 : iW (v1) = 96
                                                                                                                                                      · rw [if_pos c4_74] at hsh
                                                                                                                                                        refine lv_tableIn (off := 674) (tgt := 678) hx hb dX13_doesPlain_4 (by show ¬ iW (v1) < _; rw [c4_74]; decide) (by show ¬ _ < iW (v1); rw [c4_74]; decide) (by show _[(iW (v1) - _).toNat]? = _; rw [c4_74]; rfl) (by decide) ?_
                                                                                                                                                        refine e_aload_n (B := B) (x := x0) hx hb dX13_doesPlain_678 rfl (hl.at 0 rfl) ?_
                                                                                                                                                        refine lv_iload_n hx hb dX13_doesPlain_679 rfl (hl.at 1 rfl) ?_
                                                                                                                                                        obtain ⟨⟨v680, S680⟩, h680, hsh⟩ := Option.bind_eq_some_iff.mp hsh
                                                                                                                                                        have hsh : _ = _ := hsh
                                                                                                                                                        try dsimp only at hsh
                                                                                                                                                        have ok680 := ok13_doesFurther h680
                                                                                                                                                        refine e_callI (nL := 2) (mc := 0) (ms := 0) (T := TX13) (N := 126) (As := [.int (iI (x1))]) (rest := []) hx hb hml hown hts hp hS hl.size ok680.1 ok680.2.1 ok680.2.2 rfl (by decide) (c13_doesFurther l D cA B S S680 (x0) (x1) v680 h680) rfl rfl kd13_doesFurther (kl13_776) ks13_doesFurther kv13_doesFurther ki13 kh13_doesFurther ⟨Nat.le_of_ble_eq_true rfl, Nat.le_of_ble_eq_true rfl⟩ rfl (by simp [e_rv_cat, e_int_cat]) ⟨Nat.le_refl _, Nat.le_refl _⟩ dX13_doesPlain_680 rfl (fun H locs hp hS => ?_)
                                                                                                                                                        obtain ⟨hz, hz1, hz2⟩ := zR_some hsh
                                                                                                                                                        rw [← hz1, ← hz2]
                                                                                                                                                        exact e_zret hx hb hrt hlk hp hS hz dX13_doesPlain_683
                                                                                                                                                      · rw [if_neg c4_74] at hsh
                                                                                                                                                        by_cases c4_75 : iW (v1) = 97
                                                                                                                                                        · rw [if_pos c4_75] at hsh
                                                                                                                                                          refine lv_tableIn (off := 609) (tgt := 613) hx hb dX13_doesPlain_4 (by show ¬ iW (v1) < _; rw [c4_75]; decide) (by show ¬ _ < iW (v1); rw [c4_75]; decide) (by show _[(iW (v1) - _).toNat]? = _; rw [c4_75]; rfl) (by decide) ?_
                                                                                                                                                          refine e_aload_n (B := B) (x := x0) hx hb dX13_doesPlain_613 rfl (hl.at 0 rfl) ?_
                                                                                                                                                          refine e_aload_n (B := B) (x := x0) hx hb dX13_doesPlain_614 rfl (hl.at 0 rfl) ?_
                                                                                                                                                          obtain ⟨v615, h615, hsh⟩ := Option.bind_eq_some_iff.mp hsh
                                                                                                                                                          refine e_getI (k := 62) hx hb hts in_X13 hown hp h615 rfl (by decide) (by decide) rfl (hts _ kf13_615) rfl dX13_doesPlain_615 ?_
                                                                                                                                                          refine lv_iload_n hx hb dX13_doesPlain_618 rfl (hl.at 1 rfl) ?_
                                                                                                                                                          obtain ⟨⟨v619, S619⟩, h619, hsh⟩ := Option.bind_eq_some_iff.mp hsh
                                                                                                                                                          have hsh : _ = _ := hsh
                                                                                                                                                          try dsimp only at hsh
                                                                                                                                                          have ok619 := ok13_beginsInsertion h619
                                                                                                                                                          refine e_callI (nL := 2) (mc := 0) (ms := 0) (T := TX13) (N := 126) (As := [.int (iI (v615)), .int (iI (x1))]) (rest := []) hx hb hml hown hts hp hS hl.size ok619.1 ok619.2.1 ok619.2.2 rfl (by decide) (c13_beginsInsertion l D cA B S S619 (x0) (v615) (x1) v619 h619) rfl rfl kd13_beginsInsertion (kl13_767) ks13_beginsInsertion kv13_beginsInsertion ki13 kh13_beginsInsertion ⟨Nat.le_of_ble_eq_true rfl, Nat.le_of_ble_eq_true rfl⟩ rfl (by simp [e_rv_cat, e_int_cat]) ⟨Nat.le_refl _, Nat.le_refl _⟩ dX13_doesPlain_619 rfl (fun H locs hp hS => ?_)
                                                                                                                                                          obtain ⟨hz, hz1, hz2⟩ := zR_some hsh
                                                                                                                                                          rw [← hz1, ← hz2]
                                                                                                                                                          exact e_zret hx hb hrt hlk hp hS hz dX13_doesPlain_622
                                                                                                                                                        · rw [if_neg c4_75] at hsh
                                                                                                                                                          by_cases c4_76 : iW (v1) = 98
                                                                                                                                                          · rw [if_pos c4_76] at hsh
                                                                                                                                                            refine lv_tableIn (off := 674) (tgt := 678) hx hb dX13_doesPlain_4 (by show ¬ iW (v1) < _; rw [c4_76]; decide) (by show ¬ _ < iW (v1); rw [c4_76]; decide) (by show _[(iW (v1) - _).toNat]? = _; rw [c4_76]; rfl) (by decide) ?_
                                                                                                                                                            refine e_aload_n (B := B) (x := x0) hx hb dX13_doesPlain_678 rfl (hl.at 0 rfl) ?_
                                                                                                                                                            refine lv_iload_n hx hb dX13_doesPlain_679 rfl (hl.at 1 rfl) ?_
                                                                                                                                                            obtain ⟨⟨v680, S680⟩, h680, hsh⟩ := Option.bind_eq_some_iff.mp hsh
                                                                                                                                                            have hsh : _ = _ := hsh
                                                                                                                                                            try dsimp only at hsh
                                                                                                                                                            have ok680 := ok13_doesFurther h680
                                                                                                                                                            refine e_callI (nL := 2) (mc := 0) (ms := 0) (T := TX13) (N := 126) (As := [.int (iI (x1))]) (rest := []) hx hb hml hown hts hp hS hl.size ok680.1 ok680.2.1 ok680.2.2 rfl (by decide) (c13_doesFurther l D cA B S S680 (x0) (x1) v680 h680) rfl rfl kd13_doesFurther (kl13_776) ks13_doesFurther kv13_doesFurther ki13 kh13_doesFurther ⟨Nat.le_of_ble_eq_true rfl, Nat.le_of_ble_eq_true rfl⟩ rfl (by simp [e_rv_cat, e_int_cat]) ⟨Nat.le_refl _, Nat.le_refl _⟩ dX13_doesPlain_680 rfl (fun H locs hp hS => ?_)
                                                                                                                                                            obtain ⟨hz, hz1, hz2⟩ := zR_some hsh
                                                                                                                                                            rw [← hz1, ← hz2]
                                                                                                                                                            exact e_zret hx hb hrt hlk hp hS hz dX13_doesPlain_683
                                                                                                                                                          · rw [if_neg c4_76] at hsh
                                                                                                                                                            by_cases c4_77 : iW (v1) = 99
                                                                                                                                                            · rw [if_pos c4_77] at hsh
                                                                                                                                                              refine lv_tableIn (off := 674) (tgt := 678) hx hb dX13_doesPlain_4 (by show ¬ iW (v1) < _; rw [c4_77]; decide) (by show ¬ _ < iW (v1); rw [c4_77]; decide) (by show _[(iW (v1) - _).toNat]? = _; rw [c4_77]; rfl) (by decide) ?_
                                                                                                                                                              refine e_aload_n (B := B) (x := x0) hx hb dX13_doesPlain_678 rfl (hl.at 0 rfl) ?_
                                                                                                                                                              refine lv_iload_n hx hb dX13_doesPlain_679 rfl (hl.at 1 rfl) ?_
                                                                                                                                                              obtain ⟨⟨v680, S680⟩, h680, hsh⟩ := Option.bind_eq_some_iff.mp hsh
                                                                                                                                                              have hsh : _ = _ := hsh
                                                                                                                                                              try dsimp only at hsh
                                                                                                                                                              have ok680 := ok13_doesFurther h680
                                                                                                                                                              refine e_callI (nL := 2) (mc := 0) (ms := 0) (T := TX13) (N := 126) (As := [.int (iI (x1))]) (rest := []) hx hb hml hown hts hp hS hl.size ok680.1 ok680.2.1 ok680.2.2 rfl (by decide) (c13_doesFurther l D cA B S S680 (x0) (x1) v680 h680) rfl rfl kd13_doesFurther (kl13_776) ks13_doesFurther kv13_doesFurther ki13 kh13_doesFurther ⟨Nat.le_of_ble_eq_true rfl, Nat.le_of_ble_eq_true rfl⟩ rfl (by simp [e_rv_cat, e_int_cat]) ⟨Nat.le_refl _, Nat.le_refl _⟩ dX13_doesPlain_680 rfl (fun H locs hp hS => ?_)
                                                                                                                                                              obtain ⟨hz, hz1, hz2⟩ := zR_some hsh
                                                                                                                                                              rw [← hz1, ← hz2]
                                                                                                                                                              exact e_zret hx hb hrt hlk hp hS hz dX13_doesPlain_683
                                                                                                                                                            · rw [if_neg c4_77] at hsh
                                                                                                                                                              by_cases c4_78 : iW (v1) = 100
                                                                                                                                                              · rw [if_pos c4_78] at hsh
                                                                                                                                                                refine lv_tableIn (off := 674) (tgt := 678) hx hb dX13_doesPlain_4 (by show ¬ iW (v1) < _; rw [c4_78]; decide) (by show ¬ _ < iW (v1); rw [c4_78]; decide) (by show _[(iW (v1) - _).toNat]? = _; rw [c4_78]; rfl) (by decide) ?_
                                                                                                                                                                refine e_aload_n (B := B) (x := x0) hx hb dX13_doesPlain_678 rfl (hl.at 0 rfl) ?_
                                                                                                                                                                refine lv_iload_n hx hb dX13_doesPlain_679 rfl (hl.at 1 rfl) ?_
                                                                                                                                                                obtain ⟨⟨v680, S680⟩, h680, hsh⟩ := Option.bind_eq_some_iff.mp hsh
                                                                                                                                                                have hsh : _ = _ := hsh
                                                                                                                                                                try dsimp only at hsh
                                                                                                                                                                have ok680 := ok13_doesFurther h680
                                                                                                                                                                refine e_callI (nL := 2) (mc := 0) (ms := 0) (T := TX13) (N := 126) (As := [.int (iI (x1))]) (rest := []) hx hb hml hown hts hp hS hl.size ok680.1 ok680.2.1 ok680.2.2 rfl (by decide) (c13_doesFurther l D cA B S S680 (x0) (x1) v680 h680) rfl rfl kd13_doesFurther (kl13_776) ks13_doesFurther kv13_doesFurther ki13 kh13_doesFurther ⟨Nat.le_of_ble_eq_true rfl, Nat.le_of_ble_eq_true rfl⟩ rfl (by simp [e_rv_cat, e_int_cat]) ⟨Nat.le_refl _, Nat.le_refl _⟩ dX13_doesPlain_680 rfl (fun H locs hp hS => ?_)
                                                                                                                                                                obtain ⟨hz, hz1, hz2⟩ := zR_some hsh
                                                                                                                                                                rw [← hz1, ← hz2]
                                                                                                                                                                exact e_zret hx hb hrt hlk hp hS hz dX13_doesPlain_683
                                                                                                                                                              · rw [if_neg c4_78] at hsh
                                                                                                                                                                by_cases c4_79 : iW (v1) = 101
                                                                                                                                                                · rw [if_pos c4_79] at hsh
                                                                                                                                                                  refine lv_tableIn (off := 674) (tgt := 678) hx hb dX13_doesPlain_4 (by show ¬ iW (v1) < _; rw [c4_79]; decide) (by show ¬ _ < iW (v1); rw [c4_79]; decide) (by show _[(iW (v1) - _).toNat]? = _; rw [c4_79]; rfl) (by decide) ?_
                                                                                                                                                                  refine e_aload_n (B := B) (x := x0) hx hb dX13_doesPlain_678 rfl (hl.at 0 rfl) ?_
                                                                                                                                                                  refine lv_iload_n hx hb dX13_doesPlain_679 rfl (hl.at 1 rfl) ?_
                                                                                                                                                                  obtain ⟨⟨v680, S680⟩, h680, hsh⟩ := Option.bind_eq_some_iff.mp hsh
                                                                                                                                                                  have hsh : _ = _ := hsh
                                                                                                                                                                  try dsimp only at hsh
                                                                                                                                                                  have ok680 := ok13_doesFurther h680
                                                                                                                                                                  refine e_callI (nL := 2) (mc := 0) (ms := 0) (T := TX13) (N := 126) (As := [.int (iI (x1))]) (rest := []) hx hb hml hown hts hp hS hl.size ok680.1 ok680.2.1 ok680.2.2 rfl (by decide) (c13_doesFurther l D cA B S S680 (x0) (x1) v680 h680) rfl rfl kd13_doesFurther (kl13_776) ks13_doesFurther kv13_doesFurther ki13 kh13_doesFurther ⟨Nat.le_of_ble_eq_true rfl, Nat.le_of_ble_eq_true rfl⟩ rfl (by simp [e_rv_cat, e_int_cat]) ⟨Nat.le_refl _, Nat.le_refl _⟩ dX13_doesPlain_680 rfl (fun H locs hp hS => ?_)
                                                                                                                                                                  obtain ⟨hz, hz1, hz2⟩ := zR_some hsh
                                                                                                                                                                  rw [← hz1, ← hz2]
                                                                                                                                                                  exact e_zret hx hb hrt hlk hp hS hz dX13_doesPlain_683
                                                                                                                                                                · rw [if_neg c4_79] at hsh
                                                                                                                                                                  by_cases c4_80 : iW (v1) = 102
                                                                                                                                                                  · rw [if_pos c4_80] at hsh
                                                                                                                                                                    refine lv_tableIn (off := 674) (tgt := 678) hx hb dX13_doesPlain_4 (by show ¬ iW (v1) < _; rw [c4_80]; decide) (by show ¬ _ < iW (v1); rw [c4_80]; decide) (by show _[(iW (v1) - _).toNat]? = _; rw [c4_80]; rfl) (by decide) ?_
                                                                                                                                                                    refine e_aload_n (B := B) (x := x0) hx hb dX13_doesPlain_678 rfl (hl.at 0 rfl) ?_
                                                                                                                                                                    refine lv_iload_n hx hb dX13_doesPlain_679 rfl (hl.at 1 rfl) ?_
                                                                                                                                                                    obtain ⟨⟨v680, S680⟩, h680, hsh⟩ := Option.bind_eq_some_iff.mp hsh
                                                                                                                                                                    have hsh : _ = _ := hsh
                                                                                                                                                                    try dsimp only at hsh
                                                                                                                                                                    have ok680 := ok13_doesFurther h680
                                                                                                                                                                    refine e_callI (nL := 2) (mc := 0) (ms := 0) (T := TX13) (N := 126) (As := [.int (iI (x1))]) (rest := []) hx hb hml hown hts hp hS hl.size ok680.1 ok680.2.1 ok680.2.2 rfl (by decide) (c13_doesFurther l D cA B S S680 (x0) (x1) v680 h680) rfl rfl kd13_doesFurther (kl13_776) ks13_doesFurther kv13_doesFurther ki13 kh13_doesFurther ⟨Nat.le_of_ble_eq_true rfl, Nat.le_of_ble_eq_true rfl⟩ rfl (by simp [e_rv_cat, e_int_cat]) ⟨Nat.le_refl _, Nat.le_refl _⟩ dX13_doesPlain_680 rfl (fun H locs hp hS => ?_)
                                                                                                                                                                    obtain ⟨hz, hz1, hz2⟩ := zR_some hsh
                                                                                                                                                                    rw [← hz1, ← hz2]
                                                                                                                                                                    exact e_zret hx hb hrt hlk hp hS hz dX13_doesPlain_683
                                                                                                                                                                  · rw [if_neg c4_80] at hsh
                                                                                                                                                                    by_cases c4_81 : iW (v1) = 103
                                                                                                                                                                    · rw [if_pos c4_81] at hsh
                                                                                                                                                                      refine lv_tableIn (off := 674) (tgt := 678) hx hb dX13_doesPlain_4 (by show ¬ iW (v1) < _; rw [c4_81]; decide) (by show ¬ _ < iW (v1); rw [c4_81]; decide) (by show _[(iW (v1) - _).toNat]? = _; rw [c4_81]; rfl) (by decide) ?_
                                                                                                                                                                      refine e_aload_n (B := B) (x := x0) hx hb dX13_doesPlain_678 rfl (hl.at 0 rfl) ?_
                                                                                                                                                                      refine lv_iload_n hx hb dX13_doesPlain_679 rfl (hl.at 1 rfl) ?_
                                                                                                                                                                      obtain ⟨⟨v680, S680⟩, h680, hsh⟩ := Option.bind_eq_some_iff.mp hsh
                                                                                                                                                                      have hsh : _ = _ := hsh
                                                                                                                                                                      try dsimp only at hsh
                                                                                                                                                                      have ok680 := ok13_doesFurther h680
                                                                                                                                                                      refine e_callI (nL := 2) (mc := 0) (ms := 0) (T := TX13) (N := 126) (As := [.int (iI (x1))]) (rest := []) hx hb hml hown hts hp hS hl.size ok680.1 ok680.2.1 ok680.2.2 rfl (by decide) (c13_doesFurther l D cA B S S680 (x0) (x1) v680 h680) rfl rfl kd13_doesFurther (kl13_776) ks13_doesFurther kv13_doesFurther ki13 kh13_doesFurther ⟨Nat.le_of_ble_eq_true rfl, Nat.le_of_ble_eq_true rfl⟩ rfl (by simp [e_rv_cat, e_int_cat]) ⟨Nat.le_refl _, Nat.le_refl _⟩ dX13_doesPlain_680 rfl (fun H locs hp hS => ?_)
                                                                                                                                                                      obtain ⟨hz, hz1, hz2⟩ := zR_some hsh
                                                                                                                                                                      rw [← hz1, ← hz2]
                                                                                                                                                                      exact e_zret hx hb hrt hlk hp hS hz dX13_doesPlain_683
                                                                                                                                                                    · rw [if_neg c4_81] at hsh
                                                                                                                                                                      by_cases c4_82 : iW (v1) = 104
                                                                                                                                                                      · rw [if_pos c4_82] at hsh
                                                                                                                                                                        refine lv_tableIn (off := 674) (tgt := 678) hx hb dX13_doesPlain_4 (by show ¬ iW (v1) < _; rw [c4_82]; decide) (by show ¬ _ < iW (v1); rw [c4_82]; decide) (by show _[(iW (v1) - _).toNat]? = _; rw [c4_82]; rfl) (by decide) ?_
                                                                                                                                                                        refine e_aload_n (B := B) (x := x0) hx hb dX13_doesPlain_678 rfl (hl.at 0 rfl) ?_
                                                                                                                                                                        refine lv_iload_n hx hb dX13_doesPlain_679 rfl (hl.at 1 rfl) ?_
                                                                                                                                                                        obtain ⟨⟨v680, S680⟩, h680, hsh⟩ := Option.bind_eq_some_iff.mp hsh
                                                                                                                                                                        have hsh : _ = _ := hsh
                                                                                                                                                                        try dsimp only at hsh
                                                                                                                                                                        have ok680 := ok13_doesFurther h680
                                                                                                                                                                        refine e_callI (nL := 2) (mc := 0) (ms := 0) (T := TX13) (N := 126) (As := [.int (iI (x1))]) (rest := []) hx hb hml hown hts hp hS hl.size ok680.1 ok680.2.1 ok680.2.2 rfl (by decide) (c13_doesFurther l D cA B S S680 (x0) (x1) v680 h680) rfl rfl kd13_doesFurther (kl13_776) ks13_doesFurther kv13_doesFurther ki13 kh13_doesFurther ⟨Nat.le_of_ble_eq_true rfl, Nat.le_of_ble_eq_true rfl⟩ rfl (by simp [e_rv_cat, e_int_cat]) ⟨Nat.le_refl _, Nat.le_refl _⟩ dX13_doesPlain_680 rfl (fun H locs hp hS => ?_)
                                                                                                                                                                        obtain ⟨hz, hz1, hz2⟩ := zR_some hsh
                                                                                                                                                                        rw [← hz1, ← hz2]
                                                                                                                                                                        exact e_zret hx hb hrt hlk hp hS hz dX13_doesPlain_683
                                                                                                                                                                      · rw [if_neg c4_82] at hsh
                                                                                                                                                                        by_cases c4_83 : iW (v1) = 105
                                                                                                                                                                        · rw [if_pos c4_83] at hsh
                                                                                                                                                                          refine lv_tableIn (off := 609) (tgt := 613) hx hb dX13_doesPlain_4 (by show ¬ iW (v1) < _; rw [c4_83]; decide) (by show ¬ _ < iW (v1); rw [c4_83]; decide) (by show _[(iW (v1) - _).toNat]? = _; rw [c4_83]; rfl) (by decide) ?_
                                                                                                                                                                          refine e_aload_n (B := B) (x := x0) hx hb dX13_doesPlain_613 rfl (hl.at 0 rfl) ?_
                                                                                                                                                                          refine e_aload_n (B := B) (x := x0) hx hb dX13_doesPlain_614 rfl (hl.at 0 rfl) ?_
                                                                                                                                                                          obtain ⟨v615, h615, hsh⟩ := Option.bind_eq_some_iff.mp hsh
                                                                                                                                                                          refine e_getI (k := 62) hx hb hts in_X13 hown hp h615 rfl (by decide) (by decide) rfl (hts _ kf13_615) rfl dX13_doesPlain_615 ?_
                                                                                                                                                                          refine lv_iload_n hx hb dX13_doesPlain_618 rfl (hl.at 1 rfl) ?_
                                                                                                                                                                          obtain ⟨⟨v619, S619⟩, h619, hsh⟩ := Option.bind_eq_some_iff.mp hsh
                                                                                                                                                                          have hsh : _ = _ := hsh
                                                                                                                                                                          try dsimp only at hsh
                                                                                                                                                                          have ok619 := ok13_beginsInsertion h619
                                                                                                                                                                          refine e_callI (nL := 2) (mc := 0) (ms := 0) (T := TX13) (N := 126) (As := [.int (iI (v615)), .int (iI (x1))]) (rest := []) hx hb hml hown hts hp hS hl.size ok619.1 ok619.2.1 ok619.2.2 rfl (by decide) (c13_beginsInsertion l D cA B S S619 (x0) (v615) (x1) v619 h619) rfl rfl kd13_beginsInsertion (kl13_767) ks13_beginsInsertion kv13_beginsInsertion ki13 kh13_beginsInsertion ⟨Nat.le_of_ble_eq_true rfl, Nat.le_of_ble_eq_true rfl⟩ rfl (by simp [e_rv_cat, e_int_cat]) ⟨Nat.le_refl _, Nat.le_refl _⟩ dX13_doesPlain_619 rfl (fun H locs hp hS => ?_)
                                                                                                                                                                          obtain ⟨hz, hz1, hz2⟩ := zR_some hsh
                                                                                                                                                                          rw [← hz1, ← hz2]
                                                                                                                                                                          exact e_zret hx hb hrt hlk hp hS hz dX13_doesPlain_622
                                                                                                                                                                        · rw [if_neg c4_83] at hsh
                                                                                                                                                                          by_cases c4_84 : iW (v1) = 106
                                                                                                                                                                          · rw [if_pos c4_84] at hsh
                                                                                                                                                                            refine lv_tableIn (off := 674) (tgt := 678) hx hb dX13_doesPlain_4 (by show ¬ iW (v1) < _; rw [c4_84]; decide) (by show ¬ _ < iW (v1); rw [c4_84]; decide) (by show _[(iW (v1) - _).toNat]? = _; rw [c4_84]; rfl) (by decide) ?_
                                                                                                                                                                            refine e_aload_n (B := B) (x := x0) hx hb dX13_doesPlain_678 rfl (hl.at 0 rfl) ?_
                                                                                                                                                                            refine lv_iload_n hx hb dX13_doesPlain_679 rfl (hl.at 1 rfl) ?_
                                                                                                                                                                            obtain ⟨⟨v680, S680⟩, h680, hsh⟩ := Option.bind_eq_some_iff.mp hsh
                                                                                                                                                                            have hsh : _ = _ := hsh
                                                                                                                                                                            try dsimp only at hsh
                                                                                                                                                                            have ok680 := ok13_doesFurther h680
                                                                                                                                                                            refine e_callI (nL := 2) (mc := 0) (ms := 0) (T := TX13) (N := 126) (As := [.int (iI (x1))]) (rest := []) hx hb hml hown hts hp hS hl.size ok680.1 ok680.2.1 ok680.2.2 rfl (by decide) (c13_doesFurther l D cA B S S680 (x0) (x1) v680 h680) rfl rfl kd13_doesFurther (kl13_776) ks13_doesFurther kv13_doesFurther ki13 kh13_doesFurther ⟨Nat.le_of_ble_eq_true rfl, Nat.le_of_ble_eq_true rfl⟩ rfl (by simp [e_rv_cat, e_int_cat]) ⟨Nat.le_refl _, Nat.le_refl _⟩ dX13_doesPlain_680 rfl (fun H locs hp hS => ?_)
                                                                                                                                                                            obtain ⟨hz, hz1, hz2⟩ := zR_some hsh
                                                                                                                                                                            rw [← hz1, ← hz2]
                                                                                                                                                                            exact e_zret hx hb hrt hlk hp hS hz dX13_doesPlain_683
                                                                                                                                                                          · rw [if_neg c4_84] at hsh
                                                                                                                                                                            by_cases c4_85 : iW (v1) = 107
                                                                                                                                                                            · rw [if_pos c4_85] at hsh
                                                                                                                                                                              refine lv_tableIn (off := 674) (tgt := 678) hx hb dX13_doesPlain_4 (by show ¬ iW (v1) < _; rw [c4_85]; decide) (by show ¬ _ < iW (v1); rw [c4_85]; decide) (by show _[(iW (v1) - _).toNat]? = _; rw [c4_85]; rfl) (by decide) ?_
                                                                                                                                                                              refine e_aload_n (B := B) (x := x0) hx hb dX13_doesPlain_678 rfl (hl.at 0 rfl) ?_
                                                                                                                                                                              refine lv_iload_n hx hb dX13_doesPlain_679 rfl (hl.at 1 rfl) ?_
                                                                                                                                                                              obtain ⟨⟨v680, S680⟩, h680, hsh⟩ := Option.bind_eq_some_iff.mp hsh
                                                                                                                                                                              have hsh : _ = _ := hsh
                                                                                                                                                                              try dsimp only at hsh
                                                                                                                                                                              have ok680 := ok13_doesFurther h680
                                                                                                                                                                              refine e_callI (nL := 2) (mc := 0) (ms := 0) (T := TX13) (N := 126) (As := [.int (iI (x1))]) (rest := []) hx hb hml hown hts hp hS hl.size ok680.1 ok680.2.1 ok680.2.2 rfl (by decide) (c13_doesFurther l D cA B S S680 (x0) (x1) v680 h680) rfl rfl kd13_doesFurther (kl13_776) ks13_doesFurther kv13_doesFurther ki13 kh13_doesFurther ⟨Nat.le_of_ble_eq_true rfl, Nat.le_of_ble_eq_true rfl⟩ rfl (by simp [e_rv_cat, e_int_cat]) ⟨Nat.le_refl _, Nat.le_refl _⟩ dX13_doesPlain_680 rfl (fun H locs hp hS => ?_)
                                                                                                                                                                              obtain ⟨hz, hz1, hz2⟩ := zR_some hsh
                                                                                                                                                                              rw [← hz1, ← hz2]
                                                                                                                                                                              exact e_zret hx hb hrt hlk hp hS hz dX13_doesPlain_683
                                                                                                                                                                            · rw [if_neg c4_85] at hsh
                                                                                                                                                                              by_cases c4_86 : iW (v1) = 108
                                                                                                                                                                              · rw [if_pos c4_86] at hsh
                                                                                                                                                                                refine lv_tableIn (off := 674) (tgt := 678) hx hb dX13_doesPlain_4 (by show ¬ iW (v1) < _; rw [c4_86]; decide) (by show ¬ _ < iW (v1); rw [c4_86]; decide) (by show _[(iW (v1) - _).toNat]? = _; rw [c4_86]; rfl) (by decide) ?_
                                                                                                                                                                                refine e_aload_n (B := B) (x := x0) hx hb dX13_doesPlain_678 rfl (hl.at 0 rfl) ?_
                                                                                                                                                                                refine lv_iload_n hx hb dX13_doesPlain_679 rfl (hl.at 1 rfl) ?_
                                                                                                                                                                                obtain ⟨⟨v680, S680⟩, h680, hsh⟩ := Option.bind_eq_some_iff.mp hsh
                                                                                                                                                                                have hsh : _ = _ := hsh
                                                                                                                                                                                try dsimp only at hsh
                                                                                                                                                                                have ok680 := ok13_doesFurther h680
                                                                                                                                                                                refine e_callI (nL := 2) (mc := 0) (ms := 0) (T := TX13) (N := 126) (As := [.int (iI (x1))]) (rest := []) hx hb hml hown hts hp hS hl.size ok680.1 ok680.2.1 ok680.2.2 rfl (by decide) (c13_doesFurther l D cA B S S680 (x0) (x1) v680 h680) rfl rfl kd13_doesFurther (kl13_776) ks13_doesFurther kv13_doesFurther ki13 kh13_doesFurther ⟨Nat.le_of_ble_eq_true rfl, Nat.le_of_ble_eq_true rfl⟩ rfl (by simp [e_rv_cat, e_int_cat]) ⟨Nat.le_refl _, Nat.le_refl _⟩ dX13_doesPlain_680 rfl (fun H locs hp hS => ?_)
                                                                                                                                                                                obtain ⟨hz, hz1, hz2⟩ := zR_some hsh
                                                                                                                                                                                rw [← hz1, ← hz2]
                                                                                                                                                                                exact e_zret hx hb hrt hlk hp hS hz dX13_doesPlain_683
                                                                                                                                                                              · rw [if_neg c4_86] at hsh
                                                                                                                                                                                by_cases c4_87 : iW (v1) = 109
                                                                                                                                                                                · rw [if_pos c4_87] at hsh
                                                                                                                                                                                  refine lv_tableIn (off := 619) (tgt := 623) hx hb dX13_doesPlain_4 (by show ¬ iW (v1) < _; rw [c4_87]; decide) (by show ¬ _ < iW (v1); rw [c4_87]; decide) (by show _[(iW (v1) - _).toNat]? = _; rw [c4_87]; rfl) (by decide) ?_
                                                                                                                                                                                  refine e_aload_n (B := B) (x := x0) hx hb dX13_doesPlain_623 rfl (hl.at 0 rfl) ?_
                                                                                                                                                                                  obtain ⟨v624, h624, hsh⟩ := Option.bind_eq_some_iff.mp hsh
                                                                                                                                                                                  refine e_getR (k := 14) hx hb hts in_X13 hown hp h624 rfl (by decide) (by decide) rfl (hts _ kf13_33) rfl dX13_doesPlain_624 ?_
                                                                                                                                                                                  refine e_aload_n (B := B) (x := x0) hx hb dX13_doesPlain_627 rfl (hl.at 0 rfl) ?_
                                                                                                                                                                                  obtain ⟨v628, h628, hsh⟩ := Option.bind_eq_some_iff.mp hsh
                                                                                                                                                                                  refine e_getI (k := 63) hx hb hts in_X13 hown hp h628 rfl (by decide) (by decide) rfl (hts _ kf13_612) rfl dX13_doesPlain_628 ?_
                                                                                                                                                                                  refine lv_bipush (v := iI (97)) hx hb dX13_doesPlain_631 (by decide +kernel) ?_
                                                                                                                                                                                  refine e_isub hx hb dX13_doesPlain_633 ?_
                                                                                                                                                                                  refine e_aload_n (B := B) (x := x0) hx hb dX13_doesPlain_634 rfl (hl.at 0 rfl) ?_
                                                                                                                                                                                  obtain ⟨v635, h635, hsh⟩ := Option.bind_eq_some_iff.mp hsh
                                                                                                                                                                                  refine e_getI (k := 5) hx hb hts in_X13 hown hp h635 rfl (by decide) (by decide) rfl (hts _ kf13_213) rfl dX13_doesPlain_635 ?_
                                                                                                                                                                                  obtain ⟨S638, h638, hsh⟩ := Option.bind_eq_some_iff.mp hsh
                                                                                                                                                                                  refine e_iast hx hb hp hS h638 dX13_doesPlain_638 (fun H locs hp hS => ?_)
                                                                                                                                                                                  refine e_aload_n (B := B) (x := x0) hx hb dX13_doesPlain_639 rfl (hl.at 0 rfl) ?_
                                                                                                                                                                                  obtain ⟨v640, h640, hsh⟩ := Option.bind_eq_some_iff.mp hsh
                                                                                                                                                                                  refine e_getR (k := 15) hx hb hts in_X13 hown hp h640 rfl (by decide) (by decide) rfl (hts _ kf13_36) rfl dX13_doesPlain_640 ?_
                                                                                                                                                                                  refine e_aload_n (B := B) (x := x0) hx hb dX13_doesPlain_643 rfl (hl.at 0 rfl) ?_
                                                                                                                                                                                  obtain ⟨v644, h644, hsh⟩ := Option.bind_eq_some_iff.mp hsh
                                                                                                                                                                                  refine e_getI (k := 63) hx hb hts in_X13 hown hp h644 rfl (by decide) (by decide) rfl (hts _ kf13_612) rfl dX13_doesPlain_644 ?_
                                                                                                                                                                                  refine lv_bipush (v := iI (97)) hx hb dX13_doesPlain_647 (by decide +kernel) ?_
                                                                                                                                                                                  refine e_isub hx hb dX13_doesPlain_649 ?_
                                                                                                                                                                                  refine e_aload_n (B := B) (x := x0) hx hb dX13_doesPlain_650 rfl (hl.at 0 rfl) ?_
                                                                                                                                                                                  obtain ⟨v651, h651, hsh⟩ := Option.bind_eq_some_iff.mp hsh
                                                                                                                                                                                  refine e_getI (k := 6) hx hb hts in_X13 hown hp h651 rfl (by decide) (by decide) rfl (hts _ kf13_216) rfl dX13_doesPlain_651 ?_
                                                                                                                                                                                  obtain ⟨S654, h654, hsh⟩ := Option.bind_eq_some_iff.mp hsh
                                                                                                                                                                                  refine e_iast hx hb hp hS h654 dX13_doesPlain_654 (fun H locs hp hS => ?_)
                                                                                                                                                                                  refine lv_iconst (v := iI (1)) hx hb dX13_doesPlain_655 rfl ?_
                                                                                                                                                                                  obtain ⟨hz, hz1, hz2⟩ := zR_some hsh
                                                                                                                                                                                  rw [← hz1, ← hz2]
                                                                                                                                                                                  exact e_zret hx hb hrt hlk hp hS hz dX13_doesPlain_656
                                                                                                                                                                                · rw [if_neg c4_87] at hsh
                                                                                                                                                                                  by_cases c4_88 : iW (v1) = 110
                                                                                                                                                                                  · rw [if_pos c4_88] at hsh
                                                                                                                                                                                    refine lv_tableIn (off := 674) (tgt := 678) hx hb dX13_doesPlain_4 (by show ¬ iW (v1) < _; rw [c4_88]; decide) (by show ¬ _ < iW (v1); rw [c4_88]; decide) (by show _[(iW (v1) - _).toNat]? = _; rw [c4_88]; rfl) (by decide) ?_
                                                                                                                                                                                    refine e_aload_n (B := B) (x := x0) hx hb dX13_doesPlain_678 rfl (hl.at 0 rfl) ?_
                                                                                                                                                                                    refine lv_iload_n hx hb dX13_doesPlain_679 rfl (hl.at 1 rfl) ?_
                                                                                                                                                                                    obtain ⟨⟨v680, S680⟩, h680, hsh⟩ := Option.bind_eq_some_iff.mp hsh
                                                                                                                                                                                    have hsh : _ = _ := hsh
                                                                                                                                                                                    try dsimp only at hsh
                                                                                                                                                                                    have ok680 := ok13_doesFurther h680
                                                                                                                                                                                    refine e_callI (nL := 2) (mc := 0) (ms := 0) (T := TX13) (N := 126) (As := [.int (iI (x1))]) (rest := []) hx hb hml hown hts hp hS hl.size ok680.1 ok680.2.1 ok680.2.2 rfl (by decide) (c13_doesFurther l D cA B S S680 (x0) (x1) v680 h680) rfl rfl kd13_doesFurther (kl13_776) ks13_doesFurther kv13_doesFurther ki13 kh13_doesFurther ⟨Nat.le_of_ble_eq_true rfl, Nat.le_of_ble_eq_true rfl⟩ rfl (by simp [e_rv_cat, e_int_cat]) ⟨Nat.le_refl _, Nat.le_refl _⟩ dX13_doesPlain_680 rfl (fun H locs hp hS => ?_)
                                                                                                                                                                                    obtain ⟨hz, hz1, hz2⟩ := zR_some hsh
                                                                                                                                                                                    rw [← hz1, ← hz2]
                                                                                                                                                                                    exact e_zret hx hb hrt hlk hp hS hz dX13_doesPlain_683
                                                                                                                                                                                  · rw [if_neg c4_88] at hsh
                                                                                                                                                                                    by_cases c4_89 : iW (v1) = 111
                                                                                                                                                                                    · rw [if_pos c4_89] at hsh
                                                                                                                                                                                      refine lv_tableIn (off := 609) (tgt := 613) hx hb dX13_doesPlain_4 (by show ¬ iW (v1) < _; rw [c4_89]; decide) (by show ¬ _ < iW (v1); rw [c4_89]; decide) (by show _[(iW (v1) - _).toNat]? = _; rw [c4_89]; rfl) (by decide) ?_
                                                                                                                                                                                      refine e_aload_n (B := B) (x := x0) hx hb dX13_doesPlain_613 rfl (hl.at 0 rfl) ?_
                                                                                                                                                                                      refine e_aload_n (B := B) (x := x0) hx hb dX13_doesPlain_614 rfl (hl.at 0 rfl) ?_
                                                                                                                                                                                      obtain ⟨v615, h615, hsh⟩ := Option.bind_eq_some_iff.mp hsh
                                                                                                                                                                                      refine e_getI (k := 62) hx hb hts in_X13 hown hp h615 rfl (by decide) (by decide) rfl (hts _ kf13_615) rfl dX13_doesPlain_615 ?_
                                                                                                                                                                                      refine lv_iload_n hx hb dX13_doesPlain_618 rfl (hl.at 1 rfl) ?_
                                                                                                                                                                                      obtain ⟨⟨v619, S619⟩, h619, hsh⟩ := Option.bind_eq_some_iff.mp hsh
                                                                                                                                                                                      have hsh : _ = _ := hsh
                                                                                                                                                                                      try dsimp only at hsh
                                                                                                                                                                                      have ok619 := ok13_beginsInsertion h619
                                                                                                                                                                                      refine e_callI (nL := 2) (mc := 0) (ms := 0) (T := TX13) (N := 126) (As := [.int (iI (v615)), .int (iI (x1))]) (rest := []) hx hb hml hown hts hp hS hl.size ok619.1 ok619.2.1 ok619.2.2 rfl (by decide) (c13_beginsInsertion l D cA B S S619 (x0) (v615) (x1) v619 h619) rfl rfl kd13_beginsInsertion (kl13_767) ks13_beginsInsertion kv13_beginsInsertion ki13 kh13_beginsInsertion ⟨Nat.le_of_ble_eq_true rfl, Nat.le_of_ble_eq_true rfl⟩ rfl (by simp [e_rv_cat, e_int_cat]) ⟨Nat.le_refl _, Nat.le_refl _⟩ dX13_doesPlain_619 rfl (fun H locs hp hS => ?_)
                                                                                                                                                                                      obtain ⟨hz, hz1, hz2⟩ := zR_some hsh
                                                                                                                                                                                      rw [← hz1, ← hz2]
                                                                                                                                                                                      exact e_zret hx hb hrt hlk hp hS hz dX13_doesPlain_622
                                                                                                                                                                                    · rw [if_neg c4_89] at hsh
                                                                                                                                                                                      by_cases c4_90 : iW (v1) = 112
                                                                                                                                                                                      · rw [if_pos c4_90] at hsh
                                                                                                                                                                                        refine lv_tableIn (off := 585) (tgt := 589) hx hb dX13_doesPlain_4 (by show ¬ iW (v1) < _; rw [c4_90]; decide) (by show ¬ _ < iW (v1); rw [c4_90]; decide) (by show _[(iW (v1) - _).toNat]? = _; rw [c4_90]; rfl) (by decide) ?_
                                                                                                                                                                                        refine e_aload_n (B := B) (x := x0) hx hb dX13_doesPlain_589 rfl (hl.at 0 rfl) ?_
                                                                                                                                                                                        refine e_aload_n (B := B) (x := x0) hx hb dX13_doesPlain_590 rfl (hl.at 0 rfl) ?_
                                                                                                                                                                                        obtain ⟨v591, h591, hsh⟩ := Option.bind_eq_some_iff.mp hsh
                                                                                                                                                                                        refine e_getI (k := 58) hx hb hts in_X13 hown hp h591 rfl (by decide) (by decide) rfl (hts _ kf13_642) rfl dX13_doesPlain_591 ?_
                                                                                                                                                                                        refine lv_iload_n hx hb dX13_doesPlain_594 rfl (hl.at 1 rfl) ?_
                                                                                                                                                                                        refine e_aload_n (B := B) (x := x0) hx hb dX13_doesPlain_595 rfl (hl.at 0 rfl) ?_
                                                                                                                                                                                        obtain ⟨v596, h596, hsh⟩ := Option.bind_eq_some_iff.mp hsh
                                                                                                                                                                                        refine e_getI (k := 62) hx hb hts in_X13 hown hp h596 rfl (by decide) (by decide) rfl (hts _ kf13_615) rfl dX13_doesPlain_596 ?_
                                                                                                                                                                                        refine lv_bipush (v := iI (80)) hx hb dX13_doesPlain_599 (by decide +kernel) ?_
                                                                                                                                                                                        refine e_icmp_ne (tgt := 608) hx hb dX13_doesPlain_601 (by decide) (fun c601 => ?_) (fun c601 => ?_)
                                                                                                                                                                                        · rw [if_neg c601] at hsh
                                                                                                                                                                                          refine lv_iconst (v := iI (0)) hx hb dX13_doesPlain_608 rfl ?_
                                                                                                                                                                                          exact w13_doesPlain_b609 E hp hS (hl.sub [] rfl) hsh
                                                                                                                                                                                        · rw [if_pos c601] at hsh
                                                                                                                                                                                          refine lv_iconst (v := iI (1)) hx hb dX13_doesPlain_604 rfl ?_
                                                                                                                                                                                          refine lv_goto (tgt := 609) hx hb dX13_doesPlain_605 (by decide) ?_
                                                                                                                                                                                          exact w13_doesPlain_b609 E hp hS (hl.sub [] rfl) hsh
                                                                                                                                                                                      · rw [if_neg c4_90] at hsh
                                                                                                                                                                                        by_cases c4_91 : iW (v1) = 113
                                                                                                                                                                                        · rw [if_pos c4_91] at hsh
                                                                                                                                                                                          refine lv_tableIn (off := 674) (tgt := 678) hx hb dX13_doesPlain_4 (by show ¬ iW (v1) < _; rw [c4_91]; decide) (by show ¬ _ < iW (v1); rw [c4_91]; decide) (by show _[(iW (v1) - _).toNat]? = _; rw [c4_91]; rfl) (by decide) ?_
                                                                                                                                                                                          refine e_aload_n (B := B) (x := x0) hx hb dX13_doesPlain_678 rfl (hl.at 0 rfl) ?_
                                                                                                                                                                                          refine lv_iload_n hx hb dX13_doesPlain_679 rfl (hl.at 1 rfl) ?_
                                                                                                                                                                                          obtain ⟨⟨v680, S680⟩, h680, hsh⟩ := Option.bind_eq_some_iff.mp hsh
                                                                                                                                                                                          have hsh : _ = _ := hsh
                                                                                                                                                                                          try dsimp only at hsh
                                                                                                                                                                                          have ok680 := ok13_doesFurther h680
                                                                                                                                                                                          refine e_callI (nL := 2) (mc := 0) (ms := 0) (T := TX13) (N := 126) (As := [.int (iI (x1))]) (rest := []) hx hb hml hown hts hp hS hl.size ok680.1 ok680.2.1 ok680.2.2 rfl (by decide) (c13_doesFurther l D cA B S S680 (x0) (x1) v680 h680) rfl rfl kd13_doesFurther (kl13_776) ks13_doesFurther kv13_doesFurther ki13 kh13_doesFurther ⟨Nat.le_of_ble_eq_true rfl, Nat.le_of_ble_eq_true rfl⟩ rfl (by simp [e_rv_cat, e_int_cat]) ⟨Nat.le_refl _, Nat.le_refl _⟩ dX13_doesPlain_680 rfl (fun H locs hp hS => ?_)
                                                                                                                                                                                          obtain ⟨hz, hz1, hz2⟩ := zR_some hsh
                                                                                                                                                                                          rw [← hz1, ← hz2]
                                                                                                                                                                                          exact e_zret hx hb hrt hlk hp hS hz dX13_doesPlain_683
                                                                                                                                                                                        · rw [if_neg c4_91] at hsh
                                                                                                                                                                                          by_cases c4_92 : iW (v1) = 114
                                                                                                                                                                                          · rw [if_pos c4_92] at hsh
                                                                                                                                                                                            refine lv_tableIn (off := 569) (tgt := 573) hx hb dX13_doesPlain_4 (by show ¬ iW (v1) < _; rw [c4_92]; decide) (by show ¬ _ < iW (v1); rw [c4_92]; decide) (by show _[(iW (v1) - _).toNat]? = _; rw [c4_92]; rfl) (by decide) ?_
                                                                                                                                                                                            refine e_aload_n (B := B) (x := x0) hx hb dX13_doesPlain_573 rfl (hl.at 0 rfl) ?_
                                                                                                                                                                                            refine e_aload_n (B := B) (x := x0) hx hb dX13_doesPlain_574 rfl (hl.at 0 rfl) ?_
                                                                                                                                                                                            obtain ⟨v575, h575, hsh⟩ := Option.bind_eq_some_iff.mp hsh
                                                                                                                                                                                            refine e_getI (k := 63) hx hb hts in_X13 hown hp h575 rfl (by decide) (by decide) rfl (hts _ kf13_612) rfl dX13_doesPlain_575 ?_
                                                                                                                                                                                            refine lv_iload_n hx hb dX13_doesPlain_578 rfl (hl.at 1 rfl) ?_
                                                                                                                                                                                            obtain ⟨⟨v579, S579⟩, h579, hsh⟩ := Option.bind_eq_some_iff.mp hsh
                                                                                                                                                                                            have hsh : _ = _ := hsh
                                                                                                                                                                                            try dsimp only at hsh
                                                                                                                                                                                            have ok579 := ok13_replaces h579
                                                                                                                                                                                            refine e_callI (nL := 2) (mc := 0) (ms := 0) (T := TX13) (N := 126) (As := [.int (iI (v575)), .int (iI (x1))]) (rest := []) hx hb hml hown hts hp hS hl.size ok579.1 ok579.2.1 ok579.2.2 rfl (by decide) (c13_replaces l D cA B S S579 (x0) (v575) (x1) v579 h579) rfl rfl kd13_replaces (kl13_757) ks13_replaces kv13_replaces ki13 kh13_replaces ⟨Nat.le_of_ble_eq_true rfl, Nat.le_of_ble_eq_true rfl⟩ rfl (by simp [e_rv_cat, e_int_cat]) ⟨Nat.le_refl _, Nat.le_refl _⟩ dX13_doesPlain_579 rfl (fun H locs hp hS => ?_)
                                                                                                                                                                                            obtain ⟨hz, hz1, hz2⟩ := zR_some hsh
                                                                                                                                                                                            rw [← hz1, ← hz2]
                                                                                                                                                                                            exact e_zret hx hb hrt hlk hp hS hz dX13_doesPlain_582
                                                                                                                                                                                          · rw [if_neg c4_92] at hsh
                                                                                                                                                                                            by_cases c4_93 : iW (v1) = 115
                                                                                                                                                                                            · rw [if_pos c4_93] at hsh
                                                                                                                                                                                              refine lv_tableIn (off := 498) (tgt := 502) hx hb dX13_doesPlain_4 (by show ¬ iW (v1) < _; rw [c4_93]; decide) (by show ¬ _ < iW (v1); rw [c4_93]; decide) (by show _[(iW (v1) - _).toNat]? = _; rw [c4_93]; rfl) (by decide) ?_
                                                                                                                                                                                              refine e_aload_n (B := B) (x := x0) hx hb dX13_doesPlain_502 rfl (hl.at 0 rfl) ?_
                                                                                                                                                                                              refine lv_bipush (v := iI (99)) hx hb dX13_doesPlain_503 (by decide +kernel) ?_
                                                                                                                                                                                              refine e_aload_n (B := B) (x := x0) hx hb dX13_doesPlain_505 rfl (hl.at 0 rfl) ?_
                                                                                                                                                                                              obtain ⟨v506, h506, hsh⟩ := Option.bind_eq_some_iff.mp hsh
                                                                                                                                                                                              refine e_getI (k := 58) hx hb hts in_X13 hown hp h506 rfl (by decide) (by decide) rfl (hts _ kf13_642) rfl dX13_doesPlain_506 ?_
                                                                                                                                                                                              refine lv_bipush (v := iI (108)) hx hb dX13_doesPlain_509 (by decide +kernel) ?_
                                                                                                                                                                                              refine lv_iconst (v := iI (0)) hx hb dX13_doesPlain_511 rfl ?_
                                                                                                                                                                                              refine lv_iload_n hx hb dX13_doesPlain_512 rfl (hl.at 1 rfl) ?_
                                                                                                                                                                                              refine lv_iconst (v := iI (1)) hx hb dX13_doesPlain_513 rfl ?_
                                                                                                                                                                                              obtain ⟨⟨v514, S514⟩, h514, hsh⟩ := Option.bind_eq_some_iff.mp hsh
                                                                                                                                                                                              have hsh : _ = _ := hsh
                                                                                                                                                                                              try dsimp only at hsh
                                                                                                                                                                                              have ok514 := ok13_operatesMotion h514
                                                                                                                                                                                              refine e_callI (nL := 2) (mc := 0) (ms := 0) (T := TX13) (N := 126) (As := [.int (iI (99)), .int (iI (v506)), .int (iI (108)), .int (iI (0)), .int (iI (x1)), .int (iI (1))]) (rest := []) hx hb hml hown hts hp hS hl.size ok514.1 ok514.2.1 ok514.2.2 rfl (by decide) (c13_operatesMotion l D cA B S S514 (x0) (99) (v506) (108) (0) (x1) (1) v514 h514) rfl rfl kd13_operatesMotion (kl13_744) ks13_operatesMotion kv13_operatesMotion ki13 kh13_operatesMotion ⟨Nat.le_of_ble_eq_true rfl, Nat.le_of_ble_eq_true rfl⟩ rfl (by simp [e_rv_cat, e_int_cat]) ⟨Nat.le_refl _, Nat.le_refl _⟩ dX13_doesPlain_514 rfl (fun H locs hp hS => ?_)
                                                                                                                                                                                              obtain ⟨hz, hz1, hz2⟩ := zR_some hsh
                                                                                                                                                                                              rw [← hz1, ← hz2]
                                                                                                                                                                                              exact e_zret hx hb hrt hlk hp hS hz dX13_doesPlain_517
                                                                                                                                                                                            · rw [if_neg c4_93] at hsh
                                                                                                                                                                                              by_cases c4_94 : iW (v1) = 116
                                                                                                                                                                                              · rw [if_pos c4_94] at hsh
                                                                                                                                                                                                refine lv_tableIn (off := 674) (tgt := 678) hx hb dX13_doesPlain_4 (by show ¬ iW (v1) < _; rw [c4_94]; decide) (by show ¬ _ < iW (v1); rw [c4_94]; decide) (by show _[(iW (v1) - _).toNat]? = _; rw [c4_94]; rfl) (by decide) ?_
                                                                                                                                                                                                refine e_aload_n (B := B) (x := x0) hx hb dX13_doesPlain_678 rfl (hl.at 0 rfl) ?_
                                                                                                                                                                                                refine lv_iload_n hx hb dX13_doesPlain_679 rfl (hl.at 1 rfl) ?_
                                                                                                                                                                                                obtain ⟨⟨v680, S680⟩, h680, hsh⟩ := Option.bind_eq_some_iff.mp hsh
                                                                                                                                                                                                have hsh : _ = _ := hsh
                                                                                                                                                                                                try dsimp only at hsh
                                                                                                                                                                                                have ok680 := ok13_doesFurther h680
                                                                                                                                                                                                refine e_callI (nL := 2) (mc := 0) (ms := 0) (T := TX13) (N := 126) (As := [.int (iI (x1))]) (rest := []) hx hb hml hown hts hp hS hl.size ok680.1 ok680.2.1 ok680.2.2 rfl (by decide) (c13_doesFurther l D cA B S S680 (x0) (x1) v680 h680) rfl rfl kd13_doesFurther (kl13_776) ks13_doesFurther kv13_doesFurther ki13 kh13_doesFurther ⟨Nat.le_of_ble_eq_true rfl, Nat.le_of_ble_eq_true rfl⟩ rfl (by simp [e_rv_cat, e_int_cat]) ⟨Nat.le_refl _, Nat.le_refl _⟩ dX13_doesPlain_680 rfl (fun H locs hp hS => ?_)
                                                                                                                                                                                                obtain ⟨hz, hz1, hz2⟩ := zR_some hsh
                                                                                                                                                                                                rw [← hz1, ← hz2]
                                                                                                                                                                                                exact e_zret hx hb hrt hlk hp hS hz dX13_doesPlain_683
                                                                                                                                                                                              · rw [if_neg c4_94] at hsh
                                                                                                                                                                                                by_cases c4_95 : iW (v1) = 117
                                                                                                                                                                                                · rw [if_pos c4_95] at hsh
                                                                                                                                                                                                  refine lv_tableIn (off := 674) (tgt := 678) hx hb dX13_doesPlain_4 (by show ¬ iW (v1) < _; rw [c4_95]; decide) (by show ¬ _ < iW (v1); rw [c4_95]; decide) (by show _[(iW (v1) - _).toNat]? = _; rw [c4_95]; rfl) (by decide) ?_
                                                                                                                                                                                                  refine e_aload_n (B := B) (x := x0) hx hb dX13_doesPlain_678 rfl (hl.at 0 rfl) ?_
                                                                                                                                                                                                  refine lv_iload_n hx hb dX13_doesPlain_679 rfl (hl.at 1 rfl) ?_
                                                                                                                                                                                                  obtain ⟨⟨v680, S680⟩, h680, hsh⟩ := Option.bind_eq_some_iff.mp hsh
                                                                                                                                                                                                  have hsh : _ = _ := hsh
                                                                                                                                                                                                  try dsimp only at hsh
                                                                                                                                                                                                  have ok680 := ok13_doesFurther h680
                                                                                                                                                                                                  refine e_callI (nL := 2) (mc := 0) (ms := 0) (T := TX13) (N := 126) (As := [.int (iI (x1))]) (rest := []) hx hb hml hown hts hp hS hl.size ok680.1 ok680.2.1 ok680.2.2 rfl (by decide) (c13_doesFurther l D cA B S S680 (x0) (x1) v680 h680) rfl rfl kd13_doesFurther (kl13_776) ks13_doesFurther kv13_doesFurther ki13 kh13_doesFurther ⟨Nat.le_of_ble_eq_true rfl, Nat.le_of_ble_eq_true rfl⟩ rfl (by simp [e_rv_cat, e_int_cat]) ⟨Nat.le_refl _, Nat.le_refl _⟩ dX13_doesPlain_680 rfl (fun H locs hp hS => ?_)
                                                                                                                                                                                                  obtain ⟨hz, hz1, hz2⟩ := zR_some hsh
                                                                                                                                                                                                  rw [← hz1, ← hz2]
                                                                                                                                                                                                  exact e_zret hx hb hrt hlk hp hS hz dX13_doesPlain_683
                                                                                                                                                                                                · rw [if_neg c4_95] at hsh
                                                                                                                                                                                                  by_cases c4_96 : iW (v1) = 118
                                                                                                                                                                                                  · rw [if_pos c4_96] at hsh
                                                                                                                                                                                                    refine lv_tableIn (off := 653) (tgt := 657) hx hb dX13_doesPlain_4 (by show ¬ iW (v1) < _; rw [c4_96]; decide) (by show ¬ _ < iW (v1); rw [c4_96]; decide) (by show _[(iW (v1) - _).toNat]? = _; rw [c4_96]; rfl) (by decide) ?_
                                                                                                                                                                                                    refine e_aload_n (B := B) (x := x0) hx hb dX13_doesPlain_657 rfl (hl.at 0 rfl) ?_
                                                                                                                                                                                                    refine e_aload_n (B := B) (x := x0) hx hb dX13_doesPlain_658 rfl (hl.at 0 rfl) ?_
                                                                                                                                                                                                    obtain ⟨v659, h659, hsh⟩ := Option.bind_eq_some_iff.mp hsh
                                                                                                                                                                                                    refine e_getI (k := 62) hx hb hts in_X13 hown hp h659 rfl (by decide) (by decide) rfl (hts _ kf13_615) rfl dX13_doesPlain_659 ?_
                                                                                                                                                                                                    obtain ⟨⟨v662, S662⟩, h662, hsh⟩ := Option.bind_eq_some_iff.mp hsh
                                                                                                                                                                                                    have hsh : _ = _ := hsh
                                                                                                                                                                                                    try dsimp only at hsh
                                                                                                                                                                                                    have ok662 := ok13_selects h662
                                                                                                                                                                                                    refine e_callI (nL := 2) (mc := 0) (ms := 0) (T := TX13) (N := 126) (As := [.int (iI (v659))]) (rest := []) hx hb hml hown hts hp hS hl.size ok662.1 ok662.2.1 ok662.2.2 rfl (by decide) (c13_selects l D cA B S S662 (x0) (v659) v662 h662) rfl rfl kd13_selects (kl13_770) ks13_selects kv13_selects ki13 kh13_selects ⟨Nat.le_of_ble_eq_true rfl, Nat.le_of_ble_eq_true rfl⟩ rfl (by simp [e_rv_cat, e_int_cat]) ⟨Nat.le_refl _, Nat.le_refl _⟩ dX13_doesPlain_662 rfl (fun H locs hp hS => ?_)
                                                                                                                                                                                                    obtain ⟨hz, hz1, hz2⟩ := zR_some hsh
                                                                                                                                                                                                    rw [← hz1, ← hz2]
                                                                                                                                                                                                    exact e_zret hx hb hrt hlk hp hS hz dX13_doesPlain_665
                                                                                                                                                                                                  · rw [if_neg c4_96] at hsh
                                                                                                                                                                                                    by_cases c4_97 : iW (v1) = 119
                                                                                                                                                                                                    · rw [if_pos c4_97] at hsh
                                                                                                                                                                                                      refine lv_tableIn (off := 674) (tgt := 678) hx hb dX13_doesPlain_4 (by show ¬ iW (v1) < _; rw [c4_97]; decide) (by show ¬ _ < iW (v1); rw [c4_97]; decide) (by show _[(iW (v1) - _).toNat]? = _; rw [c4_97]; rfl) (by decide) ?_
                                                                                                                                                                                                      refine e_aload_n (B := B) (x := x0) hx hb dX13_doesPlain_678 rfl (hl.at 0 rfl) ?_
                                                                                                                                                                                                      refine lv_iload_n hx hb dX13_doesPlain_679 rfl (hl.at 1 rfl) ?_
                                                                                                                                                                                                      obtain ⟨⟨v680, S680⟩, h680, hsh⟩ := Option.bind_eq_some_iff.mp hsh
                                                                                                                                                                                                      have hsh : _ = _ := hsh
                                                                                                                                                                                                      try dsimp only at hsh
                                                                                                                                                                                                      have ok680 := ok13_doesFurther h680
                                                                                                                                                                                                      refine e_callI (nL := 2) (mc := 0) (ms := 0) (T := TX13) (N := 126) (As := [.int (iI (x1))]) (rest := []) hx hb hml hown hts hp hS hl.size ok680.1 ok680.2.1 ok680.2.2 rfl (by decide) (c13_doesFurther l D cA B S S680 (x0) (x1) v680 h680) rfl rfl kd13_doesFurther (kl13_776) ks13_doesFurther kv13_doesFurther ki13 kh13_doesFurther ⟨Nat.le_of_ble_eq_true rfl, Nat.le_of_ble_eq_true rfl⟩ rfl (by simp [e_rv_cat, e_int_cat]) ⟨Nat.le_refl _, Nat.le_refl _⟩ dX13_doesPlain_680 rfl (fun H locs hp hS => ?_)
                                                                                                                                                                                                      obtain ⟨hz, hz1, hz2⟩ := zR_some hsh
                                                                                                                                                                                                      rw [← hz1, ← hz2]
                                                                                                                                                                                                      exact e_zret hx hb hrt hlk hp hS hz dX13_doesPlain_683
                                                                                                                                                                                                    · rw [if_neg c4_97] at hsh
                                                                                                                                                                                                      by_cases c4_98 : iW (v1) = 120
                                                                                                                                                                                                      · rw [if_pos c4_98] at hsh
                                                                                                                                                                                                        refine lv_tableIn (off := 436) (tgt := 440) hx hb dX13_doesPlain_4 (by show ¬ iW (v1) < _; rw [c4_98]; decide) (by show ¬ _ < iW (v1); rw [c4_98]; decide) (by show _[(iW (v1) - _).toNat]? = _; rw [c4_98]; rfl) (by decide) ?_
                                                                                                                                                                                                        refine e_aload_n (B := B) (x := x0) hx hb dX13_doesPlain_440 rfl (hl.at 0 rfl) ?_
                                                                                                                                                                                                        refine lv_bipush (v := iI (100)) hx hb dX13_doesPlain_441 (by decide +kernel) ?_
                                                                                                                                                                                                        refine e_aload_n (B := B) (x := x0) hx hb dX13_doesPlain_443 rfl (hl.at 0 rfl) ?_
                                                                                                                                                                                                        obtain ⟨v444, h444, hsh⟩ := Option.bind_eq_some_iff.mp hsh
                                                                                                                                                                                                        refine e_getI (k := 58) hx hb hts in_X13 hown hp h444 rfl (by decide) (by decide) rfl (hts _ kf13_642) rfl dX13_doesPlain_444 ?_
                                                                                                                                                                                                        refine lv_bipush (v := iI (108)) hx hb dX13_doesPlain_447 (by decide +kernel) ?_
                                                                                                                                                                                                        refine lv_iconst (v := iI (0)) hx hb dX13_doesPlain_449 rfl ?_
                                                                                                                                                                                                        refine lv_iload_n hx hb dX13_doesPlain_450 rfl (hl.at 1 rfl) ?_
                                                                                                                                                                                                        refine lv_iconst (v := iI (1)) hx hb dX13_doesPlain_451 rfl ?_
                                                                                                                                                                                                        obtain ⟨⟨v452, S452⟩, h452, hsh⟩ := Option.bind_eq_some_iff.mp hsh
                                                                                                                                                                                                        have hsh : _ = _ := hsh
                                                                                                                                                                                                        try dsimp only at hsh
                                                                                                                                                                                                        have ok452 := ok13_operatesMotion h452
                                                                                                                                                                                                        refine e_callI (nL := 2) (mc := 0) (ms := 0) (T := TX13) (N := 126) (As := [.int (iI (100)), .int (iI (v444)), .int (iI (108)), .int (iI (0)), .int (iI (x1)), .int (iI (1))]) (rest := []) hx hb hml hown hts hp hS hl.size ok452.1 ok452.2.1 ok452.2.2 rfl (by decide) (c13_operatesMotion l D cA B S S452 (x0) (100) (v444) (108) (0) (x1) (1) v452 h452) rfl rfl kd13_operatesMotion (kl13_744) ks13_operatesMotion kv13_operatesMotion ki13 kh13_operatesMotion ⟨Nat.le_of_ble_eq_true rfl, Nat.le_of_ble_eq_true rfl⟩ rfl (by simp [e_rv_cat, e_int_cat]) ⟨Nat.le_refl _, Nat.le_refl _⟩ dX13_doesPlain_452 rfl (fun H locs hp hS => ?_)
                                                                                                                                                                                                        obtain ⟨hz, hz1, hz2⟩ := zR_some hsh
                                                                                                                                                                                                        rw [← hz1, ← hz2]
                                                                                                                                                                                                        exact e_zret hx hb hrt hlk hp hS hz dX13_doesPlain_455
                                                                                                                                                                                                      · rw [if_neg c4_98] at hsh
                                                                                                                                                                                                        by_cases c4_99 : iW (v1) = 121
                                                                                                                                                                                                        · rw [if_pos c4_99] at hsh
                                                                                                                                                                                                          refine lv_tableIn (off := 674) (tgt := 678) hx hb dX13_doesPlain_4 (by show ¬ iW (v1) < _; rw [c4_99]; decide) (by show ¬ _ < iW (v1); rw [c4_99]; decide) (by show _[(iW (v1) - _).toNat]? = _; rw [c4_99]; rfl) (by decide) ?_
                                                                                                                                                                                                          refine e_aload_n (B := B) (x := x0) hx hb dX13_doesPlain_678 rfl (hl.at 0 rfl) ?_
                                                                                                                                                                                                          refine lv_iload_n hx hb dX13_doesPlain_679 rfl (hl.at 1 rfl) ?_
                                                                                                                                                                                                          obtain ⟨⟨v680, S680⟩, h680, hsh⟩ := Option.bind_eq_some_iff.mp hsh
                                                                                                                                                                                                          have hsh : _ = _ := hsh
                                                                                                                                                                                                          try dsimp only at hsh
                                                                                                                                                                                                          have ok680 := ok13_doesFurther h680
                                                                                                                                                                                                          refine e_callI (nL := 2) (mc := 0) (ms := 0) (T := TX13) (N := 126) (As := [.int (iI (x1))]) (rest := []) hx hb hml hown hts hp hS hl.size ok680.1 ok680.2.1 ok680.2.2 rfl (by decide) (c13_doesFurther l D cA B S S680 (x0) (x1) v680 h680) rfl rfl kd13_doesFurther (kl13_776) ks13_doesFurther kv13_doesFurther ki13 kh13_doesFurther ⟨Nat.le_of_ble_eq_true rfl, Nat.le_of_ble_eq_true rfl⟩ rfl (by simp [e_rv_cat, e_int_cat]) ⟨Nat.le_refl _, Nat.le_refl _⟩ dX13_doesPlain_680 rfl (fun H locs hp hS => ?_)
                                                                                                                                                                                                          obtain ⟨hz, hz1, hz2⟩ := zR_some hsh
                                                                                                                                                                                                          rw [← hz1, ← hz2]
                                                                                                                                                                                                          exact e_zret hx hb hrt hlk hp hS hz dX13_doesPlain_683
                                                                                                                                                                                                        · rw [if_neg c4_99] at hsh
                                                                                                                                                                                                          by_cases c4_100 : iW (v1) = 122
                                                                                                                                                                                                          · rw [if_pos c4_100] at hsh
                                                                                                                                                                                                            refine lv_tableIn (off := 674) (tgt := 678) hx hb dX13_doesPlain_4 (by show ¬ iW (v1) < _; rw [c4_100]; decide) (by show ¬ _ < iW (v1); rw [c4_100]; decide) (by show _[(iW (v1) - _).toNat]? = _; rw [c4_100]; rfl) (by decide) ?_
                                                                                                                                                                                                            refine e_aload_n (B := B) (x := x0) hx hb dX13_doesPlain_678 rfl (hl.at 0 rfl) ?_
                                                                                                                                                                                                            refine lv_iload_n hx hb dX13_doesPlain_679 rfl (hl.at 1 rfl) ?_
                                                                                                                                                                                                            obtain ⟨⟨v680, S680⟩, h680, hsh⟩ := Option.bind_eq_some_iff.mp hsh
                                                                                                                                                                                                            have hsh : _ = _ := hsh
                                                                                                                                                                                                            try dsimp only at hsh
                                                                                                                                                                                                            have ok680 := ok13_doesFurther h680
                                                                                                                                                                                                            refine e_callI (nL := 2) (mc := 0) (ms := 0) (T := TX13) (N := 126) (As := [.int (iI (x1))]) (rest := []) hx hb hml hown hts hp hS hl.size ok680.1 ok680.2.1 ok680.2.2 rfl (by decide) (c13_doesFurther l D cA B S S680 (x0) (x1) v680 h680) rfl rfl kd13_doesFurther (kl13_776) ks13_doesFurther kv13_doesFurther ki13 kh13_doesFurther ⟨Nat.le_of_ble_eq_true rfl, Nat.le_of_ble_eq_true rfl⟩ rfl (by simp [e_rv_cat, e_int_cat]) ⟨Nat.le_refl _, Nat.le_refl _⟩ dX13_doesPlain_680 rfl (fun H locs hp hS => ?_)
                                                                                                                                                                                                            obtain ⟨hz, hz1, hz2⟩ := zR_some hsh
                                                                                                                                                                                                            rw [← hz1, ← hz2]
                                                                                                                                                                                                            exact e_zret hx hb hrt hlk hp hS hz dX13_doesPlain_683
                                                                                                                                                                                                          · rw [if_neg c4_100] at hsh
                                                                                                                                                                                                            by_cases c4_101 : iW (v1) = 123
                                                                                                                                                                                                            · rw [if_pos c4_101] at hsh
                                                                                                                                                                                                              refine lv_tableIn (off := 674) (tgt := 678) hx hb dX13_doesPlain_4 (by show ¬ iW (v1) < _; rw [c4_101]; decide) (by show ¬ _ < iW (v1); rw [c4_101]; decide) (by show _[(iW (v1) - _).toNat]? = _; rw [c4_101]; rfl) (by decide) ?_
                                                                                                                                                                                                              refine e_aload_n (B := B) (x := x0) hx hb dX13_doesPlain_678 rfl (hl.at 0 rfl) ?_
                                                                                                                                                                                                              refine lv_iload_n hx hb dX13_doesPlain_679 rfl (hl.at 1 rfl) ?_
                                                                                                                                                                                                              obtain ⟨⟨v680, S680⟩, h680, hsh⟩ := Option.bind_eq_some_iff.mp hsh
                                                                                                                                                                                                              have hsh : _ = _ := hsh
                                                                                                                                                                                                              try dsimp only at hsh
                                                                                                                                                                                                              have ok680 := ok13_doesFurther h680
                                                                                                                                                                                                              refine e_callI (nL := 2) (mc := 0) (ms := 0) (T := TX13) (N := 126) (As := [.int (iI (x1))]) (rest := []) hx hb hml hown hts hp hS hl.size ok680.1 ok680.2.1 ok680.2.2 rfl (by decide) (c13_doesFurther l D cA B S S680 (x0) (x1) v680 h680) rfl rfl kd13_doesFurther (kl13_776) ks13_doesFurther kv13_doesFurther ki13 kh13_doesFurther ⟨Nat.le_of_ble_eq_true rfl, Nat.le_of_ble_eq_true rfl⟩ rfl (by simp [e_rv_cat, e_int_cat]) ⟨Nat.le_refl _, Nat.le_refl _⟩ dX13_doesPlain_680 rfl (fun H locs hp hS => ?_)
                                                                                                                                                                                                              obtain ⟨hz, hz1, hz2⟩ := zR_some hsh
                                                                                                                                                                                                              rw [← hz1, ← hz2]
                                                                                                                                                                                                              exact e_zret hx hb hrt hlk hp hS hz dX13_doesPlain_683
                                                                                                                                                                                                            · rw [if_neg c4_101] at hsh
                                                                                                                                                                                                              by_cases c4_102 : iW (v1) = 124
                                                                                                                                                                                                              · rw [if_pos c4_102] at hsh
                                                                                                                                                                                                                refine lv_tableIn (off := 674) (tgt := 678) hx hb dX13_doesPlain_4 (by show ¬ iW (v1) < _; rw [c4_102]; decide) (by show ¬ _ < iW (v1); rw [c4_102]; decide) (by show _[(iW (v1) - _).toNat]? = _; rw [c4_102]; rfl) (by decide) ?_
                                                                                                                                                                                                                refine e_aload_n (B := B) (x := x0) hx hb dX13_doesPlain_678 rfl (hl.at 0 rfl) ?_
                                                                                                                                                                                                                refine lv_iload_n hx hb dX13_doesPlain_679 rfl (hl.at 1 rfl) ?_
                                                                                                                                                                                                                obtain ⟨⟨v680, S680⟩, h680, hsh⟩ := Option.bind_eq_some_iff.mp hsh
                                                                                                                                                                                                                have hsh : _ = _ := hsh
                                                                                                                                                                                                                try dsimp only at hsh
                                                                                                                                                                                                                have ok680 := ok13_doesFurther h680
                                                                                                                                                                                                                refine e_callI (nL := 2) (mc := 0) (ms := 0) (T := TX13) (N := 126) (As := [.int (iI (x1))]) (rest := []) hx hb hml hown hts hp hS hl.size ok680.1 ok680.2.1 ok680.2.2 rfl (by decide) (c13_doesFurther l D cA B S S680 (x0) (x1) v680 h680) rfl rfl kd13_doesFurther (kl13_776) ks13_doesFurther kv13_doesFurther ki13 kh13_doesFurther ⟨Nat.le_of_ble_eq_true rfl, Nat.le_of_ble_eq_true rfl⟩ rfl (by simp [e_rv_cat, e_int_cat]) ⟨Nat.le_refl _, Nat.le_refl _⟩ dX13_doesPlain_680 rfl (fun H locs hp hS => ?_)
                                                                                                                                                                                                                obtain ⟨hz, hz1, hz2⟩ := zR_some hsh
                                                                                                                                                                                                                rw [← hz1, ← hz2]
                                                                                                                                                                                                                exact e_zret hx hb hrt hlk hp hS hz dX13_doesPlain_683
                                                                                                                                                                                                              · rw [if_neg c4_102] at hsh
                                                                                                                                                                                                                by_cases c4_103 : iW (v1) = 125
                                                                                                                                                                                                                · rw [if_pos c4_103] at hsh
                                                                                                                                                                                                                  refine lv_tableIn (off := 674) (tgt := 678) hx hb dX13_doesPlain_4 (by show ¬ iW (v1) < _; rw [c4_103]; decide) (by show ¬ _ < iW (v1); rw [c4_103]; decide) (by show _[(iW (v1) - _).toNat]? = _; rw [c4_103]; rfl) (by decide) ?_
                                                                                                                                                                                                                  refine e_aload_n (B := B) (x := x0) hx hb dX13_doesPlain_678 rfl (hl.at 0 rfl) ?_
                                                                                                                                                                                                                  refine lv_iload_n hx hb dX13_doesPlain_679 rfl (hl.at 1 rfl) ?_
                                                                                                                                                                                                                  obtain ⟨⟨v680, S680⟩, h680, hsh⟩ := Option.bind_eq_some_iff.mp hsh
                                                                                                                                                                                                                  have hsh : _ = _ := hsh
                                                                                                                                                                                                                  try dsimp only at hsh
                                                                                                                                                                                                                  have ok680 := ok13_doesFurther h680
                                                                                                                                                                                                                  refine e_callI (nL := 2) (mc := 0) (ms := 0) (T := TX13) (N := 126) (As := [.int (iI (x1))]) (rest := []) hx hb hml hown hts hp hS hl.size ok680.1 ok680.2.1 ok680.2.2 rfl (by decide) (c13_doesFurther l D cA B S S680 (x0) (x1) v680 h680) rfl rfl kd13_doesFurther (kl13_776) ks13_doesFurther kv13_doesFurther ki13 kh13_doesFurther ⟨Nat.le_of_ble_eq_true rfl, Nat.le_of_ble_eq_true rfl⟩ rfl (by simp [e_rv_cat, e_int_cat]) ⟨Nat.le_refl _, Nat.le_refl _⟩ dX13_doesPlain_680 rfl (fun H locs hp hS => ?_)
                                                                                                                                                                                                                  obtain ⟨hz, hz1, hz2⟩ := zR_some hsh
                                                                                                                                                                                                                  rw [← hz1, ← hz2]
                                                                                                                                                                                                                  exact e_zret hx hb hrt hlk hp hS hz dX13_doesPlain_683
                                                                                                                                                                                                                · rw [if_neg c4_103] at hsh
                                                                                                                                                                                                                  by_cases c4_104 : iW (v1) = 126
                                                                                                                                                                                                                  · rw [if_pos c4_104] at hsh
                                                                                                                                                                                                                    refine lv_tableIn (off := 579) (tgt := 583) hx hb dX13_doesPlain_4 (by show ¬ iW (v1) < _; rw [c4_104]; decide) (by show ¬ _ < iW (v1); rw [c4_104]; decide) (by show _[(iW (v1) - _).toNat]? = _; rw [c4_104]; rfl) (by decide) ?_
                                                                                                                                                                                                                    refine e_aload_n (B := B) (x := x0) hx hb dX13_doesPlain_583 rfl (hl.at 0 rfl) ?_
                                                                                                                                                                                                                    refine lv_iload_n hx hb dX13_doesPlain_584 rfl (hl.at 1 rfl) ?_
                                                                                                                                                                                                                    obtain ⟨⟨v585, S585⟩, h585, hsh⟩ := Option.bind_eq_some_iff.mp hsh
                                                                                                                                                                                                                    have hsh : _ = _ := hsh
                                                                                                                                                                                                                    try dsimp only at hsh
                                                                                                                                                                                                                    have ok585 := ok13_turnsSigns h585
                                                                                                                                                                                                                    refine e_callI (nL := 2) (mc := 0) (ms := 0) (T := TX13) (N := 126) (As := [.int (iI (x1))]) (rest := []) hx hb hml hown hts hp hS hl.size ok585.1 ok585.2.1 ok585.2.2 rfl (by decide) (c13_turnsSigns l D cA B S S585 (x0) (x1) v585 h585) rfl rfl kd13_turnsSigns (kl13_760) ks13_turnsSigns kv13_turnsSigns ki13 kh13_turnsSigns ⟨Nat.le_of_ble_eq_true rfl, Nat.le_of_ble_eq_true rfl⟩ rfl (by simp [e_rv_cat, e_int_cat]) ⟨Nat.le_refl _, Nat.le_refl _⟩ dX13_doesPlain_585 rfl (fun H locs hp hS => ?_)
                                                                                                                                                                                                                    obtain ⟨hz, hz1, hz2⟩ := zR_some hsh
                                                                                                                                                                                                                    rw [← hz1, ← hz2]
                                                                                                                                                                                                                    exact e_zret hx hb hrt hlk hp hS hz dX13_doesPlain_588
                                                                                                                                                                                                                  · rw [if_neg c4_104] at hsh
                                                                                                                                                                                                                    refine lv_tableOut (tgt := 678) hx hb dX13_doesPlain_4 (by show iW (v1) < _ ∨ _ < iW (v1); omega) (by decide) ?_
                                                                                                                                                                                                                    refine e_aload_n (B := B) (x := x0) hx hb dX13_doesPlain_678 rfl (hl.at 0 rfl) ?_
                                                                                                                                                                                                                    refine lv_iload_n hx hb dX13_doesPlain_679 rfl (hl.at 1 rfl) ?_
                                                                                                                                                                                                                    obtain ⟨⟨v680, S680⟩, h680, hsh⟩ := Option.bind_eq_some_iff.mp hsh
                                                                                                                                                                                                                    have hsh : _ = _ := hsh
                                                                                                                                                                                                                    try dsimp only at hsh
                                                                                                                                                                                                                    have ok680 := ok13_doesFurther h680
                                                                                                                                                                                                                    refine e_callI (nL := 2) (mc := 0) (ms := 0) (T := TX13) (N := 126) (As := [.int (iI (x1))]) (rest := []) hx hb hml hown hts hp hS hl.size ok680.1 ok680.2.1 ok680.2.2 rfl (by decide) (c13_doesFurther l D cA B S S680 (x0) (x1) v680 h680) rfl rfl kd13_doesFurther (kl13_776) ks13_doesFurther kv13_doesFurther ki13 kh13_doesFurther ⟨Nat.le_of_ble_eq_true rfl, Nat.le_of_ble_eq_true rfl⟩ rfl (by simp [e_rv_cat, e_int_cat]) ⟨Nat.le_refl _, Nat.le_refl _⟩ dX13_doesPlain_680 rfl (fun H locs hp hS => ?_)
                                                                                                                                                                                                                    obtain ⟨hz, hz1, hz2⟩ := zR_some hsh
                                                                                                                                                                                                                    rw [← hz1, ← hz2]
                                                                                                                                                                                                                    exact e_zret hx hb hrt hlk hp hS hz dX13_doesPlain_683
theorem ok13_does {S : HP} {x0 : Int} {r : Int × HP} (h : s13_does S x0 = some r) : 0 ≤ x0 ∧ x0.toNat < e_n S ∧ e_g S x0.toNat = 13 := (gd_some h).1
set_option maxRecDepth 100000 in
set_option maxHeartbeats 4000000 in
theorem w13_does_b155 {p : Program} {l : Launch} {e : Env} {s : State} {m : MethodId} {args : Array Value} {below : List Frame} {meth : Method} {c : Code} {D : va_G} {cA : Nat → ClassId} {B : Nat} {res : Int × HP} (E : e_En p s m args meth c cX13_does RX13 3 (some .boolean)) {ls : Array Slot} {H : Heap} {locs : List Loc} {S : HP} {x2 : Int} (hp : e_Pic D cA B S s H) (hS : va_S (e_A B) s.heap H locs) (hl : e_lo ls 3 [(2, .int (iI (x2)))]) (hsh : s13_does_b155 S x2 = some res) : W p l e ({ frames := 10, cells := 0, slots := 0, locals := 233 } : Room) s m args below meth c H locs 0 0 (MQ below (e_Qi D cA B res.1 res.2) args s 0 0 (e_A B)) (F0 m 155 ls []) := by
  obtain ⟨hx, hb, hml, hown, hts, hlk, hrt⟩ := id E
  unfold s13_does_b155 at hsh
  refine lv_iload_n hx hb dX13_does_155 rfl (hl.at 0 rfl) ?_
  obtain ⟨hz, hz1, hz2⟩ := zR_some hsh
  rw [← hz1, ← hz2]
  exact e_zret hx hb hrt hlk hp hS hz dX13_does_156
set_option maxRecDepth 100000 in
set_option maxHeartbeats 4000000 in
theorem w13_does_b139 {p : Program} {l : Launch} {e : Env} {s : State} {m : MethodId} {args : Array Value} {below : List Frame} {meth : Method} {c : Code} {D : va_G} {cA : Nat → ClassId} {B : Nat} {res : Int × HP} (E : e_En p s m args meth c cX13_does RX13 3 (some .boolean)) {ls : Array Slot} {H : Heap} {locs : List Loc} {S : HP} {x0 : Int} {x2 : Int} (hp : e_Pic D cA B S s H) (hS : va_S (e_A B) s.heap H locs) (hl : e_lo ls 3 [(0, e_rv B (x0)), (2, .int (iI (x2)))]) (hsh : s13_does_b139 S x0 x2 = some res) : W p l e ({ frames := 10, cells := 0, slots := 0, locals := 233 } : Room) s m args below meth c H locs 0 0 (MQ below (e_Qi D cA B res.1 res.2) args s 0 0 (e_A B)) (F0 m 139 ls []) := by
  obtain ⟨hx, hb, hml, hown, hts, hlk, hrt⟩ := id E
  unfold s13_does_b139 at hsh
  refine e_aload_n (B := B) (x := x0) hx hb dX13_does_139 rfl (hl.at 0 rfl) ?_
  refine e_aload_n (B := B) (x := x0) hx hb dX13_does_140 rfl (hl.at 0 rfl) ?_
  obtain ⟨v141, h141, hsh⟩ := Option.bind_eq_some_iff.mp hsh
  refine e_getI (k := 62) hx hb hts in_X13 hown hp h141 rfl (by decide) (by decide) rfl (hts _ kf13_615) rfl dX13_does_141 ?_
  obtain ⟨S144, h144, hsh⟩ := Option.bind_eq_some_iff.mp hsh
  refine e_putI (k := 49) hx hb hts in_X13 tyX13 tyX13_ok nmX13 hown hp hS h144 rfl (by decide) (by decide) rfl (hts _ kf13_371) rfl rfl (by decide +kernel) dX13_does_144 (fun H locs hp hS => ?_)
  refine e_aload_n (B := B) (x := x0) hx hb dX13_does_147 rfl (hl.at 0 rfl) ?_
  refine e_aload_n (B := B) (x := x0) hx hb dX13_does_148 rfl (hl.at 0 rfl) ?_
  obtain ⟨v149, h149, hsh⟩ := Option.bind_eq_some_iff.mp hsh
  refine e_getI (k := 63) hx hb hts in_X13 hown hp h149 rfl (by decide) (by decide) rfl (hts _ kf13_612) rfl dX13_does_149 ?_
  obtain ⟨S152, h152, hsh⟩ := Option.bind_eq_some_iff.mp hsh
  refine e_putI (k := 50) hx hb hts in_X13 tyX13 tyX13_ok nmX13 hown hp hS h152 rfl (by decide) (by decide) rfl (hts _ kf13_374) rfl rfl (by decide +kernel) dX13_does_152 (fun H locs hp hS => ?_)
  exact w13_does_b155 E hp hS (hl.sub [1] rfl) hsh
set_option maxRecDepth 100000 in
set_option maxHeartbeats 4000000 in
theorem w13_does_b99 {p : Program} {l : Launch} {e : Env} {s : State} {m : MethodId} {args : Array Value} {below : List Frame} {meth : Method} {c : Code} {D : va_G} {cA : Nat → ClassId} {B : Nat} {res : Int × HP} (E : e_En p s m args meth c cX13_does RX13 3 (some .boolean)) {ls : Array Slot} {H : Heap} {locs : List Loc} {S : HP} {x0 : Int} {x2 : Int} (hp : e_Pic D cA B S s H) (hS : va_S (e_A B) s.heap H locs) (hl : e_lo ls 3 [(0, e_rv B (x0)), (2, .int (iI (x2)))]) (hsh : s13_does_b99 S x0 x2 = some res) : W p l e ({ frames := 10, cells := 0, slots := 0, locals := 233 } : Room) s m args below meth c H locs 0 0 (MQ below (e_Qi D cA B res.1 res.2) args s 0 0 (e_A B)) (F0 m 99 ls []) := by
  obtain ⟨hx, hb, hml, hown, hts, hlk, hrt⟩ := id E
  unfold s13_does_b99 at hsh
  refine lv_iload_n hx hb dX13_does_99 rfl (hl.at 1 rfl) ?_
  refine e_if_eq (tgt := 155) hx hb dX13_does_100 (by decide) (fun c100 => ?_) (fun c100 => ?_)
  · rw [if_pos c100] at hsh
    exact w13_does_b155 E hp hS (hl.sub [1] rfl) hsh
  · rw [if_neg c100] at hsh
    refine e_aload_n (B := B) (x := x0) hx hb dX13_does_103 rfl (hl.at 0 rfl) ?_
    obtain ⟨v104, h104, hsh⟩ := Option.bind_eq_some_iff.mp hsh
    refine e_getI (k := 62) hx hb hts in_X13 hown hp h104 rfl (by decide) (by decide) rfl (hts _ kf13_615) rfl dX13_does_104 ?_
    refine lv_bipush (v := iI (102)) hx hb dX13_does_107 (by decide +kernel) ?_
    refine e_icmp_eq (tgt := 139) hx hb dX13_does_109 (by decide) (fun c109 => ?_) (fun c109 => ?_)
    · rw [if_pos c109] at hsh
      exact w13_does_b139 E hp hS (hl.sub [0, 1] rfl) hsh
    · rw [if_neg c109] at hsh
      refine e_aload_n (B := B) (x := x0) hx hb dX13_does_112 rfl (hl.at 0 rfl) ?_
      obtain ⟨v113, h113, hsh⟩ := Option.bind_eq_some_iff.mp hsh
      refine e_getI (k := 62) hx hb hts in_X13 hown hp h113 rfl (by decide) (by decide) rfl (hts _ kf13_615) rfl dX13_does_113 ?_
      refine lv_bipush (v := iI (116)) hx hb dX13_does_116 (by decide +kernel) ?_
      refine e_icmp_eq (tgt := 139) hx hb dX13_does_118 (by decide) (fun c118 => ?_) (fun c118 => ?_)
      · rw [if_pos c118] at hsh
        exact w13_does_b139 E hp hS (hl.sub [0, 1] rfl) hsh
      · rw [if_neg c118] at hsh
        refine e_aload_n (B := B) (x := x0) hx hb dX13_does_121 rfl (hl.at 0 rfl) ?_
        obtain ⟨v122, h122, hsh⟩ := Option.bind_eq_some_iff.mp hsh
        refine e_getI (k := 62) hx hb hts in_X13 hown hp h122 rfl (by decide) (by decide) rfl (hts _ kf13_615) rfl dX13_does_122 ?_
        refine lv_bipush (v := iI (70)) hx hb dX13_does_125 (by decide +kernel) ?_
        refine e_icmp_eq (tgt := 139) hx hb dX13_does_127 (by decide) (fun c127 => ?_) (fun c127 => ?_)
        · rw [if_pos c127] at hsh
          exact w13_does_b139 E hp hS (hl.sub [0, 1] rfl) hsh
        · rw [if_neg c127] at hsh
          refine e_aload_n (B := B) (x := x0) hx hb dX13_does_130 rfl (hl.at 0 rfl) ?_
          obtain ⟨v131, h131, hsh⟩ := Option.bind_eq_some_iff.mp hsh
          refine e_getI (k := 62) hx hb hts in_X13 hown hp h131 rfl (by decide) (by decide) rfl (hts _ kf13_615) rfl dX13_does_131 ?_
          refine lv_bipush (v := iI (84)) hx hb dX13_does_134 (by decide +kernel) ?_
          refine e_icmp_ne (tgt := 155) hx hb dX13_does_136 (by decide) (fun c136 => ?_) (fun c136 => ?_)
          · rw [if_neg c136] at hsh
            exact w13_does_b155 E hp hS (hl.sub [1] rfl) hsh
          · rw [if_pos c136] at hsh
            exact w13_does_b139 E hp hS (hl.sub [0, 1] rfl) hsh
set_option maxRecDepth 100000 in
set_option maxHeartbeats 4000000 in
theorem w13_does_b86 {p : Program} {l : Launch} {e : Env} {s : State} {m : MethodId} {args : Array Value} {below : List Frame} {meth : Method} {c : Code} {D : va_G} {cA : Nat → ClassId} {B : Nat} {res : Int × HP} (E : e_En p s m args meth c cX13_does RX13 3 (some .boolean)) {ls : Array Slot} {H : Heap} {locs : List Loc} {S : HP} {x0 : Int} {x1 : Int} {y0 : Int} (hp : e_Pic D cA B S s H) (hS : va_S (e_A B) s.heap H locs) (hl : e_lo ls 3 [(0, e_rv B (x0)), (1, .int (iI (x1)))]) (hsh : s13_does_b86 S x0 x1 y0 = some res) : W p l e ({ frames := 10, cells := 0, slots := 0, locals := 233 } : Room) s m args below meth c H locs 0 0 (MQ below (e_Qi D cA B res.1 res.2) args s 0 0 (e_A B)) (F0 m 86 ls [.int (iI (y0))]) := by
  obtain ⟨hx, hb, hml, hown, hts, hlk, hrt⟩ := id E
  unfold s13_does_b86 at hsh
  refine e_istore_n (lv' := [(2, .int (iI (y0))), (0, e_rv B (x0)), (1, .int (iI (x1)))]) hx hb dX13_does_86 rfl hl (by decide) rfl (fun ls hl => ?_)
  refine lv_iload_n hx hb dX13_does_87 rfl (hl.at 2 rfl) ?_
  refine e_if_eq (tgt := 99) hx hb dX13_does_88 (by decide) (fun c88 => ?_) (fun c88 => ?_)
  · rw [if_pos c88] at hsh
    exact w13_does_b99 E hp hS (hl.sub [1, 0] rfl) hsh
  · rw [if_neg c88] at hsh
    refine lv_iload_n hx hb dX13_does_91 rfl (hl.at 0 rfl) ?_
    refine e_if_ne (tgt := 99) hx hb dX13_does_92 (by decide) (fun c92 => ?_) (fun c92 => ?_)
    · rw [if_neg c92] at hsh
      exact w13_does_b99 E hp hS (hl.sub [1, 0] rfl) hsh
    · rw [if_pos c92] at hsh
      refine e_aload_n (B := B) (x := x0) hx hb dX13_does_95 rfl (hl.at 1 rfl) ?_
      obtain ⟨S96, h96, hsh⟩ := Option.bind_eq_some_iff.mp hsh
      have ok96 := ok13_restoresSeek h96
      refine e_callV (nL := 3) (mc := 0) (ms := 0) (T := TX13) (N := 126) (As := []) (rest := []) hx hb hml hown hts hp hS hl.size ok96.1 ok96.2.1 ok96.2.2 rfl (by decide) (c13_restoresSeek l D cA B S S96 (x0) h96) rfl rfl kd13_restoresSeek (kl13_812) ks13_restoresSeek kv13_restoresSeek ki13 kh13_restoresSeek ⟨Nat.le_of_ble_eq_true rfl, Nat.le_of_ble_eq_true rfl⟩ rfl (by simp [e_rv_cat, e_int_cat]) ⟨Nat.le_refl _, Nat.le_refl _⟩ dX13_does_96 rfl (fun H locs hp hS => ?_)
      exact w13_does_b99 E hp hS (hl.sub [1, 0] rfl) hsh
set_option maxRecDepth 100000 in
set_option maxHeartbeats 4000000 in
theorem w13_does_b68 {p : Program} {l : Launch} {e : Env} {s : State} {m : MethodId} {args : Array Value} {below : List Frame} {meth : Method} {c : Code} {D : va_G} {cA : Nat → ClassId} {B : Nat} {res : Int × HP} (E : e_En p s m args meth c cX13_does RX13 3 (some .boolean)) {ls : Array Slot} {H : Heap} {locs : List Loc} {S : HP} {x0 : Int} {x1 : Int} {y0 : Int} {y1 : Int} {y2 : Int} (hp : e_Pic D cA B S s H) (hS : va_S (e_A B) s.heap H locs) (hl : e_lo ls 3 [(0, e_rv B (x0)), (1, .int (iI (x1)))]) (hsh : s13_does_b68 S x0 x1 y0 y1 y2 = some res) : W p l e ({ frames := 10, cells := 0, slots := 0, locals := 233 } : Room) s m args below meth c H locs 0 0 (MQ below (e_Qi D cA B res.1 res.2) args s 0 0 (e_A B)) (F0 m 68 ls [.int (iI (y2)), .int (iI (y1)), e_rv B (y0)]) := by
  obtain ⟨hx, hb, hml, hown, hts, hlk, hrt⟩ := id E
  unfold s13_does_b68 at hsh
  obtain ⟨⟨v68, S68⟩, h68, hsh⟩ := Option.bind_eq_some_iff.mp hsh
  have hsh : _ = _ := hsh
  try dsimp only at hsh
  have ok68 := ok13_goesMotion h68
  refine e_callI (nL := 3) (mc := 0) (ms := 0) (T := TX13) (N := 126) (As := [.int (iI (y1)), .int (iI (y2))]) (rest := []) hx hb hml hown hts hp hS hl.size ok68.1 ok68.2.1 ok68.2.2 rfl (by decide) (c13_goesMotion l D cA B S S68 (y0) (y1) (y2) v68 h68) rfl rfl kd13_goesMotion (kl13_806) ks13_goesMotion kv13_goesMotion ki13 kh13_goesMotion ⟨Nat.le_of_ble_eq_true rfl, Nat.le_of_ble_eq_true rfl⟩ rfl (by simp [e_rv_cat, e_int_cat]) ⟨Nat.le_refl _, Nat.le_refl _⟩ dX13_does_68 rfl (fun H locs hp hS => ?_)
  refine lv_goto (tgt := 86) hx hb dX13_does_71 (by decide) ?_
  exact w13_does_b86 E hp hS (hl.sub [0, 1] rfl) hsh
set_option maxRecDepth 100000 in
set_option maxHeartbeats 4000000 in
theorem w13_does_b23 {p : Program} {l : Launch} {e : Env} {s : State} {m : MethodId} {args : Array Value} {below : List Frame} {meth : Method} {c : Code} {D : va_G} {cA : Nat → ClassId} {B : Nat} {res : Int × HP} (E : e_En p s m args meth c cX13_does RX13 3 (some .boolean)) {ls : Array Slot} {H : Heap} {locs : List Loc} {S : HP} {x0 : Int} {x1 : Int} (hp : e_Pic D cA B S s H) (hS : va_S (e_A B) s.heap H locs) (hl : e_lo ls 3 [(0, e_rv B (x0)), (1, .int (iI (x1)))]) (hsh : s13_does_b23 S x0 x1 = some res) : W p l e ({ frames := 10, cells := 0, slots := 0, locals := 233 } : Room) s m args below meth c H locs 0 0 (MQ below (e_Qi D cA B res.1 res.2) args s 0 0 (e_A B)) (F0 m 23 ls []) := by
  obtain ⟨hx, hb, hml, hown, hts, hlk, hrt⟩ := id E
  unfold s13_does_b23 at hsh
  refine e_aload_n (B := B) (x := x0) hx hb dX13_does_23 rfl (hl.at 0 rfl) ?_
  obtain ⟨v24, h24, hsh⟩ := Option.bind_eq_some_iff.mp hsh
  refine e_getI (k := 60) hx hb hts in_X13 hown hp h24 rfl (by decide) (by decide) rfl (hts _ kf13_630) rfl dX13_does_24 ?_
  refine e_if_eq (tgt := 37) hx hb dX13_does_27 (by decide) (fun c27 => ?_) (fun c27 => ?_)
  · rw [if_pos c27] at hsh
    refine e_aload_n (B := B) (x := x0) hx hb dX13_does_37 rfl (hl.at 0 rfl) ?_
    obtain ⟨v38, h38, hsh⟩ := Option.bind_eq_some_iff.mp hsh
    refine e_getI (k := 62) hx hb hts in_X13 hown hp h38 rfl (by decide) (by decide) rfl (hts _ kf13_615) rfl dX13_does_38 ?_
    obtain ⟨⟨v41, S41⟩, h41, hsh⟩ := Option.bind_eq_some_iff.mp hsh
    have hsh : _ = _ := hsh
    try dsimp only at hsh
    refine e_callS (nL := 3) (mc := 0) (ms := 0) (As := [.int (iI (v38))]) (rest := []) hx hb hml hown hts hp hS hl.size (c13_isMotion l D cA B S S41 (v38) v41 h41) rfl rfl kd13_isMotion (kl13_636) ks13_isMotion ki13 kh13_isMotion ⟨Nat.le_of_ble_eq_true rfl, Nat.le_of_ble_eq_true rfl⟩ rfl (by simp [e_rv_cat, e_int_cat]) ⟨Nat.le_refl _, Nat.le_refl _⟩ dX13_does_41 rfl (fun H locs hp hS => ?_)
    refine e_if_eq (tgt := 74) hx hb dX13_does_44 (by decide) (fun c44 => ?_) (fun c44 => ?_)
    · rw [if_pos c44] at hsh
      refine e_aload_n (B := B) (x := x0) hx hb dX13_does_74 rfl (hl.at 0 rfl) ?_
      refine lv_iconst (v := iI (1)) hx hb dX13_does_75 rfl ?_
      refine e_aload_n (B := B) (x := x0) hx hb dX13_does_76 rfl (hl.at 0 rfl) ?_
      obtain ⟨v77, h77, hsh⟩ := Option.bind_eq_some_iff.mp hsh
      refine e_getI (k := 59) hx hb hts in_X13 hown hp h77 rfl (by decide) (by decide) rfl (hts _ kf13_654) rfl dX13_does_77 ?_
      obtain ⟨⟨v80, S80⟩, h80, hsh⟩ := Option.bind_eq_some_iff.mp hsh
      have hsh : _ = _ := hsh
      try dsimp only at hsh
      refine e_callS (nL := 3) (mc := 0) (ms := 0) (As := [.int (iI (1)), .int (iI (v77))]) (rest := [e_rv B (x0)]) hx hb hml hown hts hp hS hl.size (c13_greater l D cA B S41 S80 (1) (v77) v80 h80) rfl rfl kd13_greater (kl13_210) ks13_greater ki13 kh13_greater ⟨Nat.le_of_ble_eq_true rfl, Nat.le_of_ble_eq_true rfl⟩ rfl (by simp [e_rv_cat, e_int_cat]) ⟨Nat.le_refl _, Nat.le_refl _⟩ dX13_does_80 rfl (fun H locs hp hS => ?_)
      obtain ⟨⟨v83, S83⟩, h83, hsh⟩ := Option.bind_eq_some_iff.mp hsh
      have hsh : _ = _ := hsh
      try dsimp only at hsh
      have ok83 := ok13_doesPlain h83
      refine e_callI (nL := 3) (mc := 0) (ms := 0) (T := TX13) (N := 126) (As := [.int (iI (v80))]) (rest := []) hx hb hml hown hts hp hS hl.size ok83.1 ok83.2.1 ok83.2.2 rfl (by decide) (c13_doesPlain l D cA B S80 S83 (x0) (v80) v83 h83) rfl rfl kd13_doesPlain (kl13_809) ks13_doesPlain kv13_doesPlain ki13 kh13_doesPlain ⟨Nat.le_of_ble_eq_true rfl, Nat.le_of_ble_eq_true rfl⟩ rfl (by simp [e_rv_cat, e_int_cat]) ⟨Nat.le_refl _, Nat.le_refl _⟩ dX13_does_83 rfl (fun H locs hp hS => ?_)
      exact w13_does_b86 E hp hS (hl.sub [0, 1] rfl) hsh
    · rw [if_neg c44] at hsh
      refine e_aload_n (B := B) (x := x0) hx hb dX13_does_47 rfl (hl.at 0 rfl) ?_
      refine lv_iconst (v := iI (1)) hx hb dX13_does_48 rfl ?_
      refine e_aload_n (B := B) (x := x0) hx hb dX13_does_49 rfl (hl.at 0 rfl) ?_
      obtain ⟨v50, h50, hsh⟩ := Option.bind_eq_some_iff.mp hsh
      refine e_getI (k := 59) hx hb hts in_X13 hown hp h50 rfl (by decide) (by decide) rfl (hts _ kf13_654) rfl dX13_does_50 ?_
      obtain ⟨⟨v53, S53⟩, h53, hsh⟩ := Option.bind_eq_some_iff.mp hsh
      have hsh : _ = _ := hsh
      try dsimp only at hsh
      refine e_callS (nL := 3) (mc := 0) (ms := 0) (As := [.int (iI (1)), .int (iI (v50))]) (rest := [e_rv B (x0)]) hx hb hml hown hts hp hS hl.size (c13_greater l D cA B S41 S53 (1) (v50) v53 h53) rfl rfl kd13_greater (kl13_210) ks13_greater ki13 kh13_greater ⟨Nat.le_of_ble_eq_true rfl, Nat.le_of_ble_eq_true rfl⟩ rfl (by simp [e_rv_cat, e_int_cat]) ⟨Nat.le_refl _, Nat.le_refl _⟩ dX13_does_53 rfl (fun H locs hp hS => ?_)
      refine e_aload_n (B := B) (x := x0) hx hb dX13_does_56 rfl (hl.at 0 rfl) ?_
      obtain ⟨v57, h57, hsh⟩ := Option.bind_eq_some_iff.mp hsh
      refine e_getI (k := 59) hx hb hts in_X13 hown hp h57 rfl (by decide) (by decide) rfl (hts _ kf13_654) rfl dX13_does_57 ?_
      refine e_if_le (tgt := 67) hx hb dX13_does_60 (by decide) (fun c60 => ?_) (fun c60 => ?_)
      · rw [if_pos c60] at hsh
        refine lv_iconst (v := iI (0)) hx hb dX13_does_67 rfl ?_
        exact w13_does_b68 E hp hS (hl.sub [0, 1] rfl) hsh
      · rw [if_neg c60] at hsh
        refine lv_iconst (v := iI (1)) hx hb dX13_does_63 rfl ?_
        refine lv_goto (tgt := 68) hx hb dX13_does_64 (by decide) ?_
        exact w13_does_b68 E hp hS (hl.sub [0, 1] rfl) hsh
  · rw [if_neg c27] at hsh
    refine e_aload_n (B := B) (x := x0) hx hb dX13_does_30 rfl (hl.at 0 rfl) ?_
    obtain ⟨⟨v31, S31⟩, h31, hsh⟩ := Option.bind_eq_some_iff.mp hsh
    have hsh : _ = _ := hsh
    try dsimp only at hsh
    have ok31 := ok13_doesOperator h31
    refine e_callI (nL := 3) (mc := 0) (ms := 0) (T := TX13) (N := 126) (As := []) (rest := []) hx hb hml hown hts hp hS hl.size ok31.1 ok31.2.1 ok31.2.2 rfl (by decide) (c13_doesOperator l D cA B S S31 (x0) v31 h31) rfl rfl kd13_doesOperator (kl13_803) ks13_doesOperator kv13_doesOperator ki13 kh13_doesOperator ⟨Nat.le_of_ble_eq_true rfl, Nat.le_of_ble_eq_true rfl⟩ rfl (by simp [e_rv_cat, e_int_cat]) ⟨Nat.le_refl _, Nat.le_refl _⟩ dX13_does_31 rfl (fun H locs hp hS => ?_)
    refine lv_goto (tgt := 86) hx hb dX13_does_34 (by decide) ?_
    exact w13_does_b86 E hp hS (hl.sub [0, 1] rfl) hsh
set_option maxRecDepth 100000 in
set_option maxHeartbeats 4000000 in
theorem w13_does_b14 {p : Program} {l : Launch} {e : Env} {s : State} {m : MethodId} {args : Array Value} {below : List Frame} {meth : Method} {c : Code} {D : va_G} {cA : Nat → ClassId} {B : Nat} {res : Int × HP} (E : e_En p s m args meth c cX13_does RX13 3 (some .boolean)) {ls : Array Slot} {H : Heap} {locs : List Loc} {S : HP} {x0 : Int} {y0 : Int} (hp : e_Pic D cA B S s H) (hS : va_S (e_A B) s.heap H locs) (hl : e_lo ls 3 [(0, e_rv B (x0))]) (hsh : s13_does_b14 S x0 y0 = some res) : W p l e ({ frames := 10, cells := 0, slots := 0, locals := 233 } : Room) s m args below meth c H locs 0 0 (MQ below (e_Qi D cA B res.1 res.2) args s 0 0 (e_A B)) (F0 m 14 ls [.int (iI (y0))]) := by
  obtain ⟨hx, hb, hml, hown, hts, hlk, hrt⟩ := id E
  unfold s13_does_b14 at hsh
  refine e_istore_n (lv' := [(1, .int (iI (y0))), (0, e_rv B (x0))]) hx hb dX13_does_14 rfl hl (by decide) rfl (fun ls hl => ?_)
  refine lv_iload_n hx hb dX13_does_15 rfl (hl.at 0 rfl) ?_
  refine e_if_eq (tgt := 23) hx hb dX13_does_16 (by decide) (fun c16 => ?_) (fun c16 => ?_)
  · rw [if_pos c16] at hsh
    exact w13_does_b23 E hp hS (hl.sub [1, 0] rfl) hsh
  · rw [if_neg c16] at hsh
    refine e_aload_n (B := B) (x := x0) hx hb dX13_does_19 rfl (hl.at 1 rfl) ?_
    obtain ⟨S20, h20, hsh⟩ := Option.bind_eq_some_iff.mp hsh
    have ok20 := ok13_keepsSeek h20
    refine e_callV (nL := 3) (mc := 0) (ms := 0) (T := TX13) (N := 126) (As := []) (rest := []) hx hb hml hown hts hp hS hl.size ok20.1 ok20.2.1 ok20.2.2 rfl (by decide) (c13_keepsSeek l D cA B S S20 (x0) h20) rfl rfl kd13_keepsSeek (kl13_800) ks13_keepsSeek kv13_keepsSeek ki13 kh13_keepsSeek ⟨Nat.le_of_ble_eq_true rfl, Nat.le_of_ble_eq_true rfl⟩ rfl (by simp [e_rv_cat, e_int_cat]) ⟨Nat.le_refl _, Nat.le_refl _⟩ dX13_does_20 rfl (fun H locs hp hS => ?_)
    exact w13_does_b23 E hp hS (hl.sub [1, 0] rfl) hsh
set_option maxRecDepth 100000 in
set_option maxHeartbeats 4000000 in
theorem c13_does (l : Launch) (D : va_G) (cA : Nat → ClassId) (B : Nat) (S S' : HP) (x0 : Int) (r : Int) (hsh : s13_does S x0 = some (r, S')) : Met l yX13_does (e_wu yX13_does cX13_does 3 (some .boolean)) ({ frames := 10, cells := 0, slots := 0, locals := 233 } : Room) (va_Pc [e_rv B (x0)] (fun U => e_PU D cA B S U)) (e_Qi D cA B r S') 0 0 (e_A B) := by
  refine Met.ofW (cc := cX13_does) (maxL := 3) (ret := (some .boolean)) (by decide +kernel) rfl ?_
  intro p e s m args below meth c s₁ Bd hml hv
  obtain ⟨rfl, hp⟩ := hv
  have hp : e_Pic D cA B S s s.heap := hp
  have hx := Bd.exec
  have hb := Bd.bytes
  have hrt := Bd.returns
  have hlk := Bd.notSynchronized
  have hown : s.vm.findClass RX13 = some m.cls := findClass_of_methodNamed Bd.named
  have hts : ∀ w ∈ e_tb, w.before ([e_rv B (x0)] : List Value).toArray s = true := fun w h => atoms_spec (ws := (e_wu yX13_does cX13_does 3 (some .boolean))) Bd.pre w (List.mem_cons_of_mem _ h)
  have E : e_En p s m ([e_rv B (x0)] : List Value).toArray meth c cX13_does RX13 3 (some .boolean) := ⟨hx, hb, hml, hown, hts, hlk, hrt⟩
  have hS : va_S (e_A B) s.heap s.heap [] := va_S.rf
  have hl := e_entry (vs := [e_rv B (x0)]) (n := 3) (Nat.le_of_ble_eq_true rfl) (e_cc (e_rv_cat _ _) e_cn)
  rw [lg_entry_eq]
  generalize (lg_sl [e_rv B (x0)] ++ List.replicate (3 - (lg_sl [e_rv B (x0)]).length) Slot.unset).toArray = ls at hl ⊢
  generalize ([e_rv B (x0)] : List Value).toArray = args at hts E ⊢
  have hl : e_lo ls 3 [(0, e_rv B (x0))] := hl
  have hsh := (gd_some hsh).2
  refine e_aload_n (B := B) (x := x0) hx hb dX13_does_0 rfl (hl.at 0 rfl) ?_
  obtain ⟨v1, h1, hsh⟩ := Option.bind_eq_some_iff.mp hsh
  refine e_getI (k := 62) hx hb hts in_X13 hown hp h1 rfl (by decide) (by decide) rfl (hts _ kf13_615) rfl dX13_does_1 ?_
  refine lv_bipush (v := iI (47)) hx hb dX13_does_4 (by decide +kernel) ?_
  refine e_icmp_ne (tgt := 13) hx hb dX13_does_6 (by decide) (fun c6 => ?_) (fun c6 => ?_)
  · rw [if_neg c6] at hsh
    refine lv_iconst (v := iI (0)) hx hb dX13_does_13 rfl ?_
    exact w13_does_b14 E hp hS (hl.sub [0] rfl) hsh
  · rw [if_pos c6] at hsh
    refine lv_iconst (v := iI (1)) hx hb dX13_does_9 rfl ?_
    refine lv_goto (tgt := 14) hx hb dX13_does_10 (by decide) ?_
    exact w13_does_b14 E hp hS (hl.sub [0] rfl) hsh
theorem ok13_doesHere {S : HP} {x0 : Int} {r : Int × HP} (h : s13_doesHere S x0 = some r) : 0 ≤ x0 ∧ x0.toNat < e_n S ∧ e_g S x0.toNat = 13 := (gd_some h).1
set_option maxRecDepth 100000 in
set_option maxHeartbeats 4000000 in
theorem w13_doesHere_b234 {p : Program} {l : Launch} {e : Env} {s : State} {m : MethodId} {args : Array Value} {below : List Frame} {meth : Method} {c : Code} {D : va_G} {cA : Nat → ClassId} {B : Nat} {res : Int × HP} (E : e_En p s m args meth c cX13_doesHere RX13 3 (some .boolean)) {ls : Array Slot} {H : Heap} {locs : List Loc} {S : HP} {y0 : Int} {y1 : Int} (hp : e_Pic D cA B S s H) (hS : va_S (e_A B) s.heap H locs) (hl : e_lo ls 3 []) (hsh : s13_doesHere_b234 S y0 y1 = some res) : W p l e ({ frames := 9, cells := 0, slots := 0, locals := 209 } : Room) s m args below meth c H locs 0 0 (MQ below (e_Qi D cA B res.1 res.2) args s 0 0 (e_A B)) (F0 m 234 ls [.int (iI (y1)), e_rv B (y0)]) := by
  obtain ⟨hx, hb, hml, hown, hts, hlk, hrt⟩ := id E
  unfold s13_doesHere_b234 at hsh
  obtain ⟨S234, h234, hsh⟩ := Option.bind_eq_some_iff.mp hsh
  refine e_putI (k := 8) hx hb hts in_X13 tyX13 tyX13_ok nmX13 hown hp hS h234 rfl (by decide) (by decide) rfl (hts _ kf13_466) rfl rfl (by decide +kernel) dX13_doesHere_234 (fun H locs hp hS => ?_)
  refine lv_iconst (v := iI (1)) hx hb dX13_doesHere_237 rfl ?_
  obtain ⟨hz, hz1, hz2⟩ := zR_some hsh
  rw [← hz1, ← hz2]
  exact e_zret hx hb hrt hlk hp hS hz dX13_doesHere_238
set_option maxRecDepth 100000 in
set_option maxHeartbeats 4000000 in
theorem w13_doesHere_b219 {p : Program} {l : Launch} {e : Env} {s : State} {m : MethodId} {args : Array Value} {below : List Frame} {meth : Method} {c : Code} {D : va_G} {cA : Nat → ClassId} {B : Nat} {res : Int × HP} (E : e_En p s m args meth c cX13_doesHere RX13 3 (some .boolean)) {ls : Array Slot} {H : Heap} {locs : List Loc} {S : HP} {x0 : Int} {y0 : Int} (hp : e_Pic D cA B S s H) (hS : va_S (e_A B) s.heap H locs) (hl : e_lo ls 3 [(0, e_rv B (x0))]) (hsh : s13_doesHere_b219 S x0 y0 = some res) : W p l e ({ frames := 9, cells := 0, slots := 0, locals := 209 } : Room) s m args below meth c H locs 0 0 (MQ below (e_Qi D cA B res.1 res.2) args s 0 0 (e_A B)) (F0 m 219 ls [.int (iI (y0))]) := by
  obtain ⟨hx, hb, hml, hown, hts, hlk, hrt⟩ := id E
  unfold s13_doesHere_b219 at hsh
  refine e_istore_n (lv' := [(2, .int (iI (y0))), (0, e_rv B (x0))]) hx hb dX13_doesHere_219 rfl hl (by decide) rfl (fun ls hl => ?_)
  refine e_aload_n (B := B) (x := x0) hx hb dX13_doesHere_220 rfl (hl.at 1 rfl) ?_
  refine e_aload_n (B := B) (x := x0) hx hb dX13_doesHere_221 rfl (hl.at 1 rfl) ?_
  obtain ⟨v222, h222, hsh⟩ := Option.bind_eq_some_iff.mp hsh
  refine e_getI (k := 8) hx hb hts in_X13 hown hp h222 rfl (by decide) (by decide) rfl (hts _ kf13_466) rfl dX13_doesHere_222 ?_
  refine lv_iload_n hx hb dX13_doesHere_225 rfl (hl.at 0 rfl) ?_
  refine e_icmp_ne (tgt := 233) hx hb dX13_doesHere_226 (by decide) (fun c226 => ?_) (fun c226 => ?_)
  · rw [if_neg c226] at hsh
    refine lv_iload_n hx hb dX13_doesHere_233 rfl (hl.at 0 rfl) ?_
    exact w13_doesHere_b234 E hp hS (hl.sub [] rfl) hsh
  · rw [if_pos c226] at hsh
    refine lv_iconst (v := iI (0)) hx hb dX13_doesHere_229 rfl ?_
    refine lv_goto (tgt := 234) hx hb dX13_doesHere_230 (by decide) ?_
    exact w13_doesHere_b234 E hp hS (hl.sub [] rfl) hsh
set_option maxRecDepth 100000 in
set_option maxHeartbeats 4000000 in
theorem w13_doesHere_b192 {p : Program} {l : Launch} {e : Env} {s : State} {m : MethodId} {args : Array Value} {below : List Frame} {meth : Method} {c : Code} {D : va_G} {cA : Nat → ClassId} {B : Nat} {res : Int × HP} (E : e_En p s m args meth c cX13_doesHere RX13 3 (some .boolean)) {ls : Array Slot} {H : Heap} {locs : List Loc} {S : HP} {x0 : Int} (hp : e_Pic D cA B S s H) (hS : va_S (e_A B) s.heap H locs) (hl : e_lo ls 3 [(0, e_rv B (x0))]) (hsh : s13_doesHere_b192 S x0 = some res) : W p l e ({ frames := 9, cells := 0, slots := 0, locals := 209 } : Room) s m args below meth c H locs 0 0 (MQ below (e_Qi D cA B res.1 res.2) args s 0 0 (e_A B)) (F0 m 192 ls []) := by
  obtain ⟨hx, hb, hml, hown, hts, hlk, hrt⟩ := id E
  unfold s13_doesHere_b192 at hsh
  refine e_aload_n (B := B) (x := x0) hx hb dX13_doesHere_192 rfl (hl.at 0 rfl) ?_
  obtain ⟨v193, h193, hsh⟩ := Option.bind_eq_some_iff.mp hsh
  refine e_getI (k := 62) hx hb hts in_X13 hown hp h193 rfl (by decide) (by decide) rfl (hts _ kf13_615) rfl dX13_doesHere_193 ?_
  refine lv_bipush (v := iI (118)) hx hb dX13_doesHere_196 (by decide +kernel) ?_
  refine e_icmp_ne (tgt := 205) hx hb dX13_doesHere_198 (by decide) (fun c198 => ?_) (fun c198 => ?_)
  · rw [if_neg c198] at hsh
    refine e_aload_n (B := B) (x := x0) hx hb dX13_doesHere_205 rfl (hl.at 0 rfl) ?_
    obtain ⟨v206, h206, hsh⟩ := Option.bind_eq_some_iff.mp hsh
    refine e_getI (k := 62) hx hb hts in_X13 hown hp h206 rfl (by decide) (by decide) rfl (hts _ kf13_615) rfl dX13_doesHere_206 ?_
    refine lv_bipush (v := iI (86)) hx hb dX13_doesHere_209 (by decide +kernel) ?_
    refine e_icmp_ne (tgt := 218) hx hb dX13_doesHere_211 (by decide) (fun c211 => ?_) (fun c211 => ?_)
    · rw [if_neg c211] at hsh
      refine lv_iconst (v := iI (4)) hx hb dX13_doesHere_218 rfl ?_
      exact w13_doesHere_b219 E hp hS (hl.sub [0] rfl) hsh
    · rw [if_pos c211] at hsh
      refine lv_iconst (v := iI (3)) hx hb dX13_doesHere_214 rfl ?_
      refine lv_goto (tgt := 219) hx hb dX13_doesHere_215 (by decide) ?_
      exact w13_doesHere_b219 E hp hS (hl.sub [0] rfl) hsh
  · rw [if_pos c198] at hsh
    refine lv_iconst (v := iI (2)) hx hb dX13_doesHere_201 rfl ?_
    refine lv_goto (tgt := 219) hx hb dX13_doesHere_202 (by decide) ?_
    exact w13_doesHere_b219 E hp hS (hl.sub [0] rfl) hsh
set_option maxRecDepth 100000 in
set_option maxHeartbeats 4000000 in
theorem w13_doesHere_b126 {p : Program} {l : Launch} {e : Env} {s : State} {m : MethodId} {args : Array Value} {below : List Frame} {meth : Method} {c : Code} {D : va_G} {cA : Nat → ClassId} {B : Nat} {res : Int × HP} (E : e_En p s m args meth c cX13_doesHere RX13 3 (some .boolean)) {ls : Array Slot} {H : Heap} {locs : List Loc} {S : HP} {x2 : Int} (hp : e_Pic D cA B S s H) (hS : va_S (e_A B) s.heap H locs) (hl : e_lo ls 3 [(2, .int (iI (x2)))]) (hsh : s13_doesHere_b126 S x2 = some res) : W p l e ({ frames := 9, cells := 0, slots := 0, locals := 209 } : Room) s m args below meth c H locs 0 0 (MQ below (e_Qi D cA B res.1 res.2) args s 0 0 (e_A B)) (F0 m 126 ls []) := by
  obtain ⟨hx, hb, hml, hown, hts, hlk, hrt⟩ := id E
  unfold s13_doesHere_b126 at hsh
  refine lv_iload_n hx hb dX13_doesHere_126 rfl (hl.at 0 rfl) ?_
  obtain ⟨hz, hz1, hz2⟩ := zR_some hsh
  rw [← hz1, ← hz2]
  exact e_zret hx hb hrt hlk hp hS hz dX13_doesHere_127
set_option maxRecDepth 100000 in
set_option maxHeartbeats 4000000 in
theorem w13_doesHere_b110 {p : Program} {l : Launch} {e : Env} {s : State} {m : MethodId} {args : Array Value} {below : List Frame} {meth : Method} {c : Code} {D : va_G} {cA : Nat → ClassId} {B : Nat} {res : Int × HP} (E : e_En p s m args meth c cX13_doesHere RX13 3 (some .boolean)) {ls : Array Slot} {H : Heap} {locs : List Loc} {S : HP} {x0 : Int} {x2 : Int} (hp : e_Pic D cA B S s H) (hS : va_S (e_A B) s.heap H locs) (hl : e_lo ls 3 [(0, e_rv B (x0)), (2, .int (iI (x2)))]) (hsh : s13_doesHere_b110 S x0 x2 = some res) : W p l e ({ frames := 9, cells := 0, slots := 0, locals := 209 } : Room) s m args below meth c H locs 0 0 (MQ below (e_Qi D cA B res.1 res.2) args s 0 0 (e_A B)) (F0 m 110 ls []) := by
  obtain ⟨hx, hb, hml, hown, hts, hlk, hrt⟩ := id E
  unfold s13_doesHere_b110 at hsh
  refine e_aload_n (B := B) (x := x0) hx hb dX13_doesHere_110 rfl (hl.at 0 rfl) ?_
  refine e_aload_n (B := B) (x := x0) hx hb dX13_doesHere_111 rfl (hl.at 0 rfl) ?_
  obtain ⟨v112, h112, hsh⟩ := Option.bind_eq_some_iff.mp hsh
  refine e_getI (k := 62) hx hb hts in_X13 hown hp h112 rfl (by decide) (by decide) rfl (hts _ kf13_615) rfl dX13_doesHere_112 ?_
  obtain ⟨S115, h115, hsh⟩ := Option.bind_eq_some_iff.mp hsh
  refine e_putI (k := 49) hx hb hts in_X13 tyX13 tyX13_ok nmX13 hown hp hS h115 rfl (by decide) (by decide) rfl (hts _ kf13_371) rfl rfl (by decide +kernel) dX13_doesHere_115 (fun H locs hp hS => ?_)
  refine e_aload_n (B := B) (x := x0) hx hb dX13_doesHere_118 rfl (hl.at 0 rfl) ?_
  refine e_aload_n (B := B) (x := x0) hx hb dX13_doesHere_119 rfl (hl.at 0 rfl) ?_
  obtain ⟨v120, h120, hsh⟩ := Option.bind_eq_some_iff.mp hsh
  refine e_getI (k := 63) hx hb hts in_X13 hown hp h120 rfl (by decide) (by decide) rfl (hts _ kf13_612) rfl dX13_doesHere_120 ?_
  obtain ⟨S123, h123, hsh⟩ := Option.bind_eq_some_iff.mp hsh
  refine e_putI (k := 50) hx hb hts in_X13 tyX13 tyX13_ok nmX13 hown hp hS h123 rfl (by decide) (by decide) rfl (hts _ kf13_374) rfl rfl (by decide +kernel) dX13_doesHere_123 (fun H locs hp hS => ?_)
  exact w13_doesHere_b126 E hp hS (hl.sub [1] rfl) hsh
set_option maxRecDepth 100000 in
set_option maxHeartbeats 4000000 in
theorem w13_doesHere_b70 {p : Program} {l : Launch} {e : Env} {s : State} {m : MethodId} {args : Array Value} {below : List Frame} {meth : Method} {c : Code} {D : va_G} {cA : Nat → ClassId} {B : Nat} {res : Int × HP} (E : e_En p s m args meth c cX13_doesHere RX13 3 (some .boolean)) {ls : Array Slot} {H : Heap} {locs : List Loc} {S : HP} {x0 : Int} {x2 : Int} (hp : e_Pic D cA B S s H) (hS : va_S (e_A B) s.heap H locs) (hl : e_lo ls 3 [(0, e_rv B (x0)), (2, .int (iI (x2)))]) (hsh : s13_doesHere_b70 S x0 x2 = some res) : W p l e ({ frames := 9, cells := 0, slots := 0, locals := 209 } : Room) s m args below meth c H locs 0 0 (MQ below (e_Qi D cA B res.1 res.2) args s 0 0 (e_A B)) (F0 m 70 ls []) := by
  obtain ⟨hx, hb, hml, hown, hts, hlk, hrt⟩ := id E
  unfold s13_doesHere_b70 at hsh
  refine lv_iload_n hx hb dX13_doesHere_70 rfl (hl.at 1 rfl) ?_
  refine e_if_eq (tgt := 126) hx hb dX13_doesHere_71 (by decide) (fun c71 => ?_) (fun c71 => ?_)
  · rw [if_pos c71] at hsh
    exact w13_doesHere_b126 E hp hS (hl.sub [1] rfl) hsh
  · rw [if_neg c71] at hsh
    refine e_aload_n (B := B) (x := x0) hx hb dX13_doesHere_74 rfl (hl.at 0 rfl) ?_
    obtain ⟨v75, h75, hsh⟩ := Option.bind_eq_some_iff.mp hsh
    refine e_getI (k := 62) hx hb hts in_X13 hown hp h75 rfl (by decide) (by decide) rfl (hts _ kf13_615) rfl dX13_doesHere_75 ?_
    refine lv_bipush (v := iI (102)) hx hb dX13_doesHere_78 (by decide +kernel) ?_
    refine e_icmp_eq (tgt := 110) hx hb dX13_doesHere_80 (by decide) (fun c80 => ?_) (fun c80 => ?_)
    · rw [if_pos c80] at hsh
      exact w13_doesHere_b110 E hp hS (hl.sub [0, 1] rfl) hsh
    · rw [if_neg c80] at hsh
      refine e_aload_n (B := B) (x := x0) hx hb dX13_doesHere_83 rfl (hl.at 0 rfl) ?_
      obtain ⟨v84, h84, hsh⟩ := Option.bind_eq_some_iff.mp hsh
      refine e_getI (k := 62) hx hb hts in_X13 hown hp h84 rfl (by decide) (by decide) rfl (hts _ kf13_615) rfl dX13_doesHere_84 ?_
      refine lv_bipush (v := iI (116)) hx hb dX13_doesHere_87 (by decide +kernel) ?_
      refine e_icmp_eq (tgt := 110) hx hb dX13_doesHere_89 (by decide) (fun c89 => ?_) (fun c89 => ?_)
      · rw [if_pos c89] at hsh
        exact w13_doesHere_b110 E hp hS (hl.sub [0, 1] rfl) hsh
      · rw [if_neg c89] at hsh
        refine e_aload_n (B := B) (x := x0) hx hb dX13_doesHere_92 rfl (hl.at 0 rfl) ?_
        obtain ⟨v93, h93, hsh⟩ := Option.bind_eq_some_iff.mp hsh
        refine e_getI (k := 62) hx hb hts in_X13 hown hp h93 rfl (by decide) (by decide) rfl (hts _ kf13_615) rfl dX13_doesHere_93 ?_
        refine lv_bipush (v := iI (70)) hx hb dX13_doesHere_96 (by decide +kernel) ?_
        refine e_icmp_eq (tgt := 110) hx hb dX13_doesHere_98 (by decide) (fun c98 => ?_) (fun c98 => ?_)
        · rw [if_pos c98] at hsh
          exact w13_doesHere_b110 E hp hS (hl.sub [0, 1] rfl) hsh
        · rw [if_neg c98] at hsh
          refine e_aload_n (B := B) (x := x0) hx hb dX13_doesHere_101 rfl (hl.at 0 rfl) ?_
          obtain ⟨v102, h102, hsh⟩ := Option.bind_eq_some_iff.mp hsh
          refine e_getI (k := 62) hx hb hts in_X13 hown hp h102 rfl (by decide) (by decide) rfl (hts _ kf13_615) rfl dX13_doesHere_102 ?_
          refine lv_bipush (v := iI (84)) hx hb dX13_doesHere_105 (by decide +kernel) ?_
          refine e_icmp_ne (tgt := 126) hx hb dX13_doesHere_107 (by decide) (fun c107 => ?_) (fun c107 => ?_)
          · rw [if_neg c107] at hsh
            exact w13_doesHere_b126 E hp hS (hl.sub [1] rfl) hsh
          · rw [if_pos c107] at hsh
            exact w13_doesHere_b110 E hp hS (hl.sub [0, 1] rfl) hsh
set_option maxRecDepth 100000 in
set_option maxHeartbeats 4000000 in
theorem w13_doesHere_b54 {p : Program} {l : Launch} {e : Env} {s : State} {m : MethodId} {args : Array Value} {below : List Frame} {meth : Method} {c : Code} {D : va_G} {cA : Nat → ClassId} {B : Nat} {res : Int × HP} (E : e_En p s m args meth c cX13_doesHere RX13 3 (some .boolean)) {ls : Array Slot} {H : Heap} {locs : List Loc} {S : HP} {x0 : Int} {x1 : Int} {y0 : Int} {y1 : Int} {y2 : Int} (hp : e_Pic D cA B S s H) (hS : va_S (e_A B) s.heap H locs) (hl : e_lo ls 3 [(0, e_rv B (x0)), (1, .int (iI (x1)))]) (hsh : s13_doesHere_b54 S x0 x1 y0 y1 y2 = some res) : W p l e ({ frames := 9, cells := 0, slots := 0, locals := 209 } : Room) s m args below meth c H locs 0 0 (MQ below (e_Qi D cA B res.1 res.2) args s 0 0 (e_A B)) (F0 m 54 ls [.int (iI (y2)), .int (iI (y1)), e_rv B (y0)]) := by
  obtain ⟨hx, hb, hml, hown, hts, hlk, hrt⟩ := id E
  unfold s13_doesHere_b54 at hsh
  obtain ⟨⟨v54, S54⟩, h54, hsh⟩ := Option.bind_eq_some_iff.mp hsh
  have hsh : _ = _ := hsh
  try dsimp only at hsh
  have ok54 := ok13_goesMotion h54
  refine e_callI (nL := 3) (mc := 0) (ms := 0) (T := TX13) (N := 126) (As := [.int (iI (y1)), .int (iI (y2))]) (rest := []) hx hb hml hown hts hp hS hl.size ok54.1 ok54.2.1 ok54.2.2 rfl (by decide) (c13_goesMotion l D cA B S S54 (y0) (y1) (y2) v54 h54) rfl rfl kd13_goesMotion (kl13_806) ks13_goesMotion kv13_goesMotion ki13 kh13_goesMotion ⟨Nat.le_of_ble_eq_true rfl, Nat.le_of_ble_eq_true rfl⟩ rfl (by simp [e_rv_cat, e_int_cat]) ⟨Nat.le_refl _, Nat.le_refl _⟩ dX13_doesHere_54 rfl (fun H locs hp hS => ?_)
  refine e_istore_n (lv' := [(2, .int (iI (v54))), (0, e_rv B (x0)), (1, .int (iI (x1)))]) hx hb dX13_doesHere_57 rfl hl (by decide) rfl (fun ls hl => ?_)
  refine lv_iload_n hx hb dX13_doesHere_58 rfl (hl.at 2 rfl) ?_
  refine e_if_eq (tgt := 70) hx hb dX13_doesHere_59 (by decide) (fun c59 => ?_) (fun c59 => ?_)
  · rw [if_pos c59] at hsh
    exact w13_doesHere_b70 E hp hS (hl.sub [1, 0] rfl) hsh
  · rw [if_neg c59] at hsh
    refine lv_iload_n hx hb dX13_doesHere_62 rfl (hl.at 0 rfl) ?_
    refine e_if_ne (tgt := 70) hx hb dX13_doesHere_63 (by decide) (fun c63 => ?_) (fun c63 => ?_)
    · rw [if_neg c63] at hsh
      exact w13_doesHere_b70 E hp hS (hl.sub [1, 0] rfl) hsh
    · rw [if_pos c63] at hsh
      refine e_aload_n (B := B) (x := x0) hx hb dX13_doesHere_66 rfl (hl.at 1 rfl) ?_
      obtain ⟨S67, h67, hsh⟩ := Option.bind_eq_some_iff.mp hsh
      have ok67 := ok13_restoresSeek h67
      refine e_callV (nL := 3) (mc := 0) (ms := 0) (T := TX13) (N := 126) (As := []) (rest := []) hx hb hml hown hts hp hS hl.size ok67.1 ok67.2.1 ok67.2.2 rfl (by decide) (c13_restoresSeek l D cA B S54 S67 (x0) h67) rfl rfl kd13_restoresSeek (kl13_812) ks13_restoresSeek kv13_restoresSeek ki13 kh13_restoresSeek ⟨Nat.le_of_ble_eq_true rfl, Nat.le_of_ble_eq_true rfl⟩ rfl (by simp [e_rv_cat, e_int_cat]) ⟨Nat.le_refl _, Nat.le_refl _⟩ dX13_doesHere_67 rfl (fun H locs hp hS => ?_)
      exact w13_doesHere_b70 E hp hS (hl.sub [1, 0] rfl) hsh
set_option maxRecDepth 100000 in
set_option maxHeartbeats 4000000 in
theorem w13_doesHere_b23 {p : Program} {l : Launch} {e : Env} {s : State} {m : MethodId} {args : Array Value} {below : List Frame} {meth : Method} {c : Code} {D : va_G} {cA : Nat → ClassId} {B : Nat} {res : Int × HP} (E : e_En p s m args meth c cX13_doesHere RX13 3 (some .boolean)) {ls : Array Slot} {H : Heap} {locs : List Loc} {S : HP} {x0 : Int} {x1 : Int} (hp : e_Pic D cA B S s H) (hS : va_S (e_A B) s.heap H locs) (hl : e_lo ls 3 [(0, e_rv B (x0)), (1, .int (iI (x1)))]) (hsh : s13_doesHere_b23 S x0 x1 = some res) : W p l e ({ frames := 9, cells := 0, slots := 0, locals := 209 } : Room) s m args below meth c H locs 0 0 (MQ below (e_Qi D cA B res.1 res.2) args s 0 0 (e_A B)) (F0 m 23 ls []) := by
  obtain ⟨hx, hb, hml, hown, hts, hlk, hrt⟩ := id E
  unfold s13_doesHere_b23 at hsh
  refine e_aload_n (B := B) (x := x0) hx hb dX13_doesHere_23 rfl (hl.at 0 rfl) ?_
  obtain ⟨v24, h24, hsh⟩ := Option.bind_eq_some_iff.mp hsh
  refine e_getI (k := 62) hx hb hts in_X13 hown hp h24 rfl (by decide) (by decide) rfl (hts _ kf13_615) rfl dX13_doesHere_24 ?_
  obtain ⟨⟨v27, S27⟩, h27, hsh⟩ := Option.bind_eq_some_iff.mp hsh
  have hsh : _ = _ := hsh
  try dsimp only at hsh
  refine e_callS (nL := 3) (mc := 0) (ms := 0) (As := [.int (iI (v24))]) (rest := []) hx hb hml hown hts hp hS hl.size (c13_isMotion l D cA B S S27 (v24) v27 h27) rfl rfl kd13_isMotion (kl13_636) ks13_isMotion ki13 kh13_isMotion ⟨Nat.le_of_ble_eq_true rfl, Nat.le_of_ble_eq_true rfl⟩ rfl (by simp [e_rv_cat, e_int_cat]) ⟨Nat.le_refl _, Nat.le_refl _⟩ dX13_doesHere_27 rfl (fun H locs hp hS => ?_)
  refine e_if_eq (tgt := 128) hx hb dX13_doesHere_30 (by decide) (fun c30 => ?_) (fun c30 => ?_)
  · rw [if_pos c30] at hsh
    refine e_aload_n (B := B) (x := x0) hx hb dX13_doesHere_128 rfl (hl.at 0 rfl) ?_
    obtain ⟨v129, h129, hsh⟩ := Option.bind_eq_some_iff.mp hsh
    refine e_getI (k := 62) hx hb hts in_X13 hown hp h129 rfl (by decide) (by decide) rfl (hts _ kf13_615) rfl dX13_doesHere_129 ?_
    refine lv_sipush (v := iI (1024)) hx hb dX13_doesHere_132 (by decide +kernel) ?_
    refine e_icmp_ne (tgt := 151) hx hb dX13_doesHere_135 (by decide) (fun c135 => ?_) (fun c135 => ?_)
    · rw [if_neg c135] at hsh
      refine e_aload_n (B := B) (x := x0) hx hb dX13_doesHere_151 rfl (hl.at 0 rfl) ?_
      obtain ⟨v152, h152, hsh⟩ := Option.bind_eq_some_iff.mp hsh
      refine e_getI (k := 62) hx hb hts in_X13 hown hp h152 rfl (by decide) (by decide) rfl (hts _ kf13_615) rfl dX13_doesHere_152 ?_
      refine lv_bipush (v := iI (111)) hx hb dX13_doesHere_155 (by decide +kernel) ?_
      refine e_icmp_ne (tgt := 165) hx hb dX13_doesHere_157 (by decide) (fun c157 => ?_) (fun c157 => ?_)
      · rw [if_neg c157] at hsh
        refine e_aload_n (B := B) (x := x0) hx hb dX13_doesHere_165 rfl (hl.at 0 rfl) ?_
        obtain ⟨v166, h166, hsh⟩ := Option.bind_eq_some_iff.mp hsh
        refine e_getI (k := 62) hx hb hts in_X13 hown hp h166 rfl (by decide) (by decide) rfl (hts _ kf13_615) rfl dX13_doesHere_166 ?_
        refine lv_bipush (v := iI (118)) hx hb dX13_doesHere_169 (by decide +kernel) ?_
        refine e_icmp_eq (tgt := 192) hx hb dX13_doesHere_171 (by decide) (fun c171 => ?_) (fun c171 => ?_)
        · rw [if_pos c171] at hsh
          exact w13_doesHere_b192 E hp hS (hl.sub [0] rfl) hsh
        · rw [if_neg c171] at hsh
          refine e_aload_n (B := B) (x := x0) hx hb dX13_doesHere_174 rfl (hl.at 0 rfl) ?_
          obtain ⟨v175, h175, hsh⟩ := Option.bind_eq_some_iff.mp hsh
          refine e_getI (k := 62) hx hb hts in_X13 hown hp h175 rfl (by decide) (by decide) rfl (hts _ kf13_615) rfl dX13_doesHere_175 ?_
          refine lv_bipush (v := iI (86)) hx hb dX13_doesHere_178 (by decide +kernel) ?_
          refine e_icmp_eq (tgt := 192) hx hb dX13_doesHere_180 (by decide) (fun c180 => ?_) (fun c180 => ?_)
          · rw [if_pos c180] at hsh
            exact w13_doesHere_b192 E hp hS (hl.sub [0] rfl) hsh
          · rw [if_neg c180] at hsh
            refine e_aload_n (B := B) (x := x0) hx hb dX13_doesHere_183 rfl (hl.at 0 rfl) ?_
            obtain ⟨v184, h184, hsh⟩ := Option.bind_eq_some_iff.mp hsh
            refine e_getI (k := 62) hx hb hts in_X13 hown hp h184 rfl (by decide) (by decide) rfl (hts _ kf13_615) rfl dX13_doesHere_184 ?_
            refine lv_bipush (v := iI (22)) hx hb dX13_doesHere_187 (by decide +kernel) ?_
            refine e_icmp_ne (tgt := 239) hx hb dX13_doesHere_189 (by decide) (fun c189 => ?_) (fun c189 => ?_)
            · rw [if_neg c189] at hsh
              refine e_aload_n (B := B) (x := x0) hx hb dX13_doesHere_239 rfl (hl.at 0 rfl) ?_
              obtain ⟨⟨v240, S240⟩, h240, hsh⟩ := Option.bind_eq_some_iff.mp hsh
              have hsh : _ = _ := hsh
              try dsimp only at hsh
              have ok240 := ok13_endsSelection h240
              refine e_callI (nL := 3) (mc := 0) (ms := 0) (T := TX13) (N := 126) (As := []) (rest := []) hx hb hml hown hts hp hS hl.size ok240.1 ok240.2.1 ok240.2.2 rfl (by decide) (c13_endsSelection l D cA B S27 S240 (x0) v240 h240) rfl rfl kd13_endsSelection (kl13_846) ks13_endsSelection kv13_endsSelection ki13 kh13_endsSelection ⟨Nat.le_of_ble_eq_true rfl, Nat.le_of_ble_eq_true rfl⟩ rfl (by simp [e_rv_cat, e_int_cat]) ⟨Nat.le_refl _, Nat.le_refl _⟩ dX13_doesHere_240 rfl (fun H locs hp hS => ?_)
              obtain ⟨hz, hz1, hz2⟩ := zR_some hsh
              rw [← hz1, ← hz2]
              exact e_zret hx hb hrt hlk hp hS hz dX13_doesHere_243
            · rw [if_pos c189] at hsh
              exact w13_doesHere_b192 E hp hS (hl.sub [0] rfl) hsh
      · rw [if_pos c157] at hsh
        refine e_aload_n (B := B) (x := x0) hx hb dX13_doesHere_160 rfl (hl.at 0 rfl) ?_
        obtain ⟨⟨v161, S161⟩, h161, hsh⟩ := Option.bind_eq_some_iff.mp hsh
        have hsh : _ = _ := hsh
        try dsimp only at hsh
        have ok161 := ok13_exchanges h161
        refine e_callI (nL := 3) (mc := 0) (ms := 0) (T := TX13) (N := 126) (As := []) (rest := []) hx hb hml hown hts hp hS hl.size ok161.1 ok161.2.1 ok161.2.2 rfl (by decide) (c13_exchanges l D cA B S27 S161 (x0) v161 h161) rfl rfl kd13_exchanges (kl13_843) ks13_exchanges kv13_exchanges ki13 kh13_exchanges ⟨Nat.le_of_ble_eq_true rfl, Nat.le_of_ble_eq_true rfl⟩ rfl (by simp [e_rv_cat, e_int_cat]) ⟨Nat.le_refl _, Nat.le_refl _⟩ dX13_doesHere_161 rfl (fun H locs hp hS => ?_)
        obtain ⟨hz, hz1, hz2⟩ := zR_some hsh
        rw [← hz1, ← hz2]
        exact e_zret hx hb hrt hlk hp hS hz dX13_doesHere_164
    · rw [if_pos c135] at hsh
      refine e_aload_n (B := B) (x := x0) hx hb dX13_doesHere_138 rfl (hl.at 0 rfl) ?_
      refine lv_iconst (v := iI (1)) hx hb dX13_doesHere_139 rfl ?_
      refine e_aload_n (B := B) (x := x0) hx hb dX13_doesHere_140 rfl (hl.at 0 rfl) ?_
      obtain ⟨v141, h141, hsh⟩ := Option.bind_eq_some_iff.mp hsh
      refine e_getI (k := 59) hx hb hts in_X13 hown hp h141 rfl (by decide) (by decide) rfl (hts _ kf13_654) rfl dX13_doesHere_141 ?_
      obtain ⟨⟨v144, S144⟩, h144, hsh⟩ := Option.bind_eq_some_iff.mp hsh
      have hsh : _ = _ := hsh
      try dsimp only at hsh
      refine e_callS (nL := 3) (mc := 0) (ms := 0) (As := [.int (iI (1)), .int (iI (v141))]) (rest := [e_rv B (x0)]) hx hb hml hown hts hp hS hl.size (c13_greater l D cA B S27 S144 (1) (v141) v144 h144) rfl rfl kd13_greater (kl13_210) ks13_greater ki13 kh13_greater ⟨Nat.le_of_ble_eq_true rfl, Nat.le_of_ble_eq_true rfl⟩ rfl (by simp [e_rv_cat, e_int_cat]) ⟨Nat.le_refl _, Nat.le_refl _⟩ dX13_doesHere_144 rfl (fun H locs hp hS => ?_)
      obtain ⟨⟨v147, S147⟩, h147, hsh⟩ := Option.bind_eq_some_iff.mp hsh
      have hsh : _ = _ := hsh
      try dsimp only at hsh
      have ok147 := ok13_selectsObject h147
      refine e_callI (nL := 3) (mc := 0) (ms := 0) (T := TX13) (N := 126) (As := [.int (iI (v144))]) (rest := []) hx hb hml hown hts hp hS hl.size ok147.1 ok147.2.1 ok147.2.2 rfl (by decide) (c13_selectsObject l D cA B S144 S147 (x0) (v144) v147 h147) rfl rfl kd13_selectsObject (kl13_840) ks13_selectsObject kv13_selectsObject ki13 kh13_selectsObject ⟨Nat.le_of_ble_eq_true rfl, Nat.le_of_ble_eq_true rfl⟩ rfl (by simp [e_rv_cat, e_int_cat]) ⟨Nat.le_refl _, Nat.le_refl _⟩ dX13_doesHere_147 rfl (fun H locs hp hS => ?_)
      obtain ⟨hz, hz1, hz2⟩ := zR_some hsh
      rw [← hz1, ← hz2]
      exact e_zret hx hb hrt hlk hp hS hz dX13_doesHere_150
  · rw [if_neg c30] at hsh
    refine e_aload_n (B := B) (x := x0) hx hb dX13_doesHere_33 rfl (hl.at 0 rfl) ?_
    refine lv_iconst (v := iI (1)) hx hb dX13_doesHere_34 rfl ?_
    refine e_aload_n (B := B) (x := x0) hx hb dX13_doesHere_35 rfl (hl.at 0 rfl) ?_
    obtain ⟨v36, h36, hsh⟩ := Option.bind_eq_some_iff.mp hsh
    refine e_getI (k := 59) hx hb hts in_X13 hown hp h36 rfl (by decide) (by decide) rfl (hts _ kf13_654) rfl dX13_doesHere_36 ?_
    obtain ⟨⟨v39, S39⟩, h39, hsh⟩ := Option.bind_eq_some_iff.mp hsh
    have hsh : _ = _ := hsh
    try dsimp only at hsh
    refine e_callS (nL := 3) (mc := 0) (ms := 0) (As := [.int (iI (1)), .int (iI (v36))]) (rest := [e_rv B (x0)]) hx hb hml hown hts hp hS hl.size (c13_greater l D cA B S27 S39 (1) (v36) v39 h39) rfl rfl kd13_greater (kl13_210) ks13_greater ki13 kh13_greater ⟨Nat.le_of_ble_eq_true rfl, Nat.le_of_ble_eq_true rfl⟩ rfl (by simp [e_rv_cat, e_int_cat]) ⟨Nat.le_refl _, Nat.le_refl _⟩ dX13_doesHere_39 rfl (fun H locs hp hS => ?_)
    refine e_aload_n (B := B) (x := x0) hx hb dX13_doesHere_42 rfl (hl.at 0 rfl) ?_
    obtain ⟨v43, h43, hsh⟩ := Option.bind_eq_some_iff.mp hsh
    refine e_getI (k := 59) hx hb hts in_X13 hown hp h43 rfl (by decide) (by decide) rfl (hts _ kf13_654) rfl dX13_doesHere_43 ?_
    refine e_if_le (tgt := 53) hx hb dX13_doesHere_46 (by decide) (fun c46 => ?_) (fun c46 => ?_)
    · rw [if_pos c46] at hsh
      refine lv_iconst (v := iI (0)) hx hb dX13_doesHere_53 rfl ?_
      exact w13_doesHere_b54 E hp hS (hl.sub [0, 1] rfl) hsh
    · rw [if_neg c46] at hsh
      refine lv_iconst (v := iI (1)) hx hb dX13_doesHere_49 rfl ?_
      refine lv_goto (tgt := 54) hx hb dX13_doesHere_50 (by decide) ?_
      exact w13_doesHere_b54 E hp hS (hl.sub [0, 1] rfl) hsh
set_option maxRecDepth 100000 in
set_option maxHeartbeats 4000000 in
theorem w13_doesHere_b14 {p : Program} {l : Launch} {e : Env} {s : State} {m : MethodId} {args : Array Value} {below : List Frame} {meth : Method} {c : Code} {D : va_G} {cA : Nat → ClassId} {B : Nat} {res : Int × HP} (E : e_En p s m args meth c cX13_doesHere RX13 3 (some .boolean)) {ls : Array Slot} {H : Heap} {locs : List Loc} {S : HP} {x0 : Int} {y0 : Int} (hp : e_Pic D cA B S s H) (hS : va_S (e_A B) s.heap H locs) (hl : e_lo ls 3 [(0, e_rv B (x0))]) (hsh : s13_doesHere_b14 S x0 y0 = some res) : W p l e ({ frames := 9, cells := 0, slots := 0, locals := 209 } : Room) s m args below meth c H locs 0 0 (MQ below (e_Qi D cA B res.1 res.2) args s 0 0 (e_A B)) (F0 m 14 ls [.int (iI (y0))]) := by
  obtain ⟨hx, hb, hml, hown, hts, hlk, hrt⟩ := id E
  unfold s13_doesHere_b14 at hsh
  refine e_istore_n (lv' := [(1, .int (iI (y0))), (0, e_rv B (x0))]) hx hb dX13_doesHere_14 rfl hl (by decide) rfl (fun ls hl => ?_)
  refine lv_iload_n hx hb dX13_doesHere_15 rfl (hl.at 0 rfl) ?_
  refine e_if_eq (tgt := 23) hx hb dX13_doesHere_16 (by decide) (fun c16 => ?_) (fun c16 => ?_)
  · rw [if_pos c16] at hsh
    exact w13_doesHere_b23 E hp hS (hl.sub [1, 0] rfl) hsh
  · rw [if_neg c16] at hsh
    refine e_aload_n (B := B) (x := x0) hx hb dX13_doesHere_19 rfl (hl.at 1 rfl) ?_
    obtain ⟨S20, h20, hsh⟩ := Option.bind_eq_some_iff.mp hsh
    have ok20 := ok13_keepsSeek h20
    refine e_callV (nL := 3) (mc := 0) (ms := 0) (T := TX13) (N := 126) (As := []) (rest := []) hx hb hml hown hts hp hS hl.size ok20.1 ok20.2.1 ok20.2.2 rfl (by decide) (c13_keepsSeek l D cA B S S20 (x0) h20) rfl rfl kd13_keepsSeek (kl13_800) ks13_keepsSeek kv13_keepsSeek ki13 kh13_keepsSeek ⟨Nat.le_of_ble_eq_true rfl, Nat.le_of_ble_eq_true rfl⟩ rfl (by simp [e_rv_cat, e_int_cat]) ⟨Nat.le_refl _, Nat.le_refl _⟩ dX13_doesHere_20 rfl (fun H locs hp hS => ?_)
    exact w13_doesHere_b23 E hp hS (hl.sub [1, 0] rfl) hsh
set_option maxRecDepth 100000 in
set_option maxHeartbeats 4000000 in
theorem c13_doesHere (l : Launch) (D : va_G) (cA : Nat → ClassId) (B : Nat) (S S' : HP) (x0 : Int) (r : Int) (hsh : s13_doesHere S x0 = some (r, S')) : Met l yX13_doesHere (e_wu yX13_doesHere cX13_doesHere 3 (some .boolean)) ({ frames := 9, cells := 0, slots := 0, locals := 209 } : Room) (va_Pc [e_rv B (x0)] (fun U => e_PU D cA B S U)) (e_Qi D cA B r S') 0 0 (e_A B) := by
  refine Met.ofW (cc := cX13_doesHere) (maxL := 3) (ret := (some .boolean)) (by decide +kernel) rfl ?_
  intro p e s m args below meth c s₁ Bd hml hv
  obtain ⟨rfl, hp⟩ := hv
  have hp : e_Pic D cA B S s s.heap := hp
  have hx := Bd.exec
  have hb := Bd.bytes
  have hrt := Bd.returns
  have hlk := Bd.notSynchronized
  have hown : s.vm.findClass RX13 = some m.cls := findClass_of_methodNamed Bd.named
  have hts : ∀ w ∈ e_tb, w.before ([e_rv B (x0)] : List Value).toArray s = true := fun w h => atoms_spec (ws := (e_wu yX13_doesHere cX13_doesHere 3 (some .boolean))) Bd.pre w (List.mem_cons_of_mem _ h)
  have E : e_En p s m ([e_rv B (x0)] : List Value).toArray meth c cX13_doesHere RX13 3 (some .boolean) := ⟨hx, hb, hml, hown, hts, hlk, hrt⟩
  have hS : va_S (e_A B) s.heap s.heap [] := va_S.rf
  have hl := e_entry (vs := [e_rv B (x0)]) (n := 3) (Nat.le_of_ble_eq_true rfl) (e_cc (e_rv_cat _ _) e_cn)
  rw [lg_entry_eq]
  generalize (lg_sl [e_rv B (x0)] ++ List.replicate (3 - (lg_sl [e_rv B (x0)]).length) Slot.unset).toArray = ls at hl ⊢
  generalize ([e_rv B (x0)] : List Value).toArray = args at hts E ⊢
  have hl : e_lo ls 3 [(0, e_rv B (x0))] := hl
  have hsh := (gd_some hsh).2
  refine e_aload_n (B := B) (x := x0) hx hb dX13_doesHere_0 rfl (hl.at 0 rfl) ?_
  obtain ⟨v1, h1, hsh⟩ := Option.bind_eq_some_iff.mp hsh
  refine e_getI (k := 62) hx hb hts in_X13 hown hp h1 rfl (by decide) (by decide) rfl (hts _ kf13_615) rfl dX13_doesHere_1 ?_
  refine lv_bipush (v := iI (47)) hx hb dX13_doesHere_4 (by decide +kernel) ?_
  refine e_icmp_ne (tgt := 13) hx hb dX13_doesHere_6 (by decide) (fun c6 => ?_) (fun c6 => ?_)
  · rw [if_neg c6] at hsh
    refine lv_iconst (v := iI (0)) hx hb dX13_doesHere_13 rfl ?_
    exact w13_doesHere_b14 E hp hS (hl.sub [0] rfl) hsh
  · rw [if_pos c6] at hsh
    refine lv_iconst (v := iI (1)) hx hb dX13_doesHere_9 rfl ?_
    refine lv_goto (tgt := 14) hx hb dX13_doesHere_10 (by decide) ?_
    exact w13_doesHere_b14 E hp hS (hl.sub [0] rfl) hsh
theorem ok13_doesMove {S : HP} {x0 : Int} {r : Int × HP} (h : s13_doesMove S x0 = some r) : 0 ≤ x0 ∧ x0.toNat < e_n S ∧ e_g S x0.toNat = 13 := (gd_some h).1
set_option maxRecDepth 100000 in
set_option maxHeartbeats 4000000 in
theorem w13_doesMove_b67 {p : Program} {l : Launch} {e : Env} {s : State} {m : MethodId} {args : Array Value} {below : List Frame} {meth : Method} {c : Code} {D : va_G} {cA : Nat → ClassId} {B : Nat} {res : Int × HP} (E : e_En p s m args meth c cX13_doesMove RX13 5 (some .boolean)) {ls : Array Slot} {H : Heap} {locs : List Loc} {S : HP} (hp : e_Pic D cA B S s H) (hS : va_S (e_A B) s.heap H locs) (hl : e_lo ls 5 []) (hsh : s13_doesMove_b67 S  = some res) : W p l e ({ frames := 5, cells := 0, slots := 0, locals := 117 } : Room) s m args below meth c H locs 0 0 (MQ below (e_Qi D cA B res.1 res.2) args s 0 0 (e_A B)) (F0 m 67 ls []) := by
  obtain ⟨hx, hb, hml, hown, hts, hlk, hrt⟩ := id E
  unfold s13_doesMove_b67 at hsh
  refine lv_iconst (v := iI (0)) hx hb dX13_doesMove_67 rfl ?_
  obtain ⟨hz, hz1, hz2⟩ := zR_some hsh
  rw [← hz1, ← hz2]
  exact e_zret hx hb hrt hlk hp hS hz dX13_doesMove_68
set_option maxRecDepth 100000 in
set_option maxHeartbeats 4000000 in
theorem w13_doesMove_b87 {p : Program} {l : Launch} {e : Env} {s : State} {m : MethodId} {args : Array Value} {below : List Frame} {meth : Method} {c : Code} {D : va_G} {cA : Nat → ClassId} {B : Nat} {res : Int × HP} (E : e_En p s m args meth c cX13_doesMove RX13 5 (some .boolean)) {ls : Array Slot} {H : Heap} {locs : List Loc} {S : HP} {x0 : Int} (hp : e_Pic D cA B S s H) (hS : va_S (e_A B) s.heap H locs) (hl : e_lo ls 5 [(0, e_rv B (x0))]) (hsh : s13_doesMove_b87 S x0 = some res) : W p l e ({ frames := 5, cells := 0, slots := 0, locals := 117 } : Room) s m args below meth c H locs 0 0 (MQ below (e_Qi D cA B res.1 res.2) args s 0 0 (e_A B)) (F0 m 87 ls []) := by
  obtain ⟨hx, hb, hml, hown, hts, hlk, hrt⟩ := id E
  unfold s13_doesMove_b87 at hsh
  refine e_aload_n (B := B) (x := x0) hx hb dX13_doesMove_87 rfl (hl.at 0 rfl) ?_
  refine e_aload_n (B := B) (x := x0) hx hb dX13_doesMove_88 rfl (hl.at 0 rfl) ?_
  obtain ⟨v89, h89, hsh⟩ := Option.bind_eq_some_iff.mp hsh
  refine e_getI (k := 109) hx hb hts in_X13 hown hp h89 rfl (by decide) (by decide) rfl (hts _ kf13_873) rfl dX13_doesMove_89 ?_
  obtain ⟨S92, h92, hsh⟩ := Option.bind_eq_some_iff.mp hsh
  have ok92 := ok13_goesTo h92
  refine e_callV (nL := 5) (mc := 0) (ms := 0) (T := TX13) (N := 126) (As := [.int (iI (v89))]) (rest := []) hx hb hml hown hts hp hS hl.size ok92.1 ok92.2.1 ok92.2.2 rfl (by decide) (c13_goesTo l D cA B S S92 (x0) (v89) h92) rfl rfl kd13_goesTo (kl13_507) ks13_goesTo kv13_goesTo ki13 kh13_goesTo ⟨Nat.le_of_ble_eq_true rfl, Nat.le_of_ble_eq_true rfl⟩ rfl (by simp [e_rv_cat, e_int_cat]) ⟨Nat.le_refl _, Nat.le_refl _⟩ dX13_doesMove_92 rfl (fun H locs hp hS => ?_)
  refine lv_iconst (v := iI (1)) hx hb dX13_doesMove_95 rfl ?_
  obtain ⟨hz, hz1, hz2⟩ := zR_some hsh
  rw [← hz1, ← hz2]
  exact e_zret hx hb hrt hlk hp hS hz dX13_doesMove_96
set_option maxRecDepth 100000 in
set_option maxHeartbeats 4000000 in
theorem w13_doesMove_l138 {p : Program} {l : Launch} {e : Env} {s : State} {m : MethodId} {args : Array Value} {below : List Frame} {meth : Method} {c : Code} {D : va_G} {cA : Nat → ClassId} {B : Nat} {res : Int × HP} (E : e_En p s m args meth c cX13_doesMove RX13 5 (some .boolean)) : ∀ (f : Nat) {ls : Array Slot} {H : Heap} {locs : List Loc} {S : HP} {x0 : Int} {x2 : Int} {x3 : Int} {x4 : Int} (hp : e_Pic D cA B S s H) (hS : va_S (e_A B) s.heap H locs) (hl : e_lo ls 5 [(0, e_rv B (x0)), (2, .int (iI (x2))), (3, .int (iI (x3))), (4, .int (iI (x4)))]) (hsh : s13_doesMove_l138 f S x0 x2 x3 x4 = some res), W p l e ({ frames := 5, cells := 0, slots := 0, locals := 117 } : Room) s m args below meth c H locs 0 0 (MQ below (e_Qi D cA B res.1 res.2) args s 0 0 (e_A B)) (F0 m 138 ls []) := by
  obtain ⟨hx, hb, hml, hown, hts, hlk, hrt⟩ := id E
  intro f
  induction f with
  | zero => intro ls H locs S x0 x2 x3 x4 hp hS hl hsh; cases hsh
  | succ f ih =>
    intro ls H locs S x0 x2 x3 x4 hp hS hl hsh
    have hk138 : ∀ {ls : Array Slot} {H : Heap} {locs : List Loc} {S : HP} {x0 : Int} {x2 : Int} {x3 : Int} {x4 : Int} (hp : e_Pic D cA B S s H) (hS : va_S (e_A B) s.heap H locs) (hl : e_lo ls 5 [(0, e_rv B (x0)), (2, .int (iI (x2))), (3, .int (iI (x3))), (4, .int (iI (x4)))]) (hsh : (s13_doesMove_l138 f) S x0 x2 x3 x4 = some res), W p l e ({ frames := 5, cells := 0, slots := 0, locals := 117 } : Room) s m args below meth c H locs 0 0 (MQ below (e_Qi D cA B res.1 res.2) args s 0 0 (e_A B)) (F0 m 138 ls []) := ih
    generalize hkk : s13_doesMove_l138 f = k138 at hk138
    rw [s13_doesMove_l138] at hsh
    rw [hkk] at hsh
    try dsimp only at hsh
    refine lv_iload hx hb dX13_doesMove_138 (hl.at 3 rfl) ?_
    refine lv_iload_n hx hb dX13_doesMove_140 rfl (hl.at 1 rfl) ?_
    refine e_icmp_ge (tgt := 160) hx hb dX13_doesMove_141 (by decide) (fun c141 => ?_) (fun c141 => ?_)
    · rw [if_pos c141] at hsh
      refine e_aload_n (B := B) (x := x0) hx hb dX13_doesMove_160 rfl (hl.at 0 rfl) ?_
      refine lv_iload_n hx hb dX13_doesMove_161 rfl (hl.at 2 rfl) ?_
      refine lv_iload_n hx hb dX13_doesMove_162 rfl (hl.at 1 rfl) ?_
      refine e_iadd hx hb dX13_doesMove_163 ?_
      refine lv_iconst (v := iI (1)) hx hb dX13_doesMove_164 rfl ?_
      refine e_isub hx hb dX13_doesMove_165 ?_
      obtain ⟨S166, h166, hsh⟩ := Option.bind_eq_some_iff.mp hsh
      have ok166 := ok13_goesTo h166
      refine e_callV (nL := 5) (mc := 0) (ms := 0) (T := TX13) (N := 126) (As := [.int (iI (((x3 + x2) - 1)))]) (rest := []) hx hb hml hown hts hp hS hl.size ok166.1 ok166.2.1 ok166.2.2 rfl (by decide) (c13_goesTo l D cA B S S166 (x0) (((x3 + x2) - 1)) h166) rfl rfl kd13_goesTo (kl13_507) ks13_goesTo kv13_goesTo ki13 kh13_goesTo ⟨Nat.le_of_ble_eq_true rfl, Nat.le_of_ble_eq_true rfl⟩ rfl (by simp [e_rv_cat, e_int_cat]) ⟨Nat.le_refl _, Nat.le_refl _⟩ dX13_doesMove_166 rfl (fun H locs hp hS => ?_)
      refine lv_iconst (v := iI (1)) hx hb dX13_doesMove_169 rfl ?_
      obtain ⟨hz, hz1, hz2⟩ := zR_some hsh
      rw [← hz1, ← hz2]
      exact e_zret hx hb hrt hlk hp hS hz dX13_doesMove_170
    · rw [if_neg c141] at hsh
      refine e_aload_n (B := B) (x := x0) hx hb dX13_doesMove_144 rfl (hl.at 0 rfl) ?_
      refine lv_iload_n hx hb dX13_doesMove_145 rfl (hl.at 2 rfl) ?_
      refine lv_iload hx hb dX13_doesMove_146 (hl.at 3 rfl) ?_
      refine e_iadd hx hb dX13_doesMove_148 ?_
      refine lv_iload hx hb dX13_doesMove_149 (hl.at 3 rfl) ?_
      obtain ⟨S151, h151, hsh⟩ := Option.bind_eq_some_iff.mp hsh
      have ok151 := ok13_laysLine h151
      refine e_callV (nL := 5) (mc := 0) (ms := 0) (T := TX13) (N := 126) (As := [.int (iI ((x3 + x4))), .int (iI (x4))]) (rest := []) hx hb hml hown hts hp hS hl.size ok151.1 ok151.2.1 ok151.2.2 rfl (by decide) (c13_laysLine l D cA B S S151 (x0) ((x3 + x4)) (x4) h151) rfl rfl kd13_laysLine (kl13_889) ks13_laysLine kv13_laysLine ki13 kh13_laysLine ⟨Nat.le_of_ble_eq_true rfl, Nat.le_of_ble_eq_true rfl⟩ rfl (by simp [e_rv_cat, e_int_cat]) ⟨Nat.le_refl _, Nat.le_refl _⟩ dX13_doesMove_151 rfl (fun H locs hp hS => ?_)
      refine e_iinc (n := 1) (x := x4) (lv' := [(4, .int (iI ((x4 + 1)))), (0, e_rv B (x0)), (2, .int (iI (x2))), (3, .int (iI (x3)))]) hx hb dX13_doesMove_154 hl (k := 3) rfl (by decide) rfl (fun ls hl => ?_)
      refine lv_goto (tgt := 138) hx hb dX13_doesMove_157 (by decide) ?_
      exact hk138 hp hS (hl.sub [1, 2, 3, 0] rfl) hsh
set_option maxRecDepth 100000 in
set_option maxHeartbeats 4000000 in
theorem w13_doesMove_b128 {p : Program} {l : Launch} {e : Env} {s : State} {m : MethodId} {args : Array Value} {below : List Frame} {meth : Method} {c : Code} {D : va_G} {cA : Nat → ClassId} {B : Nat} {res : Int × HP} (E : e_En p s m args meth c cX13_doesMove RX13 5 (some .boolean)) {ls : Array Slot} {H : Heap} {locs : List Loc} {S : HP} {x0 : Int} {x2 : Int} {y0 : Int} (hp : e_Pic D cA B S s H) (hS : va_S (e_A B) s.heap H locs) (hl : e_lo ls 5 [(0, e_rv B (x0)), (2, .int (iI (x2)))]) (hsh : s13_doesMove_b128 S x0 x2 y0 = some res) : W p l e ({ frames := 5, cells := 0, slots := 0, locals := 117 } : Room) s m args below meth c H locs 0 0 (MQ below (e_Qi D cA B res.1 res.2) args s 0 0 (e_A B)) (F0 m 128 ls [.int (iI (y0))]) := by
  obtain ⟨hx, hb, hml, hown, hts, hlk, hrt⟩ := id E
  unfold s13_doesMove_b128 at hsh
  refine e_istore_n (lv' := [(3, .int (iI (y0))), (0, e_rv B (x0)), (2, .int (iI (x2)))]) hx hb dX13_doesMove_128 rfl hl (by decide) rfl (fun ls hl => ?_)
  refine e_aload_n (B := B) (x := x0) hx hb dX13_doesMove_129 rfl (hl.at 1 rfl) ?_
  refine lv_iload_n hx hb dX13_doesMove_130 rfl (hl.at 0 rfl) ?_
  refine lv_iload_n hx hb dX13_doesMove_131 rfl (hl.at 2 rfl) ?_
  obtain ⟨S132, h132, hsh⟩ := Option.bind_eq_some_iff.mp hsh
  have ok132 := ok13_putsLines h132
  refine e_callV (nL := 5) (mc := 0) (ms := 0) (T := TX13) (N := 126) (As := [.int (iI (y0)), .int (iI (x2))]) (rest := []) hx hb hml hown hts hp hS hl.size ok132.1 ok132.2.1 ok132.2.2 rfl (by decide) (c13_putsLines l D cA B S S132 (x0) (y0) (x2) h132) rfl rfl kd13_putsLines (kl13_278) ks13_putsLines kv13_putsLines ki13 kh13_putsLines ⟨Nat.le_of_ble_eq_true rfl, Nat.le_of_ble_eq_true rfl⟩ rfl (by simp [e_rv_cat, e_int_cat]) ⟨Nat.le_refl _, Nat.le_refl _⟩ dX13_doesMove_132 rfl (fun H locs hp hS => ?_)
  refine lv_iconst (v := iI (0)) hx hb dX13_doesMove_135 rfl ?_
  refine e_istore (lv' := [(4, .int (iI (0))), (3, .int (iI (y0))), (0, e_rv B (x0)), (2, .int (iI (x2)))]) hx hb dX13_doesMove_136 hl (by decide) rfl (fun ls hl => ?_)
  exact w13_doesMove_l138 E 1000000 hp hS (hl.sub [2, 3, 1, 0] rfl) hsh
set_option maxRecDepth 100000 in
set_option maxHeartbeats 4000000 in
theorem w13_doesMove_b69 {p : Program} {l : Launch} {e : Env} {s : State} {m : MethodId} {args : Array Value} {below : List Frame} {meth : Method} {c : Code} {D : va_G} {cA : Nat → ClassId} {B : Nat} {res : Int × HP} (E : e_En p s m args meth c cX13_doesMove RX13 5 (some .boolean)) {ls : Array Slot} {H : Heap} {locs : List Loc} {S : HP} {x0 : Int} {x1 : Int} {x2 : Int} (hp : e_Pic D cA B S s H) (hS : va_S (e_A B) s.heap H locs) (hl : e_lo ls 5 [(0, e_rv B (x0)), (1, .int (iI (x1))), (2, .int (iI (x2)))]) (hsh : s13_doesMove_b69 S x0 x1 x2 = some res) : W p l e ({ frames := 5, cells := 0, slots := 0, locals := 117 } : Room) s m args below meth c H locs 0 0 (MQ below (e_Qi D cA B res.1 res.2) args s 0 0 (e_A B)) (F0 m 69 ls []) := by
  obtain ⟨hx, hb, hml, hown, hts, hlk, hrt⟩ := id E
  unfold s13_doesMove_b69 at hsh
  refine lv_iload_n hx hb dX13_doesMove_69 rfl (hl.at 1 rfl) ?_
  refine e_aload_n (B := B) (x := x0) hx hb dX13_doesMove_70 rfl (hl.at 0 rfl) ?_
  obtain ⟨v71, h71, hsh⟩ := Option.bind_eq_some_iff.mp hsh
  refine e_getI (k := 108) hx hb hts in_X13 hown hp h71 rfl (by decide) (by decide) rfl (hts _ kf13_870) rfl dX13_doesMove_71 ?_
  refine e_icmp_eq (tgt := 87) hx hb dX13_doesMove_74 (by decide) (fun c74 => ?_) (fun c74 => ?_)
  · rw [if_pos c74] at hsh
    exact w13_doesMove_b87 E hp hS (hl.sub [0] rfl) hsh
  · rw [if_neg c74] at hsh
    refine lv_iload_n hx hb dX13_doesMove_77 rfl (hl.at 1 rfl) ?_
    refine e_aload_n (B := B) (x := x0) hx hb dX13_doesMove_78 rfl (hl.at 0 rfl) ?_
    obtain ⟨v79, h79, hsh⟩ := Option.bind_eq_some_iff.mp hsh
    refine e_getI (k := 109) hx hb hts in_X13 hown hp h79 rfl (by decide) (by decide) rfl (hts _ kf13_873) rfl dX13_doesMove_79 ?_
    refine lv_iconst (v := iI (1)) hx hb dX13_doesMove_82 rfl ?_
    refine e_iadd hx hb dX13_doesMove_83 ?_
    refine e_icmp_ne (tgt := 97) hx hb dX13_doesMove_84 (by decide) (fun c84 => ?_) (fun c84 => ?_)
    · rw [if_neg c84] at hsh
      refine e_aload_n (B := B) (x := x0) hx hb dX13_doesMove_97 rfl (hl.at 0 rfl) ?_
      obtain ⟨S98, h98, hsh⟩ := Option.bind_eq_some_iff.mp hsh
      have ok98 := ok13_holdsLines h98
      refine e_callV (nL := 5) (mc := 0) (ms := 0) (T := TX13) (N := 126) (As := []) (rest := []) hx hb hml hown hts hp hS hl.size ok98.1 ok98.2.1 ok98.2.2 rfl (by decide) (c13_holdsLines l D cA B S S98 (x0) h98) rfl rfl kd13_holdsLines (kl13_883) ks13_holdsLines kv13_holdsLines ki13 kh13_holdsLines ⟨Nat.le_of_ble_eq_true rfl, Nat.le_of_ble_eq_true rfl⟩ rfl (by simp [e_rv_cat, e_int_cat]) ⟨Nat.le_refl _, Nat.le_refl _⟩ dX13_doesMove_98 rfl (fun H locs hp hS => ?_)
      refine e_aload_n (B := B) (x := x0) hx hb dX13_doesMove_101 rfl (hl.at 0 rfl) ?_
      refine e_aload_n (B := B) (x := x0) hx hb dX13_doesMove_102 rfl (hl.at 0 rfl) ?_
      obtain ⟨v103, h103, hsh⟩ := Option.bind_eq_some_iff.mp hsh
      refine e_getI (k := 108) hx hb hts in_X13 hown hp h103 rfl (by decide) (by decide) rfl (hts _ kf13_870) rfl dX13_doesMove_103 ?_
      refine e_aload_n (B := B) (x := x0) hx hb dX13_doesMove_106 rfl (hl.at 0 rfl) ?_
      obtain ⟨v107, h107, hsh⟩ := Option.bind_eq_some_iff.mp hsh
      refine e_getI (k := 109) hx hb hts in_X13 hown hp h107 rfl (by decide) (by decide) rfl (hts _ kf13_873) rfl dX13_doesMove_107 ?_
      obtain ⟨S110, h110, hsh⟩ := Option.bind_eq_some_iff.mp hsh
      have ok110 := ok13_takesLinesOf h110
      refine e_callV (nL := 5) (mc := 0) (ms := 0) (T := TX13) (N := 126) (As := [.int (iI (v103)), .int (iI (v107))]) (rest := []) hx hb hml hown hts hp hS hl.size ok110.1 ok110.2.1 ok110.2.2 rfl (by decide) (c13_takesLinesOf l D cA B S98 S110 (x0) (v103) (v107) h110) rfl rfl kd13_takesLinesOf (kl13_886) ks13_takesLinesOf kv13_takesLinesOf ki13 kh13_takesLinesOf ⟨Nat.le_of_ble_eq_true rfl, Nat.le_of_ble_eq_true rfl⟩ rfl (by simp [e_rv_cat, e_int_cat]) ⟨Nat.le_refl _, Nat.le_refl _⟩ dX13_doesMove_110 rfl (fun H locs hp hS => ?_)
      refine lv_iload_n hx hb dX13_doesMove_113 rfl (hl.at 1 rfl) ?_
      refine e_aload_n (B := B) (x := x0) hx hb dX13_doesMove_114 rfl (hl.at 0 rfl) ?_
      obtain ⟨v115, h115, hsh⟩ := Option.bind_eq_some_iff.mp hsh
      refine e_getI (k := 109) hx hb hts in_X13 hown hp h115 rfl (by decide) (by decide) rfl (hts _ kf13_873) rfl dX13_doesMove_115 ?_
      refine e_icmp_le (tgt := 127) hx hb dX13_doesMove_118 (by decide) (fun c118 => ?_) (fun c118 => ?_)
      · rw [if_pos c118] at hsh
        refine lv_iload_n hx hb dX13_doesMove_127 rfl (hl.at 1 rfl) ?_
        exact w13_doesMove_b128 E hp hS (hl.sub [0, 2] rfl) hsh
      · rw [if_neg c118] at hsh
        refine lv_iload_n hx hb dX13_doesMove_121 rfl (hl.at 1 rfl) ?_
        refine lv_iload_n hx hb dX13_doesMove_122 rfl (hl.at 2 rfl) ?_
        refine e_isub hx hb dX13_doesMove_123 ?_
        refine lv_goto (tgt := 128) hx hb dX13_doesMove_124 (by decide) ?_
        exact w13_doesMove_b128 E hp hS (hl.sub [0, 2] rfl) hsh
    · rw [if_pos c84] at hsh
      exact w13_doesMove_b87 E hp hS (hl.sub [0] rfl) hsh
set_option maxRecDepth 100000 in
set_option maxHeartbeats 4000000 in
theorem w13_doesMove_b39 {p : Program} {l : Launch} {e : Env} {s : State} {m : MethodId} {args : Array Value} {below : List Frame} {meth : Method} {c : Code} {D : va_G} {cA : Nat → ClassId} {B : Nat} {res : Int × HP} (E : e_En p s m args meth c cX13_doesMove RX13 5 (some .boolean)) {ls : Array Slot} {H : Heap} {locs : List Loc} {S : HP} {x0 : Int} {x2 : Int} {y0 : Int} (hp : e_Pic D cA B S s H) (hS : va_S (e_A B) s.heap H locs) (hl : e_lo ls 5 [(0, e_rv B (x0)), (2, .int (iI (x2)))]) (hsh : s13_doesMove_b39 S x0 x2 y0 = some res) : W p l e ({ frames := 5, cells := 0, slots := 0, locals := 117 } : Room) s m args below meth c H locs 0 0 (MQ below (e_Qi D cA B res.1 res.2) args s 0 0 (e_A B)) (F0 m 39 ls [.int (iI (y0))]) := by
  obtain ⟨hx, hb, hml, hown, hts, hlk, hrt⟩ := id E
  unfold s13_doesMove_b39 at hsh
  refine e_istore_n (lv' := [(1, .int (iI (y0))), (0, e_rv B (x0)), (2, .int (iI (x2)))]) hx hb dX13_doesMove_39 rfl hl (by decide) rfl (fun ls hl => ?_)
  refine lv_iload_n hx hb dX13_doesMove_40 rfl (hl.at 0 rfl) ?_
  refine e_if_lt (tgt := 67) hx hb dX13_doesMove_41 (by decide) (fun c41 => ?_) (fun c41 => ?_)
  · rw [if_pos c41] at hsh
    exact w13_doesMove_b67 E hp hS (hl.sub [] rfl) hsh
  · rw [if_neg c41] at hsh
    refine e_aload_n (B := B) (x := x0) hx hb dX13_doesMove_44 rfl (hl.at 1 rfl) ?_
    obtain ⟨⟨v45, S45⟩, h45, hsh⟩ := Option.bind_eq_some_iff.mp hsh
    have hsh : _ = _ := hsh
    try dsimp only at hsh
    have ok45 := ok13_isEnd h45
    refine e_callI (nL := 5) (mc := 0) (ms := 0) (T := TX13) (N := 126) (As := []) (rest := []) hx hb hml hown hts hp hS hl.size ok45.1 ok45.2.1 ok45.2.2 rfl (by decide) (c13_isEnd l D cA B S S45 (x0) v45 h45) rfl rfl kd13_isEnd (kl13_880) ks13_isEnd kv13_isEnd ki13 kh13_isEnd ⟨Nat.le_of_ble_eq_true rfl, Nat.le_of_ble_eq_true rfl⟩ rfl (by simp [e_rv_cat, e_int_cat]) ⟨Nat.le_refl _, Nat.le_refl _⟩ dX13_doesMove_45 rfl (fun H locs hp hS => ?_)
    refine e_if_eq (tgt := 67) hx hb dX13_doesMove_48 (by decide) (fun c48 => ?_) (fun c48 => ?_)
    · rw [if_pos c48] at hsh
      exact w13_doesMove_b67 E hp hS (hl.sub [] rfl) hsh
    · rw [if_neg c48] at hsh
      refine lv_iload_n hx hb dX13_doesMove_51 rfl (hl.at 0 rfl) ?_
      refine e_aload_n (B := B) (x := x0) hx hb dX13_doesMove_52 rfl (hl.at 1 rfl) ?_
      obtain ⟨v53, h53, hsh⟩ := Option.bind_eq_some_iff.mp hsh
      refine e_getI (k := 108) hx hb hts in_X13 hown hp h53 rfl (by decide) (by decide) rfl (hts _ kf13_870) rfl dX13_doesMove_53 ?_
      refine e_icmp_le (tgt := 69) hx hb dX13_doesMove_56 (by decide) (fun c56 => ?_) (fun c56 => ?_)
      · rw [if_pos c56] at hsh
        exact w13_doesMove_b69 E hp hS (hl.sub [1, 0, 2] rfl) hsh
      · rw [if_neg c56] at hsh
        refine lv_iload_n hx hb dX13_doesMove_59 rfl (hl.at 0 rfl) ?_
        refine e_aload_n (B := B) (x := x0) hx hb dX13_doesMove_60 rfl (hl.at 1 rfl) ?_
        obtain ⟨v61, h61, hsh⟩ := Option.bind_eq_some_iff.mp hsh
        refine e_getI (k := 109) hx hb hts in_X13 hown hp h61 rfl (by decide) (by decide) rfl (hts _ kf13_873) rfl dX13_doesMove_61 ?_
        refine e_icmp_gt (tgt := 69) hx hb dX13_doesMove_64 (by decide) (fun c64 => ?_) (fun c64 => ?_)
        · rw [if_pos c64] at hsh
          exact w13_doesMove_b69 E hp hS (hl.sub [1, 0, 2] rfl) hsh
        · rw [if_neg c64] at hsh
          exact w13_doesMove_b67 E hp hS (hl.sub [] rfl) hsh
set_option maxRecDepth 100000 in
set_option maxHeartbeats 4000000 in
theorem c13_doesMove (l : Launch) (D : va_G) (cA : Nat → ClassId) (B : Nat) (S S' : HP) (x0 : Int) (r : Int) (hsh : s13_doesMove S x0 = some (r, S')) : Met l yX13_doesMove (e_wu yX13_doesMove cX13_doesMove 5 (some .boolean)) ({ frames := 5, cells := 0, slots := 0, locals := 117 } : Room) (va_Pc [e_rv B (x0)] (fun U => e_PU D cA B S U)) (e_Qi D cA B r S') 0 0 (e_A B) := by
  refine Met.ofW (cc := cX13_doesMove) (maxL := 5) (ret := (some .boolean)) (by decide +kernel) rfl ?_
  intro p e s m args below meth c s₁ Bd hml hv
  obtain ⟨rfl, hp⟩ := hv
  have hp : e_Pic D cA B S s s.heap := hp
  have hx := Bd.exec
  have hb := Bd.bytes
  have hrt := Bd.returns
  have hlk := Bd.notSynchronized
  have hown : s.vm.findClass RX13 = some m.cls := findClass_of_methodNamed Bd.named
  have hts : ∀ w ∈ e_tb, w.before ([e_rv B (x0)] : List Value).toArray s = true := fun w h => atoms_spec (ws := (e_wu yX13_doesMove cX13_doesMove 5 (some .boolean))) Bd.pre w (List.mem_cons_of_mem _ h)
  have E : e_En p s m ([e_rv B (x0)] : List Value).toArray meth c cX13_doesMove RX13 5 (some .boolean) := ⟨hx, hb, hml, hown, hts, hlk, hrt⟩
  have hS : va_S (e_A B) s.heap s.heap [] := va_S.rf
  have hl := e_entry (vs := [e_rv B (x0)]) (n := 5) (Nat.le_of_ble_eq_true rfl) (e_cc (e_rv_cat _ _) e_cn)
  rw [lg_entry_eq]
  generalize (lg_sl [e_rv B (x0)] ++ List.replicate (5 - (lg_sl [e_rv B (x0)]).length) Slot.unset).toArray = ls at hl ⊢
  generalize ([e_rv B (x0)] : List Value).toArray = args at hts E ⊢
  have hl : e_lo ls 5 [(0, e_rv B (x0))] := hl
  have hsh := (gd_some hsh).2
  refine e_aload_n (B := B) (x := x0) hx hb dX13_doesMove_0 rfl (hl.at 0 rfl) ?_
  refine lv_iconst (v := iI (1)) hx hb dX13_doesMove_1 rfl ?_
  obtain ⟨⟨v2, S2⟩, h2, hsh⟩ := Option.bind_eq_some_iff.mp hsh
  have hsh : _ = _ := hsh
  try dsimp only at hsh
  have ok2 := ok13_address h2
  refine e_callI (nL := 5) (mc := 0) (ms := 0) (T := TX13) (N := 126) (As := [.int (iI (1))]) (rest := []) hx hb hml hown hts hp hS hl.size ok2.1 ok2.2.1 ok2.2.2 rfl (by decide) (c13_address l D cA B S S2 (x0) (1) v2 h2) rfl rfl kd13_address (kl13_876) ks13_address kv13_address ki13 kh13_address ⟨Nat.le_of_ble_eq_true rfl, Nat.le_of_ble_eq_true rfl⟩ rfl (by simp [e_rv_cat, e_int_cat]) ⟨Nat.le_refl _, Nat.le_refl _⟩ dX13_doesMove_2 rfl (fun H locs hp hS => ?_)
  refine e_istore_n (lv' := [(1, .int (iI (v2))), (0, e_rv B (x0))]) hx hb dX13_doesMove_5 rfl hl (by decide) rfl (fun ls hl => ?_)
  refine e_aload_n (B := B) (x := x0) hx hb dX13_doesMove_6 rfl (hl.at 1 rfl) ?_
  obtain ⟨v7, h7, hsh⟩ := Option.bind_eq_some_iff.mp hsh
  refine e_getI (k := 109) hx hb hts in_X13 hown hp h7 rfl (by decide) (by decide) rfl (hts _ kf13_873) rfl dX13_doesMove_7 ?_
  refine e_aload_n (B := B) (x := x0) hx hb dX13_doesMove_10 rfl (hl.at 1 rfl) ?_
  obtain ⟨v11, h11, hsh⟩ := Option.bind_eq_some_iff.mp hsh
  refine e_getI (k := 108) hx hb hts in_X13 hown hp h11 rfl (by decide) (by decide) rfl (hts _ kf13_870) rfl dX13_doesMove_11 ?_
  refine e_isub hx hb dX13_doesMove_14 ?_
  refine lv_iconst (v := iI (1)) hx hb dX13_doesMove_15 rfl ?_
  refine e_iadd hx hb dX13_doesMove_16 ?_
  refine e_istore_n (lv' := [(2, .int (iI (((v7 - v11) + 1)))), (1, .int (iI (v2))), (0, e_rv B (x0))]) hx hb dX13_doesMove_17 rfl hl (by decide) rfl (fun ls hl => ?_)
  refine lv_iload_n hx hb dX13_doesMove_18 rfl (hl.at 1 rfl) ?_
  refine lv_bipush (v := iI (-3)) hx hb dX13_doesMove_19 (by decide +kernel) ?_
  refine e_icmp_ne (tgt := 28) hx hb dX13_doesMove_21 (by decide) (fun c21 => ?_) (fun c21 => ?_)
  · rw [if_neg c21] at hsh
    refine lv_iload_n hx hb dX13_doesMove_28 rfl (hl.at 1 rfl) ?_
    refine e_if_ge (tgt := 36) hx hb dX13_doesMove_29 (by decide) (fun c29 => ?_) (fun c29 => ?_)
    · rw [if_pos c29] at hsh
      refine lv_iload_n hx hb dX13_doesMove_36 rfl (hl.at 1 rfl) ?_
      refine lv_iconst (v := iI (1)) hx hb dX13_doesMove_37 rfl ?_
      refine e_iadd hx hb dX13_doesMove_38 ?_
      exact w13_doesMove_b39 E hp hS (hl.sub [2, 0] rfl) hsh
    · rw [if_neg c29] at hsh
      refine lv_iconst (v := iI (-1)) hx hb dX13_doesMove_32 rfl ?_
      refine lv_goto (tgt := 39) hx hb dX13_doesMove_33 (by decide) ?_
      exact w13_doesMove_b39 E hp hS (hl.sub [2, 0] rfl) hsh
  · rw [if_pos c21] at hsh
    refine lv_iconst (v := iI (0)) hx hb dX13_doesMove_24 rfl ?_
    refine lv_goto (tgt := 39) hx hb dX13_doesMove_25 (by decide) ?_
    exact w13_doesMove_b39 E hp hS (hl.sub [2, 0] rfl) hsh
theorem ok13_doesOnLines {S : HP} {x0 : Int} {r : Int × HP} (h : s13_doesOnLines S x0 = some r) : 0 ≤ x0 ∧ x0.toNat < e_n S ∧ e_g S x0.toNat = 13 := (gd_some h).1
set_option maxRecDepth 100000 in
set_option maxHeartbeats 4000000 in
theorem w13_doesOnLines_b176 {p : Program} {l : Launch} {e : Env} {s : State} {m : MethodId} {args : Array Value} {below : List Frame} {meth : Method} {c : Code} {D : va_G} {cA : Nat → ClassId} {B : Nat} {res : Int × HP} (E : e_En p s m args meth c cX13_doesOnLines RX13 2 (some .boolean)) {ls : Array Slot} {H : Heap} {locs : List Loc} {S : HP} (hp : e_Pic D cA B S s H) (hS : va_S (e_A B) s.heap H locs) (hl : e_lo ls 2 []) (hsh : s13_doesOnLines_b176 S  = some res) : W p l e ({ frames := 7, cells := 0, slots := 0, locals := 164 } : Room) s m args below meth c H locs 0 0 (MQ below (e_Qi D cA B res.1 res.2) args s 0 0 (e_A B)) (F0 m 176 ls []) := by
  obtain ⟨hx, hb, hml, hown, hts, hlk, hrt⟩ := id E
  unfold s13_doesOnLines_b176 at hsh
  refine lv_iconst (v := iI (0)) hx hb dX13_doesOnLines_176 rfl ?_
  obtain ⟨hz, hz1, hz2⟩ := zR_some hsh
  rw [← hz1, ← hz2]
  exact e_zret hx hb hrt hlk hp hS hz dX13_doesOnLines_177
set_option maxRecDepth 100000 in
set_option maxHeartbeats 4000000 in
theorem w13_doesOnLines_b170 {p : Program} {l : Launch} {e : Env} {s : State} {m : MethodId} {args : Array Value} {below : List Frame} {meth : Method} {c : Code} {D : va_G} {cA : Nat → ClassId} {B : Nat} {res : Int × HP} (E : e_En p s m args meth c cX13_doesOnLines RX13 2 (some .boolean)) {ls : Array Slot} {H : Heap} {locs : List Loc} {S : HP} {x0 : Int} {y0 : Int} {y1 : Int} (hp : e_Pic D cA B S s H) (hS : va_S (e_A B) s.heap H locs) (hl : e_lo ls 2 [(0, e_rv B (x0))]) (hsh : s13_doesOnLines_b170 S x0 y0 y1 = some res) : W p l e ({ frames := 7, cells := 0, slots := 0, locals := 164 } : Room) s m args below meth c H locs 0 0 (MQ below (e_Qi D cA B res.1 res.2) args s 0 0 (e_A B)) (F0 m 170 ls [.int (iI (y1)), e_rv B (y0)]) := by
  obtain ⟨hx, hb, hml, hown, hts, hlk, hrt⟩ := id E
  unfold s13_doesOnLines_b170 at hsh
  obtain ⟨⟨v170, S170⟩, h170, hsh⟩ := Option.bind_eq_some_iff.mp hsh
  have hsh : _ = _ := hsh
  try dsimp only at hsh
  have ok170 := ok13_shifts h170
  refine e_callI (nL := 2) (mc := 0) (ms := 0) (T := TX13) (N := 126) (As := [.int (iI (y1))]) (rest := []) hx hb hml hown hts hp hS hl.size ok170.1 ok170.2.1 ok170.2.2 rfl (by decide) (c13_shifts l D cA B S S170 (y0) (y1) v170 h170) rfl rfl kd13_shifts (kl13_532) ks13_shifts kv13_shifts ki13 kh13_shifts ⟨Nat.le_of_ble_eq_true rfl, Nat.le_of_ble_eq_true rfl⟩ rfl (by simp [e_rv_cat, e_int_cat]) ⟨Nat.le_refl _, Nat.le_refl _⟩ dX13_doesOnLines_170 rfl (fun H locs hp hS => ?_)
  refine e_if_ne (tgt := 178) hx hb dX13_doesOnLines_173 (by decide) (fun c173 => ?_) (fun c173 => ?_)
  · rw [if_neg c173] at hsh
    refine e_aload_n (B := B) (x := x0) hx hb dX13_doesOnLines_178 rfl (hl.at 0 rfl) ?_
    refine e_aload_n (B := B) (x := x0) hx hb dX13_doesOnLines_179 rfl (hl.at 0 rfl) ?_
    obtain ⟨v180, h180, hsh⟩ := Option.bind_eq_some_iff.mp hsh
    refine e_getI (k := 109) hx hb hts in_X13 hown hp h180 rfl (by decide) (by decide) rfl (hts _ kf13_873) rfl dX13_doesOnLines_180 ?_
    obtain ⟨S183, h183, hsh⟩ := Option.bind_eq_some_iff.mp hsh
    have ok183 := ok13_goesTo h183
    refine e_callV (nL := 2) (mc := 0) (ms := 0) (T := TX13) (N := 126) (As := [.int (iI (v180))]) (rest := []) hx hb hml hown hts hp hS hl.size ok183.1 ok183.2.1 ok183.2.2 rfl (by decide) (c13_goesTo l D cA B S170 S183 (x0) (v180) h183) rfl rfl kd13_goesTo (kl13_507) ks13_goesTo kv13_goesTo ki13 kh13_goesTo ⟨Nat.le_of_ble_eq_true rfl, Nat.le_of_ble_eq_true rfl⟩ rfl (by simp [e_rv_cat, e_int_cat]) ⟨Nat.le_refl _, Nat.le_refl _⟩ dX13_doesOnLines_183 rfl (fun H locs hp hS => ?_)
    refine lv_iconst (v := iI (1)) hx hb dX13_doesOnLines_186 rfl ?_
    obtain ⟨hz, hz1, hz2⟩ := zR_some hsh
    rw [← hz1, ← hz2]
    exact e_zret hx hb hrt hlk hp hS hz dX13_doesOnLines_187
  · rw [if_pos c173] at hsh
    exact w13_doesOnLines_b176 E hp hS (hl.sub [] rfl) hsh
set_option maxRecDepth 100000 in
set_option maxHeartbeats 4000000 in
theorem w13_doesOnLines_b129 {p : Program} {l : Launch} {e : Env} {s : State} {m : MethodId} {args : Array Value} {below : List Frame} {meth : Method} {c : Code} {D : va_G} {cA : Nat → ClassId} {B : Nat} {res : Int × HP} (E : e_En p s m args meth c cX13_doesOnLines RX13 2 (some .boolean)) {ls : Array Slot} {H : Heap} {locs : List Loc} {S : HP} {y0 : Int} (hp : e_Pic D cA B S s H) (hS : va_S (e_A B) s.heap H locs) (hl : e_lo ls 2 []) (hsh : s13_doesOnLines_b129 S y0 = some res) : W p l e ({ frames := 7, cells := 0, slots := 0, locals := 164 } : Room) s m args below meth c H locs 0 0 (MQ below (e_Qi D cA B res.1 res.2) args s 0 0 (e_A B)) (F0 m 129 ls [.int (iI (y0))]) := by
  obtain ⟨hx, hb, hml, hown, hts, hlk, hrt⟩ := id E
  unfold s13_doesOnLines_b129 at hsh
  obtain ⟨hz, hz1, hz2⟩ := zR_some hsh
  rw [← hz1, ← hz2]
  exact e_zret hx hb hrt hlk hp hS hz dX13_doesOnLines_129
set_option maxRecDepth 100000 in
set_option maxHeartbeats 4000000 in
theorem w13_doesOnLines_b128 {p : Program} {l : Launch} {e : Env} {s : State} {m : MethodId} {args : Array Value} {below : List Frame} {meth : Method} {c : Code} {D : va_G} {cA : Nat → ClassId} {B : Nat} {res : Int × HP} (E : e_En p s m args meth c cX13_doesOnLines RX13 2 (some .boolean)) {ls : Array Slot} {H : Heap} {locs : List Loc} {S : HP} (hp : e_Pic D cA B S s H) (hS : va_S (e_A B) s.heap H locs) (hl : e_lo ls 2 []) (hsh : s13_doesOnLines_b128 S  = some res) : W p l e ({ frames := 7, cells := 0, slots := 0, locals := 164 } : Room) s m args below meth c H locs 0 0 (MQ below (e_Qi D cA B res.1 res.2) args s 0 0 (e_A B)) (F0 m 128 ls []) := by
  obtain ⟨hx, hb, hml, hown, hts, hlk, hrt⟩ := id E
  unfold s13_doesOnLines_b128 at hsh
  refine lv_iconst (v := iI (0)) hx hb dX13_doesOnLines_128 rfl ?_
  exact w13_doesOnLines_b129 E hp hS (hl.sub [] rfl) hsh
set_option maxRecDepth 100000 in
set_option maxHeartbeats 4000000 in
theorem w13_doesOnLines_b221 {p : Program} {l : Launch} {e : Env} {s : State} {m : MethodId} {args : Array Value} {below : List Frame} {meth : Method} {c : Code} {D : va_G} {cA : Nat → ClassId} {B : Nat} {res : Int × HP} (E : e_En p s m args meth c cX13_doesOnLines RX13 2 (some .boolean)) {ls : Array Slot} {H : Heap} {locs : List Loc} {S : HP} (hp : e_Pic D cA B S s H) (hS : va_S (e_A B) s.heap H locs) (hl : e_lo ls 2 []) (hsh : s13_doesOnLines_b221 S  = some res) : W p l e ({ frames := 7, cells := 0, slots := 0, locals := 164 } : Room) s m args below meth c H locs 0 0 (MQ below (e_Qi D cA B res.1 res.2) args s 0 0 (e_A B)) (F0 m 221 ls []) := by
  obtain ⟨hx, hb, hml, hown, hts, hlk, hrt⟩ := id E
  unfold s13_doesOnLines_b221 at hsh
  refine lv_iconst (v := iI (0)) hx hb dX13_doesOnLines_221 rfl ?_
  obtain ⟨hz, hz1, hz2⟩ := zR_some hsh
  rw [← hz1, ← hz2]
  exact e_zret hx hb hrt hlk hp hS hz dX13_doesOnLines_222
set_option maxRecDepth 100000 in
set_option maxHeartbeats 4000000 in
theorem w13_doesOnLines_b299 {p : Program} {l : Launch} {e : Env} {s : State} {m : MethodId} {args : Array Value} {below : List Frame} {meth : Method} {c : Code} {D : va_G} {cA : Nat → ClassId} {B : Nat} {res : Int × HP} (E : e_En p s m args meth c cX13_doesOnLines RX13 2 (some .boolean)) {ls : Array Slot} {H : Heap} {locs : List Loc} {S : HP} {x0 : Int} (hp : e_Pic D cA B S s H) (hS : va_S (e_A B) s.heap H locs) (hl : e_lo ls 2 [(0, e_rv B (x0))]) (hsh : s13_doesOnLines_b299 S x0 = some res) : W p l e ({ frames := 7, cells := 0, slots := 0, locals := 164 } : Room) s m args below meth c H locs 0 0 (MQ below (e_Qi D cA B res.1 res.2) args s 0 0 (e_A B)) (F0 m 299 ls []) := by
  obtain ⟨hx, hb, hml, hown, hts, hlk, hrt⟩ := id E
  unfold s13_doesOnLines_b299 at hsh
  refine e_aload_n (B := B) (x := x0) hx hb dX13_doesOnLines_299 rfl (hl.at 0 rfl) ?_
  obtain ⟨⟨v300, S300⟩, h300, hsh⟩ := Option.bind_eq_some_iff.mp hsh
  have hsh : _ = _ := hsh
  try dsimp only at hsh
  have ok300 := ok13_substitutes h300
  refine e_callI (nL := 2) (mc := 0) (ms := 0) (T := TX13) (N := 126) (As := []) (rest := []) hx hb hml hown hts hp hS hl.size ok300.1 ok300.2.1 ok300.2.2 rfl (by decide) (c13_substitutes l D cA B S S300 (x0) v300 h300) rfl rfl kd13_substitutes (kl13_911) ks13_substitutes kv13_substitutes ki13 kh13_substitutes ⟨Nat.le_of_ble_eq_true rfl, Nat.le_of_ble_eq_true rfl⟩ rfl (by simp [e_rv_cat, e_int_cat]) ⟨Nat.le_refl _, Nat.le_refl _⟩ dX13_doesOnLines_300 rfl (fun H locs hp hS => ?_)
  obtain ⟨hz, hz1, hz2⟩ := zR_some hsh
  rw [← hz1, ← hz2]
  exact e_zret hx hb hrt hlk hp hS hz dX13_doesOnLines_303
set_option maxRecDepth 100000 in
set_option maxHeartbeats 4000000 in
theorem c13_doesOnLines (l : Launch) (D : va_G) (cA : Nat → ClassId) (B : Nat) (S S' : HP) (x0 : Int) (r : Int) (hsh : s13_doesOnLines S x0 = some (r, S')) : Met l yX13_doesOnLines (e_wu yX13_doesOnLines cX13_doesOnLines 2 (some .boolean)) ({ frames := 7, cells := 0, slots := 0, locals := 164 } : Room) (va_Pc [e_rv B (x0)] (fun U => e_PU D cA B S U)) (e_Qi D cA B r S') 0 0 (e_A B) := by
  refine Met.ofW (cc := cX13_doesOnLines) (maxL := 2) (ret := (some .boolean)) (by decide +kernel) rfl ?_
  intro p e s m args below meth c s₁ Bd hml hv
  obtain ⟨rfl, hp⟩ := hv
  have hp : e_Pic D cA B S s s.heap := hp
  have hx := Bd.exec
  have hb := Bd.bytes
  have hrt := Bd.returns
  have hlk := Bd.notSynchronized
  have hown : s.vm.findClass RX13 = some m.cls := findClass_of_methodNamed Bd.named
  have hts : ∀ w ∈ e_tb, w.before ([e_rv B (x0)] : List Value).toArray s = true := fun w h => atoms_spec (ws := (e_wu yX13_doesOnLines cX13_doesOnLines 2 (some .boolean))) Bd.pre w (List.mem_cons_of_mem _ h)
  have E : e_En p s m ([e_rv B (x0)] : List Value).toArray meth c cX13_doesOnLines RX13 2 (some .boolean) := ⟨hx, hb, hml, hown, hts, hlk, hrt⟩
  have hS : va_S (e_A B) s.heap s.heap [] := va_S.rf
  have hl := e_entry (vs := [e_rv B (x0)]) (n := 2) (Nat.le_of_ble_eq_true rfl) (e_cc (e_rv_cat _ _) e_cn)
  rw [lg_entry_eq]
  generalize (lg_sl [e_rv B (x0)] ++ List.replicate (2 - (lg_sl [e_rv B (x0)]).length) Slot.unset).toArray = ls at hl ⊢
  generalize ([e_rv B (x0)] : List Value).toArray = args at hts E ⊢
  have hl : e_lo ls 2 [(0, e_rv B (x0))] := hl
  have hsh := (gd_some hsh).2
  refine e_aload_n (B := B) (x := x0) hx hb dX13_doesOnLines_0 rfl (hl.at 0 rfl) ?_
  refine e_aload_n (B := B) (x := x0) hx hb dX13_doesOnLines_1 rfl (hl.at 0 rfl) ?_
  obtain ⟨v2, h2, hsh⟩ := Option.bind_eq_some_iff.mp hsh
  refine e_getI (k := 105) hx hb hts in_X13 hown hp h2 rfl (by decide) (by decide) rfl (hts _ kf13_861) rfl dX13_doesOnLines_2 ?_
  obtain ⟨⟨v5, S5⟩, h5, hsh⟩ := Option.bind_eq_some_iff.mp hsh
  have hsh : _ = _ := hsh
  try dsimp only at hsh
  have ok5 := ok13_codeAt h5
  refine e_callI (nL := 2) (mc := 0) (ms := 0) (T := TX13) (N := 126) (As := [.int (iI (v2))]) (rest := []) hx hb hml hown hts hp hS hl.size ok5.1 ok5.2.1 ok5.2.2 rfl (by decide) (c13_codeAt l D cA B S S5 (x0) (v2) v5 h5) rfl rfl kd13_codeAt (kl13_864) ks13_codeAt kv13_codeAt ki13 kh13_codeAt ⟨Nat.le_of_ble_eq_true rfl, Nat.le_of_ble_eq_true rfl⟩ rfl (by simp [e_rv_cat, e_int_cat]) ⟨Nat.le_refl _, Nat.le_refl _⟩ dX13_doesOnLines_5 rfl (fun H locs hp hS => ?_)
  refine e_istore_n (lv' := [(1, .int (iI (v5))), (0, e_rv B (x0))]) hx hb dX13_doesOnLines_8 rfl hl (by decide) rfl (fun ls hl => ?_)
  refine e_aload_n (B := B) (x := x0) hx hb dX13_doesOnLines_9 rfl (hl.at 1 rfl) ?_
  refine lv_dup hx hb dX13_doesOnLines_10 (e_rv_cat _ _) ?_
  obtain ⟨v11, h11, hsh⟩ := Option.bind_eq_some_iff.mp hsh
  refine e_getI (k := 105) hx hb hts in_X13 hown hp h11 rfl (by decide) (by decide) rfl (hts _ kf13_861) rfl dX13_doesOnLines_11 ?_
  refine lv_iconst (v := iI (1)) hx hb dX13_doesOnLines_14 rfl ?_
  refine e_iadd hx hb dX13_doesOnLines_15 ?_
  obtain ⟨S16, h16, hsh⟩ := Option.bind_eq_some_iff.mp hsh
  refine e_putI (k := 105) hx hb hts in_X13 tyX13 tyX13_ok nmX13 hown hp hS h16 rfl (by decide) (by decide) rfl (hts _ kf13_861) rfl rfl (by decide +kernel) dX13_doesOnLines_16 (fun H locs hp hS => ?_)
  refine e_aload_n (B := B) (x := x0) hx hb dX13_doesOnLines_19 rfl (hl.at 1 rfl) ?_
  refine e_aload_n (B := B) (x := x0) hx hb dX13_doesOnLines_20 rfl (hl.at 1 rfl) ?_
  obtain ⟨v21, h21, hsh⟩ := Option.bind_eq_some_iff.mp hsh
  refine e_getI (k := 108) hx hb hts in_X13 hown hp h21 rfl (by decide) (by decide) rfl (hts _ kf13_870) rfl dX13_doesOnLines_21 ?_
  refine e_aload_n (B := B) (x := x0) hx hb dX13_doesOnLines_24 rfl (hl.at 1 rfl) ?_
  obtain ⟨v25, h25, hsh⟩ := Option.bind_eq_some_iff.mp hsh
  refine e_getI (k := 109) hx hb hts in_X13 hown hp h25 rfl (by decide) (by decide) rfl (hts _ kf13_873) rfl dX13_doesOnLines_25 ?_
  obtain ⟨S28, h28, hsh⟩ := Option.bind_eq_some_iff.mp hsh
  have ok28 := ok13_spansLines h28
  refine e_callV (nL := 2) (mc := 0) (ms := 0) (T := TX13) (N := 126) (As := [.int (iI (v21)), .int (iI (v25))]) (rest := []) hx hb hml hown hts hp hS hl.size ok28.1 ok28.2.1 ok28.2.2 rfl (by decide) (c13_spansLines l D cA B S16 S28 (x0) (v21) (v25) h28) rfl rfl kd13_spansLines (kl13_414) ks13_spansLines kv13_spansLines ki13 kh13_spansLines ⟨Nat.le_of_ble_eq_true rfl, Nat.le_of_ble_eq_true rfl⟩ rfl (by simp [e_rv_cat, e_int_cat]) ⟨Nat.le_refl _, Nat.le_refl _⟩ dX13_doesOnLines_28 rfl (fun H locs hp hS => ?_)
  refine lv_iload_n hx hb dX13_doesOnLines_31 rfl (hl.at 0 rfl) ?_
  by_cases c32_0 : iW (v5) = 60
  · rw [if_pos c32_0] at hsh
    refine lv_lookup (off := 119) (tgt := 151) hx hb dX13_doesOnLines_32 (by decide +kernel) (e_off_h c32_0.symm) (by decide) ?_
    refine e_aload_n (B := B) (x := x0) hx hb dX13_doesOnLines_151 rfl (hl.at 1 rfl) ?_
    obtain ⟨⟨v152, S152⟩, h152, hsh⟩ := Option.bind_eq_some_iff.mp hsh
    have hsh : _ = _ := hsh
    try dsimp only at hsh
    have ok152 := ok13_isEnd h152
    refine e_callI (nL := 2) (mc := 0) (ms := 0) (T := TX13) (N := 126) (As := []) (rest := []) hx hb hml hown hts hp hS hl.size ok152.1 ok152.2.1 ok152.2.2 rfl (by decide) (c13_isEnd l D cA B S28 S152 (x0) v152 h152) rfl rfl kd13_isEnd (kl13_880) ks13_isEnd kv13_isEnd ki13 kh13_isEnd ⟨Nat.le_of_ble_eq_true rfl, Nat.le_of_ble_eq_true rfl⟩ rfl (by simp [e_rv_cat, e_int_cat]) ⟨Nat.le_refl _, Nat.le_refl _⟩ dX13_doesOnLines_152 rfl (fun H locs hp hS => ?_)
    refine e_if_eq (tgt := 176) hx hb dX13_doesOnLines_155 (by decide) (fun c155 => ?_) (fun c155 => ?_)
    · rw [if_pos c155] at hsh
      exact w13_doesOnLines_b176 E hp hS (hl.sub [] rfl) hsh
    · rw [if_neg c155] at hsh
      refine e_aload_n (B := B) (x := x0) hx hb dX13_doesOnLines_158 rfl (hl.at 1 rfl) ?_
      refine lv_iload_n hx hb dX13_doesOnLines_159 rfl (hl.at 0 rfl) ?_
      refine lv_bipush (v := iI (62)) hx hb dX13_doesOnLines_160 (by decide +kernel) ?_
      refine e_icmp_ne (tgt := 169) hx hb dX13_doesOnLines_162 (by decide) (fun c162 => ?_) (fun c162 => ?_)
      · rw [if_neg c162] at hsh
        refine lv_iconst (v := iI (0)) hx hb dX13_doesOnLines_169 rfl ?_
        exact w13_doesOnLines_b170 E hp hS (hl.sub [1] rfl) hsh
      · rw [if_pos c162] at hsh
        refine lv_iconst (v := iI (1)) hx hb dX13_doesOnLines_165 rfl ?_
        refine lv_goto (tgt := 170) hx hb dX13_doesOnLines_166 (by decide) ?_
        exact w13_doesOnLines_b170 E hp hS (hl.sub [1] rfl) hsh
  · rw [if_neg c32_0] at hsh
    by_cases c32_1 : iW (v5) = 62
    · rw [if_pos c32_1] at hsh
      refine lv_lookup (off := 119) (tgt := 151) hx hb dX13_doesOnLines_32 (by decide +kernel) (e_off_s (fun q => c32_0 q.symm) (e_off_h c32_1.symm)) (by decide) ?_
      refine e_aload_n (B := B) (x := x0) hx hb dX13_doesOnLines_151 rfl (hl.at 1 rfl) ?_
      obtain ⟨⟨v152, S152⟩, h152, hsh⟩ := Option.bind_eq_some_iff.mp hsh
      have hsh : _ = _ := hsh
      try dsimp only at hsh
      have ok152 := ok13_isEnd h152
      refine e_callI (nL := 2) (mc := 0) (ms := 0) (T := TX13) (N := 126) (As := []) (rest := []) hx hb hml hown hts hp hS hl.size ok152.1 ok152.2.1 ok152.2.2 rfl (by decide) (c13_isEnd l D cA B S28 S152 (x0) v152 h152) rfl rfl kd13_isEnd (kl13_880) ks13_isEnd kv13_isEnd ki13 kh13_isEnd ⟨Nat.le_of_ble_eq_true rfl, Nat.le_of_ble_eq_true rfl⟩ rfl (by simp [e_rv_cat, e_int_cat]) ⟨Nat.le_refl _, Nat.le_refl _⟩ dX13_doesOnLines_152 rfl (fun H locs hp hS => ?_)
      refine e_if_eq (tgt := 176) hx hb dX13_doesOnLines_155 (by decide) (fun c155 => ?_) (fun c155 => ?_)
      · rw [if_pos c155] at hsh
        exact w13_doesOnLines_b176 E hp hS (hl.sub [] rfl) hsh
      · rw [if_neg c155] at hsh
        refine e_aload_n (B := B) (x := x0) hx hb dX13_doesOnLines_158 rfl (hl.at 1 rfl) ?_
        refine lv_iload_n hx hb dX13_doesOnLines_159 rfl (hl.at 0 rfl) ?_
        refine lv_bipush (v := iI (62)) hx hb dX13_doesOnLines_160 (by decide +kernel) ?_
        refine e_icmp_ne (tgt := 169) hx hb dX13_doesOnLines_162 (by decide) (fun c162 => ?_) (fun c162 => ?_)
        · rw [if_neg c162] at hsh
          refine lv_iconst (v := iI (0)) hx hb dX13_doesOnLines_169 rfl ?_
          exact w13_doesOnLines_b170 E hp hS (hl.sub [1] rfl) hsh
        · rw [if_pos c162] at hsh
          refine lv_iconst (v := iI (1)) hx hb dX13_doesOnLines_165 rfl ?_
          refine lv_goto (tgt := 170) hx hb dX13_doesOnLines_166 (by decide) ?_
          exact w13_doesOnLines_b170 E hp hS (hl.sub [1] rfl) hsh
    · rw [if_neg c32_1] at hsh
      by_cases c32_2 : iW (v5) = 100
      · rw [if_pos c32_2] at hsh
        refine lv_lookup (off := 76) (tgt := 108) hx hb dX13_doesOnLines_32 (by decide +kernel) (e_off_s (fun q => c32_0 q.symm) (e_off_s (fun q => c32_1 q.symm) (e_off_h c32_2.symm))) (by decide) ?_
        refine e_aload_n (B := B) (x := x0) hx hb dX13_doesOnLines_108 rfl (hl.at 1 rfl) ?_
        obtain ⟨⟨v109, S109⟩, h109, hsh⟩ := Option.bind_eq_some_iff.mp hsh
        have hsh : _ = _ := hsh
        try dsimp only at hsh
        have ok109 := ok13_isEnd h109
        refine e_callI (nL := 2) (mc := 0) (ms := 0) (T := TX13) (N := 126) (As := []) (rest := []) hx hb hml hown hts hp hS hl.size ok109.1 ok109.2.1 ok109.2.2 rfl (by decide) (c13_isEnd l D cA B S28 S109 (x0) v109 h109) rfl rfl kd13_isEnd (kl13_880) ks13_isEnd kv13_isEnd ki13 kh13_isEnd ⟨Nat.le_of_ble_eq_true rfl, Nat.le_of_ble_eq_true rfl⟩ rfl (by simp [e_rv_cat, e_int_cat]) ⟨Nat.le_refl _, Nat.le_refl _⟩ dX13_doesOnLines_109 rfl (fun H locs hp hS => ?_)
        refine e_if_eq (tgt := 128) hx hb dX13_doesOnLines_112 (by decide) (fun c112 => ?_) (fun c112 => ?_)
        · rw [if_pos c112] at hsh
          exact w13_doesOnLines_b128 E hp hS (hl.sub [] rfl) hsh
        · rw [if_neg c112] at hsh
          refine e_aload_n (B := B) (x := x0) hx hb dX13_doesOnLines_115 rfl (hl.at 1 rfl) ?_
          refine lv_iconst (v := iI (0)) hx hb dX13_doesOnLines_116 rfl ?_
          refine lv_iconst (v := iI (0)) hx hb dX13_doesOnLines_117 rfl ?_
          obtain ⟨⟨v118, S118⟩, h118, hsh⟩ := Option.bind_eq_some_iff.mp hsh
          have hsh : _ = _ := hsh
          try dsimp only at hsh
          have ok118 := ok13_deletes h118
          refine e_callI (nL := 2) (mc := 0) (ms := 0) (T := TX13) (N := 126) (As := [.int (iI (0)), .int (iI (0))]) (rest := []) hx hb hml hown hts hp hS hl.size ok118.1 ok118.2.1 ok118.2.2 rfl (by decide) (c13_deletes l D cA B S109 S118 (x0) (0) (0) v118 h118) rfl rfl kd13_deletes (kl13_526) ks13_deletes kv13_deletes ki13 kh13_deletes ⟨Nat.le_of_ble_eq_true rfl, Nat.le_of_ble_eq_true rfl⟩ rfl (by simp [e_rv_cat, e_int_cat]) ⟨Nat.le_refl _, Nat.le_refl _⟩ dX13_doesOnLines_118 rfl (fun H locs hp hS => ?_)
          refine e_if_eq (tgt := 128) hx hb dX13_doesOnLines_121 (by decide) (fun c121 => ?_) (fun c121 => ?_)
          · rw [if_pos c121] at hsh
            exact w13_doesOnLines_b128 E hp hS (hl.sub [] rfl) hsh
          · rw [if_neg c121] at hsh
            refine lv_iconst (v := iI (1)) hx hb dX13_doesOnLines_124 rfl ?_
            refine lv_goto (tgt := 129) hx hb dX13_doesOnLines_125 (by decide) ?_
            exact w13_doesOnLines_b129 E hp hS (hl.sub [] rfl) hsh
      · rw [if_neg c32_2] at hsh
        by_cases c32_3 : iW (v5) = 106
        · rw [if_pos c32_3] at hsh
          refine lv_lookup (off := 156) (tgt := 188) hx hb dX13_doesOnLines_32 (by decide +kernel) (e_off_s (fun q => c32_0 q.symm) (e_off_s (fun q => c32_1 q.symm) (e_off_s (fun q => c32_2 q.symm) (e_off_h c32_3.symm)))) (by decide) ?_
          refine e_aload_n (B := B) (x := x0) hx hb dX13_doesOnLines_188 rfl (hl.at 1 rfl) ?_
          obtain ⟨⟨v189, S189⟩, h189, hsh⟩ := Option.bind_eq_some_iff.mp hsh
          have hsh : _ = _ := hsh
          try dsimp only at hsh
          have ok189 := ok13_isEnd h189
          refine e_callI (nL := 2) (mc := 0) (ms := 0) (T := TX13) (N := 126) (As := []) (rest := []) hx hb hml hown hts hp hS hl.size ok189.1 ok189.2.1 ok189.2.2 rfl (by decide) (c13_isEnd l D cA B S28 S189 (x0) v189 h189) rfl rfl kd13_isEnd (kl13_880) ks13_isEnd kv13_isEnd ki13 kh13_isEnd ⟨Nat.le_of_ble_eq_true rfl, Nat.le_of_ble_eq_true rfl⟩ rfl (by simp [e_rv_cat, e_int_cat]) ⟨Nat.le_refl _, Nat.le_refl _⟩ dX13_doesOnLines_189 rfl (fun H locs hp hS => ?_)
          refine e_if_eq (tgt := 221) hx hb dX13_doesOnLines_192 (by decide) (fun c192 => ?_) (fun c192 => ?_)
          · rw [if_pos c192] at hsh
            exact w13_doesOnLines_b221 E hp hS (hl.sub [] rfl) hsh
          · rw [if_neg c192] at hsh
            refine e_aload_n (B := B) (x := x0) hx hb dX13_doesOnLines_195 rfl (hl.at 1 rfl) ?_
            refine e_aload_n (B := B) (x := x0) hx hb dX13_doesOnLines_196 rfl (hl.at 1 rfl) ?_
            obtain ⟨v197, h197, hsh⟩ := Option.bind_eq_some_iff.mp hsh
            refine e_getI (k := 108) hx hb hts in_X13 hown hp h197 rfl (by decide) (by decide) rfl (hts _ kf13_870) rfl dX13_doesOnLines_197 ?_
            refine lv_iconst (v := iI (2)) hx hb dX13_doesOnLines_200 rfl ?_
            refine e_aload_n (B := B) (x := x0) hx hb dX13_doesOnLines_201 rfl (hl.at 1 rfl) ?_
            obtain ⟨v202, h202, hsh⟩ := Option.bind_eq_some_iff.mp hsh
            refine e_getI (k := 109) hx hb hts in_X13 hown hp h202 rfl (by decide) (by decide) rfl (hts _ kf13_873) rfl dX13_doesOnLines_202 ?_
            refine e_aload_n (B := B) (x := x0) hx hb dX13_doesOnLines_205 rfl (hl.at 1 rfl) ?_
            obtain ⟨v206, h206, hsh⟩ := Option.bind_eq_some_iff.mp hsh
            refine e_getI (k := 108) hx hb hts in_X13 hown hp h206 rfl (by decide) (by decide) rfl (hts _ kf13_870) rfl dX13_doesOnLines_206 ?_
            refine e_isub hx hb dX13_doesOnLines_209 ?_
            refine lv_iconst (v := iI (1)) hx hb dX13_doesOnLines_210 rfl ?_
            refine e_iadd hx hb dX13_doesOnLines_211 ?_
            obtain ⟨⟨v212, S212⟩, h212, hsh⟩ := Option.bind_eq_some_iff.mp hsh
            have hsh : _ = _ := hsh
            try dsimp only at hsh
            refine e_callS (nL := 2) (mc := 0) (ms := 0) (As := [.int (iI (2)), .int (iI (((v202 - v206) + 1)))]) (rest := [.int (iI (v197)), e_rv B (x0)]) hx hb hml hown hts hp hS hl.size (c13_greater l D cA B S189 S212 (2) (((v202 - v206) + 1)) v212 h212) rfl rfl kd13_greater (kl13_210) ks13_greater ki13 kh13_greater ⟨Nat.le_of_ble_eq_true rfl, Nat.le_of_ble_eq_true rfl⟩ rfl (by simp [e_rv_cat, e_int_cat]) ⟨Nat.le_refl _, Nat.le_refl _⟩ dX13_doesOnLines_212 rfl (fun H locs hp hS => ?_)
            obtain ⟨⟨v215, S215⟩, h215, hsh⟩ := Option.bind_eq_some_iff.mp hsh
            have hsh : _ = _ := hsh
            try dsimp only at hsh
            have ok215 := ok13_joins h215
            refine e_callI (nL := 2) (mc := 0) (ms := 0) (T := TX13) (N := 126) (As := [.int (iI (v197)), .int (iI (v212))]) (rest := []) hx hb hml hown hts hp hS hl.size ok215.1 ok215.2.1 ok215.2.2 rfl (by decide) (c13_joins l D cA B S212 S215 (x0) (v197) (v212) v215 h215) rfl rfl kd13_joins (kl13_754) ks13_joins kv13_joins ki13 kh13_joins ⟨Nat.le_of_ble_eq_true rfl, Nat.le_of_ble_eq_true rfl⟩ rfl (by simp [e_rv_cat, e_int_cat]) ⟨Nat.le_refl _, Nat.le_refl _⟩ dX13_doesOnLines_215 rfl (fun H locs hp hS => ?_)
            refine e_if_ne (tgt := 223) hx hb dX13_doesOnLines_218 (by decide) (fun c218 => ?_) (fun c218 => ?_)
            · rw [if_neg c218] at hsh
              refine e_aload_n (B := B) (x := x0) hx hb dX13_doesOnLines_223 rfl (hl.at 1 rfl) ?_
              refine e_aload_n (B := B) (x := x0) hx hb dX13_doesOnLines_224 rfl (hl.at 1 rfl) ?_
              obtain ⟨v225, h225, hsh⟩ := Option.bind_eq_some_iff.mp hsh
              refine e_getI (k := 108) hx hb hts in_X13 hown hp h225 rfl (by decide) (by decide) rfl (hts _ kf13_870) rfl dX13_doesOnLines_225 ?_
              obtain ⟨S228, h228, hsh⟩ := Option.bind_eq_some_iff.mp hsh
              have ok228 := ok13_goesTo h228
              refine e_callV (nL := 2) (mc := 0) (ms := 0) (T := TX13) (N := 126) (As := [.int (iI (v225))]) (rest := []) hx hb hml hown hts hp hS hl.size ok228.1 ok228.2.1 ok228.2.2 rfl (by decide) (c13_goesTo l D cA B S215 S228 (x0) (v225) h228) rfl rfl kd13_goesTo (kl13_507) ks13_goesTo kv13_goesTo ki13 kh13_goesTo ⟨Nat.le_of_ble_eq_true rfl, Nat.le_of_ble_eq_true rfl⟩ rfl (by simp [e_rv_cat, e_int_cat]) ⟨Nat.le_refl _, Nat.le_refl _⟩ dX13_doesOnLines_228 rfl (fun H locs hp hS => ?_)
              refine lv_iconst (v := iI (1)) hx hb dX13_doesOnLines_231 rfl ?_
              obtain ⟨hz, hz1, hz2⟩ := zR_some hsh
              rw [← hz1, ← hz2]
              exact e_zret hx hb hrt hlk hp hS hz dX13_doesOnLines_232
            · rw [if_pos c218] at hsh
              exact w13_doesOnLines_b221 E hp hS (hl.sub [] rfl) hsh
        · rw [if_neg c32_3] at hsh
          by_cases c32_4 : iW (v5) = 109
          · rw [if_pos c32_4] at hsh
            refine lv_lookup (off := 201) (tgt := 233) hx hb dX13_doesOnLines_32 (by decide +kernel) (e_off_s (fun q => c32_0 q.symm) (e_off_s (fun q => c32_1 q.symm) (e_off_s (fun q => c32_2 q.symm) (e_off_s (fun q => c32_3 q.symm) (e_off_h c32_4.symm))))) (by decide) ?_
            refine e_aload_n (B := B) (x := x0) hx hb dX13_doesOnLines_233 rfl (hl.at 1 rfl) ?_
            obtain ⟨⟨v234, S234⟩, h234, hsh⟩ := Option.bind_eq_some_iff.mp hsh
            have hsh : _ = _ := hsh
            try dsimp only at hsh
            have ok234 := ok13_doesMove h234
            refine e_callI (nL := 2) (mc := 0) (ms := 0) (T := TX13) (N := 126) (As := []) (rest := []) hx hb hml hown hts hp hS hl.size ok234.1 ok234.2.1 ok234.2.2 rfl (by decide) (c13_doesMove l D cA B S28 S234 (x0) v234 h234) rfl rfl kd13_doesMove (kl13_905) ks13_doesMove kv13_doesMove ki13 kh13_doesMove ⟨Nat.le_of_ble_eq_true rfl, Nat.le_of_ble_eq_true rfl⟩ rfl (by simp [e_rv_cat, e_int_cat]) ⟨Nat.le_refl _, Nat.le_refl _⟩ dX13_doesOnLines_234 rfl (fun H locs hp hS => ?_)
            obtain ⟨hz, hz1, hz2⟩ := zR_some hsh
            rw [← hz1, ← hz2]
            exact e_zret hx hb hrt hlk hp hS hz dX13_doesOnLines_237
          · rw [if_neg c32_4] at hsh
            by_cases c32_5 : iW (v5) = 110
            · rw [if_pos c32_5] at hsh
              refine lv_lookup (off := 272) (tgt := 304) hx hb dX13_doesOnLines_32 (by decide +kernel) (e_off_s (fun q => c32_0 q.symm) (e_off_s (fun q => c32_1 q.symm) (e_off_s (fun q => c32_2 q.symm) (e_off_s (fun q => c32_3 q.symm) (e_off_s (fun q => c32_4 q.symm) (e_off_h c32_5.symm)))))) (by decide) ?_
              refine e_aload_n (B := B) (x := x0) hx hb dX13_doesOnLines_304 rfl (hl.at 1 rfl) ?_
              obtain ⟨⟨v305, S305⟩, h305, hsh⟩ := Option.bind_eq_some_iff.mp hsh
              have hsh : _ = _ := hsh
              try dsimp only at hsh
              have ok305 := ok13_beginsLines h305
              refine e_callI (nL := 2) (mc := 0) (ms := 0) (T := TX13) (N := 126) (As := []) (rest := []) hx hb hml hown hts hp hS hl.size ok305.1 ok305.2.1 ok305.2.2 rfl (by decide) (c13_beginsLines l D cA B S28 S305 (x0) v305 h305) rfl rfl kd13_beginsLines (kl13_914) ks13_beginsLines kv13_beginsLines ki13 kh13_beginsLines ⟨Nat.le_of_ble_eq_true rfl, Nat.le_of_ble_eq_true rfl⟩ rfl (by simp [e_rv_cat, e_int_cat]) ⟨Nat.le_refl _, Nat.le_refl _⟩ dX13_doesOnLines_305 rfl (fun H locs hp hS => ?_)
              obtain ⟨hz, hz1, hz2⟩ := zR_some hsh
              rw [← hz1, ← hz2]
              exact e_zret hx hb hrt hlk hp hS hz dX13_doesOnLines_308
            · rw [if_neg c32_5] at hsh
              by_cases c32_6 : iW (v5) = 115
              · rw [if_pos c32_6] at hsh
                refine lv_lookup (off := 206) (tgt := 238) hx hb dX13_doesOnLines_32 (by decide +kernel) (e_off_s (fun q => c32_0 q.symm) (e_off_s (fun q => c32_1 q.symm) (e_off_s (fun q => c32_2 q.symm) (e_off_s (fun q => c32_3 q.symm) (e_off_s (fun q => c32_4 q.symm) (e_off_s (fun q => c32_5 q.symm) (e_off_h c32_6.symm))))))) (by decide) ?_
                refine e_aload_n (B := B) (x := x0) hx hb dX13_doesOnLines_238 rfl (hl.at 1 rfl) ?_
                obtain ⟨v239, h239, hsh⟩ := Option.bind_eq_some_iff.mp hsh
                refine e_getI (k := 104) hx hb hts in_X13 hown hp h239 rfl (by decide) (by decide) rfl (hts _ kf13_858) rfl dX13_doesOnLines_239 ?_
                refine e_aload_n (B := B) (x := x0) hx hb dX13_doesOnLines_242 rfl (hl.at 1 rfl) ?_
                obtain ⟨v243, h243, hsh⟩ := Option.bind_eq_some_iff.mp hsh
                refine e_getI (k := 105) hx hb hts in_X13 hown hp h243 rfl (by decide) (by decide) rfl (hts _ kf13_861) rfl dX13_doesOnLines_243 ?_
                refine e_isub hx hb dX13_doesOnLines_246 ?_
                refine lv_iconst (v := iI (3)) hx hb dX13_doesOnLines_247 rfl ?_
                refine e_icmp_ne (tgt := 299) hx hb dX13_doesOnLines_248 (by decide) (fun c248 => ?_) (fun c248 => ?_)
                · rw [if_neg c248] at hsh
                  exact w13_doesOnLines_b299 E hp hS (hl.sub [1] rfl) hsh
                · rw [if_pos c248] at hsh
                  refine e_aload_n (B := B) (x := x0) hx hb dX13_doesOnLines_251 rfl (hl.at 1 rfl) ?_
                  refine e_aload_n (B := B) (x := x0) hx hb dX13_doesOnLines_252 rfl (hl.at 1 rfl) ?_
                  obtain ⟨v253, h253, hsh⟩ := Option.bind_eq_some_iff.mp hsh
                  refine e_getI (k := 105) hx hb hts in_X13 hown hp h253 rfl (by decide) (by decide) rfl (hts _ kf13_861) rfl dX13_doesOnLines_253 ?_
                  obtain ⟨⟨v256, S256⟩, h256, hsh⟩ := Option.bind_eq_some_iff.mp hsh
                  have hsh : _ = _ := hsh
                  try dsimp only at hsh
                  have ok256 := ok13_codeAt h256
                  refine e_callI (nL := 2) (mc := 0) (ms := 0) (T := TX13) (N := 126) (As := [.int (iI (v253))]) (rest := []) hx hb hml hown hts hp hS hl.size ok256.1 ok256.2.1 ok256.2.2 rfl (by decide) (c13_codeAt l D cA B S28 S256 (x0) (v253) v256 h256) rfl rfl kd13_codeAt (kl13_864) ks13_codeAt kv13_codeAt ki13 kh13_codeAt ⟨Nat.le_of_ble_eq_true rfl, Nat.le_of_ble_eq_true rfl⟩ rfl (by simp [e_rv_cat, e_int_cat]) ⟨Nat.le_refl _, Nat.le_refl _⟩ dX13_doesOnLines_256 rfl (fun H locs hp hS => ?_)
                  refine lv_bipush (v := iI (111)) hx hb dX13_doesOnLines_259 (by decide +kernel) ?_
                  refine e_icmp_ne (tgt := 299) hx hb dX13_doesOnLines_261 (by decide) (fun c261 => ?_) (fun c261 => ?_)
                  · rw [if_neg c261] at hsh
                    exact w13_doesOnLines_b299 E hp hS (hl.sub [1] rfl) hsh
                  · rw [if_pos c261] at hsh
                    refine e_aload_n (B := B) (x := x0) hx hb dX13_doesOnLines_264 rfl (hl.at 1 rfl) ?_
                    refine e_aload_n (B := B) (x := x0) hx hb dX13_doesOnLines_265 rfl (hl.at 1 rfl) ?_
                    obtain ⟨v266, h266, hsh⟩ := Option.bind_eq_some_iff.mp hsh
                    refine e_getI (k := 105) hx hb hts in_X13 hown hp h266 rfl (by decide) (by decide) rfl (hts _ kf13_861) rfl dX13_doesOnLines_266 ?_
                    refine lv_iconst (v := iI (1)) hx hb dX13_doesOnLines_269 rfl ?_
                    refine e_iadd hx hb dX13_doesOnLines_270 ?_
                    obtain ⟨⟨v271, S271⟩, h271, hsh⟩ := Option.bind_eq_some_iff.mp hsh
                    have hsh : _ = _ := hsh
                    try dsimp only at hsh
                    have ok271 := ok13_codeAt h271
                    refine e_callI (nL := 2) (mc := 0) (ms := 0) (T := TX13) (N := 126) (As := [.int (iI ((v266 + 1)))]) (rest := []) hx hb hml hown hts hp hS hl.size ok271.1 ok271.2.1 ok271.2.2 rfl (by decide) (c13_codeAt l D cA B S256 S271 (x0) ((v266 + 1)) v271 h271) rfl rfl kd13_codeAt (kl13_864) ks13_codeAt kv13_codeAt ki13 kh13_codeAt ⟨Nat.le_of_ble_eq_true rfl, Nat.le_of_ble_eq_true rfl⟩ rfl (by simp [e_rv_cat, e_int_cat]) ⟨Nat.le_refl _, Nat.le_refl _⟩ dX13_doesOnLines_271 rfl (fun H locs hp hS => ?_)
                    refine lv_bipush (v := iI (114)) hx hb dX13_doesOnLines_274 (by decide +kernel) ?_
                    refine e_icmp_ne (tgt := 299) hx hb dX13_doesOnLines_276 (by decide) (fun c276 => ?_) (fun c276 => ?_)
                    · rw [if_neg c276] at hsh
                      exact w13_doesOnLines_b299 E hp hS (hl.sub [1] rfl) hsh
                    · rw [if_pos c276] at hsh
                      refine e_aload_n (B := B) (x := x0) hx hb dX13_doesOnLines_279 rfl (hl.at 1 rfl) ?_
                      refine e_aload_n (B := B) (x := x0) hx hb dX13_doesOnLines_280 rfl (hl.at 1 rfl) ?_
                      obtain ⟨v281, h281, hsh⟩ := Option.bind_eq_some_iff.mp hsh
                      refine e_getI (k := 105) hx hb hts in_X13 hown hp h281 rfl (by decide) (by decide) rfl (hts _ kf13_861) rfl dX13_doesOnLines_281 ?_
                      refine lv_iconst (v := iI (2)) hx hb dX13_doesOnLines_284 rfl ?_
                      refine e_iadd hx hb dX13_doesOnLines_285 ?_
                      obtain ⟨⟨v286, S286⟩, h286, hsh⟩ := Option.bind_eq_some_iff.mp hsh
                      have hsh : _ = _ := hsh
                      try dsimp only at hsh
                      have ok286 := ok13_codeAt h286
                      refine e_callI (nL := 2) (mc := 0) (ms := 0) (T := TX13) (N := 126) (As := [.int (iI ((v281 + 2)))]) (rest := []) hx hb hml hown hts hp hS hl.size ok286.1 ok286.2.1 ok286.2.2 rfl (by decide) (c13_codeAt l D cA B S271 S286 (x0) ((v281 + 2)) v286 h286) rfl rfl kd13_codeAt (kl13_864) ks13_codeAt kv13_codeAt ki13 kh13_codeAt ⟨Nat.le_of_ble_eq_true rfl, Nat.le_of_ble_eq_true rfl⟩ rfl (by simp [e_rv_cat, e_int_cat]) ⟨Nat.le_refl _, Nat.le_refl _⟩ dX13_doesOnLines_286 rfl (fun H locs hp hS => ?_)
                      refine lv_bipush (v := iI (116)) hx hb dX13_doesOnLines_289 (by decide +kernel) ?_
                      refine e_icmp_ne (tgt := 299) hx hb dX13_doesOnLines_291 (by decide) (fun c291 => ?_) (fun c291 => ?_)
                      · rw [if_neg c291] at hsh
                        exact w13_doesOnLines_b299 E hp hS (hl.sub [1] rfl) hsh
                      · rw [if_pos c291] at hsh
                        refine e_aload_n (B := B) (x := x0) hx hb dX13_doesOnLines_294 rfl (hl.at 1 rfl) ?_
                        obtain ⟨⟨v295, S295⟩, h295, hsh⟩ := Option.bind_eq_some_iff.mp hsh
                        have hsh : _ = _ := hsh
                        try dsimp only at hsh
                        have ok295 := ok13_sorts h295
                        refine e_callI (nL := 2) (mc := 0) (ms := 0) (T := TX13) (N := 126) (As := []) (rest := []) hx hb hml hown hts hp hS hl.size ok295.1 ok295.2.1 ok295.2.2 rfl (by decide) (c13_sorts l D cA B S286 S295 (x0) v295 h295) rfl rfl kd13_sorts (kl13_908) ks13_sorts kv13_sorts ki13 kh13_sorts ⟨Nat.le_of_ble_eq_true rfl, Nat.le_of_ble_eq_true rfl⟩ rfl (by simp [e_rv_cat, e_int_cat]) ⟨Nat.le_refl _, Nat.le_refl _⟩ dX13_doesOnLines_295 rfl (fun H locs hp hS => ?_)
                        obtain ⟨hz, hz1, hz2⟩ := zR_some hsh
                        rw [← hz1, ← hz2]
                        exact e_zret hx hb hrt hlk hp hS hz dX13_doesOnLines_298
              · rw [if_neg c32_6] at hsh
                by_cases c32_7 : iW (v5) = 121
                · rw [if_pos c32_7] at hsh
                  refine lv_lookup (off := 98) (tgt := 130) hx hb dX13_doesOnLines_32 (by decide +kernel) (e_off_s (fun q => c32_0 q.symm) (e_off_s (fun q => c32_1 q.symm) (e_off_s (fun q => c32_2 q.symm) (e_off_s (fun q => c32_3 q.symm) (e_off_s (fun q => c32_4 q.symm) (e_off_s (fun q => c32_5 q.symm) (e_off_s (fun q => c32_6 q.symm) (e_off_h c32_7.symm)))))))) (by decide) ?_
                  refine e_aload_n (B := B) (x := x0) hx hb dX13_doesOnLines_130 rfl (hl.at 1 rfl) ?_
                  obtain ⟨⟨v131, S131⟩, h131, hsh⟩ := Option.bind_eq_some_iff.mp hsh
                  have hsh : _ = _ := hsh
                  try dsimp only at hsh
                  have ok131 := ok13_isEnd h131
                  refine e_callI (nL := 2) (mc := 0) (ms := 0) (T := TX13) (N := 126) (As := []) (rest := []) hx hb hml hown hts hp hS hl.size ok131.1 ok131.2.1 ok131.2.2 rfl (by decide) (c13_isEnd l D cA B S28 S131 (x0) v131 h131) rfl rfl kd13_isEnd (kl13_880) ks13_isEnd kv13_isEnd ki13 kh13_isEnd ⟨Nat.le_of_ble_eq_true rfl, Nat.le_of_ble_eq_true rfl⟩ rfl (by simp [e_rv_cat, e_int_cat]) ⟨Nat.le_refl _, Nat.le_refl _⟩ dX13_doesOnLines_131 rfl (fun H locs hp hS => ?_)
                  refine e_if_ne (tgt := 139) hx hb dX13_doesOnLines_134 (by decide) (fun c134 => ?_) (fun c134 => ?_)
                  · rw [if_neg c134] at hsh
                    refine e_aload_n (B := B) (x := x0) hx hb dX13_doesOnLines_139 rfl (hl.at 1 rfl) ?_
                    obtain ⟨S140, h140, hsh⟩ := Option.bind_eq_some_iff.mp hsh
                    have ok140 := ok13_copiesSpan h140
                    refine e_callV (nL := 2) (mc := 0) (ms := 0) (T := TX13) (N := 126) (As := []) (rest := []) hx hb hml hown hts hp hS hl.size ok140.1 ok140.2.1 ok140.2.2 rfl (by decide) (c13_copiesSpan l D cA B S131 S140 (x0) h140) rfl rfl kd13_copiesSpan (kl13_487) ks13_copiesSpan kv13_copiesSpan ki13 kh13_copiesSpan ⟨Nat.le_of_ble_eq_true rfl, Nat.le_of_ble_eq_true rfl⟩ rfl (by simp [e_rv_cat, e_int_cat]) ⟨Nat.le_refl _, Nat.le_refl _⟩ dX13_doesOnLines_140 rfl (fun H locs hp hS => ?_)
                    refine e_aload_n (B := B) (x := x0) hx hb dX13_doesOnLines_143 rfl (hl.at 1 rfl) ?_
                    refine lv_iconst (v := iI (0)) hx hb dX13_doesOnLines_144 rfl ?_
                    refine lv_iconst (v := iI (1)) hx hb dX13_doesOnLines_145 rfl ?_
                    obtain ⟨S146, h146, hsh⟩ := Option.bind_eq_some_iff.mp hsh
                    have ok146 := ok13_writes h146
                    refine e_callV (nL := 2) (mc := 0) (ms := 0) (T := TX13) (N := 126) (As := [.int (iI (0)), .int (iI (1))]) (rest := []) hx hb hml hown hts hp hS hl.size ok146.1 ok146.2.1 ok146.2.2 rfl (by decide) (c13_writes l D cA B S140 S146 (x0) (0) (1) h146) rfl rfl kd13_writes (kl13_496) ks13_writes kv13_writes ki13 kh13_writes ⟨Nat.le_of_ble_eq_true rfl, Nat.le_of_ble_eq_true rfl⟩ rfl (by simp [e_rv_cat, e_int_cat]) ⟨Nat.le_refl _, Nat.le_refl _⟩ dX13_doesOnLines_146 rfl (fun H locs hp hS => ?_)
                    refine lv_iconst (v := iI (1)) hx hb dX13_doesOnLines_149 rfl ?_
                    obtain ⟨hz, hz1, hz2⟩ := zR_some hsh
                    rw [← hz1, ← hz2]
                    exact e_zret hx hb hrt hlk hp hS hz dX13_doesOnLines_150
                  · rw [if_pos c134] at hsh
                    refine lv_iconst (v := iI (0)) hx hb dX13_doesOnLines_137 rfl ?_
                    obtain ⟨hz, hz1, hz2⟩ := zR_some hsh
                    rw [← hz1, ← hz2]
                    exact e_zret hx hb hrt hlk hp hS hz dX13_doesOnLines_138
                · rw [if_neg c32_7] at hsh
                  refine lv_lookup (off := 277) (tgt := 309) hx hb dX13_doesOnLines_32 (by decide +kernel) (e_off_s (fun q => c32_0 q.symm) (e_off_s (fun q => c32_1 q.symm) (e_off_s (fun q => c32_2 q.symm) (e_off_s (fun q => c32_3 q.symm) (e_off_s (fun q => c32_4 q.symm) (e_off_s (fun q => c32_5 q.symm) (e_off_s (fun q => c32_6 q.symm) (e_off_s (fun q => c32_7 q.symm) rfl)))))))) (by decide) ?_
                  refine lv_iconst (v := iI (0)) hx hb dX13_doesOnLines_309 rfl ?_
                  obtain ⟨hz, hz1, hz2⟩ := zR_some hsh
                  rw [← hz1, ← hz2]
                  exact e_zret hx hb hrt hlk hp hS hz dX13_doesOnLines_310
theorem ok13_doesLine {S : HP} {x0 : Int} {r : Int × HP} (h : s13_doesLine S x0 = some r) : 0 ≤ x0 ∧ x0.toNat < e_n S ∧ e_g S x0.toNat = 13 := (gd_some h).1
set_option maxRecDepth 100000 in
set_option maxHeartbeats 4000000 in
theorem w13_doesLine_l15 {p : Program} {l : Launch} {e : Env} {s : State} {m : MethodId} {args : Array Value} {below : List Frame} {meth : Method} {c : Code} {D : va_G} {cA : Nat → ClassId} {B : Nat} {res : Int × HP} (E : e_En p s m args meth c cX13_doesLine RX13 2 (some .boolean)) : ∀ (f : Nat) {ls : Array Slot} {H : Heap} {locs : List Loc} {S : HP} {x0 : Int} {x1 : Int} (hp : e_Pic D cA B S s H) (hS : va_S (e_A B) s.heap H locs) (hl : e_lo ls 2 [(0, e_rv B (x0)), (1, .int (iI (x1)))]) (hsh : s13_doesLine_l15 f S x0 x1 = some res), W p l e ({ frames := 8, cells := 0, slots := 0, locals := 185 } : Room) s m args below meth c H locs 0 0 (MQ below (e_Qi D cA B res.1 res.2) args s 0 0 (e_A B)) (F0 m 15 ls []) := by
  obtain ⟨hx, hb, hml, hown, hts, hlk, hrt⟩ := id E
  intro f
  induction f with
  | zero => intro ls H locs S x0 x1 hp hS hl hsh; cases hsh
  | succ f ih =>
    intro ls H locs S x0 x1 hp hS hl hsh
    have hk15 : ∀ {ls : Array Slot} {H : Heap} {locs : List Loc} {S : HP} {x0 : Int} {x1 : Int} (hp : e_Pic D cA B S s H) (hS : va_S (e_A B) s.heap H locs) (hl : e_lo ls 2 [(0, e_rv B (x0)), (1, .int (iI (x1)))]) (hsh : (s13_doesLine_l15 f) S x0 x1 = some res), W p l e ({ frames := 8, cells := 0, slots := 0, locals := 185 } : Room) s m args below meth c H locs 0 0 (MQ below (e_Qi D cA B res.1 res.2) args s 0 0 (e_A B)) (F0 m 15 ls []) := ih
    generalize hkk : s13_doesLine_l15 f = k15 at hk15
    rw [s13_doesLine_l15] at hsh
    rw [hkk] at hsh
    try dsimp only at hsh
    refine lv_iload_n hx hb dX13_doesLine_15 rfl (hl.at 1 rfl) ?_
    refine e_aload_n (B := B) (x := x0) hx hb dX13_doesLine_16 rfl (hl.at 0 rfl) ?_
    obtain ⟨v17, h17, hsh⟩ := Option.bind_eq_some_iff.mp hsh
    refine e_getI (k := 102) hx hb hts in_X13 hown hp h17 rfl (by decide) (by decide) rfl (hts _ kf13_773) rfl dX13_doesLine_17 ?_
    refine e_icmp_ge (tgt := 41) hx hb dX13_doesLine_20 (by decide) (fun c20 => ?_) (fun c20 => ?_)
    · rw [if_pos c20] at hsh
      refine e_aload_n (B := B) (x := x0) hx hb dX13_doesLine_41 rfl (hl.at 0 rfl) ?_
      obtain ⟨⟨v42, S42⟩, h42, hsh⟩ := Option.bind_eq_some_iff.mp hsh
      have hsh : _ = _ := hsh
      try dsimp only at hsh
      have ok42 := ok13_readsRange h42
      refine e_callI (nL := 2) (mc := 0) (ms := 0) (T := TX13) (N := 126) (As := []) (rest := []) hx hb hml hown hts hp hS hl.size ok42.1 ok42.2.1 ok42.2.2 rfl (by decide) (c13_readsRange l D cA B S S42 (x0) v42 h42) rfl rfl kd13_readsRange (kl13_917) ks13_readsRange kv13_readsRange ki13 kh13_readsRange ⟨Nat.le_of_ble_eq_true rfl, Nat.le_of_ble_eq_true rfl⟩ rfl (by simp [e_rv_cat, e_int_cat]) ⟨Nat.le_refl _, Nat.le_refl _⟩ dX13_doesLine_42 rfl (fun H locs hp hS => ?_)
      refine e_if_ne (tgt := 50) hx hb dX13_doesLine_45 (by decide) (fun c45 => ?_) (fun c45 => ?_)
      · rw [if_neg c45] at hsh
        refine e_aload_n (B := B) (x := x0) hx hb dX13_doesLine_50 rfl (hl.at 0 rfl) ?_
        refine e_aload_n (B := B) (x := x0) hx hb dX13_doesLine_51 rfl (hl.at 0 rfl) ?_
        obtain ⟨v52, h52, hsh⟩ := Option.bind_eq_some_iff.mp hsh
        refine e_getI (k := 105) hx hb hts in_X13 hown hp h52 rfl (by decide) (by decide) rfl (hts _ kf13_861) rfl dX13_doesLine_52 ?_
        obtain ⟨⟨v55, S55⟩, h55, hsh⟩ := Option.bind_eq_some_iff.mp hsh
        have hsh : _ = _ := hsh
        try dsimp only at hsh
        have ok55 := ok13_codeAt h55
        refine e_callI (nL := 2) (mc := 0) (ms := 0) (T := TX13) (N := 126) (As := [.int (iI (v52))]) (rest := []) hx hb hml hown hts hp hS hl.size ok55.1 ok55.2.1 ok55.2.2 rfl (by decide) (c13_codeAt l D cA B S42 S55 (x0) (v52) v55 h55) rfl rfl kd13_codeAt (kl13_864) ks13_codeAt kv13_codeAt ki13 kh13_codeAt ⟨Nat.le_of_ble_eq_true rfl, Nat.le_of_ble_eq_true rfl⟩ rfl (by simp [e_rv_cat, e_int_cat]) ⟨Nat.le_refl _, Nat.le_refl _⟩ dX13_doesLine_55 rfl (fun H locs hp hS => ?_)
        refine lv_bipush (v := iI (103)) hx hb dX13_doesLine_58 (by decide +kernel) ?_
        refine e_icmp_ne (tgt := 78) hx hb dX13_doesLine_60 (by decide) (fun c60 => ?_) (fun c60 => ?_)
        · rw [if_neg c60] at hsh
          refine e_aload_n (B := B) (x := x0) hx hb dX13_doesLine_78 rfl (hl.at 0 rfl) ?_
          obtain ⟨⟨v79, S79⟩, h79, hsh⟩ := Option.bind_eq_some_iff.mp hsh
          have hsh : _ = _ := hsh
          try dsimp only at hsh
          have ok79 := ok13_doesOnLines h79
          refine e_callI (nL := 2) (mc := 0) (ms := 0) (T := TX13) (N := 126) (As := []) (rest := []) hx hb hml hown hts hp hS hl.size ok79.1 ok79.2.1 ok79.2.2 rfl (by decide) (c13_doesOnLines l D cA B S55 S79 (x0) v79 h79) rfl rfl kd13_doesOnLines (kl13_923) ks13_doesOnLines kv13_doesOnLines ki13 kh13_doesOnLines ⟨Nat.le_of_ble_eq_true rfl, Nat.le_of_ble_eq_true rfl⟩ rfl (by simp [e_rv_cat, e_int_cat]) ⟨Nat.le_refl _, Nat.le_refl _⟩ dX13_doesLine_79 rfl (fun H locs hp hS => ?_)
          obtain ⟨hz, hz1, hz2⟩ := zR_some hsh
          rw [← hz1, ← hz2]
          exact e_zret hx hb hrt hlk hp hS hz dX13_doesLine_82
        · rw [if_pos c60] at hsh
          refine e_aload_n (B := B) (x := x0) hx hb dX13_doesLine_63 rfl (hl.at 0 rfl) ?_
          refine lv_dup hx hb dX13_doesLine_64 (e_rv_cat _ _) ?_
          obtain ⟨v65, h65, hsh⟩ := Option.bind_eq_some_iff.mp hsh
          refine e_getI (k := 105) hx hb hts in_X13 hown hp h65 rfl (by decide) (by decide) rfl (hts _ kf13_861) rfl dX13_doesLine_65 ?_
          refine lv_iconst (v := iI (1)) hx hb dX13_doesLine_68 rfl ?_
          refine e_iadd hx hb dX13_doesLine_69 ?_
          obtain ⟨S70, h70, hsh⟩ := Option.bind_eq_some_iff.mp hsh
          refine e_putI (k := 105) hx hb hts in_X13 tyX13 tyX13_ok nmX13 hown hp hS h70 rfl (by decide) (by decide) rfl (hts _ kf13_861) rfl rfl (by decide +kernel) dX13_doesLine_70 (fun H locs hp hS => ?_)
          refine e_aload_n (B := B) (x := x0) hx hb dX13_doesLine_73 rfl (hl.at 0 rfl) ?_
          obtain ⟨⟨v74, S74⟩, h74, hsh⟩ := Option.bind_eq_some_iff.mp hsh
          have hsh : _ = _ := hsh
          try dsimp only at hsh
          have ok74 := ok13_beginsMarked h74
          refine e_callI (nL := 2) (mc := 0) (ms := 0) (T := TX13) (N := 126) (As := []) (rest := []) hx hb hml hown hts hp hS hl.size ok74.1 ok74.2.1 ok74.2.2 rfl (by decide) (c13_beginsMarked l D cA B S70 S74 (x0) v74 h74) rfl rfl kd13_beginsMarked (kl13_920) ks13_beginsMarked kv13_beginsMarked ki13 kh13_beginsMarked ⟨Nat.le_of_ble_eq_true rfl, Nat.le_of_ble_eq_true rfl⟩ rfl (by simp [e_rv_cat, e_int_cat]) ⟨Nat.le_refl _, Nat.le_refl _⟩ dX13_doesLine_74 rfl (fun H locs hp hS => ?_)
          obtain ⟨hz, hz1, hz2⟩ := zR_some hsh
          rw [← hz1, ← hz2]
          exact e_zret hx hb hrt hlk hp hS hz dX13_doesLine_77
      · rw [if_pos c45] at hsh
        refine lv_iconst (v := iI (0)) hx hb dX13_doesLine_48 rfl ?_
        obtain ⟨hz, hz1, hz2⟩ := zR_some hsh
        rw [← hz1, ← hz2]
        exact e_zret hx hb hrt hlk hp hS hz dX13_doesLine_49
    · rw [if_neg c20] at hsh
      refine e_aload_n (B := B) (x := x0) hx hb dX13_doesLine_23 rfl (hl.at 0 rfl) ?_
      obtain ⟨v24, h24, hsh⟩ := Option.bind_eq_some_iff.mp hsh
      refine e_getR (k := 106) hx hb hts in_X13 hown hp h24 rfl (by decide) (by decide) rfl (hts _ kf13_154) rfl dX13_doesLine_24 ?_
      refine lv_iload_n hx hb dX13_doesLine_27 rfl (hl.at 1 rfl) ?_
      refine e_aload_n (B := B) (x := x0) hx hb dX13_doesLine_28 rfl (hl.at 0 rfl) ?_
      obtain ⟨v29, h29, hsh⟩ := Option.bind_eq_some_iff.mp hsh
      refine e_getR (k := 103) hx hb hts in_X13 hown hp h29 rfl (by decide) (by decide) rfl (hts _ kf13_151) rfl dX13_doesLine_29 ?_
      refine lv_iload_n hx hb dX13_doesLine_32 rfl (hl.at 1 rfl) ?_
      obtain ⟨v33, h33, hsh⟩ := Option.bind_eq_some_iff.mp hsh
      refine e_iald hx hb hp h33 dX13_doesLine_33 ?_
      obtain ⟨S34, h34, hsh⟩ := Option.bind_eq_some_iff.mp hsh
      refine e_iast hx hb hp hS h34 dX13_doesLine_34 (fun H locs hp hS => ?_)
      refine e_iinc (n := 1) (x := x1) (lv' := [(1, .int (iI ((x1 + 1)))), (0, e_rv B (x0))]) hx hb dX13_doesLine_35 hl (k := 1) rfl (by decide) rfl (fun ls hl => ?_)
      refine lv_goto (tgt := 15) hx hb dX13_doesLine_38 (by decide) ?_
      exact hk15 hp hS (hl.sub [1, 0] rfl) hsh
set_option maxRecDepth 100000 in
set_option maxHeartbeats 4000000 in
theorem c13_doesLine (l : Launch) (D : va_G) (cA : Nat → ClassId) (B : Nat) (S S' : HP) (x0 : Int) (r : Int) (hsh : s13_doesLine S x0 = some (r, S')) : Met l yX13_doesLine (e_wu yX13_doesLine cX13_doesLine 2 (some .boolean)) ({ frames := 8, cells := 0, slots := 0, locals := 185 } : Room) (va_Pc [e_rv B (x0)] (fun U => e_PU D cA B S U)) (e_Qi D cA B r S') 0 0 (e_A B) := by
  refine Met.ofW (cc := cX13_doesLine) (maxL := 2) (ret := (some .boolean)) (by decide +kernel) rfl ?_
  intro p e s m args below meth c s₁ Bd hml hv
  obtain ⟨rfl, hp⟩ := hv
  have hp : e_Pic D cA B S s s.heap := hp
  have hx := Bd.exec
  have hb := Bd.bytes
  have hrt := Bd.returns
  have hlk := Bd.notSynchronized
  have hown : s.vm.findClass RX13 = some m.cls := findClass_of_methodNamed Bd.named
  have hts : ∀ w ∈ e_tb, w.before ([e_rv B (x0)] : List Value).toArray s = true := fun w h => atoms_spec (ws := (e_wu yX13_doesLine cX13_doesLine 2 (some .boolean))) Bd.pre w (List.mem_cons_of_mem _ h)
  have E : e_En p s m ([e_rv B (x0)] : List Value).toArray meth c cX13_doesLine RX13 2 (some .boolean) := ⟨hx, hb, hml, hown, hts, hlk, hrt⟩
  have hS : va_S (e_A B) s.heap s.heap [] := va_S.rf
  have hl := e_entry (vs := [e_rv B (x0)]) (n := 2) (Nat.le_of_ble_eq_true rfl) (e_cc (e_rv_cat _ _) e_cn)
  rw [lg_entry_eq]
  generalize (lg_sl [e_rv B (x0)] ++ List.replicate (2 - (lg_sl [e_rv B (x0)]).length) Slot.unset).toArray = ls at hl ⊢
  generalize ([e_rv B (x0)] : List Value).toArray = args at hts E ⊢
  have hl : e_lo ls 2 [(0, e_rv B (x0))] := hl
  have hsh := (gd_some hsh).2
  refine e_aload_n (B := B) (x := x0) hx hb dX13_doesLine_0 rfl (hl.at 0 rfl) ?_
  refine lv_iconst (v := iI (0)) hx hb dX13_doesLine_1 rfl ?_
  obtain ⟨S2, h2, hsh⟩ := Option.bind_eq_some_iff.mp hsh
  refine e_putI (k := 105) hx hb hts in_X13 tyX13 tyX13_ok nmX13 hown hp hS h2 rfl (by decide) (by decide) rfl (hts _ kf13_861) rfl rfl (by decide +kernel) dX13_doesLine_2 (fun H locs hp hS => ?_)
  refine e_aload_n (B := B) (x := x0) hx hb dX13_doesLine_5 rfl (hl.at 0 rfl) ?_
  refine e_aload_n (B := B) (x := x0) hx hb dX13_doesLine_6 rfl (hl.at 0 rfl) ?_
  obtain ⟨v7, h7, hsh⟩ := Option.bind_eq_some_iff.mp hsh
  refine e_getI (k := 102) hx hb hts in_X13 hown hp h7 rfl (by decide) (by decide) rfl (hts _ kf13_773) rfl dX13_doesLine_7 ?_
  obtain ⟨S10, h10, hsh⟩ := Option.bind_eq_some_iff.mp hsh
  refine e_putI (k := 104) hx hb hts in_X13 tyX13 tyX13_ok nmX13 hown hp hS h10 rfl (by decide) (by decide) rfl (hts _ kf13_858) rfl rfl (by decide +kernel) dX13_doesLine_10 (fun H locs hp hS => ?_)
  refine lv_iconst (v := iI (0)) hx hb dX13_doesLine_13 rfl ?_
  refine e_istore_n (lv' := [(1, .int (iI (0))), (0, e_rv B (x0))]) hx hb dX13_doesLine_14 rfl hl (by decide) rfl (fun ls hl => ?_)
  exact w13_doesLine_l15 E 1000000 hp hS (hl.sub [1, 0] rfl) hsh
theorem ok13_lineKey {S : HP} {x0 : Int} {x1 : Int} {r : HP} (h : s13_lineKey S x0 x1 = some r) : 0 ≤ x0 ∧ x0.toNat < e_n S ∧ e_g S x0.toNat = 13 := (gd_some h).1
set_option maxRecDepth 100000 in
set_option maxHeartbeats 4000000 in
theorem w13_lineKey_b115 {p : Program} {l : Launch} {e : Env} {s : State} {m : MethodId} {args : Array Value} {below : List Frame} {meth : Method} {c : Code} {D : va_G} {cA : Nat → ClassId} {B : Nat} {res : HP} (E : e_En p s m args meth c cX13_lineKey RX13 2 none) {ls : Array Slot} {H : Heap} {locs : List Loc} {S : HP} (hp : e_Pic D cA B S s H) (hS : va_S (e_A B) s.heap H locs) (hl : e_lo ls 2 []) (hsh : s13_lineKey_b115 S  = some res) : W p l e ({ frames := 9, cells := 0, slots := 0, locals := 206 } : Room) s m args below meth c H locs 0 0 (MQ below (e_Qv D cA B res) args s 0 0 (e_A B)) (F0 m 115 ls []) := by
  obtain ⟨hx, hb, hml, hown, hts, hlk, hrt⟩ := id E
  unfold s13_lineKey_b115 at hsh
  cases hsh
  exact e_vret hx hb hrt hlk hp hS dX13_lineKey_115
set_option maxRecDepth 100000 in
set_option maxHeartbeats 4000000 in
theorem w13_lineKey_b19 {p : Program} {l : Launch} {e : Env} {s : State} {m : MethodId} {args : Array Value} {below : List Frame} {meth : Method} {c : Code} {D : va_G} {cA : Nat → ClassId} {B : Nat} {res : HP} (E : e_En p s m args meth c cX13_lineKey RX13 2 none) {ls : Array Slot} {H : Heap} {locs : List Loc} {S : HP} {x0 : Int} (hp : e_Pic D cA B S s H) (hS : va_S (e_A B) s.heap H locs) (hl : e_lo ls 2 [(0, e_rv B (x0))]) (hsh : s13_lineKey_b19 S x0 = some res) : W p l e ({ frames := 9, cells := 0, slots := 0, locals := 206 } : Room) s m args below meth c H locs 0 0 (MQ below (e_Qv D cA B res) args s 0 0 (e_A B)) (F0 m 19 ls []) := by
  obtain ⟨hx, hb, hml, hown, hts, hlk, hrt⟩ := id E
  unfold s13_lineKey_b19 at hsh
  refine e_aload_n (B := B) (x := x0) hx hb dX13_lineKey_19 rfl (hl.at 0 rfl) ?_
  refine lv_iconst (v := iI (0)) hx hb dX13_lineKey_20 rfl ?_
  obtain ⟨S21, h21, hsh⟩ := Option.bind_eq_some_iff.mp hsh
  refine e_putI (k := 8) hx hb hts in_X13 tyX13 tyX13_ok nmX13 hown hp hS h21 rfl (by decide) (by decide) rfl (hts _ kf13_466) rfl rfl (by decide +kernel) dX13_lineKey_21 (fun H locs hp hS => ?_)
  refine e_aload_n (B := B) (x := x0) hx hb dX13_lineKey_24 rfl (hl.at 0 rfl) ?_
  obtain ⟨S25, h25, hsh⟩ := Option.bind_eq_some_iff.mp hsh
  have ok25 := ok13_settles h25
  refine e_callV (nL := 2) (mc := 0) (ms := 0) (T := TX13) (N := 126) (As := []) (rest := []) hx hb hml hown hts hp hS hl.size ok25.1 ok25.2.1 ok25.2.2 rfl (by decide) (c13_settles l D cA B S21 S25 (x0) h25) rfl rfl kd13_settles (kl13_723) ks13_settles kv13_settles ki13 kh13_settles ⟨Nat.le_of_ble_eq_true rfl, Nat.le_of_ble_eq_true rfl⟩ rfl (by simp [e_rv_cat, e_int_cat]) ⟨Nat.le_refl _, Nat.le_refl _⟩ dX13_lineKey_25 rfl (fun H locs hp hS => ?_)
  refine lv_goto (tgt := 115) hx hb dX13_lineKey_28 (by decide) ?_
  exact w13_lineKey_b115 E hp hS (hl.sub [] rfl) hsh
set_option maxRecDepth 100000 in
set_option maxHeartbeats 4000000 in
theorem w13_lineKey_b111 {p : Program} {l : Launch} {e : Env} {s : State} {m : MethodId} {args : Array Value} {below : List Frame} {meth : Method} {c : Code} {D : va_G} {cA : Nat → ClassId} {B : Nat} {res : HP} (E : e_En p s m args meth c cX13_lineKey RX13 2 none) {ls : Array Slot} {H : Heap} {locs : List Loc} {S : HP} {x0 : Int} (hp : e_Pic D cA B S s H) (hS : va_S (e_A B) s.heap H locs) (hl : e_lo ls 2 [(0, e_rv B (x0))]) (hsh : s13_lineKey_b111 S x0 = some res) : W p l e ({ frames := 9, cells := 0, slots := 0, locals := 206 } : Room) s m args below meth c H locs 0 0 (MQ below (e_Qv D cA B res) args s 0 0 (e_A B)) (F0 m 111 ls []) := by
  obtain ⟨hx, hb, hml, hown, hts, hlk, hrt⟩ := id E
  unfold s13_lineKey_b111 at hsh
  refine e_aload_n (B := B) (x := x0) hx hb dX13_lineKey_111 rfl (hl.at 0 rfl) ?_
  obtain ⟨S112, h112, hsh⟩ := Option.bind_eq_some_iff.mp hsh
  have ok112 := ok13_settles h112
  refine e_callV (nL := 2) (mc := 0) (ms := 0) (T := TX13) (N := 126) (As := []) (rest := []) hx hb hml hown hts hp hS hl.size ok112.1 ok112.2.1 ok112.2.2 rfl (by decide) (c13_settles l D cA B S S112 (x0) h112) rfl rfl kd13_settles (kl13_723) ks13_settles kv13_settles ki13 kh13_settles ⟨Nat.le_of_ble_eq_true rfl, Nat.le_of_ble_eq_true rfl⟩ rfl (by simp [e_rv_cat, e_int_cat]) ⟨Nat.le_refl _, Nat.le_refl _⟩ dX13_lineKey_112 rfl (fun H locs hp hS => ?_)
  exact w13_lineKey_b115 E hp hS (hl.sub [] rfl) hsh
set_option maxRecDepth 100000 in
set_option maxHeartbeats 4000000 in
theorem w13_lineKey_b89 {p : Program} {l : Launch} {e : Env} {s : State} {m : MethodId} {args : Array Value} {below : List Frame} {meth : Method} {c : Code} {D : va_G} {cA : Nat → ClassId} {B : Nat} {res : HP} (E : e_En p s m args meth c cX13_lineKey RX13 2 none) {ls : Array Slot} {H : Heap} {locs : List Loc} {S : HP} {x0 : Int} {x1 : Int} (hp : e_Pic D cA B S s H) (hS : va_S (e_A B) s.heap H locs) (hl : e_lo ls 2 [(0, e_rv B (x0)), (1, .int (iI (x1)))]) (hsh : s13_lineKey_b89 S x0 x1 = some res) : W p l e ({ frames := 9, cells := 0, slots := 0, locals := 206 } : Room) s m args below meth c H locs 0 0 (MQ below (e_Qv D cA B res) args s 0 0 (e_A B)) (F0 m 89 ls []) := by
  obtain ⟨hx, hb, hml, hown, hts, hlk, hrt⟩ := id E
  unfold s13_lineKey_b89 at hsh
  refine lv_iload_n hx hb dX13_lineKey_89 rfl (hl.at 1 rfl) ?_
  refine lv_bipush (v := iI (13)) hx hb dX13_lineKey_90 (by decide +kernel) ?_
  refine e_icmp_ne (tgt := 115) hx hb dX13_lineKey_92 (by decide) (fun c92 => ?_) (fun c92 => ?_)
  · rw [if_neg c92] at hsh
    exact w13_lineKey_b115 E hp hS (hl.sub [] rfl) hsh
  · rw [if_pos c92] at hsh
    refine e_aload_n (B := B) (x := x0) hx hb dX13_lineKey_95 rfl (hl.at 0 rfl) ?_
    refine lv_iconst (v := iI (0)) hx hb dX13_lineKey_96 rfl ?_
    obtain ⟨S97, h97, hsh⟩ := Option.bind_eq_some_iff.mp hsh
    refine e_putI (k := 8) hx hb hts in_X13 tyX13 tyX13_ok nmX13 hown hp hS h97 rfl (by decide) (by decide) rfl (hts _ kf13_466) rfl rfl (by decide +kernel) dX13_lineKey_97 (fun H locs hp hS => ?_)
    refine e_aload_n (B := B) (x := x0) hx hb dX13_lineKey_100 rfl (hl.at 0 rfl) ?_
    obtain ⟨⟨v101, S101⟩, h101, hsh⟩ := Option.bind_eq_some_iff.mp hsh
    have hsh : _ = _ := hsh
    try dsimp only at hsh
    have ok101 := ok13_doesLine h101
    refine e_callI (nL := 2) (mc := 0) (ms := 0) (T := TX13) (N := 126) (As := []) (rest := []) hx hb hml hown hts hp hS hl.size ok101.1 ok101.2.1 ok101.2.2 rfl (by decide) (c13_doesLine l D cA B S97 S101 (x0) v101 h101) rfl rfl kd13_doesLine (kl13_926) ks13_doesLine kv13_doesLine ki13 kh13_doesLine ⟨Nat.le_of_ble_eq_true rfl, Nat.le_of_ble_eq_true rfl⟩ rfl (by simp [e_rv_cat, e_int_cat]) ⟨Nat.le_refl _, Nat.le_refl _⟩ dX13_lineKey_101 rfl (fun H locs hp hS => ?_)
    refine e_if_ne (tgt := 111) hx hb dX13_lineKey_104 (by decide) (fun c104 => ?_) (fun c104 => ?_)
    · rw [if_neg c104] at hsh
      exact w13_lineKey_b111 E hp hS (hl.sub [0] rfl) hsh
    · rw [if_pos c104] at hsh
      refine e_aload_n (B := B) (x := x0) hx hb dX13_lineKey_107 rfl (hl.at 0 rfl) ?_
      obtain ⟨S108, h108, hsh⟩ := Option.bind_eq_some_iff.mp hsh
      have ok108 := ok13_fails h108
      refine e_callV (nL := 2) (mc := 0) (ms := 0) (T := TX13) (N := 126) (As := []) (rest := []) hx hb hml hown hts hp hS hl.size ok108.1 ok108.2.1 ok108.2.2 rfl (by decide) (c13_fails l D cA B S101 S108 (x0) h108) rfl rfl kd13_fails (kl13_929) ks13_fails kv13_fails ki13 kh13_fails ⟨Nat.le_of_ble_eq_true rfl, Nat.le_of_ble_eq_true rfl⟩ rfl (by simp [e_rv_cat, e_int_cat]) ⟨Nat.le_refl _, Nat.le_refl _⟩ dX13_lineKey_108 rfl (fun H locs hp hS => ?_)
      exact w13_lineKey_b111 E hp hS (hl.sub [0] rfl) hsh
set_option maxRecDepth 100000 in
set_option maxHeartbeats 4000000 in
theorem w13_lineKey_b31 {p : Program} {l : Launch} {e : Env} {s : State} {m : MethodId} {args : Array Value} {below : List Frame} {meth : Method} {c : Code} {D : va_G} {cA : Nat → ClassId} {B : Nat} {res : HP} (E : e_En p s m args meth c cX13_lineKey RX13 2 none) {ls : Array Slot} {H : Heap} {locs : List Loc} {S : HP} {x0 : Int} {x1 : Int} (hp : e_Pic D cA B S s H) (hS : va_S (e_A B) s.heap H locs) (hl : e_lo ls 2 [(0, e_rv B (x0)), (1, .int (iI (x1)))]) (hsh : s13_lineKey_b31 S x0 x1 = some res) : W p l e ({ frames := 9, cells := 0, slots := 0, locals := 206 } : Room) s m args below meth c H locs 0 0 (MQ below (e_Qv D cA B res) args s 0 0 (e_A B)) (F0 m 31 ls []) := by
  obtain ⟨hx, hb, hml, hown, hts, hlk, hrt⟩ := id E
  unfold s13_lineKey_b31 at hsh
  refine lv_iload_n hx hb dX13_lineKey_31 rfl (hl.at 1 rfl) ?_
  refine lv_bipush (v := iI (8)) hx hb dX13_lineKey_32 (by decide +kernel) ?_
  refine e_icmp_ne (tgt := 50) hx hb dX13_lineKey_34 (by decide) (fun c34 => ?_) (fun c34 => ?_)
  · rw [if_neg c34] at hsh
    refine lv_iload_n hx hb dX13_lineKey_50 rfl (hl.at 1 rfl) ?_
    obtain ⟨⟨v51, S51⟩, h51, hsh⟩ := Option.bind_eq_some_iff.mp hsh
    have hsh : _ = _ := hsh
    try dsimp only at hsh
    refine e_callS (nL := 2) (mc := 0) (ms := 0) (As := [.int (iI (x1))]) (rest := []) hx hb hml hown hts hp hS hl.size (c13_isSign l D cA B S S51 (x1) v51 h51) rfl rfl kd13_isSign (kl13_202) ks13_isSign ki13 kh13_isSign ⟨Nat.le_of_ble_eq_true rfl, Nat.le_of_ble_eq_true rfl⟩ rfl (by simp [e_rv_cat, e_int_cat]) ⟨Nat.le_refl _, Nat.le_refl _⟩ dX13_lineKey_51 rfl (fun H locs hp hS => ?_)
    refine e_if_eq (tgt := 89) hx hb dX13_lineKey_54 (by decide) (fun c54 => ?_) (fun c54 => ?_)
    · rw [if_pos c54] at hsh
      exact w13_lineKey_b89 E hp hS (hl.sub [0, 1] rfl) hsh
    · rw [if_neg c54] at hsh
      refine e_aload_n (B := B) (x := x0) hx hb dX13_lineKey_57 rfl (hl.at 0 rfl) ?_
      obtain ⟨v58, h58, hsh⟩ := Option.bind_eq_some_iff.mp hsh
      refine e_getI (k := 102) hx hb hts in_X13 hown hp h58 rfl (by decide) (by decide) rfl (hts _ kf13_773) rfl dX13_lineKey_58 ?_
      refine lv_bipush (v := iI (60)) hx hb dX13_lineKey_61 (by decide +kernel) ?_
      refine e_icmp_ge (tgt := 89) hx hb dX13_lineKey_63 (by decide) (fun c63 => ?_) (fun c63 => ?_)
      · rw [if_pos c63] at hsh
        exact w13_lineKey_b89 E hp hS (hl.sub [0, 1] rfl) hsh
      · rw [if_neg c63] at hsh
        refine e_aload_n (B := B) (x := x0) hx hb dX13_lineKey_66 rfl (hl.at 0 rfl) ?_
        obtain ⟨v67, h67, hsh⟩ := Option.bind_eq_some_iff.mp hsh
        refine e_getR (k := 103) hx hb hts in_X13 hown hp h67 rfl (by decide) (by decide) rfl (hts _ kf13_151) rfl dX13_lineKey_67 ?_
        refine e_aload_n (B := B) (x := x0) hx hb dX13_lineKey_70 rfl (hl.at 0 rfl) ?_
        obtain ⟨v71, h71, hsh⟩ := Option.bind_eq_some_iff.mp hsh
        refine e_getI (k := 102) hx hb hts in_X13 hown hp h71 rfl (by decide) (by decide) rfl (hts _ kf13_773) rfl dX13_lineKey_71 ?_
        refine lv_iload_n hx hb dX13_lineKey_74 rfl (hl.at 1 rfl) ?_
        obtain ⟨S75, h75, hsh⟩ := Option.bind_eq_some_iff.mp hsh
        refine e_iast hx hb hp hS h75 dX13_lineKey_75 (fun H locs hp hS => ?_)
        refine e_aload_n (B := B) (x := x0) hx hb dX13_lineKey_76 rfl (hl.at 0 rfl) ?_
        refine lv_dup hx hb dX13_lineKey_77 (e_rv_cat _ _) ?_
        obtain ⟨v78, h78, hsh⟩ := Option.bind_eq_some_iff.mp hsh
        refine e_getI (k := 102) hx hb hts in_X13 hown hp h78 rfl (by decide) (by decide) rfl (hts _ kf13_773) rfl dX13_lineKey_78 ?_
        refine lv_iconst (v := iI (1)) hx hb dX13_lineKey_81 rfl ?_
        refine e_iadd hx hb dX13_lineKey_82 ?_
        obtain ⟨S83, h83, hsh⟩ := Option.bind_eq_some_iff.mp hsh
        refine e_putI (k := 102) hx hb hts in_X13 tyX13 tyX13_ok nmX13 hown hp hS h83 rfl (by decide) (by decide) rfl (hts _ kf13_773) rfl rfl (by decide +kernel) dX13_lineKey_83 (fun H locs hp hS => ?_)
        refine lv_goto (tgt := 115) hx hb dX13_lineKey_86 (by decide) ?_
        exact w13_lineKey_b115 E hp hS (hl.sub [] rfl) hsh
  · rw [if_pos c34] at hsh
    refine e_aload_n (B := B) (x := x0) hx hb dX13_lineKey_37 rfl (hl.at 0 rfl) ?_
    refine lv_dup hx hb dX13_lineKey_38 (e_rv_cat _ _) ?_
    obtain ⟨v39, h39, hsh⟩ := Option.bind_eq_some_iff.mp hsh
    refine e_getI (k := 102) hx hb hts in_X13 hown hp h39 rfl (by decide) (by decide) rfl (hts _ kf13_773) rfl dX13_lineKey_39 ?_
    refine lv_iconst (v := iI (1)) hx hb dX13_lineKey_42 rfl ?_
    refine e_isub hx hb dX13_lineKey_43 ?_
    obtain ⟨S44, h44, hsh⟩ := Option.bind_eq_some_iff.mp hsh
    refine e_putI (k := 102) hx hb hts in_X13 tyX13 tyX13_ok nmX13 hown hp hS h44 rfl (by decide) (by decide) rfl (hts _ kf13_773) rfl rfl (by decide +kernel) dX13_lineKey_44 (fun H locs hp hS => ?_)
    refine lv_goto (tgt := 115) hx hb dX13_lineKey_47 (by decide) ?_
    exact w13_lineKey_b115 E hp hS (hl.sub [] rfl) hsh
set_option maxRecDepth 100000 in
set_option maxHeartbeats 4000000 in
theorem c13_lineKey (l : Launch) (D : va_G) (cA : Nat → ClassId) (B : Nat) (S S' : HP) (x0 : Int) (x1 : Int) (hsh : s13_lineKey S x0 x1 = some S') : Met l yX13_lineKey (e_wu yX13_lineKey cX13_lineKey 2 none) ({ frames := 9, cells := 0, slots := 0, locals := 206 } : Room) (va_Pc [e_rv B (x0), .int (iI (x1))] (fun U => e_PU D cA B S U)) (e_Qv D cA B S') 0 0 (e_A B) := by
  refine Met.ofW (cc := cX13_lineKey) (maxL := 2) (ret := none) (by decide +kernel) rfl ?_
  intro p e s m args below meth c s₁ Bd hml hv
  obtain ⟨rfl, hp⟩ := hv
  have hp : e_Pic D cA B S s s.heap := hp
  have hx := Bd.exec
  have hb := Bd.bytes
  have hrt := Bd.returns
  have hlk := Bd.notSynchronized
  have hown : s.vm.findClass RX13 = some m.cls := findClass_of_methodNamed Bd.named
  have hts : ∀ w ∈ e_tb, w.before ([e_rv B (x0), .int (iI (x1))] : List Value).toArray s = true := fun w h => atoms_spec (ws := (e_wu yX13_lineKey cX13_lineKey 2 none)) Bd.pre w (List.mem_cons_of_mem _ h)
  have E : e_En p s m ([e_rv B (x0), .int (iI (x1))] : List Value).toArray meth c cX13_lineKey RX13 2 none := ⟨hx, hb, hml, hown, hts, hlk, hrt⟩
  have hS : va_S (e_A B) s.heap s.heap [] := va_S.rf
  have hl := e_entry (vs := [e_rv B (x0), .int (iI (x1))]) (n := 2) (Nat.le_of_ble_eq_true rfl) (e_cc (e_rv_cat _ _) (e_cc rfl e_cn))
  rw [lg_entry_eq]
  generalize (lg_sl [e_rv B (x0), .int (iI (x1))] ++ List.replicate (2 - (lg_sl [e_rv B (x0), .int (iI (x1))]).length) Slot.unset).toArray = ls at hl ⊢
  generalize ([e_rv B (x0), .int (iI (x1))] : List Value).toArray = args at hts E ⊢
  have hl : e_lo ls 2 [(0, e_rv B (x0)), (1, .int (iI (x1)))] := hl
  have hsh := (gd_some hsh).2
  refine lv_iload_n hx hb dX13_lineKey_0 rfl (hl.at 1 rfl) ?_
  refine lv_bipush (v := iI (27)) hx hb dX13_lineKey_1 (by decide +kernel) ?_
  refine e_icmp_eq (tgt := 19) hx hb dX13_lineKey_3 (by decide) (fun c3 => ?_) (fun c3 => ?_)
  · rw [if_pos c3] at hsh
    exact w13_lineKey_b19 E hp hS (hl.sub [0] rfl) hsh
  · rw [if_neg c3] at hsh
    refine lv_iload_n hx hb dX13_lineKey_6 rfl (hl.at 1 rfl) ?_
    refine lv_bipush (v := iI (8)) hx hb dX13_lineKey_7 (by decide +kernel) ?_
    refine e_icmp_ne (tgt := 31) hx hb dX13_lineKey_9 (by decide) (fun c9 => ?_) (fun c9 => ?_)
    · rw [if_neg c9] at hsh
      exact w13_lineKey_b31 E hp hS (hl.sub [0, 1] rfl) hsh
    · rw [if_pos c9] at hsh
      refine e_aload_n (B := B) (x := x0) hx hb dX13_lineKey_12 rfl (hl.at 0 rfl) ?_
      obtain ⟨v13, h13, hsh⟩ := Option.bind_eq_some_iff.mp hsh
      refine e_getI (k := 102) hx hb hts in_X13 hown hp h13 rfl (by decide) (by decide) rfl (hts _ kf13_773) rfl dX13_lineKey_13 ?_
      refine e_if_ne (tgt := 31) hx hb dX13_lineKey_16 (by decide) (fun c16 => ?_) (fun c16 => ?_)
      · rw [if_neg c16] at hsh
        exact w13_lineKey_b31 E hp hS (hl.sub [0, 1] rfl) hsh
      · rw [if_pos c16] at hsh
        exact w13_lineKey_b19 E hp hS (hl.sub [0] rfl) hsh
theorem ok13_commandKey {S : HP} {x0 : Int} {x1 : Int} {r : HP} (h : s13_commandKey S x0 x1 = some r) : 0 ≤ x0 ∧ x0.toNat < e_n S ∧ e_g S x0.toNat = 13 := (gd_some h).1
set_option maxRecDepth 100000 in
set_option maxHeartbeats 4000000 in
theorem w13_commandKey_b256 {p : Program} {l : Launch} {e : Env} {s : State} {m : MethodId} {args : Array Value} {below : List Frame} {meth : Method} {c : Code} {D : va_G} {cA : Nat → ClassId} {B : Nat} {res : HP} (E : e_En p s m args meth c cX13_commandKey RX13 4 none) {ls : Array Slot} {H : Heap} {locs : List Loc} {S : HP} (hp : e_Pic D cA B S s H) (hS : va_S (e_A B) s.heap H locs) (hl : e_lo ls 4 []) (hsh : s13_commandKey_b256 S  = some res) : W p l e ({ frames := 11, cells := 0, slots := 0, locals := 255 } : Room) s m args below meth c H locs 0 0 (MQ below (e_Qv D cA B res) args s 0 0 (e_A B)) (F0 m 256 ls []) := by
  obtain ⟨hx, hb, hml, hown, hts, hlk, hrt⟩ := id E
  unfold s13_commandKey_b256 at hsh
  cases hsh
  exact e_vret hx hb hrt hlk hp hS dX13_commandKey_256
set_option maxRecDepth 100000 in
set_option maxHeartbeats 4000000 in
theorem w13_commandKey_b228 {p : Program} {l : Launch} {e : Env} {s : State} {m : MethodId} {args : Array Value} {below : List Frame} {meth : Method} {c : Code} {D : va_G} {cA : Nat → ClassId} {B : Nat} {res : HP} (E : e_En p s m args meth c cX13_commandKey RX13 4 none) {ls : Array Slot} {H : Heap} {locs : List Loc} {S : HP} {x0 : Int} (hp : e_Pic D cA B S s H) (hS : va_S (e_A B) s.heap H locs) (hl : e_lo ls 4 [(0, e_rv B (x0))]) (hsh : s13_commandKey_b228 S x0 = some res) : W p l e ({ frames := 11, cells := 0, slots := 0, locals := 255 } : Room) s m args below meth c H locs 0 0 (MQ below (e_Qv D cA B res) args s 0 0 (e_A B)) (F0 m 228 ls []) := by
  obtain ⟨hx, hb, hml, hown, hts, hlk, hrt⟩ := id E
  unfold s13_commandKey_b228 at hsh
  refine e_aload_n (B := B) (x := x0) hx hb dX13_commandKey_228 rfl (hl.at 0 rfl) ?_
  obtain ⟨S229, h229, hsh⟩ := Option.bind_eq_some_iff.mp hsh
  have ok229 := ok13_fails h229
  refine e_callV (nL := 4) (mc := 0) (ms := 0) (T := TX13) (N := 126) (As := []) (rest := []) hx hb hml hown hts hp hS hl.size ok229.1 ok229.2.1 ok229.2.2 rfl (by decide) (c13_fails l D cA B S S229 (x0) h229) rfl rfl kd13_fails (kl13_929) ks13_fails kv13_fails ki13 kh13_fails ⟨Nat.le_of_ble_eq_true rfl, Nat.le_of_ble_eq_true rfl⟩ rfl (by simp [e_rv_cat, e_int_cat]) ⟨Nat.le_refl _, Nat.le_refl _⟩ dX13_commandKey_229 rfl (fun H locs hp hS => ?_)
  refine e_aload_n (B := B) (x := x0) hx hb dX13_commandKey_232 rfl (hl.at 0 rfl) ?_
  obtain ⟨⟨v233, S233⟩, h233, hsh⟩ := Option.bind_eq_some_iff.mp hsh
  have hsh : _ = _ := hsh
  try dsimp only at hsh
  have ok233 := ok13_isServing h233
  refine e_callI (nL := 4) (mc := 0) (ms := 0) (T := TX13) (N := 126) (As := []) (rest := []) hx hb hml hown hts hp hS hl.size ok233.1 ok233.2.1 ok233.2.2 rfl (by decide) (c13_isServing l D cA B S229 S233 (x0) v233 h233) rfl rfl kd13_isServing (kl13_247) ks13_isServing kv13_isServing ki13 kh13_isServing ⟨Nat.le_of_ble_eq_true rfl, Nat.le_of_ble_eq_true rfl⟩ rfl (by simp [e_rv_cat, e_int_cat]) ⟨Nat.le_refl _, Nat.le_refl _⟩ dX13_commandKey_233 rfl (fun H locs hp hS => ?_)
  refine e_if_ne (tgt := 256) hx hb dX13_commandKey_236 (by decide) (fun c236 => ?_) (fun c236 => ?_)
  · rw [if_neg c236] at hsh
    exact w13_commandKey_b256 E hp hS (hl.sub [] rfl) hsh
  · rw [if_pos c236] at hsh
    refine e_aload_n (B := B) (x := x0) hx hb dX13_commandKey_239 rfl (hl.at 0 rfl) ?_
    obtain ⟨S240, h240, hsh⟩ := Option.bind_eq_some_iff.mp hsh
    have ok240 := ok13_settles h240
    refine e_callV (nL := 4) (mc := 0) (ms := 0) (T := TX13) (N := 126) (As := []) (rest := []) hx hb hml hown hts hp hS hl.size ok240.1 ok240.2.1 ok240.2.2 rfl (by decide) (c13_settles l D cA B S233 S240 (x0) h240) rfl rfl kd13_settles (kl13_723) ks13_settles kv13_settles ki13 kh13_settles ⟨Nat.le_of_ble_eq_true rfl, Nat.le_of_ble_eq_true rfl⟩ rfl (by simp [e_rv_cat, e_int_cat]) ⟨Nat.le_refl _, Nat.le_refl _⟩ dX13_commandKey_240 rfl (fun H locs hp hS => ?_)
    refine lv_goto (tgt := 256) hx hb dX13_commandKey_243 (by decide) ?_
    exact w13_commandKey_b256 E hp hS (hl.sub [] rfl) hsh
set_option maxRecDepth 100000 in
set_option maxHeartbeats 4000000 in
theorem w13_commandKey_b246 {p : Program} {l : Launch} {e : Env} {s : State} {m : MethodId} {args : Array Value} {below : List Frame} {meth : Method} {c : Code} {D : va_G} {cA : Nat → ClassId} {B : Nat} {res : HP} (E : e_En p s m args meth c cX13_commandKey RX13 4 none) {ls : Array Slot} {H : Heap} {locs : List Loc} {S : HP} {x0 : Int} {x2 : Int} {x3 : Int} (hp : e_Pic D cA B S s H) (hS : va_S (e_A B) s.heap H locs) (hl : e_lo ls 4 [(0, e_rv B (x0)), (2, .int (iI (x2))), (3, .int (iI (x3)))]) (hsh : s13_commandKey_b246 S x0 x2 x3 = some res) : W p l e ({ frames := 11, cells := 0, slots := 0, locals := 255 } : Room) s m args below meth c H locs 0 0 (MQ below (e_Qv D cA B res) args s 0 0 (e_A B)) (F0 m 246 ls []) := by
  obtain ⟨hx, hb, hml, hown, hts, hlk, hrt⟩ := id E
  unfold s13_commandKey_b246 at hsh
  refine lv_iload_n hx hb dX13_commandKey_246 rfl (hl.at 1 rfl) ?_
  refine lv_iconst (v := iI (2)) hx hb dX13_commandKey_247 rfl ?_
  refine e_icmp_ne (tgt := 256) hx hb dX13_commandKey_248 (by decide) (fun c248 => ?_) (fun c248 => ?_)
  · rw [if_neg c248] at hsh
    exact w13_commandKey_b256 E hp hS (hl.sub [] rfl) hsh
  · rw [if_pos c248] at hsh
    refine e_aload_n (B := B) (x := x0) hx hb dX13_commandKey_251 rfl (hl.at 0 rfl) ?_
    refine lv_iload_n hx hb dX13_commandKey_252 rfl (hl.at 2 rfl) ?_
    obtain ⟨S253, h253, hsh⟩ := Option.bind_eq_some_iff.mp hsh
    have ok253 := ok13_ends h253
    refine e_callV (nL := 4) (mc := 0) (ms := 0) (T := TX13) (N := 126) (As := [.int (iI (x3))]) (rest := []) hx hb hml hown hts hp hS hl.size ok253.1 ok253.2.1 ok253.2.2 rfl (by decide) (c13_ends l D cA B S S253 (x0) (x3) h253) rfl rfl kd13_ends (kl13_944) ks13_ends kv13_ends ki13 kh13_ends ⟨Nat.le_of_ble_eq_true rfl, Nat.le_of_ble_eq_true rfl⟩ rfl (by simp [e_rv_cat, e_int_cat]) ⟨Nat.le_refl _, Nat.le_refl _⟩ dX13_commandKey_253 rfl (fun H locs hp hS => ?_)
    exact w13_commandKey_b256 E hp hS (hl.sub [] rfl) hsh
set_option maxRecDepth 100000 in
set_option maxHeartbeats 4000000 in
theorem w13_commandKey_b196 {p : Program} {l : Launch} {e : Env} {s : State} {m : MethodId} {args : Array Value} {below : List Frame} {meth : Method} {c : Code} {D : va_G} {cA : Nat → ClassId} {B : Nat} {res : HP} (E : e_En p s m args meth c cX13_commandKey RX13 4 none) {ls : Array Slot} {H : Heap} {locs : List Loc} {S : HP} {x0 : Int} {x2 : Int} {y0 : Int} (hp : e_Pic D cA B S s H) (hS : va_S (e_A B) s.heap H locs) (hl : e_lo ls 4 [(0, e_rv B (x0)), (2, .int (iI (x2)))]) (hsh : s13_commandKey_b196 S x0 x2 y0 = some res) : W p l e ({ frames := 11, cells := 0, slots := 0, locals := 255 } : Room) s m args below meth c H locs 0 0 (MQ below (e_Qv D cA B res) args s 0 0 (e_A B)) (F0 m 196 ls [.int (iI (y0))]) := by
  obtain ⟨hx, hb, hml, hown, hts, hlk, hrt⟩ := id E
  unfold s13_commandKey_b196 at hsh
  refine e_istore_n (lv' := [(3, .int (iI (y0))), (0, e_rv B (x0)), (2, .int (iI (x2)))]) hx hb dX13_commandKey_196 rfl hl (by decide) rfl (fun ls hl => ?_)
  refine lv_iload_n hx hb dX13_commandKey_197 rfl (hl.at 2 rfl) ?_
  refine lv_iconst (v := iI (1)) hx hb dX13_commandKey_198 rfl ?_
  refine e_icmp_eq (tgt := 228) hx hb dX13_commandKey_199 (by decide) (fun c199 => ?_) (fun c199 => ?_)
  · rw [if_pos c199] at hsh
    exact w13_commandKey_b228 E hp hS (hl.sub [1] rfl) hsh
  · rw [if_neg c199] at hsh
    refine lv_iload_n hx hb dX13_commandKey_202 rfl (hl.at 2 rfl) ?_
    refine lv_iconst (v := iI (2)) hx hb dX13_commandKey_203 rfl ?_
    refine e_icmp_ne (tgt := 246) hx hb dX13_commandKey_204 (by decide) (fun c204 => ?_) (fun c204 => ?_)
    · rw [if_neg c204] at hsh
      exact w13_commandKey_b246 E hp hS (hl.sub [1, 2, 0] rfl) hsh
    · rw [if_pos c204] at hsh
      refine lv_iload_n hx hb dX13_commandKey_207 rfl (hl.at 0 rfl) ?_
      refine e_if_eq (tgt := 221) hx hb dX13_commandKey_208 (by decide) (fun c208 => ?_) (fun c208 => ?_)
      · rw [if_pos c208] at hsh
        refine e_aload_n (B := B) (x := x0) hx hb dX13_commandKey_221 rfl (hl.at 1 rfl) ?_
        obtain ⟨⟨v222, S222⟩, h222, hsh⟩ := Option.bind_eq_some_iff.mp hsh
        have hsh : _ = _ := hsh
        try dsimp only at hsh
        have ok222 := ok13_doesHere h222
        refine e_callI (nL := 4) (mc := 0) (ms := 0) (T := TX13) (N := 126) (As := []) (rest := []) hx hb hml hown hts hp hS hl.size ok222.1 ok222.2.1 ok222.2.2 rfl (by decide) (c13_doesHere l D cA B S S222 (x0) v222 h222) rfl rfl kd13_doesHere (kl13_941) ks13_doesHere kv13_doesHere ki13 kh13_doesHere ⟨Nat.le_of_ble_eq_true rfl, Nat.le_of_ble_eq_true rfl⟩ rfl (by simp [e_rv_cat, e_int_cat]) ⟨Nat.le_refl _, Nat.le_refl _⟩ dX13_commandKey_222 rfl (fun H locs hp hS => ?_)
        refine e_if_ne (tgt := 246) hx hb dX13_commandKey_225 (by decide) (fun c225 => ?_) (fun c225 => ?_)
        · rw [if_neg c225] at hsh
          exact w13_commandKey_b246 E hp hS (hl.sub [1, 2, 0] rfl) hsh
        · rw [if_pos c225] at hsh
          exact w13_commandKey_b228 E hp hS (hl.sub [1] rfl) hsh
      · rw [if_neg c208] at hsh
        refine e_aload_n (B := B) (x := x0) hx hb dX13_commandKey_211 rfl (hl.at 1 rfl) ?_
        obtain ⟨⟨v212, S212⟩, h212, hsh⟩ := Option.bind_eq_some_iff.mp hsh
        have hsh : _ = _ := hsh
        try dsimp only at hsh
        have ok212 := ok13_does h212
        refine e_callI (nL := 4) (mc := 0) (ms := 0) (T := TX13) (N := 126) (As := []) (rest := []) hx hb hml hown hts hp hS hl.size ok212.1 ok212.2.1 ok212.2.2 rfl (by decide) (c13_does l D cA B S S212 (x0) v212 h212) rfl rfl kd13_does (kl13_938) ks13_does kv13_does ki13 kh13_does ⟨Nat.le_of_ble_eq_true rfl, Nat.le_of_ble_eq_true rfl⟩ rfl (by simp [e_rv_cat, e_int_cat]) ⟨Nat.le_refl _, Nat.le_refl _⟩ dX13_commandKey_212 rfl (fun H locs hp hS => ?_)
        refine e_if_eq (tgt := 228) hx hb dX13_commandKey_215 (by decide) (fun c215 => ?_) (fun c215 => ?_)
        · rw [if_pos c215] at hsh
          exact w13_commandKey_b228 E hp hS (hl.sub [1] rfl) hsh
        · rw [if_neg c215] at hsh
          refine lv_goto (tgt := 246) hx hb dX13_commandKey_218 (by decide) ?_
          exact w13_commandKey_b246 E hp hS (hl.sub [1, 2, 0] rfl) hsh
set_option maxRecDepth 100000 in
set_option maxHeartbeats 4000000 in
theorem w13_commandKey_b179 {p : Program} {l : Launch} {e : Env} {s : State} {m : MethodId} {args : Array Value} {below : List Frame} {meth : Method} {c : Code} {D : va_G} {cA : Nat → ClassId} {B : Nat} {res : HP} (E : e_En p s m args meth c cX13_commandKey RX13 4 none) {ls : Array Slot} {H : Heap} {locs : List Loc} {S : HP} {x0 : Int} (hp : e_Pic D cA B S s H) (hS : va_S (e_A B) s.heap H locs) (hl : e_lo ls 4 [(0, e_rv B (x0))]) (hsh : s13_commandKey_b179 S x0 = some res) : W p l e ({ frames := 11, cells := 0, slots := 0, locals := 255 } : Room) s m args below meth c H locs 0 0 (MQ below (e_Qv D cA B res) args s 0 0 (e_A B)) (F0 m 179 ls []) := by
  obtain ⟨hx, hb, hml, hown, hts, hlk, hrt⟩ := id E
  unfold s13_commandKey_b179 at hsh
  refine e_aload_n (B := B) (x := x0) hx hb dX13_commandKey_179 rfl (hl.at 0 rfl) ?_
  obtain ⟨⟨v180, S180⟩, h180, hsh⟩ := Option.bind_eq_some_iff.mp hsh
  have hsh : _ = _ := hsh
  try dsimp only at hsh
  have ok180 := ok13_reads h180
  refine e_callI (nL := 4) (mc := 0) (ms := 0) (T := TX13) (N := 126) (As := []) (rest := []) hx hb hml hown hts hp hS hl.size ok180.1 ok180.2.1 ok180.2.2 rfl (by decide) (c13_reads l D cA B S S180 (x0) v180 h180) rfl rfl kd13_reads (kl13_935) ks13_reads kv13_reads ki13 kh13_reads ⟨Nat.le_of_ble_eq_true rfl, Nat.le_of_ble_eq_true rfl⟩ rfl (by simp [e_rv_cat, e_int_cat]) ⟨Nat.le_refl _, Nat.le_refl _⟩ dX13_commandKey_180 rfl (fun H locs hp hS => ?_)
  refine e_istore_n (lv' := [(2, .int (iI (v180))), (0, e_rv B (x0))]) hx hb dX13_commandKey_183 rfl hl (by decide) rfl (fun ls hl => ?_)
  refine e_aload_n (B := B) (x := x0) hx hb dX13_commandKey_184 rfl (hl.at 1 rfl) ?_
  obtain ⟨v185, h185, hsh⟩ := Option.bind_eq_some_iff.mp hsh
  refine e_getI (k := 8) hx hb hts in_X13 hown hp h185 rfl (by decide) (by decide) rfl (hts _ kf13_466) rfl dX13_commandKey_185 ?_
  refine e_if_ne (tgt := 195) hx hb dX13_commandKey_188 (by decide) (fun c188 => ?_) (fun c188 => ?_)
  · rw [if_neg c188] at hsh
    refine lv_iconst (v := iI (0)) hx hb dX13_commandKey_195 rfl ?_
    exact w13_commandKey_b196 E hp hS (hl.sub [1, 0] rfl) hsh
  · rw [if_pos c188] at hsh
    refine lv_iconst (v := iI (1)) hx hb dX13_commandKey_191 rfl ?_
    refine lv_goto (tgt := 196) hx hb dX13_commandKey_192 (by decide) ?_
    exact w13_commandKey_b196 E hp hS (hl.sub [1, 0] rfl) hsh
set_option maxRecDepth 100000 in
set_option maxHeartbeats 4000000 in
theorem w13_commandKey_b159 {p : Program} {l : Launch} {e : Env} {s : State} {m : MethodId} {args : Array Value} {below : List Frame} {meth : Method} {c : Code} {D : va_G} {cA : Nat → ClassId} {B : Nat} {res : HP} (E : e_En p s m args meth c cX13_commandKey RX13 4 none) {ls : Array Slot} {H : Heap} {locs : List Loc} {S : HP} {x0 : Int} {x1 : Int} (hp : e_Pic D cA B S s H) (hS : va_S (e_A B) s.heap H locs) (hl : e_lo ls 4 [(0, e_rv B (x0)), (1, .int (iI (x1)))]) (hsh : s13_commandKey_b159 S x0 x1 = some res) : W p l e ({ frames := 11, cells := 0, slots := 0, locals := 255 } : Room) s m args below meth c H locs 0 0 (MQ below (e_Qv D cA B res) args s 0 0 (e_A B)) (F0 m 159 ls []) := by
  obtain ⟨hx, hb, hml, hown, hts, hlk, hrt⟩ := id E
  unfold s13_commandKey_b159 at hsh
  refine e_aload_n (B := B) (x := x0) hx hb dX13_commandKey_159 rfl (hl.at 0 rfl) ?_
  obtain ⟨v160, h160, hsh⟩ := Option.bind_eq_some_iff.mp hsh
  refine e_getR (k := 57) hx hb hts in_X13 hown hp h160 rfl (by decide) (by decide) rfl (hts _ kf13_95) rfl dX13_commandKey_160 ?_
  refine e_aload_n (B := B) (x := x0) hx hb dX13_commandKey_163 rfl (hl.at 0 rfl) ?_
  obtain ⟨v164, h164, hsh⟩ := Option.bind_eq_some_iff.mp hsh
  refine e_getI (k := 55) hx hb hts in_X13 hown hp h164 rfl (by decide) (by decide) rfl (hts _ kf13_609) rfl dX13_commandKey_164 ?_
  refine lv_iload_n hx hb dX13_commandKey_167 rfl (hl.at 1 rfl) ?_
  obtain ⟨S168, h168, hsh⟩ := Option.bind_eq_some_iff.mp hsh
  refine e_iast hx hb hp hS h168 dX13_commandKey_168 (fun H locs hp hS => ?_)
  refine e_aload_n (B := B) (x := x0) hx hb dX13_commandKey_169 rfl (hl.at 0 rfl) ?_
  refine lv_dup hx hb dX13_commandKey_170 (e_rv_cat _ _) ?_
  obtain ⟨v171, h171, hsh⟩ := Option.bind_eq_some_iff.mp hsh
  refine e_getI (k := 55) hx hb hts in_X13 hown hp h171 rfl (by decide) (by decide) rfl (hts _ kf13_609) rfl dX13_commandKey_171 ?_
  refine lv_iconst (v := iI (1)) hx hb dX13_commandKey_174 rfl ?_
  refine e_iadd hx hb dX13_commandKey_175 ?_
  obtain ⟨S176, h176, hsh⟩ := Option.bind_eq_some_iff.mp hsh
  refine e_putI (k := 55) hx hb hts in_X13 tyX13 tyX13_ok nmX13 hown hp hS h176 rfl (by decide) (by decide) rfl (hts _ kf13_609) rfl rfl (by decide +kernel) dX13_commandKey_176 (fun H locs hp hS => ?_)
  exact w13_commandKey_b179 E hp hS (hl.sub [0] rfl) hsh
set_option maxRecDepth 100000 in
set_option maxHeartbeats 4000000 in
theorem w13_commandKey_b148 {p : Program} {l : Launch} {e : Env} {s : State} {m : MethodId} {args : Array Value} {below : List Frame} {meth : Method} {c : Code} {D : va_G} {cA : Nat → ClassId} {B : Nat} {res : HP} (E : e_En p s m args meth c cX13_commandKey RX13 4 none) {ls : Array Slot} {H : Heap} {locs : List Loc} {S : HP} {x0 : Int} (hp : e_Pic D cA B S s H) (hS : va_S (e_A B) s.heap H locs) (hl : e_lo ls 4 [(0, e_rv B (x0))]) (hsh : s13_commandKey_b148 S x0 = some res) : W p l e ({ frames := 11, cells := 0, slots := 0, locals := 255 } : Room) s m args below meth c H locs 0 0 (MQ below (e_Qv D cA B res) args s 0 0 (e_A B)) (F0 m 148 ls []) := by
  obtain ⟨hx, hb, hml, hown, hts, hlk, hrt⟩ := id E
  unfold s13_commandKey_b148 at hsh
  refine e_aload_n (B := B) (x := x0) hx hb dX13_commandKey_148 rfl (hl.at 0 rfl) ?_
  refine lv_dup hx hb dX13_commandKey_149 (e_rv_cat _ _) ?_
  obtain ⟨v150, h150, hsh⟩ := Option.bind_eq_some_iff.mp hsh
  refine e_getI (k := 56) hx hb hts in_X13 hown hp h150 rfl (by decide) (by decide) rfl (hts _ kf13_675) rfl dX13_commandKey_150 ?_
  refine lv_iconst (v := iI (1)) hx hb dX13_commandKey_153 rfl ?_
  refine e_iadd hx hb dX13_commandKey_154 ?_
  obtain ⟨S155, h155, hsh⟩ := Option.bind_eq_some_iff.mp hsh
  refine e_putI (k := 56) hx hb hts in_X13 tyX13 tyX13_ok nmX13 hown hp hS h155 rfl (by decide) (by decide) rfl (hts _ kf13_675) rfl rfl (by decide +kernel) dX13_commandKey_155 (fun H locs hp hS => ?_)
  cases hsh
  exact e_vret hx hb hrt hlk hp hS dX13_commandKey_158
set_option maxRecDepth 100000 in
set_option maxHeartbeats 4000000 in
theorem w13_commandKey_b92 {p : Program} {l : Launch} {e : Env} {s : State} {m : MethodId} {args : Array Value} {below : List Frame} {meth : Method} {c : Code} {D : va_G} {cA : Nat → ClassId} {B : Nat} {res : HP} (E : e_En p s m args meth c cX13_commandKey RX13 4 none) {ls : Array Slot} {H : Heap} {locs : List Loc} {S : HP} {x0 : Int} {x1 : Int} (hp : e_Pic D cA B S s H) (hS : va_S (e_A B) s.heap H locs) (hl : e_lo ls 4 [(0, e_rv B (x0)), (1, .int (iI (x1)))]) (hsh : s13_commandKey_b92 S x0 x1 = some res) : W p l e ({ frames := 11, cells := 0, slots := 0, locals := 255 } : Room) s m args below meth c H locs 0 0 (MQ below (e_Qv D cA B res) args s 0 0 (e_A B)) (F0 m 92 ls []) := by
  obtain ⟨hx, hb, hml, hown, hts, hlk, hrt⟩ := id E
  unfold s13_commandKey_b92 at hsh
  refine e_aload_n (B := B) (x := x0) hx hb dX13_commandKey_92 rfl (hl.at 0 rfl) ?_
  obtain ⟨v93, h93, hsh⟩ := Option.bind_eq_some_iff.mp hsh
  refine e_getI (k := 55) hx hb hts in_X13 hown hp h93 rfl (by decide) (by decide) rfl (hts _ kf13_609) rfl dX13_commandKey_93 ?_
  refine lv_sipush (v := iI (8000)) hx hb dX13_commandKey_96 (by decide +kernel) ?_
  refine e_icmp_ge (tgt := 125) hx hb dX13_commandKey_99 (by decide) (fun c99 => ?_) (fun c99 => ?_)
  · rw [if_pos c99] at hsh
    refine lv_iload_n hx hb dX13_commandKey_125 rfl (hl.at 1 rfl) ?_
    obtain ⟨⟨v126, S126⟩, h126, hsh⟩ := Option.bind_eq_some_iff.mp hsh
    have hsh : _ = _ := hsh
    try dsimp only at hsh
    refine e_callS (nL := 4) (mc := 0) (ms := 0) (As := [.int (iI (x1))]) (rest := []) hx hb hml hown hts hp hS hl.size (c13_isSign l D cA B S S126 (x1) v126 h126) rfl rfl kd13_isSign (kl13_202) ks13_isSign ki13 kh13_isSign ⟨Nat.le_of_ble_eq_true rfl, Nat.le_of_ble_eq_true rfl⟩ rfl (by simp [e_rv_cat, e_int_cat]) ⟨Nat.le_refl _, Nat.le_refl _⟩ dX13_commandKey_126 rfl (fun H locs hp hS => ?_)
    refine e_if_eq (tgt := 159) hx hb dX13_commandKey_129 (by decide) (fun c129 => ?_) (fun c129 => ?_)
    · rw [if_pos c129] at hsh
      exact w13_commandKey_b159 E hp hS (hl.sub [0, 1] rfl) hsh
    · rw [if_neg c129] at hsh
      refine e_aload_n (B := B) (x := x0) hx hb dX13_commandKey_132 rfl (hl.at 0 rfl) ?_
      obtain ⟨v133, h133, hsh⟩ := Option.bind_eq_some_iff.mp hsh
      refine e_getI (k := 62) hx hb hts in_X13 hown hp h133 rfl (by decide) (by decide) rfl (hts _ kf13_615) rfl dX13_commandKey_133 ?_
      refine lv_bipush (v := iI (47)) hx hb dX13_commandKey_136 (by decide +kernel) ?_
      refine e_icmp_eq (tgt := 148) hx hb dX13_commandKey_138 (by decide) (fun c138 => ?_) (fun c138 => ?_)
      · rw [if_pos c138] at hsh
        exact w13_commandKey_b148 E hp hS (hl.sub [0] rfl) hsh
      · rw [if_neg c138] at hsh
        refine lv_iload_n hx hb dX13_commandKey_141 rfl (hl.at 1 rfl) ?_
        obtain ⟨⟨v142, S142⟩, h142, hsh⟩ := Option.bind_eq_some_iff.mp hsh
        have hsh : _ = _ := hsh
        try dsimp only at hsh
        refine e_callS (nL := 4) (mc := 0) (ms := 0) (As := [.int (iI (x1))]) (rest := []) hx hb hml hown hts hp hS hl.size (c13_isDigit l D cA B S126 S142 (x1) v142 h142) rfl rfl kd13_isDigit (kl13_822) ks13_isDigit ki13 kh13_isDigit ⟨Nat.le_of_ble_eq_true rfl, Nat.le_of_ble_eq_true rfl⟩ rfl (by simp [e_rv_cat, e_int_cat]) ⟨Nat.le_refl _, Nat.le_refl _⟩ dX13_commandKey_142 rfl (fun H locs hp hS => ?_)
        refine e_if_eq (tgt := 159) hx hb dX13_commandKey_145 (by decide) (fun c145 => ?_) (fun c145 => ?_)
        · rw [if_pos c145] at hsh
          exact w13_commandKey_b159 E hp hS (hl.sub [0, 1] rfl) hsh
        · rw [if_neg c145] at hsh
          exact w13_commandKey_b148 E hp hS (hl.sub [0] rfl) hsh
  · rw [if_neg c99] at hsh
    refine e_aload_n (B := B) (x := x0) hx hb dX13_commandKey_102 rfl (hl.at 0 rfl) ?_
    obtain ⟨v103, h103, hsh⟩ := Option.bind_eq_some_iff.mp hsh
    refine e_getR (k := 57) hx hb hts in_X13 hown hp h103 rfl (by decide) (by decide) rfl (hts _ kf13_95) rfl dX13_commandKey_103 ?_
    refine e_aload_n (B := B) (x := x0) hx hb dX13_commandKey_106 rfl (hl.at 0 rfl) ?_
    obtain ⟨v107, h107, hsh⟩ := Option.bind_eq_some_iff.mp hsh
    refine e_getI (k := 55) hx hb hts in_X13 hown hp h107 rfl (by decide) (by decide) rfl (hts _ kf13_609) rfl dX13_commandKey_107 ?_
    refine lv_iload_n hx hb dX13_commandKey_110 rfl (hl.at 1 rfl) ?_
    obtain ⟨S111, h111, hsh⟩ := Option.bind_eq_some_iff.mp hsh
    refine e_iast hx hb hp hS h111 dX13_commandKey_111 (fun H locs hp hS => ?_)
    refine e_aload_n (B := B) (x := x0) hx hb dX13_commandKey_112 rfl (hl.at 0 rfl) ?_
    refine lv_dup hx hb dX13_commandKey_113 (e_rv_cat _ _) ?_
    obtain ⟨v114, h114, hsh⟩ := Option.bind_eq_some_iff.mp hsh
    refine e_getI (k := 55) hx hb hts in_X13 hown hp h114 rfl (by decide) (by decide) rfl (hts _ kf13_609) rfl dX13_commandKey_114 ?_
    refine lv_iconst (v := iI (1)) hx hb dX13_commandKey_117 rfl ?_
    refine e_iadd hx hb dX13_commandKey_118 ?_
    obtain ⟨S119, h119, hsh⟩ := Option.bind_eq_some_iff.mp hsh
    refine e_putI (k := 55) hx hb hts in_X13 tyX13 tyX13_ok nmX13 hown hp hS h119 rfl (by decide) (by decide) rfl (hts _ kf13_609) rfl rfl (by decide +kernel) dX13_commandKey_119 (fun H locs hp hS => ?_)
    refine lv_goto (tgt := 179) hx hb dX13_commandKey_122 (by decide) ?_
    exact w13_commandKey_b179 E hp hS (hl.sub [0] rfl) hsh
set_option maxRecDepth 100000 in
set_option maxHeartbeats 4000000 in
theorem w13_commandKey_b66 {p : Program} {l : Launch} {e : Env} {s : State} {m : MethodId} {args : Array Value} {below : List Frame} {meth : Method} {c : Code} {D : va_G} {cA : Nat → ClassId} {B : Nat} {res : HP} (E : e_En p s m args meth c cX13_commandKey RX13 4 none) {ls : Array Slot} {H : Heap} {locs : List Loc} {S : HP} {x0 : Int} {y0 : Int} {y1 : Int} (hp : e_Pic D cA B S s H) (hS : va_S (e_A B) s.heap H locs) (hl : e_lo ls 4 [(0, e_rv B (x0))]) (hsh : s13_commandKey_b66 S x0 y0 y1 = some res) : W p l e ({ frames := 11, cells := 0, slots := 0, locals := 255 } : Room) s m args below meth c H locs 0 0 (MQ below (e_Qv D cA B res) args s 0 0 (e_A B)) (F0 m 66 ls [.int (iI (y1)), e_rv B (y0)]) := by
  obtain ⟨hx, hb, hml, hown, hts, hlk, hrt⟩ := id E
  unfold s13_commandKey_b66 at hsh
  obtain ⟨S66, h66, hsh⟩ := Option.bind_eq_some_iff.mp hsh
  refine e_putI (k := 8) hx hb hts in_X13 tyX13 tyX13_ok nmX13 hown hp hS h66 rfl (by decide) (by decide) rfl (hts _ kf13_466) rfl rfl (by decide +kernel) dX13_commandKey_66 (fun H locs hp hS => ?_)
  refine e_aload_n (B := B) (x := x0) hx hb dX13_commandKey_69 rfl (hl.at 0 rfl) ?_
  obtain ⟨S70, h70, hsh⟩ := Option.bind_eq_some_iff.mp hsh
  have ok70 := ok13_settles h70
  refine e_callV (nL := 4) (mc := 0) (ms := 0) (T := TX13) (N := 126) (As := []) (rest := []) hx hb hml hown hts hp hS hl.size ok70.1 ok70.2.1 ok70.2.2 rfl (by decide) (c13_settles l D cA B S66 S70 (x0) h70) rfl rfl kd13_settles (kl13_723) ks13_settles kv13_settles ki13 kh13_settles ⟨Nat.le_of_ble_eq_true rfl, Nat.le_of_ble_eq_true rfl⟩ rfl (by simp [e_rv_cat, e_int_cat]) ⟨Nat.le_refl _, Nat.le_refl _⟩ dX13_commandKey_70 rfl (fun H locs hp hS => ?_)
  cases hsh
  exact e_vret hx hb hrt hlk hp hS dX13_commandKey_73
set_option maxRecDepth 100000 in
set_option maxHeartbeats 4000000 in
theorem w13_commandKey_b50 {p : Program} {l : Launch} {e : Env} {s : State} {m : MethodId} {args : Array Value} {below : List Frame} {meth : Method} {c : Code} {D : va_G} {cA : Nat → ClassId} {B : Nat} {res : HP} (E : e_En p s m args meth c cX13_commandKey RX13 4 none) {ls : Array Slot} {H : Heap} {locs : List Loc} {S : HP} {x0 : Int} {x2 : Int} {y0 : Int} {y1 : Int} (hp : e_Pic D cA B S s H) (hS : va_S (e_A B) s.heap H locs) (hl : e_lo ls 4 [(0, e_rv B (x0)), (2, .int (iI (x2)))]) (hsh : s13_commandKey_b50 S x0 x2 y0 y1 = some res) : W p l e ({ frames := 11, cells := 0, slots := 0, locals := 255 } : Room) s m args below meth c H locs 0 0 (MQ below (e_Qv D cA B res) args s 0 0 (e_A B)) (F0 m 50 ls [.int (iI (y1)), e_rv B (y0)]) := by
  obtain ⟨hx, hb, hml, hown, hts, hlk, hrt⟩ := id E
  unfold s13_commandKey_b50 at hsh
  obtain ⟨S50, h50, hsh⟩ := Option.bind_eq_some_iff.mp hsh
  refine e_putI (k := 23) hx hb hts in_X13 tyX13 tyX13_ok nmX13 hown hp hS h50 rfl (by decide) (by decide) rfl (hts _ kf13_244) rfl rfl (by decide +kernel) dX13_commandKey_50 (fun H locs hp hS => ?_)
  refine e_aload_n (B := B) (x := x0) hx hb dX13_commandKey_53 rfl (hl.at 0 rfl) ?_
  refine lv_iload_n hx hb dX13_commandKey_54 rfl (hl.at 1 rfl) ?_
  refine e_if_eq (tgt := 62) hx hb dX13_commandKey_55 (by decide) (fun c55 => ?_) (fun c55 => ?_)
  · rw [if_pos c55] at hsh
    refine e_aload_n (B := B) (x := x0) hx hb dX13_commandKey_62 rfl (hl.at 0 rfl) ?_
    obtain ⟨v63, h63, hsh⟩ := Option.bind_eq_some_iff.mp hsh
    refine e_getI (k := 8) hx hb hts in_X13 hown hp h63 rfl (by decide) (by decide) rfl (hts _ kf13_466) rfl dX13_commandKey_63 ?_
    exact w13_commandKey_b66 E hp hS (hl.sub [0] rfl) hsh
  · rw [if_neg c55] at hsh
    refine lv_iconst (v := iI (0)) hx hb dX13_commandKey_58 rfl ?_
    refine lv_goto (tgt := 66) hx hb dX13_commandKey_59 (by decide) ?_
    exact w13_commandKey_b66 E hp hS (hl.sub [0] rfl) hsh
set_option maxRecDepth 100000 in
set_option maxHeartbeats 4000000 in
theorem w13_commandKey_b46 {p : Program} {l : Launch} {e : Env} {s : State} {m : MethodId} {args : Array Value} {below : List Frame} {meth : Method} {c : Code} {D : va_G} {cA : Nat → ClassId} {B : Nat} {res : HP} (E : e_En p s m args meth c cX13_commandKey RX13 4 none) {ls : Array Slot} {H : Heap} {locs : List Loc} {S : HP} {x0 : Int} {x2 : Int} {y0 : Int} (hp : e_Pic D cA B S s H) (hS : va_S (e_A B) s.heap H locs) (hl : e_lo ls 4 [(0, e_rv B (x0)), (2, .int (iI (x2)))]) (hsh : s13_commandKey_b46 S x0 x2 y0 = some res) : W p l e ({ frames := 11, cells := 0, slots := 0, locals := 255 } : Room) s m args below meth c H locs 0 0 (MQ below (e_Qv D cA B res) args s 0 0 (e_A B)) (F0 m 46 ls [e_rv B (y0)]) := by
  obtain ⟨hx, hb, hml, hown, hts, hlk, hrt⟩ := id E
  unfold s13_commandKey_b46 at hsh
  refine e_aload_n (B := B) (x := x0) hx hb dX13_commandKey_46 rfl (hl.at 0 rfl) ?_
  obtain ⟨v47, h47, hsh⟩ := Option.bind_eq_some_iff.mp hsh
  refine e_getI (k := 23) hx hb hts in_X13 hown hp h47 rfl (by decide) (by decide) rfl (hts _ kf13_244) rfl dX13_commandKey_47 ?_
  exact w13_commandKey_b50 E hp hS (hl.sub [0, 1] rfl) hsh
set_option maxRecDepth 100000 in
set_option maxHeartbeats 4000000 in
theorem w13_commandKey_b18 {p : Program} {l : Launch} {e : Env} {s : State} {m : MethodId} {args : Array Value} {below : List Frame} {meth : Method} {c : Code} {D : va_G} {cA : Nat → ClassId} {B : Nat} {res : HP} (E : e_En p s m args meth c cX13_commandKey RX13 4 none) {ls : Array Slot} {H : Heap} {locs : List Loc} {S : HP} {x0 : Int} {y0 : Int} (hp : e_Pic D cA B S s H) (hS : va_S (e_A B) s.heap H locs) (hl : e_lo ls 4 [(0, e_rv B (x0))]) (hsh : s13_commandKey_b18 S x0 y0 = some res) : W p l e ({ frames := 11, cells := 0, slots := 0, locals := 255 } : Room) s m args below meth c H locs 0 0 (MQ below (e_Qv D cA B res) args s 0 0 (e_A B)) (F0 m 18 ls [.int (iI (y0))]) := by
  obtain ⟨hx, hb, hml, hown, hts, hlk, hrt⟩ := id E
  unfold s13_commandKey_b18 at hsh
  refine e_istore_n (lv' := [(2, .int (iI (y0))), (0, e_rv B (x0))]) hx hb dX13_commandKey_18 rfl hl (by decide) rfl (fun ls hl => ?_)
  refine e_aload_n (B := B) (x := x0) hx hb dX13_commandKey_19 rfl (hl.at 1 rfl) ?_
  obtain ⟨S20, h20, hsh⟩ := Option.bind_eq_some_iff.mp hsh
  have ok20 := ok13_forgets h20
  refine e_callV (nL := 4) (mc := 0) (ms := 0) (T := TX13) (N := 126) (As := []) (rest := []) hx hb hml hown hts hp hS hl.size ok20.1 ok20.2.1 ok20.2.2 rfl (by decide) (c13_forgets l D cA B S S20 (x0) h20) rfl rfl kd13_forgets (kl13_678) ks13_forgets kv13_forgets ki13 kh13_forgets ⟨Nat.le_of_ble_eq_true rfl, Nat.le_of_ble_eq_true rfl⟩ rfl (by simp [e_rv_cat, e_int_cat]) ⟨Nat.le_refl _, Nat.le_refl _⟩ dX13_commandKey_20 rfl (fun H locs hp hS => ?_)
  refine e_aload_n (B := B) (x := x0) hx hb dX13_commandKey_23 rfl (hl.at 1 rfl) ?_
  refine lv_iload_n hx hb dX13_commandKey_24 rfl (hl.at 0 rfl) ?_
  refine e_if_eq (tgt := 46) hx hb dX13_commandKey_25 (by decide) (fun c25 => ?_) (fun c25 => ?_)
  · rw [if_pos c25] at hsh
    exact w13_commandKey_b46 E hp hS (hl.sub [1, 0] rfl) hsh
  · rw [if_neg c25] at hsh
    refine e_aload_n (B := B) (x := x0) hx hb dX13_commandKey_28 rfl (hl.at 1 rfl) ?_
    obtain ⟨v29, h29, hsh⟩ := Option.bind_eq_some_iff.mp hsh
    refine e_getI (k := 8) hx hb hts in_X13 hown hp h29 rfl (by decide) (by decide) rfl (hts _ kf13_466) rfl dX13_commandKey_29 ?_
    refine e_if_ne (tgt := 46) hx hb dX13_commandKey_32 (by decide) (fun c32 => ?_) (fun c32 => ?_)
    · rw [if_neg c32] at hsh
      exact w13_commandKey_b46 E hp hS (hl.sub [1, 0] rfl) hsh
    · rw [if_pos c32] at hsh
      refine e_aload_n (B := B) (x := x0) hx hb dX13_commandKey_35 rfl (hl.at 1 rfl) ?_
      obtain ⟨⟨v36, S36⟩, h36, hsh⟩ := Option.bind_eq_some_iff.mp hsh
      have hsh : _ = _ := hsh
      try dsimp only at hsh
      have ok36 := ok13_isServing h36
      refine e_callI (nL := 4) (mc := 0) (ms := 0) (T := TX13) (N := 126) (As := []) (rest := [e_rv B (x0)]) hx hb hml hown hts hp hS hl.size ok36.1 ok36.2.1 ok36.2.2 rfl (by decide) (c13_isServing l D cA B S20 S36 (x0) v36 h36) rfl rfl kd13_isServing (kl13_247) ks13_isServing kv13_isServing ki13 kh13_isServing ⟨Nat.le_of_ble_eq_true rfl, Nat.le_of_ble_eq_true rfl⟩ rfl (by simp [e_rv_cat, e_int_cat]) ⟨Nat.le_refl _, Nat.le_refl _⟩ dX13_commandKey_36 rfl (fun H locs hp hS => ?_)
      refine e_if_ne (tgt := 46) hx hb dX13_commandKey_39 (by decide) (fun c39 => ?_) (fun c39 => ?_)
      · rw [if_neg c39] at hsh
        exact w13_commandKey_b46 E hp hS (hl.sub [1, 0] rfl) hsh
      · rw [if_pos c39] at hsh
        refine lv_iconst (v := iI (0)) hx hb dX13_commandKey_42 rfl ?_
        refine lv_goto (tgt := 50) hx hb dX13_commandKey_43 (by decide) ?_
        exact w13_commandKey_b50 E hp hS (hl.sub [1, 0] rfl) hsh
set_option maxRecDepth 100000 in
set_option maxHeartbeats 4000000 in
theorem c13_commandKey (l : Launch) (D : va_G) (cA : Nat → ClassId) (B : Nat) (S S' : HP) (x0 : Int) (x1 : Int) (hsh : s13_commandKey S x0 x1 = some S') : Met l yX13_commandKey (e_wu yX13_commandKey cX13_commandKey 4 none) ({ frames := 11, cells := 0, slots := 0, locals := 255 } : Room) (va_Pc [e_rv B (x0), .int (iI (x1))] (fun U => e_PU D cA B S U)) (e_Qv D cA B S') 0 0 (e_A B) := by
  refine Met.ofW (cc := cX13_commandKey) (maxL := 4) (ret := none) (by decide +kernel) rfl ?_
  intro p e s m args below meth c s₁ Bd hml hv
  obtain ⟨rfl, hp⟩ := hv
  have hp : e_Pic D cA B S s s.heap := hp
  have hx := Bd.exec
  have hb := Bd.bytes
  have hrt := Bd.returns
  have hlk := Bd.notSynchronized
  have hown : s.vm.findClass RX13 = some m.cls := findClass_of_methodNamed Bd.named
  have hts : ∀ w ∈ e_tb, w.before ([e_rv B (x0), .int (iI (x1))] : List Value).toArray s = true := fun w h => atoms_spec (ws := (e_wu yX13_commandKey cX13_commandKey 4 none)) Bd.pre w (List.mem_cons_of_mem _ h)
  have E : e_En p s m ([e_rv B (x0), .int (iI (x1))] : List Value).toArray meth c cX13_commandKey RX13 4 none := ⟨hx, hb, hml, hown, hts, hlk, hrt⟩
  have hS : va_S (e_A B) s.heap s.heap [] := va_S.rf
  have hl := e_entry (vs := [e_rv B (x0), .int (iI (x1))]) (n := 4) (Nat.le_of_ble_eq_true rfl) (e_cc (e_rv_cat _ _) (e_cc rfl e_cn))
  rw [lg_entry_eq]
  generalize (lg_sl [e_rv B (x0), .int (iI (x1))] ++ List.replicate (4 - (lg_sl [e_rv B (x0), .int (iI (x1))]).length) Slot.unset).toArray = ls at hl ⊢
  generalize ([e_rv B (x0), .int (iI (x1))] : List Value).toArray = args at hts E ⊢
  have hl : e_lo ls 4 [(0, e_rv B (x0)), (1, .int (iI (x1)))] := hl
  have hsh := (gd_some hsh).2
  refine lv_iload_n hx hb dX13_commandKey_0 rfl (hl.at 1 rfl) ?_
  refine lv_bipush (v := iI (27)) hx hb dX13_commandKey_1 (by decide +kernel) ?_
  refine e_icmp_ne (tgt := 74) hx hb dX13_commandKey_3 (by decide) (fun c3 => ?_) (fun c3 => ?_)
  · rw [if_neg c3] at hsh
    refine e_aload_n (B := B) (x := x0) hx hb dX13_commandKey_74 rfl (hl.at 0 rfl) ?_
    obtain ⟨v75, h75, hsh⟩ := Option.bind_eq_some_iff.mp hsh
    refine e_getI (k := 55) hx hb hts in_X13 hown hp h75 rfl (by decide) (by decide) rfl (hts _ kf13_609) rfl dX13_commandKey_75 ?_
    refine e_if_ne (tgt := 92) hx hb dX13_commandKey_78 (by decide) (fun c78 => ?_) (fun c78 => ?_)
    · rw [if_neg c78] at hsh
      exact w13_commandKey_b92 E hp hS (hl.sub [0, 1] rfl) hsh
    · rw [if_pos c78] at hsh
      refine e_aload_n (B := B) (x := x0) hx hb dX13_commandKey_81 rfl (hl.at 0 rfl) ?_
      obtain ⟨⟨v82, S82⟩, h82, hsh⟩ := Option.bind_eq_some_iff.mp hsh
      have hsh : _ = _ := hsh
      try dsimp only at hsh
      have ok82 := ok13_isServing h82
      refine e_callI (nL := 4) (mc := 0) (ms := 0) (T := TX13) (N := 126) (As := []) (rest := []) hx hb hml hown hts hp hS hl.size ok82.1 ok82.2.1 ok82.2.2 rfl (by decide) (c13_isServing l D cA B S S82 (x0) v82 h82) rfl rfl kd13_isServing (kl13_247) ks13_isServing kv13_isServing ki13 kh13_isServing ⟨Nat.le_of_ble_eq_true rfl, Nat.le_of_ble_eq_true rfl⟩ rfl (by simp [e_rv_cat, e_int_cat]) ⟨Nat.le_refl _, Nat.le_refl _⟩ dX13_commandKey_82 rfl (fun H locs hp hS => ?_)
      refine e_if_ne (tgt := 92) hx hb dX13_commandKey_85 (by decide) (fun c85 => ?_) (fun c85 => ?_)
      · rw [if_neg c85] at hsh
        exact w13_commandKey_b92 E hp hS (hl.sub [0, 1] rfl) hsh
      · rw [if_pos c85] at hsh
        refine e_aload_n (B := B) (x := x0) hx hb dX13_commandKey_88 rfl (hl.at 0 rfl) ?_
        obtain ⟨S89, h89, hsh⟩ := Option.bind_eq_some_iff.mp hsh
        have ok89 := ok13_copiesBase h89
        refine e_callV (nL := 4) (mc := 0) (ms := 0) (T := TX13) (N := 126) (As := []) (rest := []) hx hb hml hown hts hp hS hl.size ok89.1 ok89.2.1 ok89.2.2 rfl (by decide) (c13_copiesBase l D cA B S82 S89 (x0) h89) rfl rfl kd13_copiesBase (kl13_932) ks13_copiesBase kv13_copiesBase ki13 kh13_copiesBase ⟨Nat.le_of_ble_eq_true rfl, Nat.le_of_ble_eq_true rfl⟩ rfl (by simp [e_rv_cat, e_int_cat]) ⟨Nat.le_refl _, Nat.le_refl _⟩ dX13_commandKey_89 rfl (fun H locs hp hS => ?_)
        exact w13_commandKey_b92 E hp hS (hl.sub [0, 1] rfl) hsh
  · rw [if_pos c3] at hsh
    refine e_aload_n (B := B) (x := x0) hx hb dX13_commandKey_6 rfl (hl.at 0 rfl) ?_
    obtain ⟨v7, h7, hsh⟩ := Option.bind_eq_some_iff.mp hsh
    refine e_getI (k := 55) hx hb hts in_X13 hown hp h7 rfl (by decide) (by decide) rfl (hts _ kf13_609) rfl dX13_commandKey_7 ?_
    refine e_if_ne (tgt := 17) hx hb dX13_commandKey_10 (by decide) (fun c10 => ?_) (fun c10 => ?_)
    · rw [if_neg c10] at hsh
      refine lv_iconst (v := iI (0)) hx hb dX13_commandKey_17 rfl ?_
      exact w13_commandKey_b18 E hp hS (hl.sub [0] rfl) hsh
    · rw [if_pos c10] at hsh
      refine lv_iconst (v := iI (1)) hx hb dX13_commandKey_13 rfl ?_
      refine lv_goto (tgt := 18) hx hb dX13_commandKey_14 (by decide) ?_
      exact w13_commandKey_b18 E hp hS (hl.sub [0] rfl) hsh
theorem ok13_stepsMarked {S : HP} {x0 : Int} {x1 : Int} {r : HP} (h : s13_stepsMarked S x0 x1 = some r) : 0 ≤ x0 ∧ x0.toNat < e_n S ∧ e_g S x0.toNat = 13 := (gd_some h).1
set_option maxRecDepth 100000 in
set_option maxHeartbeats 4000000 in
theorem w13_stepsMarked_b100 {p : Program} {l : Launch} {e : Env} {s : State} {m : MethodId} {args : Array Value} {below : List Frame} {meth : Method} {c : Code} {D : va_G} {cA : Nat → ClassId} {B : Nat} {res : HP} (E : e_En p s m args meth c cX13_stepsMarked RX13 4 none) {ls : Array Slot} {H : Heap} {locs : List Loc} {S : HP} {x0 : Int} (hp : e_Pic D cA B S s H) (hS : va_S (e_A B) s.heap H locs) (hl : e_lo ls 4 [(0, e_rv B (x0))]) (hsh : s13_stepsMarked_b100 S x0 = some res) : W p l e ({ frames := 8, cells := 0, slots := 0, locals := 185 } : Room) s m args below meth c H locs 0 0 (MQ below (e_Qv D cA B res) args s 0 0 (e_A B)) (F0 m 100 ls []) := by
  obtain ⟨hx, hb, hml, hown, hts, hlk, hrt⟩ := id E
  unfold s13_stepsMarked_b100 at hsh
  refine e_aload_n (B := B) (x := x0) hx hb dX13_stepsMarked_100 rfl (hl.at 0 rfl) ?_
  obtain ⟨S101, h101, hsh⟩ := Option.bind_eq_some_iff.mp hsh
  have ok101 := ok13_settles h101
  refine e_callV (nL := 4) (mc := 0) (ms := 0) (T := TX13) (N := 126) (As := []) (rest := []) hx hb hml hown hts hp hS hl.size ok101.1 ok101.2.1 ok101.2.2 rfl (by decide) (c13_settles l D cA B S S101 (x0) h101) rfl rfl kd13_settles (kl13_723) ks13_settles kv13_settles ki13 kh13_settles ⟨Nat.le_of_ble_eq_true rfl, Nat.le_of_ble_eq_true rfl⟩ rfl (by simp [e_rv_cat, e_int_cat]) ⟨Nat.le_refl _, Nat.le_refl _⟩ dX13_stepsMarked_101 rfl (fun H locs hp hS => ?_)
  cases hsh
  exact e_vret hx hb hrt hlk hp hS dX13_stepsMarked_104
set_option maxRecDepth 100000 in
set_option maxHeartbeats 4000000 in
theorem w13_stepsMarked_l46 {p : Program} {l : Launch} {e : Env} {s : State} {m : MethodId} {args : Array Value} {below : List Frame} {meth : Method} {c : Code} {D : va_G} {cA : Nat → ClassId} {B : Nat} {res : HP} (E : e_En p s m args meth c cX13_stepsMarked RX13 4 none) : ∀ (f : Nat) {ls : Array Slot} {H : Heap} {locs : List Loc} {S : HP} {x0 : Int} {x1 : Int} {x2 : Int} {x3 : Int} (hp : e_Pic D cA B S s H) (hS : va_S (e_A B) s.heap H locs) (hl : e_lo ls 4 [(0, e_rv B (x0)), (1, .int (iI (x1))), (2, .int (iI (x2))), (3, .int (iI (x3)))]) (hsh : s13_stepsMarked_l46 f S x0 x1 x2 x3 = some res), W p l e ({ frames := 8, cells := 0, slots := 0, locals := 185 } : Room) s m args below meth c H locs 0 0 (MQ below (e_Qv D cA B res) args s 0 0 (e_A B)) (F0 m 46 ls []) := by
  obtain ⟨hx, hb, hml, hown, hts, hlk, hrt⟩ := id E
  intro f
  induction f with
  | zero => intro ls H locs S x0 x1 x2 x3 hp hS hl hsh; cases hsh
  | succ f ih =>
    intro ls H locs S x0 x1 x2 x3 hp hS hl hsh
    have hk46 : ∀ {ls : Array Slot} {H : Heap} {locs : List Loc} {S : HP} {x0 : Int} {x1 : Int} {x2 : Int} {x3 : Int} (hp : e_Pic D cA B S s H) (hS : va_S (e_A B) s.heap H locs) (hl : e_lo ls 4 [(0, e_rv B (x0)), (1, .int (iI (x1))), (2, .int (iI (x2))), (3, .int (iI (x3)))]) (hsh : (s13_stepsMarked_l46 f) S x0 x1 x2 x3 = some res), W p l e ({ frames := 8, cells := 0, slots := 0, locals := 185 } : Room) s m args below meth c H locs 0 0 (MQ below (e_Qv D cA B res) args s 0 0 (e_A B)) (F0 m 46 ls []) := ih
    generalize hkk : s13_stepsMarked_l46 f = k46 at hk46
    rw [s13_stepsMarked_l46] at hsh
    rw [hkk] at hsh
    try dsimp only at hsh
    refine lv_iload_n hx hb dX13_stepsMarked_46 rfl (hl.at 3 rfl) ?_
    refine e_aload_n (B := B) (x := x0) hx hb dX13_stepsMarked_47 rfl (hl.at 0 rfl) ?_
    obtain ⟨v48, h48, hsh⟩ := Option.bind_eq_some_iff.mp hsh
    refine e_getI (k := 104) hx hb hts in_X13 hown hp h48 rfl (by decide) (by decide) rfl (hts _ kf13_858) rfl dX13_stepsMarked_48 ?_
    refine e_icmp_ge (tgt := 79) hx hb dX13_stepsMarked_51 (by decide) (fun c51 => ?_) (fun c51 => ?_)
    · rw [if_pos c51] at hsh
      refine e_aload_n (B := B) (x := x0) hx hb dX13_stepsMarked_79 rfl (hl.at 0 rfl) ?_
      refine lv_iload_n hx hb dX13_stepsMarked_80 rfl (hl.at 2 rfl) ?_
      obtain ⟨S81, h81, hsh⟩ := Option.bind_eq_some_iff.mp hsh
      refine e_putI (k := 108) hx hb hts in_X13 tyX13 tyX13_ok nmX13 hown hp hS h81 rfl (by decide) (by decide) rfl (hts _ kf13_870) rfl rfl (by decide +kernel) dX13_stepsMarked_81 (fun H locs hp hS => ?_)
      refine e_aload_n (B := B) (x := x0) hx hb dX13_stepsMarked_84 rfl (hl.at 0 rfl) ?_
      refine lv_iload_n hx hb dX13_stepsMarked_85 rfl (hl.at 2 rfl) ?_
      obtain ⟨S86, h86, hsh⟩ := Option.bind_eq_some_iff.mp hsh
      refine e_putI (k := 109) hx hb hts in_X13 tyX13 tyX13_ok nmX13 hown hp hS h86 rfl (by decide) (by decide) rfl (hts _ kf13_873) rfl rfl (by decide +kernel) dX13_stepsMarked_86 (fun H locs hp hS => ?_)
      refine e_aload_n (B := B) (x := x0) hx hb dX13_stepsMarked_89 rfl (hl.at 0 rfl) ?_
      obtain ⟨⟨v90, S90⟩, h90, hsh⟩ := Option.bind_eq_some_iff.mp hsh
      have hsh : _ = _ := hsh
      try dsimp only at hsh
      have ok90 := ok13_doesOnLines h90
      refine e_callI (nL := 4) (mc := 0) (ms := 0) (T := TX13) (N := 126) (As := []) (rest := []) hx hb hml hown hts hp hS hl.size ok90.1 ok90.2.1 ok90.2.2 rfl (by decide) (c13_doesOnLines l D cA B S86 S90 (x0) v90 h90) rfl rfl kd13_doesOnLines (kl13_923) ks13_doesOnLines kv13_doesOnLines ki13 kh13_doesOnLines ⟨Nat.le_of_ble_eq_true rfl, Nat.le_of_ble_eq_true rfl⟩ rfl (by simp [e_rv_cat, e_int_cat]) ⟨Nat.le_refl _, Nat.le_refl _⟩ dX13_stepsMarked_90 rfl (fun H locs hp hS => ?_)
      refine e_if_ne (tgt := 100) hx hb dX13_stepsMarked_93 (by decide) (fun c93 => ?_) (fun c93 => ?_)
      · rw [if_neg c93] at hsh
        exact w13_stepsMarked_b100 E hp hS (hl.sub [0] rfl) hsh
      · rw [if_pos c93] at hsh
        refine e_aload_n (B := B) (x := x0) hx hb dX13_stepsMarked_96 rfl (hl.at 0 rfl) ?_
        obtain ⟨S97, h97, hsh⟩ := Option.bind_eq_some_iff.mp hsh
        have ok97 := ok13_fails h97
        refine e_callV (nL := 4) (mc := 0) (ms := 0) (T := TX13) (N := 126) (As := []) (rest := []) hx hb hml hown hts hp hS hl.size ok97.1 ok97.2.1 ok97.2.2 rfl (by decide) (c13_fails l D cA B S90 S97 (x0) h97) rfl rfl kd13_fails (kl13_929) ks13_fails kv13_fails ki13 kh13_fails ⟨Nat.le_of_ble_eq_true rfl, Nat.le_of_ble_eq_true rfl⟩ rfl (by simp [e_rv_cat, e_int_cat]) ⟨Nat.le_refl _, Nat.le_refl _⟩ dX13_stepsMarked_97 rfl (fun H locs hp hS => ?_)
        exact w13_stepsMarked_b100 E hp hS (hl.sub [0] rfl) hsh
    · rw [if_neg c51] at hsh
      refine e_aload_n (B := B) (x := x0) hx hb dX13_stepsMarked_54 rfl (hl.at 0 rfl) ?_
      obtain ⟨v55, h55, hsh⟩ := Option.bind_eq_some_iff.mp hsh
      refine e_getR (k := 106) hx hb hts in_X13 hown hp h55 rfl (by decide) (by decide) rfl (hts _ kf13_154) rfl dX13_stepsMarked_55 ?_
      refine lv_iload_n hx hb dX13_stepsMarked_58 rfl (hl.at 3 rfl) ?_
      refine e_aload_n (B := B) (x := x0) hx hb dX13_stepsMarked_59 rfl (hl.at 0 rfl) ?_
      obtain ⟨v60, h60, hsh⟩ := Option.bind_eq_some_iff.mp hsh
      refine e_getR (k := 98) hx hb hts in_X13 hown hp h60 rfl (by decide) (by decide) rfl (hts _ kf13_145) rfl dX13_stepsMarked_60 ?_
      refine e_aload_n (B := B) (x := x0) hx hb dX13_stepsMarked_63 rfl (hl.at 0 rfl) ?_
      obtain ⟨v64, h64, hsh⟩ := Option.bind_eq_some_iff.mp hsh
      refine e_getR (k := 92) hx hb hts in_X13 hown hp h64 rfl (by decide) (by decide) rfl (hts _ kf13_126) rfl dX13_stepsMarked_64 ?_
      refine lv_iload_n hx hb dX13_stepsMarked_67 rfl (hl.at 1 rfl) ?_
      obtain ⟨v68, h68, hsh⟩ := Option.bind_eq_some_iff.mp hsh
      refine e_iald hx hb hp h68 dX13_stepsMarked_68 ?_
      refine lv_iload_n hx hb dX13_stepsMarked_69 rfl (hl.at 3 rfl) ?_
      refine e_iadd hx hb dX13_stepsMarked_70 ?_
      obtain ⟨v71, h71, hsh⟩ := Option.bind_eq_some_iff.mp hsh
      refine e_iald hx hb hp h71 dX13_stepsMarked_71 ?_
      obtain ⟨S72, h72, hsh⟩ := Option.bind_eq_some_iff.mp hsh
      refine e_iast hx hb hp hS h72 dX13_stepsMarked_72 (fun H locs hp hS => ?_)
      refine e_iinc (n := 1) (x := x3) (lv' := [(3, .int (iI ((x3 + 1)))), (0, e_rv B (x0)), (1, .int (iI (x1))), (2, .int (iI (x2)))]) hx hb dX13_stepsMarked_73 hl (k := 3) rfl (by decide) rfl (fun ls hl => ?_)
      refine lv_goto (tgt := 46) hx hb dX13_stepsMarked_76 (by decide) ?_
      exact hk46 hp hS (hl.sub [1, 2, 3, 0] rfl) hsh
set_option maxRecDepth 100000 in
set_option maxHeartbeats 4000000 in
theorem c13_stepsMarked (l : Launch) (D : va_G) (cA : Nat → ClassId) (B : Nat) (S S' : HP) (x0 : Int) (x1 : Int) (hsh : s13_stepsMarked S x0 x1 = some S') : Met l yX13_stepsMarked (e_wu yX13_stepsMarked cX13_stepsMarked 4 none) ({ frames := 8, cells := 0, slots := 0, locals := 185 } : Room) (va_Pc [e_rv B (x0), .int (iI (x1))] (fun U => e_PU D cA B S U)) (e_Qv D cA B S') 0 0 (e_A B) := by
  refine Met.ofW (cc := cX13_stepsMarked) (maxL := 4) (ret := none) (by decide +kernel) rfl ?_
  intro p e s m args below meth c s₁ Bd hml hv
  obtain ⟨rfl, hp⟩ := hv
  have hp : e_Pic D cA B S s s.heap := hp
  have hx := Bd.exec
  have hb := Bd.bytes
  have hrt := Bd.returns
  have hlk := Bd.notSynchronized
  have hown : s.vm.findClass RX13 = some m.cls := findClass_of_methodNamed Bd.named
  have hts : ∀ w ∈ e_tb, w.before ([e_rv B (x0), .int (iI (x1))] : List Value).toArray s = true := fun w h => atoms_spec (ws := (e_wu yX13_stepsMarked cX13_stepsMarked 4 none)) Bd.pre w (List.mem_cons_of_mem _ h)
  have E : e_En p s m ([e_rv B (x0), .int (iI (x1))] : List Value).toArray meth c cX13_stepsMarked RX13 4 none := ⟨hx, hb, hml, hown, hts, hlk, hrt⟩
  have hS : va_S (e_A B) s.heap s.heap [] := va_S.rf
  have hl := e_entry (vs := [e_rv B (x0), .int (iI (x1))]) (n := 4) (Nat.le_of_ble_eq_true rfl) (e_cc (e_rv_cat _ _) (e_cc rfl e_cn))
  rw [lg_entry_eq]
  generalize (lg_sl [e_rv B (x0), .int (iI (x1))] ++ List.replicate (4 - (lg_sl [e_rv B (x0), .int (iI (x1))]).length) Slot.unset).toArray = ls at hl ⊢
  generalize ([e_rv B (x0), .int (iI (x1))] : List Value).toArray = args at hts E ⊢
  have hl : e_lo ls 4 [(0, e_rv B (x0)), (1, .int (iI (x1)))] := hl
  have hsh := (gd_some hsh).2
  refine e_aload_n (B := B) (x := x0) hx hb dX13_stepsMarked_0 rfl (hl.at 0 rfl) ?_
  refine lv_iload_n hx hb dX13_stepsMarked_1 rfl (hl.at 1 rfl) ?_
  obtain ⟨⟨v2, S2⟩, h2, hsh⟩ := Option.bind_eq_some_iff.mp hsh
  have hsh : _ = _ := hsh
  try dsimp only at hsh
  have ok2 := ok13_nextListed h2
  refine e_callI (nL := 4) (mc := 0) (ms := 0) (T := TX13) (N := 126) (As := [.int (iI (x1))]) (rest := []) hx hb hml hown hts hp hS hl.size ok2.1 ok2.2.1 ok2.2.2 rfl (by decide) (c13_nextListed l D cA B S S2 (x0) (x1) v2 h2) rfl rfl kd13_nextListed (kl13_971) ks13_nextListed kv13_nextListed ki13 kh13_nextListed ⟨Nat.le_of_ble_eq_true rfl, Nat.le_of_ble_eq_true rfl⟩ rfl (by simp [e_rv_cat, e_int_cat]) ⟨Nat.le_refl _, Nat.le_refl _⟩ dX13_stepsMarked_2 rfl (fun H locs hp hS => ?_)
  refine e_istore_n (lv' := [(2, .int (iI (v2))), (0, e_rv B (x0)), (1, .int (iI (x1)))]) hx hb dX13_stepsMarked_5 rfl hl (by decide) rfl (fun ls hl => ?_)
  refine lv_iload_n hx hb dX13_stepsMarked_6 rfl (hl.at 0 rfl) ?_
  refine lv_iconst (v := iI (-1)) hx hb dX13_stepsMarked_7 rfl ?_
  refine e_icmp_ne (tgt := 22) hx hb dX13_stepsMarked_8 (by decide) (fun c8 => ?_) (fun c8 => ?_)
  · rw [if_neg c8] at hsh
    refine e_aload_n (B := B) (x := x0) hx hb dX13_stepsMarked_22 rfl (hl.at 1 rfl) ?_
    refine lv_iconst (v := iI (0)) hx hb dX13_stepsMarked_23 rfl ?_
    obtain ⟨S24, h24, hsh⟩ := Option.bind_eq_some_iff.mp hsh
    refine e_putI (k := 105) hx hb hts in_X13 tyX13 tyX13_ok nmX13 hown hp hS h24 rfl (by decide) (by decide) rfl (hts _ kf13_861) rfl rfl (by decide +kernel) dX13_stepsMarked_24 (fun H locs hp hS => ?_)
    refine e_aload_n (B := B) (x := x0) hx hb dX13_stepsMarked_27 rfl (hl.at 1 rfl) ?_
    refine e_aload_n (B := B) (x := x0) hx hb dX13_stepsMarked_28 rfl (hl.at 1 rfl) ?_
    obtain ⟨v29, h29, hsh⟩ := Option.bind_eq_some_iff.mp hsh
    refine e_getR (k := 93) hx hb hts in_X13 hown hp h29 rfl (by decide) (by decide) rfl (hts _ kf13_129) rfl dX13_stepsMarked_29 ?_
    refine lv_iload_n hx hb dX13_stepsMarked_32 rfl (hl.at 2 rfl) ?_
    obtain ⟨v33, h33, hsh⟩ := Option.bind_eq_some_iff.mp hsh
    refine e_iald hx hb hp h33 dX13_stepsMarked_33 ?_
    refine e_aload_n (B := B) (x := x0) hx hb dX13_stepsMarked_34 rfl (hl.at 1 rfl) ?_
    obtain ⟨v35, h35, hsh⟩ := Option.bind_eq_some_iff.mp hsh
    refine e_getR (k := 92) hx hb hts in_X13 hown hp h35 rfl (by decide) (by decide) rfl (hts _ kf13_126) rfl dX13_stepsMarked_35 ?_
    refine lv_iload_n hx hb dX13_stepsMarked_38 rfl (hl.at 2 rfl) ?_
    obtain ⟨v39, h39, hsh⟩ := Option.bind_eq_some_iff.mp hsh
    refine e_iald hx hb hp h39 dX13_stepsMarked_39 ?_
    refine e_isub hx hb dX13_stepsMarked_40 ?_
    obtain ⟨S41, h41, hsh⟩ := Option.bind_eq_some_iff.mp hsh
    refine e_putI (k := 104) hx hb hts in_X13 tyX13 tyX13_ok nmX13 hown hp hS h41 rfl (by decide) (by decide) rfl (hts _ kf13_858) rfl rfl (by decide +kernel) dX13_stepsMarked_41 (fun H locs hp hS => ?_)
    refine lv_iconst (v := iI (0)) hx hb dX13_stepsMarked_44 rfl ?_
    refine e_istore_n (lv' := [(3, .int (iI (0))), (2, .int (iI (v2))), (0, e_rv B (x0)), (1, .int (iI (x1)))]) hx hb dX13_stepsMarked_45 rfl hl (by decide) rfl (fun ls hl => ?_)
    exact w13_stepsMarked_l46 E 1000000 hp hS (hl.sub [2, 3, 1, 0] rfl) hsh
  · rw [if_pos c8] at hsh
    refine e_aload_n (B := B) (x := x0) hx hb dX13_stepsMarked_11 rfl (hl.at 1 rfl) ?_
    refine lv_dup hx hb dX13_stepsMarked_12 (e_rv_cat _ _) ?_
    obtain ⟨v13, h13, hsh⟩ := Option.bind_eq_some_iff.mp hsh
    refine e_getI (k := 90) hx hb hts in_X13 hown hp h13 rfl (by decide) (by decide) rfl (hts _ kf13_672) rfl dX13_stepsMarked_13 ?_
    refine lv_iconst (v := iI (1)) hx hb dX13_stepsMarked_16 rfl ?_
    refine e_isub hx hb dX13_stepsMarked_17 ?_
    obtain ⟨S18, h18, hsh⟩ := Option.bind_eq_some_iff.mp hsh
    refine e_putI (k := 90) hx hb hts in_X13 tyX13 tyX13_ok nmX13 hown hp hS h18 rfl (by decide) (by decide) rfl (hts _ kf13_672) rfl rfl (by decide +kernel) dX13_stepsMarked_18 (fun H locs hp hS => ?_)
    cases hsh
    exact e_vret hx hb hrt hlk hp hS dX13_stepsMarked_21
