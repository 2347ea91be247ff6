theorem ok13_hasSigns {S : HP} {x0 : Int} {r : Int × HP} (h : s13_hasSigns S x0 = some r) : 0 ≤ x0 ∧ x0.toNat < e_n S ∧ e_g S x0.toNat = 13 := (gd_some h).1
set_option maxRecDepth 100000 in
set_option maxHeartbeats 4000000 in
theorem w13_hasSigns_b37 {p : Program} {l : Launch} {e : Env} {s : State} {m : MethodId} {args : Array Value} {below : List Frame} {meth : Method} {c : Code} {D : va_G} {cA : Nat → ClassId} {B : Nat} {res : Int × HP} {k7 : HP → Int → Int → Int → Option (Int × HP)} (hk7 : ∀ {ls : Array Slot} {H : Heap} {locs : List Loc} {S : HP} {x0 : Int} {x1 : Int} {x2 : Int} (hp : e_Pic D cA B S s H) (hS : va_S (e_A B) s.heap H locs) (hl : e_lo ls 3 [(0, e_rv B (x0)), (1, .int (iI (x1))), (2, .int (iI (x2)))]) (hsh : k7 S x0 x1 x2 = some res), W p l e ({ frames := 3, cells := 0, slots := 0, locals := 63 } : Room) s m args below meth c H locs 0 0 (MQ below (e_Qi D cA B res.1 res.2) args s 0 0 (e_A B)) (F0 m 7 ls [])) (E : e_En p s m args meth c cX13_hasSigns RX13 3 (some .boolean)) {ls : Array Slot} {H : Heap} {locs : List Loc} {S : HP} {x0 : Int} {x2 : Int} {y0 : Int} (hp : e_Pic D cA B S s H) (hS : va_S (e_A B) s.heap H locs) (hl : e_lo ls 3 [(0, e_rv B (x0)), (2, .int (iI (x2)))]) (hsh : s13_hasSigns_b37 k7 S x0 x2 y0 = some res) : W p l e ({ frames := 3, cells := 0, slots := 0, locals := 63 } : Room) s m args below meth c H locs 0 0 (MQ below (e_Qi D cA B res.1 res.2) args s 0 0 (e_A B)) (F0 m 37 ls [.int (iI (y0))]) := by
  obtain ⟨hx, hb, hml, hown, hts, hlk, hrt⟩ := id E
  unfold s13_hasSigns_b37 at hsh
  refine e_istore_n (lv' := [(1, .int (iI (y0))), (0, e_rv B (x0)), (2, .int (iI (x2)))]) hx hb dX13_hasSigns_37 rfl hl (by decide) rfl (fun ls hl => ?_)
  refine e_iinc (n := 1) (x := x2) (lv' := [(2, .int (iI ((x2 + 1)))), (1, .int (iI (y0))), (0, e_rv B (x0))]) hx hb dX13_hasSigns_38 hl (k := 2) rfl (by decide) rfl (fun ls hl => ?_)
  refine lv_goto (tgt := 7) hx hb dX13_hasSigns_41 (by decide) ?_
  exact hk7 hp hS (hl.sub [2, 1, 0] rfl) hsh
set_option maxRecDepth 100000 in
set_option maxHeartbeats 4000000 in
theorem w13_hasSigns_b32 {p : Program} {l : Launch} {e : Env} {s : State} {m : MethodId} {args : Array Value} {below : List Frame} {meth : Method} {c : Code} {D : va_G} {cA : Nat → ClassId} {B : Nat} {res : Int × HP} {k7 : HP → Int → Int → Int → Option (Int × HP)} (hk7 : ∀ {ls : Array Slot} {H : Heap} {locs : List Loc} {S : HP} {x0 : Int} {x1 : Int} {x2 : Int} (hp : e_Pic D cA B S s H) (hS : va_S (e_A B) s.heap H locs) (hl : e_lo ls 3 [(0, e_rv B (x0)), (1, .int (iI (x1))), (2, .int (iI (x2)))]) (hsh : k7 S x0 x1 x2 = some res), W p l e ({ frames := 3, cells := 0, slots := 0, locals := 63 } : Room) s m args below meth c H locs 0 0 (MQ below (e_Qi D cA B res.1 res.2) args s 0 0 (e_A B)) (F0 m 7 ls [])) (E : e_En p s m args meth c cX13_hasSigns RX13 3 (some .boolean)) {ls : Array Slot} {H : Heap} {locs : List Loc} {S : HP} {x0 : Int} {x2 : Int} (hp : e_Pic D cA B S s H) (hS : va_S (e_A B) s.heap H locs) (hl : e_lo ls 3 [(0, e_rv B (x0)), (2, .int (iI (x2)))]) (hsh : s13_hasSigns_b32 k7 S x0 x2 = some res) : W p l e ({ frames := 3, cells := 0, slots := 0, locals := 63 } : Room) s m args below meth c H locs 0 0 (MQ below (e_Qi D cA B res.1 res.2) args s 0 0 (e_A B)) (F0 m 32 ls []) := by
  obtain ⟨hx, hb, hml, hown, hts, hlk, hrt⟩ := id E
  unfold s13_hasSigns_b32 at hsh
  refine lv_iconst (v := iI (1)) hx hb dX13_hasSigns_32 rfl ?_
  refine lv_goto (tgt := 37) hx hb dX13_hasSigns_33 (by decide) ?_
  exact w13_hasSigns_b37 (hk7 := hk7) E hp hS (hl.sub [0, 1] rfl) hsh
set_option maxRecDepth 100000 in
set_option maxHeartbeats 4000000 in
theorem w13_hasSigns_l7 {p : Program} {l : Launch} {e : Env} {s : State} {m : MethodId} {args : Array Value} {below : List Frame} {meth : Method} {c : Code} {D : va_G} {cA : Nat → ClassId} {B : Nat} {res : Int × HP} (E : e_En p s m args meth c cX13_hasSigns RX13 3 (some .boolean)) : ∀ (f : Nat) {ls : Array Slot} {H : Heap} {locs : List Loc} {S : HP} {x0 : Int} {x1 : Int} {x2 : Int} (hp : e_Pic D cA B S s H) (hS : va_S (e_A B) s.heap H locs) (hl : e_lo ls 3 [(0, e_rv B (x0)), (1, .int (iI (x1))), (2, .int (iI (x2)))]) (hsh : s13_hasSigns_l7 f S x0 x1 x2 = some res), W p l e ({ frames := 3, cells := 0, slots := 0, locals := 63 } : Room) s m args below meth c H locs 0 0 (MQ below (e_Qi D cA B res.1 res.2) args s 0 0 (e_A B)) (F0 m 7 ls []) := by
  obtain ⟨hx, hb, hml, hown, hts, hlk, hrt⟩ := id E
  intro f
  induction f with
  | zero => intro ls H locs S x0 x1 x2 hp hS hl hsh; cases hsh
  | succ f ih =>
    intro ls H locs S x0 x1 x2 hp hS hl hsh
    have hk7 : ∀ {ls : Array Slot} {H : Heap} {locs : List Loc} {S : HP} {x0 : Int} {x1 : Int} {x2 : Int} (hp : e_Pic D cA B S s H) (hS : va_S (e_A B) s.heap H locs) (hl : e_lo ls 3 [(0, e_rv B (x0)), (1, .int (iI (x1))), (2, .int (iI (x2)))]) (hsh : (s13_hasSigns_l7 f) S x0 x1 x2 = some res), W p l e ({ frames := 3, cells := 0, slots := 0, locals := 63 } : Room) s m args below meth c H locs 0 0 (MQ below (e_Qi D cA B res.1 res.2) args s 0 0 (e_A B)) (F0 m 7 ls []) := ih
    generalize hkk : s13_hasSigns_l7 f = k7 at hk7
    rw [s13_hasSigns_l7] at hsh
    rw [hkk] at hsh
    try dsimp only at hsh
    refine lv_iload_n hx hb dX13_hasSigns_7 rfl (hl.at 2 rfl) ?_
    refine e_aload_n (B := B) (x := x0) hx hb dX13_hasSigns_8 rfl (hl.at 0 rfl) ?_
    obtain ⟨v9, h9, hsh⟩ := Option.bind_eq_some_iff.mp hsh
    refine e_getI (k := 38) hx hb hts in_X13 hown hp h9 rfl (by decide) (by decide) rfl (hts _ kf13_404) rfl dX13_hasSigns_9 ?_
    refine e_icmp_gt (tgt := 44) hx hb dX13_hasSigns_12 (by decide) (fun c12 => ?_) (fun c12 => ?_)
    · rw [if_pos c12] at hsh
      refine lv_iload_n hx hb dX13_hasSigns_44 rfl (hl.at 1 rfl) ?_
      obtain ⟨hz, hz1, hz2⟩ := zR_some hsh
      rw [← hz1, ← hz2]
      exact e_zret hx hb hrt hlk hp hS hz dX13_hasSigns_45
    · rw [if_neg c12] at hsh
      refine lv_iload_n hx hb dX13_hasSigns_15 rfl (hl.at 1 rfl) ?_
      refine e_if_ne (tgt := 32) hx hb dX13_hasSigns_16 (by decide) (fun c16 => ?_) (fun c16 => ?_)
      · rw [if_neg c16] at hsh
        exact w13_hasSigns_b32 (hk7 := hk7) E hp hS (hl.sub [0, 2] rfl) hsh
      · rw [if_pos c16] at hsh
        refine e_aload_n (B := B) (x := x0) hx hb dX13_hasSigns_19 rfl (hl.at 0 rfl) ?_
        refine lv_iload_n hx hb dX13_hasSigns_20 rfl (hl.at 2 rfl) ?_
        obtain ⟨⟨v21, S21⟩, h21, hsh⟩ := Option.bind_eq_some_iff.mp hsh
        have hsh : _ = _ := hsh
        try dsimp only at hsh
        have ok21 := ok13_spanTo h21
        refine e_callI (nL := 3) (mc := 0) (ms := 0) (T := TX13) (N := 126) (As := [.int (iI (x2))]) (rest := []) hx hb hml hown hts hp hS hl.size ok21.1 ok21.2.1 ok21.2.2 rfl (by decide) (c13_spanTo l D cA B S S21 (x0) (x2) v21 h21) rfl rfl kd13_spanTo (kl13_520) ks13_spanTo kv13_spanTo ki13 kh13_spanTo ⟨Nat.le_of_ble_eq_true rfl, Nat.le_of_ble_eq_true rfl⟩ rfl (by simp [e_rv_cat, e_int_cat]) ⟨Nat.le_refl _, Nat.le_refl _⟩ dX13_hasSigns_21 rfl (fun H locs hp hS => ?_)
        refine e_aload_n (B := B) (x := x0) hx hb dX13_hasSigns_24 rfl (hl.at 0 rfl) ?_
        refine lv_iload_n hx hb dX13_hasSigns_25 rfl (hl.at 2 rfl) ?_
        obtain ⟨⟨v26, S26⟩, h26, hsh⟩ := Option.bind_eq_some_iff.mp hsh
        have hsh : _ = _ := hsh
        try dsimp only at hsh
        have ok26 := ok13_spanFrom h26
        refine e_callI (nL := 3) (mc := 0) (ms := 0) (T := TX13) (N := 126) (As := [.int (iI (x2))]) (rest := [.int (iI (v21))]) hx hb hml hown hts hp hS hl.size ok26.1 ok26.2.1 ok26.2.2 rfl (by decide) (c13_spanFrom l D cA B S21 S26 (x0) (x2) v26 h26) rfl rfl kd13_spanFrom (kl13_517) ks13_spanFrom kv13_spanFrom ki13 kh13_spanFrom ⟨Nat.le_of_ble_eq_true rfl, Nat.le_of_ble_eq_true rfl⟩ rfl (by simp [e_rv_cat, e_int_cat]) ⟨Nat.le_refl _, Nat.le_refl _⟩ dX13_hasSigns_26 rfl (fun H locs hp hS => ?_)
        refine e_icmp_le (tgt := 36) hx hb dX13_hasSigns_29 (by decide) (fun c29 => ?_) (fun c29 => ?_)
        · rw [if_pos c29] at hsh
          refine lv_iconst (v := iI (0)) hx hb dX13_hasSigns_36 rfl ?_
          exact w13_hasSigns_b37 (hk7 := hk7) E hp hS (hl.sub [0, 2] rfl) hsh
        · rw [if_neg c29] at hsh
          exact w13_hasSigns_b32 (hk7 := hk7) E hp hS (hl.sub [0, 2] rfl) hsh
set_option maxRecDepth 100000 in
set_option maxHeartbeats 4000000 in
theorem c13_hasSigns (l : Launch) (D : va_G) (cA : Nat → ClassId) (B : Nat) (S S' : HP) (x0 : Int) (r : Int) (hsh : s13_hasSigns S x0 = some (r, S')) : Met l yX13_hasSigns (e_wu yX13_hasSigns cX13_hasSigns 3 (some .boolean)) ({ frames := 3, cells := 0, slots := 0, locals := 63 } : Room) (va_Pc [e_rv B (x0)] (fun U => e_PU D cA B S U)) (e_Qi D cA B r S') 0 0 (e_A B) := by
  refine Met.ofW (cc := cX13_hasSigns) (maxL := 3) (ret := (some .boolean)) (by decide +kernel) rfl ?_
  intro p e s m args below meth c s₁ Bd hml hv
  obtain ⟨rfl, hp⟩ := hv
  have hp : e_Pic D cA B S s s.heap := hp
  have hx := Bd.exec
  have hb := Bd.bytes
  have hrt := Bd.returns
  have hlk := Bd.notSynchronized
  have hown : s.vm.findClass RX13 = some m.cls := findClass_of_methodNamed Bd.named
  have hts : ∀ w ∈ e_tb, w.before ([e_rv B (x0)] : List Value).toArray s = true := fun w h => atoms_spec (ws := (e_wu yX13_hasSigns cX13_hasSigns 3 (some .boolean))) Bd.pre w (List.mem_cons_of_mem _ h)
  have E : e_En p s m ([e_rv B (x0)] : List Value).toArray meth c cX13_hasSigns RX13 3 (some .boolean) := ⟨hx, hb, hml, hown, hts, hlk, hrt⟩
  have hS : va_S (e_A B) s.heap s.heap [] := va_S.rf
  have hl := e_entry (vs := [e_rv B (x0)]) (n := 3) (Nat.le_of_ble_eq_true rfl) (e_cc (e_rv_cat _ _) e_cn)
  rw [lg_entry_eq]
  generalize (lg_sl [e_rv B (x0)] ++ List.replicate (3 - (lg_sl [e_rv B (x0)]).length) Slot.unset).toArray = ls at hl ⊢
  generalize ([e_rv B (x0)] : List Value).toArray = args at hts E ⊢
  have hl : e_lo ls 3 [(0, e_rv B (x0))] := hl
  have hsh := (gd_some hsh).2
  refine lv_iconst (v := iI (0)) hx hb dX13_hasSigns_0 rfl ?_
  refine e_istore_n (lv' := [(1, .int (iI (0))), (0, e_rv B (x0))]) hx hb dX13_hasSigns_1 rfl hl (by decide) rfl (fun ls hl => ?_)
  refine e_aload_n (B := B) (x := x0) hx hb dX13_hasSigns_2 rfl (hl.at 1 rfl) ?_
  obtain ⟨v3, h3, hsh⟩ := Option.bind_eq_some_iff.mp hsh
  refine e_getI (k := 36) hx hb hts in_X13 hown hp h3 rfl (by decide) (by decide) rfl (hts _ kf13_398) rfl dX13_hasSigns_3 ?_
  refine e_istore_n (lv' := [(2, .int (iI (v3))), (1, .int (iI (0))), (0, e_rv B (x0))]) hx hb dX13_hasSigns_6 rfl hl (by decide) rfl (fun ls hl => ?_)
  exact w13_hasSigns_l7 E 1000000 hp hS (hl.sub [2, 1, 0] rfl) hsh
theorem ok13_replacesSpan {S : HP} {x0 : Int} {x1 : Int} {r : Int × HP} (h : s13_replacesSpan S x0 x1 = some r) : 0 ≤ x0 ∧ x0.toNat < e_n S ∧ e_g S x0.toNat = 13 := (gd_some h).1
set_option maxRecDepth 100000 in
set_option maxHeartbeats 4000000 in
theorem w13_replacesSpan_b82 {p : Program} {l : Launch} {e : Env} {s : State} {m : MethodId} {args : Array Value} {below : List Frame} {meth : Method} {c : Code} {D : va_G} {cA : Nat → ClassId} {B : Nat} {res : Int × HP} (E : e_En p s m args meth c cX13_replacesSpan RX13 4 (some .boolean)) {ls : Array Slot} {H : Heap} {locs : List Loc} {S : HP} {y0 : Int} {y1 : Int} {y2 : Int} (hp : e_Pic D cA B S s H) (hS : va_S (e_A B) s.heap H locs) (hl : e_lo ls 4 []) (hsh : s13_replacesSpan_b82 S y0 y1 y2 = some res) : W p l e ({ frames := 4, cells := 0, slots := 0, locals := 85 } : Room) s m args below meth c H locs 0 0 (MQ below (e_Qi D cA B res.1 res.2) args s 0 0 (e_A B)) (F0 m 82 ls [.int (iI (y2)), .int (iI (y1)), e_rv B (y0)]) := by
  obtain ⟨hx, hb, hml, hown, hts, hlk, hrt⟩ := id E
  unfold s13_replacesSpan_b82 at hsh
  obtain ⟨S82, h82, hsh⟩ := Option.bind_eq_some_iff.mp hsh
  have ok82 := ok13_goesNear h82
  refine e_callV (nL := 4) (mc := 0) (ms := 0) (T := TX13) (N := 126) (As := [.int (iI (y1)), .int (iI (y2))]) (rest := []) hx hb hml hown hts hp hS hl.size ok82.1 ok82.2.1 ok82.2.2 rfl (by decide) (c13_goesNear l D cA B S S82 (y0) (y1) (y2) h82) rfl rfl kd13_goesNear (kl13_510) ks13_goesNear kv13_goesNear ki13 kh13_goesNear ⟨Nat.le_of_ble_eq_true rfl, Nat.le_of_ble_eq_true rfl⟩ rfl (by simp [e_rv_cat, e_int_cat]) ⟨Nat.le_refl _, Nat.le_refl _⟩ dX13_replacesSpan_82 rfl (fun H locs hp hS => ?_)
  refine lv_iconst (v := iI (1)) hx hb dX13_replacesSpan_85 rfl ?_
  obtain ⟨hz, hz1, hz2⟩ := zR_some hsh
  rw [← hz1, ← hz2]
  exact e_zret hx hb hrt hlk hp hS hz dX13_replacesSpan_86
set_option maxRecDepth 100000 in
set_option maxHeartbeats 4000000 in
theorem w13_replacesSpan_l28 {p : Program} {l : Launch} {e : Env} {s : State} {m : MethodId} {args : Array Value} {below : List Frame} {meth : Method} {c : Code} {D : va_G} {cA : Nat → ClassId} {B : Nat} {res : Int × HP} {k14 : HP → Int → Int → Int → Option (Int × HP)} (hk14 : ∀ {ls : Array Slot} {H : Heap} {locs : List Loc} {S : HP} {x0 : Int} {x1 : Int} {x2 : Int} (hp : e_Pic D cA B S s H) (hS : va_S (e_A B) s.heap H locs) (hl : e_lo ls 4 [(0, e_rv B (x0)), (1, .int (iI (x1))), (2, .int (iI (x2)))]) (hsh : k14 S x0 x1 x2 = some res), W p l e ({ frames := 4, cells := 0, slots := 0, locals := 85 } : Room) s m args below meth c H locs 0 0 (MQ below (e_Qi D cA B res.1 res.2) args s 0 0 (e_A B)) (F0 m 14 ls [])) (E : e_En p s m args meth c cX13_replacesSpan RX13 4 (some .boolean)) : ∀ (f : Nat) {ls : Array Slot} {H : Heap} {locs : List Loc} {S : HP} {x0 : Int} {x1 : Int} {x2 : Int} {x3 : Int} (hp : e_Pic D cA B S s H) (hS : va_S (e_A B) s.heap H locs) (hl : e_lo ls 4 [(0, e_rv B (x0)), (1, .int (iI (x1))), (2, .int (iI (x2))), (3, .int (iI (x3)))]) (hsh : s13_replacesSpan_l28 k14 f S x0 x1 x2 x3 = some res), W p l e ({ frames := 4, cells := 0, slots := 0, locals := 85 } : Room) s m args below meth c H locs 0 0 (MQ below (e_Qi D cA B res.1 res.2) args s 0 0 (e_A B)) (F0 m 28 ls []) := by
  obtain ⟨hx, hb, hml, hown, hts, hlk, hrt⟩ := id E
  intro f
  induction f with
  | zero => intro ls H locs S x0 x1 x2 x3 hp hS hl hsh; cases hsh
  | succ f ih =>
    intro ls H locs S x0 x1 x2 x3 hp hS hl hsh
    have hk28 : ∀ {ls : Array Slot} {H : Heap} {locs : List Loc} {S : HP} {x0 : Int} {x1 : Int} {x2 : Int} {x3 : Int} (hp : e_Pic D cA B S s H) (hS : va_S (e_A B) s.heap H locs) (hl : e_lo ls 4 [(0, e_rv B (x0)), (1, .int (iI (x1))), (2, .int (iI (x2))), (3, .int (iI (x3)))]) (hsh : (s13_replacesSpan_l28 k14 f) S x0 x1 x2 x3 = some res), W p l e ({ frames := 4, cells := 0, slots := 0, locals := 85 } : Room) s m args below meth c H locs 0 0 (MQ below (e_Qi D cA B res.1 res.2) args s 0 0 (e_A B)) (F0 m 28 ls []) := ih
    generalize hkk : s13_replacesSpan_l28 k14 f = k28 at hk28
    rw [s13_replacesSpan_l28] at hsh
    rw [hkk] at hsh
    try dsimp only at hsh
    refine lv_iload_n hx hb dX13_replacesSpan_28 rfl (hl.at 3 rfl) ?_
    refine e_aload_n (B := B) (x := x0) hx hb dX13_replacesSpan_29 rfl (hl.at 0 rfl) ?_
    refine lv_iload_n hx hb dX13_replacesSpan_30 rfl (hl.at 2 rfl) ?_
    obtain ⟨⟨v31, S31⟩, h31, hsh⟩ := Option.bind_eq_some_iff.mp hsh
    have hsh : _ = _ := hsh
    try dsimp only at hsh
    have ok31 := ok13_spanTo h31
    refine e_callI (nL := 4) (mc := 0) (ms := 0) (T := TX13) (N := 126) (As := [.int (iI (x2))]) (rest := [.int (iI (x3))]) hx hb hml hown hts hp hS hl.size ok31.1 ok31.2.1 ok31.2.2 rfl (by decide) (c13_spanTo l D cA B S S31 (x0) (x2) v31 h31) rfl rfl kd13_spanTo (kl13_520) ks13_spanTo kv13_spanTo ki13 kh13_spanTo ⟨Nat.le_of_ble_eq_true rfl, Nat.le_of_ble_eq_true rfl⟩ rfl (by simp [e_rv_cat, e_int_cat]) ⟨Nat.le_refl _, Nat.le_refl _⟩ dX13_replacesSpan_31 rfl (fun H locs hp hS => ?_)
    refine e_icmp_ge (tgt := 55) hx hb dX13_replacesSpan_34 (by decide) (fun c34 => ?_) (fun c34 => ?_)
    · rw [if_pos c34] at hsh
      refine e_iinc (n := 1) (x := x2) (lv' := [(2, .int (iI ((x2 + 1)))), (0, e_rv B (x0)), (1, .int (iI (x1))), (3, .int (iI (x3)))]) hx hb dX13_replacesSpan_55 hl (k := 2) rfl (by decide) rfl (fun ls hl => ?_)
      refine lv_goto (tgt := 14) hx hb dX13_replacesSpan_58 (by decide) ?_
      exact hk14 hp hS (hl.sub [1, 2, 0] rfl) hsh
    · rw [if_neg c34] at hsh
      refine e_aload_n (B := B) (x := x0) hx hb dX13_replacesSpan_37 rfl (hl.at 0 rfl) ?_
      obtain ⟨v38, h38, hsh⟩ := Option.bind_eq_some_iff.mp hsh
      refine e_getR (k := 4) hx hb hts in_X13 hown hp h38 rfl (by decide) (by decide) rfl (hts _ kf13_20) rfl dX13_replacesSpan_38 ?_
      refine lv_bipush (v := iI (60)) hx hb dX13_replacesSpan_41 (by decide +kernel) ?_
      refine lv_iload_n hx hb dX13_replacesSpan_43 rfl (hl.at 2 rfl) ?_
      refine e_imul hx hb dX13_replacesSpan_44 ?_
      refine lv_iload_n hx hb dX13_replacesSpan_45 rfl (hl.at 3 rfl) ?_
      refine e_iadd hx hb dX13_replacesSpan_46 ?_
      refine lv_iload_n hx hb dX13_replacesSpan_47 rfl (hl.at 1 rfl) ?_
      obtain ⟨S48, h48, hsh⟩ := Option.bind_eq_some_iff.mp hsh
      refine e_iast hx hb hp hS h48 dX13_replacesSpan_48 (fun H locs hp hS => ?_)
      refine e_iinc (n := 1) (x := x3) (lv' := [(3, .int (iI ((x3 + 1)))), (0, e_rv B (x0)), (1, .int (iI (x1))), (2, .int (iI (x2)))]) hx hb dX13_replacesSpan_49 hl (k := 3) rfl (by decide) rfl (fun ls hl => ?_)
      refine lv_goto (tgt := 28) hx hb dX13_replacesSpan_52 (by decide) ?_
      exact hk28 hp hS (hl.sub [1, 2, 3, 0] rfl) hsh
set_option maxRecDepth 100000 in
set_option maxHeartbeats 4000000 in
theorem w13_replacesSpan_l14 {p : Program} {l : Launch} {e : Env} {s : State} {m : MethodId} {args : Array Value} {below : List Frame} {meth : Method} {c : Code} {D : va_G} {cA : Nat → ClassId} {B : Nat} {res : Int × HP} (E : e_En p s m args meth c cX13_replacesSpan RX13 4 (some .boolean)) : ∀ (f : Nat) {ls : Array Slot} {H : Heap} {locs : List Loc} {S : HP} {x0 : Int} {x1 : Int} {x2 : Int} (hp : e_Pic D cA B S s H) (hS : va_S (e_A B) s.heap H locs) (hl : e_lo ls 4 [(0, e_rv B (x0)), (1, .int (iI (x1))), (2, .int (iI (x2)))]) (hsh : s13_replacesSpan_l14 f S x0 x1 x2 = some res), W p l e ({ frames := 4, cells := 0, slots := 0, locals := 85 } : Room) s m args below meth c H locs 0 0 (MQ below (e_Qi D cA B res.1 res.2) args s 0 0 (e_A B)) (F0 m 14 ls []) := by
  obtain ⟨hx, hb, hml, hown, hts, hlk, hrt⟩ := id E
  intro f
  induction f with
  | zero => intro ls H locs S x0 x1 x2 hp hS hl hsh; cases hsh
  | succ f ih =>
    intro ls H locs S x0 x1 x2 hp hS hl hsh
    have hk14 : ∀ {ls : Array Slot} {H : Heap} {locs : List Loc} {S : HP} {x0 : Int} {x1 : Int} {x2 : Int} (hp : e_Pic D cA B S s H) (hS : va_S (e_A B) s.heap H locs) (hl : e_lo ls 4 [(0, e_rv B (x0)), (1, .int (iI (x1))), (2, .int (iI (x2)))]) (hsh : (s13_replacesSpan_l14 f) S x0 x1 x2 = some res), W p l e ({ frames := 4, cells := 0, slots := 0, locals := 85 } : Room) s m args below meth c H locs 0 0 (MQ below (e_Qi D cA B res.1 res.2) args s 0 0 (e_A B)) (F0 m 14 ls []) := ih
    generalize hkk : s13_replacesSpan_l14 f = k14 at hk14
    rw [s13_replacesSpan_l14] at hsh
    rw [hkk] at hsh
    try dsimp only at hsh
    refine lv_iload_n hx hb dX13_replacesSpan_14 rfl (hl.at 2 rfl) ?_
    refine e_aload_n (B := B) (x := x0) hx hb dX13_replacesSpan_15 rfl (hl.at 0 rfl) ?_
    obtain ⟨v16, h16, hsh⟩ := Option.bind_eq_some_iff.mp hsh
    refine e_getI (k := 38) hx hb hts in_X13 hown hp h16 rfl (by decide) (by decide) rfl (hts _ kf13_404) rfl dX13_replacesSpan_16 ?_
    refine e_icmp_gt (tgt := 61) hx hb dX13_replacesSpan_19 (by decide) (fun c19 => ?_) (fun c19 => ?_)
    · rw [if_pos c19] at hsh
      refine e_aload_n (B := B) (x := x0) hx hb dX13_replacesSpan_61 rfl (hl.at 0 rfl) ?_
      refine e_aload_n (B := B) (x := x0) hx hb dX13_replacesSpan_62 rfl (hl.at 0 rfl) ?_
      obtain ⟨v63, h63, hsh⟩ := Option.bind_eq_some_iff.mp hsh
      refine e_getI (k := 36) hx hb hts in_X13 hown hp h63 rfl (by decide) (by decide) rfl (hts _ kf13_398) rfl dX13_replacesSpan_63 ?_
      refine e_aload_n (B := B) (x := x0) hx hb dX13_replacesSpan_66 rfl (hl.at 0 rfl) ?_
      obtain ⟨v67, h67, hsh⟩ := Option.bind_eq_some_iff.mp hsh
      refine e_getI (k := 35) hx hb hts in_X13 hown hp h67 rfl (by decide) (by decide) rfl (hts _ kf13_395) rfl dX13_replacesSpan_67 ?_
      refine lv_iconst (v := iI (2)) hx hb dX13_replacesSpan_70 rfl ?_
      refine e_icmp_ne (tgt := 78) hx hb dX13_replacesSpan_71 (by decide) (fun c71 => ?_) (fun c71 => ?_)
      · rw [if_neg c71] at hsh
        refine e_aload_n (B := B) (x := x0) hx hb dX13_replacesSpan_78 rfl (hl.at 0 rfl) ?_
        obtain ⟨v79, h79, hsh⟩ := Option.bind_eq_some_iff.mp hsh
        refine e_getI (k := 37) hx hb hts in_X13 hown hp h79 rfl (by decide) (by decide) rfl (hts _ kf13_401) rfl dX13_replacesSpan_79 ?_
        exact w13_replacesSpan_b82 E hp hS (hl.sub [] rfl) hsh
      · rw [if_pos c71] at hsh
        refine lv_iconst (v := iI (0)) hx hb dX13_replacesSpan_74 rfl ?_
        refine lv_goto (tgt := 82) hx hb dX13_replacesSpan_75 (by decide) ?_
        exact w13_replacesSpan_b82 E hp hS (hl.sub [] rfl) hsh
    · rw [if_neg c19] at hsh
      refine e_aload_n (B := B) (x := x0) hx hb dX13_replacesSpan_22 rfl (hl.at 0 rfl) ?_
      refine lv_iload_n hx hb dX13_replacesSpan_23 rfl (hl.at 2 rfl) ?_
      obtain ⟨⟨v24, S24⟩, h24, hsh⟩ := Option.bind_eq_some_iff.mp hsh
      have hsh : _ = _ := hsh
      try dsimp only at hsh
      have ok24 := ok13_spanFrom h24
      refine e_callI (nL := 4) (mc := 0) (ms := 0) (T := TX13) (N := 126) (As := [.int (iI (x2))]) (rest := []) hx hb hml hown hts hp hS hl.size ok24.1 ok24.2.1 ok24.2.2 rfl (by decide) (c13_spanFrom l D cA B S S24 (x0) (x2) v24 h24) rfl rfl kd13_spanFrom (kl13_517) ks13_spanFrom kv13_spanFrom ki13 kh13_spanFrom ⟨Nat.le_of_ble_eq_true rfl, Nat.le_of_ble_eq_true rfl⟩ rfl (by simp [e_rv_cat, e_int_cat]) ⟨Nat.le_refl _, Nat.le_refl _⟩ dX13_replacesSpan_24 rfl (fun H locs hp hS => ?_)
      refine e_istore_n (lv' := [(3, .int (iI (v24))), (0, e_rv B (x0)), (1, .int (iI (x1))), (2, .int (iI (x2)))]) hx hb dX13_replacesSpan_27 rfl hl (by decide) rfl (fun ls hl => ?_)
      exact w13_replacesSpan_l28 (hk14 := hk14) E 1000000 hp hS (hl.sub [1, 2, 3, 0] rfl) hsh
set_option maxRecDepth 100000 in
set_option maxHeartbeats 4000000 in
theorem c13_replacesSpan (l : Launch) (D : va_G) (cA : Nat → ClassId) (B : Nat) (S S' : HP) (x0 : Int) (x1 : Int) (r : Int) (hsh : s13_replacesSpan S x0 x1 = some (r, S')) : Met l yX13_replacesSpan (e_wu yX13_replacesSpan cX13_replacesSpan 4 (some .boolean)) ({ frames := 4, cells := 0, slots := 0, locals := 85 } : Room) (va_Pc [e_rv B (x0), .int (iI (x1))] (fun U => e_PU D cA B S U)) (e_Qi D cA B r S') 0 0 (e_A B) := by
  refine Met.ofW (cc := cX13_replacesSpan) (maxL := 4) (ret := (some .boolean)) (by decide +kernel) rfl ?_
  intro p e s m args below meth c s₁ Bd hml hv
  obtain ⟨rfl, hp⟩ := hv
  have hp : e_Pic D cA B S s s.heap := hp
  have hx := Bd.exec
  have hb := Bd.bytes
  have hrt := Bd.returns
  have hlk := Bd.notSynchronized
  have hown : s.vm.findClass RX13 = some m.cls := findClass_of_methodNamed Bd.named
  have hts : ∀ w ∈ e_tb, w.before ([e_rv B (x0), .int (iI (x1))] : List Value).toArray s = true := fun w h => atoms_spec (ws := (e_wu yX13_replacesSpan cX13_replacesSpan 4 (some .boolean))) Bd.pre w (List.mem_cons_of_mem _ h)
  have E : e_En p s m ([e_rv B (x0), .int (iI (x1))] : List Value).toArray meth c cX13_replacesSpan RX13 4 (some .boolean) := ⟨hx, hb, hml, hown, hts, hlk, hrt⟩
  have hS : va_S (e_A B) s.heap s.heap [] := va_S.rf
  have hl := e_entry (vs := [e_rv B (x0), .int (iI (x1))]) (n := 4) (Nat.le_of_ble_eq_true rfl) (e_cc (e_rv_cat _ _) (e_cc rfl e_cn))
  rw [lg_entry_eq]
  generalize (lg_sl [e_rv B (x0), .int (iI (x1))] ++ List.replicate (4 - (lg_sl [e_rv B (x0), .int (iI (x1))]).length) Slot.unset).toArray = ls at hl ⊢
  generalize ([e_rv B (x0), .int (iI (x1))] : List Value).toArray = args at hts E ⊢
  have hl : e_lo ls 4 [(0, e_rv B (x0)), (1, .int (iI (x1)))] := hl
  have hsh := (gd_some hsh).2
  refine e_aload_n (B := B) (x := x0) hx hb dX13_replacesSpan_0 rfl (hl.at 0 rfl) ?_
  obtain ⟨⟨v1, S1⟩, h1, hsh⟩ := Option.bind_eq_some_iff.mp hsh
  have hsh : _ = _ := hsh
  try dsimp only at hsh
  have ok1 := ok13_hasSigns h1
  refine e_callI (nL := 4) (mc := 0) (ms := 0) (T := TX13) (N := 126) (As := []) (rest := []) hx hb hml hown hts hp hS hl.size ok1.1 ok1.2.1 ok1.2.2 rfl (by decide) (c13_hasSigns l D cA B S S1 (x0) v1 h1) rfl rfl kd13_hasSigns (kl13_837) ks13_hasSigns kv13_hasSigns ki13 kh13_hasSigns ⟨Nat.le_of_ble_eq_true rfl, Nat.le_of_ble_eq_true rfl⟩ rfl (by simp [e_rv_cat, e_int_cat]) ⟨Nat.le_refl _, Nat.le_refl _⟩ dX13_replacesSpan_1 rfl (fun H locs hp hS => ?_)
  refine e_if_ne (tgt := 9) hx hb dX13_replacesSpan_4 (by decide) (fun c4 => ?_) (fun c4 => ?_)
  · rw [if_neg c4] at hsh
    refine e_aload_n (B := B) (x := x0) hx hb dX13_replacesSpan_9 rfl (hl.at 0 rfl) ?_
    obtain ⟨v10, h10, hsh⟩ := Option.bind_eq_some_iff.mp hsh
    refine e_getI (k := 36) hx hb hts in_X13 hown hp h10 rfl (by decide) (by decide) rfl (hts _ kf13_398) rfl dX13_replacesSpan_10 ?_
    refine e_istore_n (lv' := [(2, .int (iI (v10))), (0, e_rv B (x0)), (1, .int (iI (x1)))]) hx hb dX13_replacesSpan_13 rfl hl (by decide) rfl (fun ls hl => ?_)
    exact w13_replacesSpan_l14 E 1000000 hp hS (hl.sub [1, 2, 0] rfl) hsh
  · rw [if_pos c4] at hsh
    refine lv_iconst (v := iI (0)) hx hb dX13_replacesSpan_7 rfl ?_
    obtain ⟨hz, hz1, hz2⟩ := zR_some hsh
    rw [← hz1, ← hz2]
    exact e_zret hx hb hrt hlk hp hS hz dX13_replacesSpan_8
theorem ok13_exchanges {S : HP} {x0 : Int} {r : Int × HP} (h : s13_exchanges S x0 = some r) : 0 ≤ x0 ∧ x0.toNat < e_n S ∧ e_g S x0.toNat = 13 := (gd_some h).1
set_option maxRecDepth 100000 in
set_option maxHeartbeats 4000000 in
theorem c13_exchanges (l : Launch) (D : va_G) (cA : Nat → ClassId) (B : Nat) (S S' : HP) (x0 : Int) (r : Int) (hsh : s13_exchanges S x0 = some (r, S')) : Met l yX13_exchanges (e_wu yX13_exchanges cX13_exchanges 3 (some .boolean)) ({ frames := 2, cells := 0, slots := 0, locals := 42 } : Room) (va_Pc [e_rv B (x0)] (fun U => e_PU D cA B S U)) (e_Qi D cA B r S') 0 0 (e_A B) := by
  refine Met.ofW (cc := cX13_exchanges) (maxL := 3) (ret := (some .boolean)) (by decide +kernel) rfl ?_
  intro p e s m args below meth c s₁ Bd hml hv
  obtain ⟨rfl, hp⟩ := hv
  have hp : e_Pic D cA B S s s.heap := hp
  have hx := Bd.exec
  have hb := Bd.bytes
  have hrt := Bd.returns
  have hlk := Bd.notSynchronized
  have hown : s.vm.findClass RX13 = some m.cls := findClass_of_methodNamed Bd.named
  have hts : ∀ w ∈ e_tb, w.before ([e_rv B (x0)] : List Value).toArray s = true := fun w h => atoms_spec (ws := (e_wu yX13_exchanges cX13_exchanges 3 (some .boolean))) Bd.pre w (List.mem_cons_of_mem _ h)
  have E : e_En p s m ([e_rv B (x0)] : List Value).toArray meth c cX13_exchanges RX13 3 (some .boolean) := ⟨hx, hb, hml, hown, hts, hlk, hrt⟩
  have hS : va_S (e_A B) s.heap s.heap [] := va_S.rf
  have hl := e_entry (vs := [e_rv B (x0)]) (n := 3) (Nat.le_of_ble_eq_true rfl) (e_cc (e_rv_cat _ _) e_cn)
  rw [lg_entry_eq]
  generalize (lg_sl [e_rv B (x0)] ++ List.replicate (3 - (lg_sl [e_rv B (x0)]).length) Slot.unset).toArray = ls at hl ⊢
  generalize ([e_rv B (x0)] : List Value).toArray = args at hts E ⊢
  have hl : e_lo ls 3 [(0, e_rv B (x0))] := hl
  have hsh := (gd_some hsh).2
  refine e_aload_n (B := B) (x := x0) hx hb dX13_exchanges_0 rfl (hl.at 0 rfl) ?_
  obtain ⟨v1, h1, hsh⟩ := Option.bind_eq_some_iff.mp hsh
  refine e_getI (k := 5) hx hb hts in_X13 hown hp h1 rfl (by decide) (by decide) rfl (hts _ kf13_213) rfl dX13_exchanges_1 ?_
  refine e_istore_n (lv' := [(1, .int (iI (v1))), (0, e_rv B (x0))]) hx hb dX13_exchanges_4 rfl hl (by decide) rfl (fun ls hl => ?_)
  refine e_aload_n (B := B) (x := x0) hx hb dX13_exchanges_5 rfl (hl.at 1 rfl) ?_
  obtain ⟨v6, h6, hsh⟩ := Option.bind_eq_some_iff.mp hsh
  refine e_getI (k := 6) hx hb hts in_X13 hown hp h6 rfl (by decide) (by decide) rfl (hts _ kf13_216) rfl dX13_exchanges_6 ?_
  refine e_istore_n (lv' := [(2, .int (iI (v6))), (1, .int (iI (v1))), (0, e_rv B (x0))]) hx hb dX13_exchanges_9 rfl hl (by decide) rfl (fun ls hl => ?_)
  refine e_aload_n (B := B) (x := x0) hx hb dX13_exchanges_10 rfl (hl.at 2 rfl) ?_
  refine e_aload_n (B := B) (x := x0) hx hb dX13_exchanges_11 rfl (hl.at 2 rfl) ?_
  obtain ⟨v12, h12, hsh⟩ := Option.bind_eq_some_iff.mp hsh
  refine e_getI (k := 9) hx hb hts in_X13 hown hp h12 rfl (by decide) (by decide) rfl (hts _ kf13_748) rfl dX13_exchanges_12 ?_
  refine e_aload_n (B := B) (x := x0) hx hb dX13_exchanges_15 rfl (hl.at 2 rfl) ?_
  obtain ⟨v16, h16, hsh⟩ := Option.bind_eq_some_iff.mp hsh
  refine e_getI (k := 10) hx hb hts in_X13 hown hp h16 rfl (by decide) (by decide) rfl (hts _ kf13_751) rfl dX13_exchanges_16 ?_
  refine e_aload_n (B := B) (x := x0) hx hb dX13_exchanges_19 rfl (hl.at 2 rfl) ?_
  refine e_aload_n (B := B) (x := x0) hx hb dX13_exchanges_20 rfl (hl.at 2 rfl) ?_
  obtain ⟨v21, h21, hsh⟩ := Option.bind_eq_some_iff.mp hsh
  refine e_getI (k := 9) hx hb hts in_X13 hown hp h21 rfl (by decide) (by decide) rfl (hts _ kf13_748) rfl dX13_exchanges_21 ?_
  obtain ⟨⟨v24, S24⟩, h24, hsh⟩ := Option.bind_eq_some_iff.mp hsh
  have hsh : _ = _ := hsh
  try dsimp only at hsh
  have ok24 := ok13_lastOf h24
  refine e_callI (nL := 3) (mc := 0) (ms := 0) (T := TX13) (N := 126) (As := [.int (iI (v21))]) (rest := [.int (iI (v16)), .int (iI (v12)), e_rv B (x0)]) hx hb hml hown hts hp hS hl.size ok24.1 ok24.2.1 ok24.2.2 rfl (by decide) (c13_lastOf l D cA B S S24 (x0) (v21) v24 h24) rfl rfl kd13_lastOf (kl13_309) ks13_lastOf kv13_lastOf ki13 kh13_lastOf ⟨Nat.le_of_ble_eq_true rfl, Nat.le_of_ble_eq_true rfl⟩ rfl (by simp [e_rv_cat, e_int_cat]) ⟨Nat.le_refl _, Nat.le_refl _⟩ dX13_exchanges_24 rfl (fun H locs hp hS => ?_)
  obtain ⟨⟨v27, S27⟩, h27, hsh⟩ := Option.bind_eq_some_iff.mp hsh
  have hsh : _ = _ := hsh
  try dsimp only at hsh
  refine e_callS (nL := 3) (mc := 0) (ms := 0) (As := [.int (iI (v16)), .int (iI (v24))]) (rest := [.int (iI (v12)), e_rv B (x0)]) hx hb hml hown hts hp hS hl.size (c13_lesser l D cA B S24 S27 (v16) (v24) v27 h27) rfl rfl kd13_lesser (kl13_257) ks13_lesser ki13 kh13_lesser ⟨Nat.le_of_ble_eq_true rfl, Nat.le_of_ble_eq_true rfl⟩ rfl (by simp [e_rv_cat, e_int_cat]) ⟨Nat.le_refl _, Nat.le_refl _⟩ dX13_exchanges_27 rfl (fun H locs hp hS => ?_)
  obtain ⟨S30, h30, hsh⟩ := Option.bind_eq_some_iff.mp hsh
  have ok30 := ok13_goes h30
  refine e_callV (nL := 3) (mc := 0) (ms := 0) (T := TX13) (N := 126) (As := [.int (iI (v12)), .int (iI (v27))]) (rest := []) hx hb hml hown hts hp hS hl.size ok30.1 ok30.2.1 ok30.2.2 rfl (by decide) (c13_goes l D cA B S27 S30 (x0) (v12) (v27) h30) rfl rfl kd13_goes (kl13_226) ks13_goes kv13_goes ki13 kh13_goes ⟨Nat.le_of_ble_eq_true rfl, Nat.le_of_ble_eq_true rfl⟩ rfl (by simp [e_rv_cat, e_int_cat]) ⟨Nat.le_refl _, Nat.le_refl _⟩ dX13_exchanges_30 rfl (fun H locs hp hS => ?_)
  refine e_aload_n (B := B) (x := x0) hx hb dX13_exchanges_33 rfl (hl.at 2 rfl) ?_
  refine lv_iload_n hx hb dX13_exchanges_34 rfl (hl.at 1 rfl) ?_
  obtain ⟨S35, h35, hsh⟩ := Option.bind_eq_some_iff.mp hsh
  refine e_putI (k := 9) hx hb hts in_X13 tyX13 tyX13_ok nmX13 hown hp hS h35 rfl (by decide) (by decide) rfl (hts _ kf13_748) rfl rfl (by decide +kernel) dX13_exchanges_35 (fun H locs hp hS => ?_)
  refine e_aload_n (B := B) (x := x0) hx hb dX13_exchanges_38 rfl (hl.at 2 rfl) ?_
  refine lv_iload_n hx hb dX13_exchanges_39 rfl (hl.at 0 rfl) ?_
  obtain ⟨S40, h40, hsh⟩ := Option.bind_eq_some_iff.mp hsh
  refine e_putI (k := 10) hx hb hts in_X13 tyX13 tyX13_ok nmX13 hown hp hS h40 rfl (by decide) (by decide) rfl (hts _ kf13_751) rfl rfl (by decide +kernel) dX13_exchanges_40 (fun H locs hp hS => ?_)
  refine lv_iconst (v := iI (1)) hx hb dX13_exchanges_43 rfl ?_
  obtain ⟨hz, hz1, hz2⟩ := zR_some hsh
  rw [← hz1, ← hz2]
  exact e_zret hx hb hrt hlk hp hS hz dX13_exchanges_44
theorem ok13_selectsObject {S : HP} {x0 : Int} {x1 : Int} {r : Int × HP} (h : s13_selectsObject S x0 x1 = some r) : 0 ≤ x0 ∧ x0.toNat < e_n S ∧ e_g S x0.toNat = 13 := (gd_some h).1
set_option maxRecDepth 100000 in
set_option maxHeartbeats 4000000 in
theorem w13_selectsObject_b23 {p : Program} {l : Launch} {e : Env} {s : State} {m : MethodId} {args : Array Value} {below : List Frame} {meth : Method} {c : Code} {D : va_G} {cA : Nat → ClassId} {B : Nat} {res : Int × HP} (E : e_En p s m args meth c cX13_selectsObject RX13 3 (some .boolean)) {ls : Array Slot} {H : Heap} {locs : List Loc} {S : HP} (hp : e_Pic D cA B S s H) (hS : va_S (e_A B) s.heap H locs) (hl : e_lo ls 3 []) (hsh : s13_selectsObject_b23 S  = some res) : W p l e ({ frames := 6, cells := 0, slots := 0, locals := 136 } : Room) s m args below meth c H locs 0 0 (MQ below (e_Qi D cA B res.1 res.2) args s 0 0 (e_A B)) (F0 m 23 ls []) := by
  obtain ⟨hx, hb, hml, hown, hts, hlk, hrt⟩ := id E
  unfold s13_selectsObject_b23 at hsh
  refine lv_iconst (v := iI (0)) hx hb dX13_selectsObject_23 rfl ?_
  obtain ⟨hz, hz1, hz2⟩ := zR_some hsh
  rw [← hz1, ← hz2]
  exact e_zret hx hb hrt hlk hp hS hz dX13_selectsObject_24
set_option maxRecDepth 100000 in
set_option maxHeartbeats 4000000 in
theorem w13_selectsObject_b149 {p : Program} {l : Launch} {e : Env} {s : State} {m : MethodId} {args : Array Value} {below : List Frame} {meth : Method} {c : Code} {D : va_G} {cA : Nat → ClassId} {B : Nat} {res : Int × HP} (E : e_En p s m args meth c cX13_selectsObject RX13 3 (some .boolean)) {ls : Array Slot} {H : Heap} {locs : List Loc} {S : HP} {y0 : Int} {y1 : Int} {y2 : Int} (hp : e_Pic D cA B S s H) (hS : va_S (e_A B) s.heap H locs) (hl : e_lo ls 3 []) (hsh : s13_selectsObject_b149 S y0 y1 y2 = some res) : W p l e ({ frames := 6, cells := 0, slots := 0, locals := 136 } : Room) s m args below meth c H locs 0 0 (MQ below (e_Qi D cA B res.1 res.2) args s 0 0 (e_A B)) (F0 m 149 ls [.int (iI (y2)), .int (iI (y1)), e_rv B (y0)]) := by
  obtain ⟨hx, hb, hml, hown, hts, hlk, hrt⟩ := id E
  unfold s13_selectsObject_b149 at hsh
  obtain ⟨S149, h149, hsh⟩ := Option.bind_eq_some_iff.mp hsh
  have ok149 := ok13_goesNear h149
  refine e_callV (nL := 3) (mc := 0) (ms := 0) (T := TX13) (N := 126) (As := [.int (iI (y1)), .int (iI (y2))]) (rest := []) hx hb hml hown hts hp hS hl.size ok149.1 ok149.2.1 ok149.2.2 rfl (by decide) (c13_goesNear l D cA B S S149 (y0) (y1) (y2) h149) rfl rfl kd13_goesNear (kl13_510) ks13_goesNear kv13_goesNear ki13 kh13_goesNear ⟨Nat.le_of_ble_eq_true rfl, Nat.le_of_ble_eq_true rfl⟩ rfl (by simp [e_rv_cat, e_int_cat]) ⟨Nat.le_refl _, Nat.le_refl _⟩ dX13_selectsObject_149 rfl (fun H locs hp hS => ?_)
  refine lv_iconst (v := iI (1)) hx hb dX13_selectsObject_152 rfl ?_
  obtain ⟨hz, hz1, hz2⟩ := zR_some hsh
  rw [← hz1, ← hz2]
  exact e_zret hx hb hrt hlk hp hS hz dX13_selectsObject_153
set_option maxRecDepth 100000 in
set_option maxHeartbeats 4000000 in
theorem w13_selectsObject_b125 {p : Program} {l : Launch} {e : Env} {s : State} {m : MethodId} {args : Array Value} {below : List Frame} {meth : Method} {c : Code} {D : va_G} {cA : Nat → ClassId} {B : Nat} {res : Int × HP} (E : e_En p s m args meth c cX13_selectsObject RX13 3 (some .boolean)) {ls : Array Slot} {H : Heap} {locs : List Loc} {S : HP} {x0 : Int} {x2 : Int} {y0 : Int} {y1 : Int} (hp : e_Pic D cA B S s H) (hS : va_S (e_A B) s.heap H locs) (hl : e_lo ls 3 [(0, e_rv B (x0)), (2, .int (iI (x2)))]) (hsh : s13_selectsObject_b125 S x0 x2 y0 y1 = some res) : W p l e ({ frames := 6, cells := 0, slots := 0, locals := 136 } : Room) s m args below meth c H locs 0 0 (MQ below (e_Qi D cA B res.1 res.2) args s 0 0 (e_A B)) (F0 m 125 ls [.int (iI (y1)), e_rv B (y0)]) := by
  obtain ⟨hx, hb, hml, hown, hts, hlk, hrt⟩ := id E
  unfold s13_selectsObject_b125 at hsh
  refine lv_iload_n hx hb dX13_selectsObject_125 rfl (hl.at 1 rfl) ?_
  refine e_if_eq (tgt := 143) hx hb dX13_selectsObject_126 (by decide) (fun c126 => ?_) (fun c126 => ?_)
  · rw [if_pos c126] at hsh
    refine e_aload_n (B := B) (x := x0) hx hb dX13_selectsObject_143 rfl (hl.at 0 rfl) ?_
    obtain ⟨v144, h144, hsh⟩ := Option.bind_eq_some_iff.mp hsh
    refine e_getI (k := 39) hx hb hts in_X13 hown hp h144 rfl (by decide) (by decide) rfl (hts _ kf13_407) rfl dX13_selectsObject_144 ?_
    refine lv_iconst (v := iI (1)) hx hb dX13_selectsObject_147 rfl ?_
    refine e_isub hx hb dX13_selectsObject_148 ?_
    exact w13_selectsObject_b149 E hp hS (hl.sub [] rfl) hsh
  · rw [if_neg c126] at hsh
    refine e_aload_n (B := B) (x := x0) hx hb dX13_selectsObject_129 rfl (hl.at 0 rfl) ?_
    obtain ⟨v130, h130, hsh⟩ := Option.bind_eq_some_iff.mp hsh
    refine e_getR (k := 3) hx hb hts in_X13 hown hp h130 rfl (by decide) (by decide) rfl (hts _ kf13_17) rfl dX13_selectsObject_130 ?_
    refine e_aload_n (B := B) (x := x0) hx hb dX13_selectsObject_133 rfl (hl.at 0 rfl) ?_
    obtain ⟨v134, h134, hsh⟩ := Option.bind_eq_some_iff.mp hsh
    refine e_getI (k := 38) hx hb hts in_X13 hown hp h134 rfl (by decide) (by decide) rfl (hts _ kf13_404) rfl dX13_selectsObject_134 ?_
    refine lv_iconst (v := iI (1)) hx hb dX13_selectsObject_137 rfl ?_
    refine e_isub hx hb dX13_selectsObject_138 ?_
    obtain ⟨v139, h139, hsh⟩ := Option.bind_eq_some_iff.mp hsh
    refine e_iald hx hb hp h139 dX13_selectsObject_139 ?_
    refine lv_goto (tgt := 149) hx hb dX13_selectsObject_140 (by decide) ?_
    exact w13_selectsObject_b149 E hp hS (hl.sub [] rfl) hsh
set_option maxRecDepth 100000 in
set_option maxHeartbeats 4000000 in
theorem w13_selectsObject_b106 {p : Program} {l : Launch} {e : Env} {s : State} {m : MethodId} {args : Array Value} {below : List Frame} {meth : Method} {c : Code} {D : va_G} {cA : Nat → ClassId} {B : Nat} {res : Int × HP} (E : e_En p s m args meth c cX13_selectsObject RX13 3 (some .boolean)) {ls : Array Slot} {H : Heap} {locs : List Loc} {S : HP} {x0 : Int} {y0 : Int} (hp : e_Pic D cA B S s H) (hS : va_S (e_A B) s.heap H locs) (hl : e_lo ls 3 [(0, e_rv B (x0))]) (hsh : s13_selectsObject_b106 S x0 y0 = some res) : W p l e ({ frames := 6, cells := 0, slots := 0, locals := 136 } : Room) s m args below meth c H locs 0 0 (MQ below (e_Qi D cA B res.1 res.2) args s 0 0 (e_A B)) (F0 m 106 ls [.int (iI (y0))]) := by
  obtain ⟨hx, hb, hml, hown, hts, hlk, hrt⟩ := id E
  unfold s13_selectsObject_b106 at hsh
  refine e_istore_n (lv' := [(2, .int (iI (y0))), (0, e_rv B (x0))]) hx hb dX13_selectsObject_106 rfl hl (by decide) rfl (fun ls hl => ?_)
  refine e_aload_n (B := B) (x := x0) hx hb dX13_selectsObject_107 rfl (hl.at 1 rfl) ?_
  refine lv_iload_n hx hb dX13_selectsObject_108 rfl (hl.at 0 rfl) ?_
  refine e_if_eq (tgt := 121) hx hb dX13_selectsObject_109 (by decide) (fun c109 => ?_) (fun c109 => ?_)
  · rw [if_pos c109] at hsh
    refine e_aload_n (B := B) (x := x0) hx hb dX13_selectsObject_121 rfl (hl.at 1 rfl) ?_
    obtain ⟨v122, h122, hsh⟩ := Option.bind_eq_some_iff.mp hsh
    refine e_getI (k := 38) hx hb hts in_X13 hown hp h122 rfl (by decide) (by decide) rfl (hts _ kf13_404) rfl dX13_selectsObject_122 ?_
    exact w13_selectsObject_b125 E hp hS (hl.sub [1, 0] rfl) hsh
  · rw [if_neg c109] at hsh
    refine e_aload_n (B := B) (x := x0) hx hb dX13_selectsObject_112 rfl (hl.at 1 rfl) ?_
    obtain ⟨v113, h113, hsh⟩ := Option.bind_eq_some_iff.mp hsh
    refine e_getI (k := 38) hx hb hts in_X13 hown hp h113 rfl (by decide) (by decide) rfl (hts _ kf13_404) rfl dX13_selectsObject_113 ?_
    refine lv_iconst (v := iI (1)) hx hb dX13_selectsObject_116 rfl ?_
    refine e_isub hx hb dX13_selectsObject_117 ?_
    refine lv_goto (tgt := 125) hx hb dX13_selectsObject_118 (by decide) ?_
    exact w13_selectsObject_b125 E hp hS (hl.sub [1, 0] rfl) hsh
set_option maxRecDepth 100000 in
set_option maxHeartbeats 4000000 in
theorem w13_selectsObject_b105 {p : Program} {l : Launch} {e : Env} {s : State} {m : MethodId} {args : Array Value} {below : List Frame} {meth : Method} {c : Code} {D : va_G} {cA : Nat → ClassId} {B : Nat} {res : Int × HP} (E : e_En p s m args meth c cX13_selectsObject RX13 3 (some .boolean)) {ls : Array Slot} {H : Heap} {locs : List Loc} {S : HP} {x0 : Int} (hp : e_Pic D cA B S s H) (hS : va_S (e_A B) s.heap H locs) (hl : e_lo ls 3 [(0, e_rv B (x0))]) (hsh : s13_selectsObject_b105 S x0 = some res) : W p l e ({ frames := 6, cells := 0, slots := 0, locals := 136 } : Room) s m args below meth c H locs 0 0 (MQ below (e_Qi D cA B res.1 res.2) args s 0 0 (e_A B)) (F0 m 105 ls []) := by
  obtain ⟨hx, hb, hml, hown, hts, hlk, hrt⟩ := id E
  unfold s13_selectsObject_b105 at hsh
  refine lv_iconst (v := iI (0)) hx hb dX13_selectsObject_105 rfl ?_
  exact w13_selectsObject_b106 E hp hS (hl.sub [0] rfl) hsh
set_option maxRecDepth 100000 in
set_option maxHeartbeats 4000000 in
theorem c13_selectsObject (l : Launch) (D : va_G) (cA : Nat → ClassId) (B : Nat) (S S' : HP) (x0 : Int) (x1 : Int) (r : Int) (hsh : s13_selectsObject S x0 x1 = some (r, S')) : Met l yX13_selectsObject (e_wu yX13_selectsObject cX13_selectsObject 3 (some .boolean)) ({ frames := 6, cells := 0, slots := 0, locals := 136 } : Room) (va_Pc [e_rv B (x0), .int (iI (x1))] (fun U => e_PU D cA B S U)) (e_Qi D cA B r S') 0 0 (e_A B) := by
  refine Met.ofW (cc := cX13_selectsObject) (maxL := 3) (ret := (some .boolean)) (by decide +kernel) rfl ?_
  intro p e s m args below meth c s₁ Bd hml hv
  obtain ⟨rfl, hp⟩ := hv
  have hp : e_Pic D cA B S s s.heap := hp
  have hx := Bd.exec
  have hb := Bd.bytes
  have hrt := Bd.returns
  have hlk := Bd.notSynchronized
  have hown : s.vm.findClass RX13 = some m.cls := findClass_of_methodNamed Bd.named
  have hts : ∀ w ∈ e_tb, w.before ([e_rv B (x0), .int (iI (x1))] : List Value).toArray s = true := fun w h => atoms_spec (ws := (e_wu yX13_selectsObject cX13_selectsObject 3 (some .boolean))) Bd.pre w (List.mem_cons_of_mem _ h)
  have E : e_En p s m ([e_rv B (x0), .int (iI (x1))] : List Value).toArray meth c cX13_selectsObject RX13 3 (some .boolean) := ⟨hx, hb, hml, hown, hts, hlk, hrt⟩
  have hS : va_S (e_A B) s.heap s.heap [] := va_S.rf
  have hl := e_entry (vs := [e_rv B (x0), .int (iI (x1))]) (n := 3) (Nat.le_of_ble_eq_true rfl) (e_cc (e_rv_cat _ _) (e_cc rfl e_cn))
  rw [lg_entry_eq]
  generalize (lg_sl [e_rv B (x0), .int (iI (x1))] ++ List.replicate (3 - (lg_sl [e_rv B (x0), .int (iI (x1))]).length) Slot.unset).toArray = ls at hl ⊢
  generalize ([e_rv B (x0), .int (iI (x1))] : List Value).toArray = args at hts E ⊢
  have hl : e_lo ls 3 [(0, e_rv B (x0)), (1, .int (iI (x1)))] := hl
  have hsh := (gd_some hsh).2
  refine e_aload_n (B := B) (x := x0) hx hb dX13_selectsObject_0 rfl (hl.at 0 rfl) ?_
  refine e_aload_n (B := B) (x := x0) hx hb dX13_selectsObject_1 rfl (hl.at 0 rfl) ?_
  obtain ⟨v2, h2, hsh⟩ := Option.bind_eq_some_iff.mp hsh
  refine e_getI (k := 63) hx hb hts in_X13 hown hp h2 rfl (by decide) (by decide) rfl (hts _ kf13_612) rfl dX13_selectsObject_2 ?_
  refine e_aload_n (B := B) (x := x0) hx hb dX13_selectsObject_5 rfl (hl.at 0 rfl) ?_
  obtain ⟨v6, h6, hsh⟩ := Option.bind_eq_some_iff.mp hsh
  refine e_getI (k := 65) hx hb hts in_X13 hown hp h6 rfl (by decide) (by decide) rfl (hts _ kf13_621) rfl dX13_selectsObject_6 ?_
  refine lv_iload_n hx hb dX13_selectsObject_9 rfl (hl.at 1 rfl) ?_
  obtain ⟨⟨v10, S10⟩, h10, hsh⟩ := Option.bind_eq_some_iff.mp hsh
  have hsh : _ = _ := hsh
  try dsimp only at hsh
  have ok10 := ok13_spansObject h10
  refine e_callI (nL := 3) (mc := 0) (ms := 0) (T := TX13) (N := 126) (As := [.int (iI (v2)), .int (iI (v6)), .int (iI (x1))]) (rest := []) hx hb hml hown hts hp hS hl.size ok10.1 ok10.2.1 ok10.2.2 rfl (by decide) (c13_spansObject l D cA B S S10 (x0) (v2) (v6) (x1) v10 h10) rfl rfl kd13_spansObject (kl13_551) ks13_spansObject kv13_spansObject ki13 kh13_spansObject ⟨Nat.le_of_ble_eq_true rfl, Nat.le_of_ble_eq_true rfl⟩ rfl (by simp [e_rv_cat, e_int_cat]) ⟨Nat.le_refl _, Nat.le_refl _⟩ dX13_selectsObject_10 rfl (fun H locs hp hS => ?_)
  refine e_if_eq (tgt := 23) hx hb dX13_selectsObject_13 (by decide) (fun c13 => ?_) (fun c13 => ?_)
  · rw [if_pos c13] at hsh
    exact w13_selectsObject_b23 E hp hS (hl.sub [] rfl) hsh
  · rw [if_neg c13] at hsh
    refine e_aload_n (B := B) (x := x0) hx hb dX13_selectsObject_16 rfl (hl.at 0 rfl) ?_
    obtain ⟨⟨v17, S17⟩, h17, hsh⟩ := Option.bind_eq_some_iff.mp hsh
    have hsh : _ = _ := hsh
    try dsimp only at hsh
    have ok17 := ok13_isSomething h17
    refine e_callI (nL := 3) (mc := 0) (ms := 0) (T := TX13) (N := 126) (As := []) (rest := []) hx hb hml hown hts hp hS hl.size ok17.1 ok17.2.1 ok17.2.2 rfl (by decide) (c13_isSomething l D cA B S10 S17 (x0) v17 h17) rfl rfl kd13_isSomething (kl13_417) ks13_isSomething kv13_isSomething ki13 kh13_isSomething ⟨Nat.le_of_ble_eq_true rfl, Nat.le_of_ble_eq_true rfl⟩ rfl (by simp [e_rv_cat, e_int_cat]) ⟨Nat.le_refl _, Nat.le_refl _⟩ dX13_selectsObject_17 rfl (fun H locs hp hS => ?_)
    refine e_if_ne (tgt := 25) hx hb dX13_selectsObject_20 (by decide) (fun c20 => ?_) (fun c20 => ?_)
    · rw [if_neg c20] at hsh
      refine e_aload_n (B := B) (x := x0) hx hb dX13_selectsObject_25 rfl (hl.at 0 rfl) ?_
      obtain ⟨v26, h26, hsh⟩ := Option.bind_eq_some_iff.mp hsh
      refine e_getI (k := 35) hx hb hts in_X13 hown hp h26 rfl (by decide) (by decide) rfl (hts _ kf13_395) rfl dX13_selectsObject_26 ?_
      refine lv_iconst (v := iI (2)) hx hb dX13_selectsObject_29 rfl ?_
      refine e_icmp_ne (tgt := 62) hx hb dX13_selectsObject_30 (by decide) (fun c30 => ?_) (fun c30 => ?_)
      · rw [if_neg c30] at hsh
        refine e_aload_n (B := B) (x := x0) hx hb dX13_selectsObject_62 rfl (hl.at 0 rfl) ?_
        refine lv_iconst (v := iI (2)) hx hb dX13_selectsObject_63 rfl ?_
        obtain ⟨S64, h64, hsh⟩ := Option.bind_eq_some_iff.mp hsh
        refine e_putI (k := 8) hx hb hts in_X13 tyX13 tyX13_ok nmX13 hown hp hS h64 rfl (by decide) (by decide) rfl (hts _ kf13_466) rfl rfl (by decide +kernel) dX13_selectsObject_64 (fun H locs hp hS => ?_)
        refine e_aload_n (B := B) (x := x0) hx hb dX13_selectsObject_67 rfl (hl.at 0 rfl) ?_
        refine e_aload_n (B := B) (x := x0) hx hb dX13_selectsObject_68 rfl (hl.at 0 rfl) ?_
        obtain ⟨v69, h69, hsh⟩ := Option.bind_eq_some_iff.mp hsh
        refine e_getI (k := 36) hx hb hts in_X13 hown hp h69 rfl (by decide) (by decide) rfl (hts _ kf13_398) rfl dX13_selectsObject_69 ?_
        obtain ⟨S72, h72, hsh⟩ := Option.bind_eq_some_iff.mp hsh
        refine e_putI (k := 9) hx hb hts in_X13 tyX13 tyX13_ok nmX13 hown hp hS h72 rfl (by decide) (by decide) rfl (hts _ kf13_748) rfl rfl (by decide +kernel) dX13_selectsObject_72 (fun H locs hp hS => ?_)
        refine e_aload_n (B := B) (x := x0) hx hb dX13_selectsObject_75 rfl (hl.at 0 rfl) ?_
        refine e_aload_n (B := B) (x := x0) hx hb dX13_selectsObject_76 rfl (hl.at 0 rfl) ?_
        obtain ⟨v77, h77, hsh⟩ := Option.bind_eq_some_iff.mp hsh
        refine e_getI (k := 37) hx hb hts in_X13 hown hp h77 rfl (by decide) (by decide) rfl (hts _ kf13_401) rfl dX13_selectsObject_77 ?_
        obtain ⟨S80, h80, hsh⟩ := Option.bind_eq_some_iff.mp hsh
        refine e_putI (k := 10) hx hb hts in_X13 tyX13 tyX13_ok nmX13 hown hp hS h80 rfl (by decide) (by decide) rfl (hts _ kf13_751) rfl rfl (by decide +kernel) dX13_selectsObject_80 (fun H locs hp hS => ?_)
        refine e_aload_n (B := B) (x := x0) hx hb dX13_selectsObject_83 rfl (hl.at 0 rfl) ?_
        obtain ⟨v84, h84, hsh⟩ := Option.bind_eq_some_iff.mp hsh
        refine e_getI (k := 39) hx hb hts in_X13 hown hp h84 rfl (by decide) (by decide) rfl (hts _ kf13_407) rfl dX13_selectsObject_84 ?_
        refine e_if_ne (tgt := 105) hx hb dX13_selectsObject_87 (by decide) (fun c87 => ?_) (fun c87 => ?_)
        · rw [if_neg c87] at hsh
          exact w13_selectsObject_b105 E hp hS (hl.sub [0] rfl) hsh
        · rw [if_pos c87] at hsh
          refine e_aload_n (B := B) (x := x0) hx hb dX13_selectsObject_90 rfl (hl.at 0 rfl) ?_
          obtain ⟨v91, h91, hsh⟩ := Option.bind_eq_some_iff.mp hsh
          refine e_getI (k := 38) hx hb hts in_X13 hown hp h91 rfl (by decide) (by decide) rfl (hts _ kf13_404) rfl dX13_selectsObject_91 ?_
          refine e_aload_n (B := B) (x := x0) hx hb dX13_selectsObject_94 rfl (hl.at 0 rfl) ?_
          obtain ⟨v95, h95, hsh⟩ := Option.bind_eq_some_iff.mp hsh
          refine e_getI (k := 36) hx hb hts in_X13 hown hp h95 rfl (by decide) (by decide) rfl (hts _ kf13_398) rfl dX13_selectsObject_95 ?_
          refine e_icmp_le (tgt := 105) hx hb dX13_selectsObject_98 (by decide) (fun c98 => ?_) (fun c98 => ?_)
          · rw [if_pos c98] at hsh
            exact w13_selectsObject_b105 E hp hS (hl.sub [0] rfl) hsh
          · rw [if_neg c98] at hsh
            refine lv_iconst (v := iI (1)) hx hb dX13_selectsObject_101 rfl ?_
            refine lv_goto (tgt := 106) hx hb dX13_selectsObject_102 (by decide) ?_
            exact w13_selectsObject_b106 E hp hS (hl.sub [0] rfl) hsh
      · rw [if_pos c30] at hsh
        refine e_aload_n (B := B) (x := x0) hx hb dX13_selectsObject_33 rfl (hl.at 0 rfl) ?_
        refine lv_iconst (v := iI (3)) hx hb dX13_selectsObject_34 rfl ?_
        obtain ⟨S35, h35, hsh⟩ := Option.bind_eq_some_iff.mp hsh
        refine e_putI (k := 8) hx hb hts in_X13 tyX13 tyX13_ok nmX13 hown hp hS h35 rfl (by decide) (by decide) rfl (hts _ kf13_466) rfl rfl (by decide +kernel) dX13_selectsObject_35 (fun H locs hp hS => ?_)
        refine e_aload_n (B := B) (x := x0) hx hb dX13_selectsObject_38 rfl (hl.at 0 rfl) ?_
        refine e_aload_n (B := B) (x := x0) hx hb dX13_selectsObject_39 rfl (hl.at 0 rfl) ?_
        obtain ⟨v40, h40, hsh⟩ := Option.bind_eq_some_iff.mp hsh
        refine e_getI (k := 36) hx hb hts in_X13 hown hp h40 rfl (by decide) (by decide) rfl (hts _ kf13_398) rfl dX13_selectsObject_40 ?_
        obtain ⟨S43, h43, hsh⟩ := Option.bind_eq_some_iff.mp hsh
        refine e_putI (k := 9) hx hb hts in_X13 tyX13 tyX13_ok nmX13 hown hp hS h43 rfl (by decide) (by decide) rfl (hts _ kf13_748) rfl rfl (by decide +kernel) dX13_selectsObject_43 (fun H locs hp hS => ?_)
        refine e_aload_n (B := B) (x := x0) hx hb dX13_selectsObject_46 rfl (hl.at 0 rfl) ?_
        refine lv_iconst (v := iI (0)) hx hb dX13_selectsObject_47 rfl ?_
        obtain ⟨S48, h48, hsh⟩ := Option.bind_eq_some_iff.mp hsh
        refine e_putI (k := 10) hx hb hts in_X13 tyX13 tyX13_ok nmX13 hown hp hS h48 rfl (by decide) (by decide) rfl (hts _ kf13_751) rfl rfl (by decide +kernel) dX13_selectsObject_48 (fun H locs hp hS => ?_)
        refine e_aload_n (B := B) (x := x0) hx hb dX13_selectsObject_51 rfl (hl.at 0 rfl) ?_
        refine e_aload_n (B := B) (x := x0) hx hb dX13_selectsObject_52 rfl (hl.at 0 rfl) ?_
        obtain ⟨v53, h53, hsh⟩ := Option.bind_eq_some_iff.mp hsh
        refine e_getI (k := 38) hx hb hts in_X13 hown hp h53 rfl (by decide) (by decide) rfl (hts _ kf13_404) rfl dX13_selectsObject_53 ?_
        refine lv_iconst (v := iI (0)) hx hb dX13_selectsObject_56 rfl ?_
        obtain ⟨S57, h57, hsh⟩ := Option.bind_eq_some_iff.mp hsh
        have ok57 := ok13_goes h57
        refine e_callV (nL := 3) (mc := 0) (ms := 0) (T := TX13) (N := 126) (As := [.int (iI (v53)), .int (iI (0))]) (rest := []) hx hb hml hown hts hp hS hl.size ok57.1 ok57.2.1 ok57.2.2 rfl (by decide) (c13_goes l D cA B S48 S57 (x0) (v53) (0) h57) rfl rfl kd13_goes (kl13_226) ks13_goes kv13_goes ki13 kh13_goes ⟨Nat.le_of_ble_eq_true rfl, Nat.le_of_ble_eq_true rfl⟩ rfl (by simp [e_rv_cat, e_int_cat]) ⟨Nat.le_refl _, Nat.le_refl _⟩ dX13_selectsObject_57 rfl (fun H locs hp hS => ?_)
        refine lv_iconst (v := iI (1)) hx hb dX13_selectsObject_60 rfl ?_
        obtain ⟨hz, hz1, hz2⟩ := zR_some hsh
        rw [← hz1, ← hz2]
        exact e_zret hx hb hrt hlk hp hS hz dX13_selectsObject_61
    · rw [if_pos c20] at hsh
      exact w13_selectsObject_b23 E hp hS (hl.sub [] rfl) hsh
set_option maxRecDepth 100000 in
set_option maxHeartbeats 4000000 in
theorem w13_meant_b35 {p : Program} {l : Launch} {e : Env} {s : State} {m : MethodId} {args : Array Value} {below : List Frame} {meth : Method} {c : Code} {D : va_G} {cA : Nat → ClassId} {B : Nat} {res : Int × HP} (E : e_En p s m args meth c cX13_meant RX13 1 (some .int)) {ls : Array Slot} {H : Heap} {locs : List Loc} {S : HP} {y0 : Int} (hp : e_Pic D cA B S s H) (hS : va_S (e_A B) s.heap H locs) (hl : e_lo ls 1 []) (hsh : s13_meant_b35 S y0 = some res) : W p l e ({ frames := 0, cells := 0, slots := 0, locals := 0 } : Room) s m args below meth c H locs 0 0 (MQ below (e_Qi D cA B res.1 res.2) args s 0 0 (e_A B)) (F0 m 35 ls [.int (iI (y0))]) := by
  obtain ⟨hx, hb, hml, hown, hts, hlk, hrt⟩ := id E
  unfold s13_meant_b35 at hsh
  cases hsh
  exact e_iret hx hb hrt hlk hp hS dX13_meant_35
set_option maxRecDepth 100000 in
set_option maxHeartbeats 4000000 in
theorem c13_meant (l : Launch) (D : va_G) (cA : Nat → ClassId) (B : Nat) (S S' : HP) (x0 : Int) (r : Int) (hsh : s13_meant S x0 = some (r, S')) : Met l yX13_meant (e_wu yX13_meant cX13_meant 1 (some .int)) ({ frames := 0, cells := 0, slots := 0, locals := 0 } : Room) (va_Pc [.int (iI (x0))] (fun U => e_PU D cA B S U)) (e_Qi D cA B r S') 0 0 (e_A B) := by
  refine Met.ofW (cc := cX13_meant) (maxL := 1) (ret := (some .int)) (by decide +kernel) rfl ?_
  intro p e s m args below meth c s₁ Bd hml hv
  obtain ⟨rfl, hp⟩ := hv
  have hp : e_Pic D cA B S s s.heap := hp
  have hx := Bd.exec
  have hb := Bd.bytes
  have hrt := Bd.returns
  have hlk := Bd.notSynchronized
  have hown : s.vm.findClass RX13 = some m.cls := findClass_of_methodNamed Bd.named
  have hts : ∀ w ∈ e_tb, w.before ([.int (iI (x0))] : List Value).toArray s = true := fun w h => atoms_spec (ws := (e_wu yX13_meant cX13_meant 1 (some .int))) Bd.pre w (List.mem_cons_of_mem _ h)
  have E : e_En p s m ([.int (iI (x0))] : List Value).toArray meth c cX13_meant RX13 1 (some .int) := ⟨hx, hb, hml, hown, hts, hlk, hrt⟩
  have hS : va_S (e_A B) s.heap s.heap [] := va_S.rf
  have hl := e_entry (vs := [.int (iI (x0))]) (n := 1) (Nat.le_of_ble_eq_true rfl) (e_cc rfl e_cn)
  rw [lg_entry_eq]
  generalize (lg_sl [.int (iI (x0))] ++ List.replicate (1 - (lg_sl [.int (iI (x0))]).length) Slot.unset).toArray = ls at hl ⊢
  generalize ([.int (iI (x0))] : List Value).toArray = args at hts E ⊢
  have hl : e_lo ls 1 [(0, .int (iI (x0)))] := hl
  unfold s13_meant at hsh
  refine lv_iload_n hx hb dX13_meant_0 rfl (hl.at 0 rfl) ?_
  refine lv_bipush (v := iI (120)) hx hb dX13_meant_1 (by decide +kernel) ?_
  refine e_icmp_ne (tgt := 11) hx hb dX13_meant_3 (by decide) (fun c3 => ?_) (fun c3 => ?_)
  · rw [if_neg c3] at hsh
    refine lv_iload_n hx hb dX13_meant_11 rfl (hl.at 0 rfl) ?_
    refine lv_bipush (v := iI (115)) hx hb dX13_meant_12 (by decide +kernel) ?_
    refine e_icmp_ne (tgt := 22) hx hb dX13_meant_14 (by decide) (fun c14 => ?_) (fun c14 => ?_)
    · rw [if_neg c14] at hsh
      refine lv_iload_n hx hb dX13_meant_22 rfl (hl.at 0 rfl) ?_
      refine lv_bipush (v := iI (126)) hx hb dX13_meant_23 (by decide +kernel) ?_
      refine e_icmp_ne (tgt := 34) hx hb dX13_meant_25 (by decide) (fun c25 => ?_) (fun c25 => ?_)
      · rw [if_neg c25] at hsh
        refine lv_iload_n hx hb dX13_meant_34 rfl (hl.at 0 rfl) ?_
        exact w13_meant_b35 E hp hS (hl.sub [] rfl) hsh
      · rw [if_pos c25] at hsh
        refine lv_sipush (v := iI (382)) hx hb dX13_meant_28 (by decide +kernel) ?_
        refine lv_goto (tgt := 35) hx hb dX13_meant_31 (by decide) ?_
        exact w13_meant_b35 E hp hS (hl.sub [] rfl) hsh
    · rw [if_pos c14] at hsh
      refine lv_bipush (v := iI (99)) hx hb dX13_meant_17 (by decide +kernel) ?_
      refine lv_goto (tgt := 35) hx hb dX13_meant_19 (by decide) ?_
      exact w13_meant_b35 E hp hS (hl.sub [] rfl) hsh
  · rw [if_pos c3] at hsh
    refine lv_bipush (v := iI (100)) hx hb dX13_meant_6 (by decide +kernel) ?_
    refine lv_goto (tgt := 35) hx hb dX13_meant_8 (by decide) ?_
    exact w13_meant_b35 E hp hS (hl.sub [] rfl) hsh
theorem ok13_codeAt {S : HP} {x0 : Int} {x1 : Int} {r : Int × HP} (h : s13_codeAt S x0 x1 = some r) : 0 ≤ x0 ∧ x0.toNat < e_n S ∧ e_g S x0.toNat = 13 := (gd_some h).1
set_option maxRecDepth 100000 in
set_option maxHeartbeats 4000000 in
theorem w13_codeAt_b18 {p : Program} {l : Launch} {e : Env} {s : State} {m : MethodId} {args : Array Value} {below : List Frame} {meth : Method} {c : Code} {D : va_G} {cA : Nat → ClassId} {B : Nat} {res : Int × HP} (E : e_En p s m args meth c cX13_codeAt RX13 2 (some .int)) {ls : Array Slot} {H : Heap} {locs : List Loc} {S : HP} {y0 : Int} (hp : e_Pic D cA B S s H) (hS : va_S (e_A B) s.heap H locs) (hl : e_lo ls 2 []) (hsh : s13_codeAt_b18 S y0 = some res) : W p l e ({ frames := 0, cells := 0, slots := 0, locals := 0 } : Room) s m args below meth c H locs 0 0 (MQ below (e_Qi D cA B res.1 res.2) args s 0 0 (e_A B)) (F0 m 18 ls [.int (iI (y0))]) := by
  obtain ⟨hx, hb, hml, hown, hts, hlk, hrt⟩ := id E
  unfold s13_codeAt_b18 at hsh
  cases hsh
  exact e_iret hx hb hrt hlk hp hS dX13_codeAt_18
set_option maxRecDepth 100000 in
set_option maxHeartbeats 4000000 in
theorem c13_codeAt (l : Launch) (D : va_G) (cA : Nat → ClassId) (B : Nat) (S S' : HP) (x0 : Int) (x1 : Int) (r : Int) (hsh : s13_codeAt S x0 x1 = some (r, S')) : Met l yX13_codeAt (e_wu yX13_codeAt cX13_codeAt 2 (some .int)) ({ frames := 0, cells := 0, slots := 0, locals := 0 } : Room) (va_Pc [e_rv B (x0), .int (iI (x1))] (fun U => e_PU D cA B S U)) (e_Qi D cA B r S') 0 0 (e_A B) := by
  refine Met.ofW (cc := cX13_codeAt) (maxL := 2) (ret := (some .int)) (by decide +kernel) rfl ?_
  intro p e s m args below meth c s₁ Bd hml hv
  obtain ⟨rfl, hp⟩ := hv
  have hp : e_Pic D cA B S s s.heap := hp
  have hx := Bd.exec
  have hb := Bd.bytes
  have hrt := Bd.returns
  have hlk := Bd.notSynchronized
  have hown : s.vm.findClass RX13 = some m.cls := findClass_of_methodNamed Bd.named
  have hts : ∀ w ∈ e_tb, w.before ([e_rv B (x0), .int (iI (x1))] : List Value).toArray s = true := fun w h => atoms_spec (ws := (e_wu yX13_codeAt cX13_codeAt 2 (some .int))) Bd.pre w (List.mem_cons_of_mem _ h)
  have E : e_En p s m ([e_rv B (x0), .int (iI (x1))] : List Value).toArray meth c cX13_codeAt RX13 2 (some .int) := ⟨hx, hb, hml, hown, hts, hlk, hrt⟩
  have hS : va_S (e_A B) s.heap s.heap [] := va_S.rf
  have hl := e_entry (vs := [e_rv B (x0), .int (iI (x1))]) (n := 2) (Nat.le_of_ble_eq_true rfl) (e_cc (e_rv_cat _ _) (e_cc rfl e_cn))
  rw [lg_entry_eq]
  generalize (lg_sl [e_rv B (x0), .int (iI (x1))] ++ List.replicate (2 - (lg_sl [e_rv B (x0), .int (iI (x1))]).length) Slot.unset).toArray = ls at hl ⊢
  generalize ([e_rv B (x0), .int (iI (x1))] : List Value).toArray = args at hts E ⊢
  have hl : e_lo ls 2 [(0, e_rv B (x0)), (1, .int (iI (x1)))] := hl
  have hsh := (gd_some hsh).2
  refine lv_iload_n hx hb dX13_codeAt_0 rfl (hl.at 1 rfl) ?_
  refine e_aload_n (B := B) (x := x0) hx hb dX13_codeAt_1 rfl (hl.at 0 rfl) ?_
  obtain ⟨v2, h2, hsh⟩ := Option.bind_eq_some_iff.mp hsh
  refine e_getI (k := 104) hx hb hts in_X13 hown hp h2 rfl (by decide) (by decide) rfl (hts _ kf13_858) rfl dX13_codeAt_2 ?_
  refine e_icmp_ge (tgt := 17) hx hb dX13_codeAt_5 (by decide) (fun c5 => ?_) (fun c5 => ?_)
  · rw [if_pos c5] at hsh
    refine lv_iconst (v := iI (-1)) hx hb dX13_codeAt_17 rfl ?_
    exact w13_codeAt_b18 E hp hS (hl.sub [] rfl) hsh
  · rw [if_neg c5] at hsh
    refine e_aload_n (B := B) (x := x0) hx hb dX13_codeAt_8 rfl (hl.at 0 rfl) ?_
    obtain ⟨v9, h9, hsh⟩ := Option.bind_eq_some_iff.mp hsh
    refine e_getR (k := 106) hx hb hts in_X13 hown hp h9 rfl (by decide) (by decide) rfl (hts _ kf13_154) rfl dX13_codeAt_9 ?_
    refine lv_iload_n hx hb dX13_codeAt_12 rfl (hl.at 1 rfl) ?_
    obtain ⟨v13, h13, hsh⟩ := Option.bind_eq_some_iff.mp hsh
    refine e_iald hx hb hp h13 dX13_codeAt_13 ?_
    refine lv_goto (tgt := 18) hx hb dX13_codeAt_14 (by decide) ?_
    exact w13_codeAt_b18 E hp hS (hl.sub [] rfl) hsh
theorem ok13_address {S : HP} {x0 : Int} {x1 : Int} {r : Int × HP} (h : s13_address S x0 x1 = some r) : 0 ≤ x0 ∧ x0.toNat < e_n S ∧ e_g S x0.toNat = 13 := (gd_some h).1
set_option maxRecDepth 100000 in
set_option maxHeartbeats 4000000 in
theorem w13_address_b142 {p : Program} {l : Launch} {e : Env} {s : State} {m : MethodId} {args : Array Value} {below : List Frame} {meth : Method} {c : Code} {D : va_G} {cA : Nat → ClassId} {B : Nat} {res : Int × HP} (E : e_En p s m args meth c cX13_address RX13 4 (some .int)) {ls : Array Slot} {H : Heap} {locs : List Loc} {S : HP} {y0 : Int} (hp : e_Pic D cA B S s H) (hS : va_S (e_A B) s.heap H locs) (hl : e_lo ls 4 []) (hsh : s13_address_b142 S y0 = some res) : W p l e ({ frames := 2, cells := 0, slots := 0, locals := 42 } : Room) s m args below meth c H locs 0 0 (MQ below (e_Qi D cA B res.1 res.2) args s 0 0 (e_A B)) (F0 m 142 ls [.int (iI (y0))]) := by
  obtain ⟨hx, hb, hml, hown, hts, hlk, hrt⟩ := id E
  unfold s13_address_b142 at hsh
  cases hsh
  exact e_iret hx hb hrt hlk hp hS dX13_address_142
set_option maxRecDepth 100000 in
set_option maxHeartbeats 4000000 in
theorem w13_address_b113 {p : Program} {l : Launch} {e : Env} {s : State} {m : MethodId} {args : Array Value} {below : List Frame} {meth : Method} {c : Code} {D : va_G} {cA : Nat → ClassId} {B : Nat} {res : Int × HP} (E : e_En p s m args meth c cX13_address RX13 4 (some .int)) {ls : Array Slot} {H : Heap} {locs : List Loc} {S : HP} {x0 : Int} {x2 : Int} (hp : e_Pic D cA B S s H) (hS : va_S (e_A B) s.heap H locs) (hl : e_lo ls 4 [(0, e_rv B (x0)), (2, .int (iI (x2)))]) (hsh : s13_address_b113 S x0 x2 = some res) : W p l e ({ frames := 2, cells := 0, slots := 0, locals := 42 } : Room) s m args below meth c H locs 0 0 (MQ below (e_Qi D cA B res.1 res.2) args s 0 0 (e_A B)) (F0 m 113 ls []) := by
  obtain ⟨hx, hb, hml, hown, hts, hlk, hrt⟩ := id E
  unfold s13_address_b113 at hsh
  refine e_aload_n (B := B) (x := x0) hx hb dX13_address_113 rfl (hl.at 0 rfl) ?_
  refine lv_dup hx hb dX13_address_114 (e_rv_cat _ _) ?_
  obtain ⟨v115, h115, hsh⟩ := Option.bind_eq_some_iff.mp hsh
  refine e_getI (k := 105) hx hb hts in_X13 hown hp h115 rfl (by decide) (by decide) rfl (hts _ kf13_861) rfl dX13_address_115 ?_
  refine lv_iconst (v := iI (1)) hx hb dX13_address_118 rfl ?_
  refine e_iadd hx hb dX13_address_119 ?_
  obtain ⟨S120, h120, hsh⟩ := Option.bind_eq_some_iff.mp hsh
  refine e_putI (k := 105) hx hb hts in_X13 tyX13 tyX13_ok nmX13 hown hp hS h120 rfl (by decide) (by decide) rfl (hts _ kf13_861) rfl rfl (by decide +kernel) dX13_address_120 (fun H locs hp hS => ?_)
  refine lv_iload_n hx hb dX13_address_123 rfl (hl.at 1 rfl) ?_
  refine lv_bipush (v := iI (46)) hx hb dX13_address_124 (by decide +kernel) ?_
  refine e_icmp_ne (tgt := 136) hx hb dX13_address_126 (by decide) (fun c126 => ?_) (fun c126 => ?_)
  · rw [if_neg c126] at hsh
    refine e_aload_n (B := B) (x := x0) hx hb dX13_address_136 rfl (hl.at 0 rfl) ?_
    obtain ⟨v137, h137, hsh⟩ := Option.bind_eq_some_iff.mp hsh
    refine e_getI (k := 2) hx hb hts in_X13 hown hp h137 rfl (by decide) (by decide) rfl (hts _ kf13_13) rfl dX13_address_137 ?_
    refine lv_iconst (v := iI (1)) hx hb dX13_address_140 rfl ?_
    refine e_isub hx hb dX13_address_141 ?_
    exact w13_address_b142 E hp hS (hl.sub [] rfl) hsh
  · rw [if_pos c126] at hsh
    refine e_aload_n (B := B) (x := x0) hx hb dX13_address_129 rfl (hl.at 0 rfl) ?_
    obtain ⟨v130, h130, hsh⟩ := Option.bind_eq_some_iff.mp hsh
    refine e_getI (k := 5) hx hb hts in_X13 hown hp h130 rfl (by decide) (by decide) rfl (hts _ kf13_213) rfl dX13_address_130 ?_
    refine lv_goto (tgt := 142) hx hb dX13_address_133 (by decide) ?_
    exact w13_address_b142 E hp hS (hl.sub [] rfl) hsh
set_option maxRecDepth 100000 in
set_option maxHeartbeats 4000000 in
theorem w13_address_b206 {p : Program} {l : Launch} {e : Env} {s : State} {m : MethodId} {args : Array Value} {below : List Frame} {meth : Method} {c : Code} {D : va_G} {cA : Nat → ClassId} {B : Nat} {res : Int × HP} (E : e_En p s m args meth c cX13_address RX13 4 (some .int)) {ls : Array Slot} {H : Heap} {locs : List Loc} {S : HP} {y0 : Int} (hp : e_Pic D cA B S s H) (hS : va_S (e_A B) s.heap H locs) (hl : e_lo ls 4 []) (hsh : s13_address_b206 S y0 = some res) : W p l e ({ frames := 2, cells := 0, slots := 0, locals := 42 } : Room) s m args below meth c H locs 0 0 (MQ below (e_Qi D cA B res.1 res.2) args s 0 0 (e_A B)) (F0 m 206 ls [.int (iI (y0))]) := by
  obtain ⟨hx, hb, hml, hown, hts, hlk, hrt⟩ := id E
  unfold s13_address_b206 at hsh
  cases hsh
  exact e_iret hx hb hrt hlk hp hS dX13_address_206
set_option maxRecDepth 100000 in
set_option maxHeartbeats 4000000 in
theorem w13_address_b194 {p : Program} {l : Launch} {e : Env} {s : State} {m : MethodId} {args : Array Value} {below : List Frame} {meth : Method} {c : Code} {D : va_G} {cA : Nat → ClassId} {B : Nat} {res : Int × HP} (E : e_En p s m args meth c cX13_address RX13 4 (some .int)) {ls : Array Slot} {H : Heap} {locs : List Loc} {S : HP} {x2 : Int} (hp : e_Pic D cA B S s H) (hS : va_S (e_A B) s.heap H locs) (hl : e_lo ls 4 [(2, .int (iI (x2)))]) (hsh : s13_address_b194 S x2 = some res) : W p l e ({ frames := 2, cells := 0, slots := 0, locals := 42 } : Room) s m args below meth c H locs 0 0 (MQ below (e_Qi D cA B res.1 res.2) args s 0 0 (e_A B)) (F0 m 194 ls []) := by
  obtain ⟨hx, hb, hml, hown, hts, hlk, hrt⟩ := id E
  unfold s13_address_b194 at hsh
  refine lv_iload_n hx hb dX13_address_194 rfl (hl.at 0 rfl) ?_
  refine lv_bipush (v := iI (39)) hx hb dX13_address_195 (by decide +kernel) ?_
  refine e_icmp_ne (tgt := 204) hx hb dX13_address_197 (by decide) (fun c197 => ?_) (fun c197 => ?_)
  · rw [if_neg c197] at hsh
    refine lv_bipush (v := iI (-2)) hx hb dX13_address_204 (by decide +kernel) ?_
    exact w13_address_b206 E hp hS (hl.sub [] rfl) hsh
  · rw [if_pos c197] at hsh
    refine lv_iconst (v := iI (-1)) hx hb dX13_address_200 rfl ?_
    refine lv_goto (tgt := 206) hx hb dX13_address_201 (by decide) ?_
    exact w13_address_b206 E hp hS (hl.sub [] rfl) hsh
set_option maxRecDepth 100000 in
set_option maxHeartbeats 4000000 in
theorem w13_address_b100 {p : Program} {l : Launch} {e : Env} {s : State} {m : MethodId} {args : Array Value} {below : List Frame} {meth : Method} {c : Code} {D : va_G} {cA : Nat → ClassId} {B : Nat} {res : Int × HP} (E : e_En p s m args meth c cX13_address RX13 4 (some .int)) {ls : Array Slot} {H : Heap} {locs : List Loc} {S : HP} {y0 : Int} (hp : e_Pic D cA B S s H) (hS : va_S (e_A B) s.heap H locs) (hl : e_lo ls 4 []) (hsh : s13_address_b100 S y0 = some res) : W p l e ({ frames := 2, cells := 0, slots := 0, locals := 42 } : Room) s m args below meth c H locs 0 0 (MQ below (e_Qi D cA B res.1 res.2) args s 0 0 (e_A B)) (F0 m 100 ls [.int (iI (y0))]) := by
  obtain ⟨hx, hb, hml, hown, hts, hlk, hrt⟩ := id E
  unfold s13_address_b100 at hsh
  cases hsh
  exact e_iret hx hb hrt hlk hp hS dX13_address_100
set_option maxRecDepth 100000 in
set_option maxHeartbeats 4000000 in
theorem w13_address_l18 {p : Program} {l : Launch} {e : Env} {s : State} {m : MethodId} {args : Array Value} {below : List Frame} {meth : Method} {c : Code} {D : va_G} {cA : Nat → ClassId} {B : Nat} {res : Int × HP} (E : e_En p s m args meth c cX13_address RX13 4 (some .int)) : ∀ (f : Nat) {ls : Array Slot} {H : Heap} {locs : List Loc} {S : HP} {x0 : Int} {x1 : Int} {x3 : Int} (hp : e_Pic D cA B S s H) (hS : va_S (e_A B) s.heap H locs) (hl : e_lo ls 4 [(0, e_rv B (x0)), (1, .int (iI (x1))), (3, .int (iI (x3)))]) (hsh : s13_address_l18 f S x0 x1 x3 = some res), W p l e ({ frames := 2, cells := 0, slots := 0, locals := 42 } : Room) s m args below meth c H locs 0 0 (MQ below (e_Qi D cA B res.1 res.2) args s 0 0 (e_A B)) (F0 m 18 ls []) := by
  obtain ⟨hx, hb, hml, hown, hts, hlk, hrt⟩ := id E
  intro f
  induction f with
  | zero => intro ls H locs S x0 x1 x3 hp hS hl hsh; cases hsh
  | succ f ih =>
    intro ls H locs S x0 x1 x3 hp hS hl hsh
    have hk18 : ∀ {ls : Array Slot} {H : Heap} {locs : List Loc} {S : HP} {x0 : Int} {x1 : Int} {x3 : Int} (hp : e_Pic D cA B S s H) (hS : va_S (e_A B) s.heap H locs) (hl : e_lo ls 4 [(0, e_rv B (x0)), (1, .int (iI (x1))), (3, .int (iI (x3)))]) (hsh : (s13_address_l18 f) S x0 x1 x3 = some res), W p l e ({ frames := 2, cells := 0, slots := 0, locals := 42 } : Room) s m args below meth c H locs 0 0 (MQ below (e_Qi D cA B res.1 res.2) args s 0 0 (e_A B)) (F0 m 18 ls []) := ih
    generalize hkk : s13_address_l18 f = k18 at hk18
    rw [s13_address_l18] at hsh
    rw [hkk] at hsh
    try dsimp only at hsh
    refine e_aload_n (B := B) (x := x0) hx hb dX13_address_18 rfl (hl.at 0 rfl) ?_
    refine e_aload_n (B := B) (x := x0) hx hb dX13_address_19 rfl (hl.at 0 rfl) ?_
    obtain ⟨v20, h20, hsh⟩ := Option.bind_eq_some_iff.mp hsh
    refine e_getI (k := 105) hx hb hts in_X13 hown hp h20 rfl (by decide) (by decide) rfl (hts _ kf13_861) rfl dX13_address_20 ?_
    obtain ⟨⟨v23, S23⟩, h23, hsh⟩ := Option.bind_eq_some_iff.mp hsh
    have hsh : _ = _ := hsh
    try dsimp only at hsh
    have ok23 := ok13_codeAt h23
    refine e_callI (nL := 4) (mc := 0) (ms := 0) (T := TX13) (N := 126) (As := [.int (iI (v20))]) (rest := []) hx hb hml hown hts hp hS hl.size ok23.1 ok23.2.1 ok23.2.2 rfl (by decide) (c13_codeAt l D cA B S S23 (x0) (v20) v23 h23) rfl rfl kd13_codeAt (kl13_864) ks13_codeAt kv13_codeAt ki13 kh13_codeAt ⟨Nat.le_of_ble_eq_true rfl, Nat.le_of_ble_eq_true rfl⟩ rfl (by simp [e_rv_cat, e_int_cat]) ⟨Nat.le_refl _, Nat.le_refl _⟩ dX13_address_23 rfl (fun H locs hp hS => ?_)
    obtain ⟨⟨v26, S26⟩, h26, hsh⟩ := Option.bind_eq_some_iff.mp hsh
    have hsh : _ = _ := hsh
    try dsimp only at hsh
    refine e_callS (nL := 4) (mc := 0) (ms := 0) (As := [.int (iI (v23))]) (rest := []) hx hb hml hown hts hp hS hl.size (c13_isDigit l D cA B S23 S26 (v23) v26 h26) rfl rfl kd13_isDigit (kl13_822) ks13_isDigit ki13 kh13_isDigit ⟨Nat.le_of_ble_eq_true rfl, Nat.le_of_ble_eq_true rfl⟩ rfl (by simp [e_rv_cat, e_int_cat]) ⟨Nat.le_refl _, Nat.le_refl _⟩ dX13_address_26 rfl (fun H locs hp hS => ?_)
    refine e_if_eq (tgt := 68) hx hb dX13_address_29 (by decide) (fun c29 => ?_) (fun c29 => ?_)
    · rw [if_pos c29] at hsh
      refine lv_iload_n hx hb dX13_address_68 rfl (hl.at 2 rfl) ?_
      refine e_if_ne (tgt := 85) hx hb dX13_address_69 (by decide) (fun c69 => ?_) (fun c69 => ?_)
      · rw [if_neg c69] at hsh
        refine lv_iload_n hx hb dX13_address_85 rfl (hl.at 2 rfl) ?_
        refine e_aload_n (B := B) (x := x0) hx hb dX13_address_86 rfl (hl.at 0 rfl) ?_
        obtain ⟨v87, h87, hsh⟩ := Option.bind_eq_some_iff.mp hsh
        refine e_getI (k := 2) hx hb hts in_X13 hown hp h87 rfl (by decide) (by decide) rfl (hts _ kf13_13) rfl dX13_address_87 ?_
        refine e_icmp_gt (tgt := 99) hx hb dX13_address_90 (by decide) (fun c90 => ?_) (fun c90 => ?_)
        · rw [if_pos c90] at hsh
          refine lv_iconst (v := iI (-1)) hx hb dX13_address_99 rfl ?_
          exact w13_address_b100 E hp hS (hl.sub [] rfl) hsh
        · rw [if_neg c90] at hsh
          refine lv_iload_n hx hb dX13_address_93 rfl (hl.at 2 rfl) ?_
          refine lv_iconst (v := iI (1)) hx hb dX13_address_94 rfl ?_
          refine e_isub hx hb dX13_address_95 ?_
          refine lv_goto (tgt := 100) hx hb dX13_address_96 (by decide) ?_
          exact w13_address_b100 E hp hS (hl.sub [] rfl) hsh
      · rw [if_pos c69] at hsh
        refine lv_iload_n hx hb dX13_address_72 rfl (hl.at 1 rfl) ?_
        refine e_if_eq (tgt := 81) hx hb dX13_address_73 (by decide) (fun c73 => ?_) (fun c73 => ?_)
        · rw [if_pos c73] at hsh
          refine lv_iconst (v := iI (-1)) hx hb dX13_address_81 rfl ?_
          refine lv_goto (tgt := 100) hx hb dX13_address_82 (by decide) ?_
          exact w13_address_b100 E hp hS (hl.sub [] rfl) hsh
        · rw [if_neg c73] at hsh
          refine lv_bipush (v := iI (-3)) hx hb dX13_address_76 (by decide +kernel) ?_
          refine lv_goto (tgt := 100) hx hb dX13_address_78 (by decide) ?_
          exact w13_address_b100 E hp hS (hl.sub [] rfl) hsh
    · rw [if_neg c29] at hsh
      refine lv_sipush (v := iI (1000)) hx hb dX13_address_32 (by decide +kernel) ?_
      refine lv_bipush (v := iI (10)) hx hb dX13_address_35 (by decide +kernel) ?_
      refine lv_iload_n hx hb dX13_address_37 rfl (hl.at 2 rfl) ?_
      refine e_imul hx hb dX13_address_38 ?_
      refine e_aload_n (B := B) (x := x0) hx hb dX13_address_39 rfl (hl.at 0 rfl) ?_
      refine e_aload_n (B := B) (x := x0) hx hb dX13_address_40 rfl (hl.at 0 rfl) ?_
      obtain ⟨v41, h41, hsh⟩ := Option.bind_eq_some_iff.mp hsh
      refine e_getI (k := 105) hx hb hts in_X13 hown hp h41 rfl (by decide) (by decide) rfl (hts _ kf13_861) rfl dX13_address_41 ?_
      obtain ⟨⟨v44, S44⟩, h44, hsh⟩ := Option.bind_eq_some_iff.mp hsh
      have hsh : _ = _ := hsh
      try dsimp only at hsh
      have ok44 := ok13_codeAt h44
      refine e_callI (nL := 4) (mc := 0) (ms := 0) (T := TX13) (N := 126) (As := [.int (iI (v41))]) (rest := [.int (iI ((10 * x3))), .int (iI (1000))]) hx hb hml hown hts hp hS hl.size ok44.1 ok44.2.1 ok44.2.2 rfl (by decide) (c13_codeAt l D cA B S26 S44 (x0) (v41) v44 h44) rfl rfl kd13_codeAt (kl13_864) ks13_codeAt kv13_codeAt ki13 kh13_codeAt ⟨Nat.le_of_ble_eq_true rfl, Nat.le_of_ble_eq_true rfl⟩ rfl (by simp [e_rv_cat, e_int_cat]) ⟨Nat.le_refl _, Nat.le_refl _⟩ dX13_address_44 rfl (fun H locs hp hS => ?_)
      refine e_iadd hx hb dX13_address_47 ?_
      refine lv_bipush (v := iI (48)) hx hb dX13_address_48 (by decide +kernel) ?_
      refine e_isub hx hb dX13_address_50 ?_
      obtain ⟨⟨v51, S51⟩, h51, hsh⟩ := Option.bind_eq_some_iff.mp hsh
      have hsh : _ = _ := hsh
      try dsimp only at hsh
      refine e_callS (nL := 4) (mc := 0) (ms := 0) (As := [.int (iI (1000)), .int (iI ((((10 * x3) + v44) - 48)))]) (rest := []) hx hb hml hown hts hp hS hl.size (c13_lesser l D cA B S44 S51 (1000) ((((10 * x3) + v44) - 48)) v51 h51) rfl rfl kd13_lesser (kl13_257) ks13_lesser ki13 kh13_lesser ⟨Nat.le_of_ble_eq_true rfl, Nat.le_of_ble_eq_true rfl⟩ rfl (by simp [e_rv_cat, e_int_cat]) ⟨Nat.le_refl _, Nat.le_refl _⟩ dX13_address_51 rfl (fun H locs hp hS => ?_)
      refine e_istore_n (lv' := [(3, .int (iI (v51))), (0, e_rv B (x0)), (1, .int (iI (x1)))]) hx hb dX13_address_54 rfl hl (by decide) rfl (fun ls hl => ?_)
      refine e_aload_n (B := B) (x := x0) hx hb dX13_address_55 rfl (hl.at 1 rfl) ?_
      refine lv_dup hx hb dX13_address_56 (e_rv_cat _ _) ?_
      obtain ⟨v57, h57, hsh⟩ := Option.bind_eq_some_iff.mp hsh
      refine e_getI (k := 105) hx hb hts in_X13 hown hp h57 rfl (by decide) (by decide) rfl (hts _ kf13_861) rfl dX13_address_57 ?_
      refine lv_iconst (v := iI (1)) hx hb dX13_address_60 rfl ?_
      refine e_iadd hx hb dX13_address_61 ?_
      obtain ⟨S62, h62, hsh⟩ := Option.bind_eq_some_iff.mp hsh
      refine e_putI (k := 105) hx hb hts in_X13 tyX13 tyX13_ok nmX13 hown hp hS h62 rfl (by decide) (by decide) rfl (hts _ kf13_861) rfl rfl (by decide +kernel) dX13_address_62 (fun H locs hp hS => ?_)
      refine lv_goto (tgt := 18) hx hb dX13_address_65 (by decide) ?_
      exact hk18 hp hS (hl.sub [1, 2, 0] rfl) hsh
set_option maxRecDepth 100000 in
set_option maxHeartbeats 4000000 in
theorem c13_address (l : Launch) (D : va_G) (cA : Nat → ClassId) (B : Nat) (S S' : HP) (x0 : Int) (x1 : Int) (r : Int) (hsh : s13_address S x0 x1 = some (r, S')) : Met l yX13_address (e_wu yX13_address cX13_address 4 (some .int)) ({ frames := 2, cells := 0, slots := 0, locals := 42 } : Room) (va_Pc [e_rv B (x0), .int (iI (x1))] (fun U => e_PU D cA B S U)) (e_Qi D cA B r S') 0 0 (e_A B) := by
  refine Met.ofW (cc := cX13_address) (maxL := 4) (ret := (some .int)) (by decide +kernel) rfl ?_
  intro p e s m args below meth c s₁ Bd hml hv
  obtain ⟨rfl, hp⟩ := hv
  have hp : e_Pic D cA B S s s.heap := hp
  have hx := Bd.exec
  have hb := Bd.bytes
  have hrt := Bd.returns
  have hlk := Bd.notSynchronized
  have hown : s.vm.findClass RX13 = some m.cls := findClass_of_methodNamed Bd.named
  have hts : ∀ w ∈ e_tb, w.before ([e_rv B (x0), .int (iI (x1))] : List Value).toArray s = true := fun w h => atoms_spec (ws := (e_wu yX13_address cX13_address 4 (some .int))) Bd.pre w (List.mem_cons_of_mem _ h)
  have E : e_En p s m ([e_rv B (x0), .int (iI (x1))] : List Value).toArray meth c cX13_address RX13 4 (some .int) := ⟨hx, hb, hml, hown, hts, hlk, hrt⟩
  have hS : va_S (e_A B) s.heap s.heap [] := va_S.rf
  have hl := e_entry (vs := [e_rv B (x0), .int (iI (x1))]) (n := 4) (Nat.le_of_ble_eq_true rfl) (e_cc (e_rv_cat _ _) (e_cc rfl e_cn))
  rw [lg_entry_eq]
  generalize (lg_sl [e_rv B (x0), .int (iI (x1))] ++ List.replicate (4 - (lg_sl [e_rv B (x0), .int (iI (x1))]).length) Slot.unset).toArray = ls at hl ⊢
  generalize ([e_rv B (x0), .int (iI (x1))] : List Value).toArray = args at hts E ⊢
  have hl : e_lo ls 4 [(0, e_rv B (x0)), (1, .int (iI (x1)))] := hl
  have hsh := (gd_some hsh).2
  refine e_aload_n (B := B) (x := x0) hx hb dX13_address_0 rfl (hl.at 0 rfl) ?_
  refine e_aload_n (B := B) (x := x0) hx hb dX13_address_1 rfl (hl.at 0 rfl) ?_
  obtain ⟨v2, h2, hsh⟩ := Option.bind_eq_some_iff.mp hsh
  refine e_getI (k := 105) hx hb hts in_X13 hown hp h2 rfl (by decide) (by decide) rfl (hts _ kf13_861) rfl dX13_address_2 ?_
  obtain ⟨⟨v5, S5⟩, h5, hsh⟩ := Option.bind_eq_some_iff.mp hsh
  have hsh : _ = _ := hsh
  try dsimp only at hsh
  have ok5 := ok13_codeAt h5
  refine e_callI (nL := 4) (mc := 0) (ms := 0) (T := TX13) (N := 126) (As := [.int (iI (v2))]) (rest := []) hx hb hml hown hts hp hS hl.size ok5.1 ok5.2.1 ok5.2.2 rfl (by decide) (c13_codeAt l D cA B S S5 (x0) (v2) v5 h5) rfl rfl kd13_codeAt (kl13_864) ks13_codeAt kv13_codeAt ki13 kh13_codeAt ⟨Nat.le_of_ble_eq_true rfl, Nat.le_of_ble_eq_true rfl⟩ rfl (by simp [e_rv_cat, e_int_cat]) ⟨Nat.le_refl _, Nat.le_refl _⟩ dX13_address_5 rfl (fun H locs hp hS => ?_)
  refine e_istore_n (lv' := [(2, .int (iI (v5))), (0, e_rv B (x0)), (1, .int (iI (x1)))]) hx hb dX13_address_8 rfl hl (by decide) rfl (fun ls hl => ?_)
  refine lv_iload_n hx hb dX13_address_9 rfl (hl.at 0 rfl) ?_
  obtain ⟨⟨v10, S10⟩, h10, hsh⟩ := Option.bind_eq_some_iff.mp hsh
  have hsh : _ = _ := hsh
  try dsimp only at hsh
  refine e_callS (nL := 4) (mc := 0) (ms := 0) (As := [.int (iI (v5))]) (rest := []) hx hb hml hown hts hp hS hl.size (c13_isDigit l D cA B S5 S10 (v5) v10 h10) rfl rfl kd13_isDigit (kl13_822) ks13_isDigit ki13 kh13_isDigit ⟨Nat.le_of_ble_eq_true rfl, Nat.le_of_ble_eq_true rfl⟩ rfl (by simp [e_rv_cat, e_int_cat]) ⟨Nat.le_refl _, Nat.le_refl _⟩ dX13_address_10 rfl (fun H locs hp hS => ?_)
  refine e_if_eq (tgt := 101) hx hb dX13_address_13 (by decide) (fun c13 => ?_) (fun c13 => ?_)
  · rw [if_pos c13] at hsh
    refine lv_iload_n hx hb dX13_address_101 rfl (hl.at 0 rfl) ?_
    refine lv_bipush (v := iI (46)) hx hb dX13_address_102 (by decide +kernel) ?_
    refine e_icmp_eq (tgt := 113) hx hb dX13_address_104 (by decide) (fun c104 => ?_) (fun c104 => ?_)
    · rw [if_pos c104] at hsh
      exact w13_address_b113 E hp hS (hl.sub [1, 0] rfl) hsh
    · rw [if_neg c104] at hsh
      refine lv_iload_n hx hb dX13_address_107 rfl (hl.at 0 rfl) ?_
      refine lv_bipush (v := iI (36)) hx hb dX13_address_108 (by decide +kernel) ?_
      refine e_icmp_ne (tgt := 143) hx hb dX13_address_110 (by decide) (fun c110 => ?_) (fun c110 => ?_)
      · rw [if_neg c110] at hsh
        refine lv_iload_n hx hb dX13_address_143 rfl (hl.at 0 rfl) ?_
        refine lv_bipush (v := iI (39)) hx hb dX13_address_144 (by decide +kernel) ?_
        refine e_icmp_ne (tgt := 194) hx hb dX13_address_146 (by decide) (fun c146 => ?_) (fun c146 => ?_)
        · rw [if_neg c146] at hsh
          exact w13_address_b194 E hp hS (hl.sub [0] rfl) hsh
        · rw [if_pos c146] at hsh
          refine e_aload_n (B := B) (x := x0) hx hb dX13_address_149 rfl (hl.at 1 rfl) ?_
          refine e_aload_n (B := B) (x := x0) hx hb dX13_address_150 rfl (hl.at 1 rfl) ?_
          obtain ⟨v151, h151, hsh⟩ := Option.bind_eq_some_iff.mp hsh
          refine e_getI (k := 105) hx hb hts in_X13 hown hp h151 rfl (by decide) (by decide) rfl (hts _ kf13_861) rfl dX13_address_151 ?_
          refine lv_iconst (v := iI (1)) hx hb dX13_address_154 rfl ?_
          refine e_iadd hx hb dX13_address_155 ?_
          obtain ⟨⟨v156, S156⟩, h156, hsh⟩ := Option.bind_eq_some_iff.mp hsh
          have hsh : _ = _ := hsh
          try dsimp only at hsh
          have ok156 := ok13_codeAt h156
          refine e_callI (nL := 4) (mc := 0) (ms := 0) (T := TX13) (N := 126) (As := [.int (iI ((v151 + 1)))]) (rest := []) hx hb hml hown hts hp hS hl.size ok156.1 ok156.2.1 ok156.2.2 rfl (by decide) (c13_codeAt l D cA B S10 S156 (x0) ((v151 + 1)) v156 h156) rfl rfl kd13_codeAt (kl13_864) ks13_codeAt kv13_codeAt ki13 kh13_codeAt ⟨Nat.le_of_ble_eq_true rfl, Nat.le_of_ble_eq_true rfl⟩ rfl (by simp [e_rv_cat, e_int_cat]) ⟨Nat.le_refl _, Nat.le_refl _⟩ dX13_address_156 rfl (fun H locs hp hS => ?_)
          obtain ⟨⟨v159, S159⟩, h159, hsh⟩ := Option.bind_eq_some_iff.mp hsh
          have hsh : _ = _ := hsh
          try dsimp only at hsh
          refine e_callS (nL := 4) (mc := 0) (ms := 0) (As := [.int (iI (v156))]) (rest := []) hx hb hml hown hts hp hS hl.size (c13_isLetter l D cA B S156 S159 (v156) v159 h159) rfl rfl kd13_isLetter (kl13_618) ks13_isLetter ki13 kh13_isLetter ⟨Nat.le_of_ble_eq_true rfl, Nat.le_of_ble_eq_true rfl⟩ rfl (by simp [e_rv_cat, e_int_cat]) ⟨Nat.le_refl _, Nat.le_refl _⟩ dX13_address_159 rfl (fun H locs hp hS => ?_)
          refine e_if_eq (tgt := 194) hx hb dX13_address_162 (by decide) (fun c162 => ?_) (fun c162 => ?_)
          · rw [if_pos c162] at hsh
            exact w13_address_b194 E hp hS (hl.sub [0] rfl) hsh
          · rw [if_neg c162] at hsh
            refine e_aload_n (B := B) (x := x0) hx hb dX13_address_165 rfl (hl.at 1 rfl) ?_
            refine lv_dup hx hb dX13_address_166 (e_rv_cat _ _) ?_
            obtain ⟨v167, h167, hsh⟩ := Option.bind_eq_some_iff.mp hsh
            refine e_getI (k := 105) hx hb hts in_X13 hown hp h167 rfl (by decide) (by decide) rfl (hts _ kf13_861) rfl dX13_address_167 ?_
            refine lv_iconst (v := iI (2)) hx hb dX13_address_170 rfl ?_
            refine e_iadd hx hb dX13_address_171 ?_
            obtain ⟨S172, h172, hsh⟩ := Option.bind_eq_some_iff.mp hsh
            refine e_putI (k := 105) hx hb hts in_X13 tyX13 tyX13_ok nmX13 hown hp hS h172 rfl (by decide) (by decide) rfl (hts _ kf13_861) rfl rfl (by decide +kernel) dX13_address_172 (fun H locs hp hS => ?_)
            refine e_aload_n (B := B) (x := x0) hx hb dX13_address_175 rfl (hl.at 1 rfl) ?_
            obtain ⟨v176, h176, hsh⟩ := Option.bind_eq_some_iff.mp hsh
            refine e_getR (k := 14) hx hb hts in_X13 hown hp h176 rfl (by decide) (by decide) rfl (hts _ kf13_33) rfl dX13_address_176 ?_
            refine e_aload_n (B := B) (x := x0) hx hb dX13_address_179 rfl (hl.at 1 rfl) ?_
            refine e_aload_n (B := B) (x := x0) hx hb dX13_address_180 rfl (hl.at 1 rfl) ?_
            obtain ⟨v181, h181, hsh⟩ := Option.bind_eq_some_iff.mp hsh
            refine e_getI (k := 105) hx hb hts in_X13 hown hp h181 rfl (by decide) (by decide) rfl (hts _ kf13_861) rfl dX13_address_181 ?_
            refine lv_iconst (v := iI (1)) hx hb dX13_address_184 rfl ?_
            refine e_isub hx hb dX13_address_185 ?_
            obtain ⟨⟨v186, S186⟩, h186, hsh⟩ := Option.bind_eq_some_iff.mp hsh
            have hsh : _ = _ := hsh
            try dsimp only at hsh
            have ok186 := ok13_codeAt h186
            refine e_callI (nL := 4) (mc := 0) (ms := 0) (T := TX13) (N := 126) (As := [.int (iI ((v181 - 1)))]) (rest := [e_rv B (v176)]) hx hb hml hown hts hp hS hl.size ok186.1 ok186.2.1 ok186.2.2 rfl (by decide) (c13_codeAt l D cA B S172 S186 (x0) ((v181 - 1)) v186 h186) rfl rfl kd13_codeAt (kl13_864) ks13_codeAt kv13_codeAt ki13 kh13_codeAt ⟨Nat.le_of_ble_eq_true rfl, Nat.le_of_ble_eq_true rfl⟩ rfl (by simp [e_rv_cat, e_int_cat]) ⟨Nat.le_refl _, Nat.le_refl _⟩ dX13_address_186 rfl (fun H locs hp hS => ?_)
            refine lv_bipush (v := iI (97)) hx hb dX13_address_189 (by decide +kernel) ?_
            refine e_isub hx hb dX13_address_191 ?_
            obtain ⟨v192, h192, hsh⟩ := Option.bind_eq_some_iff.mp hsh
            refine e_iald hx hb hp h192 dX13_address_192 ?_
            cases hsh
            exact e_iret hx hb hrt hlk hp hS dX13_address_193
      · rw [if_pos c110] at hsh
        exact w13_address_b113 E hp hS (hl.sub [1, 0] rfl) hsh
  · rw [if_neg c13] at hsh
    refine lv_iconst (v := iI (0)) hx hb dX13_address_16 rfl ?_
    refine e_istore_n (lv' := [(3, .int (iI (0))), (2, .int (iI (v5))), (0, e_rv B (x0)), (1, .int (iI (x1)))]) hx hb dX13_address_17 rfl hl (by decide) rfl (fun ls hl => ?_)
    exact w13_address_l18 E 1000000 hp hS (hl.sub [2, 3, 0] rfl) hsh
theorem ok13_readsRange {S : HP} {x0 : Int} {r : Int × HP} (h : s13_readsRange S x0 = some r) : 0 ≤ x0 ∧ x0.toNat < e_n S ∧ e_g S x0.toNat = 13 := (gd_some h).1
set_option maxRecDepth 100000 in
set_option maxHeartbeats 4000000 in
theorem w13_readsRange_b139 {p : Program} {l : Launch} {e : Env} {s : State} {m : MethodId} {args : Array Value} {below : List Frame} {meth : Method} {c : Code} {D : va_G} {cA : Nat → ClassId} {B : Nat} {res : Int × HP} (E : e_En p s m args meth c cX13_readsRange RX13 3 (some .boolean)) {ls : Array Slot} {H : Heap} {locs : List Loc} {S : HP} {y0 : Int} (hp : e_Pic D cA B S s H) (hS : va_S (e_A B) s.heap H locs) (hl : e_lo ls 3 []) (hsh : s13_readsRange_b139 S y0 = some res) : W p l e ({ frames := 3, cells := 0, slots := 0, locals := 65 } : Room) s m args below meth c H locs 0 0 (MQ below (e_Qi D cA B res.1 res.2) args s 0 0 (e_A B)) (F0 m 139 ls [.int (iI (y0))]) := by
  obtain ⟨hx, hb, hml, hown, hts, hlk, hrt⟩ := id E
  unfold s13_readsRange_b139 at hsh
  obtain ⟨hz, hz1, hz2⟩ := zR_some hsh
  rw [← hz1, ← hz2]
  exact e_zret hx hb hrt hlk hp hS hz dX13_readsRange_139
set_option maxRecDepth 100000 in
set_option maxHeartbeats 4000000 in
theorem w13_readsRange_b138 {p : Program} {l : Launch} {e : Env} {s : State} {m : MethodId} {args : Array Value} {below : List Frame} {meth : Method} {c : Code} {D : va_G} {cA : Nat → ClassId} {B : Nat} {res : Int × HP} (E : e_En p s m args meth c cX13_readsRange RX13 3 (some .boolean)) {ls : Array Slot} {H : Heap} {locs : List Loc} {S : HP} (hp : e_Pic D cA B S s H) (hS : va_S (e_A B) s.heap H locs) (hl : e_lo ls 3 []) (hsh : s13_readsRange_b138 S  = some res) : W p l e ({ frames := 3, cells := 0, slots := 0, locals := 65 } : Room) s m args below meth c H locs 0 0 (MQ below (e_Qi D cA B res.1 res.2) args s 0 0 (e_A B)) (F0 m 138 ls []) := by
  obtain ⟨hx, hb, hml, hown, hts, hlk, hrt⟩ := id E
  unfold s13_readsRange_b138 at hsh
  refine lv_iconst (v := iI (0)) hx hb dX13_readsRange_138 rfl ?_
  exact w13_readsRange_b139 E hp hS (hl.sub [] rfl) hsh
set_option maxRecDepth 100000 in
set_option maxHeartbeats 4000000 in
theorem w13_readsRange_b115 {p : Program} {l : Launch} {e : Env} {s : State} {m : MethodId} {args : Array Value} {below : List Frame} {meth : Method} {c : Code} {D : va_G} {cA : Nat → ClassId} {B : Nat} {res : Int × HP} (E : e_En p s m args meth c cX13_readsRange RX13 3 (some .boolean)) {ls : Array Slot} {H : Heap} {locs : List Loc} {S : HP} {x0 : Int} {x1 : Int} {x2 : Int} (hp : e_Pic D cA B S s H) (hS : va_S (e_A B) s.heap H locs) (hl : e_lo ls 3 [(0, e_rv B (x0)), (1, .int (iI (x1))), (2, .int (iI (x2)))]) (hsh : s13_readsRange_b115 S x0 x1 x2 = some res) : W p l e ({ frames := 3, cells := 0, slots := 0, locals := 65 } : Room) s m args below meth c H locs 0 0 (MQ below (e_Qi D cA B res.1 res.2) args s 0 0 (e_A B)) (F0 m 115 ls []) := by
  obtain ⟨hx, hb, hml, hown, hts, hlk, hrt⟩ := id E
  unfold s13_readsRange_b115 at hsh
  refine e_aload_n (B := B) (x := x0) hx hb dX13_readsRange_115 rfl (hl.at 0 rfl) ?_
  refine lv_iload_n hx hb dX13_readsRange_116 rfl (hl.at 1 rfl) ?_
  obtain ⟨S117, h117, hsh⟩ := Option.bind_eq_some_iff.mp hsh
  refine e_putI (k := 108) hx hb hts in_X13 tyX13 tyX13_ok nmX13 hown hp hS h117 rfl (by decide) (by decide) rfl (hts _ kf13_870) rfl rfl (by decide +kernel) dX13_readsRange_117 (fun H locs hp hS => ?_)
  refine e_aload_n (B := B) (x := x0) hx hb dX13_readsRange_120 rfl (hl.at 0 rfl) ?_
  refine lv_iload_n hx hb dX13_readsRange_121 rfl (hl.at 2 rfl) ?_
  obtain ⟨S122, h122, hsh⟩ := Option.bind_eq_some_iff.mp hsh
  refine e_putI (k := 109) hx hb hts in_X13 tyX13 tyX13_ok nmX13 hown hp hS h122 rfl (by decide) (by decide) rfl (hts _ kf13_873) rfl rfl (by decide +kernel) dX13_readsRange_122 (fun H locs hp hS => ?_)
  refine lv_iload_n hx hb dX13_readsRange_125 rfl (hl.at 1 rfl) ?_
  refine e_if_lt (tgt := 138) hx hb dX13_readsRange_126 (by decide) (fun c126 => ?_) (fun c126 => ?_)
  · rw [if_pos c126] at hsh
    exact w13_readsRange_b138 E hp hS (hl.sub [] rfl) hsh
  · rw [if_neg c126] at hsh
    refine lv_iload_n hx hb dX13_readsRange_129 rfl (hl.at 2 rfl) ?_
    refine lv_iload_n hx hb dX13_readsRange_130 rfl (hl.at 1 rfl) ?_
    refine e_icmp_lt (tgt := 138) hx hb dX13_readsRange_131 (by decide) (fun c131 => ?_) (fun c131 => ?_)
    · rw [if_pos c131] at hsh
      exact w13_readsRange_b138 E hp hS (hl.sub [] rfl) hsh
    · rw [if_neg c131] at hsh
      refine lv_iconst (v := iI (1)) hx hb dX13_readsRange_134 rfl ?_
      refine lv_goto (tgt := 139) hx hb dX13_readsRange_135 (by decide) ?_
      exact w13_readsRange_b139 E hp hS (hl.sub [] rfl) hsh
set_option maxRecDepth 100000 in
set_option maxHeartbeats 4000000 in
theorem c13_readsRange (l : Launch) (D : va_G) (cA : Nat → ClassId) (B : Nat) (S S' : HP) (x0 : Int) (r : Int) (hsh : s13_readsRange S x0 = some (r, S')) : Met l yX13_readsRange (e_wu yX13_readsRange cX13_readsRange 3 (some .boolean)) ({ frames := 3, cells := 0, slots := 0, locals := 65 } : Room) (va_Pc [e_rv B (x0)] (fun U => e_PU D cA B S U)) (e_Qi D cA B r S') 0 0 (e_A B) := by
  refine Met.ofW (cc := cX13_readsRange) (maxL := 3) (ret := (some .boolean)) (by decide +kernel) rfl ?_
  intro p e s m args below meth c s₁ Bd hml hv
  obtain ⟨rfl, hp⟩ := hv
  have hp : e_Pic D cA B S s s.heap := hp
  have hx := Bd.exec
  have hb := Bd.bytes
  have hrt := Bd.returns
  have hlk := Bd.notSynchronized
  have hown : s.vm.findClass RX13 = some m.cls := findClass_of_methodNamed Bd.named
  have hts : ∀ w ∈ e_tb, w.before ([e_rv B (x0)] : List Value).toArray s = true := fun w h => atoms_spec (ws := (e_wu yX13_readsRange cX13_readsRange 3 (some .boolean))) Bd.pre w (List.mem_cons_of_mem _ h)
  have E : e_En p s m ([e_rv B (x0)] : List Value).toArray meth c cX13_readsRange RX13 3 (some .boolean) := ⟨hx, hb, hml, hown, hts, hlk, hrt⟩
  have hS : va_S (e_A B) s.heap s.heap [] := va_S.rf
  have hl := e_entry (vs := [e_rv B (x0)]) (n := 3) (Nat.le_of_ble_eq_true rfl) (e_cc (e_rv_cat _ _) e_cn)
  rw [lg_entry_eq]
  generalize (lg_sl [e_rv B (x0)] ++ List.replicate (3 - (lg_sl [e_rv B (x0)]).length) Slot.unset).toArray = ls at hl ⊢
  generalize ([e_rv B (x0)] : List Value).toArray = args at hts E ⊢
  have hl : e_lo ls 3 [(0, e_rv B (x0))] := hl
  have hsh := (gd_some hsh).2
  refine e_aload_n (B := B) (x := x0) hx hb dX13_readsRange_0 rfl (hl.at 0 rfl) ?_
  refine lv_iconst (v := iI (1)) hx hb dX13_readsRange_1 rfl ?_
  obtain ⟨S2, h2, hsh⟩ := Option.bind_eq_some_iff.mp hsh
  refine e_putZ (k := 107) hx hb hts in_X13 tyX13 tyX13_ok nmX13 hown hp hS h2 rfl (by decide) (by decide) rfl (hts _ kf13_867) rfl rfl (by decide +kernel) dX13_readsRange_2 (fun H locs hp hS => ?_)
  refine e_aload_n (B := B) (x := x0) hx hb dX13_readsRange_5 rfl (hl.at 0 rfl) ?_
  refine lv_iconst (v := iI (0)) hx hb dX13_readsRange_6 rfl ?_
  obtain ⟨S7, h7, hsh⟩ := Option.bind_eq_some_iff.mp hsh
  refine e_putI (k := 108) hx hb hts in_X13 tyX13 tyX13_ok nmX13 hown hp hS h7 rfl (by decide) (by decide) rfl (hts _ kf13_870) rfl rfl (by decide +kernel) dX13_readsRange_7 (fun H locs hp hS => ?_)
  refine e_aload_n (B := B) (x := x0) hx hb dX13_readsRange_10 rfl (hl.at 0 rfl) ?_
  refine e_aload_n (B := B) (x := x0) hx hb dX13_readsRange_11 rfl (hl.at 0 rfl) ?_
  obtain ⟨v12, h12, hsh⟩ := Option.bind_eq_some_iff.mp hsh
  refine e_getI (k := 2) hx hb hts in_X13 hown hp h12 rfl (by decide) (by decide) rfl (hts _ kf13_13) rfl dX13_readsRange_12 ?_
  refine lv_iconst (v := iI (1)) hx hb dX13_readsRange_15 rfl ?_
  refine e_isub hx hb dX13_readsRange_16 ?_
  obtain ⟨S17, h17, hsh⟩ := Option.bind_eq_some_iff.mp hsh
  refine e_putI (k := 109) hx hb hts in_X13 tyX13 tyX13_ok nmX13 hown hp hS h17 rfl (by decide) (by decide) rfl (hts _ kf13_873) rfl rfl (by decide +kernel) dX13_readsRange_17 (fun H locs hp hS => ?_)
  refine e_aload_n (B := B) (x := x0) hx hb dX13_readsRange_20 rfl (hl.at 0 rfl) ?_
  refine e_aload_n (B := B) (x := x0) hx hb dX13_readsRange_21 rfl (hl.at 0 rfl) ?_
  obtain ⟨v22, h22, hsh⟩ := Option.bind_eq_some_iff.mp hsh
  refine e_getI (k := 105) hx hb hts in_X13 hown hp h22 rfl (by decide) (by decide) rfl (hts _ kf13_861) rfl dX13_readsRange_22 ?_
  obtain ⟨⟨v25, S25⟩, h25, hsh⟩ := Option.bind_eq_some_iff.mp hsh
  have hsh : _ = _ := hsh
  try dsimp only at hsh
  have ok25 := ok13_codeAt h25
  refine e_callI (nL := 3) (mc := 0) (ms := 0) (T := TX13) (N := 126) (As := [.int (iI (v22))]) (rest := []) hx hb hml hown hts hp hS hl.size ok25.1 ok25.2.1 ok25.2.2 rfl (by decide) (c13_codeAt l D cA B S17 S25 (x0) (v22) v25 h25) rfl rfl kd13_codeAt (kl13_864) ks13_codeAt kv13_codeAt ki13 kh13_codeAt ⟨Nat.le_of_ble_eq_true rfl, Nat.le_of_ble_eq_true rfl⟩ rfl (by simp [e_rv_cat, e_int_cat]) ⟨Nat.le_refl _, Nat.le_refl _⟩ dX13_readsRange_25 rfl (fun H locs hp hS => ?_)
  refine lv_bipush (v := iI (37)) hx hb dX13_readsRange_28 (by decide +kernel) ?_
  refine e_icmp_ne (tgt := 45) hx hb dX13_readsRange_30 (by decide) (fun c30 => ?_) (fun c30 => ?_)
  · rw [if_neg c30] at hsh
    refine e_aload_n (B := B) (x := x0) hx hb dX13_readsRange_45 rfl (hl.at 0 rfl) ?_
    refine lv_iconst (v := iI (0)) hx hb dX13_readsRange_46 rfl ?_
    obtain ⟨⟨v47, S47⟩, h47, hsh⟩ := Option.bind_eq_some_iff.mp hsh
    have hsh : _ = _ := hsh
    try dsimp only at hsh
    have ok47 := ok13_address h47
    refine e_callI (nL := 3) (mc := 0) (ms := 0) (T := TX13) (N := 126) (As := [.int (iI (0))]) (rest := []) hx hb hml hown hts hp hS hl.size ok47.1 ok47.2.1 ok47.2.2 rfl (by decide) (c13_address l D cA B S25 S47 (x0) (0) v47 h47) rfl rfl kd13_address (kl13_876) ks13_address kv13_address ki13 kh13_address ⟨Nat.le_of_ble_eq_true rfl, Nat.le_of_ble_eq_true rfl⟩ rfl (by simp [e_rv_cat, e_int_cat]) ⟨Nat.le_refl _, Nat.le_refl _⟩ dX13_readsRange_47 rfl (fun H locs hp hS => ?_)
    refine e_istore_n (lv' := [(1, .int (iI (v47))), (0, e_rv B (x0))]) hx hb dX13_readsRange_50 rfl hl (by decide) rfl (fun ls hl => ?_)
    refine lv_iload_n hx hb dX13_readsRange_51 rfl (hl.at 0 rfl) ?_
    refine lv_bipush (v := iI (-2)) hx hb dX13_readsRange_52 (by decide +kernel) ?_
    refine e_icmp_ne (tgt := 80) hx hb dX13_readsRange_54 (by decide) (fun c54 => ?_) (fun c54 => ?_)
    · rw [if_neg c54] at hsh
      refine lv_iload_n hx hb dX13_readsRange_80 rfl (hl.at 0 rfl) ?_
      refine e_istore_n (lv' := [(2, .int (iI (v47))), (1, .int (iI (v47))), (0, e_rv B (x0))]) hx hb dX13_readsRange_81 rfl hl (by decide) rfl (fun ls hl => ?_)
      refine lv_iload_n hx hb dX13_readsRange_82 rfl (hl.at 1 rfl) ?_
      refine e_if_lt (tgt := 115) hx hb dX13_readsRange_83 (by decide) (fun c83 => ?_) (fun c83 => ?_)
      · rw [if_pos c83] at hsh
        exact w13_readsRange_b115 E hp hS (hl.sub [2, 1, 0] rfl) hsh
      · rw [if_neg c83] at hsh
        refine e_aload_n (B := B) (x := x0) hx hb dX13_readsRange_86 rfl (hl.at 2 rfl) ?_
        refine e_aload_n (B := B) (x := x0) hx hb dX13_readsRange_87 rfl (hl.at 2 rfl) ?_
        obtain ⟨v88, h88, hsh⟩ := Option.bind_eq_some_iff.mp hsh
        refine e_getI (k := 105) hx hb hts in_X13 hown hp h88 rfl (by decide) (by decide) rfl (hts _ kf13_861) rfl dX13_readsRange_88 ?_
        obtain ⟨⟨v91, S91⟩, h91, hsh⟩ := Option.bind_eq_some_iff.mp hsh
        have hsh : _ = _ := hsh
        try dsimp only at hsh
        have ok91 := ok13_codeAt h91
        refine e_callI (nL := 3) (mc := 0) (ms := 0) (T := TX13) (N := 126) (As := [.int (iI (v88))]) (rest := []) hx hb hml hown hts hp hS hl.size ok91.1 ok91.2.1 ok91.2.2 rfl (by decide) (c13_codeAt l D cA B S47 S91 (x0) (v88) v91 h91) rfl rfl kd13_codeAt (kl13_864) ks13_codeAt kv13_codeAt ki13 kh13_codeAt ⟨Nat.le_of_ble_eq_true rfl, Nat.le_of_ble_eq_true rfl⟩ rfl (by simp [e_rv_cat, e_int_cat]) ⟨Nat.le_refl _, Nat.le_refl _⟩ dX13_readsRange_91 rfl (fun H locs hp hS => ?_)
        refine lv_bipush (v := iI (44)) hx hb dX13_readsRange_94 (by decide +kernel) ?_
        refine e_icmp_ne (tgt := 115) hx hb dX13_readsRange_96 (by decide) (fun c96 => ?_) (fun c96 => ?_)
        · rw [if_neg c96] at hsh
          exact w13_readsRange_b115 E hp hS (hl.sub [2, 1, 0] rfl) hsh
        · rw [if_pos c96] at hsh
          refine e_aload_n (B := B) (x := x0) hx hb dX13_readsRange_99 rfl (hl.at 2 rfl) ?_
          refine lv_dup hx hb dX13_readsRange_100 (e_rv_cat _ _) ?_
          obtain ⟨v101, h101, hsh⟩ := Option.bind_eq_some_iff.mp hsh
          refine e_getI (k := 105) hx hb hts in_X13 hown hp h101 rfl (by decide) (by decide) rfl (hts _ kf13_861) rfl dX13_readsRange_101 ?_
          refine lv_iconst (v := iI (1)) hx hb dX13_readsRange_104 rfl ?_
          refine e_iadd hx hb dX13_readsRange_105 ?_
          obtain ⟨S106, h106, hsh⟩ := Option.bind_eq_some_iff.mp hsh
          refine e_putI (k := 105) hx hb hts in_X13 tyX13 tyX13_ok nmX13 hown hp hS h106 rfl (by decide) (by decide) rfl (hts _ kf13_861) rfl rfl (by decide +kernel) dX13_readsRange_106 (fun H locs hp hS => ?_)
          refine e_aload_n (B := B) (x := x0) hx hb dX13_readsRange_109 rfl (hl.at 2 rfl) ?_
          refine lv_iconst (v := iI (0)) hx hb dX13_readsRange_110 rfl ?_
          obtain ⟨⟨v111, S111⟩, h111, hsh⟩ := Option.bind_eq_some_iff.mp hsh
          have hsh : _ = _ := hsh
          try dsimp only at hsh
          have ok111 := ok13_address h111
          refine e_callI (nL := 3) (mc := 0) (ms := 0) (T := TX13) (N := 126) (As := [.int (iI (0))]) (rest := []) hx hb hml hown hts hp hS hl.size ok111.1 ok111.2.1 ok111.2.2 rfl (by decide) (c13_address l D cA B S106 S111 (x0) (0) v111 h111) rfl rfl kd13_address (kl13_876) ks13_address kv13_address ki13 kh13_address ⟨Nat.le_of_ble_eq_true rfl, Nat.le_of_ble_eq_true rfl⟩ rfl (by simp [e_rv_cat, e_int_cat]) ⟨Nat.le_refl _, Nat.le_refl _⟩ dX13_readsRange_111 rfl (fun H locs hp hS => ?_)
          refine e_istore_n (lv' := [(2, .int (iI (v111))), (1, .int (iI (v47))), (0, e_rv B (x0))]) hx hb dX13_readsRange_114 rfl hl (by decide) rfl (fun ls hl => ?_)
          exact w13_readsRange_b115 E hp hS (hl.sub [2, 1, 0] rfl) hsh
    · rw [if_pos c54] at hsh
      refine e_aload_n (B := B) (x := x0) hx hb dX13_readsRange_57 rfl (hl.at 1 rfl) ?_
      refine lv_iconst (v := iI (0)) hx hb dX13_readsRange_58 rfl ?_
      obtain ⟨S59, h59, hsh⟩ := Option.bind_eq_some_iff.mp hsh
      refine e_putZ (k := 107) hx hb hts in_X13 tyX13 tyX13_ok nmX13 hown hp hS h59 rfl (by decide) (by decide) rfl (hts _ kf13_867) rfl rfl (by decide +kernel) dX13_readsRange_59 (fun H locs hp hS => ?_)
      refine e_aload_n (B := B) (x := x0) hx hb dX13_readsRange_62 rfl (hl.at 1 rfl) ?_
      refine e_aload_n (B := B) (x := x0) hx hb dX13_readsRange_63 rfl (hl.at 1 rfl) ?_
      obtain ⟨v64, h64, hsh⟩ := Option.bind_eq_some_iff.mp hsh
      refine e_getI (k := 5) hx hb hts in_X13 hown hp h64 rfl (by decide) (by decide) rfl (hts _ kf13_213) rfl dX13_readsRange_64 ?_
      obtain ⟨S67, h67, hsh⟩ := Option.bind_eq_some_iff.mp hsh
      refine e_putI (k := 108) hx hb hts in_X13 tyX13 tyX13_ok nmX13 hown hp hS h67 rfl (by decide) (by decide) rfl (hts _ kf13_870) rfl rfl (by decide +kernel) dX13_readsRange_67 (fun H locs hp hS => ?_)
      refine e_aload_n (B := B) (x := x0) hx hb dX13_readsRange_70 rfl (hl.at 1 rfl) ?_
      refine e_aload_n (B := B) (x := x0) hx hb dX13_readsRange_71 rfl (hl.at 1 rfl) ?_
      obtain ⟨v72, h72, hsh⟩ := Option.bind_eq_some_iff.mp hsh
      refine e_getI (k := 5) hx hb hts in_X13 hown hp h72 rfl (by decide) (by decide) rfl (hts _ kf13_213) rfl dX13_readsRange_72 ?_
      obtain ⟨S75, h75, hsh⟩ := Option.bind_eq_some_iff.mp hsh
      refine e_putI (k := 109) hx hb hts in_X13 tyX13 tyX13_ok nmX13 hown hp hS h75 rfl (by decide) (by decide) rfl (hts _ kf13_873) rfl rfl (by decide +kernel) dX13_readsRange_75 (fun H locs hp hS => ?_)
      refine lv_iconst (v := iI (1)) hx hb dX13_readsRange_78 rfl ?_
      obtain ⟨hz, hz1, hz2⟩ := zR_some hsh
      rw [← hz1, ← hz2]
      exact e_zret hx hb hrt hlk hp hS hz dX13_readsRange_79
  · rw [if_pos c30] at hsh
    refine e_aload_n (B := B) (x := x0) hx hb dX13_readsRange_33 rfl (hl.at 0 rfl) ?_
    refine lv_dup hx hb dX13_readsRange_34 (e_rv_cat _ _) ?_
    obtain ⟨v35, h35, hsh⟩ := Option.bind_eq_some_iff.mp hsh
    refine e_getI (k := 105) hx hb hts in_X13 hown hp h35 rfl (by decide) (by decide) rfl (hts _ kf13_861) rfl dX13_readsRange_35 ?_
    refine lv_iconst (v := iI (1)) hx hb dX13_readsRange_38 rfl ?_
    refine e_iadd hx hb dX13_readsRange_39 ?_
    obtain ⟨S40, h40, hsh⟩ := Option.bind_eq_some_iff.mp hsh
    refine e_putI (k := 105) hx hb hts in_X13 tyX13 tyX13_ok nmX13 hown hp hS h40 rfl (by decide) (by decide) rfl (hts _ kf13_861) rfl rfl (by decide +kernel) dX13_readsRange_40 (fun H locs hp hS => ?_)
    refine lv_iconst (v := iI (1)) hx hb dX13_readsRange_43 rfl ?_
    obtain ⟨hz, hz1, hz2⟩ := zR_some hsh
    rw [← hz1, ← hz2]
    exact e_zret hx hb hrt hlk hp hS hz dX13_readsRange_44
theorem ok13_isEnd {S : HP} {x0 : Int} {r : Int × HP} (h : s13_isEnd S x0 = some r) : 0 ≤ x0 ∧ x0.toNat < e_n S ∧ e_g S x0.toNat = 13 := (gd_some h).1
set_option maxRecDepth 100000 in
set_option maxHeartbeats 4000000 in
theorem w13_isEnd_b16 {p : Program} {l : Launch} {e : Env} {s : State} {m : MethodId} {args : Array Value} {below : List Frame} {meth : Method} {c : Code} {D : va_G} {cA : Nat → ClassId} {B : Nat} {res : Int × HP} (E : e_En p s m args meth c cX13_isEnd RX13 1 (some .boolean)) {ls : Array Slot} {H : Heap} {locs : List Loc} {S : HP} {y0 : Int} (hp : e_Pic D cA B S s H) (hS : va_S (e_A B) s.heap H locs) (hl : e_lo ls 1 []) (hsh : s13_isEnd_b16 S y0 = some res) : W p l e ({ frames := 0, cells := 0, slots := 0, locals := 0 } : Room) s m args below meth c H locs 0 0 (MQ below (e_Qi D cA B res.1 res.2) args s 0 0 (e_A B)) (F0 m 16 ls [.int (iI (y0))]) := by
  obtain ⟨hx, hb, hml, hown, hts, hlk, hrt⟩ := id E
  unfold s13_isEnd_b16 at hsh
  obtain ⟨hz, hz1, hz2⟩ := zR_some hsh
  rw [← hz1, ← hz2]
  exact e_zret hx hb hrt hlk hp hS hz dX13_isEnd_16
set_option maxRecDepth 100000 in
set_option maxHeartbeats 4000000 in
theorem c13_isEnd (l : Launch) (D : va_G) (cA : Nat → ClassId) (B : Nat) (S S' : HP) (x0 : Int) (r : Int) (hsh : s13_isEnd S x0 = some (r, S')) : Met l yX13_isEnd (e_wu yX13_isEnd cX13_isEnd 1 (some .boolean)) ({ frames := 0, cells := 0, slots := 0, locals := 0 } : Room) (va_Pc [e_rv B (x0)] (fun U => e_PU D cA B S U)) (e_Qi D cA B r S') 0 0 (e_A B) := by
  refine Met.ofW (cc := cX13_isEnd) (maxL := 1) (ret := (some .boolean)) (by decide +kernel) rfl ?_
  intro p e s m args below meth c s₁ Bd hml hv
  obtain ⟨rfl, hp⟩ := hv
  have hp : e_Pic D cA B S s s.heap := hp
  have hx := Bd.exec
  have hb := Bd.bytes
  have hrt := Bd.returns
  have hlk := Bd.notSynchronized
  have hown : s.vm.findClass RX13 = some m.cls := findClass_of_methodNamed Bd.named
  have hts : ∀ w ∈ e_tb, w.before ([e_rv B (x0)] : List Value).toArray s = true := fun w h => atoms_spec (ws := (e_wu yX13_isEnd cX13_isEnd 1 (some .boolean))) Bd.pre w (List.mem_cons_of_mem _ h)
  have E : e_En p s m ([e_rv B (x0)] : List Value).toArray meth c cX13_isEnd RX13 1 (some .boolean) := ⟨hx, hb, hml, hown, hts, hlk, hrt⟩
  have hS : va_S (e_A B) s.heap s.heap [] := va_S.rf
  have hl := e_entry (vs := [e_rv B (x0)]) (n := 1) (Nat.le_of_ble_eq_true rfl) (e_cc (e_rv_cat _ _) e_cn)
  rw [lg_entry_eq]
  generalize (lg_sl [e_rv B (x0)] ++ List.replicate (1 - (lg_sl [e_rv B (x0)]).length) Slot.unset).toArray = ls at hl ⊢
  generalize ([e_rv B (x0)] : List Value).toArray = args at hts E ⊢
  have hl : e_lo ls 1 [(0, e_rv B (x0))] := hl
  have hsh := (gd_some hsh).2
  refine e_aload_n (B := B) (x := x0) hx hb dX13_isEnd_0 rfl (hl.at 0 rfl) ?_
  obtain ⟨v1, h1, hsh⟩ := Option.bind_eq_some_iff.mp hsh
  refine e_getI (k := 105) hx hb hts in_X13 hown hp h1 rfl (by decide) (by decide) rfl (hts _ kf13_861) rfl dX13_isEnd_1 ?_
  refine e_aload_n (B := B) (x := x0) hx hb dX13_isEnd_4 rfl (hl.at 0 rfl) ?_
  obtain ⟨v5, h5, hsh⟩ := Option.bind_eq_some_iff.mp hsh
  refine e_getI (k := 104) hx hb hts in_X13 hown hp h5 rfl (by decide) (by decide) rfl (hts _ kf13_858) rfl dX13_isEnd_5 ?_
  refine e_icmp_ne (tgt := 15) hx hb dX13_isEnd_8 (by decide) (fun c8 => ?_) (fun c8 => ?_)
  · rw [if_neg c8] at hsh
    refine lv_iconst (v := iI (0)) hx hb dX13_isEnd_15 rfl ?_
    exact w13_isEnd_b16 E hp hS (hl.sub [] rfl) hsh
  · rw [if_pos c8] at hsh
    refine lv_iconst (v := iI (1)) hx hb dX13_isEnd_11 rfl ?_
    refine lv_goto (tgt := 16) hx hb dX13_isEnd_12 (by decide) ?_
    exact w13_isEnd_b16 E hp hS (hl.sub [] rfl) hsh
theorem ok13_holdsLines {S : HP} {x0 : Int} {r : HP} (h : s13_holdsLines S x0 = some r) : 0 ≤ x0 ∧ x0.toNat < e_n S ∧ e_g S x0.toNat = 13 := (gd_some h).1
set_option maxRecDepth 100000 in
set_option maxHeartbeats 4000000 in
theorem w13_holdsLines_l32 {p : Program} {l : Launch} {e : Env} {s : State} {m : MethodId} {args : Array Value} {below : List Frame} {meth : Method} {c : Code} {D : va_G} {cA : Nat → ClassId} {B : Nat} {res : HP} {k5 : HP → Int → Int → Option (HP)} (hk5 : ∀ {ls : Array Slot} {H : Heap} {locs : List Loc} {S : HP} {x0 : Int} {x1 : Int} (hp : e_Pic D cA B S s H) (hS : va_S (e_A B) s.heap H locs) (hl : e_lo ls 3 [(0, e_rv B (x0)), (1, .int (iI (x1)))]) (hsh : k5 S x0 x1 = some res), W p l e ({ frames := 1, cells := 0, slots := 0, locals := 22 } : Room) s m args below meth c H locs 0 0 (MQ below (e_Qv D cA B res) args s 0 0 (e_A B)) (F0 m 5 ls [])) (E : e_En p s m args meth c cX13_holdsLines RX13 3 none) : ∀ (f : Nat) {ls : Array Slot} {H : Heap} {locs : List Loc} {S : HP} {x0 : Int} {x1 : Int} {x2 : Int} (hp : e_Pic D cA B S s H) (hS : va_S (e_A B) s.heap H locs) (hl : e_lo ls 3 [(0, e_rv B (x0)), (1, .int (iI (x1))), (2, .int (iI (x2)))]) (hsh : s13_holdsLines_l32 k5 f S x0 x1 x2 = some res), W p l e ({ frames := 1, cells := 0, slots := 0, locals := 22 } : Room) s m args below meth c H locs 0 0 (MQ below (e_Qv D cA B res) args s 0 0 (e_A B)) (F0 m 32 ls []) := by
  obtain ⟨hx, hb, hml, hown, hts, hlk, hrt⟩ := id E
  intro f
  induction f with
  | zero => intro ls H locs S x0 x1 x2 hp hS hl hsh; cases hsh
  | succ f ih =>
    intro ls H locs S x0 x1 x2 hp hS hl hsh
    have hk32 : ∀ {ls : Array Slot} {H : Heap} {locs : List Loc} {S : HP} {x0 : Int} {x1 : Int} {x2 : Int} (hp : e_Pic D cA B S s H) (hS : va_S (e_A B) s.heap H locs) (hl : e_lo ls 3 [(0, e_rv B (x0)), (1, .int (iI (x1))), (2, .int (iI (x2)))]) (hsh : (s13_holdsLines_l32 k5 f) S x0 x1 x2 = some res), W p l e ({ frames := 1, cells := 0, slots := 0, locals := 22 } : Room) s m args below meth c H locs 0 0 (MQ below (e_Qv D cA B res) args s 0 0 (e_A B)) (F0 m 32 ls []) := ih
    generalize hkk : s13_holdsLines_l32 k5 f = k32 at hk32
    rw [s13_holdsLines_l32] at hsh
    rw [hkk] at hsh
    try dsimp only at hsh
    refine lv_iload_n hx hb dX13_holdsLines_32 rfl (hl.at 2 rfl) ?_
    refine e_aload_n (B := B) (x := x0) hx hb dX13_holdsLines_33 rfl (hl.at 0 rfl) ?_
    obtain ⟨v34, h34, hsh⟩ := Option.bind_eq_some_iff.mp hsh
    refine e_getR (k := 3) hx hb hts in_X13 hown hp h34 rfl (by decide) (by decide) rfl (hts _ kf13_17) rfl dX13_holdsLines_34 ?_
    refine lv_iload_n hx hb dX13_holdsLines_37 rfl (hl.at 1 rfl) ?_
    obtain ⟨v38, h38, hsh⟩ := Option.bind_eq_some_iff.mp hsh
    refine e_iald hx hb hp h38 dX13_holdsLines_38 ?_
    refine e_icmp_ge (tgt := 70) hx hb dX13_holdsLines_39 (by decide) (fun c39 => ?_) (fun c39 => ?_)
    · rw [if_pos c39] at hsh
      refine e_iinc (n := 1) (x := x1) (lv' := [(1, .int (iI ((x1 + 1)))), (0, e_rv B (x0)), (2, .int (iI (x2)))]) hx hb dX13_holdsLines_70 hl (k := 1) rfl (by decide) rfl (fun ls hl => ?_)
      refine lv_goto (tgt := 5) hx hb dX13_holdsLines_73 (by decide) ?_
      exact hk5 hp hS (hl.sub [1, 0] rfl) hsh
    · rw [if_neg c39] at hsh
      refine e_aload_n (B := B) (x := x0) hx hb dX13_holdsLines_42 rfl (hl.at 0 rfl) ?_
      obtain ⟨v43, h43, hsh⟩ := Option.bind_eq_some_iff.mp hsh
      refine e_getR (k := 111) hx hb hts in_X13 hown hp h43 rfl (by decide) (by decide) rfl (hts _ kf13_160) rfl dX13_holdsLines_43 ?_
      refine lv_bipush (v := iI (60)) hx hb dX13_holdsLines_46 (by decide +kernel) ?_
      refine lv_iload_n hx hb dX13_holdsLines_48 rfl (hl.at 1 rfl) ?_
      refine e_aload_n (B := B) (x := x0) hx hb dX13_holdsLines_49 rfl (hl.at 0 rfl) ?_
      obtain ⟨v50, h50, hsh⟩ := Option.bind_eq_some_iff.mp hsh
      refine e_getI (k := 108) hx hb hts in_X13 hown hp h50 rfl (by decide) (by decide) rfl (hts _ kf13_870) rfl dX13_holdsLines_50 ?_
      refine e_isub hx hb dX13_holdsLines_53 ?_
      refine e_imul hx hb dX13_holdsLines_54 ?_
      refine lv_iload_n hx hb dX13_holdsLines_55 rfl (hl.at 2 rfl) ?_
      refine e_iadd hx hb dX13_holdsLines_56 ?_
      refine e_aload_n (B := B) (x := x0) hx hb dX13_holdsLines_57 rfl (hl.at 0 rfl) ?_
      refine lv_iload_n hx hb dX13_holdsLines_58 rfl (hl.at 1 rfl) ?_
      refine lv_iload_n hx hb dX13_holdsLines_59 rfl (hl.at 2 rfl) ?_
      obtain ⟨⟨v60, S60⟩, h60, hsh⟩ := Option.bind_eq_some_iff.mp hsh
      have hsh : _ = _ := hsh
      try dsimp only at hsh
      have ok60 := ok13_at h60
      refine e_callI (nL := 3) (mc := 0) (ms := 0) (T := TX13) (N := 126) (As := [.int (iI (x1)), .int (iI (x2))]) (rest := [.int (iI (((60 * (x1 - v50)) + x2))), e_rv B (v43)]) hx hb hml hown hts hp hS hl.size ok60.1 ok60.2.1 ok60.2.2 rfl (by decide) (c13_at l D cA B S S60 (x0) (x1) (x2) v60 h60) rfl rfl kd13_at (kl13_206) ks13_at kv13_at ki13 kh13_at ⟨Nat.le_of_ble_eq_true rfl, Nat.le_of_ble_eq_true rfl⟩ rfl (by simp [e_rv_cat, e_int_cat]) ⟨Nat.le_refl _, Nat.le_refl _⟩ dX13_holdsLines_60 rfl (fun H locs hp hS => ?_)
      obtain ⟨S63, h63, hsh⟩ := Option.bind_eq_some_iff.mp hsh
      refine e_iast hx hb hp hS h63 dX13_holdsLines_63 (fun H locs hp hS => ?_)
      refine e_iinc (n := 1) (x := x2) (lv' := [(2, .int (iI ((x2 + 1)))), (0, e_rv B (x0)), (1, .int (iI (x1)))]) hx hb dX13_holdsLines_64 hl (k := 2) rfl (by decide) rfl (fun ls hl => ?_)
      refine lv_goto (tgt := 32) hx hb dX13_holdsLines_67 (by decide) ?_
      exact hk32 hp hS (hl.sub [1, 2, 0] rfl) hsh
set_option maxRecDepth 100000 in
set_option maxHeartbeats 4000000 in
theorem w13_holdsLines_l5 {p : Program} {l : Launch} {e : Env} {s : State} {m : MethodId} {args : Array Value} {below : List Frame} {meth : Method} {c : Code} {D : va_G} {cA : Nat → ClassId} {B : Nat} {res : HP} (E : e_En p s m args meth c cX13_holdsLines RX13 3 none) : ∀ (f : Nat) {ls : Array Slot} {H : Heap} {locs : List Loc} {S : HP} {x0 : Int} {x1 : Int} (hp : e_Pic D cA B S s H) (hS : va_S (e_A B) s.heap H locs) (hl : e_lo ls 3 [(0, e_rv B (x0)), (1, .int (iI (x1)))]) (hsh : s13_holdsLines_l5 f S x0 x1 = some res), W p l e ({ frames := 1, cells := 0, slots := 0, locals := 22 } : Room) s m args below meth c H locs 0 0 (MQ below (e_Qv D cA B res) args s 0 0 (e_A B)) (F0 m 5 ls []) := by
  obtain ⟨hx, hb, hml, hown, hts, hlk, hrt⟩ := id E
  intro f
  induction f with
  | zero => intro ls H locs S x0 x1 hp hS hl hsh; cases hsh
  | succ f ih =>
    intro ls H locs S x0 x1 hp hS hl hsh
    have hk5 : ∀ {ls : Array Slot} {H : Heap} {locs : List Loc} {S : HP} {x0 : Int} {x1 : Int} (hp : e_Pic D cA B S s H) (hS : va_S (e_A B) s.heap H locs) (hl : e_lo ls 3 [(0, e_rv B (x0)), (1, .int (iI (x1)))]) (hsh : (s13_holdsLines_l5 f) S x0 x1 = some res), W p l e ({ frames := 1, cells := 0, slots := 0, locals := 22 } : Room) s m args below meth c H locs 0 0 (MQ below (e_Qv D cA B res) args s 0 0 (e_A B)) (F0 m 5 ls []) := ih
    generalize hkk : s13_holdsLines_l5 f = k5 at hk5
    rw [s13_holdsLines_l5] at hsh
    rw [hkk] at hsh
    try dsimp only at hsh
    refine lv_iload_n hx hb dX13_holdsLines_5 rfl (hl.at 1 rfl) ?_
    refine e_aload_n (B := B) (x := x0) hx hb dX13_holdsLines_6 rfl (hl.at 0 rfl) ?_
    obtain ⟨v7, h7, hsh⟩ := Option.bind_eq_some_iff.mp hsh
    refine e_getI (k := 109) hx hb hts in_X13 hown hp h7 rfl (by decide) (by decide) rfl (hts _ kf13_873) rfl dX13_holdsLines_7 ?_
    refine e_icmp_gt (tgt := 76) hx hb dX13_holdsLines_10 (by decide) (fun c10 => ?_) (fun c10 => ?_)
    · rw [if_pos c10] at hsh
      cases hsh
      exact e_vret hx hb hrt hlk hp hS dX13_holdsLines_76
    · rw [if_neg c10] at hsh
      refine e_aload_n (B := B) (x := x0) hx hb dX13_holdsLines_13 rfl (hl.at 0 rfl) ?_
      obtain ⟨v14, h14, hsh⟩ := Option.bind_eq_some_iff.mp hsh
      refine e_getR (k := 110) hx hb hts in_X13 hown hp h14 rfl (by decide) (by decide) rfl (hts _ kf13_157) rfl dX13_holdsLines_14 ?_
      refine lv_iload_n hx hb dX13_holdsLines_17 rfl (hl.at 1 rfl) ?_
      refine e_aload_n (B := B) (x := x0) hx hb dX13_holdsLines_18 rfl (hl.at 0 rfl) ?_
      obtain ⟨v19, h19, hsh⟩ := Option.bind_eq_some_iff.mp hsh
      refine e_getI (k := 108) hx hb hts in_X13 hown hp h19 rfl (by decide) (by decide) rfl (hts _ kf13_870) rfl dX13_holdsLines_19 ?_
      refine e_isub hx hb dX13_holdsLines_22 ?_
      refine e_aload_n (B := B) (x := x0) hx hb dX13_holdsLines_23 rfl (hl.at 0 rfl) ?_
      obtain ⟨v24, h24, hsh⟩ := Option.bind_eq_some_iff.mp hsh
      refine e_getR (k := 3) hx hb hts in_X13 hown hp h24 rfl (by decide) (by decide) rfl (hts _ kf13_17) rfl dX13_holdsLines_24 ?_
      refine lv_iload_n hx hb dX13_holdsLines_27 rfl (hl.at 1 rfl) ?_
      obtain ⟨v28, h28, hsh⟩ := Option.bind_eq_some_iff.mp hsh
      refine e_iald hx hb hp h28 dX13_holdsLines_28 ?_
      obtain ⟨S29, h29, hsh⟩ := Option.bind_eq_some_iff.mp hsh
      refine e_iast hx hb hp hS h29 dX13_holdsLines_29 (fun H locs hp hS => ?_)
      refine lv_iconst (v := iI (0)) hx hb dX13_holdsLines_30 rfl ?_
      refine e_istore_n (lv' := [(2, .int (iI (0))), (0, e_rv B (x0)), (1, .int (iI (x1)))]) hx hb dX13_holdsLines_31 rfl hl (by decide) rfl (fun ls hl => ?_)
      exact w13_holdsLines_l32 (hk5 := hk5) E 1000000 hp hS (hl.sub [1, 2, 0] rfl) hsh
set_option maxRecDepth 100000 in
set_option maxHeartbeats 4000000 in
theorem c13_holdsLines (l : Launch) (D : va_G) (cA : Nat → ClassId) (B : Nat) (S S' : HP) (x0 : Int) (hsh : s13_holdsLines S x0 = some S') : Met l yX13_holdsLines (e_wu yX13_holdsLines cX13_holdsLines 3 none) ({ frames := 1, cells := 0, slots := 0, locals := 22 } : Room) (va_Pc [e_rv B (x0)] (fun U => e_PU D cA B S U)) (e_Qv D cA B S') 0 0 (e_A B) := by
  refine Met.ofW (cc := cX13_holdsLines) (maxL := 3) (ret := none) (by decide +kernel) rfl ?_
  intro p e s m args below meth c s₁ Bd hml hv
  obtain ⟨rfl, hp⟩ := hv
  have hp : e_Pic D cA B S s s.heap := hp
  have hx := Bd.exec
  have hb := Bd.bytes
  have hrt := Bd.returns
  have hlk := Bd.notSynchronized
  have hown : s.vm.findClass RX13 = some m.cls := findClass_of_methodNamed Bd.named
  have hts : ∀ w ∈ e_tb, w.before ([e_rv B (x0)] : List Value).toArray s = true := fun w h => atoms_spec (ws := (e_wu yX13_holdsLines cX13_holdsLines 3 none)) Bd.pre w (List.mem_cons_of_mem _ h)
  have E : e_En p s m ([e_rv B (x0)] : List Value).toArray meth c cX13_holdsLines RX13 3 none := ⟨hx, hb, hml, hown, hts, hlk, hrt⟩
  have hS : va_S (e_A B) s.heap s.heap [] := va_S.rf
  have hl := e_entry (vs := [e_rv B (x0)]) (n := 3) (Nat.le_of_ble_eq_true rfl) (e_cc (e_rv_cat _ _) e_cn)
  rw [lg_entry_eq]
  generalize (lg_sl [e_rv B (x0)] ++ List.replicate (3 - (lg_sl [e_rv B (x0)]).length) Slot.unset).toArray = ls at hl ⊢
  generalize ([e_rv B (x0)] : List Value).toArray = args at hts E ⊢
  have hl : e_lo ls 3 [(0, e_rv B (x0))] := hl
  have hsh := (gd_some hsh).2
  refine e_aload_n (B := B) (x := x0) hx hb dX13_holdsLines_0 rfl (hl.at 0 rfl) ?_
  obtain ⟨v1, h1, hsh⟩ := Option.bind_eq_some_iff.mp hsh
  refine e_getI (k := 108) hx hb hts in_X13 hown hp h1 rfl (by decide) (by decide) rfl (hts _ kf13_870) rfl dX13_holdsLines_1 ?_
  refine e_istore_n (lv' := [(1, .int (iI (v1))), (0, e_rv B (x0))]) hx hb dX13_holdsLines_4 rfl hl (by decide) rfl (fun ls hl => ?_)
  exact w13_holdsLines_l5 E 1000000 hp hS (hl.sub [1, 0] rfl) hsh
theorem ok13_laysLine {S : HP} {x0 : Int} {x1 : Int} {x2 : Int} {r : HP} (h : s13_laysLine S x0 x1 x2 = some r) : 0 ≤ x0 ∧ x0.toNat < e_n S ∧ e_g S x0.toNat = 13 := (gd_some h).1
set_option maxRecDepth 100000 in
set_option maxHeartbeats 4000000 in
theorem w13_laysLine_l14 {p : Program} {l : Launch} {e : Env} {s : State} {m : MethodId} {args : Array Value} {below : List Frame} {meth : Method} {c : Code} {D : va_G} {cA : Nat → ClassId} {B : Nat} {res : HP} (E : e_En p s m args meth c cX13_laysLine RX13 4 none) : ∀ (f : Nat) {ls : Array Slot} {H : Heap} {locs : List Loc} {S : HP} {x0 : Int} {x1 : Int} {x2 : Int} {x3 : Int} (hp : e_Pic D cA B S s H) (hS : va_S (e_A B) s.heap H locs) (hl : e_lo ls 4 [(0, e_rv B (x0)), (1, .int (iI (x1))), (2, .int (iI (x2))), (3, .int (iI (x3)))]) (hsh : s13_laysLine_l14 f S x0 x1 x2 x3 = some res), W p l e ({ frames := 0, cells := 0, slots := 0, locals := 0 } : Room) s m args below meth c H locs 0 0 (MQ below (e_Qv D cA B res) args s 0 0 (e_A B)) (F0 m 14 ls []) := by
  obtain ⟨hx, hb, hml, hown, hts, hlk, hrt⟩ := id E
  intro f
  induction f with
  | zero => intro ls H locs S x0 x1 x2 x3 hp hS hl hsh; cases hsh
  | succ f ih =>
    intro ls H locs S x0 x1 x2 x3 hp hS hl hsh
    have hk14 : ∀ {ls : Array Slot} {H : Heap} {locs : List Loc} {S : HP} {x0 : Int} {x1 : Int} {x2 : Int} {x3 : Int} (hp : e_Pic D cA B S s H) (hS : va_S (e_A B) s.heap H locs) (hl : e_lo ls 4 [(0, e_rv B (x0)), (1, .int (iI (x1))), (2, .int (iI (x2))), (3, .int (iI (x3)))]) (hsh : (s13_laysLine_l14 f) S x0 x1 x2 x3 = some res), W p l e ({ frames := 0, cells := 0, slots := 0, locals := 0 } : Room) s m args below meth c H locs 0 0 (MQ below (e_Qv D cA B res) args s 0 0 (e_A B)) (F0 m 14 ls []) := ih
    generalize hkk : s13_laysLine_l14 f = k14 at hk14
    rw [s13_laysLine_l14] at hsh
    rw [hkk] at hsh
    try dsimp only at hsh
    refine lv_iload_n hx hb dX13_laysLine_14 rfl (hl.at 3 rfl) ?_
    refine e_aload_n (B := B) (x := x0) hx hb dX13_laysLine_15 rfl (hl.at 0 rfl) ?_
    obtain ⟨v16, h16, hsh⟩ := Option.bind_eq_some_iff.mp hsh
    refine e_getR (k := 3) hx hb hts in_X13 hown hp h16 rfl (by decide) (by decide) rfl (hts _ kf13_17) rfl dX13_laysLine_16 ?_
    refine lv_iload_n hx hb dX13_laysLine_19 rfl (hl.at 1 rfl) ?_
    obtain ⟨v20, h20, hsh⟩ := Option.bind_eq_some_iff.mp hsh
    refine e_iald hx hb hp h20 dX13_laysLine_20 ?_
    refine e_icmp_ge (tgt := 52) hx hb dX13_laysLine_21 (by decide) (fun c21 => ?_) (fun c21 => ?_)
    · rw [if_pos c21] at hsh
      cases hsh
      exact e_vret hx hb hrt hlk hp hS dX13_laysLine_52
    · rw [if_neg c21] at hsh
      refine e_aload_n (B := B) (x := x0) hx hb dX13_laysLine_24 rfl (hl.at 0 rfl) ?_
      obtain ⟨v25, h25, hsh⟩ := Option.bind_eq_some_iff.mp hsh
      refine e_getR (k := 4) hx hb hts in_X13 hown hp h25 rfl (by decide) (by decide) rfl (hts _ kf13_20) rfl dX13_laysLine_25 ?_
      refine lv_bipush (v := iI (60)) hx hb dX13_laysLine_28 (by decide +kernel) ?_
      refine lv_iload_n hx hb dX13_laysLine_30 rfl (hl.at 1 rfl) ?_
      refine e_imul hx hb dX13_laysLine_31 ?_
      refine lv_iload_n hx hb dX13_laysLine_32 rfl (hl.at 3 rfl) ?_
      refine e_iadd hx hb dX13_laysLine_33 ?_
      refine e_aload_n (B := B) (x := x0) hx hb dX13_laysLine_34 rfl (hl.at 0 rfl) ?_
      obtain ⟨v35, h35, hsh⟩ := Option.bind_eq_some_iff.mp hsh
      refine e_getR (k := 111) hx hb hts in_X13 hown hp h35 rfl (by decide) (by decide) rfl (hts _ kf13_160) rfl dX13_laysLine_35 ?_
      refine lv_bipush (v := iI (60)) hx hb dX13_laysLine_38 (by decide +kernel) ?_
      refine lv_iload_n hx hb dX13_laysLine_40 rfl (hl.at 2 rfl) ?_
      refine e_imul hx hb dX13_laysLine_41 ?_
      refine lv_iload_n hx hb dX13_laysLine_42 rfl (hl.at 3 rfl) ?_
      refine e_iadd hx hb dX13_laysLine_43 ?_
      obtain ⟨v44, h44, hsh⟩ := Option.bind_eq_some_iff.mp hsh
      refine e_iald hx hb hp h44 dX13_laysLine_44 ?_
      obtain ⟨S45, h45, hsh⟩ := Option.bind_eq_some_iff.mp hsh
      refine e_iast hx hb hp hS h45 dX13_laysLine_45 (fun H locs hp hS => ?_)
      refine e_iinc (n := 1) (x := x3) (lv' := [(3, .int (iI ((x3 + 1)))), (0, e_rv B (x0)), (1, .int (iI (x1))), (2, .int (iI (x2)))]) hx hb dX13_laysLine_46 hl (k := 3) rfl (by decide) rfl (fun ls hl => ?_)
      refine lv_goto (tgt := 14) hx hb dX13_laysLine_49 (by decide) ?_
      exact hk14 hp hS (hl.sub [1, 2, 3, 0] rfl) hsh
set_option maxRecDepth 100000 in
set_option maxHeartbeats 4000000 in
theorem c13_laysLine (l : Launch) (D : va_G) (cA : Nat → ClassId) (B : Nat) (S S' : HP) (x0 : Int) (x1 : Int) (x2 : Int) (hsh : s13_laysLine S x0 x1 x2 = some S') : Met l yX13_laysLine (e_wu yX13_laysLine cX13_laysLine 4 none) ({ frames := 0, cells := 0, slots := 0, locals := 0 } : Room) (va_Pc [e_rv B (x0), .int (iI (x1)), .int (iI (x2))] (fun U => e_PU D cA B S U)) (e_Qv D cA B S') 0 0 (e_A B) := by
  refine Met.ofW (cc := cX13_laysLine) (maxL := 4) (ret := none) (by decide +kernel) rfl ?_
  intro p e s m args below meth c s₁ Bd hml hv
  obtain ⟨rfl, hp⟩ := hv
  have hp : e_Pic D cA B S s s.heap := hp
  have hx := Bd.exec
  have hb := Bd.bytes
  have hrt := Bd.returns
  have hlk := Bd.notSynchronized
  have hown : s.vm.findClass RX13 = some m.cls := findClass_of_methodNamed Bd.named
  have hts : ∀ w ∈ e_tb, w.before ([e_rv B (x0), .int (iI (x1)), .int (iI (x2))] : List Value).toArray s = true := fun w h => atoms_spec (ws := (e_wu yX13_laysLine cX13_laysLine 4 none)) Bd.pre w (List.mem_cons_of_mem _ h)
  have E : e_En p s m ([e_rv B (x0), .int (iI (x1)), .int (iI (x2))] : List Value).toArray meth c cX13_laysLine RX13 4 none := ⟨hx, hb, hml, hown, hts, hlk, hrt⟩
  have hS : va_S (e_A B) s.heap s.heap [] := va_S.rf
  have hl := e_entry (vs := [e_rv B (x0), .int (iI (x1)), .int (iI (x2))]) (n := 4) (Nat.le_of_ble_eq_true rfl) (e_cc (e_rv_cat _ _) (e_cc rfl (e_cc rfl e_cn)))
  rw [lg_entry_eq]
  generalize (lg_sl [e_rv B (x0), .int (iI (x1)), .int (iI (x2))] ++ List.replicate (4 - (lg_sl [e_rv B (x0), .int (iI (x1)), .int (iI (x2))]).length) Slot.unset).toArray = ls at hl ⊢
  generalize ([e_rv B (x0), .int (iI (x1)), .int (iI (x2))] : List Value).toArray = args at hts E ⊢
  have hl : e_lo ls 4 [(0, e_rv B (x0)), (1, .int (iI (x1))), (2, .int (iI (x2)))] := hl
  have hsh := (gd_some hsh).2
  refine e_aload_n (B := B) (x := x0) hx hb dX13_laysLine_0 rfl (hl.at 0 rfl) ?_
  obtain ⟨v1, h1, hsh⟩ := Option.bind_eq_some_iff.mp hsh
  refine e_getR (k := 3) hx hb hts in_X13 hown hp h1 rfl (by decide) (by decide) rfl (hts _ kf13_17) rfl dX13_laysLine_1 ?_
  refine lv_iload_n hx hb dX13_laysLine_4 rfl (hl.at 1 rfl) ?_
  refine e_aload_n (B := B) (x := x0) hx hb dX13_laysLine_5 rfl (hl.at 0 rfl) ?_
  obtain ⟨v6, h6, hsh⟩ := Option.bind_eq_some_iff.mp hsh
  refine e_getR (k := 110) hx hb hts in_X13 hown hp h6 rfl (by decide) (by decide) rfl (hts _ kf13_157) rfl dX13_laysLine_6 ?_
  refine lv_iload_n hx hb dX13_laysLine_9 rfl (hl.at 2 rfl) ?_
  obtain ⟨v10, h10, hsh⟩ := Option.bind_eq_some_iff.mp hsh
  refine e_iald hx hb hp h10 dX13_laysLine_10 ?_
  obtain ⟨S11, h11, hsh⟩ := Option.bind_eq_some_iff.mp hsh
  refine e_iast hx hb hp hS h11 dX13_laysLine_11 (fun H locs hp hS => ?_)
  refine lv_iconst (v := iI (0)) hx hb dX13_laysLine_12 rfl ?_
  refine e_istore_n (lv' := [(3, .int (iI (0))), (0, e_rv B (x0)), (1, .int (iI (x1))), (2, .int (iI (x2)))]) hx hb dX13_laysLine_13 rfl hl (by decide) rfl (fun ls hl => ?_)
  exact w13_laysLine_l14 E 1000000 hp hS (hl.sub [1, 2, 3, 0] rfl) hsh
theorem ok13_isLess {S : HP} {x0 : Int} {x1 : Int} {x2 : Int} {r : Int × HP} (h : s13_isLess S x0 x1 x2 = some r) : 0 ≤ x0 ∧ x0.toNat < e_n S ∧ e_g S x0.toNat = 13 := (gd_some h).1
set_option maxRecDepth 100000 in
set_option maxHeartbeats 4000000 in
theorem w13_isLess_b93 {p : Program} {l : Launch} {e : Env} {s : State} {m : MethodId} {args : Array Value} {below : List Frame} {meth : Method} {c : Code} {D : va_G} {cA : Nat → ClassId} {B : Nat} {res : Int × HP} (E : e_En p s m args meth c cX13_isLess RX13 4 (some .boolean)) {ls : Array Slot} {H : Heap} {locs : List Loc} {S : HP} {y0 : Int} (hp : e_Pic D cA B S s H) (hS : va_S (e_A B) s.heap H locs) (hl : e_lo ls 4 []) (hsh : s13_isLess_b93 S y0 = some res) : W p l e ({ frames := 0, cells := 0, slots := 0, locals := 0 } : Room) s m args below meth c H locs 0 0 (MQ below (e_Qi D cA B res.1 res.2) args s 0 0 (e_A B)) (F0 m 93 ls [.int (iI (y0))]) := by
  obtain ⟨hx, hb, hml, hown, hts, hlk, hrt⟩ := id E
  unfold s13_isLess_b93 at hsh
  obtain ⟨hz, hz1, hz2⟩ := zR_some hsh
  rw [← hz1, ← hz2]
  exact e_zret hx hb hrt hlk hp hS hz dX13_isLess_93
set_option maxRecDepth 100000 in
set_option maxHeartbeats 4000000 in
theorem w13_isLess_b73 {p : Program} {l : Launch} {e : Env} {s : State} {m : MethodId} {args : Array Value} {below : List Frame} {meth : Method} {c : Code} {D : va_G} {cA : Nat → ClassId} {B : Nat} {res : Int × HP} (E : e_En p s m args meth c cX13_isLess RX13 4 (some .boolean)) {ls : Array Slot} {H : Heap} {locs : List Loc} {S : HP} {x0 : Int} {x1 : Int} {x2 : Int} (hp : e_Pic D cA B S s H) (hS : va_S (e_A B) s.heap H locs) (hl : e_lo ls 4 [(0, e_rv B (x0)), (1, .int (iI (x1))), (2, .int (iI (x2)))]) (hsh : s13_isLess_b73 S x0 x1 x2 = some res) : W p l e ({ frames := 0, cells := 0, slots := 0, locals := 0 } : Room) s m args below meth c H locs 0 0 (MQ below (e_Qi D cA B res.1 res.2) args s 0 0 (e_A B)) (F0 m 73 ls []) := by
  obtain ⟨hx, hb, hml, hown, hts, hlk, hrt⟩ := id E
  unfold s13_isLess_b73 at hsh
  refine e_aload_n (B := B) (x := x0) hx hb dX13_isLess_73 rfl (hl.at 0 rfl) ?_
  obtain ⟨v74, h74, hsh⟩ := Option.bind_eq_some_iff.mp hsh
  refine e_getR (k := 110) hx hb hts in_X13 hown hp h74 rfl (by decide) (by decide) rfl (hts _ kf13_157) rfl dX13_isLess_74 ?_
  refine lv_iload_n hx hb dX13_isLess_77 rfl (hl.at 1 rfl) ?_
  obtain ⟨v78, h78, hsh⟩ := Option.bind_eq_some_iff.mp hsh
  refine e_iald hx hb hp h78 dX13_isLess_78 ?_
  refine e_aload_n (B := B) (x := x0) hx hb dX13_isLess_79 rfl (hl.at 0 rfl) ?_
  obtain ⟨v80, h80, hsh⟩ := Option.bind_eq_some_iff.mp hsh
  refine e_getR (k := 110) hx hb hts in_X13 hown hp h80 rfl (by decide) (by decide) rfl (hts _ kf13_157) rfl dX13_isLess_80 ?_
  refine lv_iload_n hx hb dX13_isLess_83 rfl (hl.at 2 rfl) ?_
  obtain ⟨v84, h84, hsh⟩ := Option.bind_eq_some_iff.mp hsh
  refine e_iald hx hb hp h84 dX13_isLess_84 ?_
  refine e_icmp_ge (tgt := 92) hx hb dX13_isLess_85 (by decide) (fun c85 => ?_) (fun c85 => ?_)
  · rw [if_pos c85] at hsh
    refine lv_iconst (v := iI (0)) hx hb dX13_isLess_92 rfl ?_
    exact w13_isLess_b93 E hp hS (hl.sub [] rfl) hsh
  · rw [if_neg c85] at hsh
    refine lv_iconst (v := iI (1)) hx hb dX13_isLess_88 rfl ?_
    refine lv_goto (tgt := 93) hx hb dX13_isLess_89 (by decide) ?_
    exact w13_isLess_b93 E hp hS (hl.sub [] rfl) hsh
set_option maxRecDepth 100000 in
set_option maxHeartbeats 4000000 in
theorem w13_isLess_b124 {p : Program} {l : Launch} {e : Env} {s : State} {m : MethodId} {args : Array Value} {below : List Frame} {meth : Method} {c : Code} {D : va_G} {cA : Nat → ClassId} {B : Nat} {res : Int × HP} (E : e_En p s m args meth c cX13_isLess RX13 4 (some .boolean)) {ls : Array Slot} {H : Heap} {locs : List Loc} {S : HP} {y0 : Int} (hp : e_Pic D cA B S s H) (hS : va_S (e_A B) s.heap H locs) (hl : e_lo ls 4 []) (hsh : s13_isLess_b124 S y0 = some res) : W p l e ({ frames := 0, cells := 0, slots := 0, locals := 0 } : Room) s m args below meth c H locs 0 0 (MQ below (e_Qi D cA B res.1 res.2) args s 0 0 (e_A B)) (F0 m 124 ls [.int (iI (y0))]) := by
  obtain ⟨hx, hb, hml, hown, hts, hlk, hrt⟩ := id E
  unfold s13_isLess_b124 at hsh
  obtain ⟨hz, hz1, hz2⟩ := zR_some hsh
  rw [← hz1, ← hz2]
  exact e_zret hx hb hrt hlk hp hS hz dX13_isLess_124
set_option maxRecDepth 100000 in
set_option maxHeartbeats 4000000 in
theorem w13_isLess_b53 {p : Program} {l : Launch} {e : Env} {s : State} {m : MethodId} {args : Array Value} {below : List Frame} {meth : Method} {c : Code} {D : va_G} {cA : Nat → ClassId} {B : Nat} {res : Int × HP} (E : e_En p s m args meth c cX13_isLess RX13 4 (some .boolean)) {ls : Array Slot} {H : Heap} {locs : List Loc} {S : HP} {x0 : Int} {x1 : Int} {x2 : Int} {x3 : Int} (hp : e_Pic D cA B S s H) (hS : va_S (e_A B) s.heap H locs) (hl : e_lo ls 4 [(0, e_rv B (x0)), (1, .int (iI (x1))), (2, .int (iI (x2))), (3, .int (iI (x3)))]) (hsh : s13_isLess_b53 S x0 x1 x2 x3 = some res) : W p l e ({ frames := 0, cells := 0, slots := 0, locals := 0 } : Room) s m args below meth c H locs 0 0 (MQ below (e_Qi D cA B res.1 res.2) args s 0 0 (e_A B)) (F0 m 53 ls []) := by
  obtain ⟨hx, hb, hml, hown, hts, hlk, hrt⟩ := id E
  unfold s13_isLess_b53 at hsh
  refine lv_iload_n hx hb dX13_isLess_53 rfl (hl.at 3 rfl) ?_
  refine e_aload_n (B := B) (x := x0) hx hb dX13_isLess_54 rfl (hl.at 0 rfl) ?_
  obtain ⟨v55, h55, hsh⟩ := Option.bind_eq_some_iff.mp hsh
  refine e_getR (k := 110) hx hb hts in_X13 hown hp h55 rfl (by decide) (by decide) rfl (hts _ kf13_157) rfl dX13_isLess_55 ?_
  refine lv_iload_n hx hb dX13_isLess_58 rfl (hl.at 1 rfl) ?_
  obtain ⟨v59, h59, hsh⟩ := Option.bind_eq_some_iff.mp hsh
  refine e_iald hx hb hp h59 dX13_isLess_59 ?_
  refine e_icmp_eq (tgt := 73) hx hb dX13_isLess_60 (by decide) (fun c60 => ?_) (fun c60 => ?_)
  · rw [if_pos c60] at hsh
    exact w13_isLess_b73 E hp hS (hl.sub [0, 1, 2] rfl) hsh
  · rw [if_neg c60] at hsh
    refine lv_iload_n hx hb dX13_isLess_63 rfl (hl.at 3 rfl) ?_
    refine e_aload_n (B := B) (x := x0) hx hb dX13_isLess_64 rfl (hl.at 0 rfl) ?_
    obtain ⟨v65, h65, hsh⟩ := Option.bind_eq_some_iff.mp hsh
    refine e_getR (k := 110) hx hb hts in_X13 hown hp h65 rfl (by decide) (by decide) rfl (hts _ kf13_157) rfl dX13_isLess_65 ?_
    refine lv_iload_n hx hb dX13_isLess_68 rfl (hl.at 2 rfl) ?_
    obtain ⟨v69, h69, hsh⟩ := Option.bind_eq_some_iff.mp hsh
    refine e_iald hx hb hp h69 dX13_isLess_69 ?_
    refine e_icmp_ne (tgt := 94) hx hb dX13_isLess_70 (by decide) (fun c70 => ?_) (fun c70 => ?_)
    · rw [if_neg c70] at hsh
      refine e_aload_n (B := B) (x := x0) hx hb dX13_isLess_94 rfl (hl.at 0 rfl) ?_
      obtain ⟨v95, h95, hsh⟩ := Option.bind_eq_some_iff.mp hsh
      refine e_getR (k := 111) hx hb hts in_X13 hown hp h95 rfl (by decide) (by decide) rfl (hts _ kf13_160) rfl dX13_isLess_95 ?_
      refine lv_bipush (v := iI (60)) hx hb dX13_isLess_98 (by decide +kernel) ?_
      refine lv_iload_n hx hb dX13_isLess_100 rfl (hl.at 1 rfl) ?_
      refine e_imul hx hb dX13_isLess_101 ?_
      refine lv_iload_n hx hb dX13_isLess_102 rfl (hl.at 3 rfl) ?_
      refine e_iadd hx hb dX13_isLess_103 ?_
      obtain ⟨v104, h104, hsh⟩ := Option.bind_eq_some_iff.mp hsh
      refine e_iald hx hb hp h104 dX13_isLess_104 ?_
      refine e_aload_n (B := B) (x := x0) hx hb dX13_isLess_105 rfl (hl.at 0 rfl) ?_
      obtain ⟨v106, h106, hsh⟩ := Option.bind_eq_some_iff.mp hsh
      refine e_getR (k := 111) hx hb hts in_X13 hown hp h106 rfl (by decide) (by decide) rfl (hts _ kf13_160) rfl dX13_isLess_106 ?_
      refine lv_bipush (v := iI (60)) hx hb dX13_isLess_109 (by decide +kernel) ?_
      refine lv_iload_n hx hb dX13_isLess_111 rfl (hl.at 2 rfl) ?_
      refine e_imul hx hb dX13_isLess_112 ?_
      refine lv_iload_n hx hb dX13_isLess_113 rfl (hl.at 3 rfl) ?_
      refine e_iadd hx hb dX13_isLess_114 ?_
      obtain ⟨v115, h115, hsh⟩ := Option.bind_eq_some_iff.mp hsh
      refine e_iald hx hb hp h115 dX13_isLess_115 ?_
      refine e_icmp_ge (tgt := 123) hx hb dX13_isLess_116 (by decide) (fun c116 => ?_) (fun c116 => ?_)
      · rw [if_pos c116] at hsh
        refine lv_iconst (v := iI (0)) hx hb dX13_isLess_123 rfl ?_
        exact w13_isLess_b124 E hp hS (hl.sub [] rfl) hsh
      · rw [if_neg c116] at hsh
        refine lv_iconst (v := iI (1)) hx hb dX13_isLess_119 rfl ?_
        refine lv_goto (tgt := 124) hx hb dX13_isLess_120 (by decide) ?_
        exact w13_isLess_b124 E hp hS (hl.sub [] rfl) hsh
    · rw [if_pos c70] at hsh
      exact w13_isLess_b73 E hp hS (hl.sub [0, 1, 2] rfl) hsh
set_option maxRecDepth 100000 in
set_option maxHeartbeats 4000000 in
theorem w13_isLess_l2 {p : Program} {l : Launch} {e : Env} {s : State} {m : MethodId} {args : Array Value} {below : List Frame} {meth : Method} {c : Code} {D : va_G} {cA : Nat → ClassId} {B : Nat} {res : Int × HP} (E : e_En p s m args meth c cX13_isLess RX13 4 (some .boolean)) : ∀ (f : Nat) {ls : Array Slot} {H : Heap} {locs : List Loc} {S : HP} {x0 : Int} {x1 : Int} {x2 : Int} {x3 : Int} (hp : e_Pic D cA B S s H) (hS : va_S (e_A B) s.heap H locs) (hl : e_lo ls 4 [(0, e_rv B (x0)), (1, .int (iI (x1))), (2, .int (iI (x2))), (3, .int (iI (x3)))]) (hsh : s13_isLess_l2 f S x0 x1 x2 x3 = some res), W p l e ({ frames := 0, cells := 0, slots := 0, locals := 0 } : Room) s m args below meth c H locs 0 0 (MQ below (e_Qi D cA B res.1 res.2) args s 0 0 (e_A B)) (F0 m 2 ls []) := by
  obtain ⟨hx, hb, hml, hown, hts, hlk, hrt⟩ := id E
  intro f
  induction f with
  | zero => intro ls H locs S x0 x1 x2 x3 hp hS hl hsh; cases hsh
  | succ f ih =>
    intro ls H locs S x0 x1 x2 x3 hp hS hl hsh
    have hk2 : ∀ {ls : Array Slot} {H : Heap} {locs : List Loc} {S : HP} {x0 : Int} {x1 : Int} {x2 : Int} {x3 : Int} (hp : e_Pic D cA B S s H) (hS : va_S (e_A B) s.heap H locs) (hl : e_lo ls 4 [(0, e_rv B (x0)), (1, .int (iI (x1))), (2, .int (iI (x2))), (3, .int (iI (x3)))]) (hsh : (s13_isLess_l2 f) S x0 x1 x2 x3 = some res), W p l e ({ frames := 0, cells := 0, slots := 0, locals := 0 } : Room) s m args below meth c H locs 0 0 (MQ below (e_Qi D cA B res.1 res.2) args s 0 0 (e_A B)) (F0 m 2 ls []) := ih
    generalize hkk : s13_isLess_l2 f = k2 at hk2
    rw [s13_isLess_l2] at hsh
    rw [hkk] at hsh
    try dsimp only at hsh
    refine lv_iload_n hx hb dX13_isLess_2 rfl (hl.at 3 rfl) ?_
    refine e_aload_n (B := B) (x := x0) hx hb dX13_isLess_3 rfl (hl.at 0 rfl) ?_
    obtain ⟨v4, h4, hsh⟩ := Option.bind_eq_some_iff.mp hsh
    refine e_getR (k := 110) hx hb hts in_X13 hown hp h4 rfl (by decide) (by decide) rfl (hts _ kf13_157) rfl dX13_isLess_4 ?_
    refine lv_iload_n hx hb dX13_isLess_7 rfl (hl.at 1 rfl) ?_
    obtain ⟨v8, h8, hsh⟩ := Option.bind_eq_some_iff.mp hsh
    refine e_iald hx hb hp h8 dX13_isLess_8 ?_
    refine e_icmp_ge (tgt := 53) hx hb dX13_isLess_9 (by decide) (fun c9 => ?_) (fun c9 => ?_)
    · rw [if_pos c9] at hsh
      exact w13_isLess_b53 E hp hS (hl.sub [0, 1, 2, 3] rfl) hsh
    · rw [if_neg c9] at hsh
      refine lv_iload_n hx hb dX13_isLess_12 rfl (hl.at 3 rfl) ?_
      refine e_aload_n (B := B) (x := x0) hx hb dX13_isLess_13 rfl (hl.at 0 rfl) ?_
      obtain ⟨v14, h14, hsh⟩ := Option.bind_eq_some_iff.mp hsh
      refine e_getR (k := 110) hx hb hts in_X13 hown hp h14 rfl (by decide) (by decide) rfl (hts _ kf13_157) rfl dX13_isLess_14 ?_
      refine lv_iload_n hx hb dX13_isLess_17 rfl (hl.at 2 rfl) ?_
      obtain ⟨v18, h18, hsh⟩ := Option.bind_eq_some_iff.mp hsh
      refine e_iald hx hb hp h18 dX13_isLess_18 ?_
      refine e_icmp_ge (tgt := 53) hx hb dX13_isLess_19 (by decide) (fun c19 => ?_) (fun c19 => ?_)
      · rw [if_pos c19] at hsh
        exact w13_isLess_b53 E hp hS (hl.sub [0, 1, 2, 3] rfl) hsh
      · rw [if_neg c19] at hsh
        refine e_aload_n (B := B) (x := x0) hx hb dX13_isLess_22 rfl (hl.at 0 rfl) ?_
        obtain ⟨v23, h23, hsh⟩ := Option.bind_eq_some_iff.mp hsh
        refine e_getR (k := 111) hx hb hts in_X13 hown hp h23 rfl (by decide) (by decide) rfl (hts _ kf13_160) rfl dX13_isLess_23 ?_
        refine lv_bipush (v := iI (60)) hx hb dX13_isLess_26 (by decide +kernel) ?_
        refine lv_iload_n hx hb dX13_isLess_28 rfl (hl.at 1 rfl) ?_
        refine e_imul hx hb dX13_isLess_29 ?_
        refine lv_iload_n hx hb dX13_isLess_30 rfl (hl.at 3 rfl) ?_
        refine e_iadd hx hb dX13_isLess_31 ?_
        obtain ⟨v32, h32, hsh⟩ := Option.bind_eq_some_iff.mp hsh
        refine e_iald hx hb hp h32 dX13_isLess_32 ?_
        refine e_aload_n (B := B) (x := x0) hx hb dX13_isLess_33 rfl (hl.at 0 rfl) ?_
        obtain ⟨v34, h34, hsh⟩ := Option.bind_eq_some_iff.mp hsh
        refine e_getR (k := 111) hx hb hts in_X13 hown hp h34 rfl (by decide) (by decide) rfl (hts _ kf13_160) rfl dX13_isLess_34 ?_
        refine lv_bipush (v := iI (60)) hx hb dX13_isLess_37 (by decide +kernel) ?_
        refine lv_iload_n hx hb dX13_isLess_39 rfl (hl.at 2 rfl) ?_
        refine e_imul hx hb dX13_isLess_40 ?_
        refine lv_iload_n hx hb dX13_isLess_41 rfl (hl.at 3 rfl) ?_
        refine e_iadd hx hb dX13_isLess_42 ?_
        obtain ⟨v43, h43, hsh⟩ := Option.bind_eq_some_iff.mp hsh
        refine e_iald hx hb hp h43 dX13_isLess_43 ?_
        refine e_icmp_ne (tgt := 53) hx hb dX13_isLess_44 (by decide) (fun c44 => ?_) (fun c44 => ?_)
        · rw [if_neg c44] at hsh
          exact w13_isLess_b53 E hp hS (hl.sub [0, 1, 2, 3] rfl) hsh
        · rw [if_pos c44] at hsh
          refine e_iinc (n := 1) (x := x3) (lv' := [(3, .int (iI ((x3 + 1)))), (0, e_rv B (x0)), (1, .int (iI (x1))), (2, .int (iI (x2)))]) hx hb dX13_isLess_47 hl (k := 3) rfl (by decide) rfl (fun ls hl => ?_)
          refine lv_goto (tgt := 2) hx hb dX13_isLess_50 (by decide) ?_
          exact hk2 hp hS (hl.sub [1, 2, 3, 0] rfl) hsh
set_option maxRecDepth 100000 in
set_option maxHeartbeats 4000000 in
theorem c13_isLess (l : Launch) (D : va_G) (cA : Nat → ClassId) (B : Nat) (S S' : HP) (x0 : Int) (x1 : Int) (x2 : Int) (r : Int) (hsh : s13_isLess S x0 x1 x2 = some (r, S')) : Met l yX13_isLess (e_wu yX13_isLess cX13_isLess 4 (some .boolean)) ({ frames := 0, cells := 0, slots := 0, locals := 0 } : Room) (va_Pc [e_rv B (x0), .int (iI (x1)), .int (iI (x2))] (fun U => e_PU D cA B S U)) (e_Qi D cA B r S') 0 0 (e_A B) := by
  refine Met.ofW (cc := cX13_isLess) (maxL := 4) (ret := (some .boolean)) (by decide +kernel) rfl ?_
  intro p e s m args below meth c s₁ Bd hml hv
  obtain ⟨rfl, hp⟩ := hv
  have hp : e_Pic D cA B S s s.heap := hp
  have hx := Bd.exec
  have hb := Bd.bytes
  have hrt := Bd.returns
  have hlk := Bd.notSynchronized
  have hown : s.vm.findClass RX13 = some m.cls := findClass_of_methodNamed Bd.named
  have hts : ∀ w ∈ e_tb, w.before ([e_rv B (x0), .int (iI (x1)), .int (iI (x2))] : List Value).toArray s = true := fun w h => atoms_spec (ws := (e_wu yX13_isLess cX13_isLess 4 (some .boolean))) Bd.pre w (List.mem_cons_of_mem _ h)
  have E : e_En p s m ([e_rv B (x0), .int (iI (x1)), .int (iI (x2))] : List Value).toArray meth c cX13_isLess RX13 4 (some .boolean) := ⟨hx, hb, hml, hown, hts, hlk, hrt⟩
  have hS : va_S (e_A B) s.heap s.heap [] := va_S.rf
  have hl := e_entry (vs := [e_rv B (x0), .int (iI (x1)), .int (iI (x2))]) (n := 4) (Nat.le_of_ble_eq_true rfl) (e_cc (e_rv_cat _ _) (e_cc rfl (e_cc rfl e_cn)))
  rw [lg_entry_eq]
  generalize (lg_sl [e_rv B (x0), .int (iI (x1)), .int (iI (x2))] ++ List.replicate (4 - (lg_sl [e_rv B (x0), .int (iI (x1)), .int (iI (x2))]).length) Slot.unset).toArray = ls at hl ⊢
  generalize ([e_rv B (x0), .int (iI (x1)), .int (iI (x2))] : List Value).toArray = args at hts E ⊢
  have hl : e_lo ls 4 [(0, e_rv B (x0)), (1, .int (iI (x1))), (2, .int (iI (x2)))] := hl
  have hsh := (gd_some hsh).2
  refine lv_iconst (v := iI (0)) hx hb dX13_isLess_0 rfl ?_
  refine e_istore_n (lv' := [(3, .int (iI (0))), (0, e_rv B (x0)), (1, .int (iI (x1))), (2, .int (iI (x2)))]) hx hb dX13_isLess_1 rfl hl (by decide) rfl (fun ls hl => ?_)
  exact w13_isLess_l2 E 1000000 hp hS (hl.sub [1, 2, 3, 0] rfl) hsh
theorem ok13_standsIn {S : HP} {x0 : Int} {x1 : Int} {x2 : Int} {x3 : Int} {x4 : Int} {r : Int × HP} (h : s13_standsIn S x0 x1 x2 x3 x4 = some r) : 0 ≤ x0 ∧ x0.toNat < e_n S ∧ e_g S x0.toNat = 13 := (gd_some h).1
set_option maxRecDepth 100000 in
set_option maxHeartbeats 4000000 in
theorem w13_standsIn_b77 {p : Program} {l : Launch} {e : Env} {s : State} {m : MethodId} {args : Array Value} {below : List Frame} {meth : Method} {c : Code} {D : va_G} {cA : Nat → ClassId} {B : Nat} {res : Int × HP} (E : e_En p s m args meth c cX13_standsIn RX13 7 (some .boolean)) {ls : Array Slot} {H : Heap} {locs : List Loc} {S : HP} {x5 : Int} (hp : e_Pic D cA B S s H) (hS : va_S (e_A B) s.heap H locs) (hl : e_lo ls 7 [(5, .int (iI (x5)))]) (hsh : s13_standsIn_b77 S x5 = some res) : W p l e ({ frames := 1, cells := 0, slots := 0, locals := 22 } : Room) s m args below meth c H locs 0 0 (MQ below (e_Qi D cA B res.1 res.2) args s 0 0 (e_A B)) (F0 m 77 ls []) := by
  obtain ⟨hx, hb, hml, hown, hts, hlk, hrt⟩ := id E
  unfold s13_standsIn_b77 at hsh
  refine lv_iload hx hb dX13_standsIn_77 (hl.at 0 rfl) ?_
  obtain ⟨hz, hz1, hz2⟩ := zR_some hsh
  rw [← hz1, ← hz2]
  exact e_zret hx hb hrt hlk hp hS hz dX13_standsIn_79
set_option maxRecDepth 100000 in
set_option maxHeartbeats 4000000 in
theorem w13_standsIn_b69 {p : Program} {l : Launch} {e : Env} {s : State} {m : MethodId} {args : Array Value} {below : List Frame} {meth : Method} {c : Code} {D : va_G} {cA : Nat → ClassId} {B : Nat} {res : Int × HP} {k31 : HP → Int → Int → Int → Int → Int → Int → Int → Option (Int × HP)} (hk31 : ∀ {ls : Array Slot} {H : Heap} {locs : List Loc} {S : HP} {x0 : Int} {x1 : Int} {x2 : Int} {x3 : Int} {x4 : Int} {x5 : Int} {x6 : Int} (hp : e_Pic D cA B S s H) (hS : va_S (e_A B) s.heap H locs) (hl : e_lo ls 7 [(0, e_rv B (x0)), (1, .int (iI (x1))), (2, .int (iI (x2))), (3, .int (iI (x3))), (4, .int (iI (x4))), (5, .int (iI (x5))), (6, .int (iI (x6)))]) (hsh : k31 S x0 x1 x2 x3 x4 x5 x6 = some res), W p l e ({ frames := 1, cells := 0, slots := 0, locals := 22 } : Room) s m args below meth c H locs 0 0 (MQ below (e_Qi D cA B res.1 res.2) args s 0 0 (e_A B)) (F0 m 31 ls [])) (E : e_En p s m args meth c cX13_standsIn RX13 7 (some .boolean)) {ls : Array Slot} {H : Heap} {locs : List Loc} {S : HP} {x0 : Int} {x1 : Int} {x2 : Int} {x3 : Int} {x4 : Int} {x6 : Int} {y0 : Int} (hp : e_Pic D cA B S s H) (hS : va_S (e_A B) s.heap H locs) (hl : e_lo ls 7 [(0, e_rv B (x0)), (1, .int (iI (x1))), (2, .int (iI (x2))), (3, .int (iI (x3))), (4, .int (iI (x4))), (6, .int (iI (x6)))]) (hsh : s13_standsIn_b69 k31 S x0 x1 x2 x3 x4 x6 y0 = some res) : W p l e ({ frames := 1, cells := 0, slots := 0, locals := 22 } : Room) s m args below meth c H locs 0 0 (MQ below (e_Qi D cA B res.1 res.2) args s 0 0 (e_A B)) (F0 m 69 ls [.int (iI (y0))]) := by
  obtain ⟨hx, hb, hml, hown, hts, hlk, hrt⟩ := id E
  unfold s13_standsIn_b69 at hsh
  refine e_istore (lv' := [(5, .int (iI (y0))), (0, e_rv B (x0)), (1, .int (iI (x1))), (2, .int (iI (x2))), (3, .int (iI (x3))), (4, .int (iI (x4))), (6, .int (iI (x6)))]) hx hb dX13_standsIn_69 hl (by decide) rfl (fun ls hl => ?_)
  refine e_iinc (n := 1) (x := x6) (lv' := [(6, .int (iI ((x6 + 1)))), (5, .int (iI (y0))), (0, e_rv B (x0)), (1, .int (iI (x1))), (2, .int (iI (x2))), (3, .int (iI (x3))), (4, .int (iI (x4)))]) hx hb dX13_standsIn_71 hl (k := 6) rfl (by decide) rfl (fun ls hl => ?_)
  refine lv_goto (tgt := 31) hx hb dX13_standsIn_74 (by decide) ?_
  exact hk31 hp hS (hl.sub [2, 3, 4, 5, 6, 1, 0] rfl) hsh
set_option maxRecDepth 100000 in
set_option maxHeartbeats 4000000 in
theorem w13_standsIn_l31 {p : Program} {l : Launch} {e : Env} {s : State} {m : MethodId} {args : Array Value} {below : List Frame} {meth : Method} {c : Code} {D : va_G} {cA : Nat → ClassId} {B : Nat} {res : Int × HP} (E : e_En p s m args meth c cX13_standsIn RX13 7 (some .boolean)) : ∀ (f : Nat) {ls : Array Slot} {H : Heap} {locs : List Loc} {S : HP} {x0 : Int} {x1 : Int} {x2 : Int} {x3 : Int} {x4 : Int} {x5 : Int} {x6 : Int} (hp : e_Pic D cA B S s H) (hS : va_S (e_A B) s.heap H locs) (hl : e_lo ls 7 [(0, e_rv B (x0)), (1, .int (iI (x1))), (2, .int (iI (x2))), (3, .int (iI (x3))), (4, .int (iI (x4))), (5, .int (iI (x5))), (6, .int (iI (x6)))]) (hsh : s13_standsIn_l31 f S x0 x1 x2 x3 x4 x5 x6 = some res), W p l e ({ frames := 1, cells := 0, slots := 0, locals := 22 } : Room) s m args below meth c H locs 0 0 (MQ below (e_Qi D cA B res.1 res.2) args s 0 0 (e_A B)) (F0 m 31 ls []) := by
  obtain ⟨hx, hb, hml, hown, hts, hlk, hrt⟩ := id E
  intro f
  induction f with
  | zero => intro ls H locs S x0 x1 x2 x3 x4 x5 x6 hp hS hl hsh; cases hsh
  | succ f ih =>
    intro ls H locs S x0 x1 x2 x3 x4 x5 x6 hp hS hl hsh
    have hk31 : ∀ {ls : Array Slot} {H : Heap} {locs : List Loc} {S : HP} {x0 : Int} {x1 : Int} {x2 : Int} {x3 : Int} {x4 : Int} {x5 : Int} {x6 : Int} (hp : e_Pic D cA B S s H) (hS : va_S (e_A B) s.heap H locs) (hl : e_lo ls 7 [(0, e_rv B (x0)), (1, .int (iI (x1))), (2, .int (iI (x2))), (3, .int (iI (x3))), (4, .int (iI (x4))), (5, .int (iI (x5))), (6, .int (iI (x6)))]) (hsh : (s13_standsIn_l31 f) S x0 x1 x2 x3 x4 x5 x6 = some res), W p l e ({ frames := 1, cells := 0, slots := 0, locals := 22 } : Room) s m args below meth c H locs 0 0 (MQ below (e_Qi D cA B res.1 res.2) args s 0 0 (e_A B)) (F0 m 31 ls []) := ih
    generalize hkk : s13_standsIn_l31 f = k31 at hk31
    rw [s13_standsIn_l31] at hsh
    rw [hkk] at hsh
    try dsimp only at hsh
    refine lv_iload hx hb dX13_standsIn_31 (hl.at 6 rfl) ?_
    refine lv_iload hx hb dX13_standsIn_33 (hl.at 4 rfl) ?_
    refine e_icmp_ge (tgt := 77) hx hb dX13_standsIn_35 (by decide) (fun c35 => ?_) (fun c35 => ?_)
    · rw [if_pos c35] at hsh
      exact w13_standsIn_b77 E hp hS (hl.sub [5] rfl) hsh
    · rw [if_neg c35] at hsh
      refine lv_iload hx hb dX13_standsIn_38 (hl.at 5 rfl) ?_
      refine e_if_eq (tgt := 77) hx hb dX13_standsIn_40 (by decide) (fun c40 => ?_) (fun c40 => ?_)
      · rw [if_pos c40] at hsh
        exact w13_standsIn_b77 E hp hS (hl.sub [5] rfl) hsh
      · rw [if_neg c40] at hsh
        refine e_aload_n (B := B) (x := x0) hx hb dX13_standsIn_43 rfl (hl.at 0 rfl) ?_
        refine lv_iload_n hx hb dX13_standsIn_44 rfl (hl.at 1 rfl) ?_
        refine lv_iload_n hx hb dX13_standsIn_45 rfl (hl.at 2 rfl) ?_
        refine lv_iload hx hb dX13_standsIn_46 (hl.at 6 rfl) ?_
        refine e_iadd hx hb dX13_standsIn_48 ?_
        refine lv_iload_n hx hb dX13_standsIn_49 rfl (hl.at 3 rfl) ?_
        refine e_isub hx hb dX13_standsIn_50 ?_
        obtain ⟨⟨v51, S51⟩, h51, hsh⟩ := Option.bind_eq_some_iff.mp hsh
        have hsh : _ = _ := hsh
        try dsimp only at hsh
        have ok51 := ok13_at h51
        refine e_callI (nL := 7) (mc := 0) (ms := 0) (T := TX13) (N := 126) (As := [.int (iI (x1)), .int (iI (((x2 + x6) - x3)))]) (rest := []) hx hb hml hown hts hp hS hl.size ok51.1 ok51.2.1 ok51.2.2 rfl (by decide) (c13_at l D cA B S S51 (x0) (x1) (((x2 + x6) - x3)) v51 h51) rfl rfl kd13_at (kl13_206) ks13_at kv13_at ki13 kh13_at ⟨Nat.le_of_ble_eq_true rfl, Nat.le_of_ble_eq_true rfl⟩ rfl (by simp [e_rv_cat, e_int_cat]) ⟨Nat.le_refl _, Nat.le_refl _⟩ dX13_standsIn_51 rfl (fun H locs hp hS => ?_)
        refine e_aload_n (B := B) (x := x0) hx hb dX13_standsIn_54 rfl (hl.at 0 rfl) ?_
        obtain ⟨v55, h55, hsh⟩ := Option.bind_eq_some_iff.mp hsh
        refine e_getR (k := 106) hx hb hts in_X13 hown hp h55 rfl (by decide) (by decide) rfl (hts _ kf13_154) rfl dX13_standsIn_55 ?_
        refine lv_iload hx hb dX13_standsIn_58 (hl.at 6 rfl) ?_
        obtain ⟨v60, h60, hsh⟩ := Option.bind_eq_some_iff.mp hsh
        refine e_iald hx hb hp h60 dX13_standsIn_60 ?_
        refine e_icmp_ne (tgt := 68) hx hb dX13_standsIn_61 (by decide) (fun c61 => ?_) (fun c61 => ?_)
        · rw [if_neg c61] at hsh
          refine lv_iconst (v := iI (0)) hx hb dX13_standsIn_68 rfl ?_
          exact w13_standsIn_b69 (hk31 := hk31) E hp hS (hl.sub [0, 1, 2, 3, 4, 6] rfl) hsh
        · rw [if_pos c61] at hsh
          refine lv_iconst (v := iI (1)) hx hb dX13_standsIn_64 rfl ?_
          refine lv_goto (tgt := 69) hx hb dX13_standsIn_65 (by decide) ?_
          exact w13_standsIn_b69 (hk31 := hk31) E hp hS (hl.sub [0, 1, 2, 3, 4, 6] rfl) hsh
set_option maxRecDepth 100000 in
set_option maxHeartbeats 4000000 in
theorem w13_standsIn_b26 {p : Program} {l : Launch} {e : Env} {s : State} {m : MethodId} {args : Array Value} {below : List Frame} {meth : Method} {c : Code} {D : va_G} {cA : Nat → ClassId} {B : Nat} {res : Int × HP} (E : e_En p s m args meth c cX13_standsIn RX13 7 (some .boolean)) {ls : Array Slot} {H : Heap} {locs : List Loc} {S : HP} {x0 : Int} {x1 : Int} {x2 : Int} {x3 : Int} {x4 : Int} {y0 : Int} (hp : e_Pic D cA B S s H) (hS : va_S (e_A B) s.heap H locs) (hl : e_lo ls 7 [(0, e_rv B (x0)), (1, .int (iI (x1))), (2, .int (iI (x2))), (3, .int (iI (x3))), (4, .int (iI (x4)))]) (hsh : s13_standsIn_b26 S x0 x1 x2 x3 x4 y0 = some res) : W p l e ({ frames := 1, cells := 0, slots := 0, locals := 22 } : Room) s m args below meth c H locs 0 0 (MQ below (e_Qi D cA B res.1 res.2) args s 0 0 (e_A B)) (F0 m 26 ls [.int (iI (y0))]) := by
  obtain ⟨hx, hb, hml, hown, hts, hlk, hrt⟩ := id E
  unfold s13_standsIn_b26 at hsh
  refine e_istore (lv' := [(5, .int (iI (y0))), (0, e_rv B (x0)), (1, .int (iI (x1))), (2, .int (iI (x2))), (3, .int (iI (x3))), (4, .int (iI (x4)))]) hx hb dX13_standsIn_26 hl (by decide) rfl (fun ls hl => ?_)
  refine lv_iload_n hx hb dX13_standsIn_28 rfl (hl.at 4 rfl) ?_
  refine e_istore (lv' := [(6, .int (iI (x3))), (5, .int (iI (y0))), (0, e_rv B (x0)), (1, .int (iI (x1))), (2, .int (iI (x2))), (3, .int (iI (x3))), (4, .int (iI (x4)))]) hx hb dX13_standsIn_29 hl (by decide) rfl (fun ls hl => ?_)
  exact w13_standsIn_l31 E 1000000 hp hS (hl.sub [2, 3, 4, 5, 6, 1, 0] rfl) hsh
set_option maxRecDepth 100000 in
set_option maxHeartbeats 4000000 in
theorem w13_standsIn_b25 {p : Program} {l : Launch} {e : Env} {s : State} {m : MethodId} {args : Array Value} {below : List Frame} {meth : Method} {c : Code} {D : va_G} {cA : Nat → ClassId} {B : Nat} {res : Int × HP} (E : e_En p s m args meth c cX13_standsIn RX13 7 (some .boolean)) {ls : Array Slot} {H : Heap} {locs : List Loc} {S : HP} {x0 : Int} {x1 : Int} {x2 : Int} {x3 : Int} {x4 : Int} (hp : e_Pic D cA B S s H) (hS : va_S (e_A B) s.heap H locs) (hl : e_lo ls 7 [(0, e_rv B (x0)), (1, .int (iI (x1))), (2, .int (iI (x2))), (3, .int (iI (x3))), (4, .int (iI (x4)))]) (hsh : s13_standsIn_b25 S x0 x1 x2 x3 x4 = some res) : W p l e ({ frames := 1, cells := 0, slots := 0, locals := 22 } : Room) s m args below meth c H locs 0 0 (MQ below (e_Qi D cA B res.1 res.2) args s 0 0 (e_A B)) (F0 m 25 ls []) := by
  obtain ⟨hx, hb, hml, hown, hts, hlk, hrt⟩ := id E
  unfold s13_standsIn_b25 at hsh
  refine lv_iconst (v := iI (0)) hx hb dX13_standsIn_25 rfl ?_
  exact w13_standsIn_b26 E hp hS (hl.sub [0, 1, 2, 3, 4] rfl) hsh
set_option maxRecDepth 100000 in
set_option maxHeartbeats 4000000 in
theorem c13_standsIn (l : Launch) (D : va_G) (cA : Nat → ClassId) (B : Nat) (S S' : HP) (x0 : Int) (x1 : Int) (x2 : Int) (x3 : Int) (x4 : Int) (r : Int) (hsh : s13_standsIn S x0 x1 x2 x3 x4 = some (r, S')) : Met l yX13_standsIn (e_wu yX13_standsIn cX13_standsIn 7 (some .boolean)) ({ frames := 1, cells := 0, slots := 0, locals := 22 } : Room) (va_Pc [e_rv B (x0), .int (iI (x1)), .int (iI (x2)), .int (iI (x3)), .int (iI (x4))] (fun U => e_PU D cA B S U)) (e_Qi D cA B r S') 0 0 (e_A B) := by
  refine Met.ofW (cc := cX13_standsIn) (maxL := 7) (ret := (some .boolean)) (by decide +kernel) rfl ?_
  intro p e s m args below meth c s₁ Bd hml hv
  obtain ⟨rfl, hp⟩ := hv
  have hp : e_Pic D cA B S s s.heap := hp
  have hx := Bd.exec
  have hb := Bd.bytes
  have hrt := Bd.returns
  have hlk := Bd.notSynchronized
  have hown : s.vm.findClass RX13 = some m.cls := findClass_of_methodNamed Bd.named
  have hts : ∀ w ∈ e_tb, w.before ([e_rv B (x0), .int (iI (x1)), .int (iI (x2)), .int (iI (x3)), .int (iI (x4))] : List Value).toArray s = true := fun w h => atoms_spec (ws := (e_wu yX13_standsIn cX13_standsIn 7 (some .boolean))) Bd.pre w (List.mem_cons_of_mem _ h)
  have E : e_En p s m ([e_rv B (x0), .int (iI (x1)), .int (iI (x2)), .int (iI (x3)), .int (iI (x4))] : List Value).toArray meth c cX13_standsIn RX13 7 (some .boolean) := ⟨hx, hb, hml, hown, hts, hlk, hrt⟩
  have hS : va_S (e_A B) s.heap s.heap [] := va_S.rf
  have hl := e_entry (vs := [e_rv B (x0), .int (iI (x1)), .int (iI (x2)), .int (iI (x3)), .int (iI (x4))]) (n := 7) (Nat.le_of_ble_eq_true rfl) (e_cc (e_rv_cat _ _) (e_cc rfl (e_cc rfl (e_cc rfl (e_cc rfl e_cn)))))
  rw [lg_entry_eq]
  generalize (lg_sl [e_rv B (x0), .int (iI (x1)), .int (iI (x2)), .int (iI (x3)), .int (iI (x4))] ++ List.replicate (7 - (lg_sl [e_rv B (x0), .int (iI (x1)), .int (iI (x2)), .int (iI (x3)), .int (iI (x4))]).length) Slot.unset).toArray = ls at hl ⊢
  generalize ([e_rv B (x0), .int (iI (x1)), .int (iI (x2)), .int (iI (x3)), .int (iI (x4))] : List Value).toArray = args at hts E ⊢
  have hl : e_lo ls 7 [(0, e_rv B (x0)), (1, .int (iI (x1))), (2, .int (iI (x2))), (3, .int (iI (x3))), (4, .int (iI (x4)))] := hl
  have hsh := (gd_some hsh).2
  refine lv_iload hx hb dX13_standsIn_0 (hl.at 4 rfl) ?_
  refine lv_iload_n hx hb dX13_standsIn_2 rfl (hl.at 3 rfl) ?_
  refine e_icmp_le (tgt := 25) hx hb dX13_standsIn_3 (by decide) (fun c3 => ?_) (fun c3 => ?_)
  · rw [if_pos c3] at hsh
    exact w13_standsIn_b25 E hp hS (hl.sub [0, 1, 2, 3, 4] rfl) hsh
  · rw [if_neg c3] at hsh
    refine lv_iload_n hx hb dX13_standsIn_6 rfl (hl.at 2 rfl) ?_
    refine lv_iload hx hb dX13_standsIn_7 (hl.at 4 rfl) ?_
    refine e_iadd hx hb dX13_standsIn_9 ?_
    refine lv_iload_n hx hb dX13_standsIn_10 rfl (hl.at 3 rfl) ?_
    refine e_isub hx hb dX13_standsIn_11 ?_
    refine e_aload_n (B := B) (x := x0) hx hb dX13_standsIn_12 rfl (hl.at 0 rfl) ?_
    obtain ⟨v13, h13, hsh⟩ := Option.bind_eq_some_iff.mp hsh
    refine e_getR (k := 3) hx hb hts in_X13 hown hp h13 rfl (by decide) (by decide) rfl (hts _ kf13_17) rfl dX13_standsIn_13 ?_
    refine lv_iload_n hx hb dX13_standsIn_16 rfl (hl.at 1 rfl) ?_
    obtain ⟨v17, h17, hsh⟩ := Option.bind_eq_some_iff.mp hsh
    refine e_iald hx hb hp h17 dX13_standsIn_17 ?_
    refine e_icmp_gt (tgt := 25) hx hb dX13_standsIn_18 (by decide) (fun c18 => ?_) (fun c18 => ?_)
    · rw [if_pos c18] at hsh
      exact w13_standsIn_b25 E hp hS (hl.sub [0, 1, 2, 3, 4] rfl) hsh
    · rw [if_neg c18] at hsh
      refine lv_iconst (v := iI (1)) hx hb dX13_standsIn_21 rfl ?_
      refine lv_goto (tgt := 26) hx hb dX13_standsIn_22 (by decide) ?_
      exact w13_standsIn_b26 E hp hS (hl.sub [0, 1, 2, 3, 4] rfl) hsh
theorem ok13_replacedLine {S : HP} {x0 : Int} {x1 : Int} {x2 : Int} {x3 : Int} {x4 : Int} {x5 : Int} {r : Int × HP} (h : s13_replacedLine S x0 x1 x2 x3 x4 x5 = some r) : 0 ≤ x0 ∧ x0.toNat < e_n S ∧ e_g S x0.toNat = 13 := (gd_some h).1
set_option maxRecDepth 100000 in
set_option maxHeartbeats 4000000 in
theorem w13_replacedLine_b125 {p : Program} {l : Launch} {e : Env} {s : State} {m : MethodId} {args : Array Value} {below : List Frame} {meth : Method} {c : Code} {D : va_G} {cA : Nat → ClassId} {B : Nat} {res : Int × HP} (E : e_En p s m args meth c cX13_replacedLine RX13 10 (some .int)) {ls : Array Slot} {H : Heap} {locs : List Loc} {S : HP} {y0 : Int} (hp : e_Pic D cA B S s H) (hS : va_S (e_A B) s.heap H locs) (hl : e_lo ls 10 []) (hsh : s13_replacedLine_b125 S y0 = some res) : W p l e ({ frames := 2, cells := 0, slots := 0, locals := 48 } : Room) s m args below meth c H locs 0 0 (MQ below (e_Qi D cA B res.1 res.2) args s 0 0 (e_A B)) (F0 m 125 ls [.int (iI (y0))]) := by
  obtain ⟨hx, hb, hml, hown, hts, hlk, hrt⟩ := id E
  unfold s13_replacedLine_b125 at hsh
  cases hsh
  exact e_iret hx hb hrt hlk hp hS dX13_replacedLine_125
set_option maxRecDepth 100000 in
set_option maxHeartbeats 4000000 in
theorem w13_replacedLine_b91 {p : Program} {l : Launch} {e : Env} {s : State} {m : MethodId} {args : Array Value} {below : List Frame} {meth : Method} {c : Code} {D : va_G} {cA : Nat → ClassId} {B : Nat} {res : Int × HP} {k9 : HP → Int → Int → Int → Int → Int → Int → Int → Int → Int → Option (Int × HP)} (hk9 : ∀ {ls : Array Slot} {H : Heap} {locs : List Loc} {S : HP} {x0 : Int} {x1 : Int} {x2 : Int} {x3 : Int} {x4 : Int} {x5 : Int} {x6 : Int} {x7 : Int} {x8 : Int} (hp : e_Pic D cA B S s H) (hS : va_S (e_A B) s.heap H locs) (hl : e_lo ls 10 [(0, e_rv B (x0)), (1, .int (iI (x1))), (2, .int (iI (x2))), (3, .int (iI (x3))), (4, .int (iI (x4))), (5, .int (iI (x5))), (6, .int (iI (x6))), (7, .int (iI (x7))), (8, .int (iI (x8)))]) (hsh : k9 S x0 x1 x2 x3 x4 x5 x6 x7 x8 = some res), W p l e ({ frames := 2, cells := 0, slots := 0, locals := 48 } : Room) s m args below meth c H locs 0 0 (MQ below (e_Qi D cA B res.1 res.2) args s 0 0 (e_A B)) (F0 m 9 ls [])) (E : e_En p s m args meth c cX13_replacedLine RX13 10 (some .int)) {ls : Array Slot} {H : Heap} {locs : List Loc} {S : HP} {x0 : Int} {x1 : Int} {x2 : Int} {x3 : Int} {x4 : Int} {x5 : Int} {x6 : Int} {x7 : Int} {x8 : Int} (hp : e_Pic D cA B S s H) (hS : va_S (e_A B) s.heap H locs) (hl : e_lo ls 10 [(0, e_rv B (x0)), (1, .int (iI (x1))), (2, .int (iI (x2))), (3, .int (iI (x3))), (4, .int (iI (x4))), (5, .int (iI (x5))), (6, .int (iI (x6))), (7, .int (iI (x7))), (8, .int (iI (x8)))]) (hsh : s13_replacedLine_b91 k9 S x0 x1 x2 x3 x4 x5 x6 x7 x8 = some res) : W p l e ({ frames := 2, cells := 0, slots := 0, locals := 48 } : Room) s m args below meth c H locs 0 0 (MQ below (e_Qi D cA B res.1 res.2) args s 0 0 (e_A B)) (F0 m 91 ls []) := by
  obtain ⟨hx, hb, hml, hown, hts, hlk, hrt⟩ := id E
  unfold s13_replacedLine_b91 at hsh
  refine e_aload_n (B := B) (x := x0) hx hb dX13_replacedLine_91 rfl (hl.at 0 rfl) ?_
  obtain ⟨v92, h92, hsh⟩ := Option.bind_eq_some_iff.mp hsh
  refine e_getR (k := 42) hx hb hts in_X13 hown hp h92 rfl (by decide) (by decide) rfl (hts _ kf13_83) rfl dX13_replacedLine_92 ?_
  refine lv_iload hx hb dX13_replacedLine_95 (hl.at 6 rfl) ?_
  refine e_aload_n (B := B) (x := x0) hx hb dX13_replacedLine_97 rfl (hl.at 0 rfl) ?_
  refine lv_iload_n hx hb dX13_replacedLine_98 rfl (hl.at 1 rfl) ?_
  refine lv_iload hx hb dX13_replacedLine_99 (hl.at 7 rfl) ?_
  obtain ⟨⟨v101, S101⟩, h101, hsh⟩ := Option.bind_eq_some_iff.mp hsh
  have hsh : _ = _ := hsh
  try dsimp only at hsh
  have ok101 := ok13_at h101
  refine e_callI (nL := 10) (mc := 0) (ms := 0) (T := TX13) (N := 126) (As := [.int (iI (x1)), .int (iI (x7))]) (rest := [.int (iI (x6)), e_rv B (v92)]) hx hb hml hown hts hp hS hl.size ok101.1 ok101.2.1 ok101.2.2 rfl (by decide) (c13_at l D cA B S S101 (x0) (x1) (x7) v101 h101) rfl rfl kd13_at (kl13_206) ks13_at kv13_at ki13 kh13_at ⟨Nat.le_of_ble_eq_true rfl, Nat.le_of_ble_eq_true rfl⟩ rfl (by simp [e_rv_cat, e_int_cat]) ⟨Nat.le_refl _, Nat.le_refl _⟩ dX13_replacedLine_101 rfl (fun H locs hp hS => ?_)
  obtain ⟨S104, h104, hsh⟩ := Option.bind_eq_some_iff.mp hsh
  refine e_iast hx hb hp hS h104 dX13_replacedLine_104 (fun H locs hp hS => ?_)
  refine e_iinc (n := 1) (x := x6) (lv' := [(6, .int (iI ((x6 + 1)))), (0, e_rv B (x0)), (1, .int (iI (x1))), (2, .int (iI (x2))), (3, .int (iI (x3))), (4, .int (iI (x4))), (5, .int (iI (x5))), (7, .int (iI (x7))), (8, .int (iI (x8)))]) hx hb dX13_replacedLine_105 hl (k := 6) rfl (by decide) rfl (fun ls hl => ?_)
  refine e_iinc (n := 1) (x := x7) (lv' := [(7, .int (iI ((x7 + 1)))), (6, .int (iI ((x6 + 1)))), (0, e_rv B (x0)), (1, .int (iI (x1))), (2, .int (iI (x2))), (3, .int (iI (x3))), (4, .int (iI (x4))), (5, .int (iI (x5))), (8, .int (iI (x8)))]) hx hb dX13_replacedLine_108 hl (k := 7) rfl (by decide) rfl (fun ls hl => ?_)
  refine lv_goto (tgt := 9) hx hb dX13_replacedLine_111 (by decide) ?_
  exact hk9 hp hS (hl.sub [2, 3, 4, 5, 6, 7, 1, 0, 8] rfl) hsh
set_option maxRecDepth 100000 in
set_option maxHeartbeats 4000000 in
theorem w13_replacedLine_l47 {p : Program} {l : Launch} {e : Env} {s : State} {m : MethodId} {args : Array Value} {below : List Frame} {meth : Method} {c : Code} {D : va_G} {cA : Nat → ClassId} {B : Nat} {res : Int × HP} {k9 : HP → Int → Int → Int → Int → Int → Int → Int → Int → Int → Option (Int × HP)} (hk9 : ∀ {ls : Array Slot} {H : Heap} {locs : List Loc} {S : HP} {x0 : Int} {x1 : Int} {x2 : Int} {x3 : Int} {x4 : Int} {x5 : Int} {x6 : Int} {x7 : Int} {x8 : Int} (hp : e_Pic D cA B S s H) (hS : va_S (e_A B) s.heap H locs) (hl : e_lo ls 10 [(0, e_rv B (x0)), (1, .int (iI (x1))), (2, .int (iI (x2))), (3, .int (iI (x3))), (4, .int (iI (x4))), (5, .int (iI (x5))), (6, .int (iI (x6))), (7, .int (iI (x7))), (8, .int (iI (x8)))]) (hsh : k9 S x0 x1 x2 x3 x4 x5 x6 x7 x8 = some res), W p l e ({ frames := 2, cells := 0, slots := 0, locals := 48 } : Room) s m args below meth c H locs 0 0 (MQ below (e_Qi D cA B res.1 res.2) args s 0 0 (e_A B)) (F0 m 9 ls [])) (E : e_En p s m args meth c cX13_replacedLine RX13 10 (some .int)) : ∀ (f : Nat) {ls : Array Slot} {H : Heap} {locs : List Loc} {S : HP} {x0 : Int} {x1 : Int} {x2 : Int} {x3 : Int} {x4 : Int} {x5 : Int} {x6 : Int} {x7 : Int} {x9 : Int} (hp : e_Pic D cA B S s H) (hS : va_S (e_A B) s.heap H locs) (hl : e_lo ls 10 [(0, e_rv B (x0)), (1, .int (iI (x1))), (2, .int (iI (x2))), (3, .int (iI (x3))), (4, .int (iI (x4))), (5, .int (iI (x5))), (6, .int (iI (x6))), (7, .int (iI (x7))), (9, .int (iI (x9)))]) (hsh : s13_replacedLine_l47 k9 f S x0 x1 x2 x3 x4 x5 x6 x7 x9 = some res), W p l e ({ frames := 2, cells := 0, slots := 0, locals := 48 } : Room) s m args below meth c H locs 0 0 (MQ below (e_Qi D cA B res.1 res.2) args s 0 0 (e_A B)) (F0 m 47 ls []) := by
  obtain ⟨hx, hb, hml, hown, hts, hlk, hrt⟩ := id E
  intro f
  induction f with
  | zero => intro ls H locs S x0 x1 x2 x3 x4 x5 x6 x7 x9 hp hS hl hsh; cases hsh
  | succ f ih =>
    intro ls H locs S x0 x1 x2 x3 x4 x5 x6 x7 x9 hp hS hl hsh
    have hk47 : ∀ {ls : Array Slot} {H : Heap} {locs : List Loc} {S : HP} {x0 : Int} {x1 : Int} {x2 : Int} {x3 : Int} {x4 : Int} {x5 : Int} {x6 : Int} {x7 : Int} {x9 : Int} (hp : e_Pic D cA B S s H) (hS : va_S (e_A B) s.heap H locs) (hl : e_lo ls 10 [(0, e_rv B (x0)), (1, .int (iI (x1))), (2, .int (iI (x2))), (3, .int (iI (x3))), (4, .int (iI (x4))), (5, .int (iI (x5))), (6, .int (iI (x6))), (7, .int (iI (x7))), (9, .int (iI (x9)))]) (hsh : (s13_replacedLine_l47 k9 f) S x0 x1 x2 x3 x4 x5 x6 x7 x9 = some res), W p l e ({ frames := 2, cells := 0, slots := 0, locals := 48 } : Room) s m args below meth c H locs 0 0 (MQ below (e_Qi D cA B res.1 res.2) args s 0 0 (e_A B)) (F0 m 47 ls []) := ih
    generalize hkk : s13_replacedLine_l47 k9 f = k47 at hk47
    rw [s13_replacedLine_l47] at hsh
    rw [hkk] at hsh
    try dsimp only at hsh
    refine lv_iload hx hb dX13_replacedLine_47 (hl.at 8 rfl) ?_
    refine lv_iload hx hb dX13_replacedLine_49 (hl.at 4 rfl) ?_
    refine e_icmp_ge (tgt := 77) hx hb dX13_replacedLine_51 (by decide) (fun c51 => ?_) (fun c51 => ?_)
    · rw [if_pos c51] at hsh
      refine lv_iload hx hb dX13_replacedLine_77 (hl.at 7 rfl) ?_
      refine lv_iload_n hx hb dX13_replacedLine_79 rfl (hl.at 3 rfl) ?_
      refine lv_iload_n hx hb dX13_replacedLine_80 rfl (hl.at 2 rfl) ?_
      refine e_isub hx hb dX13_replacedLine_81 ?_
      refine e_iadd hx hb dX13_replacedLine_82 ?_
      refine e_istore (lv' := [(7, .int (iI ((x7 + (x3 - x2))))), (0, e_rv B (x0)), (1, .int (iI (x1))), (2, .int (iI (x2))), (3, .int (iI (x3))), (4, .int (iI (x4))), (5, .int (iI (x5))), (6, .int (iI (x6))), (9, .int (iI (x9)))]) hx hb dX13_replacedLine_83 hl (by decide) rfl (fun ls hl => ?_)
      refine lv_iconst (v := iI (1)) hx hb dX13_replacedLine_85 rfl ?_
      refine e_istore (lv' := [(8, .int (iI (1))), (7, .int (iI ((x7 + (x3 - x2))))), (0, e_rv B (x0)), (1, .int (iI (x1))), (2, .int (iI (x2))), (3, .int (iI (x3))), (4, .int (iI (x4))), (5, .int (iI (x5))), (6, .int (iI (x6))), (9, .int (iI (x9)))]) hx hb dX13_replacedLine_86 hl (by decide) rfl (fun ls hl => ?_)
      refine lv_goto (tgt := 9) hx hb dX13_replacedLine_88 (by decide) ?_
      exact hk9 hp hS (hl.sub [2, 3, 4, 5, 6, 7, 8, 1, 0] rfl) hsh
    · rw [if_neg c51] at hsh
      refine e_aload_n (B := B) (x := x0) hx hb dX13_replacedLine_54 rfl (hl.at 0 rfl) ?_
      obtain ⟨v55, h55, hsh⟩ := Option.bind_eq_some_iff.mp hsh
      refine e_getR (k := 42) hx hb hts in_X13 hown hp h55 rfl (by decide) (by decide) rfl (hts _ kf13_83) rfl dX13_replacedLine_55 ?_
      refine lv_iload hx hb dX13_replacedLine_58 (hl.at 6 rfl) ?_
      refine e_aload_n (B := B) (x := x0) hx hb dX13_replacedLine_60 rfl (hl.at 0 rfl) ?_
      obtain ⟨v61, h61, hsh⟩ := Option.bind_eq_some_iff.mp hsh
      refine e_getR (k := 106) hx hb hts in_X13 hown hp h61 rfl (by decide) (by decide) rfl (hts _ kf13_154) rfl dX13_replacedLine_61 ?_
      refine lv_iload hx hb dX13_replacedLine_64 (hl.at 8 rfl) ?_
      obtain ⟨v66, h66, hsh⟩ := Option.bind_eq_some_iff.mp hsh
      refine e_iald hx hb hp h66 dX13_replacedLine_66 ?_
      obtain ⟨S67, h67, hsh⟩ := Option.bind_eq_some_iff.mp hsh
      refine e_iast hx hb hp hS h67 dX13_replacedLine_67 (fun H locs hp hS => ?_)
      refine e_iinc (n := 1) (x := x6) (lv' := [(6, .int (iI ((x6 + 1)))), (0, e_rv B (x0)), (1, .int (iI (x1))), (2, .int (iI (x2))), (3, .int (iI (x3))), (4, .int (iI (x4))), (5, .int (iI (x5))), (7, .int (iI (x7))), (9, .int (iI (x9)))]) hx hb dX13_replacedLine_68 hl (k := 6) rfl (by decide) rfl (fun ls hl => ?_)
      refine e_iinc (n := 1) (x := x9) (lv' := [(9, .int (iI ((x9 + 1)))), (6, .int (iI ((x6 + 1)))), (0, e_rv B (x0)), (1, .int (iI (x1))), (2, .int (iI (x2))), (3, .int (iI (x3))), (4, .int (iI (x4))), (5, .int (iI (x5))), (7, .int (iI (x7)))]) hx hb dX13_replacedLine_71 hl (k := 8) rfl (by decide) rfl (fun ls hl => ?_)
      refine lv_goto (tgt := 47) hx hb dX13_replacedLine_74 (by decide) ?_
      exact hk47 hp hS (hl.sub [2, 3, 4, 5, 6, 7, 1, 8, 0] rfl) hsh
set_option maxRecDepth 100000 in
set_option maxHeartbeats 4000000 in
theorem w13_replacedLine_b30 {p : Program} {l : Launch} {e : Env} {s : State} {m : MethodId} {args : Array Value} {below : List Frame} {meth : Method} {c : Code} {D : va_G} {cA : Nat → ClassId} {B : Nat} {res : Int × HP} {k9 : HP → Int → Int → Int → Int → Int → Int → Int → Int → Int → Option (Int × HP)} (hk9 : ∀ {ls : Array Slot} {H : Heap} {locs : List Loc} {S : HP} {x0 : Int} {x1 : Int} {x2 : Int} {x3 : Int} {x4 : Int} {x5 : Int} {x6 : Int} {x7 : Int} {x8 : Int} (hp : e_Pic D cA B S s H) (hS : va_S (e_A B) s.heap H locs) (hl : e_lo ls 10 [(0, e_rv B (x0)), (1, .int (iI (x1))), (2, .int (iI (x2))), (3, .int (iI (x3))), (4, .int (iI (x4))), (5, .int (iI (x5))), (6, .int (iI (x6))), (7, .int (iI (x7))), (8, .int (iI (x8)))]) (hsh : k9 S x0 x1 x2 x3 x4 x5 x6 x7 x8 = some res), W p l e ({ frames := 2, cells := 0, slots := 0, locals := 48 } : Room) s m args below meth c H locs 0 0 (MQ below (e_Qi D cA B res.1 res.2) args s 0 0 (e_A B)) (F0 m 9 ls [])) (E : e_En p s m args meth c cX13_replacedLine RX13 10 (some .int)) {ls : Array Slot} {H : Heap} {locs : List Loc} {S : HP} {x0 : Int} {x1 : Int} {x2 : Int} {x3 : Int} {x4 : Int} {x5 : Int} {x6 : Int} {x7 : Int} {x8 : Int} (hp : e_Pic D cA B S s H) (hS : va_S (e_A B) s.heap H locs) (hl : e_lo ls 10 [(0, e_rv B (x0)), (1, .int (iI (x1))), (2, .int (iI (x2))), (3, .int (iI (x3))), (4, .int (iI (x4))), (5, .int (iI (x5))), (6, .int (iI (x6))), (7, .int (iI (x7))), (8, .int (iI (x8)))]) (hsh : s13_replacedLine_b30 k9 S x0 x1 x2 x3 x4 x5 x6 x7 x8 = some res) : W p l e ({ frames := 2, cells := 0, slots := 0, locals := 48 } : Room) s m args below meth c H locs 0 0 (MQ below (e_Qi D cA B res.1 res.2) args s 0 0 (e_A B)) (F0 m 30 ls []) := by
  obtain ⟨hx, hb, hml, hown, hts, hlk, hrt⟩ := id E
  unfold s13_replacedLine_b30 at hsh
  refine e_aload_n (B := B) (x := x0) hx hb dX13_replacedLine_30 rfl (hl.at 0 rfl) ?_
  refine lv_iload_n hx hb dX13_replacedLine_31 rfl (hl.at 1 rfl) ?_
  refine lv_iload hx hb dX13_replacedLine_32 (hl.at 7 rfl) ?_
  refine lv_iload_n hx hb dX13_replacedLine_34 rfl (hl.at 2 rfl) ?_
  refine lv_iload_n hx hb dX13_replacedLine_35 rfl (hl.at 3 rfl) ?_
  obtain ⟨⟨v36, S36⟩, h36, hsh⟩ := Option.bind_eq_some_iff.mp hsh
  have hsh : _ = _ := hsh
  try dsimp only at hsh
  have ok36 := ok13_standsIn h36
  refine e_callI (nL := 10) (mc := 0) (ms := 0) (T := TX13) (N := 126) (As := [.int (iI (x1)), .int (iI (x7)), .int (iI (x2)), .int (iI (x3))]) (rest := []) hx hb hml hown hts hp hS hl.size ok36.1 ok36.2.1 ok36.2.2 rfl (by decide) (c13_standsIn l D cA B S S36 (x0) (x1) (x7) (x2) (x3) v36 h36) rfl rfl kd13_standsIn (kl13_895) ks13_standsIn kv13_standsIn ki13 kh13_standsIn ⟨Nat.le_of_ble_eq_true rfl, Nat.le_of_ble_eq_true rfl⟩ rfl (by simp [e_rv_cat, e_int_cat]) ⟨Nat.le_refl _, Nat.le_refl _⟩ dX13_replacedLine_36 rfl (fun H locs hp hS => ?_)
  refine e_if_eq (tgt := 91) hx hb dX13_replacedLine_39 (by decide) (fun c39 => ?_) (fun c39 => ?_)
  · rw [if_pos c39] at hsh
    exact w13_replacedLine_b91 (hk9 := hk9) E hp hS (hl.sub [0, 1, 2, 3, 4, 5, 6, 7, 8] rfl) hsh
  · rw [if_neg c39] at hsh
    refine lv_iload_n hx hb dX13_replacedLine_42 rfl (hl.at 3 rfl) ?_
    refine lv_iconst (v := iI (1)) hx hb dX13_replacedLine_43 rfl ?_
    refine e_iadd hx hb dX13_replacedLine_44 ?_
    refine e_istore (lv' := [(9, .int (iI ((x3 + 1)))), (0, e_rv B (x0)), (1, .int (iI (x1))), (2, .int (iI (x2))), (3, .int (iI (x3))), (4, .int (iI (x4))), (5, .int (iI (x5))), (6, .int (iI (x6))), (7, .int (iI (x7))), (8, .int (iI (x8)))]) hx hb dX13_replacedLine_45 hl (by decide) rfl (fun ls hl => ?_)
    exact w13_replacedLine_l47 (hk9 := hk9) E 1000000 hp hS (hl.sub [1, 2, 3, 4, 5, 6, 7, 8, 0] rfl) hsh
set_option maxRecDepth 100000 in
set_option maxHeartbeats 4000000 in
theorem w13_replacedLine_l9 {p : Program} {l : Launch} {e : Env} {s : State} {m : MethodId} {args : Array Value} {below : List Frame} {meth : Method} {c : Code} {D : va_G} {cA : Nat → ClassId} {B : Nat} {res : Int × HP} (E : e_En p s m args meth c cX13_replacedLine RX13 10 (some .int)) : ∀ (f : Nat) {ls : Array Slot} {H : Heap} {locs : List Loc} {S : HP} {x0 : Int} {x1 : Int} {x2 : Int} {x3 : Int} {x4 : Int} {x5 : Int} {x6 : Int} {x7 : Int} {x8 : Int} (hp : e_Pic D cA B S s H) (hS : va_S (e_A B) s.heap H locs) (hl : e_lo ls 10 [(0, e_rv B (x0)), (1, .int (iI (x1))), (2, .int (iI (x2))), (3, .int (iI (x3))), (4, .int (iI (x4))), (5, .int (iI (x5))), (6, .int (iI (x6))), (7, .int (iI (x7))), (8, .int (iI (x8)))]) (hsh : s13_replacedLine_l9 f S x0 x1 x2 x3 x4 x5 x6 x7 x8 = some res), W p l e ({ frames := 2, cells := 0, slots := 0, locals := 48 } : Room) s m args below meth c H locs 0 0 (MQ below (e_Qi D cA B res.1 res.2) args s 0 0 (e_A B)) (F0 m 9 ls []) := by
  obtain ⟨hx, hb, hml, hown, hts, hlk, hrt⟩ := id E
  intro f
  induction f with
  | zero => intro ls H locs S x0 x1 x2 x3 x4 x5 x6 x7 x8 hp hS hl hsh; cases hsh
  | succ f ih =>
    intro ls H locs S x0 x1 x2 x3 x4 x5 x6 x7 x8 hp hS hl hsh
    have hk9 : ∀ {ls : Array Slot} {H : Heap} {locs : List Loc} {S : HP} {x0 : Int} {x1 : Int} {x2 : Int} {x3 : Int} {x4 : Int} {x5 : Int} {x6 : Int} {x7 : Int} {x8 : Int} (hp : e_Pic D cA B S s H) (hS : va_S (e_A B) s.heap H locs) (hl : e_lo ls 10 [(0, e_rv B (x0)), (1, .int (iI (x1))), (2, .int (iI (x2))), (3, .int (iI (x3))), (4, .int (iI (x4))), (5, .int (iI (x5))), (6, .int (iI (x6))), (7, .int (iI (x7))), (8, .int (iI (x8)))]) (hsh : (s13_replacedLine_l9 f) S x0 x1 x2 x3 x4 x5 x6 x7 x8 = some res), W p l e ({ frames := 2, cells := 0, slots := 0, locals := 48 } : Room) s m args below meth c H locs 0 0 (MQ below (e_Qi D cA B res.1 res.2) args s 0 0 (e_A B)) (F0 m 9 ls []) := ih
    generalize hkk : s13_replacedLine_l9 f = k9 at hk9
    rw [s13_replacedLine_l9] at hsh
    rw [hkk] at hsh
    try dsimp only at hsh
    refine lv_iload hx hb dX13_replacedLine_9 (hl.at 7 rfl) ?_
    refine e_aload_n (B := B) (x := x0) hx hb dX13_replacedLine_11 rfl (hl.at 0 rfl) ?_
    obtain ⟨v12, h12, hsh⟩ := Option.bind_eq_some_iff.mp hsh
    refine e_getR (k := 3) hx hb hts in_X13 hown hp h12 rfl (by decide) (by decide) rfl (hts _ kf13_17) rfl dX13_replacedLine_12 ?_
    refine lv_iload_n hx hb dX13_replacedLine_15 rfl (hl.at 1 rfl) ?_
    obtain ⟨v16, h16, hsh⟩ := Option.bind_eq_some_iff.mp hsh
    refine e_iald hx hb hp h16 dX13_replacedLine_16 ?_
    refine e_icmp_ge (tgt := 114) hx hb dX13_replacedLine_17 (by decide) (fun c17 => ?_) (fun c17 => ?_)
    · rw [if_pos c17] at hsh
      refine lv_iload hx hb dX13_replacedLine_114 (hl.at 8 rfl) ?_
      refine e_if_eq (tgt := 124) hx hb dX13_replacedLine_116 (by decide) (fun c116 => ?_) (fun c116 => ?_)
      · rw [if_pos c116] at hsh
        refine lv_iconst (v := iI (-1)) hx hb dX13_replacedLine_124 rfl ?_
        exact w13_replacedLine_b125 E hp hS (hl.sub [] rfl) hsh
      · rw [if_neg c116] at hsh
        refine lv_iload hx hb dX13_replacedLine_119 (hl.at 6 rfl) ?_
        refine lv_goto (tgt := 125) hx hb dX13_replacedLine_121 (by decide) ?_
        exact w13_replacedLine_b125 E hp hS (hl.sub [] rfl) hsh
    · rw [if_neg c17] at hsh
      refine lv_iload hx hb dX13_replacedLine_20 (hl.at 5 rfl) ?_
      refine e_if_ne (tgt := 30) hx hb dX13_replacedLine_22 (by decide) (fun c22 => ?_) (fun c22 => ?_)
      · rw [if_neg c22] at hsh
        exact w13_replacedLine_b30 (hk9 := hk9) E hp hS (hl.sub [0, 1, 2, 3, 4, 5, 6, 7, 8] rfl) hsh
      · rw [if_pos c22] at hsh
        refine lv_iload hx hb dX13_replacedLine_25 (hl.at 8 rfl) ?_
        refine e_if_ne (tgt := 91) hx hb dX13_replacedLine_27 (by decide) (fun c27 => ?_) (fun c27 => ?_)
        · rw [if_neg c27] at hsh
          exact w13_replacedLine_b91 (hk9 := hk9) E hp hS (hl.sub [0, 1, 2, 3, 4, 5, 6, 7, 8] rfl) hsh
        · rw [if_pos c27] at hsh
          exact w13_replacedLine_b30 (hk9 := hk9) E hp hS (hl.sub [0, 1, 2, 3, 4, 5, 6, 7, 8] rfl) hsh
set_option maxRecDepth 100000 in
set_option maxHeartbeats 4000000 in
theorem c13_replacedLine (l : Launch) (D : va_G) (cA : Nat → ClassId) (B : Nat) (S S' : HP) (x0 : Int) (x1 : Int) (x2 : Int) (x3 : Int) (x4 : Int) (x5 : Int) (r : Int) (hsh : s13_replacedLine S x0 x1 x2 x3 x4 x5 = some (r, S')) : Met l yX13_replacedLine (e_wu yX13_replacedLine cX13_replacedLine 10 (some .int)) ({ frames := 2, cells := 0, slots := 0, locals := 48 } : Room) (va_Pc [e_rv B (x0), .int (iI (x1)), .int (iI (x2)), .int (iI (x3)), .int (iI (x4)), .int (iI (x5))] (fun U => e_PU D cA B S U)) (e_Qi D cA B r S') 0 0 (e_A B) := by
  refine Met.ofW (cc := cX13_replacedLine) (maxL := 10) (ret := (some .int)) (by decide +kernel) rfl ?_
  intro p e s m args below meth c s₁ Bd hml hv
  obtain ⟨rfl, hp⟩ := hv
  have hp : e_Pic D cA B S s s.heap := hp
  have hx := Bd.exec
  have hb := Bd.bytes
  have hrt := Bd.returns
  have hlk := Bd.notSynchronized
  have hown : s.vm.findClass RX13 = some m.cls := findClass_of_methodNamed Bd.named
  have hts : ∀ w ∈ e_tb, w.before ([e_rv B (x0), .int (iI (x1)), .int (iI (x2)), .int (iI (x3)), .int (iI (x4)), .int (iI (x5))] : List Value).toArray s = true := fun w h => atoms_spec (ws := (e_wu yX13_replacedLine cX13_replacedLine 10 (some .int))) Bd.pre w (List.mem_cons_of_mem _ h)
  have E : e_En p s m ([e_rv B (x0), .int (iI (x1)), .int (iI (x2)), .int (iI (x3)), .int (iI (x4)), .int (iI (x5))] : List Value).toArray meth c cX13_replacedLine RX13 10 (some .int) := ⟨hx, hb, hml, hown, hts, hlk, hrt⟩
  have hS : va_S (e_A B) s.heap s.heap [] := va_S.rf
  have hl := e_entry (vs := [e_rv B (x0), .int (iI (x1)), .int (iI (x2)), .int (iI (x3)), .int (iI (x4)), .int (iI (x5))]) (n := 10) (Nat.le_of_ble_eq_true rfl) (e_cc (e_rv_cat _ _) (e_cc rfl (e_cc rfl (e_cc rfl (e_cc rfl (e_cc rfl e_cn))))))
  rw [lg_entry_eq]
  generalize (lg_sl [e_rv B (x0), .int (iI (x1)), .int (iI (x2)), .int (iI (x3)), .int (iI (x4)), .int (iI (x5))] ++ List.replicate (10 - (lg_sl [e_rv B (x0), .int (iI (x1)), .int (iI (x2)), .int (iI (x3)), .int (iI (x4)), .int (iI (x5))]).length) Slot.unset).toArray = ls at hl ⊢
  generalize ([e_rv B (x0), .int (iI (x1)), .int (iI (x2)), .int (iI (x3)), .int (iI (x4)), .int (iI (x5))] : List Value).toArray = args at hts E ⊢
  have hl : e_lo ls 10 [(0, e_rv B (x0)), (1, .int (iI (x1))), (2, .int (iI (x2))), (3, .int (iI (x3))), (4, .int (iI (x4))), (5, .int (iI (x5)))] := hl
  have hsh := (gd_some hsh).2
  refine lv_iconst (v := iI (0)) hx hb dX13_replacedLine_0 rfl ?_
  refine e_istore (lv' := [(6, .int (iI (0))), (0, e_rv B (x0)), (1, .int (iI (x1))), (2, .int (iI (x2))), (3, .int (iI (x3))), (4, .int (iI (x4))), (5, .int (iI (x5)))]) hx hb dX13_replacedLine_1 hl (by decide) rfl (fun ls hl => ?_)
  refine lv_iconst (v := iI (0)) hx hb dX13_replacedLine_3 rfl ?_
  refine e_istore (lv' := [(7, .int (iI (0))), (6, .int (iI (0))), (0, e_rv B (x0)), (1, .int (iI (x1))), (2, .int (iI (x2))), (3, .int (iI (x3))), (4, .int (iI (x4))), (5, .int (iI (x5)))]) hx hb dX13_replacedLine_4 hl (by decide) rfl (fun ls hl => ?_)
  refine lv_iconst (v := iI (0)) hx hb dX13_replacedLine_6 rfl ?_
  refine e_istore (lv' := [(8, .int (iI (0))), (7, .int (iI (0))), (6, .int (iI (0))), (0, e_rv B (x0)), (1, .int (iI (x1))), (2, .int (iI (x2))), (3, .int (iI (x3))), (4, .int (iI (x4))), (5, .int (iI (x5)))]) hx hb dX13_replacedLine_7 hl (by decide) rfl (fun ls hl => ?_)
  exact w13_replacedLine_l9 E 1000000 hp hS (hl.sub [3, 4, 5, 6, 7, 8, 2, 1, 0] rfl) hsh
theorem ok13_substitutes {S : HP} {x0 : Int} {r : Int × HP} (h : s13_substitutes S x0 = some r) : 0 ≤ x0 ∧ x0.toNat < e_n S ∧ e_g S x0.toNat = 13 := (gd_some h).1
set_option maxRecDepth 100000 in
set_option maxHeartbeats 4000000 in
theorem w13_substitutes_b139 {p : Program} {l : Launch} {e : Env} {s : State} {m : MethodId} {args : Array Value} {below : List Frame} {meth : Method} {c : Code} {D : va_G} {cA : Nat → ClassId} {B : Nat} {res : Int × HP} (E : e_En p s m args meth c cX13_substitutes RX13 10 (some .boolean)) {ls : Array Slot} {H : Heap} {locs : List Loc} {S : HP} (hp : e_Pic D cA B S s H) (hS : va_S (e_A B) s.heap H locs) (hl : e_lo ls 10 []) (hsh : s13_substitutes_b139 S  = some res) : W p l e ({ frames := 3, cells := 0, slots := 0, locals := 77 } : Room) s m args below meth c H locs 0 0 (MQ below (e_Qi D cA B res.1 res.2) args s 0 0 (e_A B)) (F0 m 139 ls []) := by
  obtain ⟨hx, hb, hml, hown, hts, hlk, hrt⟩ := id E
  unfold s13_substitutes_b139 at hsh
  refine lv_iconst (v := iI (0)) hx hb dX13_substitutes_139 rfl ?_
  obtain ⟨hz, hz1, hz2⟩ := zR_some hsh
  rw [← hz1, ← hz2]
  exact e_zret hx hb hrt hlk hp hS hz dX13_substitutes_140
set_option maxRecDepth 100000 in
set_option maxHeartbeats 4000000 in
theorem w13_substitutes_b348 {p : Program} {l : Launch} {e : Env} {s : State} {m : MethodId} {args : Array Value} {below : List Frame} {meth : Method} {c : Code} {D : va_G} {cA : Nat → ClassId} {B : Nat} {res : Int × HP} (E : e_En p s m args meth c cX13_substitutes RX13 10 (some .boolean)) {ls : Array Slot} {H : Heap} {locs : List Loc} {S : HP} {y0 : Int} (hp : e_Pic D cA B S s H) (hS : va_S (e_A B) s.heap H locs) (hl : e_lo ls 10 []) (hsh : s13_substitutes_b348 S y0 = some res) : W p l e ({ frames := 3, cells := 0, slots := 0, locals := 77 } : Room) s m args below meth c H locs 0 0 (MQ below (e_Qi D cA B res.1 res.2) args s 0 0 (e_A B)) (F0 m 348 ls [.int (iI (y0))]) := by
  obtain ⟨hx, hb, hml, hown, hts, hlk, hrt⟩ := id E
  unfold s13_substitutes_b348 at hsh
  obtain ⟨hz, hz1, hz2⟩ := zR_some hsh
  rw [← hz1, ← hz2]
  exact e_zret hx hb hrt hlk hp hS hz dX13_substitutes_348
set_option maxRecDepth 100000 in
set_option maxHeartbeats 4000000 in
theorem w13_substitutes_b347 {p : Program} {l : Launch} {e : Env} {s : State} {m : MethodId} {args : Array Value} {below : List Frame} {meth : Method} {c : Code} {D : va_G} {cA : Nat → ClassId} {B : Nat} {res : Int × HP} (E : e_En p s m args meth c cX13_substitutes RX13 10 (some .boolean)) {ls : Array Slot} {H : Heap} {locs : List Loc} {S : HP} (hp : e_Pic D cA B S s H) (hS : va_S (e_A B) s.heap H locs) (hl : e_lo ls 10 []) (hsh : s13_substitutes_b347 S  = some res) : W p l e ({ frames := 3, cells := 0, slots := 0, locals := 77 } : Room) s m args below meth c H locs 0 0 (MQ below (e_Qi D cA B res.1 res.2) args s 0 0 (e_A B)) (F0 m 347 ls []) := by
  obtain ⟨hx, hb, hml, hown, hts, hlk, hrt⟩ := id E
  unfold s13_substitutes_b347 at hsh
  refine lv_iconst (v := iI (0)) hx hb dX13_substitutes_347 rfl ?_
  exact w13_substitutes_b348 E hp hS (hl.sub [] rfl) hsh
set_option maxRecDepth 100000 in
set_option maxHeartbeats 4000000 in
theorem w13_substitutes_b332 {p : Program} {l : Launch} {e : Env} {s : State} {m : MethodId} {args : Array Value} {below : List Frame} {meth : Method} {c : Code} {D : va_G} {cA : Nat → ClassId} {B : Nat} {res : Int × HP} (E : e_En p s m args meth c cX13_substitutes RX13 10 (some .boolean)) {ls : Array Slot} {H : Heap} {locs : List Loc} {S : HP} {x5 : Int} {x6 : Int} (hp : e_Pic D cA B S s H) (hS : va_S (e_A B) s.heap H locs) (hl : e_lo ls 10 [(5, .int (iI (x5))), (6, .int (iI (x6)))]) (hsh : s13_substitutes_b332 S x5 x6 = some res) : W p l e ({ frames := 3, cells := 0, slots := 0, locals := 77 } : Room) s m args below meth c H locs 0 0 (MQ below (e_Qi D cA B res.1 res.2) args s 0 0 (e_A B)) (F0 m 332 ls []) := by
  obtain ⟨hx, hb, hml, hown, hts, hlk, hrt⟩ := id E
  unfold s13_substitutes_b332 at hsh
  refine lv_iload hx hb dX13_substitutes_332 (hl.at 0 rfl) ?_
  refine lv_iconst (v := iI (-1)) hx hb dX13_substitutes_334 rfl ?_
  refine e_icmp_eq (tgt := 347) hx hb dX13_substitutes_335 (by decide) (fun c335 => ?_) (fun c335 => ?_)
  · rw [if_pos c335] at hsh
    exact w13_substitutes_b347 E hp hS (hl.sub [] rfl) hsh
  · rw [if_neg c335] at hsh
    refine lv_iload hx hb dX13_substitutes_338 (hl.at 1 rfl) ?_
    refine e_if_eq (tgt := 347) hx hb dX13_substitutes_340 (by decide) (fun c340 => ?_) (fun c340 => ?_)
    · rw [if_pos c340] at hsh
      exact w13_substitutes_b347 E hp hS (hl.sub [] rfl) hsh
    · rw [if_neg c340] at hsh
      refine lv_iconst (v := iI (1)) hx hb dX13_substitutes_343 rfl ?_
      refine lv_goto (tgt := 348) hx hb dX13_substitutes_344 (by decide) ?_
      exact w13_substitutes_b348 E hp hS (hl.sub [] rfl) hsh
set_option maxRecDepth 100000 in
set_option maxHeartbeats 4000000 in
theorem w13_substitutes_b315 {p : Program} {l : Launch} {e : Env} {s : State} {m : MethodId} {args : Array Value} {below : List Frame} {meth : Method} {c : Code} {D : va_G} {cA : Nat → ClassId} {B : Nat} {res : Int × HP} (E : e_En p s m args meth c cX13_substitutes RX13 10 (some .boolean)) {ls : Array Slot} {H : Heap} {locs : List Loc} {S : HP} {x0 : Int} {x5 : Int} {x6 : Int} (hp : e_Pic D cA B S s H) (hS : va_S (e_A B) s.heap H locs) (hl : e_lo ls 10 [(0, e_rv B (x0)), (5, .int (iI (x5))), (6, .int (iI (x6)))]) (hsh : s13_substitutes_b315 S x0 x5 x6 = some res) : W p l e ({ frames := 3, cells := 0, slots := 0, locals := 77 } : Room) s m args below meth c H locs 0 0 (MQ below (e_Qi D cA B res.1 res.2) args s 0 0 (e_A B)) (F0 m 315 ls []) := by
  obtain ⟨hx, hb, hml, hown, hts, hlk, hrt⟩ := id E
  unfold s13_substitutes_b315 at hsh
  refine lv_iload hx hb dX13_substitutes_315 (hl.at 1 rfl) ?_
  refine lv_iconst (v := iI (-1)) hx hb dX13_substitutes_317 rfl ?_
  refine e_icmp_eq (tgt := 332) hx hb dX13_substitutes_318 (by decide) (fun c318 => ?_) (fun c318 => ?_)
  · rw [if_pos c318] at hsh
    exact w13_substitutes_b332 E hp hS (hl.sub [1, 2] rfl) hsh
  · rw [if_neg c318] at hsh
    refine lv_iload hx hb dX13_substitutes_321 (hl.at 2 rfl) ?_
    refine e_if_eq (tgt := 332) hx hb dX13_substitutes_323 (by decide) (fun c323 => ?_) (fun c323 => ?_)
    · rw [if_pos c323] at hsh
      exact w13_substitutes_b332 E hp hS (hl.sub [1, 2] rfl) hsh
    · rw [if_neg c323] at hsh
      refine e_aload_n (B := B) (x := x0) hx hb dX13_substitutes_326 rfl (hl.at 0 rfl) ?_
      refine lv_iload hx hb dX13_substitutes_327 (hl.at 1 rfl) ?_
      obtain ⟨S329, h329, hsh⟩ := Option.bind_eq_some_iff.mp hsh
      have ok329 := ok13_goesTo h329
      refine e_callV (nL := 10) (mc := 0) (ms := 0) (T := TX13) (N := 126) (As := [.int (iI (x5))]) (rest := []) hx hb hml hown hts hp hS hl.size ok329.1 ok329.2.1 ok329.2.2 rfl (by decide) (c13_goesTo l D cA B S S329 (x0) (x5) h329) rfl rfl kd13_goesTo (kl13_507) ks13_goesTo kv13_goesTo ki13 kh13_goesTo ⟨Nat.le_of_ble_eq_true rfl, Nat.le_of_ble_eq_true rfl⟩ rfl (by simp [e_rv_cat, e_int_cat]) ⟨Nat.le_refl _, Nat.le_refl _⟩ dX13_substitutes_329 rfl (fun H locs hp hS => ?_)
      exact w13_substitutes_b332 E hp hS (hl.sub [1, 2] rfl) hsh
set_option maxRecDepth 100000 in
set_option maxHeartbeats 4000000 in
theorem w13_substitutes_l276 {p : Program} {l : Launch} {e : Env} {s : State} {m : MethodId} {args : Array Value} {below : List Frame} {meth : Method} {c : Code} {D : va_G} {cA : Nat → ClassId} {B : Nat} {res : Int × HP} {k221 : HP → Int → Int → Int → Int → Int → Int → Int → Int → Option (Int × HP)} (hk221 : ∀ {ls : Array Slot} {H : Heap} {locs : List Loc} {S : HP} {x0 : Int} {x1 : Int} {x2 : Int} {x3 : Int} {x4 : Int} {x5 : Int} {x6 : Int} {x7 : Int} (hp : e_Pic D cA B S s H) (hS : va_S (e_A B) s.heap H locs) (hl : e_lo ls 10 [(0, e_rv B (x0)), (1, .int (iI (x1))), (2, .int (iI (x2))), (3, .int (iI (x3))), (4, .int (iI (x4))), (5, .int (iI (x5))), (6, .int (iI (x6))), (7, .int (iI (x7)))]) (hsh : k221 S x0 x1 x2 x3 x4 x5 x6 x7 = some res), W p l e ({ frames := 3, cells := 0, slots := 0, locals := 77 } : Room) s m args below meth c H locs 0 0 (MQ below (e_Qi D cA B res.1 res.2) args s 0 0 (e_A B)) (F0 m 221 ls [])) (E : e_En p s m args meth c cX13_substitutes RX13 10 (some .boolean)) : ∀ (f : Nat) {ls : Array Slot} {H : Heap} {locs : List Loc} {S : HP} {x0 : Int} {x1 : Int} {x2 : Int} {x3 : Int} {x4 : Int} {x5 : Int} {x6 : Int} {x7 : Int} {x8 : Int} {x9 : Int} (hp : e_Pic D cA B S s H) (hS : va_S (e_A B) s.heap H locs) (hl : e_lo ls 10 [(0, e_rv B (x0)), (1, .int (iI (x1))), (2, .int (iI (x2))), (3, .int (iI (x3))), (4, .int (iI (x4))), (5, .int (iI (x5))), (6, .int (iI (x6))), (7, .int (iI (x7))), (8, .int (iI (x8))), (9, .int (iI (x9)))]) (hsh : s13_substitutes_l276 k221 f S x0 x1 x2 x3 x4 x5 x6 x7 x8 x9 = some res), W p l e ({ frames := 3, cells := 0, slots := 0, locals := 77 } : Room) s m args below meth c H locs 0 0 (MQ below (e_Qi D cA B res.1 res.2) args s 0 0 (e_A B)) (F0 m 276 ls []) := by
  obtain ⟨hx, hb, hml, hown, hts, hlk, hrt⟩ := id E
  intro f
  induction f with
  | zero => intro ls H locs S x0 x1 x2 x3 x4 x5 x6 x7 x8 x9 hp hS hl hsh; cases hsh
  | succ f ih =>
    intro ls H locs S x0 x1 x2 x3 x4 x5 x6 x7 x8 x9 hp hS hl hsh
    have hk276 : ∀ {ls : Array Slot} {H : Heap} {locs : List Loc} {S : HP} {x0 : Int} {x1 : Int} {x2 : Int} {x3 : Int} {x4 : Int} {x5 : Int} {x6 : Int} {x7 : Int} {x8 : Int} {x9 : Int} (hp : e_Pic D cA B S s H) (hS : va_S (e_A B) s.heap H locs) (hl : e_lo ls 10 [(0, e_rv B (x0)), (1, .int (iI (x1))), (2, .int (iI (x2))), (3, .int (iI (x3))), (4, .int (iI (x4))), (5, .int (iI (x5))), (6, .int (iI (x6))), (7, .int (iI (x7))), (8, .int (iI (x8))), (9, .int (iI (x9)))]) (hsh : (s13_substitutes_l276 k221 f) S x0 x1 x2 x3 x4 x5 x6 x7 x8 x9 = some res), W p l e ({ frames := 3, cells := 0, slots := 0, locals := 77 } : Room) s m args below meth c H locs 0 0 (MQ below (e_Qi D cA B res.1 res.2) args s 0 0 (e_A B)) (F0 m 276 ls []) := ih
    generalize hkk : s13_substitutes_l276 k221 f = k276 at hk276
    rw [s13_substitutes_l276] at hsh
    rw [hkk] at hsh
    try dsimp only at hsh
    refine lv_iload hx hb dX13_substitutes_276 (hl.at 9 rfl) ?_
    refine lv_iload hx hb dX13_substitutes_278 (hl.at 8 rfl) ?_
    refine e_icmp_ge (tgt := 309) hx hb dX13_substitutes_280 (by decide) (fun c280 => ?_) (fun c280 => ?_)
    · rw [if_pos c280] at hsh
      refine e_iinc (n := 1) (x := x7) (lv' := [(7, .int (iI ((x7 + 1)))), (0, e_rv B (x0)), (1, .int (iI (x1))), (2, .int (iI (x2))), (3, .int (iI (x3))), (4, .int (iI (x4))), (5, .int (iI (x5))), (6, .int (iI (x6))), (8, .int (iI (x8))), (9, .int (iI (x9)))]) hx hb dX13_substitutes_309 hl (k := 7) rfl (by decide) rfl (fun ls hl => ?_)
      refine lv_goto (tgt := 221) hx hb dX13_substitutes_312 (by decide) ?_
      exact hk221 hp hS (hl.sub [1, 2, 3, 4, 5, 6, 7, 0] rfl) hsh
    · rw [if_neg c280] at hsh
      refine e_aload_n (B := B) (x := x0) hx hb dX13_substitutes_283 rfl (hl.at 0 rfl) ?_
      obtain ⟨v284, h284, hsh⟩ := Option.bind_eq_some_iff.mp hsh
      refine e_getR (k := 4) hx hb hts in_X13 hown hp h284 rfl (by decide) (by decide) rfl (hts _ kf13_20) rfl dX13_substitutes_284 ?_
      refine lv_bipush (v := iI (60)) hx hb dX13_substitutes_287 (by decide +kernel) ?_
      refine lv_iload hx hb dX13_substitutes_289 (hl.at 7 rfl) ?_
      refine e_imul hx hb dX13_substitutes_291 ?_
      refine lv_iload hx hb dX13_substitutes_292 (hl.at 9 rfl) ?_
      refine e_iadd hx hb dX13_substitutes_294 ?_
      refine e_aload_n (B := B) (x := x0) hx hb dX13_substitutes_295 rfl (hl.at 0 rfl) ?_
      obtain ⟨v296, h296, hsh⟩ := Option.bind_eq_some_iff.mp hsh
      refine e_getR (k := 42) hx hb hts in_X13 hown hp h296 rfl (by decide) (by decide) rfl (hts _ kf13_83) rfl dX13_substitutes_296 ?_
      refine lv_iload hx hb dX13_substitutes_299 (hl.at 9 rfl) ?_
      obtain ⟨v301, h301, hsh⟩ := Option.bind_eq_some_iff.mp hsh
      refine e_iald hx hb hp h301 dX13_substitutes_301 ?_
      obtain ⟨S302, h302, hsh⟩ := Option.bind_eq_some_iff.mp hsh
      refine e_iast hx hb hp hS h302 dX13_substitutes_302 (fun H locs hp hS => ?_)
      refine e_iinc (n := 1) (x := x9) (lv' := [(9, .int (iI ((x9 + 1)))), (0, e_rv B (x0)), (1, .int (iI (x1))), (2, .int (iI (x2))), (3, .int (iI (x3))), (4, .int (iI (x4))), (5, .int (iI (x5))), (6, .int (iI (x6))), (7, .int (iI (x7))), (8, .int (iI (x8)))]) hx hb dX13_substitutes_303 hl (k := 9) rfl (by decide) rfl (fun ls hl => ?_)
      refine lv_goto (tgt := 276) hx hb dX13_substitutes_306 (by decide) ?_
      exact hk276 hp hS (hl.sub [1, 2, 3, 4, 5, 6, 7, 8, 9, 0] rfl) hsh
set_option maxRecDepth 100000 in
set_option maxHeartbeats 4000000 in
theorem w13_substitutes_b272 {p : Program} {l : Launch} {e : Env} {s : State} {m : MethodId} {args : Array Value} {below : List Frame} {meth : Method} {c : Code} {D : va_G} {cA : Nat → ClassId} {B : Nat} {res : Int × HP} {k221 : HP → Int → Int → Int → Int → Int → Int → Int → Int → Option (Int × HP)} (hk221 : ∀ {ls : Array Slot} {H : Heap} {locs : List Loc} {S : HP} {x0 : Int} {x1 : Int} {x2 : Int} {x3 : Int} {x4 : Int} {x5 : Int} {x6 : Int} {x7 : Int} (hp : e_Pic D cA B S s H) (hS : va_S (e_A B) s.heap H locs) (hl : e_lo ls 10 [(0, e_rv B (x0)), (1, .int (iI (x1))), (2, .int (iI (x2))), (3, .int (iI (x3))), (4, .int (iI (x4))), (5, .int (iI (x5))), (6, .int (iI (x6))), (7, .int (iI (x7)))]) (hsh : k221 S x0 x1 x2 x3 x4 x5 x6 x7 = some res), W p l e ({ frames := 3, cells := 0, slots := 0, locals := 77 } : Room) s m args below meth c H locs 0 0 (MQ below (e_Qi D cA B res.1 res.2) args s 0 0 (e_A B)) (F0 m 221 ls [])) (E : e_En p s m args meth c cX13_substitutes RX13 10 (some .boolean)) {ls : Array Slot} {H : Heap} {locs : List Loc} {S : HP} {x0 : Int} {x1 : Int} {x2 : Int} {x3 : Int} {x4 : Int} {x5 : Int} {x6 : Int} {x7 : Int} {x8 : Int} {y0 : Int} {y1 : Int} {y2 : Int} (hp : e_Pic D cA B S s H) (hS : va_S (e_A B) s.heap H locs) (hl : e_lo ls 10 [(0, e_rv B (x0)), (1, .int (iI (x1))), (2, .int (iI (x2))), (3, .int (iI (x3))), (4, .int (iI (x4))), (5, .int (iI (x5))), (6, .int (iI (x6))), (7, .int (iI (x7))), (8, .int (iI (x8)))]) (hsh : s13_substitutes_b272 k221 S x0 x1 x2 x3 x4 x5 x6 x7 x8 y0 y1 y2 = some res) : W p l e ({ frames := 3, cells := 0, slots := 0, locals := 77 } : Room) s m args below meth c H locs 0 0 (MQ below (e_Qi D cA B res.1 res.2) args s 0 0 (e_A B)) (F0 m 272 ls [.int (iI (y2)), .int (iI (y1)), e_rv B (y0)]) := by
  obtain ⟨hx, hb, hml, hown, hts, hlk, hrt⟩ := id E
  unfold s13_substitutes_b272 at hsh
  obtain ⟨S272, h272, hsh⟩ := Option.bind_eq_some_iff.mp hsh
  refine e_iast hx hb hp hS h272 dX13_substitutes_272 (fun H locs hp hS => ?_)
  refine lv_iconst (v := iI (0)) hx hb dX13_substitutes_273 rfl ?_
  refine e_istore (lv' := [(9, .int (iI (0))), (0, e_rv B (x0)), (1, .int (iI (x1))), (2, .int (iI (x2))), (3, .int (iI (x3))), (4, .int (iI (x4))), (5, .int (iI (x5))), (6, .int (iI (x6))), (7, .int (iI (x7))), (8, .int (iI (x8)))]) hx hb dX13_substitutes_274 hl (by decide) rfl (fun ls hl => ?_)
  exact w13_substitutes_l276 (hk221 := hk221) E 1000000 hp hS (hl.sub [1, 2, 3, 4, 5, 6, 7, 8, 9, 0] rfl) hsh
set_option maxRecDepth 100000 in
set_option maxHeartbeats 4000000 in
theorem w13_substitutes_l221 {p : Program} {l : Launch} {e : Env} {s : State} {m : MethodId} {args : Array Value} {below : List Frame} {meth : Method} {c : Code} {D : va_G} {cA : Nat → ClassId} {B : Nat} {res : Int × HP} (E : e_En p s m args meth c cX13_substitutes RX13 10 (some .boolean)) : ∀ (f : Nat) {ls : Array Slot} {H : Heap} {locs : List Loc} {S : HP} {x0 : Int} {x1 : Int} {x2 : Int} {x3 : Int} {x4 : Int} {x5 : Int} {x6 : Int} {x7 : Int} (hp : e_Pic D cA B S s H) (hS : va_S (e_A B) s.heap H locs) (hl : e_lo ls 10 [(0, e_rv B (x0)), (1, .int (iI (x1))), (2, .int (iI (x2))), (3, .int (iI (x3))), (4, .int (iI (x4))), (5, .int (iI (x5))), (6, .int (iI (x6))), (7, .int (iI (x7)))]) (hsh : s13_substitutes_l221 f S x0 x1 x2 x3 x4 x5 x6 x7 = some res), W p l e ({ frames := 3, cells := 0, slots := 0, locals := 77 } : Room) s m args below meth c H locs 0 0 (MQ below (e_Qi D cA B res.1 res.2) args s 0 0 (e_A B)) (F0 m 221 ls []) := by
  obtain ⟨hx, hb, hml, hown, hts, hlk, hrt⟩ := id E
  intro f
  induction f with
  | zero => intro ls H locs S x0 x1 x2 x3 x4 x5 x6 x7 hp hS hl hsh; cases hsh
  | succ f ih =>
    intro ls H locs S x0 x1 x2 x3 x4 x5 x6 x7 hp hS hl hsh
    have hk221 : ∀ {ls : Array Slot} {H : Heap} {locs : List Loc} {S : HP} {x0 : Int} {x1 : Int} {x2 : Int} {x3 : Int} {x4 : Int} {x5 : Int} {x6 : Int} {x7 : Int} (hp : e_Pic D cA B S s H) (hS : va_S (e_A B) s.heap H locs) (hl : e_lo ls 10 [(0, e_rv B (x0)), (1, .int (iI (x1))), (2, .int (iI (x2))), (3, .int (iI (x3))), (4, .int (iI (x4))), (5, .int (iI (x5))), (6, .int (iI (x6))), (7, .int (iI (x7)))]) (hsh : (s13_substitutes_l221 f) S x0 x1 x2 x3 x4 x5 x6 x7 = some res), W p l e ({ frames := 3, cells := 0, slots := 0, locals := 77 } : Room) s m args below meth c H locs 0 0 (MQ below (e_Qi D cA B res.1 res.2) args s 0 0 (e_A B)) (F0 m 221 ls []) := ih
    generalize hkk : s13_substitutes_l221 f = k221 at hk221
    rw [s13_substitutes_l221] at hsh
    rw [hkk] at hsh
    try dsimp only at hsh
    refine lv_iload hx hb dX13_substitutes_221 (hl.at 7 rfl) ?_
    refine e_aload_n (B := B) (x := x0) hx hb dX13_substitutes_223 rfl (hl.at 0 rfl) ?_
    obtain ⟨v224, h224, hsh⟩ := Option.bind_eq_some_iff.mp hsh
    refine e_getI (k := 109) hx hb hts in_X13 hown hp h224 rfl (by decide) (by decide) rfl (hts _ kf13_873) rfl dX13_substitutes_224 ?_
    refine e_icmp_gt (tgt := 315) hx hb dX13_substitutes_227 (by decide) (fun c227 => ?_) (fun c227 => ?_)
    · rw [if_pos c227] at hsh
      exact w13_substitutes_b315 E hp hS (hl.sub [0, 5, 6] rfl) hsh
    · rw [if_neg c227] at hsh
      refine lv_iload hx hb dX13_substitutes_230 (hl.at 6 rfl) ?_
      refine e_if_eq (tgt := 315) hx hb dX13_substitutes_232 (by decide) (fun c232 => ?_) (fun c232 => ?_)
      · rw [if_pos c232] at hsh
        exact w13_substitutes_b315 E hp hS (hl.sub [0, 5, 6] rfl) hsh
      · rw [if_neg c232] at hsh
        refine e_aload_n (B := B) (x := x0) hx hb dX13_substitutes_235 rfl (hl.at 0 rfl) ?_
        refine lv_iload hx hb dX13_substitutes_236 (hl.at 7 rfl) ?_
        refine lv_iload_n hx hb dX13_substitutes_238 rfl (hl.at 1 rfl) ?_
        refine lv_iload_n hx hb dX13_substitutes_239 rfl (hl.at 2 rfl) ?_
        refine lv_iload_n hx hb dX13_substitutes_240 rfl (hl.at 3 rfl) ?_
        refine lv_iload hx hb dX13_substitutes_241 (hl.at 4 rfl) ?_
        obtain ⟨⟨v243, S243⟩, h243, hsh⟩ := Option.bind_eq_some_iff.mp hsh
        have hsh : _ = _ := hsh
        try dsimp only at hsh
        have ok243 := ok13_replacedLine h243
        refine e_callI (nL := 10) (mc := 0) (ms := 0) (T := TX13) (N := 126) (As := [.int (iI (x7)), .int (iI (x1)), .int (iI (x2)), .int (iI (x3)), .int (iI (x4))]) (rest := []) hx hb hml hown hts hp hS hl.size ok243.1 ok243.2.1 ok243.2.2 rfl (by decide) (c13_replacedLine l D cA B S S243 (x0) (x7) (x1) (x2) (x3) (x4) v243 h243) rfl rfl kd13_replacedLine (kl13_898) ks13_replacedLine kv13_replacedLine ki13 kh13_replacedLine ⟨Nat.le_of_ble_eq_true rfl, Nat.le_of_ble_eq_true rfl⟩ rfl (by simp [e_rv_cat, e_int_cat]) ⟨Nat.le_refl _, Nat.le_refl _⟩ dX13_substitutes_243 rfl (fun H locs hp hS => ?_)
        refine e_istore (lv' := [(8, .int (iI (v243))), (0, e_rv B (x0)), (1, .int (iI (x1))), (2, .int (iI (x2))), (3, .int (iI (x3))), (4, .int (iI (x4))), (5, .int (iI (x5))), (6, .int (iI (x6))), (7, .int (iI (x7)))]) hx hb dX13_substitutes_246 hl (by decide) rfl (fun ls hl => ?_)
        refine e_aload_n (B := B) (x := x0) hx hb dX13_substitutes_248 rfl (hl.at 1 rfl) ?_
        obtain ⟨v249, h249, hsh⟩ := Option.bind_eq_some_iff.mp hsh
        refine e_getR (k := 3) hx hb hts in_X13 hown hp h249 rfl (by decide) (by decide) rfl (hts _ kf13_17) rfl dX13_substitutes_249 ?_
        refine lv_iload hx hb dX13_substitutes_252 (hl.at 8 rfl) ?_
        refine lv_iload hx hb dX13_substitutes_254 (hl.at 0 rfl) ?_
        refine lv_iconst (v := iI (-1)) hx hb dX13_substitutes_256 rfl ?_
        refine e_icmp_ne (tgt := 270) hx hb dX13_substitutes_257 (by decide) (fun c257 => ?_) (fun c257 => ?_)
        · rw [if_neg c257] at hsh
          refine lv_iload hx hb dX13_substitutes_270 (hl.at 0 rfl) ?_
          exact w13_substitutes_b272 (hk221 := hk221) E hp hS (hl.sub [1, 2, 3, 4, 5, 6, 7, 8, 0] rfl) hsh
        · rw [if_pos c257] at hsh
          refine e_aload_n (B := B) (x := x0) hx hb dX13_substitutes_260 rfl (hl.at 1 rfl) ?_
          obtain ⟨v261, h261, hsh⟩ := Option.bind_eq_some_iff.mp hsh
          refine e_getR (k := 3) hx hb hts in_X13 hown hp h261 rfl (by decide) (by decide) rfl (hts _ kf13_17) rfl dX13_substitutes_261 ?_
          refine lv_iload hx hb dX13_substitutes_264 (hl.at 8 rfl) ?_
          obtain ⟨v266, h266, hsh⟩ := Option.bind_eq_some_iff.mp hsh
          refine e_iald hx hb hp h266 dX13_substitutes_266 ?_
          refine lv_goto (tgt := 272) hx hb dX13_substitutes_267 (by decide) ?_
          exact w13_substitutes_b272 (hk221 := hk221) E hp hS (hl.sub [1, 2, 3, 4, 5, 6, 7, 8, 0] rfl) hsh
set_option maxRecDepth 100000 in
set_option maxHeartbeats 4000000 in
theorem w13_substitutes_b207 {p : Program} {l : Launch} {e : Env} {s : State} {m : MethodId} {args : Array Value} {below : List Frame} {meth : Method} {c : Code} {D : va_G} {cA : Nat → ClassId} {B : Nat} {res : Int × HP} {k153 : HP → Int → Int → Int → Int → Int → Int → Int → Int → Option (Int × HP)} (hk153 : ∀ {ls : Array Slot} {H : Heap} {locs : List Loc} {S : HP} {x0 : Int} {x1 : Int} {x2 : Int} {x3 : Int} {x4 : Int} {x5 : Int} {x6 : Int} {x7 : Int} (hp : e_Pic D cA B S s H) (hS : va_S (e_A B) s.heap H locs) (hl : e_lo ls 10 [(0, e_rv B (x0)), (1, .int (iI (x1))), (2, .int (iI (x2))), (3, .int (iI (x3))), (4, .int (iI (x4))), (5, .int (iI (x5))), (6, .int (iI (x6))), (7, .int (iI (x7)))]) (hsh : k153 S x0 x1 x2 x3 x4 x5 x6 x7 = some res), W p l e ({ frames := 3, cells := 0, slots := 0, locals := 77 } : Room) s m args below meth c H locs 0 0 (MQ below (e_Qi D cA B res.1 res.2) args s 0 0 (e_A B)) (F0 m 153 ls [])) (E : e_En p s m args meth c cX13_substitutes RX13 10 (some .boolean)) {ls : Array Slot} {H : Heap} {locs : List Loc} {S : HP} {x0 : Int} {x1 : Int} {x2 : Int} {x3 : Int} {x4 : Int} {x5 : Int} {x7 : Int} {y0 : Int} (hp : e_Pic D cA B S s H) (hS : va_S (e_A B) s.heap H locs) (hl : e_lo ls 10 [(0, e_rv B (x0)), (1, .int (iI (x1))), (2, .int (iI (x2))), (3, .int (iI (x3))), (4, .int (iI (x4))), (5, .int (iI (x5))), (7, .int (iI (x7)))]) (hsh : s13_substitutes_b207 k153 S x0 x1 x2 x3 x4 x5 x7 y0 = some res) : W p l e ({ frames := 3, cells := 0, slots := 0, locals := 77 } : Room) s m args below meth c H locs 0 0 (MQ below (e_Qi D cA B res.1 res.2) args s 0 0 (e_A B)) (F0 m 207 ls [.int (iI (y0))]) := by
  obtain ⟨hx, hb, hml, hown, hts, hlk, hrt⟩ := id E
  unfold s13_substitutes_b207 at hsh
  refine e_istore (lv' := [(6, .int (iI (y0))), (0, e_rv B (x0)), (1, .int (iI (x1))), (2, .int (iI (x2))), (3, .int (iI (x3))), (4, .int (iI (x4))), (5, .int (iI (x5))), (7, .int (iI (x7)))]) hx hb dX13_substitutes_207 hl (by decide) rfl (fun ls hl => ?_)
  refine e_iinc (n := 1) (x := x7) (lv' := [(7, .int (iI ((x7 + 1)))), (6, .int (iI (y0))), (0, e_rv B (x0)), (1, .int (iI (x1))), (2, .int (iI (x2))), (3, .int (iI (x3))), (4, .int (iI (x4))), (5, .int (iI (x5)))]) hx hb dX13_substitutes_209 hl (k := 7) rfl (by decide) rfl (fun ls hl => ?_)
  refine lv_goto (tgt := 153) hx hb dX13_substitutes_212 (by decide) ?_
  exact hk153 hp hS (hl.sub [2, 3, 4, 5, 6, 7, 1, 0] rfl) hsh
set_option maxRecDepth 100000 in
set_option maxHeartbeats 4000000 in
theorem w13_substitutes_b206 {p : Program} {l : Launch} {e : Env} {s : State} {m : MethodId} {args : Array Value} {below : List Frame} {meth : Method} {c : Code} {D : va_G} {cA : Nat → ClassId} {B : Nat} {res : Int × HP} {k153 : HP → Int → Int → Int → Int → Int → Int → Int → Int → Option (Int × HP)} (hk153 : ∀ {ls : Array Slot} {H : Heap} {locs : List Loc} {S : HP} {x0 : Int} {x1 : Int} {x2 : Int} {x3 : Int} {x4 : Int} {x5 : Int} {x6 : Int} {x7 : Int} (hp : e_Pic D cA B S s H) (hS : va_S (e_A B) s.heap H locs) (hl : e_lo ls 10 [(0, e_rv B (x0)), (1, .int (iI (x1))), (2, .int (iI (x2))), (3, .int (iI (x3))), (4, .int (iI (x4))), (5, .int (iI (x5))), (6, .int (iI (x6))), (7, .int (iI (x7)))]) (hsh : k153 S x0 x1 x2 x3 x4 x5 x6 x7 = some res), W p l e ({ frames := 3, cells := 0, slots := 0, locals := 77 } : Room) s m args below meth c H locs 0 0 (MQ below (e_Qi D cA B res.1 res.2) args s 0 0 (e_A B)) (F0 m 153 ls [])) (E : e_En p s m args meth c cX13_substitutes RX13 10 (some .boolean)) {ls : Array Slot} {H : Heap} {locs : List Loc} {S : HP} {x0 : Int} {x1 : Int} {x2 : Int} {x3 : Int} {x4 : Int} {x5 : Int} {x7 : Int} (hp : e_Pic D cA B S s H) (hS : va_S (e_A B) s.heap H locs) (hl : e_lo ls 10 [(0, e_rv B (x0)), (1, .int (iI (x1))), (2, .int (iI (x2))), (3, .int (iI (x3))), (4, .int (iI (x4))), (5, .int (iI (x5))), (7, .int (iI (x7)))]) (hsh : s13_substitutes_b206 k153 S x0 x1 x2 x3 x4 x5 x7 = some res) : W p l e ({ frames := 3, cells := 0, slots := 0, locals := 77 } : Room) s m args below meth c H locs 0 0 (MQ below (e_Qi D cA B res.1 res.2) args s 0 0 (e_A B)) (F0 m 206 ls []) := by
  obtain ⟨hx, hb, hml, hown, hts, hlk, hrt⟩ := id E
  unfold s13_substitutes_b206 at hsh
  refine lv_iconst (v := iI (0)) hx hb dX13_substitutes_206 rfl ?_
  exact w13_substitutes_b207 (hk153 := hk153) E hp hS (hl.sub [0, 1, 2, 3, 4, 5, 6] rfl) hsh
set_option maxRecDepth 100000 in
set_option maxHeartbeats 4000000 in
theorem w13_substitutes_b188 {p : Program} {l : Launch} {e : Env} {s : State} {m : MethodId} {args : Array Value} {below : List Frame} {meth : Method} {c : Code} {D : va_G} {cA : Nat → ClassId} {B : Nat} {res : Int × HP} {k153 : HP → Int → Int → Int → Int → Int → Int → Int → Int → Option (Int × HP)} (hk153 : ∀ {ls : Array Slot} {H : Heap} {locs : List Loc} {S : HP} {x0 : Int} {x1 : Int} {x2 : Int} {x3 : Int} {x4 : Int} {x5 : Int} {x6 : Int} {x7 : Int} (hp : e_Pic D cA B S s H) (hS : va_S (e_A B) s.heap H locs) (hl : e_lo ls 10 [(0, e_rv B (x0)), (1, .int (iI (x1))), (2, .int (iI (x2))), (3, .int (iI (x3))), (4, .int (iI (x4))), (5, .int (iI (x5))), (6, .int (iI (x6))), (7, .int (iI (x7)))]) (hsh : k153 S x0 x1 x2 x3 x4 x5 x6 x7 = some res), W p l e ({ frames := 3, cells := 0, slots := 0, locals := 77 } : Room) s m args below meth c H locs 0 0 (MQ below (e_Qi D cA B res.1 res.2) args s 0 0 (e_A B)) (F0 m 153 ls [])) (E : e_En p s m args meth c cX13_substitutes RX13 10 (some .boolean)) {ls : Array Slot} {H : Heap} {locs : List Loc} {S : HP} {x0 : Int} {x1 : Int} {x2 : Int} {x3 : Int} {x4 : Int} {x6 : Int} {x7 : Int} {x8 : Int} {y0 : Int} (hp : e_Pic D cA B S s H) (hS : va_S (e_A B) s.heap H locs) (hl : e_lo ls 10 [(0, e_rv B (x0)), (1, .int (iI (x1))), (2, .int (iI (x2))), (3, .int (iI (x3))), (4, .int (iI (x4))), (6, .int (iI (x6))), (7, .int (iI (x7))), (8, .int (iI (x8)))]) (hsh : s13_substitutes_b188 k153 S x0 x1 x2 x3 x4 x6 x7 x8 y0 = some res) : W p l e ({ frames := 3, cells := 0, slots := 0, locals := 77 } : Room) s m args below meth c H locs 0 0 (MQ below (e_Qi D cA B res.1 res.2) args s 0 0 (e_A B)) (F0 m 188 ls [.int (iI (y0))]) := by
  obtain ⟨hx, hb, hml, hown, hts, hlk, hrt⟩ := id E
  unfold s13_substitutes_b188 at hsh
  refine e_istore (lv' := [(5, .int (iI (y0))), (0, e_rv B (x0)), (1, .int (iI (x1))), (2, .int (iI (x2))), (3, .int (iI (x3))), (4, .int (iI (x4))), (6, .int (iI (x6))), (7, .int (iI (x7))), (8, .int (iI (x8)))]) hx hb dX13_substitutes_188 hl (by decide) rfl (fun ls hl => ?_)
  refine lv_iload hx hb dX13_substitutes_190 (hl.at 6 rfl) ?_
  refine e_if_eq (tgt := 206) hx hb dX13_substitutes_192 (by decide) (fun c192 => ?_) (fun c192 => ?_)
  · rw [if_pos c192] at hsh
    exact w13_substitutes_b206 (hk153 := hk153) E hp hS (hl.sub [1, 2, 3, 4, 5, 0, 7] rfl) hsh
  · rw [if_neg c192] at hsh
    refine lv_iload hx hb dX13_substitutes_195 (hl.at 8 rfl) ?_
    refine lv_bipush (v := iI (60)) hx hb dX13_substitutes_197 (by decide +kernel) ?_
    refine e_icmp_gt (tgt := 206) hx hb dX13_substitutes_199 (by decide) (fun c199 => ?_) (fun c199 => ?_)
    · rw [if_pos c199] at hsh
      exact w13_substitutes_b206 (hk153 := hk153) E hp hS (hl.sub [1, 2, 3, 4, 5, 0, 7] rfl) hsh
    · rw [if_neg c199] at hsh
      refine lv_iconst (v := iI (1)) hx hb dX13_substitutes_202 rfl ?_
      refine lv_goto (tgt := 207) hx hb dX13_substitutes_203 (by decide) ?_
      exact w13_substitutes_b207 (hk153 := hk153) E hp hS (hl.sub [1, 2, 3, 4, 5, 0, 7] rfl) hsh
set_option maxRecDepth 100000 in
set_option maxHeartbeats 4000000 in
theorem w13_substitutes_l153 {p : Program} {l : Launch} {e : Env} {s : State} {m : MethodId} {args : Array Value} {below : List Frame} {meth : Method} {c : Code} {D : va_G} {cA : Nat → ClassId} {B : Nat} {res : Int × HP} (E : e_En p s m args meth c cX13_substitutes RX13 10 (some .boolean)) : ∀ (f : Nat) {ls : Array Slot} {H : Heap} {locs : List Loc} {S : HP} {x0 : Int} {x1 : Int} {x2 : Int} {x3 : Int} {x4 : Int} {x5 : Int} {x6 : Int} {x7 : Int} (hp : e_Pic D cA B S s H) (hS : va_S (e_A B) s.heap H locs) (hl : e_lo ls 10 [(0, e_rv B (x0)), (1, .int (iI (x1))), (2, .int (iI (x2))), (3, .int (iI (x3))), (4, .int (iI (x4))), (5, .int (iI (x5))), (6, .int (iI (x6))), (7, .int (iI (x7)))]) (hsh : s13_substitutes_l153 f S x0 x1 x2 x3 x4 x5 x6 x7 = some res), W p l e ({ frames := 3, cells := 0, slots := 0, locals := 77 } : Room) s m args below meth c H locs 0 0 (MQ below (e_Qi D cA B res.1 res.2) args s 0 0 (e_A B)) (F0 m 153 ls []) := by
  obtain ⟨hx, hb, hml, hown, hts, hlk, hrt⟩ := id E
  intro f
  induction f with
  | zero => intro ls H locs S x0 x1 x2 x3 x4 x5 x6 x7 hp hS hl hsh; cases hsh
  | succ f ih =>
    intro ls H locs S x0 x1 x2 x3 x4 x5 x6 x7 hp hS hl hsh
    have hk153 : ∀ {ls : Array Slot} {H : Heap} {locs : List Loc} {S : HP} {x0 : Int} {x1 : Int} {x2 : Int} {x3 : Int} {x4 : Int} {x5 : Int} {x6 : Int} {x7 : Int} (hp : e_Pic D cA B S s H) (hS : va_S (e_A B) s.heap H locs) (hl : e_lo ls 10 [(0, e_rv B (x0)), (1, .int (iI (x1))), (2, .int (iI (x2))), (3, .int (iI (x3))), (4, .int (iI (x4))), (5, .int (iI (x5))), (6, .int (iI (x6))), (7, .int (iI (x7)))]) (hsh : (s13_substitutes_l153 f) S x0 x1 x2 x3 x4 x5 x6 x7 = some res), W p l e ({ frames := 3, cells := 0, slots := 0, locals := 77 } : Room) s m args below meth c H locs 0 0 (MQ below (e_Qi D cA B res.1 res.2) args s 0 0 (e_A B)) (F0 m 153 ls []) := ih
    generalize hkk : s13_substitutes_l153 f = k153 at hk153
    rw [s13_substitutes_l153] at hsh
    rw [hkk] at hsh
    try dsimp only at hsh
    refine lv_iload hx hb dX13_substitutes_153 (hl.at 7 rfl) ?_
    refine e_aload_n (B := B) (x := x0) hx hb dX13_substitutes_155 rfl (hl.at 0 rfl) ?_
    obtain ⟨v156, h156, hsh⟩ := Option.bind_eq_some_iff.mp hsh
    refine e_getI (k := 109) hx hb hts in_X13 hown hp h156 rfl (by decide) (by decide) rfl (hts _ kf13_873) rfl dX13_substitutes_156 ?_
    refine e_icmp_gt (tgt := 215) hx hb dX13_substitutes_159 (by decide) (fun c159 => ?_) (fun c159 => ?_)
    · rw [if_pos c159] at hsh
      refine e_aload_n (B := B) (x := x0) hx hb dX13_substitutes_215 rfl (hl.at 0 rfl) ?_
      obtain ⟨v216, h216, hsh⟩ := Option.bind_eq_some_iff.mp hsh
      refine e_getI (k := 108) hx hb hts in_X13 hown hp h216 rfl (by decide) (by decide) rfl (hts _ kf13_870) rfl dX13_substitutes_216 ?_
      refine e_istore (lv' := [(7, .int (iI (v216))), (0, e_rv B (x0)), (1, .int (iI (x1))), (2, .int (iI (x2))), (3, .int (iI (x3))), (4, .int (iI (x4))), (5, .int (iI (x5))), (6, .int (iI (x6)))]) hx hb dX13_substitutes_219 hl (by decide) rfl (fun ls hl => ?_)
      exact w13_substitutes_l221 E 1000000 hp hS (hl.sub [1, 2, 3, 4, 5, 6, 7, 0] rfl) hsh
    · rw [if_neg c159] at hsh
      refine e_aload_n (B := B) (x := x0) hx hb dX13_substitutes_162 rfl (hl.at 0 rfl) ?_
      refine lv_iload hx hb dX13_substitutes_163 (hl.at 7 rfl) ?_
      refine lv_iload_n hx hb dX13_substitutes_165 rfl (hl.at 1 rfl) ?_
      refine lv_iload_n hx hb dX13_substitutes_166 rfl (hl.at 2 rfl) ?_
      refine lv_iload_n hx hb dX13_substitutes_167 rfl (hl.at 3 rfl) ?_
      refine lv_iload hx hb dX13_substitutes_168 (hl.at 4 rfl) ?_
      obtain ⟨⟨v170, S170⟩, h170, hsh⟩ := Option.bind_eq_some_iff.mp hsh
      have hsh : _ = _ := hsh
      try dsimp only at hsh
      have ok170 := ok13_replacedLine h170
      refine e_callI (nL := 10) (mc := 0) (ms := 0) (T := TX13) (N := 126) (As := [.int (iI (x7)), .int (iI (x1)), .int (iI (x2)), .int (iI (x3)), .int (iI (x4))]) (rest := []) hx hb hml hown hts hp hS hl.size ok170.1 ok170.2.1 ok170.2.2 rfl (by decide) (c13_replacedLine l D cA B S S170 (x0) (x7) (x1) (x2) (x3) (x4) v170 h170) rfl rfl kd13_replacedLine (kl13_898) ks13_replacedLine kv13_replacedLine ki13 kh13_replacedLine ⟨Nat.le_of_ble_eq_true rfl, Nat.le_of_ble_eq_true rfl⟩ rfl (by simp [e_rv_cat, e_int_cat]) ⟨Nat.le_refl _, Nat.le_refl _⟩ dX13_substitutes_170 rfl (fun H locs hp hS => ?_)
      refine e_istore (lv' := [(8, .int (iI (v170))), (0, e_rv B (x0)), (1, .int (iI (x1))), (2, .int (iI (x2))), (3, .int (iI (x3))), (4, .int (iI (x4))), (5, .int (iI (x5))), (6, .int (iI (x6))), (7, .int (iI (x7)))]) hx hb dX13_substitutes_173 hl (by decide) rfl (fun ls hl => ?_)
      refine lv_iload hx hb dX13_substitutes_175 (hl.at 0 rfl) ?_
      refine lv_iconst (v := iI (-1)) hx hb dX13_substitutes_177 rfl ?_
      refine e_icmp_ne (tgt := 186) hx hb dX13_substitutes_178 (by decide) (fun c178 => ?_) (fun c178 => ?_)
      · rw [if_neg c178] at hsh
        refine lv_iload hx hb dX13_substitutes_186 (hl.at 8 rfl) ?_
        exact w13_substitutes_b188 (hk153 := hk153) E hp hS (hl.sub [1, 2, 3, 4, 5, 7, 8, 0] rfl) hsh
      · rw [if_pos c178] at hsh
        refine lv_iload hx hb dX13_substitutes_181 (hl.at 6 rfl) ?_
        refine lv_goto (tgt := 188) hx hb dX13_substitutes_183 (by decide) ?_
        exact w13_substitutes_b188 (hk153 := hk153) E hp hS (hl.sub [1, 2, 3, 4, 5, 7, 8, 0] rfl) hsh
set_option maxRecDepth 100000 in
set_option maxHeartbeats 4000000 in
theorem w13_substitutes_b131 {p : Program} {l : Launch} {e : Env} {s : State} {m : MethodId} {args : Array Value} {below : List Frame} {meth : Method} {c : Code} {D : va_G} {cA : Nat → ClassId} {B : Nat} {res : Int × HP} (E : e_En p s m args meth c cX13_substitutes RX13 10 (some .boolean)) {ls : Array Slot} {H : Heap} {locs : List Loc} {S : HP} {x0 : Int} {x1 : Int} {x2 : Int} {x3 : Int} {x4 : Int} {y0 : Int} {y1 : Int} (hp : e_Pic D cA B S s H) (hS : va_S (e_A B) s.heap H locs) (hl : e_lo ls 10 [(0, e_rv B (x0)), (1, .int (iI (x1))), (2, .int (iI (x2))), (3, .int (iI (x3))), (4, .int (iI (x4)))]) (hsh : s13_substitutes_b131 S x0 x1 x2 x3 x4 y0 y1 = some res) : W p l e ({ frames := 3, cells := 0, slots := 0, locals := 77 } : Room) s m args below meth c H locs 0 0 (MQ below (e_Qi D cA B res.1 res.2) args s 0 0 (e_A B)) (F0 m 131 ls [.int (iI (y1)), .int (iI (y0))]) := by
  obtain ⟨hx, hb, hml, hown, hts, hlk, hrt⟩ := id E
  unfold s13_substitutes_b131 at hsh
  refine e_iadd hx hb dX13_substitutes_131 ?_
  refine e_aload_n (B := B) (x := x0) hx hb dX13_substitutes_132 rfl (hl.at 0 rfl) ?_
  obtain ⟨v133, h133, hsh⟩ := Option.bind_eq_some_iff.mp hsh
  refine e_getI (k := 104) hx hb hts in_X13 hown hp h133 rfl (by decide) (by decide) rfl (hts _ kf13_858) rfl dX13_substitutes_133 ?_
  refine e_icmp_eq (tgt := 141) hx hb dX13_substitutes_136 (by decide) (fun c136 => ?_) (fun c136 => ?_)
  · rw [if_pos c136] at hsh
    refine lv_iconst (v := iI (-1)) hx hb dX13_substitutes_141 rfl ?_
    refine e_istore (lv' := [(5, .int (iI ((-1)))), (0, e_rv B (x0)), (1, .int (iI (x1))), (2, .int (iI (x2))), (3, .int (iI (x3))), (4, .int (iI (x4)))]) hx hb dX13_substitutes_142 hl (by decide) rfl (fun ls hl => ?_)
    refine lv_iconst (v := iI (1)) hx hb dX13_substitutes_144 rfl ?_
    refine e_istore (lv' := [(6, .int (iI (1))), (5, .int (iI ((-1)))), (0, e_rv B (x0)), (1, .int (iI (x1))), (2, .int (iI (x2))), (3, .int (iI (x3))), (4, .int (iI (x4)))]) hx hb dX13_substitutes_145 hl (by decide) rfl (fun ls hl => ?_)
    refine e_aload_n (B := B) (x := x0) hx hb dX13_substitutes_147 rfl (hl.at 2 rfl) ?_
    obtain ⟨v148, h148, hsh⟩ := Option.bind_eq_some_iff.mp hsh
    refine e_getI (k := 108) hx hb hts in_X13 hown hp h148 rfl (by decide) (by decide) rfl (hts _ kf13_870) rfl dX13_substitutes_148 ?_
    refine e_istore (lv' := [(7, .int (iI (v148))), (6, .int (iI (1))), (5, .int (iI ((-1)))), (0, e_rv B (x0)), (1, .int (iI (x1))), (2, .int (iI (x2))), (3, .int (iI (x3))), (4, .int (iI (x4)))]) hx hb dX13_substitutes_151 hl (by decide) rfl (fun ls hl => ?_)
    exact w13_substitutes_l153 E 1000000 hp hS (hl.sub [3, 4, 5, 6, 7, 2, 1, 0] rfl) hsh
  · rw [if_neg c136] at hsh
    exact w13_substitutes_b139 E hp hS (hl.sub [] rfl) hsh
set_option maxRecDepth 100000 in
set_option maxHeartbeats 4000000 in
theorem w13_substitutes_b80 {p : Program} {l : Launch} {e : Env} {s : State} {m : MethodId} {args : Array Value} {below : List Frame} {meth : Method} {c : Code} {D : va_G} {cA : Nat → ClassId} {B : Nat} {res : Int × HP} (E : e_En p s m args meth c cX13_substitutes RX13 10 (some .boolean)) {ls : Array Slot} {H : Heap} {locs : List Loc} {S : HP} {x0 : Int} {x1 : Int} {x2 : Int} {x3 : Int} {y0 : Int} (hp : e_Pic D cA B S s H) (hS : va_S (e_A B) s.heap H locs) (hl : e_lo ls 10 [(0, e_rv B (x0)), (1, .int (iI (x1))), (2, .int (iI (x2))), (3, .int (iI (x3)))]) (hsh : s13_substitutes_b80 S x0 x1 x2 x3 y0 = some res) : W p l e ({ frames := 3, cells := 0, slots := 0, locals := 77 } : Room) s m args below meth c H locs 0 0 (MQ below (e_Qi D cA B res.1 res.2) args s 0 0 (e_A B)) (F0 m 80 ls [.int (iI (y0))]) := by
  obtain ⟨hx, hb, hml, hown, hts, hlk, hrt⟩ := id E
  unfold s13_substitutes_b80 at hsh
  refine e_istore (lv' := [(4, .int (iI (y0))), (0, e_rv B (x0)), (1, .int (iI (x1))), (2, .int (iI (x2))), (3, .int (iI (x3)))]) hx hb dX13_substitutes_80 hl (by decide) rfl (fun ls hl => ?_)
  refine e_aload_n (B := B) (x := x0) hx hb dX13_substitutes_82 rfl (hl.at 1 rfl) ?_
  refine e_aload_n (B := B) (x := x0) hx hb dX13_substitutes_83 rfl (hl.at 1 rfl) ?_
  obtain ⟨v84, h84, hsh⟩ := Option.bind_eq_some_iff.mp hsh
  refine e_getI (k := 105) hx hb hts in_X13 hown hp h84 rfl (by decide) (by decide) rfl (hts _ kf13_861) rfl dX13_substitutes_84 ?_
  obtain ⟨⟨v87, S87⟩, h87, hsh⟩ := Option.bind_eq_some_iff.mp hsh
  have hsh : _ = _ := hsh
  try dsimp only at hsh
  have ok87 := ok13_codeAt h87
  refine e_callI (nL := 10) (mc := 0) (ms := 0) (T := TX13) (N := 126) (As := [.int (iI (v84))]) (rest := []) hx hb hml hown hts hp hS hl.size ok87.1 ok87.2.1 ok87.2.2 rfl (by decide) (c13_codeAt l D cA B S S87 (x0) (v84) v87 h87) rfl rfl kd13_codeAt (kl13_864) ks13_codeAt kv13_codeAt ki13 kh13_codeAt ⟨Nat.le_of_ble_eq_true rfl, Nat.le_of_ble_eq_true rfl⟩ rfl (by simp [e_rv_cat, e_int_cat]) ⟨Nat.le_refl _, Nat.le_refl _⟩ dX13_substitutes_87 rfl (fun H locs hp hS => ?_)
  refine lv_bipush (v := iI (47)) hx hb dX13_substitutes_90 (by decide +kernel) ?_
  refine e_icmp_ne (tgt := 139) hx hb dX13_substitutes_92 (by decide) (fun c92 => ?_) (fun c92 => ?_)
  · rw [if_neg c92] at hsh
    exact w13_substitutes_b139 E hp hS (hl.sub [] rfl) hsh
  · rw [if_pos c92] at hsh
    refine e_aload_n (B := B) (x := x0) hx hb dX13_substitutes_95 rfl (hl.at 1 rfl) ?_
    refine lv_iload_n hx hb dX13_substitutes_96 rfl (hl.at 3 rfl) ?_
    obtain ⟨⟨v97, S97⟩, h97, hsh⟩ := Option.bind_eq_some_iff.mp hsh
    have hsh : _ = _ := hsh
    try dsimp only at hsh
    have ok97 := ok13_codeAt h97
    refine e_callI (nL := 10) (mc := 0) (ms := 0) (T := TX13) (N := 126) (As := [.int (iI (x2))]) (rest := []) hx hb hml hown hts hp hS hl.size ok97.1 ok97.2.1 ok97.2.2 rfl (by decide) (c13_codeAt l D cA B S87 S97 (x0) (x2) v97 h97) rfl rfl kd13_codeAt (kl13_864) ks13_codeAt kv13_codeAt ki13 kh13_codeAt ⟨Nat.le_of_ble_eq_true rfl, Nat.le_of_ble_eq_true rfl⟩ rfl (by simp [e_rv_cat, e_int_cat]) ⟨Nat.le_refl _, Nat.le_refl _⟩ dX13_substitutes_97 rfl (fun H locs hp hS => ?_)
    refine lv_bipush (v := iI (47)) hx hb dX13_substitutes_100 (by decide +kernel) ?_
    refine e_icmp_ne (tgt := 139) hx hb dX13_substitutes_102 (by decide) (fun c102 => ?_) (fun c102 => ?_)
    · rw [if_neg c102] at hsh
      exact w13_substitutes_b139 E hp hS (hl.sub [] rfl) hsh
    · rw [if_pos c102] at hsh
      refine e_aload_n (B := B) (x := x0) hx hb dX13_substitutes_105 rfl (hl.at 1 rfl) ?_
      refine lv_iload_n hx hb dX13_substitutes_106 rfl (hl.at 4 rfl) ?_
      obtain ⟨⟨v107, S107⟩, h107, hsh⟩ := Option.bind_eq_some_iff.mp hsh
      have hsh : _ = _ := hsh
      try dsimp only at hsh
      have ok107 := ok13_codeAt h107
      refine e_callI (nL := 10) (mc := 0) (ms := 0) (T := TX13) (N := 126) (As := [.int (iI (x3))]) (rest := []) hx hb hml hown hts hp hS hl.size ok107.1 ok107.2.1 ok107.2.2 rfl (by decide) (c13_codeAt l D cA B S97 S107 (x0) (x3) v107 h107) rfl rfl kd13_codeAt (kl13_864) ks13_codeAt kv13_codeAt ki13 kh13_codeAt ⟨Nat.le_of_ble_eq_true rfl, Nat.le_of_ble_eq_true rfl⟩ rfl (by simp [e_rv_cat, e_int_cat]) ⟨Nat.le_refl _, Nat.le_refl _⟩ dX13_substitutes_107 rfl (fun H locs hp hS => ?_)
      refine lv_bipush (v := iI (47)) hx hb dX13_substitutes_110 (by decide +kernel) ?_
      refine e_icmp_ne (tgt := 139) hx hb dX13_substitutes_112 (by decide) (fun c112 => ?_) (fun c112 => ?_)
      · rw [if_neg c112] at hsh
        exact w13_substitutes_b139 E hp hS (hl.sub [] rfl) hsh
      · rw [if_pos c112] at hsh
        refine lv_iload_n hx hb dX13_substitutes_115 rfl (hl.at 3 rfl) ?_
        refine lv_iload_n hx hb dX13_substitutes_116 rfl (hl.at 2 rfl) ?_
        refine e_icmp_eq (tgt := 139) hx hb dX13_substitutes_117 (by decide) (fun c117 => ?_) (fun c117 => ?_)
        · rw [if_pos c117] at hsh
          exact w13_substitutes_b139 E hp hS (hl.sub [] rfl) hsh
        · rw [if_neg c117] at hsh
          refine lv_iload_n hx hb dX13_substitutes_120 rfl (hl.at 4 rfl) ?_
          refine lv_iload hx hb dX13_substitutes_121 (hl.at 0 rfl) ?_
          refine e_if_eq (tgt := 130) hx hb dX13_substitutes_123 (by decide) (fun c123 => ?_) (fun c123 => ?_)
          · rw [if_pos c123] at hsh
            refine lv_iconst (v := iI (1)) hx hb dX13_substitutes_130 rfl ?_
            exact w13_substitutes_b131 E hp hS (hl.sub [1, 2, 3, 4, 0] rfl) hsh
          · rw [if_neg c123] at hsh
            refine lv_iconst (v := iI (2)) hx hb dX13_substitutes_126 rfl ?_
            refine lv_goto (tgt := 131) hx hb dX13_substitutes_127 (by decide) ?_
            exact w13_substitutes_b131 E hp hS (hl.sub [1, 2, 3, 4, 0] rfl) hsh
set_option maxRecDepth 100000 in
set_option maxHeartbeats 4000000 in
theorem w13_substitutes_b63 {p : Program} {l : Launch} {e : Env} {s : State} {m : MethodId} {args : Array Value} {below : List Frame} {meth : Method} {c : Code} {D : va_G} {cA : Nat → ClassId} {B : Nat} {res : Int × HP} (E : e_En p s m args meth c cX13_substitutes RX13 10 (some .boolean)) {ls : Array Slot} {H : Heap} {locs : List Loc} {S : HP} {x0 : Int} {x1 : Int} {x2 : Int} {x3 : Int} (hp : e_Pic D cA B S s H) (hS : va_S (e_A B) s.heap H locs) (hl : e_lo ls 10 [(0, e_rv B (x0)), (1, .int (iI (x1))), (2, .int (iI (x2))), (3, .int (iI (x3)))]) (hsh : s13_substitutes_b63 S x0 x1 x2 x3 = some res) : W p l e ({ frames := 3, cells := 0, slots := 0, locals := 77 } : Room) s m args below meth c H locs 0 0 (MQ below (e_Qi D cA B res.1 res.2) args s 0 0 (e_A B)) (F0 m 63 ls []) := by
  obtain ⟨hx, hb, hml, hown, hts, hlk, hrt⟩ := id E
  unfold s13_substitutes_b63 at hsh
  refine e_aload_n (B := B) (x := x0) hx hb dX13_substitutes_63 rfl (hl.at 0 rfl) ?_
  refine lv_iload_n hx hb dX13_substitutes_64 rfl (hl.at 3 rfl) ?_
  refine lv_iconst (v := iI (1)) hx hb dX13_substitutes_65 rfl ?_
  refine e_iadd hx hb dX13_substitutes_66 ?_
  obtain ⟨⟨v67, S67⟩, h67, hsh⟩ := Option.bind_eq_some_iff.mp hsh
  have hsh : _ = _ := hsh
  try dsimp only at hsh
  have ok67 := ok13_codeAt h67
  refine e_callI (nL := 10) (mc := 0) (ms := 0) (T := TX13) (N := 126) (As := [.int (iI ((x3 + 1)))]) (rest := []) hx hb hml hown hts hp hS hl.size ok67.1 ok67.2.1 ok67.2.2 rfl (by decide) (c13_codeAt l D cA B S S67 (x0) ((x3 + 1)) v67 h67) rfl rfl kd13_codeAt (kl13_864) ks13_codeAt kv13_codeAt ki13 kh13_codeAt ⟨Nat.le_of_ble_eq_true rfl, Nat.le_of_ble_eq_true rfl⟩ rfl (by simp [e_rv_cat, e_int_cat]) ⟨Nat.le_refl _, Nat.le_refl _⟩ dX13_substitutes_67 rfl (fun H locs hp hS => ?_)
  refine lv_bipush (v := iI (103)) hx hb dX13_substitutes_70 (by decide +kernel) ?_
  refine e_icmp_ne (tgt := 79) hx hb dX13_substitutes_72 (by decide) (fun c72 => ?_) (fun c72 => ?_)
  · rw [if_neg c72] at hsh
    refine lv_iconst (v := iI (0)) hx hb dX13_substitutes_79 rfl ?_
    exact w13_substitutes_b80 E hp hS (hl.sub [0, 1, 2, 3] rfl) hsh
  · rw [if_pos c72] at hsh
    refine lv_iconst (v := iI (1)) hx hb dX13_substitutes_75 rfl ?_
    refine lv_goto (tgt := 80) hx hb dX13_substitutes_76 (by decide) ?_
    exact w13_substitutes_b80 E hp hS (hl.sub [0, 1, 2, 3] rfl) hsh
set_option maxRecDepth 100000 in
set_option maxHeartbeats 4000000 in
theorem w13_substitutes_l38 {p : Program} {l : Launch} {e : Env} {s : State} {m : MethodId} {args : Array Value} {below : List Frame} {meth : Method} {c : Code} {D : va_G} {cA : Nat → ClassId} {B : Nat} {res : Int × HP} (E : e_En p s m args meth c cX13_substitutes RX13 10 (some .boolean)) : ∀ (f : Nat) {ls : Array Slot} {H : Heap} {locs : List Loc} {S : HP} {x0 : Int} {x1 : Int} {x2 : Int} {x3 : Int} (hp : e_Pic D cA B S s H) (hS : va_S (e_A B) s.heap H locs) (hl : e_lo ls 10 [(0, e_rv B (x0)), (1, .int (iI (x1))), (2, .int (iI (x2))), (3, .int (iI (x3)))]) (hsh : s13_substitutes_l38 f S x0 x1 x2 x3 = some res), W p l e ({ frames := 3, cells := 0, slots := 0, locals := 77 } : Room) s m args below meth c H locs 0 0 (MQ below (e_Qi D cA B res.1 res.2) args s 0 0 (e_A B)) (F0 m 38 ls []) := by
  obtain ⟨hx, hb, hml, hown, hts, hlk, hrt⟩ := id E
  intro f
  induction f with
  | zero => intro ls H locs S x0 x1 x2 x3 hp hS hl hsh; cases hsh
  | succ f ih =>
    intro ls H locs S x0 x1 x2 x3 hp hS hl hsh
    have hk38 : ∀ {ls : Array Slot} {H : Heap} {locs : List Loc} {S : HP} {x0 : Int} {x1 : Int} {x2 : Int} {x3 : Int} (hp : e_Pic D cA B S s H) (hS : va_S (e_A B) s.heap H locs) (hl : e_lo ls 10 [(0, e_rv B (x0)), (1, .int (iI (x1))), (2, .int (iI (x2))), (3, .int (iI (x3)))]) (hsh : (s13_substitutes_l38 f) S x0 x1 x2 x3 = some res), W p l e ({ frames := 3, cells := 0, slots := 0, locals := 77 } : Room) s m args below meth c H locs 0 0 (MQ below (e_Qi D cA B res.1 res.2) args s 0 0 (e_A B)) (F0 m 38 ls []) := ih
    generalize hkk : s13_substitutes_l38 f = k38 at hk38
    rw [s13_substitutes_l38] at hsh
    rw [hkk] at hsh
    try dsimp only at hsh
    refine e_aload_n (B := B) (x := x0) hx hb dX13_substitutes_38 rfl (hl.at 0 rfl) ?_
    refine lv_iload_n hx hb dX13_substitutes_39 rfl (hl.at 3 rfl) ?_
    obtain ⟨⟨v40, S40⟩, h40, hsh⟩ := Option.bind_eq_some_iff.mp hsh
    have hsh : _ = _ := hsh
    try dsimp only at hsh
    have ok40 := ok13_codeAt h40
    refine e_callI (nL := 10) (mc := 0) (ms := 0) (T := TX13) (N := 126) (As := [.int (iI (x3))]) (rest := []) hx hb hml hown hts hp hS hl.size ok40.1 ok40.2.1 ok40.2.2 rfl (by decide) (c13_codeAt l D cA B S S40 (x0) (x3) v40 h40) rfl rfl kd13_codeAt (kl13_864) ks13_codeAt kv13_codeAt ki13 kh13_codeAt ⟨Nat.le_of_ble_eq_true rfl, Nat.le_of_ble_eq_true rfl⟩ rfl (by simp [e_rv_cat, e_int_cat]) ⟨Nat.le_refl _, Nat.le_refl _⟩ dX13_substitutes_40 rfl (fun H locs hp hS => ?_)
    refine lv_bipush (v := iI (47)) hx hb dX13_substitutes_43 (by decide +kernel) ?_
    refine e_icmp_eq (tgt := 63) hx hb dX13_substitutes_45 (by decide) (fun c45 => ?_) (fun c45 => ?_)
    · rw [if_pos c45] at hsh
      exact w13_substitutes_b63 E hp hS (hl.sub [0, 1, 2, 3] rfl) hsh
    · rw [if_neg c45] at hsh
      refine e_aload_n (B := B) (x := x0) hx hb dX13_substitutes_48 rfl (hl.at 0 rfl) ?_
      refine lv_iload_n hx hb dX13_substitutes_49 rfl (hl.at 3 rfl) ?_
      obtain ⟨⟨v50, S50⟩, h50, hsh⟩ := Option.bind_eq_some_iff.mp hsh
      have hsh : _ = _ := hsh
      try dsimp only at hsh
      have ok50 := ok13_codeAt h50
      refine e_callI (nL := 10) (mc := 0) (ms := 0) (T := TX13) (N := 126) (As := [.int (iI (x3))]) (rest := []) hx hb hml hown hts hp hS hl.size ok50.1 ok50.2.1 ok50.2.2 rfl (by decide) (c13_codeAt l D cA B S40 S50 (x0) (x3) v50 h50) rfl rfl kd13_codeAt (kl13_864) ks13_codeAt kv13_codeAt ki13 kh13_codeAt ⟨Nat.le_of_ble_eq_true rfl, Nat.le_of_ble_eq_true rfl⟩ rfl (by simp [e_rv_cat, e_int_cat]) ⟨Nat.le_refl _, Nat.le_refl _⟩ dX13_substitutes_50 rfl (fun H locs hp hS => ?_)
      refine lv_iconst (v := iI (-1)) hx hb dX13_substitutes_53 rfl ?_
      refine e_icmp_eq (tgt := 63) hx hb dX13_substitutes_54 (by decide) (fun c54 => ?_) (fun c54 => ?_)
      · rw [if_pos c54] at hsh
        exact w13_substitutes_b63 E hp hS (hl.sub [0, 1, 2, 3] rfl) hsh
      · rw [if_neg c54] at hsh
        refine e_iinc (n := 1) (x := x3) (lv' := [(3, .int (iI ((x3 + 1)))), (0, e_rv B (x0)), (1, .int (iI (x1))), (2, .int (iI (x2)))]) hx hb dX13_substitutes_57 hl (k := 3) rfl (by decide) rfl (fun ls hl => ?_)
        refine lv_goto (tgt := 38) hx hb dX13_substitutes_60 (by decide) ?_
        exact hk38 hp hS (hl.sub [1, 2, 3, 0] rfl) hsh
set_option maxRecDepth 100000 in
set_option maxHeartbeats 4000000 in
theorem w13_substitutes_b34 {p : Program} {l : Launch} {e : Env} {s : State} {m : MethodId} {args : Array Value} {below : List Frame} {meth : Method} {c : Code} {D : va_G} {cA : Nat → ClassId} {B : Nat} {res : Int × HP} (E : e_En p s m args meth c cX13_substitutes RX13 10 (some .boolean)) {ls : Array Slot} {H : Heap} {locs : List Loc} {S : HP} {x0 : Int} {x1 : Int} {x2 : Int} (hp : e_Pic D cA B S s H) (hS : va_S (e_A B) s.heap H locs) (hl : e_lo ls 10 [(0, e_rv B (x0)), (1, .int (iI (x1))), (2, .int (iI (x2)))]) (hsh : s13_substitutes_b34 S x0 x1 x2 = some res) : W p l e ({ frames := 3, cells := 0, slots := 0, locals := 77 } : Room) s m args below meth c H locs 0 0 (MQ below (e_Qi D cA B res.1 res.2) args s 0 0 (e_A B)) (F0 m 34 ls []) := by
  obtain ⟨hx, hb, hml, hown, hts, hlk, hrt⟩ := id E
  unfold s13_substitutes_b34 at hsh
  refine lv_iload_n hx hb dX13_substitutes_34 rfl (hl.at 2 rfl) ?_
  refine lv_iconst (v := iI (1)) hx hb dX13_substitutes_35 rfl ?_
  refine e_iadd hx hb dX13_substitutes_36 ?_
  refine e_istore_n (lv' := [(3, .int (iI ((x2 + 1)))), (0, e_rv B (x0)), (1, .int (iI (x1))), (2, .int (iI (x2)))]) hx hb dX13_substitutes_37 rfl hl (by decide) rfl (fun ls hl => ?_)
  exact w13_substitutes_l38 E 1000000 hp hS (hl.sub [1, 2, 3, 0] rfl) hsh
set_option maxRecDepth 100000 in
set_option maxHeartbeats 4000000 in
theorem w13_substitutes_l9 {p : Program} {l : Launch} {e : Env} {s : State} {m : MethodId} {args : Array Value} {below : List Frame} {meth : Method} {c : Code} {D : va_G} {cA : Nat → ClassId} {B : Nat} {res : Int × HP} (E : e_En p s m args meth c cX13_substitutes RX13 10 (some .boolean)) : ∀ (f : Nat) {ls : Array Slot} {H : Heap} {locs : List Loc} {S : HP} {x0 : Int} {x1 : Int} {x2 : Int} (hp : e_Pic D cA B S s H) (hS : va_S (e_A B) s.heap H locs) (hl : e_lo ls 10 [(0, e_rv B (x0)), (1, .int (iI (x1))), (2, .int (iI (x2)))]) (hsh : s13_substitutes_l9 f S x0 x1 x2 = some res), W p l e ({ frames := 3, cells := 0, slots := 0, locals := 77 } : Room) s m args below meth c H locs 0 0 (MQ below (e_Qi D cA B res.1 res.2) args s 0 0 (e_A B)) (F0 m 9 ls []) := by
  obtain ⟨hx, hb, hml, hown, hts, hlk, hrt⟩ := id E
  intro f
  induction f with
  | zero => intro ls H locs S x0 x1 x2 hp hS hl hsh; cases hsh
  | succ f ih =>
    intro ls H locs S x0 x1 x2 hp hS hl hsh
    have hk9 : ∀ {ls : Array Slot} {H : Heap} {locs : List Loc} {S : HP} {x0 : Int} {x1 : Int} {x2 : Int} (hp : e_Pic D cA B S s H) (hS : va_S (e_A B) s.heap H locs) (hl : e_lo ls 10 [(0, e_rv B (x0)), (1, .int (iI (x1))), (2, .int (iI (x2)))]) (hsh : (s13_substitutes_l9 f) S x0 x1 x2 = some res), W p l e ({ frames := 3, cells := 0, slots := 0, locals := 77 } : Room) s m args below meth c H locs 0 0 (MQ below (e_Qi D cA B res.1 res.2) args s 0 0 (e_A B)) (F0 m 9 ls []) := ih
    generalize hkk : s13_substitutes_l9 f = k9 at hk9
    rw [s13_substitutes_l9] at hsh
    rw [hkk] at hsh
    try dsimp only at hsh
    refine e_aload_n (B := B) (x := x0) hx hb dX13_substitutes_9 rfl (hl.at 0 rfl) ?_
    refine lv_iload_n hx hb dX13_substitutes_10 rfl (hl.at 2 rfl) ?_
    obtain ⟨⟨v11, S11⟩, h11, hsh⟩ := Option.bind_eq_some_iff.mp hsh
    have hsh : _ = _ := hsh
    try dsimp only at hsh
    have ok11 := ok13_codeAt h11
    refine e_callI (nL := 10) (mc := 0) (ms := 0) (T := TX13) (N := 126) (As := [.int (iI (x2))]) (rest := []) hx hb hml hown hts hp hS hl.size ok11.1 ok11.2.1 ok11.2.2 rfl (by decide) (c13_codeAt l D cA B S S11 (x0) (x2) v11 h11) rfl rfl kd13_codeAt (kl13_864) ks13_codeAt kv13_codeAt ki13 kh13_codeAt ⟨Nat.le_of_ble_eq_true rfl, Nat.le_of_ble_eq_true rfl⟩ rfl (by simp [e_rv_cat, e_int_cat]) ⟨Nat.le_refl _, Nat.le_refl _⟩ dX13_substitutes_11 rfl (fun H locs hp hS => ?_)
    refine lv_bipush (v := iI (47)) hx hb dX13_substitutes_14 (by decide +kernel) ?_
    refine e_icmp_eq (tgt := 34) hx hb dX13_substitutes_16 (by decide) (fun c16 => ?_) (fun c16 => ?_)
    · rw [if_pos c16] at hsh
      exact w13_substitutes_b34 E hp hS (hl.sub [0, 1, 2] rfl) hsh
    · rw [if_neg c16] at hsh
      refine e_aload_n (B := B) (x := x0) hx hb dX13_substitutes_19 rfl (hl.at 0 rfl) ?_
      refine lv_iload_n hx hb dX13_substitutes_20 rfl (hl.at 2 rfl) ?_
      obtain ⟨⟨v21, S21⟩, h21, hsh⟩ := Option.bind_eq_some_iff.mp hsh
      have hsh : _ = _ := hsh
      try dsimp only at hsh
      have ok21 := ok13_codeAt h21
      refine e_callI (nL := 10) (mc := 0) (ms := 0) (T := TX13) (N := 126) (As := [.int (iI (x2))]) (rest := []) hx hb hml hown hts hp hS hl.size ok21.1 ok21.2.1 ok21.2.2 rfl (by decide) (c13_codeAt l D cA B S11 S21 (x0) (x2) v21 h21) rfl rfl kd13_codeAt (kl13_864) ks13_codeAt kv13_codeAt ki13 kh13_codeAt ⟨Nat.le_of_ble_eq_true rfl, Nat.le_of_ble_eq_true rfl⟩ rfl (by simp [e_rv_cat, e_int_cat]) ⟨Nat.le_refl _, Nat.le_refl _⟩ dX13_substitutes_21 rfl (fun H locs hp hS => ?_)
      refine lv_iconst (v := iI (-1)) hx hb dX13_substitutes_24 rfl ?_
      refine e_icmp_eq (tgt := 34) hx hb dX13_substitutes_25 (by decide) (fun c25 => ?_) (fun c25 => ?_)
      · rw [if_pos c25] at hsh
        exact w13_substitutes_b34 E hp hS (hl.sub [0, 1, 2] rfl) hsh
      · rw [if_neg c25] at hsh
        refine e_iinc (n := 1) (x := x2) (lv' := [(2, .int (iI ((x2 + 1)))), (0, e_rv B (x0)), (1, .int (iI (x1)))]) hx hb dX13_substitutes_28 hl (k := 2) rfl (by decide) rfl (fun ls hl => ?_)
        refine lv_goto (tgt := 9) hx hb dX13_substitutes_31 (by decide) ?_
        exact hk9 hp hS (hl.sub [1, 2, 0] rfl) hsh
set_option maxRecDepth 100000 in
set_option maxHeartbeats 4000000 in
theorem c13_substitutes (l : Launch) (D : va_G) (cA : Nat → ClassId) (B : Nat) (S S' : HP) (x0 : Int) (r : Int) (hsh : s13_substitutes S x0 = some (r, S')) : Met l yX13_substitutes (e_wu yX13_substitutes cX13_substitutes 10 (some .boolean)) ({ frames := 3, cells := 0, slots := 0, locals := 77 } : Room) (va_Pc [e_rv B (x0)] (fun U => e_PU D cA B S U)) (e_Qi D cA B r S') 0 0 (e_A B) := by
  refine Met.ofW (cc := cX13_substitutes) (maxL := 10) (ret := (some .boolean)) (by decide +kernel) rfl ?_
  intro p e s m args below meth c s₁ Bd hml hv
  obtain ⟨rfl, hp⟩ := hv
  have hp : e_Pic D cA B S s s.heap := hp
  have hx := Bd.exec
  have hb := Bd.bytes
  have hrt := Bd.returns
  have hlk := Bd.notSynchronized
  have hown : s.vm.findClass RX13 = some m.cls := findClass_of_methodNamed Bd.named
  have hts : ∀ w ∈ e_tb, w.before ([e_rv B (x0)] : List Value).toArray s = true := fun w h => atoms_spec (ws := (e_wu yX13_substitutes cX13_substitutes 10 (some .boolean))) Bd.pre w (List.mem_cons_of_mem _ h)
  have E : e_En p s m ([e_rv B (x0)] : List Value).toArray meth c cX13_substitutes RX13 10 (some .boolean) := ⟨hx, hb, hml, hown, hts, hlk, hrt⟩
  have hS : va_S (e_A B) s.heap s.heap [] := va_S.rf
  have hl := e_entry (vs := [e_rv B (x0)]) (n := 10) (Nat.le_of_ble_eq_true rfl) (e_cc (e_rv_cat _ _) e_cn)
  rw [lg_entry_eq]
  generalize (lg_sl [e_rv B (x0)] ++ List.replicate (10 - (lg_sl [e_rv B (x0)]).length) Slot.unset).toArray = ls at hl ⊢
  generalize ([e_rv B (x0)] : List Value).toArray = args at hts E ⊢
  have hl : e_lo ls 10 [(0, e_rv B (x0))] := hl
  have hsh := (gd_some hsh).2
  refine e_aload_n (B := B) (x := x0) hx hb dX13_substitutes_0 rfl (hl.at 0 rfl) ?_
  obtain ⟨v1, h1, hsh⟩ := Option.bind_eq_some_iff.mp hsh
  refine e_getI (k := 105) hx hb hts in_X13 hown hp h1 rfl (by decide) (by decide) rfl (hts _ kf13_861) rfl dX13_substitutes_1 ?_
  refine lv_iconst (v := iI (1)) hx hb dX13_substitutes_4 rfl ?_
  refine e_iadd hx hb dX13_substitutes_5 ?_
  refine e_istore_n (lv' := [(1, .int (iI ((v1 + 1)))), (0, e_rv B (x0))]) hx hb dX13_substitutes_6 rfl hl (by decide) rfl (fun ls hl => ?_)
  refine lv_iload_n hx hb dX13_substitutes_7 rfl (hl.at 0 rfl) ?_
  refine e_istore_n (lv' := [(2, .int (iI ((v1 + 1)))), (1, .int (iI ((v1 + 1)))), (0, e_rv B (x0))]) hx hb dX13_substitutes_8 rfl hl (by decide) rfl (fun ls hl => ?_)
  exact w13_substitutes_l9 E 1000000 hp hS (hl.sub [2, 1, 0] rfl) hsh
theorem ok13_beginsLines {S : HP} {x0 : Int} {r : Int × HP} (h : s13_beginsLines S x0 = some r) : 0 ≤ x0 ∧ x0.toNat < e_n S ∧ e_g S x0.toNat = 13 := (gd_some h).1
set_option maxRecDepth 100000 in
set_option maxHeartbeats 4000000 in
theorem w13_beginsLines_b16 {p : Program} {l : Launch} {e : Env} {s : State} {m : MethodId} {args : Array Value} {below : List Frame} {meth : Method} {c : Code} {D : va_G} {cA : Nat → ClassId} {B : Nat} {res : Int × HP} (E : e_En p s m args meth c cX13_beginsLines RX13 2 (some .boolean)) {ls : Array Slot} {H : Heap} {locs : List Loc} {S : HP} (hp : e_Pic D cA B S s H) (hS : va_S (e_A B) s.heap H locs) (hl : e_lo ls 2 []) (hsh : s13_beginsLines_b16 S  = some res) : W p l e ({ frames := 1, cells := 0, slots := 0, locals := 23 } : Room) s m args below meth c H locs 0 0 (MQ below (e_Qi D cA B res.1 res.2) args s 0 0 (e_A B)) (F0 m 16 ls []) := by
  obtain ⟨hx, hb, hml, hown, hts, hlk, hrt⟩ := id E
  unfold s13_beginsLines_b16 at hsh
  refine lv_iconst (v := iI (0)) hx hb dX13_beginsLines_16 rfl ?_
  obtain ⟨hz, hz1, hz2⟩ := zR_some hsh
  rw [← hz1, ← hz2]
  exact e_zret hx hb hrt hlk hp hS hz dX13_beginsLines_17
set_option maxRecDepth 100000 in
set_option maxHeartbeats 4000000 in
theorem w13_beginsLines_l63 {p : Program} {l : Launch} {e : Env} {s : State} {m : MethodId} {args : Array Value} {below : List Frame} {meth : Method} {c : Code} {D : va_G} {cA : Nat → ClassId} {B : Nat} {res : Int × HP} (E : e_En p s m args meth c cX13_beginsLines RX13 2 (some .boolean)) : ∀ (f : Nat) {ls : Array Slot} {H : Heap} {locs : List Loc} {S : HP} {x0 : Int} {x1 : Int} (hp : e_Pic D cA B S s H) (hS : va_S (e_A B) s.heap H locs) (hl : e_lo ls 2 [(0, e_rv B (x0)), (1, .int (iI (x1)))]) (hsh : s13_beginsLines_l63 f S x0 x1 = some res), W p l e ({ frames := 1, cells := 0, slots := 0, locals := 23 } : Room) s m args below meth c H locs 0 0 (MQ below (e_Qi D cA B res.1 res.2) args s 0 0 (e_A B)) (F0 m 63 ls []) := by
  obtain ⟨hx, hb, hml, hown, hts, hlk, hrt⟩ := id E
  intro f
  induction f with
  | zero => intro ls H locs S x0 x1 hp hS hl hsh; cases hsh
  | succ f ih =>
    intro ls H locs S x0 x1 hp hS hl hsh
    have hk63 : ∀ {ls : Array Slot} {H : Heap} {locs : List Loc} {S : HP} {x0 : Int} {x1 : Int} (hp : e_Pic D cA B S s H) (hS : va_S (e_A B) s.heap H locs) (hl : e_lo ls 2 [(0, e_rv B (x0)), (1, .int (iI (x1)))]) (hsh : (s13_beginsLines_l63 f) S x0 x1 = some res), W p l e ({ frames := 1, cells := 0, slots := 0, locals := 23 } : Room) s m args below meth c H locs 0 0 (MQ below (e_Qi D cA B res.1 res.2) args s 0 0 (e_A B)) (F0 m 63 ls []) := ih
    generalize hkk : s13_beginsLines_l63 f = k63 at hk63
    rw [s13_beginsLines_l63] at hsh
    rw [hkk] at hsh
    try dsimp only at hsh
    refine lv_iload_n hx hb dX13_beginsLines_63 rfl (hl.at 1 rfl) ?_
    refine e_aload_n (B := B) (x := x0) hx hb dX13_beginsLines_64 rfl (hl.at 0 rfl) ?_
    obtain ⟨v65, h65, hsh⟩ := Option.bind_eq_some_iff.mp hsh
    refine e_getI (k := 109) hx hb hts in_X13 hown hp h65 rfl (by decide) (by decide) rfl (hts _ kf13_873) rfl dX13_beginsLines_65 ?_
    refine e_icmp_gt (tgt := 99) hx hb dX13_beginsLines_68 (by decide) (fun c68 => ?_) (fun c68 => ?_)
    · rw [if_pos c68] at hsh
      refine lv_iconst (v := iI (1)) hx hb dX13_beginsLines_99 rfl ?_
      obtain ⟨hz, hz1, hz2⟩ := zR_some hsh
      rw [← hz1, ← hz2]
      exact e_zret hx hb hrt hlk hp hS hz dX13_beginsLines_100
    · rw [if_neg c68] at hsh
      refine e_aload_n (B := B) (x := x0) hx hb dX13_beginsLines_71 rfl (hl.at 0 rfl) ?_
      obtain ⟨v72, h72, hsh⟩ := Option.bind_eq_some_iff.mp hsh
      refine e_getR (k := 99) hx hb hts in_X13 hown hp h72 rfl (by decide) (by decide) rfl (hts _ kf13_148) rfl dX13_beginsLines_72 ?_
      refine lv_bipush (v := iI (41)) hx hb dX13_beginsLines_75 (by decide +kernel) ?_
      refine e_aload_n (B := B) (x := x0) hx hb dX13_beginsLines_77 rfl (hl.at 0 rfl) ?_
      obtain ⟨v78, h78, hsh⟩ := Option.bind_eq_some_iff.mp hsh
      refine e_getI (k := 90) hx hb hts in_X13 hown hp h78 rfl (by decide) (by decide) rfl (hts _ kf13_672) rfl dX13_beginsLines_78 ?_
      refine lv_iconst (v := iI (1)) hx hb dX13_beginsLines_81 rfl ?_
      refine e_isub hx hb dX13_beginsLines_82 ?_
      refine e_imul hx hb dX13_beginsLines_83 ?_
      refine lv_iload_n hx hb dX13_beginsLines_84 rfl (hl.at 1 rfl) ?_
      refine e_iadd hx hb dX13_beginsLines_85 ?_
      refine e_aload_n (B := B) (x := x0) hx hb dX13_beginsLines_86 rfl (hl.at 0 rfl) ?_
      obtain ⟨v87, h87, hsh⟩ := Option.bind_eq_some_iff.mp hsh
      refine e_getI (k := 108) hx hb hts in_X13 hown hp h87 rfl (by decide) (by decide) rfl (hts _ kf13_870) rfl dX13_beginsLines_87 ?_
      refine e_isub hx hb dX13_beginsLines_90 ?_
      refine lv_iload_n hx hb dX13_beginsLines_91 rfl (hl.at 1 rfl) ?_
      obtain ⟨S92, h92, hsh⟩ := Option.bind_eq_some_iff.mp hsh
      refine e_iast hx hb hp hS h92 dX13_beginsLines_92 (fun H locs hp hS => ?_)
      refine e_iinc (n := 1) (x := x1) (lv' := [(1, .int (iI ((x1 + 1)))), (0, e_rv B (x0))]) hx hb dX13_beginsLines_93 hl (k := 1) rfl (by decide) rfl (fun ls hl => ?_)
      refine lv_goto (tgt := 63) hx hb dX13_beginsLines_96 (by decide) ?_
      exact hk63 hp hS (hl.sub [1, 0] rfl) hsh
set_option maxRecDepth 100000 in
set_option maxHeartbeats 4000000 in
theorem w13_beginsLines_l34 {p : Program} {l : Launch} {e : Env} {s : State} {m : MethodId} {args : Array Value} {below : List Frame} {meth : Method} {c : Code} {D : va_G} {cA : Nat → ClassId} {B : Nat} {res : Int × HP} (E : e_En p s m args meth c cX13_beginsLines RX13 2 (some .boolean)) : ∀ (f : Nat) {ls : Array Slot} {H : Heap} {locs : List Loc} {S : HP} {x0 : Int} {x1 : Int} (hp : e_Pic D cA B S s H) (hS : va_S (e_A B) s.heap H locs) (hl : e_lo ls 2 [(0, e_rv B (x0)), (1, .int (iI (x1)))]) (hsh : s13_beginsLines_l34 f S x0 x1 = some res), W p l e ({ frames := 1, cells := 0, slots := 0, locals := 23 } : Room) s m args below meth c H locs 0 0 (MQ below (e_Qi D cA B res.1 res.2) args s 0 0 (e_A B)) (F0 m 34 ls []) := by
  obtain ⟨hx, hb, hml, hown, hts, hlk, hrt⟩ := id E
  intro f
  induction f with
  | zero => intro ls H locs S x0 x1 hp hS hl hsh; cases hsh
  | succ f ih =>
    intro ls H locs S x0 x1 hp hS hl hsh
    have hk34 : ∀ {ls : Array Slot} {H : Heap} {locs : List Loc} {S : HP} {x0 : Int} {x1 : Int} (hp : e_Pic D cA B S s H) (hS : va_S (e_A B) s.heap H locs) (hl : e_lo ls 2 [(0, e_rv B (x0)), (1, .int (iI (x1)))]) (hsh : (s13_beginsLines_l34 f) S x0 x1 = some res), W p l e ({ frames := 1, cells := 0, slots := 0, locals := 23 } : Room) s m args below meth c H locs 0 0 (MQ below (e_Qi D cA B res.1 res.2) args s 0 0 (e_A B)) (F0 m 34 ls []) := ih
    generalize hkk : s13_beginsLines_l34 f = k34 at hk34
    rw [s13_beginsLines_l34] at hsh
    rw [hkk] at hsh
    try dsimp only at hsh
    refine lv_iload_n hx hb dX13_beginsLines_34 rfl (hl.at 1 rfl) ?_
    refine e_aload_n (B := B) (x := x0) hx hb dX13_beginsLines_35 rfl (hl.at 0 rfl) ?_
    obtain ⟨v36, h36, hsh⟩ := Option.bind_eq_some_iff.mp hsh
    refine e_getI (k := 104) hx hb hts in_X13 hown hp h36 rfl (by decide) (by decide) rfl (hts _ kf13_858) rfl dX13_beginsLines_36 ?_
    refine e_icmp_ge (tgt := 58) hx hb dX13_beginsLines_39 (by decide) (fun c39 => ?_) (fun c39 => ?_)
    · rw [if_pos c39] at hsh
      refine e_aload_n (B := B) (x := x0) hx hb dX13_beginsLines_58 rfl (hl.at 0 rfl) ?_
      obtain ⟨v59, h59, hsh⟩ := Option.bind_eq_some_iff.mp hsh
      refine e_getI (k := 108) hx hb hts in_X13 hown hp h59 rfl (by decide) (by decide) rfl (hts _ kf13_870) rfl dX13_beginsLines_59 ?_
      refine e_istore_n (lv' := [(1, .int (iI (v59))), (0, e_rv B (x0))]) hx hb dX13_beginsLines_62 rfl hl (by decide) rfl (fun ls hl => ?_)
      exact w13_beginsLines_l63 E 1000000 hp hS (hl.sub [1, 0] rfl) hsh
    · rw [if_neg c39] at hsh
      refine e_aload_n (B := B) (x := x0) hx hb dX13_beginsLines_42 rfl (hl.at 0 rfl) ?_
      refine e_aload_n (B := B) (x := x0) hx hb dX13_beginsLines_43 rfl (hl.at 0 rfl) ?_
      obtain ⟨v44, h44, hsh⟩ := Option.bind_eq_some_iff.mp hsh
      refine e_getR (k := 106) hx hb hts in_X13 hown hp h44 rfl (by decide) (by decide) rfl (hts _ kf13_154) rfl dX13_beginsLines_44 ?_
      refine lv_iload_n hx hb dX13_beginsLines_47 rfl (hl.at 1 rfl) ?_
      obtain ⟨v48, h48, hsh⟩ := Option.bind_eq_some_iff.mp hsh
      refine e_iald hx hb hp h48 dX13_beginsLines_48 ?_
      obtain ⟨S49, h49, hsh⟩ := Option.bind_eq_some_iff.mp hsh
      have ok49 := ok13_heaps h49
      refine e_callV (nL := 2) (mc := 0) (ms := 0) (T := TX13) (N := 126) (As := [.int (iI (v48))]) (rest := []) hx hb hml hown hts hp hS hl.size ok49.1 ok49.2.1 ok49.2.2 rfl (by decide) (c13_heaps l D cA B S S49 (x0) (v48) h49) rfl rfl kd13_heaps (kl13_702) ks13_heaps kv13_heaps ki13 kh13_heaps ⟨Nat.le_of_ble_eq_true rfl, Nat.le_of_ble_eq_true rfl⟩ rfl (by simp [e_rv_cat, e_int_cat]) ⟨Nat.le_refl _, Nat.le_refl _⟩ dX13_beginsLines_49 rfl (fun H locs hp hS => ?_)
      refine e_iinc (n := 1) (x := x1) (lv' := [(1, .int (iI ((x1 + 1)))), (0, e_rv B (x0))]) hx hb dX13_beginsLines_52 hl (k := 1) rfl (by decide) rfl (fun ls hl => ?_)
      refine lv_goto (tgt := 34) hx hb dX13_beginsLines_55 (by decide) ?_
      exact hk34 hp hS (hl.sub [1, 0] rfl) hsh
set_option maxRecDepth 100000 in
set_option maxHeartbeats 4000000 in
theorem c13_beginsLines (l : Launch) (D : va_G) (cA : Nat → ClassId) (B : Nat) (S S' : HP) (x0 : Int) (r : Int) (hsh : s13_beginsLines S x0 = some (r, S')) : Met l yX13_beginsLines (e_wu yX13_beginsLines cX13_beginsLines 2 (some .boolean)) ({ frames := 1, cells := 0, slots := 0, locals := 23 } : Room) (va_Pc [e_rv B (x0)] (fun U => e_PU D cA B S U)) (e_Qi D cA B r S') 0 0 (e_A B) := by
  refine Met.ofW (cc := cX13_beginsLines) (maxL := 2) (ret := (some .boolean)) (by decide +kernel) rfl ?_
  intro p e s m args below meth c s₁ Bd hml hv
  obtain ⟨rfl, hp⟩ := hv
  have hp : e_Pic D cA B S s s.heap := hp
  have hx := Bd.exec
  have hb := Bd.bytes
  have hrt := Bd.returns
  have hlk := Bd.notSynchronized
  have hown : s.vm.findClass RX13 = some m.cls := findClass_of_methodNamed Bd.named
  have hts : ∀ w ∈ e_tb, w.before ([e_rv B (x0)] : List Value).toArray s = true := fun w h => atoms_spec (ws := (e_wu yX13_beginsLines cX13_beginsLines 2 (some .boolean))) Bd.pre w (List.mem_cons_of_mem _ h)
  have E : e_En p s m ([e_rv B (x0)] : List Value).toArray meth c cX13_beginsLines RX13 2 (some .boolean) := ⟨hx, hb, hml, hown, hts, hlk, hrt⟩
  have hS : va_S (e_A B) s.heap s.heap [] := va_S.rf
  have hl := e_entry (vs := [e_rv B (x0)]) (n := 2) (Nat.le_of_ble_eq_true rfl) (e_cc (e_rv_cat _ _) e_cn)
  rw [lg_entry_eq]
  generalize (lg_sl [e_rv B (x0)] ++ List.replicate (2 - (lg_sl [e_rv B (x0)]).length) Slot.unset).toArray = ls at hl ⊢
  generalize ([e_rv B (x0)] : List Value).toArray = args at hts E ⊢
  have hl : e_lo ls 2 [(0, e_rv B (x0))] := hl
  have hsh := (gd_some hsh).2
  refine e_aload_n (B := B) (x := x0) hx hb dX13_beginsLines_0 rfl (hl.at 0 rfl) ?_
  obtain ⟨⟨v1, S1⟩, h1, hsh⟩ := Option.bind_eq_some_iff.mp hsh
  have hsh : _ = _ := hsh
  try dsimp only at hsh
  have ok1 := ok13_isEnd h1
  refine e_callI (nL := 2) (mc := 0) (ms := 0) (T := TX13) (N := 126) (As := []) (rest := []) hx hb hml hown hts hp hS hl.size ok1.1 ok1.2.1 ok1.2.2 rfl (by decide) (c13_isEnd l D cA B S S1 (x0) v1 h1) rfl rfl kd13_isEnd (kl13_880) ks13_isEnd kv13_isEnd ki13 kh13_isEnd ⟨Nat.le_of_ble_eq_true rfl, Nat.le_of_ble_eq_true rfl⟩ rfl (by simp [e_rv_cat, e_int_cat]) ⟨Nat.le_refl _, Nat.le_refl _⟩ dX13_beginsLines_1 rfl (fun H locs hp hS => ?_)
  refine e_if_ne (tgt := 16) hx hb dX13_beginsLines_4 (by decide) (fun c4 => ?_) (fun c4 => ?_)
  · rw [if_neg c4] at hsh
    exact w13_beginsLines_b16 E hp hS (hl.sub [] rfl) hsh
  · rw [if_pos c4] at hsh
    refine e_aload_n (B := B) (x := x0) hx hb dX13_beginsLines_7 rfl (hl.at 0 rfl) ?_
    obtain ⟨⟨v8, S8⟩, h8, hsh⟩ := Option.bind_eq_some_iff.mp hsh
    have hsh : _ = _ := hsh
    try dsimp only at hsh
    have ok8 := ok13_playings h8
    refine e_callI (nL := 2) (mc := 0) (ms := 0) (T := TX13) (N := 126) (As := []) (rest := []) hx hb hml hown hts hp hS hl.size ok8.1 ok8.2.1 ok8.2.2 rfl (by decide) (c13_playings l D cA B S1 S8 (x0) v8 h8) rfl rfl kd13_playings (kl13_818) ks13_playings kv13_playings ki13 kh13_playings ⟨Nat.le_of_ble_eq_true rfl, Nat.le_of_ble_eq_true rfl⟩ rfl (by simp [e_rv_cat, e_int_cat]) ⟨Nat.le_refl _, Nat.le_refl _⟩ dX13_beginsLines_8 rfl (fun H locs hp hS => ?_)
    refine lv_bipush (v := iI (20)) hx hb dX13_beginsLines_11 (by decide +kernel) ?_
    refine e_icmp_ne (tgt := 18) hx hb dX13_beginsLines_13 (by decide) (fun c13 => ?_) (fun c13 => ?_)
    · rw [if_neg c13] at hsh
      refine e_aload_n (B := B) (x := x0) hx hb dX13_beginsLines_18 rfl (hl.at 0 rfl) ?_
      refine lv_iconst (v := iI (0)) hx hb dX13_beginsLines_19 rfl ?_
      obtain ⟨S20, h20, hsh⟩ := Option.bind_eq_some_iff.mp hsh
      refine e_putI (k := 23) hx hb hts in_X13 tyX13 tyX13_ok nmX13 hown hp hS h20 rfl (by decide) (by decide) rfl (hts _ kf13_244) rfl rfl (by decide +kernel) dX13_beginsLines_20 (fun H locs hp hS => ?_)
      refine e_aload_n (B := B) (x := x0) hx hb dX13_beginsLines_23 rfl (hl.at 0 rfl) ?_
      refine lv_iconst (v := iI (3)) hx hb dX13_beginsLines_24 rfl ?_
      refine lv_iconst (v := iI (1)) hx hb dX13_beginsLines_25 rfl ?_
      obtain ⟨S26, h26, hsh⟩ := Option.bind_eq_some_iff.mp hsh
      have ok26 := ok13_begins h26
      refine e_callV (nL := 2) (mc := 0) (ms := 0) (T := TX13) (N := 126) (As := [.int (iI (3)), .int (iI (1))]) (rest := []) hx hb hml hown hts hp hS hl.size ok26.1 ok26.2.1 ok26.2.2 rfl (by decide) (c13_begins l D cA B S20 S26 (x0) (3) (1) h26) rfl rfl kd13_begins (kl13_699) ks13_begins kv13_begins ki13 kh13_begins ⟨Nat.le_of_ble_eq_true rfl, Nat.le_of_ble_eq_true rfl⟩ rfl (by simp [e_rv_cat, e_int_cat]) ⟨Nat.le_refl _, Nat.le_refl _⟩ dX13_beginsLines_26 rfl (fun H locs hp hS => ?_)
      refine e_aload_n (B := B) (x := x0) hx hb dX13_beginsLines_29 rfl (hl.at 0 rfl) ?_
      obtain ⟨v30, h30, hsh⟩ := Option.bind_eq_some_iff.mp hsh
      refine e_getI (k := 105) hx hb hts in_X13 hown hp h30 rfl (by decide) (by decide) rfl (hts _ kf13_861) rfl dX13_beginsLines_30 ?_
      refine e_istore_n (lv' := [(1, .int (iI (v30))), (0, e_rv B (x0))]) hx hb dX13_beginsLines_33 rfl hl (by decide) rfl (fun ls hl => ?_)
      exact w13_beginsLines_l34 E 1000000 hp hS (hl.sub [1, 0] rfl) hsh
    · rw [if_pos c13] at hsh
      exact w13_beginsLines_b16 E hp hS (hl.sub [] rfl) hsh
theorem ok13_isOne {S : HP} {x0 : Int} {x1 : Int} {r : Int × HP} (h : s13_isOne S x0 x1 = some r) : 0 ≤ x0 ∧ x0.toNat < e_n S ∧ e_g S x0.toNat = 13 := (gd_some h).1
set_option maxRecDepth 100000 in
set_option maxHeartbeats 4000000 in
theorem w13_isOne_b65 {p : Program} {l : Launch} {e : Env} {s : State} {m : MethodId} {args : Array Value} {below : List Frame} {meth : Method} {c : Code} {D : va_G} {cA : Nat → ClassId} {B : Nat} {res : Int × HP} (E : e_En p s m args meth c cX13_isOne RX13 3 (some .boolean)) {ls : Array Slot} {H : Heap} {locs : List Loc} {S : HP} {y0 : Int} (hp : e_Pic D cA B S s H) (hS : va_S (e_A B) s.heap H locs) (hl : e_lo ls 3 []) (hsh : s13_isOne_b65 S y0 = some res) : W p l e ({ frames := 1, cells := 0, slots := 0, locals := 21 } : Room) s m args below meth c H locs 0 0 (MQ below (e_Qi D cA B res.1 res.2) args s 0 0 (e_A B)) (F0 m 65 ls [.int (iI (y0))]) := by
  obtain ⟨hx, hb, hml, hown, hts, hlk, hrt⟩ := id E
  unfold s13_isOne_b65 at hsh
  obtain ⟨hz, hz1, hz2⟩ := zR_some hsh
  rw [← hz1, ← hz2]
  exact e_zret hx hb hrt hlk hp hS hz dX13_isOne_65
set_option maxRecDepth 100000 in
set_option maxHeartbeats 4000000 in
theorem w13_isOne_b60 {p : Program} {l : Launch} {e : Env} {s : State} {m : MethodId} {args : Array Value} {below : List Frame} {meth : Method} {c : Code} {D : va_G} {cA : Nat → ClassId} {B : Nat} {res : Int × HP} (E : e_En p s m args meth c cX13_isOne RX13 3 (some .boolean)) {ls : Array Slot} {H : Heap} {locs : List Loc} {S : HP} (hp : e_Pic D cA B S s H) (hS : va_S (e_A B) s.heap H locs) (hl : e_lo ls 3 []) (hsh : s13_isOne_b60 S  = some res) : W p l e ({ frames := 1, cells := 0, slots := 0, locals := 21 } : Room) s m args below meth c H locs 0 0 (MQ below (e_Qi D cA B res.1 res.2) args s 0 0 (e_A B)) (F0 m 60 ls []) := by
  obtain ⟨hx, hb, hml, hown, hts, hlk, hrt⟩ := id E
  unfold s13_isOne_b60 at hsh
  refine lv_iconst (v := iI (1)) hx hb dX13_isOne_60 rfl ?_
  refine lv_goto (tgt := 65) hx hb dX13_isOne_61 (by decide) ?_
  exact w13_isOne_b65 E hp hS (hl.sub [] rfl) hsh
set_option maxRecDepth 100000 in
set_option maxHeartbeats 4000000 in
theorem w13_isOne_b54 {p : Program} {l : Launch} {e : Env} {s : State} {m : MethodId} {args : Array Value} {below : List Frame} {meth : Method} {c : Code} {D : va_G} {cA : Nat → ClassId} {B : Nat} {res : Int × HP} (E : e_En p s m args meth c cX13_isOne RX13 3 (some .boolean)) {ls : Array Slot} {H : Heap} {locs : List Loc} {S : HP} {x2 : Int} (hp : e_Pic D cA B S s H) (hS : va_S (e_A B) s.heap H locs) (hl : e_lo ls 3 [(2, .int (iI (x2)))]) (hsh : s13_isOne_b54 S x2 = some res) : W p l e ({ frames := 1, cells := 0, slots := 0, locals := 21 } : Room) s m args below meth c H locs 0 0 (MQ below (e_Qi D cA B res.1 res.2) args s 0 0 (e_A B)) (F0 m 54 ls []) := by
  obtain ⟨hx, hb, hml, hown, hts, hlk, hrt⟩ := id E
  unfold s13_isOne_b54 at hsh
  refine lv_iload_n hx hb dX13_isOne_54 rfl (hl.at 0 rfl) ?_
  refine lv_bipush (v := iI (110)) hx hb dX13_isOne_55 (by decide +kernel) ?_
  refine e_icmp_ne (tgt := 64) hx hb dX13_isOne_57 (by decide) (fun c57 => ?_) (fun c57 => ?_)
  · rw [if_neg c57] at hsh
    refine lv_iconst (v := iI (0)) hx hb dX13_isOne_64 rfl ?_
    exact w13_isOne_b65 E hp hS (hl.sub [] rfl) hsh
  · rw [if_pos c57] at hsh
    exact w13_isOne_b60 E hp hS (hl.sub [] rfl) hsh
set_option maxRecDepth 100000 in
set_option maxHeartbeats 4000000 in
theorem c13_isOne (l : Launch) (D : va_G) (cA : Nat → ClassId) (B : Nat) (S S' : HP) (x0 : Int) (x1 : Int) (r : Int) (hsh : s13_isOne S x0 x1 = some (r, S')) : Met l yX13_isOne (e_wu yX13_isOne cX13_isOne 3 (some .boolean)) ({ frames := 1, cells := 0, slots := 0, locals := 21 } : Room) (va_Pc [e_rv B (x0), .int (iI (x1))] (fun U => e_PU D cA B S U)) (e_Qi D cA B r S') 0 0 (e_A B) := by
  refine Met.ofW (cc := cX13_isOne) (maxL := 3) (ret := (some .boolean)) (by decide +kernel) rfl ?_
  intro p e s m args below meth c s₁ Bd hml hv
  obtain ⟨rfl, hp⟩ := hv
  have hp : e_Pic D cA B S s s.heap := hp
  have hx := Bd.exec
  have hb := Bd.bytes
  have hrt := Bd.returns
  have hlk := Bd.notSynchronized
  have hown : s.vm.findClass RX13 = some m.cls := findClass_of_methodNamed Bd.named
  have hts : ∀ w ∈ e_tb, w.before ([e_rv B (x0), .int (iI (x1))] : List Value).toArray s = true := fun w h => atoms_spec (ws := (e_wu yX13_isOne cX13_isOne 3 (some .boolean))) Bd.pre w (List.mem_cons_of_mem _ h)
  have E : e_En p s m ([e_rv B (x0), .int (iI (x1))] : List Value).toArray meth c cX13_isOne RX13 3 (some .boolean) := ⟨hx, hb, hml, hown, hts, hlk, hrt⟩
  have hS : va_S (e_A B) s.heap s.heap [] := va_S.rf
  have hl := e_entry (vs := [e_rv B (x0), .int (iI (x1))]) (n := 3) (Nat.le_of_ble_eq_true rfl) (e_cc (e_rv_cat _ _) (e_cc rfl e_cn))
  rw [lg_entry_eq]
  generalize (lg_sl [e_rv B (x0), .int (iI (x1))] ++ List.replicate (3 - (lg_sl [e_rv B (x0), .int (iI (x1))]).length) Slot.unset).toArray = ls at hl ⊢
  generalize ([e_rv B (x0), .int (iI (x1))] : List Value).toArray = args at hts E ⊢
  have hl : e_lo ls 3 [(0, e_rv B (x0)), (1, .int (iI (x1)))] := hl
  have hsh := (gd_some hsh).2
  refine e_aload_n (B := B) (x := x0) hx hb dX13_isOne_0 rfl (hl.at 0 rfl) ?_
  refine lv_iload_n hx hb dX13_isOne_1 rfl (hl.at 1 rfl) ?_
  obtain ⟨⟨v2, S2⟩, h2, hsh⟩ := Option.bind_eq_some_iff.mp hsh
  have hsh : _ = _ := hsh
  try dsimp only at hsh
  have ok2 := ok13_codeAt h2
  refine e_callI (nL := 3) (mc := 0) (ms := 0) (T := TX13) (N := 126) (As := [.int (iI (x1))]) (rest := []) hx hb hml hown hts hp hS hl.size ok2.1 ok2.2.1 ok2.2.2 rfl (by decide) (c13_codeAt l D cA B S S2 (x0) (x1) v2 h2) rfl rfl kd13_codeAt (kl13_864) ks13_codeAt kv13_codeAt ki13 kh13_codeAt ⟨Nat.le_of_ble_eq_true rfl, Nat.le_of_ble_eq_true rfl⟩ rfl (by simp [e_rv_cat, e_int_cat]) ⟨Nat.le_refl _, Nat.le_refl _⟩ dX13_isOne_2 rfl (fun H locs hp hS => ?_)
  refine e_istore_n (lv' := [(2, .int (iI (v2))), (0, e_rv B (x0)), (1, .int (iI (x1)))]) hx hb dX13_isOne_5 rfl hl (by decide) rfl (fun ls hl => ?_)
  refine lv_iload_n hx hb dX13_isOne_6 rfl (hl.at 0 rfl) ?_
  refine lv_bipush (v := iI (100)) hx hb dX13_isOne_7 (by decide +kernel) ?_
  refine e_icmp_eq (tgt := 60) hx hb dX13_isOne_9 (by decide) (fun c9 => ?_) (fun c9 => ?_)
  · rw [if_pos c9] at hsh
    exact w13_isOne_b60 E hp hS (hl.sub [] rfl) hsh
  · rw [if_neg c9] at hsh
    refine lv_iload_n hx hb dX13_isOne_12 rfl (hl.at 0 rfl) ?_
    refine lv_bipush (v := iI (62)) hx hb dX13_isOne_13 (by decide +kernel) ?_
    refine e_icmp_eq (tgt := 60) hx hb dX13_isOne_15 (by decide) (fun c15 => ?_) (fun c15 => ?_)
    · rw [if_pos c15] at hsh
      exact w13_isOne_b60 E hp hS (hl.sub [] rfl) hsh
    · rw [if_neg c15] at hsh
      refine lv_iload_n hx hb dX13_isOne_18 rfl (hl.at 0 rfl) ?_
      refine lv_bipush (v := iI (60)) hx hb dX13_isOne_19 (by decide +kernel) ?_
      refine e_icmp_eq (tgt := 60) hx hb dX13_isOne_21 (by decide) (fun c21 => ?_) (fun c21 => ?_)
      · rw [if_pos c21] at hsh
        exact w13_isOne_b60 E hp hS (hl.sub [] rfl) hsh
      · rw [if_neg c21] at hsh
        refine lv_iload_n hx hb dX13_isOne_24 rfl (hl.at 0 rfl) ?_
        refine lv_bipush (v := iI (106)) hx hb dX13_isOne_25 (by decide +kernel) ?_
        refine e_icmp_eq (tgt := 60) hx hb dX13_isOne_27 (by decide) (fun c27 => ?_) (fun c27 => ?_)
        · rw [if_pos c27] at hsh
          exact w13_isOne_b60 E hp hS (hl.sub [] rfl) hsh
        · rw [if_neg c27] at hsh
          refine lv_iload_n hx hb dX13_isOne_30 rfl (hl.at 0 rfl) ?_
          refine lv_bipush (v := iI (109)) hx hb dX13_isOne_31 (by decide +kernel) ?_
          refine e_icmp_eq (tgt := 60) hx hb dX13_isOne_33 (by decide) (fun c33 => ?_) (fun c33 => ?_)
          · rw [if_pos c33] at hsh
            exact w13_isOne_b60 E hp hS (hl.sub [] rfl) hsh
          · rw [if_neg c33] at hsh
            refine lv_iload_n hx hb dX13_isOne_36 rfl (hl.at 0 rfl) ?_
            refine lv_bipush (v := iI (115)) hx hb dX13_isOne_37 (by decide +kernel) ?_
            refine e_icmp_ne (tgt := 54) hx hb dX13_isOne_39 (by decide) (fun c39 => ?_) (fun c39 => ?_)
            · rw [if_neg c39] at hsh
              exact w13_isOne_b54 E hp hS (hl.sub [0] rfl) hsh
            · rw [if_pos c39] at hsh
              refine e_aload_n (B := B) (x := x0) hx hb dX13_isOne_42 rfl (hl.at 1 rfl) ?_
              refine lv_iload_n hx hb dX13_isOne_43 rfl (hl.at 2 rfl) ?_
              refine lv_iconst (v := iI (1)) hx hb dX13_isOne_44 rfl ?_
              refine e_iadd hx hb dX13_isOne_45 ?_
              obtain ⟨⟨v46, S46⟩, h46, hsh⟩ := Option.bind_eq_some_iff.mp hsh
              have hsh : _ = _ := hsh
              try dsimp only at hsh
              have ok46 := ok13_codeAt h46
              refine e_callI (nL := 3) (mc := 0) (ms := 0) (T := TX13) (N := 126) (As := [.int (iI ((x1 + 1)))]) (rest := []) hx hb hml hown hts hp hS hl.size ok46.1 ok46.2.1 ok46.2.2 rfl (by decide) (c13_codeAt l D cA B S2 S46 (x0) ((x1 + 1)) v46 h46) rfl rfl kd13_codeAt (kl13_864) ks13_codeAt kv13_codeAt ki13 kh13_codeAt ⟨Nat.le_of_ble_eq_true rfl, Nat.le_of_ble_eq_true rfl⟩ rfl (by simp [e_rv_cat, e_int_cat]) ⟨Nat.le_refl _, Nat.le_refl _⟩ dX13_isOne_46 rfl (fun H locs hp hS => ?_)
              refine lv_bipush (v := iI (47)) hx hb dX13_isOne_49 (by decide +kernel) ?_
              refine e_icmp_eq (tgt := 60) hx hb dX13_isOne_51 (by decide) (fun c51 => ?_) (fun c51 => ?_)
              · rw [if_pos c51] at hsh
                exact w13_isOne_b60 E hp hS (hl.sub [] rfl) hsh
              · rw [if_neg c51] at hsh
                exact w13_isOne_b54 E hp hS (hl.sub [0] rfl) hsh
theorem ok13_endsFrame {S : HP} {x0 : Int} {r : HP} (h : s13_endsFrame S x0 = some r) : 0 ≤ x0 ∧ x0.toNat < e_n S ∧ e_g S x0.toNat = 13 := (gd_some h).1
set_option maxRecDepth 100000 in
set_option maxHeartbeats 4000000 in
theorem c13_endsFrame (l : Launch) (D : va_G) (cA : Nat → ClassId) (B : Nat) (S S' : HP) (x0 : Int) (hsh : s13_endsFrame S x0 = some S') : Met l yX13_endsFrame (e_wu yX13_endsFrame cX13_endsFrame 1 none) ({ frames := 0, cells := 0, slots := 0, locals := 0 } : Room) (va_Pc [e_rv B (x0)] (fun U => e_PU D cA B S U)) (e_Qv D cA B S') 0 0 (e_A B) := by
  refine Met.ofW (cc := cX13_endsFrame) (maxL := 1) (ret := none) (by decide +kernel) rfl ?_
  intro p e s m args below meth c s₁ Bd hml hv
  obtain ⟨rfl, hp⟩ := hv
  have hp : e_Pic D cA B S s s.heap := hp
  have hx := Bd.exec
  have hb := Bd.bytes
  have hrt := Bd.returns
  have hlk := Bd.notSynchronized
  have hown : s.vm.findClass RX13 = some m.cls := findClass_of_methodNamed Bd.named
  have hts : ∀ w ∈ e_tb, w.before ([e_rv B (x0)] : List Value).toArray s = true := fun w h => atoms_spec (ws := (e_wu yX13_endsFrame cX13_endsFrame 1 none)) Bd.pre w (List.mem_cons_of_mem _ h)
  have E : e_En p s m ([e_rv B (x0)] : List Value).toArray meth c cX13_endsFrame RX13 1 none := ⟨hx, hb, hml, hown, hts, hlk, hrt⟩
  have hS : va_S (e_A B) s.heap s.heap [] := va_S.rf
  have hl := e_entry (vs := [e_rv B (x0)]) (n := 1) (Nat.le_of_ble_eq_true rfl) (e_cc (e_rv_cat _ _) e_cn)
  rw [lg_entry_eq]
  generalize (lg_sl [e_rv B (x0)] ++ List.replicate (1 - (lg_sl [e_rv B (x0)]).length) Slot.unset).toArray = ls at hl ⊢
  generalize ([e_rv B (x0)] : List Value).toArray = args at hts E ⊢
  have hl : e_lo ls 1 [(0, e_rv B (x0))] := hl
  have hsh := (gd_some hsh).2
  refine e_aload_n (B := B) (x := x0) hx hb dX13_endsFrame_0 rfl (hl.at 0 rfl) ?_
  refine lv_dup hx hb dX13_endsFrame_1 (e_rv_cat _ _) ?_
  obtain ⟨v2, h2, hsh⟩ := Option.bind_eq_some_iff.mp hsh
  refine e_getI (k := 90) hx hb hts in_X13 hown hp h2 rfl (by decide) (by decide) rfl (hts _ kf13_672) rfl dX13_endsFrame_2 ?_
  refine lv_iconst (v := iI (1)) hx hb dX13_endsFrame_5 rfl ?_
  refine e_isub hx hb dX13_endsFrame_6 ?_
  obtain ⟨S7, h7, hsh⟩ := Option.bind_eq_some_iff.mp hsh
  refine e_putI (k := 90) hx hb hts in_X13 tyX13 tyX13_ok nmX13 hown hp hS h7 rfl (by decide) (by decide) rfl (hts _ kf13_672) rfl rfl (by decide +kernel) dX13_endsFrame_7 (fun H locs hp hS => ?_)
  cases hsh
  exact e_vret hx hb hrt hlk hp hS dX13_endsFrame_10
theorem ok13_nextListed {S : HP} {x0 : Int} {x1 : Int} {r : Int × HP} (h : s13_nextListed S x0 x1 = some r) : 0 ≤ x0 ∧ x0.toNat < e_n S ∧ e_g S x0.toNat = 13 := (gd_some h).1
set_option maxRecDepth 100000 in
set_option maxHeartbeats 4000000 in
theorem w13_nextListed_b50 {p : Program} {l : Launch} {e : Env} {s : State} {m : MethodId} {args : Array Value} {below : List Frame} {meth : Method} {c : Code} {D : va_G} {cA : Nat → ClassId} {B : Nat} {res : Int × HP} (E : e_En p s m args meth c cX13_nextListed RX13 3 (some .int)) {ls : Array Slot} {H : Heap} {locs : List Loc} {S : HP} {x2 : Int} (hp : e_Pic D cA B S s H) (hS : va_S (e_A B) s.heap H locs) (hl : e_lo ls 3 [(2, .int (iI (x2)))]) (hsh : s13_nextListed_b50 S x2 = some res) : W p l e ({ frames := 0, cells := 0, slots := 0, locals := 0 } : Room) s m args below meth c H locs 0 0 (MQ below (e_Qi D cA B res.1 res.2) args s 0 0 (e_A B)) (F0 m 50 ls []) := by
  obtain ⟨hx, hb, hml, hown, hts, hlk, hrt⟩ := id E
  unfold s13_nextListed_b50 at hsh
  refine lv_iload_n hx hb dX13_nextListed_50 rfl (hl.at 0 rfl) ?_
  cases hsh
  exact e_iret hx hb hrt hlk hp hS dX13_nextListed_51
set_option maxRecDepth 100000 in
set_option maxHeartbeats 4000000 in
theorem w13_nextListed_l2 {p : Program} {l : Launch} {e : Env} {s : State} {m : MethodId} {args : Array Value} {below : List Frame} {meth : Method} {c : Code} {D : va_G} {cA : Nat → ClassId} {B : Nat} {res : Int × HP} (E : e_En p s m args meth c cX13_nextListed RX13 3 (some .int)) : ∀ (f : Nat) {ls : Array Slot} {H : Heap} {locs : List Loc} {S : HP} {x0 : Int} {x1 : Int} {x2 : Int} (hp : e_Pic D cA B S s H) (hS : va_S (e_A B) s.heap H locs) (hl : e_lo ls 3 [(0, e_rv B (x0)), (1, .int (iI (x1))), (2, .int (iI (x2)))]) (hsh : s13_nextListed_l2 f S x0 x1 x2 = some res), W p l e ({ frames := 0, cells := 0, slots := 0, locals := 0 } : Room) s m args below meth c H locs 0 0 (MQ below (e_Qi D cA B res.1 res.2) args s 0 0 (e_A B)) (F0 m 2 ls []) := by
  obtain ⟨hx, hb, hml, hown, hts, hlk, hrt⟩ := id E
  intro f
  induction f with
  | zero => intro ls H locs S x0 x1 x2 hp hS hl hsh; cases hsh
  | succ f ih =>
    intro ls H locs S x0 x1 x2 hp hS hl hsh
    have hk2 : ∀ {ls : Array Slot} {H : Heap} {locs : List Loc} {S : HP} {x0 : Int} {x1 : Int} {x2 : Int} (hp : e_Pic D cA B S s H) (hS : va_S (e_A B) s.heap H locs) (hl : e_lo ls 3 [(0, e_rv B (x0)), (1, .int (iI (x1))), (2, .int (iI (x2)))]) (hsh : (s13_nextListed_l2 f) S x0 x1 x2 = some res), W p l e ({ frames := 0, cells := 0, slots := 0, locals := 0 } : Room) s m args below meth c H locs 0 0 (MQ below (e_Qi D cA B res.1 res.2) args s 0 0 (e_A B)) (F0 m 2 ls []) := ih
    generalize hkk : s13_nextListed_l2 f = k2 at hk2
    rw [s13_nextListed_l2] at hsh
    rw [hkk] at hsh
    try dsimp only at hsh
    refine lv_iload_n hx hb dX13_nextListed_2 rfl (hl.at 2 rfl) ?_
    refine lv_iconst (v := iI (-1)) hx hb dX13_nextListed_3 rfl ?_
    refine e_icmp_ne (tgt := 50) hx hb dX13_nextListed_4 (by decide) (fun c4 => ?_) (fun c4 => ?_)
    · rw [if_neg c4] at hsh
      exact w13_nextListed_b50 E hp hS (hl.sub [2] rfl) hsh
    · rw [if_pos c4] at hsh
      refine e_aload_n (B := B) (x := x0) hx hb dX13_nextListed_7 rfl (hl.at 0 rfl) ?_
      obtain ⟨v8, h8, hsh⟩ := Option.bind_eq_some_iff.mp hsh
      refine e_getR (k := 96) hx hb hts in_X13 hown hp h8 rfl (by decide) (by decide) rfl (hts _ kf13_138) rfl dX13_nextListed_8 ?_
      refine lv_iload_n hx hb dX13_nextListed_11 rfl (hl.at 1 rfl) ?_
      obtain ⟨v12, h12, hsh⟩ := Option.bind_eq_some_iff.mp hsh
      refine e_iald hx hb hp h12 dX13_nextListed_12 ?_
      refine lv_iconst (v := iI (1)) hx hb dX13_nextListed_13 rfl ?_
      refine e_iadd hx hb dX13_nextListed_14 ?_
      refine lv_bipush (v := iI (40)) hx hb dX13_nextListed_15 (by decide +kernel) ?_
      refine e_icmp_ge (tgt := 50) hx hb dX13_nextListed_17 (by decide) (fun c17 => ?_) (fun c17 => ?_)
      · rw [if_pos c17] at hsh
        exact w13_nextListed_b50 E hp hS (hl.sub [2] rfl) hsh
      · rw [if_neg c17] at hsh
        refine e_aload_n (B := B) (x := x0) hx hb dX13_nextListed_20 rfl (hl.at 0 rfl) ?_
        obtain ⟨v21, h21, hsh⟩ := Option.bind_eq_some_iff.mp hsh
        refine e_getR (k := 96) hx hb hts in_X13 hown hp h21 rfl (by decide) (by decide) rfl (hts _ kf13_138) rfl dX13_nextListed_21 ?_
        refine lv_iload_n hx hb dX13_nextListed_24 rfl (hl.at 1 rfl) ?_
        refine lv_dup2_11 hx hb dX13_nextListed_25 rfl (e_rv_cat _ _) ?_
        obtain ⟨v26, h26, hsh⟩ := Option.bind_eq_some_iff.mp hsh
        refine e_iald hx hb hp h26 dX13_nextListed_26 ?_
        refine lv_iconst (v := iI (1)) hx hb dX13_nextListed_27 rfl ?_
        refine e_iadd hx hb dX13_nextListed_28 ?_
        obtain ⟨S29, h29, hsh⟩ := Option.bind_eq_some_iff.mp hsh
        refine e_iast hx hb hp hS h29 dX13_nextListed_29 (fun H locs hp hS => ?_)
        refine e_aload_n (B := B) (x := x0) hx hb dX13_nextListed_30 rfl (hl.at 0 rfl) ?_
        obtain ⟨v31, h31, hsh⟩ := Option.bind_eq_some_iff.mp hsh
        refine e_getR (k := 99) hx hb hts in_X13 hown hp h31 rfl (by decide) (by decide) rfl (hts _ kf13_148) rfl dX13_nextListed_31 ?_
        refine lv_bipush (v := iI (41)) hx hb dX13_nextListed_34 (by decide +kernel) ?_
        refine lv_iload_n hx hb dX13_nextListed_36 rfl (hl.at 1 rfl) ?_
        refine e_imul hx hb dX13_nextListed_37 ?_
        refine e_aload_n (B := B) (x := x0) hx hb dX13_nextListed_38 rfl (hl.at 0 rfl) ?_
        obtain ⟨v39, h39, hsh⟩ := Option.bind_eq_some_iff.mp hsh
        refine e_getR (k := 96) hx hb hts in_X13 hown hp h39 rfl (by decide) (by decide) rfl (hts _ kf13_138) rfl dX13_nextListed_39 ?_
        refine lv_iload_n hx hb dX13_nextListed_42 rfl (hl.at 1 rfl) ?_
        obtain ⟨v43, h43, hsh⟩ := Option.bind_eq_some_iff.mp hsh
        refine e_iald hx hb hp h43 dX13_nextListed_43 ?_
        refine e_iadd hx hb dX13_nextListed_44 ?_
        obtain ⟨v45, h45, hsh⟩ := Option.bind_eq_some_iff.mp hsh
        refine e_iald hx hb hp h45 dX13_nextListed_45 ?_
        refine e_istore_n (lv' := [(2, .int (iI (v45))), (0, e_rv B (x0)), (1, .int (iI (x1)))]) hx hb dX13_nextListed_46 rfl hl (by decide) rfl (fun ls hl => ?_)
        refine lv_goto (tgt := 2) hx hb dX13_nextListed_47 (by decide) ?_
        exact hk2 hp hS (hl.sub [1, 2, 0] rfl) hsh
set_option maxRecDepth 100000 in
set_option maxHeartbeats 4000000 in
theorem c13_nextListed (l : Launch) (D : va_G) (cA : Nat → ClassId) (B : Nat) (S S' : HP) (x0 : Int) (x1 : Int) (r : Int) (hsh : s13_nextListed S x0 x1 = some (r, S')) : Met l yX13_nextListed (e_wu yX13_nextListed cX13_nextListed 3 (some .int)) ({ frames := 0, cells := 0, slots := 0, locals := 0 } : Room) (va_Pc [e_rv B (x0), .int (iI (x1))] (fun U => e_PU D cA B S U)) (e_Qi D cA B r S') 0 0 (e_A B) := by
  refine Met.ofW (cc := cX13_nextListed) (maxL := 3) (ret := (some .int)) (by decide +kernel) rfl ?_
  intro p e s m args below meth c s₁ Bd hml hv
  obtain ⟨rfl, hp⟩ := hv
  have hp : e_Pic D cA B S s s.heap := hp
  have hx := Bd.exec
  have hb := Bd.bytes
  have hrt := Bd.returns
  have hlk := Bd.notSynchronized
  have hown : s.vm.findClass RX13 = some m.cls := findClass_of_methodNamed Bd.named
  have hts : ∀ w ∈ e_tb, w.before ([e_rv B (x0), .int (iI (x1))] : List Value).toArray s = true := fun w h => atoms_spec (ws := (e_wu yX13_nextListed cX13_nextListed 3 (some .int))) Bd.pre w (List.mem_cons_of_mem _ h)
  have E : e_En p s m ([e_rv B (x0), .int (iI (x1))] : List Value).toArray meth c cX13_nextListed RX13 3 (some .int) := ⟨hx, hb, hml, hown, hts, hlk, hrt⟩
  have hS : va_S (e_A B) s.heap s.heap [] := va_S.rf
  have hl := e_entry (vs := [e_rv B (x0), .int (iI (x1))]) (n := 3) (Nat.le_of_ble_eq_true rfl) (e_cc (e_rv_cat _ _) (e_cc rfl e_cn))
  rw [lg_entry_eq]
  generalize (lg_sl [e_rv B (x0), .int (iI (x1))] ++ List.replicate (3 - (lg_sl [e_rv B (x0), .int (iI (x1))]).length) Slot.unset).toArray = ls at hl ⊢
  generalize ([e_rv B (x0), .int (iI (x1))] : List Value).toArray = args at hts E ⊢
  have hl : e_lo ls 3 [(0, e_rv B (x0)), (1, .int (iI (x1)))] := hl
  have hsh := (gd_some hsh).2
  refine lv_iconst (v := iI (-1)) hx hb dX13_nextListed_0 rfl ?_
  refine e_istore_n (lv' := [(2, .int (iI ((-1)))), (0, e_rv B (x0)), (1, .int (iI (x1)))]) hx hb dX13_nextListed_1 rfl hl (by decide) rfl (fun ls hl => ?_)
  exact w13_nextListed_l2 E 1000000 hp hS (hl.sub [1, 2, 0] rfl) hsh
theorem ok13_orders {S : HP} {x0 : Int} {r : HP} (h : s13_orders S x0 = some r) : 0 ≤ x0 ∧ x0.toNat < e_n S ∧ e_g S x0.toNat = 13 := (gd_some h).1
set_option maxRecDepth 100000 in
set_option maxHeartbeats 4000000 in
theorem w13_orders_b283 {p : Program} {l : Launch} {e : Env} {s : State} {m : MethodId} {args : Array Value} {below : List Frame} {meth : Method} {c : Code} {D : va_G} {cA : Nat → ClassId} {B : Nat} {res : HP} {k4 : HP → Int → Int → Int → Option (HP)} (hk4 : ∀ {ls : Array Slot} {H : Heap} {locs : List Loc} {S : HP} {x0 : Int} {x1 : Int} {x2 : Int} (hp : e_Pic D cA B S s H) (hS : va_S (e_A B) s.heap H locs) (hl : e_lo ls 7 [(0, e_rv B (x0)), (1, .int (iI (x1))), (2, .int (iI (x2)))]) (hsh : k4 S x0 x1 x2 = some res), W p l e ({ frames := 2, cells := 0, slots := 0, locals := 42 } : Room) s m args below meth c H locs 0 0 (MQ below (e_Qv D cA B res) args s 0 0 (e_A B)) (F0 m 4 ls [])) (E : e_En p s m args meth c cX13_orders RX13 7 none) {ls : Array Slot} {H : Heap} {locs : List Loc} {S : HP} {x0 : Int} {x1 : Int} {x2 : Int} (hp : e_Pic D cA B S s H) (hS : va_S (e_A B) s.heap H locs) (hl : e_lo ls 7 [(0, e_rv B (x0)), (1, .int (iI (x1))), (2, .int (iI (x2)))]) (hsh : s13_orders_b283 k4 S x0 x1 x2 = some res) : W p l e ({ frames := 2, cells := 0, slots := 0, locals := 42 } : Room) s m args below meth c H locs 0 0 (MQ below (e_Qv D cA B res) args s 0 0 (e_A B)) (F0 m 283 ls []) := by
  obtain ⟨hx, hb, hml, hown, hts, hlk, hrt⟩ := id E
  unfold s13_orders_b283 at hsh
  refine e_iinc (n := 1) (x := x2) (lv' := [(2, .int (iI ((x2 + 1)))), (0, e_rv B (x0)), (1, .int (iI (x1)))]) hx hb dX13_orders_283 hl (k := 2) rfl (by decide) rfl (fun ls hl => ?_)
  refine lv_goto (tgt := 4) hx hb dX13_orders_286 (by decide) ?_
  exact hk4 hp hS (hl.sub [1, 2, 0] rfl) hsh
set_option maxRecDepth 100000 in
set_option maxHeartbeats 4000000 in
theorem w13_orders_b258 {p : Program} {l : Launch} {e : Env} {s : State} {m : MethodId} {args : Array Value} {below : List Frame} {meth : Method} {c : Code} {D : va_G} {cA : Nat → ClassId} {B : Nat} {res : HP} {k4 : HP → Int → Int → Int → Option (HP)} (hk4 : ∀ {ls : Array Slot} {H : Heap} {locs : List Loc} {S : HP} {x0 : Int} {x1 : Int} {x2 : Int} (hp : e_Pic D cA B S s H) (hS : va_S (e_A B) s.heap H locs) (hl : e_lo ls 7 [(0, e_rv B (x0)), (1, .int (iI (x1))), (2, .int (iI (x2)))]) (hsh : k4 S x0 x1 x2 = some res), W p l e ({ frames := 2, cells := 0, slots := 0, locals := 42 } : Room) s m args below meth c H locs 0 0 (MQ below (e_Qv D cA B res) args s 0 0 (e_A B)) (F0 m 4 ls [])) (E : e_En p s m args meth c cX13_orders RX13 7 none) {ls : Array Slot} {H : Heap} {locs : List Loc} {S : HP} {x0 : Int} {x1 : Int} {x2 : Int} {x3 : Int} {x4 : Int} {x5 : Int} {x6 : Int} (hp : e_Pic D cA B S s H) (hS : va_S (e_A B) s.heap H locs) (hl : e_lo ls 7 [(0, e_rv B (x0)), (1, .int (iI (x1))), (2, .int (iI (x2))), (3, .int (iI (x3))), (4, .int (iI (x4))), (5, .int (iI (x5))), (6, .int (iI (x6)))]) (hsh : s13_orders_b258 k4 S x0 x1 x2 x3 x4 x5 x6 = some res) : W p l e ({ frames := 2, cells := 0, slots := 0, locals := 42 } : Room) s m args below meth c H locs 0 0 (MQ below (e_Qv D cA B res) args s 0 0 (e_A B)) (F0 m 258 ls []) := by
  obtain ⟨hx, hb, hml, hown, hts, hlk, hrt⟩ := id E
  unfold s13_orders_b258 at hsh
  refine lv_iload_n hx hb dX13_orders_258 rfl (hl.at 3 rfl) ?_
  refine e_if_eq (tgt := 283) hx hb dX13_orders_259 (by decide) (fun c259 => ?_) (fun c259 => ?_)
  · rw [if_pos c259] at hsh
    exact w13_orders_b283 (hk4 := hk4) E hp hS (hl.sub [0, 1, 2] rfl) hsh
  · rw [if_neg c259] at hsh
    refine e_aload_n (B := B) (x := x0) hx hb dX13_orders_262 rfl (hl.at 0 rfl) ?_
    obtain ⟨v263, h263, hsh⟩ := Option.bind_eq_some_iff.mp hsh
    refine e_getR (k := 24) hx hb hts in_X13 hown hp h263 rfl (by decide) (by decide) rfl (hts _ kf13_54) rfl dX13_orders_263 ?_
    refine lv_iload hx hb dX13_orders_266 (hl.at 4 rfl) ?_
    refine lv_iload hx hb dX13_orders_268 (hl.at 5 rfl) ?_
    obtain ⟨S270, h270, hsh⟩ := Option.bind_eq_some_iff.mp hsh
    refine e_iast hx hb hp hS h270 dX13_orders_270 (fun H locs hp hS => ?_)
    refine e_aload_n (B := B) (x := x0) hx hb dX13_orders_271 rfl (hl.at 0 rfl) ?_
    obtain ⟨v272, h272, hsh⟩ := Option.bind_eq_some_iff.mp hsh
    refine e_getR (k := 25) hx hb hts in_X13 hown hp h272 rfl (by decide) (by decide) rfl (hts _ kf13_57) rfl dX13_orders_272 ?_
    refine lv_iload hx hb dX13_orders_275 (hl.at 4 rfl) ?_
    refine lv_iload hx hb dX13_orders_277 (hl.at 6 rfl) ?_
    obtain ⟨S279, h279, hsh⟩ := Option.bind_eq_some_iff.mp hsh
    refine e_iast hx hb hp hS h279 dX13_orders_279 (fun H locs hp hS => ?_)
    refine e_iinc (n := 1) (x := x1) (lv' := [(1, .int (iI ((x1 + 1)))), (0, e_rv B (x0)), (2, .int (iI (x2))), (3, .int (iI (x3))), (4, .int (iI (x4))), (5, .int (iI (x5))), (6, .int (iI (x6)))]) hx hb dX13_orders_280 hl (k := 1) rfl (by decide) rfl (fun ls hl => ?_)
    exact w13_orders_b283 (hk4 := hk4) E hp hS (hl.sub [1, 0, 2] rfl) hsh
set_option maxRecDepth 100000 in
set_option maxHeartbeats 4000000 in
theorem w13_orders_b220 {p : Program} {l : Launch} {e : Env} {s : State} {m : MethodId} {args : Array Value} {below : List Frame} {meth : Method} {c : Code} {D : va_G} {cA : Nat → ClassId} {B : Nat} {res : HP} {k4 : HP → Int → Int → Int → Option (HP)} (hk4 : ∀ {ls : Array Slot} {H : Heap} {locs : List Loc} {S : HP} {x0 : Int} {x1 : Int} {x2 : Int} (hp : e_Pic D cA B S s H) (hS : va_S (e_A B) s.heap H locs) (hl : e_lo ls 7 [(0, e_rv B (x0)), (1, .int (iI (x1))), (2, .int (iI (x2)))]) (hsh : k4 S x0 x1 x2 = some res), W p l e ({ frames := 2, cells := 0, slots := 0, locals := 42 } : Room) s m args below meth c H locs 0 0 (MQ below (e_Qv D cA B res) args s 0 0 (e_A B)) (F0 m 4 ls [])) {k169 : HP → Int → Int → Int → Int → Int → Int → Int → Option (HP)} (hk169 : ∀ {ls : Array Slot} {H : Heap} {locs : List Loc} {S : HP} {x0 : Int} {x1 : Int} {x2 : Int} {x3 : Int} {x4 : Int} {x5 : Int} {x6 : Int} (hp : e_Pic D cA B S s H) (hS : va_S (e_A B) s.heap H locs) (hl : e_lo ls 7 [(0, e_rv B (x0)), (1, .int (iI (x1))), (2, .int (iI (x2))), (3, .int (iI (x3))), (4, .int (iI (x4))), (5, .int (iI (x5))), (6, .int (iI (x6)))]) (hsh : k169 S x0 x1 x2 x3 x4 x5 x6 = some res), W p l e ({ frames := 2, cells := 0, slots := 0, locals := 42 } : Room) s m args below meth c H locs 0 0 (MQ below (e_Qv D cA B res) args s 0 0 (e_A B)) (F0 m 169 ls [])) (E : e_En p s m args meth c cX13_orders RX13 7 none) {ls : Array Slot} {H : Heap} {locs : List Loc} {S : HP} {x0 : Int} {x1 : Int} {x2 : Int} {x3 : Int} {x4 : Int} {x5 : Int} {x6 : Int} (hp : e_Pic D cA B S s H) (hS : va_S (e_A B) s.heap H locs) (hl : e_lo ls 7 [(0, e_rv B (x0)), (1, .int (iI (x1))), (2, .int (iI (x2))), (3, .int (iI (x3))), (4, .int (iI (x4))), (5, .int (iI (x5))), (6, .int (iI (x6)))]) (hsh : s13_orders_b220 k4 k169 S x0 x1 x2 x3 x4 x5 x6 = some res) : W p l e ({ frames := 2, cells := 0, slots := 0, locals := 42 } : Room) s m args below meth c H locs 0 0 (MQ below (e_Qv D cA B res) args s 0 0 (e_A B)) (F0 m 220 ls []) := by
  obtain ⟨hx, hb, hml, hown, hts, hlk, hrt⟩ := id E
  unfold s13_orders_b220 at hsh
  refine e_aload_n (B := B) (x := x0) hx hb dX13_orders_220 rfl (hl.at 0 rfl) ?_
  obtain ⟨v221, h221, hsh⟩ := Option.bind_eq_some_iff.mp hsh
  refine e_getR (k := 24) hx hb hts in_X13 hown hp h221 rfl (by decide) (by decide) rfl (hts _ kf13_54) rfl dX13_orders_221 ?_
  refine lv_iload hx hb dX13_orders_224 (hl.at 4 rfl) ?_
  refine e_aload_n (B := B) (x := x0) hx hb dX13_orders_226 rfl (hl.at 0 rfl) ?_
  obtain ⟨v227, h227, hsh⟩ := Option.bind_eq_some_iff.mp hsh
  refine e_getR (k := 24) hx hb hts in_X13 hown hp h227 rfl (by decide) (by decide) rfl (hts _ kf13_54) rfl dX13_orders_227 ?_
  refine lv_iload hx hb dX13_orders_230 (hl.at 4 rfl) ?_
  refine lv_iconst (v := iI (1)) hx hb dX13_orders_232 rfl ?_
  refine e_isub hx hb dX13_orders_233 ?_
  obtain ⟨v234, h234, hsh⟩ := Option.bind_eq_some_iff.mp hsh
  refine e_iald hx hb hp h234 dX13_orders_234 ?_
  obtain ⟨S235, h235, hsh⟩ := Option.bind_eq_some_iff.mp hsh
  refine e_iast hx hb hp hS h235 dX13_orders_235 (fun H locs hp hS => ?_)
  refine e_aload_n (B := B) (x := x0) hx hb dX13_orders_236 rfl (hl.at 0 rfl) ?_
  obtain ⟨v237, h237, hsh⟩ := Option.bind_eq_some_iff.mp hsh
  refine e_getR (k := 25) hx hb hts in_X13 hown hp h237 rfl (by decide) (by decide) rfl (hts _ kf13_57) rfl dX13_orders_237 ?_
  refine lv_iload hx hb dX13_orders_240 (hl.at 4 rfl) ?_
  refine e_aload_n (B := B) (x := x0) hx hb dX13_orders_242 rfl (hl.at 0 rfl) ?_
  obtain ⟨v243, h243, hsh⟩ := Option.bind_eq_some_iff.mp hsh
  refine e_getR (k := 25) hx hb hts in_X13 hown hp h243 rfl (by decide) (by decide) rfl (hts _ kf13_57) rfl dX13_orders_243 ?_
  refine lv_iload hx hb dX13_orders_246 (hl.at 4 rfl) ?_
  refine lv_iconst (v := iI (1)) hx hb dX13_orders_248 rfl ?_
  refine e_isub hx hb dX13_orders_249 ?_
  obtain ⟨v250, h250, hsh⟩ := Option.bind_eq_some_iff.mp hsh
  refine e_iald hx hb hp h250 dX13_orders_250 ?_
  obtain ⟨S251, h251, hsh⟩ := Option.bind_eq_some_iff.mp hsh
  refine e_iast hx hb hp hS h251 dX13_orders_251 (fun H locs hp hS => ?_)
  refine e_iinc (n := (-1)) (x := x4) (lv' := [(4, .int (iI ((x4 + (-1))))), (0, e_rv B (x0)), (1, .int (iI (x1))), (2, .int (iI (x2))), (3, .int (iI (x3))), (5, .int (iI (x5))), (6, .int (iI (x6)))]) hx hb dX13_orders_252 hl (k := 4) rfl (by decide) rfl (fun ls hl => ?_)
  refine lv_goto (tgt := 169) hx hb dX13_orders_255 (by decide) ?_
  exact hk169 hp hS (hl.sub [1, 2, 3, 4, 0, 5, 6] rfl) hsh
set_option maxRecDepth 100000 in
set_option maxHeartbeats 4000000 in
theorem w13_orders_l169 {p : Program} {l : Launch} {e : Env} {s : State} {m : MethodId} {args : Array Value} {below : List Frame} {meth : Method} {c : Code} {D : va_G} {cA : Nat → ClassId} {B : Nat} {res : HP} {k4 : HP → Int → Int → Int → Option (HP)} (hk4 : ∀ {ls : Array Slot} {H : Heap} {locs : List Loc} {S : HP} {x0 : Int} {x1 : Int} {x2 : Int} (hp : e_Pic D cA B S s H) (hS : va_S (e_A B) s.heap H locs) (hl : e_lo ls 7 [(0, e_rv B (x0)), (1, .int (iI (x1))), (2, .int (iI (x2)))]) (hsh : k4 S x0 x1 x2 = some res), W p l e ({ frames := 2, cells := 0, slots := 0, locals := 42 } : Room) s m args below meth c H locs 0 0 (MQ below (e_Qv D cA B res) args s 0 0 (e_A B)) (F0 m 4 ls [])) (E : e_En p s m args meth c cX13_orders RX13 7 none) : ∀ (f : Nat) {ls : Array Slot} {H : Heap} {locs : List Loc} {S : HP} {x0 : Int} {x1 : Int} {x2 : Int} {x3 : Int} {x4 : Int} {x5 : Int} {x6 : Int} (hp : e_Pic D cA B S s H) (hS : va_S (e_A B) s.heap H locs) (hl : e_lo ls 7 [(0, e_rv B (x0)), (1, .int (iI (x1))), (2, .int (iI (x2))), (3, .int (iI (x3))), (4, .int (iI (x4))), (5, .int (iI (x5))), (6, .int (iI (x6)))]) (hsh : s13_orders_l169 k4 f S x0 x1 x2 x3 x4 x5 x6 = some res), W p l e ({ frames := 2, cells := 0, slots := 0, locals := 42 } : Room) s m args below meth c H locs 0 0 (MQ below (e_Qv D cA B res) args s 0 0 (e_A B)) (F0 m 169 ls []) := by
  obtain ⟨hx, hb, hml, hown, hts, hlk, hrt⟩ := id E
  intro f
  induction f with
  | zero => intro ls H locs S x0 x1 x2 x3 x4 x5 x6 hp hS hl hsh; cases hsh
  | succ f ih =>
    intro ls H locs S x0 x1 x2 x3 x4 x5 x6 hp hS hl hsh
    have hk169 : ∀ {ls : Array Slot} {H : Heap} {locs : List Loc} {S : HP} {x0 : Int} {x1 : Int} {x2 : Int} {x3 : Int} {x4 : Int} {x5 : Int} {x6 : Int} (hp : e_Pic D cA B S s H) (hS : va_S (e_A B) s.heap H locs) (hl : e_lo ls 7 [(0, e_rv B (x0)), (1, .int (iI (x1))), (2, .int (iI (x2))), (3, .int (iI (x3))), (4, .int (iI (x4))), (5, .int (iI (x5))), (6, .int (iI (x6)))]) (hsh : (s13_orders_l169 k4 f) S x0 x1 x2 x3 x4 x5 x6 = some res), W p l e ({ frames := 2, cells := 0, slots := 0, locals := 42 } : Room) s m args below meth c H locs 0 0 (MQ below (e_Qv D cA B res) args s 0 0 (e_A B)) (F0 m 169 ls []) := ih
    generalize hkk : s13_orders_l169 k4 f = k169 at hk169
    rw [s13_orders_l169] at hsh
    rw [hkk] at hsh
    try dsimp only at hsh
    refine lv_iload_n hx hb dX13_orders_169 rfl (hl.at 3 rfl) ?_
    refine e_if_eq (tgt := 258) hx hb dX13_orders_170 (by decide) (fun c170 => ?_) (fun c170 => ?_)
    · rw [if_pos c170] at hsh
      exact w13_orders_b258 (hk4 := hk4) E hp hS (hl.sub [0, 1, 2, 3, 4, 5, 6] rfl) hsh
    · rw [if_neg c170] at hsh
      refine lv_iload hx hb dX13_orders_173 (hl.at 4 rfl) ?_
      refine e_if_le (tgt := 258) hx hb dX13_orders_175 (by decide) (fun c175 => ?_) (fun c175 => ?_)
      · rw [if_pos c175] at hsh
        exact w13_orders_b258 (hk4 := hk4) E hp hS (hl.sub [0, 1, 2, 3, 4, 5, 6] rfl) hsh
      · rw [if_neg c175] at hsh
        refine e_aload_n (B := B) (x := x0) hx hb dX13_orders_178 rfl (hl.at 0 rfl) ?_
        obtain ⟨v179, h179, hsh⟩ := Option.bind_eq_some_iff.mp hsh
        refine e_getR (k := 24) hx hb hts in_X13 hown hp h179 rfl (by decide) (by decide) rfl (hts _ kf13_54) rfl dX13_orders_179 ?_
        refine lv_iload hx hb dX13_orders_182 (hl.at 4 rfl) ?_
        refine lv_iconst (v := iI (1)) hx hb dX13_orders_184 rfl ?_
        refine e_isub hx hb dX13_orders_185 ?_
        obtain ⟨v186, h186, hsh⟩ := Option.bind_eq_some_iff.mp hsh
        refine e_iald hx hb hp h186 dX13_orders_186 ?_
        refine lv_iload hx hb dX13_orders_187 (hl.at 5 rfl) ?_
        refine e_icmp_gt (tgt := 220) hx hb dX13_orders_189 (by decide) (fun c189 => ?_) (fun c189 => ?_)
        · rw [if_pos c189] at hsh
          exact w13_orders_b220 (hk4 := hk4) (hk169 := hk169) E hp hS (hl.sub [0, 1, 2, 3, 4, 5, 6] rfl) hsh
        · rw [if_neg c189] at hsh
          refine e_aload_n (B := B) (x := x0) hx hb dX13_orders_192 rfl (hl.at 0 rfl) ?_
          obtain ⟨v193, h193, hsh⟩ := Option.bind_eq_some_iff.mp hsh
          refine e_getR (k := 24) hx hb hts in_X13 hown hp h193 rfl (by decide) (by decide) rfl (hts _ kf13_54) rfl dX13_orders_193 ?_
          refine lv_iload hx hb dX13_orders_196 (hl.at 4 rfl) ?_
          refine lv_iconst (v := iI (1)) hx hb dX13_orders_198 rfl ?_
          refine e_isub hx hb dX13_orders_199 ?_
          obtain ⟨v200, h200, hsh⟩ := Option.bind_eq_some_iff.mp hsh
          refine e_iald hx hb hp h200 dX13_orders_200 ?_
          refine lv_iload hx hb dX13_orders_201 (hl.at 5 rfl) ?_
          refine e_icmp_ne (tgt := 258) hx hb dX13_orders_203 (by decide) (fun c203 => ?_) (fun c203 => ?_)
          · rw [if_neg c203] at hsh
            exact w13_orders_b258 (hk4 := hk4) E hp hS (hl.sub [0, 1, 2, 3, 4, 5, 6] rfl) hsh
          · rw [if_pos c203] at hsh
            refine e_aload_n (B := B) (x := x0) hx hb dX13_orders_206 rfl (hl.at 0 rfl) ?_
            obtain ⟨v207, h207, hsh⟩ := Option.bind_eq_some_iff.mp hsh
            refine e_getR (k := 25) hx hb hts in_X13 hown hp h207 rfl (by decide) (by decide) rfl (hts _ kf13_57) rfl dX13_orders_207 ?_
            refine lv_iload hx hb dX13_orders_210 (hl.at 4 rfl) ?_
            refine lv_iconst (v := iI (1)) hx hb dX13_orders_212 rfl ?_
            refine e_isub hx hb dX13_orders_213 ?_
            obtain ⟨v214, h214, hsh⟩ := Option.bind_eq_some_iff.mp hsh
            refine e_iald hx hb hp h214 dX13_orders_214 ?_
            refine lv_iload hx hb dX13_orders_215 (hl.at 6 rfl) ?_
            refine e_icmp_le (tgt := 258) hx hb dX13_orders_217 (by decide) (fun c217 => ?_) (fun c217 => ?_)
            · rw [if_pos c217] at hsh
              exact w13_orders_b258 (hk4 := hk4) E hp hS (hl.sub [0, 1, 2, 3, 4, 5, 6] rfl) hsh
            · rw [if_neg c217] at hsh
              exact w13_orders_b220 (hk4 := hk4) (hk169 := hk169) E hp hS (hl.sub [0, 1, 2, 3, 4, 5, 6] rfl) hsh
set_option maxRecDepth 100000 in
set_option maxHeartbeats 4000000 in
theorem w13_orders_b150 {p : Program} {l : Launch} {e : Env} {s : State} {m : MethodId} {args : Array Value} {below : List Frame} {meth : Method} {c : Code} {D : va_G} {cA : Nat → ClassId} {B : Nat} {res : HP} {k4 : HP → Int → Int → Int → Option (HP)} (hk4 : ∀ {ls : Array Slot} {H : Heap} {locs : List Loc} {S : HP} {x0 : Int} {x1 : Int} {x2 : Int} (hp : e_Pic D cA B S s H) (hS : va_S (e_A B) s.heap H locs) (hl : e_lo ls 7 [(0, e_rv B (x0)), (1, .int (iI (x1))), (2, .int (iI (x2)))]) (hsh : k4 S x0 x1 x2 = some res), W p l e ({ frames := 2, cells := 0, slots := 0, locals := 42 } : Room) s m args below meth c H locs 0 0 (MQ below (e_Qv D cA B res) args s 0 0 (e_A B)) (F0 m 4 ls [])) (E : e_En p s m args meth c cX13_orders RX13 7 none) {ls : Array Slot} {H : Heap} {locs : List Loc} {S : HP} {x0 : Int} {x1 : Int} {x2 : Int} {x3 : Int} (hp : e_Pic D cA B S s H) (hS : va_S (e_A B) s.heap H locs) (hl : e_lo ls 7 [(0, e_rv B (x0)), (1, .int (iI (x1))), (2, .int (iI (x2))), (3, .int (iI (x3)))]) (hsh : s13_orders_b150 k4 S x0 x1 x2 x3 = some res) : W p l e ({ frames := 2, cells := 0, slots := 0, locals := 42 } : Room) s m args below meth c H locs 0 0 (MQ below (e_Qv D cA B res) args s 0 0 (e_A B)) (F0 m 150 ls []) := by
  obtain ⟨hx, hb, hml, hown, hts, hlk, hrt⟩ := id E
  unfold s13_orders_b150 at hsh
  refine lv_iload_n hx hb dX13_orders_150 rfl (hl.at 1 rfl) ?_
  refine e_istore (lv' := [(4, .int (iI (x1))), (0, e_rv B (x0)), (1, .int (iI (x1))), (2, .int (iI (x2))), (3, .int (iI (x3)))]) hx hb dX13_orders_151 hl (by decide) rfl (fun ls hl => ?_)
  refine e_aload_n (B := B) (x := x0) hx hb dX13_orders_153 rfl (hl.at 1 rfl) ?_
  obtain ⟨v154, h154, hsh⟩ := Option.bind_eq_some_iff.mp hsh
  refine e_getR (k := 24) hx hb hts in_X13 hown hp h154 rfl (by decide) (by decide) rfl (hts _ kf13_54) rfl dX13_orders_154 ?_
  refine lv_iload_n hx hb dX13_orders_157 rfl (hl.at 3 rfl) ?_
  obtain ⟨v158, h158, hsh⟩ := Option.bind_eq_some_iff.mp hsh
  refine e_iald hx hb hp h158 dX13_orders_158 ?_
  refine e_istore (lv' := [(5, .int (iI (v158))), (4, .int (iI (x1))), (0, e_rv B (x0)), (1, .int (iI (x1))), (2, .int (iI (x2))), (3, .int (iI (x3)))]) hx hb dX13_orders_159 hl (by decide) rfl (fun ls hl => ?_)
  refine e_aload_n (B := B) (x := x0) hx hb dX13_orders_161 rfl (hl.at 2 rfl) ?_
  obtain ⟨v162, h162, hsh⟩ := Option.bind_eq_some_iff.mp hsh
  refine e_getR (k := 25) hx hb hts in_X13 hown hp h162 rfl (by decide) (by decide) rfl (hts _ kf13_57) rfl dX13_orders_162 ?_
  refine lv_iload_n hx hb dX13_orders_165 rfl (hl.at 4 rfl) ?_
  obtain ⟨v166, h166, hsh⟩ := Option.bind_eq_some_iff.mp hsh
  refine e_iald hx hb hp h166 dX13_orders_166 ?_
  refine e_istore (lv' := [(6, .int (iI (v166))), (5, .int (iI (v158))), (4, .int (iI (x1))), (0, e_rv B (x0)), (1, .int (iI (x1))), (2, .int (iI (x2))), (3, .int (iI (x3)))]) hx hb dX13_orders_167 hl (by decide) rfl (fun ls hl => ?_)
  exact w13_orders_l169 (hk4 := hk4) E 1000000 hp hS (hl.sub [3, 4, 5, 6, 2, 1, 0] rfl) hsh
set_option maxRecDepth 100000 in
set_option maxHeartbeats 4000000 in
theorem w13_orders_b143 {p : Program} {l : Launch} {e : Env} {s : State} {m : MethodId} {args : Array Value} {below : List Frame} {meth : Method} {c : Code} {D : va_G} {cA : Nat → ClassId} {B : Nat} {res : HP} {k4 : HP → Int → Int → Int → Option (HP)} (hk4 : ∀ {ls : Array Slot} {H : Heap} {locs : List Loc} {S : HP} {x0 : Int} {x1 : Int} {x2 : Int} (hp : e_Pic D cA B S s H) (hS : va_S (e_A B) s.heap H locs) (hl : e_lo ls 7 [(0, e_rv B (x0)), (1, .int (iI (x1))), (2, .int (iI (x2)))]) (hsh : k4 S x0 x1 x2 = some res), W p l e ({ frames := 2, cells := 0, slots := 0, locals := 42 } : Room) s m args below meth c H locs 0 0 (MQ below (e_Qv D cA B res) args s 0 0 (e_A B)) (F0 m 4 ls [])) {k96 : HP → Int → Int → Int → Int → Int → Option (HP)} (hk96 : ∀ {ls : Array Slot} {H : Heap} {locs : List Loc} {S : HP} {x0 : Int} {x1 : Int} {x2 : Int} {x3 : Int} {x4 : Int} (hp : e_Pic D cA B S s H) (hS : va_S (e_A B) s.heap H locs) (hl : e_lo ls 7 [(0, e_rv B (x0)), (1, .int (iI (x1))), (2, .int (iI (x2))), (3, .int (iI (x3))), (4, .int (iI (x4)))]) (hsh : k96 S x0 x1 x2 x3 x4 = some res), W p l e ({ frames := 2, cells := 0, slots := 0, locals := 42 } : Room) s m args below meth c H locs 0 0 (MQ below (e_Qv D cA B res) args s 0 0 (e_A B)) (F0 m 96 ls [])) (E : e_En p s m args meth c cX13_orders RX13 7 none) {ls : Array Slot} {H : Heap} {locs : List Loc} {S : HP} {x0 : Int} {x1 : Int} {x2 : Int} {x4 : Int} {y0 : Int} (hp : e_Pic D cA B S s H) (hS : va_S (e_A B) s.heap H locs) (hl : e_lo ls 7 [(0, e_rv B (x0)), (1, .int (iI (x1))), (2, .int (iI (x2))), (4, .int (iI (x4)))]) (hsh : s13_orders_b143 k4 k96 S x0 x1 x2 x4 y0 = some res) : W p l e ({ frames := 2, cells := 0, slots := 0, locals := 42 } : Room) s m args below meth c H locs 0 0 (MQ below (e_Qv D cA B res) args s 0 0 (e_A B)) (F0 m 143 ls [.int (iI (y0))]) := by
  obtain ⟨hx, hb, hml, hown, hts, hlk, hrt⟩ := id E
  unfold s13_orders_b143 at hsh
  refine e_istore_n (lv' := [(3, .int (iI (y0))), (0, e_rv B (x0)), (1, .int (iI (x1))), (2, .int (iI (x2))), (4, .int (iI (x4)))]) hx hb dX13_orders_143 rfl hl (by decide) rfl (fun ls hl => ?_)
  refine e_iinc (n := 1) (x := x4) (lv' := [(4, .int (iI ((x4 + 1)))), (3, .int (iI (y0))), (0, e_rv B (x0)), (1, .int (iI (x1))), (2, .int (iI (x2)))]) hx hb dX13_orders_144 hl (k := 4) rfl (by decide) rfl (fun ls hl => ?_)
  refine lv_goto (tgt := 96) hx hb dX13_orders_147 (by decide) ?_
  exact hk96 hp hS (hl.sub [2, 3, 4, 1, 0] rfl) hsh
set_option maxRecDepth 100000 in
set_option maxHeartbeats 4000000 in
theorem w13_orders_b138 {p : Program} {l : Launch} {e : Env} {s : State} {m : MethodId} {args : Array Value} {below : List Frame} {meth : Method} {c : Code} {D : va_G} {cA : Nat → ClassId} {B : Nat} {res : HP} {k4 : HP → Int → Int → Int → Option (HP)} (hk4 : ∀ {ls : Array Slot} {H : Heap} {locs : List Loc} {S : HP} {x0 : Int} {x1 : Int} {x2 : Int} (hp : e_Pic D cA B S s H) (hS : va_S (e_A B) s.heap H locs) (hl : e_lo ls 7 [(0, e_rv B (x0)), (1, .int (iI (x1))), (2, .int (iI (x2)))]) (hsh : k4 S x0 x1 x2 = some res), W p l e ({ frames := 2, cells := 0, slots := 0, locals := 42 } : Room) s m args below meth c H locs 0 0 (MQ below (e_Qv D cA B res) args s 0 0 (e_A B)) (F0 m 4 ls [])) {k96 : HP → Int → Int → Int → Int → Int → Option (HP)} (hk96 : ∀ {ls : Array Slot} {H : Heap} {locs : List Loc} {S : HP} {x0 : Int} {x1 : Int} {x2 : Int} {x3 : Int} {x4 : Int} (hp : e_Pic D cA B S s H) (hS : va_S (e_A B) s.heap H locs) (hl : e_lo ls 7 [(0, e_rv B (x0)), (1, .int (iI (x1))), (2, .int (iI (x2))), (3, .int (iI (x3))), (4, .int (iI (x4)))]) (hsh : k96 S x0 x1 x2 x3 x4 = some res), W p l e ({ frames := 2, cells := 0, slots := 0, locals := 42 } : Room) s m args below meth c H locs 0 0 (MQ below (e_Qv D cA B res) args s 0 0 (e_A B)) (F0 m 96 ls [])) (E : e_En p s m args meth c cX13_orders RX13 7 none) {ls : Array Slot} {H : Heap} {locs : List Loc} {S : HP} {x0 : Int} {x1 : Int} {x2 : Int} {x4 : Int} (hp : e_Pic D cA B S s H) (hS : va_S (e_A B) s.heap H locs) (hl : e_lo ls 7 [(0, e_rv B (x0)), (1, .int (iI (x1))), (2, .int (iI (x2))), (4, .int (iI (x4)))]) (hsh : s13_orders_b138 k4 k96 S x0 x1 x2 x4 = some res) : W p l e ({ frames := 2, cells := 0, slots := 0, locals := 42 } : Room) s m args below meth c H locs 0 0 (MQ below (e_Qv D cA B res) args s 0 0 (e_A B)) (F0 m 138 ls []) := by
  obtain ⟨hx, hb, hml, hown, hts, hlk, hrt⟩ := id E
  unfold s13_orders_b138 at hsh
  refine lv_iconst (v := iI (1)) hx hb dX13_orders_138 rfl ?_
  refine lv_goto (tgt := 143) hx hb dX13_orders_139 (by decide) ?_
  exact w13_orders_b143 (hk4 := hk4) (hk96 := hk96) E hp hS (hl.sub [0, 1, 2, 3] rfl) hsh
set_option maxRecDepth 100000 in
set_option maxHeartbeats 4000000 in
theorem w13_orders_l96 {p : Program} {l : Launch} {e : Env} {s : State} {m : MethodId} {args : Array Value} {below : List Frame} {meth : Method} {c : Code} {D : va_G} {cA : Nat → ClassId} {B : Nat} {res : HP} {k4 : HP → Int → Int → Int → Option (HP)} (hk4 : ∀ {ls : Array Slot} {H : Heap} {locs : List Loc} {S : HP} {x0 : Int} {x1 : Int} {x2 : Int} (hp : e_Pic D cA B S s H) (hS : va_S (e_A B) s.heap H locs) (hl : e_lo ls 7 [(0, e_rv B (x0)), (1, .int (iI (x1))), (2, .int (iI (x2)))]) (hsh : k4 S x0 x1 x2 = some res), W p l e ({ frames := 2, cells := 0, slots := 0, locals := 42 } : Room) s m args below meth c H locs 0 0 (MQ below (e_Qv D cA B res) args s 0 0 (e_A B)) (F0 m 4 ls [])) (E : e_En p s m args meth c cX13_orders RX13 7 none) : ∀ (f : Nat) {ls : Array Slot} {H : Heap} {locs : List Loc} {S : HP} {x0 : Int} {x1 : Int} {x2 : Int} {x3 : Int} {x4 : Int} (hp : e_Pic D cA B S s H) (hS : va_S (e_A B) s.heap H locs) (hl : e_lo ls 7 [(0, e_rv B (x0)), (1, .int (iI (x1))), (2, .int (iI (x2))), (3, .int (iI (x3))), (4, .int (iI (x4)))]) (hsh : s13_orders_l96 k4 f S x0 x1 x2 x3 x4 = some res), W p l e ({ frames := 2, cells := 0, slots := 0, locals := 42 } : Room) s m args below meth c H locs 0 0 (MQ below (e_Qv D cA B res) args s 0 0 (e_A B)) (F0 m 96 ls []) := by
  obtain ⟨hx, hb, hml, hown, hts, hlk, hrt⟩ := id E
  intro f
  induction f with
  | zero => intro ls H locs S x0 x1 x2 x3 x4 hp hS hl hsh; cases hsh
  | succ f ih =>
    intro ls H locs S x0 x1 x2 x3 x4 hp hS hl hsh
    have hk96 : ∀ {ls : Array Slot} {H : Heap} {locs : List Loc} {S : HP} {x0 : Int} {x1 : Int} {x2 : Int} {x3 : Int} {x4 : Int} (hp : e_Pic D cA B S s H) (hS : va_S (e_A B) s.heap H locs) (hl : e_lo ls 7 [(0, e_rv B (x0)), (1, .int (iI (x1))), (2, .int (iI (x2))), (3, .int (iI (x3))), (4, .int (iI (x4)))]) (hsh : (s13_orders_l96 k4 f) S x0 x1 x2 x3 x4 = some res), W p l e ({ frames := 2, cells := 0, slots := 0, locals := 42 } : Room) s m args below meth c H locs 0 0 (MQ below (e_Qv D cA B res) args s 0 0 (e_A B)) (F0 m 96 ls []) := ih
    generalize hkk : s13_orders_l96 k4 f = k96 at hk96
    rw [s13_orders_l96] at hsh
    rw [hkk] at hsh
    try dsimp only at hsh
    refine lv_iload hx hb dX13_orders_96 (hl.at 4 rfl) ?_
    refine lv_iload_n hx hb dX13_orders_98 rfl (hl.at 1 rfl) ?_
    refine e_icmp_ge (tgt := 150) hx hb dX13_orders_99 (by decide) (fun c99 => ?_) (fun c99 => ?_)
    · rw [if_pos c99] at hsh
      exact w13_orders_b150 (hk4 := hk4) E hp hS (hl.sub [0, 1, 2, 3] rfl) hsh
    · rw [if_neg c99] at hsh
      refine lv_iload_n hx hb dX13_orders_102 rfl (hl.at 3 rfl) ?_
      refine e_if_eq (tgt := 150) hx hb dX13_orders_103 (by decide) (fun c103 => ?_) (fun c103 => ?_)
      · rw [if_pos c103] at hsh
        exact w13_orders_b150 (hk4 := hk4) E hp hS (hl.sub [0, 1, 2, 3] rfl) hsh
      · rw [if_neg c103] at hsh
        refine e_aload_n (B := B) (x := x0) hx hb dX13_orders_106 rfl (hl.at 0 rfl) ?_
        obtain ⟨v107, h107, hsh⟩ := Option.bind_eq_some_iff.mp hsh
        refine e_getR (k := 24) hx hb hts in_X13 hown hp h107 rfl (by decide) (by decide) rfl (hts _ kf13_54) rfl dX13_orders_107 ?_
        refine lv_iload hx hb dX13_orders_110 (hl.at 4 rfl) ?_
        obtain ⟨v112, h112, hsh⟩ := Option.bind_eq_some_iff.mp hsh
        refine e_iald hx hb hp h112 dX13_orders_112 ?_
        refine e_aload_n (B := B) (x := x0) hx hb dX13_orders_113 rfl (hl.at 0 rfl) ?_
        obtain ⟨v114, h114, hsh⟩ := Option.bind_eq_some_iff.mp hsh
        refine e_getR (k := 24) hx hb hts in_X13 hown hp h114 rfl (by decide) (by decide) rfl (hts _ kf13_54) rfl dX13_orders_114 ?_
        refine lv_iload_n hx hb dX13_orders_117 rfl (hl.at 2 rfl) ?_
        obtain ⟨v118, h118, hsh⟩ := Option.bind_eq_some_iff.mp hsh
        refine e_iald hx hb hp h118 dX13_orders_118 ?_
        refine e_icmp_ne (tgt := 138) hx hb dX13_orders_119 (by decide) (fun c119 => ?_) (fun c119 => ?_)
        · rw [if_neg c119] at hsh
          exact w13_orders_b138 (hk4 := hk4) (hk96 := hk96) E hp hS (hl.sub [0, 1, 2, 4] rfl) hsh
        · rw [if_pos c119] at hsh
          refine e_aload_n (B := B) (x := x0) hx hb dX13_orders_122 rfl (hl.at 0 rfl) ?_
          obtain ⟨v123, h123, hsh⟩ := Option.bind_eq_some_iff.mp hsh
          refine e_getR (k := 25) hx hb hts in_X13 hown hp h123 rfl (by decide) (by decide) rfl (hts _ kf13_57) rfl dX13_orders_123 ?_
          refine lv_iload hx hb dX13_orders_126 (hl.at 4 rfl) ?_
          obtain ⟨v128, h128, hsh⟩ := Option.bind_eq_some_iff.mp hsh
          refine e_iald hx hb hp h128 dX13_orders_128 ?_
          refine e_aload_n (B := B) (x := x0) hx hb dX13_orders_129 rfl (hl.at 0 rfl) ?_
          obtain ⟨v130, h130, hsh⟩ := Option.bind_eq_some_iff.mp hsh
          refine e_getR (k := 25) hx hb hts in_X13 hown hp h130 rfl (by decide) (by decide) rfl (hts _ kf13_57) rfl dX13_orders_130 ?_
          refine lv_iload_n hx hb dX13_orders_133 rfl (hl.at 2 rfl) ?_
          obtain ⟨v134, h134, hsh⟩ := Option.bind_eq_some_iff.mp hsh
          refine e_iald hx hb hp h134 dX13_orders_134 ?_
          refine e_icmp_eq (tgt := 142) hx hb dX13_orders_135 (by decide) (fun c135 => ?_) (fun c135 => ?_)
          · rw [if_pos c135] at hsh
            refine lv_iconst (v := iI (0)) hx hb dX13_orders_142 rfl ?_
            exact w13_orders_b143 (hk4 := hk4) (hk96 := hk96) E hp hS (hl.sub [0, 1, 2, 4] rfl) hsh
          · rw [if_neg c135] at hsh
            exact w13_orders_b138 (hk4 := hk4) (hk96 := hk96) E hp hS (hl.sub [0, 1, 2, 4] rfl) hsh
set_option maxRecDepth 100000 in
set_option maxHeartbeats 4000000 in
theorem w13_orders_b92 {p : Program} {l : Launch} {e : Env} {s : State} {m : MethodId} {args : Array Value} {below : List Frame} {meth : Method} {c : Code} {D : va_G} {cA : Nat → ClassId} {B : Nat} {res : HP} {k4 : HP → Int → Int → Int → Option (HP)} (hk4 : ∀ {ls : Array Slot} {H : Heap} {locs : List Loc} {S : HP} {x0 : Int} {x1 : Int} {x2 : Int} (hp : e_Pic D cA B S s H) (hS : va_S (e_A B) s.heap H locs) (hl : e_lo ls 7 [(0, e_rv B (x0)), (1, .int (iI (x1))), (2, .int (iI (x2)))]) (hsh : k4 S x0 x1 x2 = some res), W p l e ({ frames := 2, cells := 0, slots := 0, locals := 42 } : Room) s m args below meth c H locs 0 0 (MQ below (e_Qv D cA B res) args s 0 0 (e_A B)) (F0 m 4 ls [])) (E : e_En p s m args meth c cX13_orders RX13 7 none) {ls : Array Slot} {H : Heap} {locs : List Loc} {S : HP} {x0 : Int} {x1 : Int} {x2 : Int} {y0 : Int} (hp : e_Pic D cA B S s H) (hS : va_S (e_A B) s.heap H locs) (hl : e_lo ls 7 [(0, e_rv B (x0)), (1, .int (iI (x1))), (2, .int (iI (x2)))]) (hsh : s13_orders_b92 k4 S x0 x1 x2 y0 = some res) : W p l e ({ frames := 2, cells := 0, slots := 0, locals := 42 } : Room) s m args below meth c H locs 0 0 (MQ below (e_Qv D cA B res) args s 0 0 (e_A B)) (F0 m 92 ls [.int (iI (y0))]) := by
  obtain ⟨hx, hb, hml, hown, hts, hlk, hrt⟩ := id E
  unfold s13_orders_b92 at hsh
  refine e_istore_n (lv' := [(3, .int (iI (y0))), (0, e_rv B (x0)), (1, .int (iI (x1))), (2, .int (iI (x2)))]) hx hb dX13_orders_92 rfl hl (by decide) rfl (fun ls hl => ?_)
  refine lv_iconst (v := iI (0)) hx hb dX13_orders_93 rfl ?_
  refine e_istore (lv' := [(4, .int (iI (0))), (3, .int (iI (y0))), (0, e_rv B (x0)), (1, .int (iI (x1))), (2, .int (iI (x2)))]) hx hb dX13_orders_94 hl (by decide) rfl (fun ls hl => ?_)
  exact w13_orders_l96 (hk4 := hk4) E 1000000 hp hS (hl.sub [2, 3, 4, 1, 0] rfl) hsh
set_option maxRecDepth 100000 in
set_option maxHeartbeats 4000000 in
theorem w13_orders_b91 {p : Program} {l : Launch} {e : Env} {s : State} {m : MethodId} {args : Array Value} {below : List Frame} {meth : Method} {c : Code} {D : va_G} {cA : Nat → ClassId} {B : Nat} {res : HP} {k4 : HP → Int → Int → Int → Option (HP)} (hk4 : ∀ {ls : Array Slot} {H : Heap} {locs : List Loc} {S : HP} {x0 : Int} {x1 : Int} {x2 : Int} (hp : e_Pic D cA B S s H) (hS : va_S (e_A B) s.heap H locs) (hl : e_lo ls 7 [(0, e_rv B (x0)), (1, .int (iI (x1))), (2, .int (iI (x2)))]) (hsh : k4 S x0 x1 x2 = some res), W p l e ({ frames := 2, cells := 0, slots := 0, locals := 42 } : Room) s m args below meth c H locs 0 0 (MQ below (e_Qv D cA B res) args s 0 0 (e_A B)) (F0 m 4 ls [])) (E : e_En p s m args meth c cX13_orders RX13 7 none) {ls : Array Slot} {H : Heap} {locs : List Loc} {S : HP} {x0 : Int} {x1 : Int} {x2 : Int} (hp : e_Pic D cA B S s H) (hS : va_S (e_A B) s.heap H locs) (hl : e_lo ls 7 [(0, e_rv B (x0)), (1, .int (iI (x1))), (2, .int (iI (x2)))]) (hsh : s13_orders_b91 k4 S x0 x1 x2 = some res) : W p l e ({ frames := 2, cells := 0, slots := 0, locals := 42 } : Room) s m args below meth c H locs 0 0 (MQ below (e_Qv D cA B res) args s 0 0 (e_A B)) (F0 m 91 ls []) := by
  obtain ⟨hx, hb, hml, hown, hts, hlk, hrt⟩ := id E
  unfold s13_orders_b91 at hsh
  refine lv_iconst (v := iI (0)) hx hb dX13_orders_91 rfl ?_
  exact w13_orders_b92 (hk4 := hk4) E hp hS (hl.sub [0, 1, 2] rfl) hsh
set_option maxRecDepth 100000 in
set_option maxHeartbeats 4000000 in
theorem w13_orders_b87 {p : Program} {l : Launch} {e : Env} {s : State} {m : MethodId} {args : Array Value} {below : List Frame} {meth : Method} {c : Code} {D : va_G} {cA : Nat → ClassId} {B : Nat} {res : HP} {k4 : HP → Int → Int → Int → Option (HP)} (hk4 : ∀ {ls : Array Slot} {H : Heap} {locs : List Loc} {S : HP} {x0 : Int} {x1 : Int} {x2 : Int} (hp : e_Pic D cA B S s H) (hS : va_S (e_A B) s.heap H locs) (hl : e_lo ls 7 [(0, e_rv B (x0)), (1, .int (iI (x1))), (2, .int (iI (x2)))]) (hsh : k4 S x0 x1 x2 = some res), W p l e ({ frames := 2, cells := 0, slots := 0, locals := 42 } : Room) s m args below meth c H locs 0 0 (MQ below (e_Qv D cA B res) args s 0 0 (e_A B)) (F0 m 4 ls [])) (E : e_En p s m args meth c cX13_orders RX13 7 none) {ls : Array Slot} {H : Heap} {locs : List Loc} {S : HP} {x0 : Int} {x1 : Int} {x2 : Int} (hp : e_Pic D cA B S s H) (hS : va_S (e_A B) s.heap H locs) (hl : e_lo ls 7 [(0, e_rv B (x0)), (1, .int (iI (x1))), (2, .int (iI (x2)))]) (hsh : s13_orders_b87 k4 S x0 x1 x2 = some res) : W p l e ({ frames := 2, cells := 0, slots := 0, locals := 42 } : Room) s m args below meth c H locs 0 0 (MQ below (e_Qv D cA B res) args s 0 0 (e_A B)) (F0 m 87 ls []) := by
  obtain ⟨hx, hb, hml, hown, hts, hlk, hrt⟩ := id E
  unfold s13_orders_b87 at hsh
  refine lv_iconst (v := iI (1)) hx hb dX13_orders_87 rfl ?_
  refine lv_goto (tgt := 92) hx hb dX13_orders_88 (by decide) ?_
  exact w13_orders_b92 (hk4 := hk4) E hp hS (hl.sub [0, 1, 2] rfl) hsh
set_option maxRecDepth 100000 in
set_option maxHeartbeats 4000000 in
theorem w13_orders_b50 {p : Program} {l : Launch} {e : Env} {s : State} {m : MethodId} {args : Array Value} {below : List Frame} {meth : Method} {c : Code} {D : va_G} {cA : Nat → ClassId} {B : Nat} {res : HP} {k4 : HP → Int → Int → Int → Option (HP)} (hk4 : ∀ {ls : Array Slot} {H : Heap} {locs : List Loc} {S : HP} {x0 : Int} {x1 : Int} {x2 : Int} (hp : e_Pic D cA B S s H) (hS : va_S (e_A B) s.heap H locs) (hl : e_lo ls 7 [(0, e_rv B (x0)), (1, .int (iI (x1))), (2, .int (iI (x2)))]) (hsh : k4 S x0 x1 x2 = some res), W p l e ({ frames := 2, cells := 0, slots := 0, locals := 42 } : Room) s m args below meth c H locs 0 0 (MQ below (e_Qv D cA B res) args s 0 0 (e_A B)) (F0 m 4 ls [])) (E : e_En p s m args meth c cX13_orders RX13 7 none) {ls : Array Slot} {H : Heap} {locs : List Loc} {S : HP} {x0 : Int} {x1 : Int} {x2 : Int} {y0 : Int} {y1 : Int} {y2 : Int} (hp : e_Pic D cA B S s H) (hS : va_S (e_A B) s.heap H locs) (hl : e_lo ls 7 [(0, e_rv B (x0)), (1, .int (iI (x1))), (2, .int (iI (x2)))]) (hsh : s13_orders_b50 k4 S x0 x1 x2 y0 y1 y2 = some res) : W p l e ({ frames := 2, cells := 0, slots := 0, locals := 42 } : Room) s m args below meth c H locs 0 0 (MQ below (e_Qv D cA B res) args s 0 0 (e_A B)) (F0 m 50 ls [.int (iI (y2)), .int (iI (y1)), e_rv B (y0)]) := by
  obtain ⟨hx, hb, hml, hown, hts, hlk, hrt⟩ := id E
  unfold s13_orders_b50 at hsh
  obtain ⟨S50, h50, hsh⟩ := Option.bind_eq_some_iff.mp hsh
  refine e_iast hx hb hp hS h50 dX13_orders_50 (fun H locs hp hS => ?_)
  refine e_aload_n (B := B) (x := x0) hx hb dX13_orders_51 rfl (hl.at 0 rfl) ?_
  obtain ⟨v52, h52, hsh⟩ := Option.bind_eq_some_iff.mp hsh
  refine e_getR (k := 24) hx hb hts in_X13 hown hp h52 rfl (by decide) (by decide) rfl (hts _ kf13_54) rfl dX13_orders_52 ?_
  refine lv_iload_n hx hb dX13_orders_55 rfl (hl.at 2 rfl) ?_
  obtain ⟨v56, h56, hsh⟩ := Option.bind_eq_some_iff.mp hsh
  refine e_iald hx hb hp h56 dX13_orders_56 ?_
  refine lv_iconst (v := iI (-1)) hx hb dX13_orders_57 rfl ?_
  refine e_icmp_eq (tgt := 91) hx hb dX13_orders_58 (by decide) (fun c58 => ?_) (fun c58 => ?_)
  · rw [if_pos c58] at hsh
    exact w13_orders_b91 (hk4 := hk4) E hp hS (hl.sub [0, 1, 2] rfl) hsh
  · rw [if_neg c58] at hsh
    refine e_aload_n (B := B) (x := x0) hx hb dX13_orders_61 rfl (hl.at 0 rfl) ?_
    obtain ⟨v62, h62, hsh⟩ := Option.bind_eq_some_iff.mp hsh
    refine e_getR (k := 24) hx hb hts in_X13 hown hp h62 rfl (by decide) (by decide) rfl (hts _ kf13_54) rfl dX13_orders_62 ?_
    refine lv_iload_n hx hb dX13_orders_65 rfl (hl.at 2 rfl) ?_
    obtain ⟨v66, h66, hsh⟩ := Option.bind_eq_some_iff.mp hsh
    refine e_iald hx hb hp h66 dX13_orders_66 ?_
    refine e_aload_n (B := B) (x := x0) hx hb dX13_orders_67 rfl (hl.at 0 rfl) ?_
    obtain ⟨v68, h68, hsh⟩ := Option.bind_eq_some_iff.mp hsh
    refine e_getI (k := 5) hx hb hts in_X13 hown hp h68 rfl (by decide) (by decide) rfl (hts _ kf13_213) rfl dX13_orders_68 ?_
    refine e_icmp_ne (tgt := 87) hx hb dX13_orders_71 (by decide) (fun c71 => ?_) (fun c71 => ?_)
    · rw [if_neg c71] at hsh
      exact w13_orders_b87 (hk4 := hk4) E hp hS (hl.sub [0, 1, 2] rfl) hsh
    · rw [if_pos c71] at hsh
      refine e_aload_n (B := B) (x := x0) hx hb dX13_orders_74 rfl (hl.at 0 rfl) ?_
      obtain ⟨v75, h75, hsh⟩ := Option.bind_eq_some_iff.mp hsh
      refine e_getR (k := 25) hx hb hts in_X13 hown hp h75 rfl (by decide) (by decide) rfl (hts _ kf13_57) rfl dX13_orders_75 ?_
      refine lv_iload_n hx hb dX13_orders_78 rfl (hl.at 2 rfl) ?_
      obtain ⟨v79, h79, hsh⟩ := Option.bind_eq_some_iff.mp hsh
      refine e_iald hx hb hp h79 dX13_orders_79 ?_
      refine e_aload_n (B := B) (x := x0) hx hb dX13_orders_80 rfl (hl.at 0 rfl) ?_
      obtain ⟨v81, h81, hsh⟩ := Option.bind_eq_some_iff.mp hsh
      refine e_getI (k := 6) hx hb hts in_X13 hown hp h81 rfl (by decide) (by decide) rfl (hts _ kf13_216) rfl dX13_orders_81 ?_
      refine e_icmp_eq (tgt := 91) hx hb dX13_orders_84 (by decide) (fun c84 => ?_) (fun c84 => ?_)
      · rw [if_pos c84] at hsh
        exact w13_orders_b91 (hk4 := hk4) E hp hS (hl.sub [0, 1, 2] rfl) hsh
      · rw [if_neg c84] at hsh
        exact w13_orders_b87 (hk4 := hk4) E hp hS (hl.sub [0, 1, 2] rfl) hsh
set_option maxRecDepth 100000 in
set_option maxHeartbeats 4000000 in
theorem w13_orders_l4 {p : Program} {l : Launch} {e : Env} {s : State} {m : MethodId} {args : Array Value} {below : List Frame} {meth : Method} {c : Code} {D : va_G} {cA : Nat → ClassId} {B : Nat} {res : HP} (E : e_En p s m args meth c cX13_orders RX13 7 none) : ∀ (f : Nat) {ls : Array Slot} {H : Heap} {locs : List Loc} {S : HP} {x0 : Int} {x1 : Int} {x2 : Int} (hp : e_Pic D cA B S s H) (hS : va_S (e_A B) s.heap H locs) (hl : e_lo ls 7 [(0, e_rv B (x0)), (1, .int (iI (x1))), (2, .int (iI (x2)))]) (hsh : s13_orders_l4 f S x0 x1 x2 = some res), W p l e ({ frames := 2, cells := 0, slots := 0, locals := 42 } : Room) s m args below meth c H locs 0 0 (MQ below (e_Qv D cA B res) args s 0 0 (e_A B)) (F0 m 4 ls []) := by
  obtain ⟨hx, hb, hml, hown, hts, hlk, hrt⟩ := id E
  intro f
  induction f with
  | zero => intro ls H locs S x0 x1 x2 hp hS hl hsh; cases hsh
  | succ f ih =>
    intro ls H locs S x0 x1 x2 hp hS hl hsh
    have hk4 : ∀ {ls : Array Slot} {H : Heap} {locs : List Loc} {S : HP} {x0 : Int} {x1 : Int} {x2 : Int} (hp : e_Pic D cA B S s H) (hS : va_S (e_A B) s.heap H locs) (hl : e_lo ls 7 [(0, e_rv B (x0)), (1, .int (iI (x1))), (2, .int (iI (x2)))]) (hsh : (s13_orders_l4 f) S x0 x1 x2 = some res), W p l e ({ frames := 2, cells := 0, slots := 0, locals := 42 } : Room) s m args below meth c H locs 0 0 (MQ below (e_Qv D cA B res) args s 0 0 (e_A B)) (F0 m 4 ls []) := ih
    generalize hkk : s13_orders_l4 f = k4 at hk4
    rw [s13_orders_l4] at hsh
    rw [hkk] at hsh
    try dsimp only at hsh
    refine lv_iload_n hx hb dX13_orders_4 rfl (hl.at 2 rfl) ?_
    refine e_aload_n (B := B) (x := x0) hx hb dX13_orders_5 rfl (hl.at 0 rfl) ?_
    obtain ⟨v6, h6, hsh⟩ := Option.bind_eq_some_iff.mp hsh
    refine e_getI (k := 23) hx hb hts in_X13 hown hp h6 rfl (by decide) (by decide) rfl (hts _ kf13_244) rfl dX13_orders_6 ?_
    refine e_icmp_ge (tgt := 289) hx hb dX13_orders_9 (by decide) (fun c9 => ?_) (fun c9 => ?_)
    · rw [if_pos c9] at hsh
      refine e_aload_n (B := B) (x := x0) hx hb dX13_orders_289 rfl (hl.at 0 rfl) ?_
      refine lv_iload_n hx hb dX13_orders_290 rfl (hl.at 1 rfl) ?_
      obtain ⟨S291, h291, hsh⟩ := Option.bind_eq_some_iff.mp hsh
      refine e_putI (k := 23) hx hb hts in_X13 tyX13 tyX13_ok nmX13 hown hp hS h291 rfl (by decide) (by decide) rfl (hts _ kf13_244) rfl rfl (by decide +kernel) dX13_orders_291 (fun H locs hp hS => ?_)
      cases hsh
      exact e_vret hx hb hrt hlk hp hS dX13_orders_294
    · rw [if_neg c9] at hsh
      refine e_aload_n (B := B) (x := x0) hx hb dX13_orders_12 rfl (hl.at 0 rfl) ?_
      obtain ⟨v13, h13, hsh⟩ := Option.bind_eq_some_iff.mp hsh
      refine e_getR (k := 25) hx hb hts in_X13 hown hp h13 rfl (by decide) (by decide) rfl (hts _ kf13_57) rfl dX13_orders_13 ?_
      refine lv_iload_n hx hb dX13_orders_16 rfl (hl.at 2 rfl) ?_
      refine e_aload_n (B := B) (x := x0) hx hb dX13_orders_17 rfl (hl.at 0 rfl) ?_
      obtain ⟨v18, h18, hsh⟩ := Option.bind_eq_some_iff.mp hsh
      refine e_getR (k := 24) hx hb hts in_X13 hown hp h18 rfl (by decide) (by decide) rfl (hts _ kf13_54) rfl dX13_orders_18 ?_
      refine lv_iload_n hx hb dX13_orders_21 rfl (hl.at 2 rfl) ?_
      obtain ⟨v22, h22, hsh⟩ := Option.bind_eq_some_iff.mp hsh
      refine e_iald hx hb hp h22 dX13_orders_22 ?_
      refine lv_iconst (v := iI (-1)) hx hb dX13_orders_23 rfl ?_
      refine e_icmp_ne (tgt := 31) hx hb dX13_orders_24 (by decide) (fun c24 => ?_) (fun c24 => ?_)
      · rw [if_neg c24] at hsh
        refine e_aload_n (B := B) (x := x0) hx hb dX13_orders_31 rfl (hl.at 0 rfl) ?_
        obtain ⟨v32, h32, hsh⟩ := Option.bind_eq_some_iff.mp hsh
        refine e_getR (k := 25) hx hb hts in_X13 hown hp h32 rfl (by decide) (by decide) rfl (hts _ kf13_57) rfl dX13_orders_32 ?_
        refine lv_iload_n hx hb dX13_orders_35 rfl (hl.at 2 rfl) ?_
        obtain ⟨v36, h36, hsh⟩ := Option.bind_eq_some_iff.mp hsh
        refine e_iald hx hb hp h36 dX13_orders_36 ?_
        refine e_aload_n (B := B) (x := x0) hx hb dX13_orders_37 rfl (hl.at 0 rfl) ?_
        refine e_aload_n (B := B) (x := x0) hx hb dX13_orders_38 rfl (hl.at 0 rfl) ?_
        obtain ⟨v39, h39, hsh⟩ := Option.bind_eq_some_iff.mp hsh
        refine e_getR (k := 24) hx hb hts in_X13 hown hp h39 rfl (by decide) (by decide) rfl (hts _ kf13_54) rfl dX13_orders_39 ?_
        refine lv_iload_n hx hb dX13_orders_42 rfl (hl.at 2 rfl) ?_
        obtain ⟨v43, h43, hsh⟩ := Option.bind_eq_some_iff.mp hsh
        refine e_iald hx hb hp h43 dX13_orders_43 ?_
        obtain ⟨⟨v44, S44⟩, h44, hsh⟩ := Option.bind_eq_some_iff.mp hsh
        have hsh : _ = _ := hsh
        try dsimp only at hsh
        have ok44 := ok13_lastOf h44
        refine e_callI (nL := 7) (mc := 0) (ms := 0) (T := TX13) (N := 126) (As := [.int (iI (v43))]) (rest := [.int (iI (v36)), .int (iI (x2)), e_rv B (v13)]) hx hb hml hown hts hp hS hl.size ok44.1 ok44.2.1 ok44.2.2 rfl (by decide) (c13_lastOf l D cA B S S44 (x0) (v43) v44 h44) rfl rfl kd13_lastOf (kl13_309) ks13_lastOf kv13_lastOf ki13 kh13_lastOf ⟨Nat.le_of_ble_eq_true rfl, Nat.le_of_ble_eq_true rfl⟩ rfl (by simp [e_rv_cat, e_int_cat]) ⟨Nat.le_refl _, Nat.le_refl _⟩ dX13_orders_44 rfl (fun H locs hp hS => ?_)
        obtain ⟨⟨v47, S47⟩, h47, hsh⟩ := Option.bind_eq_some_iff.mp hsh
        have hsh : _ = _ := hsh
        try dsimp only at hsh
        refine e_callS (nL := 7) (mc := 0) (ms := 0) (As := [.int (iI (v36)), .int (iI (v44))]) (rest := [.int (iI (x2)), e_rv B (v13)]) hx hb hml hown hts hp hS hl.size (c13_lesser l D cA B S44 S47 (v36) (v44) v47 h47) rfl rfl kd13_lesser (kl13_257) ks13_lesser ki13 kh13_lesser ⟨Nat.le_of_ble_eq_true rfl, Nat.le_of_ble_eq_true rfl⟩ rfl (by simp [e_rv_cat, e_int_cat]) ⟨Nat.le_refl _, Nat.le_refl _⟩ dX13_orders_47 rfl (fun H locs hp hS => ?_)
        exact w13_orders_b50 (hk4 := hk4) E hp hS (hl.sub [0, 1, 2] rfl) hsh
      · rw [if_pos c24] at hsh
        refine lv_iconst (v := iI (0)) hx hb dX13_orders_27 rfl ?_
        refine lv_goto (tgt := 50) hx hb dX13_orders_28 (by decide) ?_
        exact w13_orders_b50 (hk4 := hk4) E hp hS (hl.sub [0, 1, 2] rfl) hsh
set_option maxRecDepth 100000 in
set_option maxHeartbeats 4000000 in
theorem c13_orders (l : Launch) (D : va_G) (cA : Nat → ClassId) (B : Nat) (S S' : HP) (x0 : Int) (hsh : s13_orders S x0 = some S') : Met l yX13_orders (e_wu yX13_orders cX13_orders 7 none) ({ frames := 2, cells := 0, slots := 0, locals := 42 } : Room) (va_Pc [e_rv B (x0)] (fun U => e_PU D cA B S U)) (e_Qv D cA B S') 0 0 (e_A B) := by
  refine Met.ofW (cc := cX13_orders) (maxL := 7) (ret := none) (by decide +kernel) rfl ?_
  intro p e s m args below meth c s₁ Bd hml hv
  obtain ⟨rfl, hp⟩ := hv
  have hp : e_Pic D cA B S s s.heap := hp
  have hx := Bd.exec
  have hb := Bd.bytes
  have hrt := Bd.returns
  have hlk := Bd.notSynchronized
  have hown : s.vm.findClass RX13 = some m.cls := findClass_of_methodNamed Bd.named
  have hts : ∀ w ∈ e_tb, w.before ([e_rv B (x0)] : List Value).toArray s = true := fun w h => atoms_spec (ws := (e_wu yX13_orders cX13_orders 7 none)) Bd.pre w (List.mem_cons_of_mem _ h)
  have E : e_En p s m ([e_rv B (x0)] : List Value).toArray meth c cX13_orders RX13 7 none := ⟨hx, hb, hml, hown, hts, hlk, hrt⟩
  have hS : va_S (e_A B) s.heap s.heap [] := va_S.rf
  have hl := e_entry (vs := [e_rv B (x0)]) (n := 7) (Nat.le_of_ble_eq_true rfl) (e_cc (e_rv_cat _ _) e_cn)
  rw [lg_entry_eq]
  generalize (lg_sl [e_rv B (x0)] ++ List.replicate (7 - (lg_sl [e_rv B (x0)]).length) Slot.unset).toArray = ls at hl ⊢
  generalize ([e_rv B (x0)] : List Value).toArray = args at hts E ⊢
  have hl : e_lo ls 7 [(0, e_rv B (x0))] := hl
  have hsh := (gd_some hsh).2
  refine lv_iconst (v := iI (0)) hx hb dX13_orders_0 rfl ?_
  refine e_istore_n (lv' := [(1, .int (iI (0))), (0, e_rv B (x0))]) hx hb dX13_orders_1 rfl hl (by decide) rfl (fun ls hl => ?_)
  refine lv_iconst (v := iI (0)) hx hb dX13_orders_2 rfl ?_
  refine e_istore_n (lv' := [(2, .int (iI (0))), (1, .int (iI (0))), (0, e_rv B (x0))]) hx hb dX13_orders_3 rfl hl (by decide) rfl (fun ls hl => ?_)
  exact w13_orders_l4 E 1000000 hp hS (hl.sub [2, 1, 0] rfl) hsh
theorem ok13_dropsMapped {S : HP} {x0 : Int} {r : HP} (h : s13_dropsMapped S x0 = some r) : 0 ≤ x0 ∧ x0.toNat < e_n S ∧ e_g S x0.toNat = 13 := (gd_some h).1
set_option maxRecDepth 100000 in
set_option maxHeartbeats 4000000 in
theorem w13_dropsMapped_b55 {p : Program} {l : Launch} {e : Env} {s : State} {m : MethodId} {args : Array Value} {below : List Frame} {meth : Method} {c : Code} {D : va_G} {cA : Nat → ClassId} {B : Nat} {res : HP} {k4 : HP → Int → Int → Int → Option (HP)} (hk4 : ∀ {ls : Array Slot} {H : Heap} {locs : List Loc} {S : HP} {x0 : Int} {x1 : Int} {x2 : Int} (hp : e_Pic D cA B S s H) (hS : va_S (e_A B) s.heap H locs) (hl : e_lo ls 3 [(0, e_rv B (x0)), (1, .int (iI (x1))), (2, .int (iI (x2)))]) (hsh : k4 S x0 x1 x2 = some res), W p l e ({ frames := 0, cells := 0, slots := 0, locals := 0 } : Room) s m args below meth c H locs 0 0 (MQ below (e_Qv D cA B res) args s 0 0 (e_A B)) (F0 m 4 ls [])) (E : e_En p s m args meth c cX13_dropsMapped RX13 3 none) {ls : Array Slot} {H : Heap} {locs : List Loc} {S : HP} {x0 : Int} {x1 : Int} {x2 : Int} (hp : e_Pic D cA B S s H) (hS : va_S (e_A B) s.heap H locs) (hl : e_lo ls 3 [(0, e_rv B (x0)), (1, .int (iI (x1))), (2, .int (iI (x2)))]) (hsh : s13_dropsMapped_b55 k4 S x0 x1 x2 = some res) : W p l e ({ frames := 0, cells := 0, slots := 0, locals := 0 } : Room) s m args below meth c H locs 0 0 (MQ below (e_Qv D cA B res) args s 0 0 (e_A B)) (F0 m 55 ls []) := by
  obtain ⟨hx, hb, hml, hown, hts, hlk, hrt⟩ := id E
  unfold s13_dropsMapped_b55 at hsh
  refine e_iinc (n := 1) (x := x2) (lv' := [(2, .int (iI ((x2 + 1)))), (0, e_rv B (x0)), (1, .int (iI (x1)))]) hx hb dX13_dropsMapped_55 hl (k := 2) rfl (by decide) rfl (fun ls hl => ?_)
  refine lv_goto (tgt := 4) hx hb dX13_dropsMapped_58 (by decide) ?_
  exact hk4 hp hS (hl.sub [1, 2, 0] rfl) hsh
set_option maxRecDepth 100000 in
set_option maxHeartbeats 4000000 in
theorem w13_dropsMapped_l4 {p : Program} {l : Launch} {e : Env} {s : State} {m : MethodId} {args : Array Value} {below : List Frame} {meth : Method} {c : Code} {D : va_G} {cA : Nat → ClassId} {B : Nat} {res : HP} (E : e_En p s m args meth c cX13_dropsMapped RX13 3 none) : ∀ (f : Nat) {ls : Array Slot} {H : Heap} {locs : List Loc} {S : HP} {x0 : Int} {x1 : Int} {x2 : Int} (hp : e_Pic D cA B S s H) (hS : va_S (e_A B) s.heap H locs) (hl : e_lo ls 3 [(0, e_rv B (x0)), (1, .int (iI (x1))), (2, .int (iI (x2)))]) (hsh : s13_dropsMapped_l4 f S x0 x1 x2 = some res), W p l e ({ frames := 0, cells := 0, slots := 0, locals := 0 } : Room) s m args below meth c H locs 0 0 (MQ below (e_Qv D cA B res) args s 0 0 (e_A B)) (F0 m 4 ls []) := by
  obtain ⟨hx, hb, hml, hown, hts, hlk, hrt⟩ := id E
  intro f
  induction f with
  | zero => intro ls H locs S x0 x1 x2 hp hS hl hsh; cases hsh
  | succ f ih =>
    intro ls H locs S x0 x1 x2 hp hS hl hsh
    have hk4 : ∀ {ls : Array Slot} {H : Heap} {locs : List Loc} {S : HP} {x0 : Int} {x1 : Int} {x2 : Int} (hp : e_Pic D cA B S s H) (hS : va_S (e_A B) s.heap H locs) (hl : e_lo ls 3 [(0, e_rv B (x0)), (1, .int (iI (x1))), (2, .int (iI (x2)))]) (hsh : (s13_dropsMapped_l4 f) S x0 x1 x2 = some res), W p l e ({ frames := 0, cells := 0, slots := 0, locals := 0 } : Room) s m args below meth c H locs 0 0 (MQ below (e_Qv D cA B res) args s 0 0 (e_A B)) (F0 m 4 ls []) := ih
    generalize hkk : s13_dropsMapped_l4 f = k4 at hk4
    rw [s13_dropsMapped_l4] at hsh
    rw [hkk] at hsh
    try dsimp only at hsh
    refine lv_iload_n hx hb dX13_dropsMapped_4 rfl (hl.at 2 rfl) ?_
    refine e_aload_n (B := B) (x := x0) hx hb dX13_dropsMapped_5 rfl (hl.at 0 rfl) ?_
    obtain ⟨v6, h6, hsh⟩ := Option.bind_eq_some_iff.mp hsh
    refine e_getI (k := 119) hx hb hts in_X13 hown hp h6 rfl (by decide) (by decide) rfl (hts _ kf13_998) rfl dX13_dropsMapped_6 ?_
    refine e_icmp_ge (tgt := 61) hx hb dX13_dropsMapped_9 (by decide) (fun c9 => ?_) (fun c9 => ?_)
    · rw [if_pos c9] at hsh
      refine e_aload_n (B := B) (x := x0) hx hb dX13_dropsMapped_61 rfl (hl.at 0 rfl) ?_
      refine lv_iload_n hx hb dX13_dropsMapped_62 rfl (hl.at 1 rfl) ?_
      obtain ⟨S63, h63, hsh⟩ := Option.bind_eq_some_iff.mp hsh
      refine e_putI (k := 119) hx hb hts in_X13 tyX13 tyX13_ok nmX13 hown hp hS h63 rfl (by decide) (by decide) rfl (hts _ kf13_998) rfl rfl (by decide +kernel) dX13_dropsMapped_63 (fun H locs hp hS => ?_)
      cases hsh
      exact e_vret hx hb hrt hlk hp hS dX13_dropsMapped_66
    · rw [if_neg c9] at hsh
      refine e_aload_n (B := B) (x := x0) hx hb dX13_dropsMapped_12 rfl (hl.at 0 rfl) ?_
      obtain ⟨v13, h13, hsh⟩ := Option.bind_eq_some_iff.mp hsh
      refine e_getR (k := 121) hx hb hts in_X13 hown hp h13 rfl (by decide) (by decide) rfl (hts _ kf13_185) rfl dX13_dropsMapped_13 ?_
      refine lv_iload_n hx hb dX13_dropsMapped_16 rfl (hl.at 2 rfl) ?_
      obtain ⟨v17, h17, hsh⟩ := Option.bind_eq_some_iff.mp hsh
      refine e_bald hx hb hp h17 dX13_dropsMapped_17 ?_
      refine e_if_ne (tgt := 55) hx hb dX13_dropsMapped_18 (by decide) (fun c18 => ?_) (fun c18 => ?_)
      · rw [if_neg c18] at hsh
        exact w13_dropsMapped_b55 (hk4 := hk4) E hp hS (hl.sub [0, 1, 2] rfl) hsh
      · rw [if_pos c18] at hsh
        refine e_aload_n (B := B) (x := x0) hx hb dX13_dropsMapped_21 rfl (hl.at 0 rfl) ?_
        obtain ⟨v22, h22, hsh⟩ := Option.bind_eq_some_iff.mp hsh
        refine e_getR (k := 120) hx hb hts in_X13 hown hp h22 rfl (by decide) (by decide) rfl (hts _ kf13_182) rfl dX13_dropsMapped_22 ?_
        refine lv_iload_n hx hb dX13_dropsMapped_25 rfl (hl.at 1 rfl) ?_
        refine e_aload_n (B := B) (x := x0) hx hb dX13_dropsMapped_26 rfl (hl.at 0 rfl) ?_
        obtain ⟨v27, h27, hsh⟩ := Option.bind_eq_some_iff.mp hsh
        refine e_getR (k := 120) hx hb hts in_X13 hown hp h27 rfl (by decide) (by decide) rfl (hts _ kf13_182) rfl dX13_dropsMapped_27 ?_
        refine lv_iload_n hx hb dX13_dropsMapped_30 rfl (hl.at 2 rfl) ?_
        obtain ⟨v31, h31, hsh⟩ := Option.bind_eq_some_iff.mp hsh
        refine e_iald hx hb hp h31 dX13_dropsMapped_31 ?_
        obtain ⟨S32, h32, hsh⟩ := Option.bind_eq_some_iff.mp hsh
        refine e_iast hx hb hp hS h32 dX13_dropsMapped_32 (fun H locs hp hS => ?_)
        refine e_aload_n (B := B) (x := x0) hx hb dX13_dropsMapped_33 rfl (hl.at 0 rfl) ?_
        obtain ⟨v34, h34, hsh⟩ := Option.bind_eq_some_iff.mp hsh
        refine e_getR (k := 121) hx hb hts in_X13 hown hp h34 rfl (by decide) (by decide) rfl (hts _ kf13_185) rfl dX13_dropsMapped_34 ?_
        refine lv_iload_n hx hb dX13_dropsMapped_37 rfl (hl.at 1 rfl) ?_
        refine lv_iconst (v := iI (0)) hx hb dX13_dropsMapped_38 rfl ?_
        obtain ⟨S39, h39, hsh⟩ := Option.bind_eq_some_iff.mp hsh
        refine e_bast hx hb hp hS h39 dX13_dropsMapped_39 (fun H locs hp hS => ?_)
        refine e_aload_n (B := B) (x := x0) hx hb dX13_dropsMapped_40 rfl (hl.at 0 rfl) ?_
        obtain ⟨v41, h41, hsh⟩ := Option.bind_eq_some_iff.mp hsh
        refine e_getR (k := 122) hx hb hts in_X13 hown hp h41 rfl (by decide) (by decide) rfl (hts _ kf13_188) rfl dX13_dropsMapped_41 ?_
        refine lv_iload_n hx hb dX13_dropsMapped_44 rfl (hl.at 1 rfl) ?_
        refine e_aload_n (B := B) (x := x0) hx hb dX13_dropsMapped_45 rfl (hl.at 0 rfl) ?_
        obtain ⟨v46, h46, hsh⟩ := Option.bind_eq_some_iff.mp hsh
        refine e_getR (k := 122) hx hb hts in_X13 hown hp h46 rfl (by decide) (by decide) rfl (hts _ kf13_188) rfl dX13_dropsMapped_46 ?_
        refine lv_iload_n hx hb dX13_dropsMapped_49 rfl (hl.at 2 rfl) ?_
        obtain ⟨v50, h50, hsh⟩ := Option.bind_eq_some_iff.mp hsh
        refine e_bald hx hb hp h50 dX13_dropsMapped_50 ?_
        obtain ⟨S51, h51, hsh⟩ := Option.bind_eq_some_iff.mp hsh
        refine e_bast hx hb hp hS h51 dX13_dropsMapped_51 (fun H locs hp hS => ?_)
        refine e_iinc (n := 1) (x := x1) (lv' := [(1, .int (iI ((x1 + 1)))), (0, e_rv B (x0)), (2, .int (iI (x2)))]) hx hb dX13_dropsMapped_52 hl (k := 1) rfl (by decide) rfl (fun ls hl => ?_)
        exact w13_dropsMapped_b55 (hk4 := hk4) E hp hS (hl.sub [1, 0, 2] rfl) hsh
set_option maxRecDepth 100000 in
set_option maxHeartbeats 4000000 in
theorem c13_dropsMapped (l : Launch) (D : va_G) (cA : Nat → ClassId) (B : Nat) (S S' : HP) (x0 : Int) (hsh : s13_dropsMapped S x0 = some S') : Met l yX13_dropsMapped (e_wu yX13_dropsMapped cX13_dropsMapped 3 none) ({ frames := 0, cells := 0, slots := 0, locals := 0 } : Room) (va_Pc [e_rv B (x0)] (fun U => e_PU D cA B S U)) (e_Qv D cA B S') 0 0 (e_A B) := by
  refine Met.ofW (cc := cX13_dropsMapped) (maxL := 3) (ret := none) (by decide +kernel) rfl ?_
  intro p e s m args below meth c s₁ Bd hml hv
  obtain ⟨rfl, hp⟩ := hv
  have hp : e_Pic D cA B S s s.heap := hp
  have hx := Bd.exec
  have hb := Bd.bytes
  have hrt := Bd.returns
  have hlk := Bd.notSynchronized
  have hown : s.vm.findClass RX13 = some m.cls := findClass_of_methodNamed Bd.named
  have hts : ∀ w ∈ e_tb, w.before ([e_rv B (x0)] : List Value).toArray s = true := fun w h => atoms_spec (ws := (e_wu yX13_dropsMapped cX13_dropsMapped 3 none)) Bd.pre w (List.mem_cons_of_mem _ h)
  have E : e_En p s m ([e_rv B (x0)] : List Value).toArray meth c cX13_dropsMapped RX13 3 none := ⟨hx, hb, hml, hown, hts, hlk, hrt⟩
  have hS : va_S (e_A B) s.heap s.heap [] := va_S.rf
  have hl := e_entry (vs := [e_rv B (x0)]) (n := 3) (Nat.le_of_ble_eq_true rfl) (e_cc (e_rv_cat _ _) e_cn)
  rw [lg_entry_eq]
  generalize (lg_sl [e_rv B (x0)] ++ List.replicate (3 - (lg_sl [e_rv B (x0)]).length) Slot.unset).toArray = ls at hl ⊢
  generalize ([e_rv B (x0)] : List Value).toArray = args at hts E ⊢
  have hl : e_lo ls 3 [(0, e_rv B (x0))] := hl
  have hsh := (gd_some hsh).2
  refine lv_iconst (v := iI (0)) hx hb dX13_dropsMapped_0 rfl ?_
  refine e_istore_n (lv' := [(1, .int (iI (0))), (0, e_rv B (x0))]) hx hb dX13_dropsMapped_1 rfl hl (by decide) rfl (fun ls hl => ?_)
  refine lv_iconst (v := iI (0)) hx hb dX13_dropsMapped_2 rfl ?_
  refine e_istore_n (lv' := [(2, .int (iI (0))), (1, .int (iI (0))), (0, e_rv B (x0))]) hx hb dX13_dropsMapped_3 rfl hl (by decide) rfl (fun ls hl => ?_)
  exact w13_dropsMapped_l4 E 1000000 hp hS (hl.sub [2, 1, 0] rfl) hsh
theorem ok13_mapsFor {S : HP} {x0 : Int} {r : Int × HP} (h : s13_mapsFor S x0 = some r) : 0 ≤ x0 ∧ x0.toNat < e_n S ∧ e_g S x0.toNat = 13 := (gd_some h).1
set_option maxRecDepth 100000 in
set_option maxHeartbeats 4000000 in
theorem w13_mapsFor_b43 {p : Program} {l : Launch} {e : Env} {s : State} {m : MethodId} {args : Array Value} {below : List Frame} {meth : Method} {c : Code} {D : va_G} {cA : Nat → ClassId} {B : Nat} {res : Int × HP} (E : e_En p s m args meth c cX13_mapsFor RX13 1 (some .int)) {ls : Array Slot} {H : Heap} {locs : List Loc} {S : HP} {y0 : Int} (hp : e_Pic D cA B S s H) (hS : va_S (e_A B) s.heap H locs) (hl : e_lo ls 1 []) (hsh : s13_mapsFor_b43 S y0 = some res) : W p l e ({ frames := 0, cells := 0, slots := 0, locals := 0 } : Room) s m args below meth c H locs 0 0 (MQ below (e_Qi D cA B res.1 res.2) args s 0 0 (e_A B)) (F0 m 43 ls [.int (iI (y0))]) := by
  obtain ⟨hx, hb, hml, hown, hts, hlk, hrt⟩ := id E
  unfold s13_mapsFor_b43 at hsh
  cases hsh
  exact e_iret hx hb hrt hlk hp hS dX13_mapsFor_43
set_option maxRecDepth 100000 in
set_option maxHeartbeats 4000000 in
theorem w13_mapsFor_b27 {p : Program} {l : Launch} {e : Env} {s : State} {m : MethodId} {args : Array Value} {below : List Frame} {meth : Method} {c : Code} {D : va_G} {cA : Nat → ClassId} {B : Nat} {res : Int × HP} (E : e_En p s m args meth c cX13_mapsFor RX13 1 (some .int)) {ls : Array Slot} {H : Heap} {locs : List Loc} {S : HP} (hp : e_Pic D cA B S s H) (hS : va_S (e_A B) s.heap H locs) (hl : e_lo ls 1 []) (hsh : s13_mapsFor_b27 S  = some res) : W p l e ({ frames := 0, cells := 0, slots := 0, locals := 0 } : Room) s m args below meth c H locs 0 0 (MQ below (e_Qi D cA B res.1 res.2) args s 0 0 (e_A B)) (F0 m 27 ls []) := by
  obtain ⟨hx, hb, hml, hown, hts, hlk, hrt⟩ := id E
  unfold s13_mapsFor_b27 at hsh
  refine lv_iconst (v := iI (-1)) hx hb dX13_mapsFor_27 rfl ?_
  refine lv_goto (tgt := 43) hx hb dX13_mapsFor_28 (by decide) ?_
  exact w13_mapsFor_b43 E hp hS (hl.sub [] rfl) hsh
set_option maxRecDepth 100000 in
set_option maxHeartbeats 4000000 in
theorem c13_mapsFor (l : Launch) (D : va_G) (cA : Nat → ClassId) (B : Nat) (S S' : HP) (x0 : Int) (r : Int) (hsh : s13_mapsFor S x0 = some (r, S')) : Met l yX13_mapsFor (e_wu yX13_mapsFor cX13_mapsFor 1 (some .int)) ({ frames := 0, cells := 0, slots := 0, locals := 0 } : Room) (va_Pc [e_rv B (x0)] (fun U => e_PU D cA B S U)) (e_Qi D cA B r S') 0 0 (e_A B) := by
  refine Met.ofW (cc := cX13_mapsFor) (maxL := 1) (ret := (some .int)) (by decide +kernel) rfl ?_
  intro p e s m args below meth c s₁ Bd hml hv
  obtain ⟨rfl, hp⟩ := hv
  have hp : e_Pic D cA B S s s.heap := hp
  have hx := Bd.exec
  have hb := Bd.bytes
  have hrt := Bd.returns
  have hlk := Bd.notSynchronized
  have hown : s.vm.findClass RX13 = some m.cls := findClass_of_methodNamed Bd.named
  have hts : ∀ w ∈ e_tb, w.before ([e_rv B (x0)] : List Value).toArray s = true := fun w h => atoms_spec (ws := (e_wu yX13_mapsFor cX13_mapsFor 1 (some .int))) Bd.pre w (List.mem_cons_of_mem _ h)
  have E : e_En p s m ([e_rv B (x0)] : List Value).toArray meth c cX13_mapsFor RX13 1 (some .int) := ⟨hx, hb, hml, hown, hts, hlk, hrt⟩
  have hS : va_S (e_A B) s.heap s.heap [] := va_S.rf
  have hl := e_entry (vs := [e_rv B (x0)]) (n := 1) (Nat.le_of_ble_eq_true rfl) (e_cc (e_rv_cat _ _) e_cn)
  rw [lg_entry_eq]
  generalize (lg_sl [e_rv B (x0)] ++ List.replicate (1 - (lg_sl [e_rv B (x0)]).length) Slot.unset).toArray = ls at hl ⊢
  generalize ([e_rv B (x0)] : List Value).toArray = args at hts E ⊢
  have hl : e_lo ls 1 [(0, e_rv B (x0))] := hl
  have hsh := (gd_some hsh).2
  refine e_aload_n (B := B) (x := x0) hx hb dX13_mapsFor_0 rfl (hl.at 0 rfl) ?_
  obtain ⟨v1, h1, hsh⟩ := Option.bind_eq_some_iff.mp hsh
  refine e_getI (k := 8) hx hb hts in_X13 hown hp h1 rfl (by decide) (by decide) rfl (hts _ kf13_466) rfl dX13_mapsFor_1 ?_
  refine lv_iconst (v := iI (1)) hx hb dX13_mapsFor_4 rfl ?_
  refine e_icmp_ne (tgt := 12) hx hb dX13_mapsFor_5 (by decide) (fun c5 => ?_) (fun c5 => ?_)
  · rw [if_neg c5] at hsh
    refine e_aload_n (B := B) (x := x0) hx hb dX13_mapsFor_12 rfl (hl.at 0 rfl) ?_
    obtain ⟨v13, h13, hsh⟩ := Option.bind_eq_some_iff.mp hsh
    refine e_getI (k := 8) hx hb hts in_X13 hown hp h13 rfl (by decide) (by decide) rfl (hts _ kf13_466) rfl dX13_mapsFor_13 ?_
    refine lv_iconst (v := iI (5)) hx hb dX13_mapsFor_16 rfl ?_
    refine e_icmp_eq (tgt := 27) hx hb dX13_mapsFor_17 (by decide) (fun c17 => ?_) (fun c17 => ?_)
    · rw [if_pos c17] at hsh
      exact w13_mapsFor_b27 E hp hS (hl.sub [] rfl) hsh
    · rw [if_neg c17] at hsh
      refine e_aload_n (B := B) (x := x0) hx hb dX13_mapsFor_20 rfl (hl.at 0 rfl) ?_
      obtain ⟨v21, h21, hsh⟩ := Option.bind_eq_some_iff.mp hsh
      refine e_getI (k := 55) hx hb hts in_X13 hown hp h21 rfl (by decide) (by decide) rfl (hts _ kf13_609) rfl dX13_mapsFor_21 ?_
      refine e_if_le (tgt := 31) hx hb dX13_mapsFor_24 (by decide) (fun c24 => ?_) (fun c24 => ?_)
      · rw [if_pos c24] at hsh
        refine e_aload_n (B := B) (x := x0) hx hb dX13_mapsFor_31 rfl (hl.at 0 rfl) ?_
        obtain ⟨v32, h32, hsh⟩ := Option.bind_eq_some_iff.mp hsh
        refine e_getI (k := 8) hx hb hts in_X13 hown hp h32 rfl (by decide) (by decide) rfl (hts _ kf13_466) rfl dX13_mapsFor_32 ?_
        refine e_if_ne (tgt := 42) hx hb dX13_mapsFor_35 (by decide) (fun c35 => ?_) (fun c35 => ?_)
        · rw [if_neg c35] at hsh
          refine lv_iconst (v := iI (2)) hx hb dX13_mapsFor_42 rfl ?_
          exact w13_mapsFor_b43 E hp hS (hl.sub [] rfl) hsh
        · rw [if_pos c35] at hsh
          refine lv_iconst (v := iI (0)) hx hb dX13_mapsFor_38 rfl ?_
          refine lv_goto (tgt := 43) hx hb dX13_mapsFor_39 (by decide) ?_
          exact w13_mapsFor_b43 E hp hS (hl.sub [] rfl) hsh
      · rw [if_neg c24] at hsh
        exact w13_mapsFor_b27 E hp hS (hl.sub [] rfl) hsh
  · rw [if_pos c5] at hsh
    refine lv_iconst (v := iI (1)) hx hb dX13_mapsFor_8 rfl ?_
    refine lv_goto (tgt := 43) hx hb dX13_mapsFor_9 (by decide) ?_
    exact w13_mapsFor_b43 E hp hS (hl.sub [] rfl) hsh
theorem ok13_takesOff {S : HP} {x0 : Int} {x1 : Int} {r : HP} (h : s13_takesOff S x0 x1 = some r) : 0 ≤ x0 ∧ x0.toNat < e_n S ∧ e_g S x0.toNat = 13 := (gd_some h).1
set_option maxRecDepth 100000 in
set_option maxHeartbeats 4000000 in
theorem w13_takesOff_l2 {p : Program} {l : Launch} {e : Env} {s : State} {m : MethodId} {args : Array Value} {below : List Frame} {meth : Method} {c : Code} {D : va_G} {cA : Nat → ClassId} {B : Nat} {res : HP} (E : e_En p s m args meth c cX13_takesOff RX13 3 none) : ∀ (f : Nat) {ls : Array Slot} {H : Heap} {locs : List Loc} {S : HP} {x0 : Int} {x1 : Int} {x2 : Int} (hp : e_Pic D cA B S s H) (hS : va_S (e_A B) s.heap H locs) (hl : e_lo ls 3 [(0, e_rv B (x0)), (1, .int (iI (x1))), (2, .int (iI (x2)))]) (hsh : s13_takesOff_l2 f S x0 x1 x2 = some res), W p l e ({ frames := 0, cells := 0, slots := 0, locals := 0 } : Room) s m args below meth c H locs 0 0 (MQ below (e_Qv D cA B res) args s 0 0 (e_A B)) (F0 m 2 ls []) := by
  obtain ⟨hx, hb, hml, hown, hts, hlk, hrt⟩ := id E
  intro f
  induction f with
  | zero => intro ls H locs S x0 x1 x2 hp hS hl hsh; cases hsh
  | succ f ih =>
    intro ls H locs S x0 x1 x2 hp hS hl hsh
    have hk2 : ∀ {ls : Array Slot} {H : Heap} {locs : List Loc} {S : HP} {x0 : Int} {x1 : Int} {x2 : Int} (hp : e_Pic D cA B S s H) (hS : va_S (e_A B) s.heap H locs) (hl : e_lo ls 3 [(0, e_rv B (x0)), (1, .int (iI (x1))), (2, .int (iI (x2)))]) (hsh : (s13_takesOff_l2 f) S x0 x1 x2 = some res), W p l e ({ frames := 0, cells := 0, slots := 0, locals := 0 } : Room) s m args below meth c H locs 0 0 (MQ below (e_Qv D cA B res) args s 0 0 (e_A B)) (F0 m 2 ls []) := ih
    generalize hkk : s13_takesOff_l2 f = k2 at hk2
    rw [s13_takesOff_l2] at hsh
    rw [hkk] at hsh
    try dsimp only at hsh
    refine lv_iload_n hx hb dX13_takesOff_2 rfl (hl.at 2 rfl) ?_
    refine e_aload_n (B := B) (x := x0) hx hb dX13_takesOff_3 rfl (hl.at 0 rfl) ?_
    obtain ⟨v4, h4, hsh⟩ := Option.bind_eq_some_iff.mp hsh
    refine e_getI (k := 119) hx hb hts in_X13 hown hp h4 rfl (by decide) (by decide) rfl (hts _ kf13_998) rfl dX13_takesOff_4 ?_
    refine e_icmp_ge (tgt := 58) hx hb dX13_takesOff_7 (by decide) (fun c7 => ?_) (fun c7 => ?_)
    · rw [if_pos c7] at hsh
      refine e_aload_n (B := B) (x := x0) hx hb dX13_takesOff_58 rfl (hl.at 0 rfl) ?_
      refine lv_dup hx hb dX13_takesOff_59 (e_rv_cat _ _) ?_
      obtain ⟨v60, h60, hsh⟩ := Option.bind_eq_some_iff.mp hsh
      refine e_getI (k := 119) hx hb hts in_X13 hown hp h60 rfl (by decide) (by decide) rfl (hts _ kf13_998) rfl dX13_takesOff_60 ?_
      refine lv_iload_n hx hb dX13_takesOff_63 rfl (hl.at 1 rfl) ?_
      refine e_isub hx hb dX13_takesOff_64 ?_
      obtain ⟨S65, h65, hsh⟩ := Option.bind_eq_some_iff.mp hsh
      refine e_putI (k := 119) hx hb hts in_X13 tyX13 tyX13_ok nmX13 hown hp hS h65 rfl (by decide) (by decide) rfl (hts _ kf13_998) rfl rfl (by decide +kernel) dX13_takesOff_65 (fun H locs hp hS => ?_)
      cases hsh
      exact e_vret hx hb hrt hlk hp hS dX13_takesOff_68
    · rw [if_neg c7] at hsh
      refine e_aload_n (B := B) (x := x0) hx hb dX13_takesOff_10 rfl (hl.at 0 rfl) ?_
      obtain ⟨v11, h11, hsh⟩ := Option.bind_eq_some_iff.mp hsh
      refine e_getR (k := 120) hx hb hts in_X13 hown hp h11 rfl (by decide) (by decide) rfl (hts _ kf13_182) rfl dX13_takesOff_11 ?_
      refine lv_iload_n hx hb dX13_takesOff_14 rfl (hl.at 2 rfl) ?_
      refine lv_iload_n hx hb dX13_takesOff_15 rfl (hl.at 1 rfl) ?_
      refine e_isub hx hb dX13_takesOff_16 ?_
      refine e_aload_n (B := B) (x := x0) hx hb dX13_takesOff_17 rfl (hl.at 0 rfl) ?_
      obtain ⟨v18, h18, hsh⟩ := Option.bind_eq_some_iff.mp hsh
      refine e_getR (k := 120) hx hb hts in_X13 hown hp h18 rfl (by decide) (by decide) rfl (hts _ kf13_182) rfl dX13_takesOff_18 ?_
      refine lv_iload_n hx hb dX13_takesOff_21 rfl (hl.at 2 rfl) ?_
      obtain ⟨v22, h22, hsh⟩ := Option.bind_eq_some_iff.mp hsh
      refine e_iald hx hb hp h22 dX13_takesOff_22 ?_
      obtain ⟨S23, h23, hsh⟩ := Option.bind_eq_some_iff.mp hsh
      refine e_iast hx hb hp hS h23 dX13_takesOff_23 (fun H locs hp hS => ?_)
      refine e_aload_n (B := B) (x := x0) hx hb dX13_takesOff_24 rfl (hl.at 0 rfl) ?_
      obtain ⟨v25, h25, hsh⟩ := Option.bind_eq_some_iff.mp hsh
      refine e_getR (k := 121) hx hb hts in_X13 hown hp h25 rfl (by decide) (by decide) rfl (hts _ kf13_185) rfl dX13_takesOff_25 ?_
      refine lv_iload_n hx hb dX13_takesOff_28 rfl (hl.at 2 rfl) ?_
      refine lv_iload_n hx hb dX13_takesOff_29 rfl (hl.at 1 rfl) ?_
      refine e_isub hx hb dX13_takesOff_30 ?_
      refine e_aload_n (B := B) (x := x0) hx hb dX13_takesOff_31 rfl (hl.at 0 rfl) ?_
      obtain ⟨v32, h32, hsh⟩ := Option.bind_eq_some_iff.mp hsh
      refine e_getR (k := 121) hx hb hts in_X13 hown hp h32 rfl (by decide) (by decide) rfl (hts _ kf13_185) rfl dX13_takesOff_32 ?_
      refine lv_iload_n hx hb dX13_takesOff_35 rfl (hl.at 2 rfl) ?_
      obtain ⟨v36, h36, hsh⟩ := Option.bind_eq_some_iff.mp hsh
      refine e_bald hx hb hp h36 dX13_takesOff_36 ?_
      obtain ⟨S37, h37, hsh⟩ := Option.bind_eq_some_iff.mp hsh
      refine e_bast hx hb hp hS h37 dX13_takesOff_37 (fun H locs hp hS => ?_)
      refine e_aload_n (B := B) (x := x0) hx hb dX13_takesOff_38 rfl (hl.at 0 rfl) ?_
      obtain ⟨v39, h39, hsh⟩ := Option.bind_eq_some_iff.mp hsh
      refine e_getR (k := 122) hx hb hts in_X13 hown hp h39 rfl (by decide) (by decide) rfl (hts _ kf13_188) rfl dX13_takesOff_39 ?_
      refine lv_iload_n hx hb dX13_takesOff_42 rfl (hl.at 2 rfl) ?_
      refine lv_iload_n hx hb dX13_takesOff_43 rfl (hl.at 1 rfl) ?_
      refine e_isub hx hb dX13_takesOff_44 ?_
      refine e_aload_n (B := B) (x := x0) hx hb dX13_takesOff_45 rfl (hl.at 0 rfl) ?_
      obtain ⟨v46, h46, hsh⟩ := Option.bind_eq_some_iff.mp hsh
      refine e_getR (k := 122) hx hb hts in_X13 hown hp h46 rfl (by decide) (by decide) rfl (hts _ kf13_188) rfl dX13_takesOff_46 ?_
      refine lv_iload_n hx hb dX13_takesOff_49 rfl (hl.at 2 rfl) ?_
      obtain ⟨v50, h50, hsh⟩ := Option.bind_eq_some_iff.mp hsh
      refine e_bald hx hb hp h50 dX13_takesOff_50 ?_
      obtain ⟨S51, h51, hsh⟩ := Option.bind_eq_some_iff.mp hsh
      refine e_bast hx hb hp hS h51 dX13_takesOff_51 (fun H locs hp hS => ?_)
      refine e_iinc (n := 1) (x := x2) (lv' := [(2, .int (iI ((x2 + 1)))), (0, e_rv B (x0)), (1, .int (iI (x1)))]) hx hb dX13_takesOff_52 hl (k := 2) rfl (by decide) rfl (fun ls hl => ?_)
      refine lv_goto (tgt := 2) hx hb dX13_takesOff_55 (by decide) ?_
      exact hk2 hp hS (hl.sub [1, 2, 0] rfl) hsh
set_option maxRecDepth 100000 in
set_option maxHeartbeats 4000000 in
theorem c13_takesOff (l : Launch) (D : va_G) (cA : Nat → ClassId) (B : Nat) (S S' : HP) (x0 : Int) (x1 : Int) (hsh : s13_takesOff S x0 x1 = some S') : Met l yX13_takesOff (e_wu yX13_takesOff cX13_takesOff 3 none) ({ frames := 0, cells := 0, slots := 0, locals := 0 } : Room) (va_Pc [e_rv B (x0), .int (iI (x1))] (fun U => e_PU D cA B S U)) (e_Qv D cA B S') 0 0 (e_A B) := by
  refine Met.ofW (cc := cX13_takesOff) (maxL := 3) (ret := none) (by decide +kernel) rfl ?_
  intro p e s m args below meth c s₁ Bd hml hv
  obtain ⟨rfl, hp⟩ := hv
  have hp : e_Pic D cA B S s s.heap := hp
  have hx := Bd.exec
  have hb := Bd.bytes
  have hrt := Bd.returns
  have hlk := Bd.notSynchronized
  have hown : s.vm.findClass RX13 = some m.cls := findClass_of_methodNamed Bd.named
  have hts : ∀ w ∈ e_tb, w.before ([e_rv B (x0), .int (iI (x1))] : List Value).toArray s = true := fun w h => atoms_spec (ws := (e_wu yX13_takesOff cX13_takesOff 3 none)) Bd.pre w (List.mem_cons_of_mem _ h)
  have E : e_En p s m ([e_rv B (x0), .int (iI (x1))] : List Value).toArray meth c cX13_takesOff RX13 3 none := ⟨hx, hb, hml, hown, hts, hlk, hrt⟩
  have hS : va_S (e_A B) s.heap s.heap [] := va_S.rf
  have hl := e_entry (vs := [e_rv B (x0), .int (iI (x1))]) (n := 3) (Nat.le_of_ble_eq_true rfl) (e_cc (e_rv_cat _ _) (e_cc rfl e_cn))
  rw [lg_entry_eq]
  generalize (lg_sl [e_rv B (x0), .int (iI (x1))] ++ List.replicate (3 - (lg_sl [e_rv B (x0), .int (iI (x1))]).length) Slot.unset).toArray = ls at hl ⊢
  generalize ([e_rv B (x0), .int (iI (x1))] : List Value).toArray = args at hts E ⊢
  have hl : e_lo ls 3 [(0, e_rv B (x0)), (1, .int (iI (x1)))] := hl
  have hsh := (gd_some hsh).2
  refine lv_iload_n hx hb dX13_takesOff_0 rfl (hl.at 1 rfl) ?_
  refine e_istore_n (lv' := [(2, .int (iI (x1))), (0, e_rv B (x0)), (1, .int (iI (x1)))]) hx hb dX13_takesOff_1 rfl hl (by decide) rfl (fun ls hl => ?_)
  exact w13_takesOff_l2 E 1000000 hp hS (hl.sub [1, 2, 0] rfl) hsh
theorem ok13_takesMap {S : HP} {x0 : Int} {x1 : Int} {r : HP} (h : s13_takesMap S x0 x1 = some r) : 0 ≤ x0 ∧ x0.toNat < e_n S ∧ e_g S x0.toNat = 13 := (gd_some h).1
set_option maxRecDepth 100000 in
set_option maxHeartbeats 4000000 in
theorem w13_takesMap_b168 {p : Program} {l : Launch} {e : Env} {s : State} {m : MethodId} {args : Array Value} {below : List Frame} {meth : Method} {c : Code} {D : va_G} {cA : Nat → ClassId} {B : Nat} {res : HP} {k118 : HP → Int → Int → Int → Int → Option (HP)} (hk118 : ∀ {ls : Array Slot} {H : Heap} {locs : List Loc} {S : HP} {x0 : Int} {x1 : Int} {x2 : Int} {x3 : Int} (hp : e_Pic D cA B S s H) (hS : va_S (e_A B) s.heap H locs) (hl : e_lo ls 4 [(0, e_rv B (x0)), (1, .int (iI (x1))), (2, .int (iI (x2))), (3, .int (iI (x3)))]) (hsh : k118 S x0 x1 x2 x3 = some res), W p l e ({ frames := 1, cells := 0, slots := 0, locals := 22 } : Room) s m args below meth c H locs 0 0 (MQ below (e_Qv D cA B res) args s 0 0 (e_A B)) (F0 m 118 ls [])) (E : e_En p s m args meth c cX13_takesMap RX13 4 none) {ls : Array Slot} {H : Heap} {locs : List Loc} {S : HP} {x0 : Int} {x1 : Int} {x2 : Int} {x3 : Int} {y0 : Int} {y1 : Int} {y2 : Int} (hp : e_Pic D cA B S s H) (hS : va_S (e_A B) s.heap H locs) (hl : e_lo ls 4 [(0, e_rv B (x0)), (1, .int (iI (x1))), (2, .int (iI (x2))), (3, .int (iI (x3)))]) (hsh : s13_takesMap_b168 k118 S x0 x1 x2 x3 y0 y1 y2 = some res) : W p l e ({ frames := 1, cells := 0, slots := 0, locals := 22 } : Room) s m args below meth c H locs 0 0 (MQ below (e_Qv D cA B res) args s 0 0 (e_A B)) (F0 m 168 ls [.int (iI (y2)), .int (iI (y1)), e_rv B (y0)]) := by
  obtain ⟨hx, hb, hml, hown, hts, hlk, hrt⟩ := id E
  unfold s13_takesMap_b168 at hsh
  obtain ⟨S168, h168, hsh⟩ := Option.bind_eq_some_iff.mp hsh
  refine e_bast hx hb hp hS h168 dX13_takesMap_168 (fun H locs hp hS => ?_)
  refine e_iinc (n := 1) (x := x3) (lv' := [(3, .int (iI ((x3 + 1)))), (0, e_rv B (x0)), (1, .int (iI (x1))), (2, .int (iI (x2)))]) hx hb dX13_takesMap_169 hl (k := 3) rfl (by decide) rfl (fun ls hl => ?_)
  refine lv_goto (tgt := 118) hx hb dX13_takesMap_172 (by decide) ?_
  exact hk118 hp hS (hl.sub [1, 2, 3, 0] rfl) hsh
set_option maxRecDepth 100000 in
set_option maxHeartbeats 4000000 in
theorem w13_takesMap_l118 {p : Program} {l : Launch} {e : Env} {s : State} {m : MethodId} {args : Array Value} {below : List Frame} {meth : Method} {c : Code} {D : va_G} {cA : Nat → ClassId} {B : Nat} {res : HP} (E : e_En p s m args meth c cX13_takesMap RX13 4 none) : ∀ (f : Nat) {ls : Array Slot} {H : Heap} {locs : List Loc} {S : HP} {x0 : Int} {x1 : Int} {x2 : Int} {x3 : Int} (hp : e_Pic D cA B S s H) (hS : va_S (e_A B) s.heap H locs) (hl : e_lo ls 4 [(0, e_rv B (x0)), (1, .int (iI (x1))), (2, .int (iI (x2))), (3, .int (iI (x3)))]) (hsh : s13_takesMap_l118 f S x0 x1 x2 x3 = some res), W p l e ({ frames := 1, cells := 0, slots := 0, locals := 22 } : Room) s m args below meth c H locs 0 0 (MQ below (e_Qv D cA B res) args s 0 0 (e_A B)) (F0 m 118 ls []) := by
  obtain ⟨hx, hb, hml, hown, hts, hlk, hrt⟩ := id E
  intro f
  induction f with
  | zero => intro ls H locs S x0 x1 x2 x3 hp hS hl hsh; cases hsh
  | succ f ih =>
    intro ls H locs S x0 x1 x2 x3 hp hS hl hsh
    have hk118 : ∀ {ls : Array Slot} {H : Heap} {locs : List Loc} {S : HP} {x0 : Int} {x1 : Int} {x2 : Int} {x3 : Int} (hp : e_Pic D cA B S s H) (hS : va_S (e_A B) s.heap H locs) (hl : e_lo ls 4 [(0, e_rv B (x0)), (1, .int (iI (x1))), (2, .int (iI (x2))), (3, .int (iI (x3)))]) (hsh : (s13_takesMap_l118 f) S x0 x1 x2 x3 = some res), W p l e ({ frames := 1, cells := 0, slots := 0, locals := 22 } : Room) s m args below meth c H locs 0 0 (MQ below (e_Qv D cA B res) args s 0 0 (e_A B)) (F0 m 118 ls []) := ih
    generalize hkk : s13_takesMap_l118 f = k118 at hk118
    rw [s13_takesMap_l118] at hsh
    rw [hkk] at hsh
    try dsimp only at hsh
    refine lv_iload_n hx hb dX13_takesMap_118 rfl (hl.at 3 rfl) ?_
    refine lv_iload_n hx hb dX13_takesMap_119 rfl (hl.at 2 rfl) ?_
    refine e_icmp_ge (tgt := 175) hx hb dX13_takesMap_120 (by decide) (fun c120 => ?_) (fun c120 => ?_)
    · rw [if_pos c120] at hsh
      refine e_aload_n (B := B) (x := x0) hx hb dX13_takesMap_175 rfl (hl.at 0 rfl) ?_
      refine lv_dup hx hb dX13_takesMap_176 (e_rv_cat _ _) ?_
      obtain ⟨v177, h177, hsh⟩ := Option.bind_eq_some_iff.mp hsh
      refine e_getI (k := 119) hx hb hts in_X13 hown hp h177 rfl (by decide) (by decide) rfl (hts _ kf13_998) rfl dX13_takesMap_177 ?_
      refine lv_iload_n hx hb dX13_takesMap_180 rfl (hl.at 2 rfl) ?_
      refine e_iadd hx hb dX13_takesMap_181 ?_
      obtain ⟨S182, h182, hsh⟩ := Option.bind_eq_some_iff.mp hsh
      refine e_putI (k := 119) hx hb hts in_X13 tyX13 tyX13_ok nmX13 hown hp hS h182 rfl (by decide) (by decide) rfl (hts _ kf13_998) rfl rfl (by decide +kernel) dX13_takesMap_182 (fun H locs hp hS => ?_)
      cases hsh
      exact e_vret hx hb hrt hlk hp hS dX13_takesMap_185
    · rw [if_neg c120] at hsh
      refine e_aload_n (B := B) (x := x0) hx hb dX13_takesMap_123 rfl (hl.at 0 rfl) ?_
      obtain ⟨v124, h124, hsh⟩ := Option.bind_eq_some_iff.mp hsh
      refine e_getR (k := 120) hx hb hts in_X13 hown hp h124 rfl (by decide) (by decide) rfl (hts _ kf13_182) rfl dX13_takesMap_124 ?_
      refine lv_iload_n hx hb dX13_takesMap_127 rfl (hl.at 3 rfl) ?_
      refine e_aload_n (B := B) (x := x0) hx hb dX13_takesMap_128 rfl (hl.at 0 rfl) ?_
      obtain ⟨v129, h129, hsh⟩ := Option.bind_eq_some_iff.mp hsh
      refine e_getR (k := 117) hx hb hts in_X13 hown hp h129 rfl (by decide) (by decide) rfl (hts _ kf13_175) rfl dX13_takesMap_129 ?_
      refine lv_bipush (v := iI (9)) hx hb dX13_takesMap_132 (by decide +kernel) ?_
      refine lv_iload_n hx hb dX13_takesMap_134 rfl (hl.at 1 rfl) ?_
      refine e_imul hx hb dX13_takesMap_135 ?_
      refine lv_iconst (v := iI (1)) hx hb dX13_takesMap_136 rfl ?_
      refine e_iadd hx hb dX13_takesMap_137 ?_
      refine lv_iload_n hx hb dX13_takesMap_138 rfl (hl.at 3 rfl) ?_
      refine e_iadd hx hb dX13_takesMap_139 ?_
      obtain ⟨v140, h140, hsh⟩ := Option.bind_eq_some_iff.mp hsh
      refine e_iald hx hb hp h140 dX13_takesMap_140 ?_
      obtain ⟨S141, h141, hsh⟩ := Option.bind_eq_some_iff.mp hsh
      refine e_iast hx hb hp hS h141 dX13_takesMap_141 (fun H locs hp hS => ?_)
      refine e_aload_n (B := B) (x := x0) hx hb dX13_takesMap_142 rfl (hl.at 0 rfl) ?_
      obtain ⟨v143, h143, hsh⟩ := Option.bind_eq_some_iff.mp hsh
      refine e_getR (k := 121) hx hb hts in_X13 hown hp h143 rfl (by decide) (by decide) rfl (hts _ kf13_185) rfl dX13_takesMap_143 ?_
      refine lv_iload_n hx hb dX13_takesMap_146 rfl (hl.at 3 rfl) ?_
      refine lv_iconst (v := iI (1)) hx hb dX13_takesMap_147 rfl ?_
      obtain ⟨S148, h148, hsh⟩ := Option.bind_eq_some_iff.mp hsh
      refine e_bast hx hb hp hS h148 dX13_takesMap_148 (fun H locs hp hS => ?_)
      refine e_aload_n (B := B) (x := x0) hx hb dX13_takesMap_149 rfl (hl.at 0 rfl) ?_
      obtain ⟨v150, h150, hsh⟩ := Option.bind_eq_some_iff.mp hsh
      refine e_getR (k := 122) hx hb hts in_X13 hown hp h150 rfl (by decide) (by decide) rfl (hts _ kf13_188) rfl dX13_takesMap_150 ?_
      refine lv_iload_n hx hb dX13_takesMap_153 rfl (hl.at 3 rfl) ?_
      refine e_aload_n (B := B) (x := x0) hx hb dX13_takesMap_154 rfl (hl.at 0 rfl) ?_
      obtain ⟨v155, h155, hsh⟩ := Option.bind_eq_some_iff.mp hsh
      refine e_getR (k := 118) hx hb hts in_X13 hown hp h155 rfl (by decide) (by decide) rfl (hts _ kf13_178) rfl dX13_takesMap_155 ?_
      refine lv_iload_n hx hb dX13_takesMap_158 rfl (hl.at 1 rfl) ?_
      obtain ⟨v159, h159, hsh⟩ := Option.bind_eq_some_iff.mp hsh
      refine e_bald hx hb hp h159 dX13_takesMap_159 ?_
      refine e_if_ne (tgt := 167) hx hb dX13_takesMap_160 (by decide) (fun c160 => ?_) (fun c160 => ?_)
      · rw [if_neg c160] at hsh
        refine lv_iconst (v := iI (0)) hx hb dX13_takesMap_167 rfl ?_
        exact w13_takesMap_b168 (hk118 := hk118) E hp hS (hl.sub [0, 1, 2, 3] rfl) hsh
      · rw [if_pos c160] at hsh
        refine lv_iconst (v := iI (1)) hx hb dX13_takesMap_163 rfl ?_
        refine lv_goto (tgt := 168) hx hb dX13_takesMap_164 (by decide) ?_
        exact w13_takesMap_b168 (hk118 := hk118) E hp hS (hl.sub [0, 1, 2, 3] rfl) hsh
set_option maxRecDepth 100000 in
set_option maxHeartbeats 4000000 in
theorem w13_takesMap_l64 {p : Program} {l : Launch} {e : Env} {s : State} {m : MethodId} {args : Array Value} {below : List Frame} {meth : Method} {c : Code} {D : va_G} {cA : Nat → ClassId} {B : Nat} {res : HP} (E : e_En p s m args meth c cX13_takesMap RX13 4 none) : ∀ (f : Nat) {ls : Array Slot} {H : Heap} {locs : List Loc} {S : HP} {x0 : Int} {x1 : Int} {x2 : Int} {x3 : Int} (hp : e_Pic D cA B S s H) (hS : va_S (e_A B) s.heap H locs) (hl : e_lo ls 4 [(0, e_rv B (x0)), (1, .int (iI (x1))), (2, .int (iI (x2))), (3, .int (iI (x3)))]) (hsh : s13_takesMap_l64 f S x0 x1 x2 x3 = some res), W p l e ({ frames := 1, cells := 0, slots := 0, locals := 22 } : Room) s m args below meth c H locs 0 0 (MQ below (e_Qv D cA B res) args s 0 0 (e_A B)) (F0 m 64 ls []) := by
  obtain ⟨hx, hb, hml, hown, hts, hlk, hrt⟩ := id E
  intro f
  induction f with
  | zero => intro ls H locs S x0 x1 x2 x3 hp hS hl hsh; cases hsh
  | succ f ih =>
    intro ls H locs S x0 x1 x2 x3 hp hS hl hsh
    have hk64 : ∀ {ls : Array Slot} {H : Heap} {locs : List Loc} {S : HP} {x0 : Int} {x1 : Int} {x2 : Int} {x3 : Int} (hp : e_Pic D cA B S s H) (hS : va_S (e_A B) s.heap H locs) (hl : e_lo ls 4 [(0, e_rv B (x0)), (1, .int (iI (x1))), (2, .int (iI (x2))), (3, .int (iI (x3)))]) (hsh : (s13_takesMap_l64 f) S x0 x1 x2 x3 = some res), W p l e ({ frames := 1, cells := 0, slots := 0, locals := 22 } : Room) s m args below meth c H locs 0 0 (MQ below (e_Qv D cA B res) args s 0 0 (e_A B)) (F0 m 64 ls []) := ih
    generalize hkk : s13_takesMap_l64 f = k64 at hk64
    rw [s13_takesMap_l64] at hsh
    rw [hkk] at hsh
    try dsimp only at hsh
    refine lv_iload_n hx hb dX13_takesMap_64 rfl (hl.at 3 rfl) ?_
    refine e_if_lt (tgt := 116) hx hb dX13_takesMap_65 (by decide) (fun c65 => ?_) (fun c65 => ?_)
    · rw [if_pos c65] at hsh
      refine lv_iconst (v := iI (0)) hx hb dX13_takesMap_116 rfl ?_
      refine e_istore_n (lv' := [(3, .int (iI (0))), (0, e_rv B (x0)), (1, .int (iI (x1))), (2, .int (iI (x2)))]) hx hb dX13_takesMap_117 rfl hl (by decide) rfl (fun ls hl => ?_)
      exact w13_takesMap_l118 E 1000000 hp hS (hl.sub [1, 2, 3, 0] rfl) hsh
    · rw [if_neg c65] at hsh
      refine e_aload_n (B := B) (x := x0) hx hb dX13_takesMap_68 rfl (hl.at 0 rfl) ?_
      obtain ⟨v69, h69, hsh⟩ := Option.bind_eq_some_iff.mp hsh
      refine e_getR (k := 120) hx hb hts in_X13 hown hp h69 rfl (by decide) (by decide) rfl (hts _ kf13_182) rfl dX13_takesMap_69 ?_
      refine lv_iload_n hx hb dX13_takesMap_72 rfl (hl.at 3 rfl) ?_
      refine lv_iload_n hx hb dX13_takesMap_73 rfl (hl.at 2 rfl) ?_
      refine e_iadd hx hb dX13_takesMap_74 ?_
      refine e_aload_n (B := B) (x := x0) hx hb dX13_takesMap_75 rfl (hl.at 0 rfl) ?_
      obtain ⟨v76, h76, hsh⟩ := Option.bind_eq_some_iff.mp hsh
      refine e_getR (k := 120) hx hb hts in_X13 hown hp h76 rfl (by decide) (by decide) rfl (hts _ kf13_182) rfl dX13_takesMap_76 ?_
      refine lv_iload_n hx hb dX13_takesMap_79 rfl (hl.at 3 rfl) ?_
      obtain ⟨v80, h80, hsh⟩ := Option.bind_eq_some_iff.mp hsh
      refine e_iald hx hb hp h80 dX13_takesMap_80 ?_
      obtain ⟨S81, h81, hsh⟩ := Option.bind_eq_some_iff.mp hsh
      refine e_iast hx hb hp hS h81 dX13_takesMap_81 (fun H locs hp hS => ?_)
      refine e_aload_n (B := B) (x := x0) hx hb dX13_takesMap_82 rfl (hl.at 0 rfl) ?_
      obtain ⟨v83, h83, hsh⟩ := Option.bind_eq_some_iff.mp hsh
      refine e_getR (k := 121) hx hb hts in_X13 hown hp h83 rfl (by decide) (by decide) rfl (hts _ kf13_185) rfl dX13_takesMap_83 ?_
      refine lv_iload_n hx hb dX13_takesMap_86 rfl (hl.at 3 rfl) ?_
      refine lv_iload_n hx hb dX13_takesMap_87 rfl (hl.at 2 rfl) ?_
      refine e_iadd hx hb dX13_takesMap_88 ?_
      refine e_aload_n (B := B) (x := x0) hx hb dX13_takesMap_89 rfl (hl.at 0 rfl) ?_
      obtain ⟨v90, h90, hsh⟩ := Option.bind_eq_some_iff.mp hsh
      refine e_getR (k := 121) hx hb hts in_X13 hown hp h90 rfl (by decide) (by decide) rfl (hts _ kf13_185) rfl dX13_takesMap_90 ?_
      refine lv_iload_n hx hb dX13_takesMap_93 rfl (hl.at 3 rfl) ?_
      obtain ⟨v94, h94, hsh⟩ := Option.bind_eq_some_iff.mp hsh
      refine e_bald hx hb hp h94 dX13_takesMap_94 ?_
      obtain ⟨S95, h95, hsh⟩ := Option.bind_eq_some_iff.mp hsh
      refine e_bast hx hb hp hS h95 dX13_takesMap_95 (fun H locs hp hS => ?_)
      refine e_aload_n (B := B) (x := x0) hx hb dX13_takesMap_96 rfl (hl.at 0 rfl) ?_
      obtain ⟨v97, h97, hsh⟩ := Option.bind_eq_some_iff.mp hsh
      refine e_getR (k := 122) hx hb hts in_X13 hown hp h97 rfl (by decide) (by decide) rfl (hts _ kf13_188) rfl dX13_takesMap_97 ?_
      refine lv_iload_n hx hb dX13_takesMap_100 rfl (hl.at 3 rfl) ?_
      refine lv_iload_n hx hb dX13_takesMap_101 rfl (hl.at 2 rfl) ?_
      refine e_iadd hx hb dX13_takesMap_102 ?_
      refine e_aload_n (B := B) (x := x0) hx hb dX13_takesMap_103 rfl (hl.at 0 rfl) ?_
      obtain ⟨v104, h104, hsh⟩ := Option.bind_eq_some_iff.mp hsh
      refine e_getR (k := 122) hx hb hts in_X13 hown hp h104 rfl (by decide) (by decide) rfl (hts _ kf13_188) rfl dX13_takesMap_104 ?_
      refine lv_iload_n hx hb dX13_takesMap_107 rfl (hl.at 3 rfl) ?_
      obtain ⟨v108, h108, hsh⟩ := Option.bind_eq_some_iff.mp hsh
      refine e_bald hx hb hp h108 dX13_takesMap_108 ?_
      obtain ⟨S109, h109, hsh⟩ := Option.bind_eq_some_iff.mp hsh
      refine e_bast hx hb hp hS h109 dX13_takesMap_109 (fun H locs hp hS => ?_)
      refine e_iinc (n := (-1)) (x := x3) (lv' := [(3, .int (iI ((x3 + (-1))))), (0, e_rv B (x0)), (1, .int (iI (x1))), (2, .int (iI (x2)))]) hx hb dX13_takesMap_110 hl (k := 3) rfl (by decide) rfl (fun ls hl => ?_)
      refine lv_goto (tgt := 64) hx hb dX13_takesMap_113 (by decide) ?_
      exact hk64 hp hS (hl.sub [1, 2, 3, 0] rfl) hsh
set_option maxRecDepth 100000 in
set_option maxHeartbeats 4000000 in
theorem c13_takesMap (l : Launch) (D : va_G) (cA : Nat → ClassId) (B : Nat) (S S' : HP) (x0 : Int) (x1 : Int) (hsh : s13_takesMap S x0 x1 = some S') : Met l yX13_takesMap (e_wu yX13_takesMap cX13_takesMap 4 none) ({ frames := 1, cells := 0, slots := 0, locals := 22 } : Room) (va_Pc [e_rv B (x0), .int (iI (x1))] (fun U => e_PU D cA B S U)) (e_Qv D cA B S') 0 0 (e_A B) := by
  refine Met.ofW (cc := cX13_takesMap) (maxL := 4) (ret := none) (by decide +kernel) rfl ?_
  intro p e s m args below meth c s₁ Bd hml hv
  obtain ⟨rfl, hp⟩ := hv
  have hp : e_Pic D cA B S s s.heap := hp
  have hx := Bd.exec
  have hb := Bd.bytes
  have hrt := Bd.returns
  have hlk := Bd.notSynchronized
  have hown : s.vm.findClass RX13 = some m.cls := findClass_of_methodNamed Bd.named
  have hts : ∀ w ∈ e_tb, w.before ([e_rv B (x0), .int (iI (x1))] : List Value).toArray s = true := fun w h => atoms_spec (ws := (e_wu yX13_takesMap cX13_takesMap 4 none)) Bd.pre w (List.mem_cons_of_mem _ h)
  have E : e_En p s m ([e_rv B (x0), .int (iI (x1))] : List Value).toArray meth c cX13_takesMap RX13 4 none := ⟨hx, hb, hml, hown, hts, hlk, hrt⟩
  have hS : va_S (e_A B) s.heap s.heap [] := va_S.rf
  have hl := e_entry (vs := [e_rv B (x0), .int (iI (x1))]) (n := 4) (Nat.le_of_ble_eq_true rfl) (e_cc (e_rv_cat _ _) (e_cc rfl e_cn))
  rw [lg_entry_eq]
  generalize (lg_sl [e_rv B (x0), .int (iI (x1))] ++ List.replicate (4 - (lg_sl [e_rv B (x0), .int (iI (x1))]).length) Slot.unset).toArray = ls at hl ⊢
  generalize ([e_rv B (x0), .int (iI (x1))] : List Value).toArray = args at hts E ⊢
  have hl : e_lo ls 4 [(0, e_rv B (x0)), (1, .int (iI (x1)))] := hl
  have hsh := (gd_some hsh).2
  refine e_aload_n (B := B) (x := x0) hx hb dX13_takesMap_0 rfl (hl.at 0 rfl) ?_
  refine e_aload_n (B := B) (x := x0) hx hb dX13_takesMap_1 rfl (hl.at 0 rfl) ?_
  obtain ⟨v2, h2, hsh⟩ := Option.bind_eq_some_iff.mp hsh
  refine e_getR (k := 115) hx hb hts in_X13 hown hp h2 rfl (by decide) (by decide) rfl (hts _ kf13_169) rfl dX13_takesMap_2 ?_
  refine lv_iload_n hx hb dX13_takesMap_5 rfl (hl.at 1 rfl) ?_
  obtain ⟨v6, h6, hsh⟩ := Option.bind_eq_some_iff.mp hsh
  refine e_iald hx hb hp h6 dX13_takesMap_6 ?_
  obtain ⟨S7, h7, hsh⟩ := Option.bind_eq_some_iff.mp hsh
  have ok7 := ok13_takesOff h7
  refine e_callV (nL := 4) (mc := 0) (ms := 0) (T := TX13) (N := 126) (As := [.int (iI (v6))]) (rest := []) hx hb hml hown hts hp hS hl.size ok7.1 ok7.2.1 ok7.2.2 rfl (by decide) (c13_takesOff l D cA B S S7 (x0) (v6) h7) rfl rfl kd13_takesOff (kl13_1012) ks13_takesOff kv13_takesOff ki13 kh13_takesOff ⟨Nat.le_of_ble_eq_true rfl, Nat.le_of_ble_eq_true rfl⟩ rfl (by simp [e_rv_cat, e_int_cat]) ⟨Nat.le_refl _, Nat.le_refl _⟩ dX13_takesMap_7 rfl (fun H locs hp hS => ?_)
  refine e_aload_n (B := B) (x := x0) hx hb dX13_takesMap_10 rfl (hl.at 0 rfl) ?_
  obtain ⟨v11, h11, hsh⟩ := Option.bind_eq_some_iff.mp hsh
  refine e_getR (k := 117) hx hb hts in_X13 hown hp h11 rfl (by decide) (by decide) rfl (hts _ kf13_175) rfl dX13_takesMap_11 ?_
  refine lv_bipush (v := iI (9)) hx hb dX13_takesMap_14 (by decide +kernel) ?_
  refine lv_iload_n hx hb dX13_takesMap_16 rfl (hl.at 1 rfl) ?_
  refine e_imul hx hb dX13_takesMap_17 ?_
  obtain ⟨v18, h18, hsh⟩ := Option.bind_eq_some_iff.mp hsh
  refine e_iald hx hb hp h18 dX13_takesMap_18 ?_
  refine e_istore_n (lv' := [(2, .int (iI (v18))), (0, e_rv B (x0)), (1, .int (iI (x1)))]) hx hb dX13_takesMap_19 rfl hl (by decide) rfl (fun ls hl => ?_)
  refine e_aload_n (B := B) (x := x0) hx hb dX13_takesMap_20 rfl (hl.at 1 rfl) ?_
  obtain ⟨v21, h21, hsh⟩ := Option.bind_eq_some_iff.mp hsh
  refine e_getI (k := 123) hx hb hts in_X13 hown hp h21 rfl (by decide) (by decide) rfl (hts _ kf13_1015) rfl dX13_takesMap_21 ?_
  refine lv_iload_n hx hb dX13_takesMap_24 rfl (hl.at 0 rfl) ?_
  refine e_iadd hx hb dX13_takesMap_25 ?_
  refine lv_sipush (v := iI (200)) hx hb dX13_takesMap_26 (by decide +kernel) ?_
  refine e_icmp_le (tgt := 47) hx hb dX13_takesMap_29 (by decide) (fun c29 => ?_) (fun c29 => ?_)
  · rw [if_pos c29] at hsh
    refine e_aload_n (B := B) (x := x0) hx hb dX13_takesMap_47 rfl (hl.at 1 rfl) ?_
    refine lv_dup hx hb dX13_takesMap_48 (e_rv_cat _ _) ?_
    obtain ⟨v49, h49, hsh⟩ := Option.bind_eq_some_iff.mp hsh
    refine e_getI (k := 123) hx hb hts in_X13 hown hp h49 rfl (by decide) (by decide) rfl (hts _ kf13_1015) rfl dX13_takesMap_49 ?_
    refine lv_iload_n hx hb dX13_takesMap_52 rfl (hl.at 0 rfl) ?_
    refine e_iadd hx hb dX13_takesMap_53 ?_
    obtain ⟨S54, h54, hsh⟩ := Option.bind_eq_some_iff.mp hsh
    refine e_putI (k := 123) hx hb hts in_X13 tyX13 tyX13_ok nmX13 hown hp hS h54 rfl (by decide) (by decide) rfl (hts _ kf13_1015) rfl rfl (by decide +kernel) dX13_takesMap_54 (fun H locs hp hS => ?_)
    refine e_aload_n (B := B) (x := x0) hx hb dX13_takesMap_57 rfl (hl.at 1 rfl) ?_
    obtain ⟨v58, h58, hsh⟩ := Option.bind_eq_some_iff.mp hsh
    refine e_getI (k := 119) hx hb hts in_X13 hown hp h58 rfl (by decide) (by decide) rfl (hts _ kf13_998) rfl dX13_takesMap_58 ?_
    refine lv_iconst (v := iI (1)) hx hb dX13_takesMap_61 rfl ?_
    refine e_isub hx hb dX13_takesMap_62 ?_
    refine e_istore_n (lv' := [(3, .int (iI ((v58 - 1)))), (2, .int (iI (v18))), (0, e_rv B (x0)), (1, .int (iI (x1)))]) hx hb dX13_takesMap_63 rfl hl (by decide) rfl (fun ls hl => ?_)
    exact w13_takesMap_l64 E 1000000 hp hS (hl.sub [2, 3, 1, 0] rfl) hsh
  · rw [if_neg c29] at hsh
    refine e_aload_n (B := B) (x := x0) hx hb dX13_takesMap_32 rfl (hl.at 1 rfl) ?_
    refine lv_dup hx hb dX13_takesMap_33 (e_rv_cat _ _) ?_
    obtain ⟨v34, h34, hsh⟩ := Option.bind_eq_some_iff.mp hsh
    refine e_getI (k := 33) hx hb hts in_X13 hown hp h34 rfl (by decide) (by decide) rfl (hts _ kf13_684) rfl dX13_takesMap_34 ?_
    refine lv_iconst (v := iI (1)) hx hb dX13_takesMap_37 rfl ?_
    refine e_iadd hx hb dX13_takesMap_38 ?_
    obtain ⟨S39, h39, hsh⟩ := Option.bind_eq_some_iff.mp hsh
    refine e_putI (k := 33) hx hb hts in_X13 tyX13 tyX13_ok nmX13 hown hp hS h39 rfl (by decide) (by decide) rfl (hts _ kf13_684) rfl rfl (by decide +kernel) dX13_takesMap_39 (fun H locs hp hS => ?_)
    refine e_aload_n (B := B) (x := x0) hx hb dX13_takesMap_42 rfl (hl.at 1 rfl) ?_
    obtain ⟨S43, h43, hsh⟩ := Option.bind_eq_some_iff.mp hsh
    have ok43 := ok13_dropsMapped h43
    refine e_callV (nL := 4) (mc := 0) (ms := 0) (T := TX13) (N := 126) (As := []) (rest := []) hx hb hml hown hts hp hS hl.size ok43.1 ok43.2.1 ok43.2.2 rfl (by decide) (c13_dropsMapped l D cA B S39 S43 (x0) h43) rfl rfl kd13_dropsMapped (kl13_687) ks13_dropsMapped kv13_dropsMapped ki13 kh13_dropsMapped ⟨Nat.le_of_ble_eq_true rfl, Nat.le_of_ble_eq_true rfl⟩ rfl (by simp [e_rv_cat, e_int_cat]) ⟨Nat.le_refl _, Nat.le_refl _⟩ dX13_takesMap_43 rfl (fun H locs hp hS => ?_)
    cases hsh
    exact e_vret hx hb hrt hlk hp hS dX13_takesMap_46
theorem ok13_isText {S : HP} {x0 : Int} {r : Int × HP} (h : s13_isText S x0 = some r) : 0 ≤ x0 ∧ x0.toNat < e_n S ∧ e_g S x0.toNat = 13 := (gd_some h).1
set_option maxRecDepth 100000 in
set_option maxHeartbeats 4000000 in
theorem w13_isText_b95 {p : Program} {l : Launch} {e : Env} {s : State} {m : MethodId} {args : Array Value} {below : List Frame} {meth : Method} {c : Code} {D : va_G} {cA : Nat → ClassId} {B : Nat} {res : Int × HP} (E : e_En p s m args meth c cX13_isText RX13 5 (some .boolean)) {ls : Array Slot} {H : Heap} {locs : List Loc} {S : HP} {y0 : Int} (hp : e_Pic D cA B S s H) (hS : va_S (e_A B) s.heap H locs) (hl : e_lo ls 5 []) (hsh : s13_isText_b95 S y0 = some res) : W p l e ({ frames := 0, cells := 0, slots := 0, locals := 0 } : Room) s m args below meth c H locs 0 0 (MQ below (e_Qi D cA B res.1 res.2) args s 0 0 (e_A B)) (F0 m 95 ls [.int (iI (y0))]) := by
  obtain ⟨hx, hb, hml, hown, hts, hlk, hrt⟩ := id E
  unfold s13_isText_b95 at hsh
  obtain ⟨hz, hz1, hz2⟩ := zR_some hsh
  rw [← hz1, ← hz2]
  exact e_zret hx hb hrt hlk hp hS hz dX13_isText_95
set_option maxRecDepth 100000 in
set_option maxHeartbeats 4000000 in
theorem w13_isText_b94 {p : Program} {l : Launch} {e : Env} {s : State} {m : MethodId} {args : Array Value} {below : List Frame} {meth : Method} {c : Code} {D : va_G} {cA : Nat → ClassId} {B : Nat} {res : Int × HP} (E : e_En p s m args meth c cX13_isText RX13 5 (some .boolean)) {ls : Array Slot} {H : Heap} {locs : List Loc} {S : HP} (hp : e_Pic D cA B S s H) (hS : va_S (e_A B) s.heap H locs) (hl : e_lo ls 5 []) (hsh : s13_isText_b94 S  = some res) : W p l e ({ frames := 0, cells := 0, slots := 0, locals := 0 } : Room) s m args below meth c H locs 0 0 (MQ below (e_Qi D cA B res.1 res.2) args s 0 0 (e_A B)) (F0 m 94 ls []) := by
  obtain ⟨hx, hb, hml, hown, hts, hlk, hrt⟩ := id E
  unfold s13_isText_b94 at hsh
  refine lv_iconst (v := iI (0)) hx hb dX13_isText_94 rfl ?_
  exact w13_isText_b95 E hp hS (hl.sub [] rfl) hsh
set_option maxRecDepth 100000 in
set_option maxHeartbeats 4000000 in
theorem w13_isText_b73 {p : Program} {l : Launch} {e : Env} {s : State} {m : MethodId} {args : Array Value} {below : List Frame} {meth : Method} {c : Code} {D : va_G} {cA : Nat → ClassId} {B : Nat} {res : Int × HP} {k9 : HP → Int → Int → Int → Int → Int → Option (Int × HP)} (hk9 : ∀ {ls : Array Slot} {H : Heap} {locs : List Loc} {S : HP} {x0 : Int} {x1 : Int} {x2 : Int} {x3 : Int} {x4 : Int} (hp : e_Pic D cA B S s H) (hS : va_S (e_A B) s.heap H locs) (hl : e_lo ls 5 [(0, e_rv B (x0)), (1, .int (iI (x1))), (2, .int (iI (x2))), (3, .int (iI (x3))), (4, .int (iI (x4)))]) (hsh : k9 S x0 x1 x2 x3 x4 = some res), W p l e ({ frames := 0, cells := 0, slots := 0, locals := 0 } : Room) s m args below meth c H locs 0 0 (MQ below (e_Qi D cA B res.1 res.2) args s 0 0 (e_A B)) (F0 m 9 ls [])) (E : e_En p s m args meth c cX13_isText RX13 5 (some .boolean)) {ls : Array Slot} {H : Heap} {locs : List Loc} {S : HP} {x0 : Int} {x1 : Int} {x2 : Int} {x4 : Int} {y0 : Int} (hp : e_Pic D cA B S s H) (hS : va_S (e_A B) s.heap H locs) (hl : e_lo ls 5 [(0, e_rv B (x0)), (1, .int (iI (x1))), (2, .int (iI (x2))), (4, .int (iI (x4)))]) (hsh : s13_isText_b73 k9 S x0 x1 x2 x4 y0 = some res) : W p l e ({ frames := 0, cells := 0, slots := 0, locals := 0 } : Room) s m args below meth c H locs 0 0 (MQ below (e_Qi D cA B res.1 res.2) args s 0 0 (e_A B)) (F0 m 73 ls [.int (iI (y0))]) := by
  obtain ⟨hx, hb, hml, hown, hts, hlk, hrt⟩ := id E
  unfold s13_isText_b73 at hsh
  refine e_istore_n (lv' := [(3, .int (iI (y0))), (0, e_rv B (x0)), (1, .int (iI (x1))), (2, .int (iI (x2))), (4, .int (iI (x4)))]) hx hb dX13_isText_73 rfl hl (by decide) rfl (fun ls hl => ?_)
  refine e_iinc (n := 1) (x := x4) (lv' := [(4, .int (iI ((x4 + 1)))), (3, .int (iI (y0))), (0, e_rv B (x0)), (1, .int (iI (x1))), (2, .int (iI (x2)))]) hx hb dX13_isText_74 hl (k := 4) rfl (by decide) rfl (fun ls hl => ?_)
  refine lv_goto (tgt := 9) hx hb dX13_isText_77 (by decide) ?_
  exact hk9 hp hS (hl.sub [2, 3, 4, 1, 0] rfl) hsh
set_option maxRecDepth 100000 in
set_option maxHeartbeats 4000000 in
theorem w13_isText_b72 {p : Program} {l : Launch} {e : Env} {s : State} {m : MethodId} {args : Array Value} {below : List Frame} {meth : Method} {c : Code} {D : va_G} {cA : Nat → ClassId} {B : Nat} {res : Int × HP} {k9 : HP → Int → Int → Int → Int → Int → Option (Int × HP)} (hk9 : ∀ {ls : Array Slot} {H : Heap} {locs : List Loc} {S : HP} {x0 : Int} {x1 : Int} {x2 : Int} {x3 : Int} {x4 : Int} (hp : e_Pic D cA B S s H) (hS : va_S (e_A B) s.heap H locs) (hl : e_lo ls 5 [(0, e_rv B (x0)), (1, .int (iI (x1))), (2, .int (iI (x2))), (3, .int (iI (x3))), (4, .int (iI (x4)))]) (hsh : k9 S x0 x1 x2 x3 x4 = some res), W p l e ({ frames := 0, cells := 0, slots := 0, locals := 0 } : Room) s m args below meth c H locs 0 0 (MQ below (e_Qi D cA B res.1 res.2) args s 0 0 (e_A B)) (F0 m 9 ls [])) (E : e_En p s m args meth c cX13_isText RX13 5 (some .boolean)) {ls : Array Slot} {H : Heap} {locs : List Loc} {S : HP} {x0 : Int} {x1 : Int} {x2 : Int} {x4 : Int} (hp : e_Pic D cA B S s H) (hS : va_S (e_A B) s.heap H locs) (hl : e_lo ls 5 [(0, e_rv B (x0)), (1, .int (iI (x1))), (2, .int (iI (x2))), (4, .int (iI (x4)))]) (hsh : s13_isText_b72 k9 S x0 x1 x2 x4 = some res) : W p l e ({ frames := 0, cells := 0, slots := 0, locals := 0 } : Room) s m args below meth c H locs 0 0 (MQ below (e_Qi D cA B res.1 res.2) args s 0 0 (e_A B)) (F0 m 72 ls []) := by
  obtain ⟨hx, hb, hml, hown, hts, hlk, hrt⟩ := id E
  unfold s13_isText_b72 at hsh
  refine lv_iconst (v := iI (0)) hx hb dX13_isText_72 rfl ?_
  exact w13_isText_b73 (hk9 := hk9) E hp hS (hl.sub [0, 1, 2, 3] rfl) hsh
set_option maxRecDepth 100000 in
set_option maxHeartbeats 4000000 in
theorem w13_isText_b57 {p : Program} {l : Launch} {e : Env} {s : State} {m : MethodId} {args : Array Value} {below : List Frame} {meth : Method} {c : Code} {D : va_G} {cA : Nat → ClassId} {B : Nat} {res : Int × HP} {k9 : HP → Int → Int → Int → Int → Int → Option (Int × HP)} (hk9 : ∀ {ls : Array Slot} {H : Heap} {locs : List Loc} {S : HP} {x0 : Int} {x1 : Int} {x2 : Int} {x3 : Int} {x4 : Int} (hp : e_Pic D cA B S s H) (hS : va_S (e_A B) s.heap H locs) (hl : e_lo ls 5 [(0, e_rv B (x0)), (1, .int (iI (x1))), (2, .int (iI (x2))), (3, .int (iI (x3))), (4, .int (iI (x4)))]) (hsh : k9 S x0 x1 x2 x3 x4 = some res), W p l e ({ frames := 0, cells := 0, slots := 0, locals := 0 } : Room) s m args below meth c H locs 0 0 (MQ below (e_Qi D cA B res.1 res.2) args s 0 0 (e_A B)) (F0 m 9 ls [])) (E : e_En p s m args meth c cX13_isText RX13 5 (some .boolean)) {ls : Array Slot} {H : Heap} {locs : List Loc} {S : HP} {x0 : Int} {x1 : Int} {x3 : Int} {x4 : Int} {y0 : Int} (hp : e_Pic D cA B S s H) (hS : va_S (e_A B) s.heap H locs) (hl : e_lo ls 5 [(0, e_rv B (x0)), (1, .int (iI (x1))), (3, .int (iI (x3))), (4, .int (iI (x4)))]) (hsh : s13_isText_b57 k9 S x0 x1 x3 x4 y0 = some res) : W p l e ({ frames := 0, cells := 0, slots := 0, locals := 0 } : Room) s m args below meth c H locs 0 0 (MQ below (e_Qi D cA B res.1 res.2) args s 0 0 (e_A B)) (F0 m 57 ls [.int (iI (y0))]) := by
  obtain ⟨hx, hb, hml, hown, hts, hlk, hrt⟩ := id E
  unfold s13_isText_b57 at hsh
  refine e_istore_n (lv' := [(2, .int (iI (y0))), (0, e_rv B (x0)), (1, .int (iI (x1))), (3, .int (iI (x3))), (4, .int (iI (x4)))]) hx hb dX13_isText_57 rfl hl (by decide) rfl (fun ls hl => ?_)
  refine lv_iload_n hx hb dX13_isText_58 rfl (hl.at 3 rfl) ?_
  refine e_if_eq (tgt := 72) hx hb dX13_isText_59 (by decide) (fun c59 => ?_) (fun c59 => ?_)
  · rw [if_pos c59] at hsh
    exact w13_isText_b72 (hk9 := hk9) E hp hS (hl.sub [1, 2, 0, 4] rfl) hsh
  · rw [if_neg c59] at hsh
    refine lv_iload_n hx hb dX13_isText_62 rfl (hl.at 0 rfl) ?_
    refine lv_bipush (v := iI (60)) hx hb dX13_isText_63 (by decide +kernel) ?_
    refine e_icmp_gt (tgt := 72) hx hb dX13_isText_65 (by decide) (fun c65 => ?_) (fun c65 => ?_)
    · rw [if_pos c65] at hsh
      exact w13_isText_b72 (hk9 := hk9) E hp hS (hl.sub [1, 2, 0, 4] rfl) hsh
    · rw [if_neg c65] at hsh
      refine lv_iconst (v := iI (1)) hx hb dX13_isText_68 rfl ?_
      refine lv_goto (tgt := 73) hx hb dX13_isText_69 (by decide) ?_
      exact w13_isText_b73 (hk9 := hk9) E hp hS (hl.sub [1, 2, 0, 4] rfl) hsh
set_option maxRecDepth 100000 in
set_option maxHeartbeats 4000000 in
theorem w13_isText_b36 {p : Program} {l : Launch} {e : Env} {s : State} {m : MethodId} {args : Array Value} {below : List Frame} {meth : Method} {c : Code} {D : va_G} {cA : Nat → ClassId} {B : Nat} {res : Int × HP} {k9 : HP → Int → Int → Int → Int → Int → Option (Int × HP)} (hk9 : ∀ {ls : Array Slot} {H : Heap} {locs : List Loc} {S : HP} {x0 : Int} {x1 : Int} {x2 : Int} {x3 : Int} {x4 : Int} (hp : e_Pic D cA B S s H) (hS : va_S (e_A B) s.heap H locs) (hl : e_lo ls 5 [(0, e_rv B (x0)), (1, .int (iI (x1))), (2, .int (iI (x2))), (3, .int (iI (x3))), (4, .int (iI (x4)))]) (hsh : k9 S x0 x1 x2 x3 x4 = some res), W p l e ({ frames := 0, cells := 0, slots := 0, locals := 0 } : Room) s m args below meth c H locs 0 0 (MQ below (e_Qi D cA B res.1 res.2) args s 0 0 (e_A B)) (F0 m 9 ls [])) (E : e_En p s m args meth c cX13_isText RX13 5 (some .boolean)) {ls : Array Slot} {H : Heap} {locs : List Loc} {S : HP} {x0 : Int} {x2 : Int} {x3 : Int} {x4 : Int} {y0 : Int} {y1 : Int} (hp : e_Pic D cA B S s H) (hS : va_S (e_A B) s.heap H locs) (hl : e_lo ls 5 [(0, e_rv B (x0)), (2, .int (iI (x2))), (3, .int (iI (x3))), (4, .int (iI (x4)))]) (hsh : s13_isText_b36 k9 S x0 x2 x3 x4 y0 y1 = some res) : W p l e ({ frames := 0, cells := 0, slots := 0, locals := 0 } : Room) s m args below meth c H locs 0 0 (MQ below (e_Qi D cA B res.1 res.2) args s 0 0 (e_A B)) (F0 m 36 ls [.int (iI (y1)), .int (iI (y0))]) := by
  obtain ⟨hx, hb, hml, hown, hts, hlk, hrt⟩ := id E
  unfold s13_isText_b36 at hsh
  refine e_iadd hx hb dX13_isText_36 ?_
  refine e_istore_n (lv' := [(1, .int (iI ((y0 + y1)))), (0, e_rv B (x0)), (2, .int (iI (x2))), (3, .int (iI (x3))), (4, .int (iI (x4)))]) hx hb dX13_isText_37 rfl hl (by decide) rfl (fun ls hl => ?_)
  refine e_aload_n (B := B) (x := x0) hx hb dX13_isText_38 rfl (hl.at 1 rfl) ?_
  obtain ⟨v39, h39, hsh⟩ := Option.bind_eq_some_iff.mp hsh
  refine e_getR (k := 1) hx hb hts in_X13 hown hp h39 rfl (by decide) (by decide) rfl (hts _ kf13_7) rfl dX13_isText_39 ?_
  refine lv_iload hx hb dX13_isText_42 (hl.at 4 rfl) ?_
  obtain ⟨v44, h44, hsh⟩ := Option.bind_eq_some_iff.mp hsh
  refine e_iald hx hb hp h44 dX13_isText_44 ?_
  refine lv_bipush (v := iI (10)) hx hb dX13_isText_45 (by decide +kernel) ?_
  refine e_icmp_ne (tgt := 54) hx hb dX13_isText_47 (by decide) (fun c47 => ?_) (fun c47 => ?_)
  · rw [if_neg c47] at hsh
    refine lv_iload_n hx hb dX13_isText_54 rfl (hl.at 2 rfl) ?_
    refine lv_iconst (v := iI (1)) hx hb dX13_isText_55 rfl ?_
    refine e_iadd hx hb dX13_isText_56 ?_
    exact w13_isText_b57 (hk9 := hk9) E hp hS (hl.sub [1, 0, 3, 4] rfl) hsh
  · rw [if_pos c47] at hsh
    refine lv_iconst (v := iI (0)) hx hb dX13_isText_50 rfl ?_
    refine lv_goto (tgt := 57) hx hb dX13_isText_51 (by decide) ?_
    exact w13_isText_b57 (hk9 := hk9) E hp hS (hl.sub [1, 0, 3, 4] rfl) hsh
set_option maxRecDepth 100000 in
set_option maxHeartbeats 4000000 in
theorem w13_isText_l9 {p : Program} {l : Launch} {e : Env} {s : State} {m : MethodId} {args : Array Value} {below : List Frame} {meth : Method} {c : Code} {D : va_G} {cA : Nat → ClassId} {B : Nat} {res : Int × HP} (E : e_En p s m args meth c cX13_isText RX13 5 (some .boolean)) : ∀ (f : Nat) {ls : Array Slot} {H : Heap} {locs : List Loc} {S : HP} {x0 : Int} {x1 : Int} {x2 : Int} {x3 : Int} {x4 : Int} (hp : e_Pic D cA B S s H) (hS : va_S (e_A B) s.heap H locs) (hl : e_lo ls 5 [(0, e_rv B (x0)), (1, .int (iI (x1))), (2, .int (iI (x2))), (3, .int (iI (x3))), (4, .int (iI (x4)))]) (hsh : s13_isText_l9 f S x0 x1 x2 x3 x4 = some res), W p l e ({ frames := 0, cells := 0, slots := 0, locals := 0 } : Room) s m args below meth c H locs 0 0 (MQ below (e_Qi D cA B res.1 res.2) args s 0 0 (e_A B)) (F0 m 9 ls []) := by
  obtain ⟨hx, hb, hml, hown, hts, hlk, hrt⟩ := id E
  intro f
  induction f with
  | zero => intro ls H locs S x0 x1 x2 x3 x4 hp hS hl hsh; cases hsh
  | succ f ih =>
    intro ls H locs S x0 x1 x2 x3 x4 hp hS hl hsh
    have hk9 : ∀ {ls : Array Slot} {H : Heap} {locs : List Loc} {S : HP} {x0 : Int} {x1 : Int} {x2 : Int} {x3 : Int} {x4 : Int} (hp : e_Pic D cA B S s H) (hS : va_S (e_A B) s.heap H locs) (hl : e_lo ls 5 [(0, e_rv B (x0)), (1, .int (iI (x1))), (2, .int (iI (x2))), (3, .int (iI (x3))), (4, .int (iI (x4)))]) (hsh : (s13_isText_l9 f) S x0 x1 x2 x3 x4 = some res), W p l e ({ frames := 0, cells := 0, slots := 0, locals := 0 } : Room) s m args below meth c H locs 0 0 (MQ below (e_Qi D cA B res.1 res.2) args s 0 0 (e_A B)) (F0 m 9 ls []) := ih
    generalize hkk : s13_isText_l9 f = k9 at hk9
    rw [s13_isText_l9] at hsh
    rw [hkk] at hsh
    try dsimp only at hsh
    refine lv_iload hx hb dX13_isText_9 (hl.at 4 rfl) ?_
    refine e_aload_n (B := B) (x := x0) hx hb dX13_isText_11 rfl (hl.at 0 rfl) ?_
    obtain ⟨v12, h12, hsh⟩ := Option.bind_eq_some_iff.mp hsh
    refine e_getI (k := 0) hx hb hts in_X13 hown hp h12 rfl (by decide) (by decide) rfl (hts _ kf13_1040) rfl dX13_isText_12 ?_
    refine e_icmp_ge (tgt := 80) hx hb dX13_isText_15 (by decide) (fun c15 => ?_) (fun c15 => ?_)
    · rw [if_pos c15] at hsh
      refine lv_iload_n hx hb dX13_isText_80 rfl (hl.at 3 rfl) ?_
      refine e_if_eq (tgt := 94) hx hb dX13_isText_81 (by decide) (fun c81 => ?_) (fun c81 => ?_)
      · rw [if_pos c81] at hsh
        exact w13_isText_b94 E hp hS (hl.sub [] rfl) hsh
      · rw [if_neg c81] at hsh
        refine lv_iload_n hx hb dX13_isText_84 rfl (hl.at 1 rfl) ?_
        refine lv_bipush (v := iI (40)) hx hb dX13_isText_85 (by decide +kernel) ?_
        refine e_icmp_gt (tgt := 94) hx hb dX13_isText_87 (by decide) (fun c87 => ?_) (fun c87 => ?_)
        · rw [if_pos c87] at hsh
          exact w13_isText_b94 E hp hS (hl.sub [] rfl) hsh
        · rw [if_neg c87] at hsh
          refine lv_iconst (v := iI (1)) hx hb dX13_isText_90 rfl ?_
          refine lv_goto (tgt := 95) hx hb dX13_isText_91 (by decide) ?_
          exact w13_isText_b95 E hp hS (hl.sub [] rfl) hsh
    · rw [if_neg c15] at hsh
      refine lv_iload_n hx hb dX13_isText_18 rfl (hl.at 1 rfl) ?_
      refine e_aload_n (B := B) (x := x0) hx hb dX13_isText_19 rfl (hl.at 0 rfl) ?_
      obtain ⟨v20, h20, hsh⟩ := Option.bind_eq_some_iff.mp hsh
      refine e_getR (k := 1) hx hb hts in_X13 hown hp h20 rfl (by decide) (by decide) rfl (hts _ kf13_7) rfl dX13_isText_20 ?_
      refine lv_iload hx hb dX13_isText_23 (hl.at 4 rfl) ?_
      obtain ⟨v25, h25, hsh⟩ := Option.bind_eq_some_iff.mp hsh
      refine e_iald hx hb hp h25 dX13_isText_25 ?_
      refine lv_bipush (v := iI (10)) hx hb dX13_isText_26 (by decide +kernel) ?_
      refine e_icmp_ne (tgt := 35) hx hb dX13_isText_28 (by decide) (fun c28 => ?_) (fun c28 => ?_)
      · rw [if_neg c28] at hsh
        refine lv_iconst (v := iI (0)) hx hb dX13_isText_35 rfl ?_
        exact w13_isText_b36 (hk9 := hk9) E hp hS (hl.sub [0, 2, 3, 4] rfl) hsh
      · rw [if_pos c28] at hsh
        refine lv_iconst (v := iI (1)) hx hb dX13_isText_31 rfl ?_
        refine lv_goto (tgt := 36) hx hb dX13_isText_32 (by decide) ?_
        exact w13_isText_b36 (hk9 := hk9) E hp hS (hl.sub [0, 2, 3, 4] rfl) hsh
set_option maxRecDepth 100000 in
set_option maxHeartbeats 4000000 in
theorem c13_isText (l : Launch) (D : va_G) (cA : Nat → ClassId) (B : Nat) (S S' : HP) (x0 : Int) (r : Int) (hsh : s13_isText S x0 = some (r, S')) : Met l yX13_isText (e_wu yX13_isText cX13_isText 5 (some .boolean)) ({ frames := 0, cells := 0, slots := 0, locals := 0 } : Room) (va_Pc [e_rv B (x0)] (fun U => e_PU D cA B S U)) (e_Qi D cA B r S') 0 0 (e_A B) := by
  refine Met.ofW (cc := cX13_isText) (maxL := 5) (ret := (some .boolean)) (by decide +kernel) rfl ?_
  intro p e s m args below meth c s₁ Bd hml hv
  obtain ⟨rfl, hp⟩ := hv
  have hp : e_Pic D cA B S s s.heap := hp
  have hx := Bd.exec
  have hb := Bd.bytes
  have hrt := Bd.returns
  have hlk := Bd.notSynchronized
  have hown : s.vm.findClass RX13 = some m.cls := findClass_of_methodNamed Bd.named
  have hts : ∀ w ∈ e_tb, w.before ([e_rv B (x0)] : List Value).toArray s = true := fun w h => atoms_spec (ws := (e_wu yX13_isText cX13_isText 5 (some .boolean))) Bd.pre w (List.mem_cons_of_mem _ h)
  have E : e_En p s m ([e_rv B (x0)] : List Value).toArray meth c cX13_isText RX13 5 (some .boolean) := ⟨hx, hb, hml, hown, hts, hlk, hrt⟩
  have hS : va_S (e_A B) s.heap s.heap [] := va_S.rf
  have hl := e_entry (vs := [e_rv B (x0)]) (n := 5) (Nat.le_of_ble_eq_true rfl) (e_cc (e_rv_cat _ _) e_cn)
  rw [lg_entry_eq]
  generalize (lg_sl [e_rv B (x0)] ++ List.replicate (5 - (lg_sl [e_rv B (x0)]).length) Slot.unset).toArray = ls at hl ⊢
  generalize ([e_rv B (x0)] : List Value).toArray = args at hts E ⊢
  have hl : e_lo ls 5 [(0, e_rv B (x0))] := hl
  have hsh := (gd_some hsh).2
  refine lv_iconst (v := iI (1)) hx hb dX13_isText_0 rfl ?_
  refine e_istore_n (lv' := [(1, .int (iI (1))), (0, e_rv B (x0))]) hx hb dX13_isText_1 rfl hl (by decide) rfl (fun ls hl => ?_)
  refine lv_iconst (v := iI (0)) hx hb dX13_isText_2 rfl ?_
  refine e_istore_n (lv' := [(2, .int (iI (0))), (1, .int (iI (1))), (0, e_rv B (x0))]) hx hb dX13_isText_3 rfl hl (by decide) rfl (fun ls hl => ?_)
  refine lv_iconst (v := iI (1)) hx hb dX13_isText_4 rfl ?_
  refine e_istore_n (lv' := [(3, .int (iI (1))), (2, .int (iI (0))), (1, .int (iI (1))), (0, e_rv B (x0))]) hx hb dX13_isText_5 rfl hl (by decide) rfl (fun ls hl => ?_)
  refine lv_iconst (v := iI (0)) hx hb dX13_isText_6 rfl ?_
  refine e_istore (lv' := [(4, .int (iI (0))), (3, .int (iI (1))), (2, .int (iI (0))), (1, .int (iI (1))), (0, e_rv B (x0))]) hx hb dX13_isText_7 hl (by decide) rfl (fun ls hl => ?_)
  exact w13_isText_l9 E 1000000 hp hS (hl.sub [4, 3, 2, 1, 0] rfl) hsh
theorem ok13_load {S : HP} {x0 : Int} {r : Int × HP} (h : s13_load S x0 = some r) : 0 ≤ x0 ∧ x0.toNat < e_n S ∧ e_g S x0.toNat = 13 := (gd_some h).1
set_option maxRecDepth 100000 in
set_option maxHeartbeats 4000000 in
theorem w13_load_l200 {p : Program} {l : Launch} {e : Env} {s : State} {m : MethodId} {args : Array Value} {below : List Frame} {meth : Method} {c : Code} {D : va_G} {cA : Nat → ClassId} {B : Nat} {res : Int × HP} (E : e_En p s m args meth c cX13_load RX13 2 (some .int)) : ∀ (f : Nat) {ls : Array Slot} {H : Heap} {locs : List Loc} {S : HP} {x0 : Int} {x1 : Int} (hp : e_Pic D cA B S s H) (hS : va_S (e_A B) s.heap H locs) (hl : e_lo ls 2 [(0, e_rv B (x0)), (1, .int (iI (x1)))]) (hsh : s13_load_l200 f S x0 x1 = some res), W p l e ({ frames := 2, cells := 0, slots := 0, locals := 45 } : Room) s m args below meth c H locs 0 0 (MQ below (e_Qi D cA B res.1 res.2) args s 0 0 (e_A B)) (F0 m 200 ls []) := by
  obtain ⟨hx, hb, hml, hown, hts, hlk, hrt⟩ := id E
  intro f
  induction f with
  | zero => intro ls H locs S x0 x1 hp hS hl hsh; cases hsh
  | succ f ih =>
    intro ls H locs S x0 x1 hp hS hl hsh
    have hk200 : ∀ {ls : Array Slot} {H : Heap} {locs : List Loc} {S : HP} {x0 : Int} {x1 : Int} (hp : e_Pic D cA B S s H) (hS : va_S (e_A B) s.heap H locs) (hl : e_lo ls 2 [(0, e_rv B (x0)), (1, .int (iI (x1)))]) (hsh : (s13_load_l200 f) S x0 x1 = some res), W p l e ({ frames := 2, cells := 0, slots := 0, locals := 45 } : Room) s m args below meth c H locs 0 0 (MQ below (e_Qi D cA B res.1 res.2) args s 0 0 (e_A B)) (F0 m 200 ls []) := ih
    generalize hkk : s13_load_l200 f = k200 at hk200
    rw [s13_load_l200] at hsh
    rw [hkk] at hsh
    try dsimp only at hsh
    refine lv_iload_n hx hb dX13_load_200 rfl (hl.at 1 rfl) ?_
    refine lv_sipush (v := iI (1600)) hx hb dX13_load_201 (by decide +kernel) ?_
    refine e_icmp_ge (tgt := 227) hx hb dX13_load_204 (by decide) (fun c204 => ?_) (fun c204 => ?_)
    · rw [if_pos c204] at hsh
      refine e_aload_n (B := B) (x := x0) hx hb dX13_load_227 rfl (hl.at 0 rfl) ?_
      refine lv_iconst (v := iI (0)) hx hb dX13_load_228 rfl ?_
      obtain ⟨S229, h229, hsh⟩ := Option.bind_eq_some_iff.mp hsh
      refine e_putI (k := 23) hx hb hts in_X13 tyX13 tyX13_ok nmX13 hown hp hS h229 rfl (by decide) (by decide) rfl (hts _ kf13_244) rfl rfl (by decide +kernel) dX13_load_229 (fun H locs hp hS => ?_)
      refine e_aload_n (B := B) (x := x0) hx hb dX13_load_232 rfl (hl.at 0 rfl) ?_
      refine lv_iconst (v := iI (1)) hx hb dX13_load_233 rfl ?_
      obtain ⟨S234, h234, hsh⟩ := Option.bind_eq_some_iff.mp hsh
      refine e_putI (k := 26) hx hb hts in_X13 tyX13 tyX13_ok nmX13 hown hp hS h234 rfl (by decide) (by decide) rfl (hts _ kf13_60) rfl rfl (by decide +kernel) dX13_load_234 (fun H locs hp hS => ?_)
      refine e_aload_n (B := B) (x := x0) hx hb dX13_load_237 rfl (hl.at 0 rfl) ?_
      refine lv_iconst (v := iI (0)) hx hb dX13_load_238 rfl ?_
      obtain ⟨S239, h239, hsh⟩ := Option.bind_eq_some_iff.mp hsh
      refine e_putI (k := 27) hx hb hts in_X13 tyX13 tyX13_ok nmX13 hown hp hS h239 rfl (by decide) (by decide) rfl (hts _ kf13_572) rfl rfl (by decide +kernel) dX13_load_239 (fun H locs hp hS => ?_)
      refine e_aload_n (B := B) (x := x0) hx hb dX13_load_242 rfl (hl.at 0 rfl) ?_
      obtain ⟨v243, h243, hsh⟩ := Option.bind_eq_some_iff.mp hsh
      refine e_getR (k := 31) hx hb hts in_X13 hown hp h243 rfl (by decide) (by decide) rfl (hts _ kf13_73) rfl dX13_load_243 ?_
      refine lv_iconst (v := iI (0)) hx hb dX13_load_246 rfl ?_
      refine lv_iconst (v := iI (-1)) hx hb dX13_load_247 rfl ?_
      obtain ⟨S248, h248, hsh⟩ := Option.bind_eq_some_iff.mp hsh
      refine e_iast hx hb hp hS h248 dX13_load_248 (fun H locs hp hS => ?_)
      refine e_aload_n (B := B) (x := x0) hx hb dX13_load_249 rfl (hl.at 0 rfl) ?_
      refine lv_iconst (v := iI (0)) hx hb dX13_load_250 rfl ?_
      obtain ⟨S251, h251, hsh⟩ := Option.bind_eq_some_iff.mp hsh
      have ok251 := ok13_copiesState h251
      refine e_callV (nL := 2) (mc := 0) (ms := 0) (T := TX13) (N := 126) (As := [.int (iI (0))]) (rest := []) hx hb hml hown hts hp hS hl.size ok251.1 ok251.2.1 ok251.2.2 rfl (by decide) (c13_copiesState l D cA B S248 S251 (x0) (0) h251) rfl rfl kd13_copiesState (kl13_191) ks13_copiesState kv13_copiesState ki13 kh13_copiesState ⟨Nat.le_of_ble_eq_true rfl, Nat.le_of_ble_eq_true rfl⟩ rfl (by simp [e_rv_cat, e_int_cat]) ⟨Nat.le_refl _, Nat.le_refl _⟩ dX13_load_251 rfl (fun H locs hp hS => ?_)
      refine e_aload_n (B := B) (x := x0) hx hb dX13_load_254 rfl (hl.at 0 rfl) ?_
      obtain ⟨v255, h255, hsh⟩ := Option.bind_eq_some_iff.mp hsh
      refine e_getI (k := 2) hx hb hts in_X13 hown hp h255 rfl (by decide) (by decide) rfl (hts _ kf13_13) rfl dX13_load_255 ?_
      cases hsh
      exact e_iret hx hb hrt hlk hp hS dX13_load_258
    · rw [if_neg c204] at hsh
      refine e_aload_n (B := B) (x := x0) hx hb dX13_load_207 rfl (hl.at 0 rfl) ?_
      obtain ⟨v208, h208, hsh⟩ := Option.bind_eq_some_iff.mp hsh
      refine e_getR (k := 21) hx hb hts in_X13 hown hp h208 rfl (by decide) (by decide) rfl (hts _ kf13_48) rfl dX13_load_208 ?_
      refine lv_iload_n hx hb dX13_load_211 rfl (hl.at 1 rfl) ?_
      refine lv_iconst (v := iI (0)) hx hb dX13_load_212 rfl ?_
      obtain ⟨S213, h213, hsh⟩ := Option.bind_eq_some_iff.mp hsh
      refine e_iast hx hb hp hS h213 dX13_load_213 (fun H locs hp hS => ?_)
      refine e_aload_n (B := B) (x := x0) hx hb dX13_load_214 rfl (hl.at 0 rfl) ?_
      obtain ⟨v215, h215, hsh⟩ := Option.bind_eq_some_iff.mp hsh
      refine e_getR (k := 22) hx hb hts in_X13 hown hp h215 rfl (by decide) (by decide) rfl (hts _ kf13_51) rfl dX13_load_215 ?_
      refine lv_iload_n hx hb dX13_load_218 rfl (hl.at 1 rfl) ?_
      refine lv_iconst (v := iI (0)) hx hb dX13_load_219 rfl ?_
      obtain ⟨S220, h220, hsh⟩ := Option.bind_eq_some_iff.mp hsh
      refine e_iast hx hb hp hS h220 dX13_load_220 (fun H locs hp hS => ?_)
      refine e_iinc (n := 1) (x := x1) (lv' := [(1, .int (iI ((x1 + 1)))), (0, e_rv B (x0))]) hx hb dX13_load_221 hl (k := 1) rfl (by decide) rfl (fun ls hl => ?_)
      refine lv_goto (tgt := 200) hx hb dX13_load_224 (by decide) ?_
      exact hk200 hp hS (hl.sub [1, 0] rfl) hsh
set_option maxRecDepth 100000 in
set_option maxHeartbeats 4000000 in
theorem w13_load_l164 {p : Program} {l : Launch} {e : Env} {s : State} {m : MethodId} {args : Array Value} {below : List Frame} {meth : Method} {c : Code} {D : va_G} {cA : Nat → ClassId} {B : Nat} {res : Int × HP} (E : e_En p s m args meth c cX13_load RX13 2 (some .int)) : ∀ (f : Nat) {ls : Array Slot} {H : Heap} {locs : List Loc} {S : HP} {x0 : Int} {x1 : Int} (hp : e_Pic D cA B S s H) (hS : va_S (e_A B) s.heap H locs) (hl : e_lo ls 2 [(0, e_rv B (x0)), (1, .int (iI (x1)))]) (hsh : s13_load_l164 f S x0 x1 = some res), W p l e ({ frames := 2, cells := 0, slots := 0, locals := 45 } : Room) s m args below meth c H locs 0 0 (MQ below (e_Qi D cA B res.1 res.2) args s 0 0 (e_A B)) (F0 m 164 ls []) := by
  obtain ⟨hx, hb, hml, hown, hts, hlk, hrt⟩ := id E
  intro f
  induction f with
  | zero => intro ls H locs S x0 x1 hp hS hl hsh; cases hsh
  | succ f ih =>
    intro ls H locs S x0 x1 hp hS hl hsh
    have hk164 : ∀ {ls : Array Slot} {H : Heap} {locs : List Loc} {S : HP} {x0 : Int} {x1 : Int} (hp : e_Pic D cA B S s H) (hS : va_S (e_A B) s.heap H locs) (hl : e_lo ls 2 [(0, e_rv B (x0)), (1, .int (iI (x1)))]) (hsh : (s13_load_l164 f) S x0 x1 = some res), W p l e ({ frames := 2, cells := 0, slots := 0, locals := 45 } : Room) s m args below meth c H locs 0 0 (MQ below (e_Qi D cA B res.1 res.2) args s 0 0 (e_A B)) (F0 m 164 ls []) := ih
    generalize hkk : s13_load_l164 f = k164 at hk164
    rw [s13_load_l164] at hsh
    rw [hkk] at hsh
    try dsimp only at hsh
    refine lv_iload_n hx hb dX13_load_164 rfl (hl.at 1 rfl) ?_
    refine lv_bipush (v := iI (26)) hx hb dX13_load_165 (by decide +kernel) ?_
    refine e_icmp_ge (tgt := 183) hx hb dX13_load_167 (by decide) (fun c167 => ?_) (fun c167 => ?_)
    · rw [if_pos c167] at hsh
      refine e_aload_n (B := B) (x := x0) hx hb dX13_load_183 rfl (hl.at 0 rfl) ?_
      refine lv_iconst (v := iI (0)) hx hb dX13_load_184 rfl ?_
      obtain ⟨S185, h185, hsh⟩ := Option.bind_eq_some_iff.mp hsh
      refine e_putI (k := 16) hx hb hts in_X13 tyX13 tyX13_ok nmX13 hown hp hS h185 rfl (by decide) (by decide) rfl (hts _ kf13_234) rfl rfl (by decide +kernel) dX13_load_185 (fun H locs hp hS => ?_)
      refine e_aload_n (B := B) (x := x0) hx hb dX13_load_188 rfl (hl.at 0 rfl) ?_
      refine lv_iconst (v := iI (-1)) hx hb dX13_load_189 rfl ?_
      obtain ⟨S190, h190, hsh⟩ := Option.bind_eq_some_iff.mp hsh
      refine e_putI (k := 19) hx hb hts in_X13 tyX13 tyX13_ok nmX13 hown hp hS h190 rfl (by decide) (by decide) rfl (hts _ kf13_45) rfl rfl (by decide +kernel) dX13_load_190 (fun H locs hp hS => ?_)
      refine e_aload_n (B := B) (x := x0) hx hb dX13_load_193 rfl (hl.at 0 rfl) ?_
      refine lv_iconst (v := iI (0)) hx hb dX13_load_194 rfl ?_
      obtain ⟨S195, h195, hsh⟩ := Option.bind_eq_some_iff.mp hsh
      refine e_putI (k := 20) hx hb hts in_X13 tyX13 tyX13_ok nmX13 hown hp hS h195 rfl (by decide) (by decide) rfl (hts _ kf13_237) rfl rfl (by decide +kernel) dX13_load_195 (fun H locs hp hS => ?_)
      refine lv_iconst (v := iI (0)) hx hb dX13_load_198 rfl ?_
      refine e_istore_n (lv' := [(1, .int (iI (0))), (0, e_rv B (x0))]) hx hb dX13_load_199 rfl hl (by decide) rfl (fun ls hl => ?_)
      exact w13_load_l200 E 1000000 hp hS (hl.sub [1, 0] rfl) hsh
    · rw [if_neg c167] at hsh
      refine e_aload_n (B := B) (x := x0) hx hb dX13_load_170 rfl (hl.at 0 rfl) ?_
      obtain ⟨v171, h171, hsh⟩ := Option.bind_eq_some_iff.mp hsh
      refine e_getR (k := 14) hx hb hts in_X13 hown hp h171 rfl (by decide) (by decide) rfl (hts _ kf13_33) rfl dX13_load_171 ?_
      refine lv_iload_n hx hb dX13_load_174 rfl (hl.at 1 rfl) ?_
      refine lv_iconst (v := iI (-1)) hx hb dX13_load_175 rfl ?_
      obtain ⟨S176, h176, hsh⟩ := Option.bind_eq_some_iff.mp hsh
      refine e_iast hx hb hp hS h176 dX13_load_176 (fun H locs hp hS => ?_)
      refine e_iinc (n := 1) (x := x1) (lv' := [(1, .int (iI ((x1 + 1)))), (0, e_rv B (x0))]) hx hb dX13_load_177 hl (k := 1) rfl (by decide) rfl (fun ls hl => ?_)
      refine lv_goto (tgt := 164) hx hb dX13_load_180 (by decide) ?_
      exact hk164 hp hS (hl.sub [1, 0] rfl) hsh
set_option maxRecDepth 100000 in
set_option maxHeartbeats 4000000 in
theorem w13_load_b126 {p : Program} {l : Launch} {e : Env} {s : State} {m : MethodId} {args : Array Value} {below : List Frame} {meth : Method} {c : Code} {D : va_G} {cA : Nat → ClassId} {B : Nat} {res : Int × HP} {k35 : HP → Int → Int → Option (Int × HP)} (hk35 : ∀ {ls : Array Slot} {H : Heap} {locs : List Loc} {S : HP} {x0 : Int} {x1 : Int} (hp : e_Pic D cA B S s H) (hS : va_S (e_A B) s.heap H locs) (hl : e_lo ls 2 [(0, e_rv B (x0)), (1, .int (iI (x1)))]) (hsh : k35 S x0 x1 = some res), W p l e ({ frames := 2, cells := 0, slots := 0, locals := 45 } : Room) s m args below meth c H locs 0 0 (MQ below (e_Qi D cA B res.1 res.2) args s 0 0 (e_A B)) (F0 m 35 ls [])) (E : e_En p s m args meth c cX13_load RX13 2 (some .int)) {ls : Array Slot} {H : Heap} {locs : List Loc} {S : HP} {x0 : Int} {x1 : Int} (hp : e_Pic D cA B S s H) (hS : va_S (e_A B) s.heap H locs) (hl : e_lo ls 2 [(0, e_rv B (x0)), (1, .int (iI (x1)))]) (hsh : s13_load_b126 k35 S x0 x1 = some res) : W p l e ({ frames := 2, cells := 0, slots := 0, locals := 45 } : Room) s m args below meth c H locs 0 0 (MQ below (e_Qi D cA B res.1 res.2) args s 0 0 (e_A B)) (F0 m 126 ls []) := by
  obtain ⟨hx, hb, hml, hown, hts, hlk, hrt⟩ := id E
  unfold s13_load_b126 at hsh
  refine e_iinc (n := 1) (x := x1) (lv' := [(1, .int (iI ((x1 + 1)))), (0, e_rv B (x0))]) hx hb dX13_load_126 hl (k := 1) rfl (by decide) rfl (fun ls hl => ?_)
  refine lv_goto (tgt := 35) hx hb dX13_load_129 (by decide) ?_
  exact hk35 hp hS (hl.sub [1, 0] rfl) hsh
set_option maxRecDepth 100000 in
set_option maxHeartbeats 4000000 in
theorem w13_load_l35 {p : Program} {l : Launch} {e : Env} {s : State} {m : MethodId} {args : Array Value} {below : List Frame} {meth : Method} {c : Code} {D : va_G} {cA : Nat → ClassId} {B : Nat} {res : Int × HP} (E : e_En p s m args meth c cX13_load RX13 2 (some .int)) : ∀ (f : Nat) {ls : Array Slot} {H : Heap} {locs : List Loc} {S : HP} {x0 : Int} {x1 : Int} (hp : e_Pic D cA B S s H) (hS : va_S (e_A B) s.heap H locs) (hl : e_lo ls 2 [(0, e_rv B (x0)), (1, .int (iI (x1)))]) (hsh : s13_load_l35 f S x0 x1 = some res), W p l e ({ frames := 2, cells := 0, slots := 0, locals := 45 } : Room) s m args below meth c H locs 0 0 (MQ below (e_Qi D cA B res.1 res.2) args s 0 0 (e_A B)) (F0 m 35 ls []) := by
  obtain ⟨hx, hb, hml, hown, hts, hlk, hrt⟩ := id E
  intro f
  induction f with
  | zero => intro ls H locs S x0 x1 hp hS hl hsh; cases hsh
  | succ f ih =>
    intro ls H locs S x0 x1 hp hS hl hsh
    have hk35 : ∀ {ls : Array Slot} {H : Heap} {locs : List Loc} {S : HP} {x0 : Int} {x1 : Int} (hp : e_Pic D cA B S s H) (hS : va_S (e_A B) s.heap H locs) (hl : e_lo ls 2 [(0, e_rv B (x0)), (1, .int (iI (x1)))]) (hsh : (s13_load_l35 f) S x0 x1 = some res), W p l e ({ frames := 2, cells := 0, slots := 0, locals := 45 } : Room) s m args below meth c H locs 0 0 (MQ below (e_Qi D cA B res.1 res.2) args s 0 0 (e_A B)) (F0 m 35 ls []) := ih
    generalize hkk : s13_load_l35 f = k35 at hk35
    rw [s13_load_l35] at hsh
    rw [hkk] at hsh
    try dsimp only at hsh
    refine lv_iload_n hx hb dX13_load_35 rfl (hl.at 1 rfl) ?_
    refine e_aload_n (B := B) (x := x0) hx hb dX13_load_36 rfl (hl.at 0 rfl) ?_
    obtain ⟨v37, h37, hsh⟩ := Option.bind_eq_some_iff.mp hsh
    refine e_getI (k := 0) hx hb hts in_X13 hown hp h37 rfl (by decide) (by decide) rfl (hts _ kf13_1040) rfl dX13_load_37 ?_
    refine e_icmp_ge (tgt := 132) hx hb dX13_load_40 (by decide) (fun c40 => ?_) (fun c40 => ?_)
    · rw [if_pos c40] at hsh
      refine e_aload_n (B := B) (x := x0) hx hb dX13_load_132 rfl (hl.at 0 rfl) ?_
      refine lv_iconst (v := iI (0)) hx hb dX13_load_133 rfl ?_
      obtain ⟨S134, h134, hsh⟩ := Option.bind_eq_some_iff.mp hsh
      refine e_putI (k := 0) hx hb hts in_X13 tyX13 tyX13_ok nmX13 hown hp hS h134 rfl (by decide) (by decide) rfl (hts _ kf13_1040) rfl rfl (by decide +kernel) dX13_load_134 (fun H locs hp hS => ?_)
      refine e_aload_n (B := B) (x := x0) hx hb dX13_load_137 rfl (hl.at 0 rfl) ?_
      refine lv_iconst (v := iI (0)) hx hb dX13_load_138 rfl ?_
      obtain ⟨S139, h139, hsh⟩ := Option.bind_eq_some_iff.mp hsh
      refine e_putI (k := 8) hx hb hts in_X13 tyX13 tyX13_ok nmX13 hown hp hS h139 rfl (by decide) (by decide) rfl (hts _ kf13_466) rfl rfl (by decide +kernel) dX13_load_139 (fun H locs hp hS => ?_)
      refine e_aload_n (B := B) (x := x0) hx hb dX13_load_142 rfl (hl.at 0 rfl) ?_
      refine lv_iconst (v := iI (0)) hx hb dX13_load_143 rfl ?_
      refine lv_iconst (v := iI (0)) hx hb dX13_load_144 rfl ?_
      obtain ⟨S145, h145, hsh⟩ := Option.bind_eq_some_iff.mp hsh
      have ok145 := ok13_goes h145
      refine e_callV (nL := 2) (mc := 0) (ms := 0) (T := TX13) (N := 126) (As := [.int (iI (0)), .int (iI (0))]) (rest := []) hx hb hml hown hts hp hS hl.size ok145.1 ok145.2.1 ok145.2.2 rfl (by decide) (c13_goes l D cA B S139 S145 (x0) (0) (0) h145) rfl rfl kd13_goes (kl13_226) ks13_goes kv13_goes ki13 kh13_goes ⟨Nat.le_of_ble_eq_true rfl, Nat.le_of_ble_eq_true rfl⟩ rfl (by simp [e_rv_cat, e_int_cat]) ⟨Nat.le_refl _, Nat.le_refl _⟩ dX13_load_145 rfl (fun H locs hp hS => ?_)
      refine e_aload_n (B := B) (x := x0) hx hb dX13_load_148 rfl (hl.at 0 rfl) ?_
      obtain ⟨S149, h149, hsh⟩ := Option.bind_eq_some_iff.mp hsh
      have ok149 := ok13_forgets h149
      refine e_callV (nL := 2) (mc := 0) (ms := 0) (T := TX13) (N := 126) (As := []) (rest := []) hx hb hml hown hts hp hS hl.size ok149.1 ok149.2.1 ok149.2.2 rfl (by decide) (c13_forgets l D cA B S145 S149 (x0) h149) rfl rfl kd13_forgets (kl13_678) ks13_forgets kv13_forgets ki13 kh13_forgets ⟨Nat.le_of_ble_eq_true rfl, Nat.le_of_ble_eq_true rfl⟩ rfl (by simp [e_rv_cat, e_int_cat]) ⟨Nat.le_refl _, Nat.le_refl _⟩ dX13_load_149 rfl (fun H locs hp hS => ?_)
      refine e_aload_n (B := B) (x := x0) hx hb dX13_load_152 rfl (hl.at 0 rfl) ?_
      refine lv_iconst (v := iI (0)) hx hb dX13_load_153 rfl ?_
      obtain ⟨S154, h154, hsh⟩ := Option.bind_eq_some_iff.mp hsh
      refine e_putI (k := 119) hx hb hts in_X13 tyX13 tyX13_ok nmX13 hown hp hS h154 rfl (by decide) (by decide) rfl (hts _ kf13_998) rfl rfl (by decide +kernel) dX13_load_154 (fun H locs hp hS => ?_)
      refine e_aload_n (B := B) (x := x0) hx hb dX13_load_157 rfl (hl.at 0 rfl) ?_
      refine lv_iconst (v := iI (-1)) hx hb dX13_load_158 rfl ?_
      obtain ⟨S159, h159, hsh⟩ := Option.bind_eq_some_iff.mp hsh
      refine e_putI (k := 86) hx hb hts in_X13 tyX13 tyX13_ok nmX13 hown hp hS h159 rfl (by decide) (by decide) rfl (hts _ kf13_114) rfl rfl (by decide +kernel) dX13_load_159 (fun H locs hp hS => ?_)
      refine lv_iconst (v := iI (0)) hx hb dX13_load_162 rfl ?_
      refine e_istore_n (lv' := [(1, .int (iI (0))), (0, e_rv B (x0))]) hx hb dX13_load_163 rfl hl (by decide) rfl (fun ls hl => ?_)
      exact w13_load_l164 E 1000000 hp hS (hl.sub [1, 0] rfl) hsh
    · rw [if_neg c40] at hsh
      refine e_aload_n (B := B) (x := x0) hx hb dX13_load_43 rfl (hl.at 0 rfl) ?_
      obtain ⟨v44, h44, hsh⟩ := Option.bind_eq_some_iff.mp hsh
      refine e_getR (k := 1) hx hb hts in_X13 hown hp h44 rfl (by decide) (by decide) rfl (hts _ kf13_7) rfl dX13_load_44 ?_
      refine lv_iload_n hx hb dX13_load_47 rfl (hl.at 1 rfl) ?_
      obtain ⟨v48, h48, hsh⟩ := Option.bind_eq_some_iff.mp hsh
      refine e_iald hx hb hp h48 dX13_load_48 ?_
      refine lv_bipush (v := iI (10)) hx hb dX13_load_49 (by decide +kernel) ?_
      refine e_icmp_ne (tgt := 79) hx hb dX13_load_51 (by decide) (fun c51 => ?_) (fun c51 => ?_)
      · rw [if_neg c51] at hsh
        refine e_aload_n (B := B) (x := x0) hx hb dX13_load_79 rfl (hl.at 0 rfl) ?_
        obtain ⟨v80, h80, hsh⟩ := Option.bind_eq_some_iff.mp hsh
        refine e_getR (k := 4) hx hb hts in_X13 hown hp h80 rfl (by decide) (by decide) rfl (hts _ kf13_20) rfl dX13_load_80 ?_
        refine lv_bipush (v := iI (60)) hx hb dX13_load_83 (by decide +kernel) ?_
        refine e_aload_n (B := B) (x := x0) hx hb dX13_load_85 rfl (hl.at 0 rfl) ?_
        obtain ⟨v86, h86, hsh⟩ := Option.bind_eq_some_iff.mp hsh
        refine e_getI (k := 2) hx hb hts in_X13 hown hp h86 rfl (by decide) (by decide) rfl (hts _ kf13_13) rfl dX13_load_86 ?_
        refine lv_iconst (v := iI (1)) hx hb dX13_load_89 rfl ?_
        refine e_isub hx hb dX13_load_90 ?_
        refine e_imul hx hb dX13_load_91 ?_
        refine e_aload_n (B := B) (x := x0) hx hb dX13_load_92 rfl (hl.at 0 rfl) ?_
        obtain ⟨v93, h93, hsh⟩ := Option.bind_eq_some_iff.mp hsh
        refine e_getR (k := 3) hx hb hts in_X13 hown hp h93 rfl (by decide) (by decide) rfl (hts _ kf13_17) rfl dX13_load_93 ?_
        refine e_aload_n (B := B) (x := x0) hx hb dX13_load_96 rfl (hl.at 0 rfl) ?_
        obtain ⟨v97, h97, hsh⟩ := Option.bind_eq_some_iff.mp hsh
        refine e_getI (k := 2) hx hb hts in_X13 hown hp h97 rfl (by decide) (by decide) rfl (hts _ kf13_13) rfl dX13_load_97 ?_
        refine lv_iconst (v := iI (1)) hx hb dX13_load_100 rfl ?_
        refine e_isub hx hb dX13_load_101 ?_
        obtain ⟨v102, h102, hsh⟩ := Option.bind_eq_some_iff.mp hsh
        refine e_iald hx hb hp h102 dX13_load_102 ?_
        refine e_iadd hx hb dX13_load_103 ?_
        refine e_aload_n (B := B) (x := x0) hx hb dX13_load_104 rfl (hl.at 0 rfl) ?_
        obtain ⟨v105, h105, hsh⟩ := Option.bind_eq_some_iff.mp hsh
        refine e_getR (k := 1) hx hb hts in_X13 hown hp h105 rfl (by decide) (by decide) rfl (hts _ kf13_7) rfl dX13_load_105 ?_
        refine lv_iload_n hx hb dX13_load_108 rfl (hl.at 1 rfl) ?_
        obtain ⟨v109, h109, hsh⟩ := Option.bind_eq_some_iff.mp hsh
        refine e_iald hx hb hp h109 dX13_load_109 ?_
        obtain ⟨S110, h110, hsh⟩ := Option.bind_eq_some_iff.mp hsh
        refine e_iast hx hb hp hS h110 dX13_load_110 (fun H locs hp hS => ?_)
        refine e_aload_n (B := B) (x := x0) hx hb dX13_load_111 rfl (hl.at 0 rfl) ?_
        obtain ⟨v112, h112, hsh⟩ := Option.bind_eq_some_iff.mp hsh
        refine e_getR (k := 3) hx hb hts in_X13 hown hp h112 rfl (by decide) (by decide) rfl (hts _ kf13_17) rfl dX13_load_112 ?_
        refine e_aload_n (B := B) (x := x0) hx hb dX13_load_115 rfl (hl.at 0 rfl) ?_
        obtain ⟨v116, h116, hsh⟩ := Option.bind_eq_some_iff.mp hsh
        refine e_getI (k := 2) hx hb hts in_X13 hown hp h116 rfl (by decide) (by decide) rfl (hts _ kf13_13) rfl dX13_load_116 ?_
        refine lv_iconst (v := iI (1)) hx hb dX13_load_119 rfl ?_
        refine e_isub hx hb dX13_load_120 ?_
        refine lv_dup2_11 hx hb dX13_load_121 rfl (e_rv_cat _ _) ?_
        obtain ⟨v122, h122, hsh⟩ := Option.bind_eq_some_iff.mp hsh
        refine e_iald hx hb hp h122 dX13_load_122 ?_
        refine lv_iconst (v := iI (1)) hx hb dX13_load_123 rfl ?_
        refine e_iadd hx hb dX13_load_124 ?_
        obtain ⟨S125, h125, hsh⟩ := Option.bind_eq_some_iff.mp hsh
        refine e_iast hx hb hp hS h125 dX13_load_125 (fun H locs hp hS => ?_)
        exact w13_load_b126 (hk35 := hk35) E hp hS (hl.sub [0, 1] rfl) hsh
      · rw [if_pos c51] at hsh
        refine e_aload_n (B := B) (x := x0) hx hb dX13_load_54 rfl (hl.at 0 rfl) ?_
        refine lv_dup hx hb dX13_load_55 (e_rv_cat _ _) ?_
        obtain ⟨v56, h56, hsh⟩ := Option.bind_eq_some_iff.mp hsh
        refine e_getI (k := 2) hx hb hts in_X13 hown hp h56 rfl (by decide) (by decide) rfl (hts _ kf13_13) rfl dX13_load_56 ?_
        refine lv_iconst (v := iI (1)) hx hb dX13_load_59 rfl ?_
        refine e_iadd hx hb dX13_load_60 ?_
        obtain ⟨S61, h61, hsh⟩ := Option.bind_eq_some_iff.mp hsh
        refine e_putI (k := 2) hx hb hts in_X13 tyX13 tyX13_ok nmX13 hown hp hS h61 rfl (by decide) (by decide) rfl (hts _ kf13_13) rfl rfl (by decide +kernel) dX13_load_61 (fun H locs hp hS => ?_)
        refine e_aload_n (B := B) (x := x0) hx hb dX13_load_64 rfl (hl.at 0 rfl) ?_
        obtain ⟨v65, h65, hsh⟩ := Option.bind_eq_some_iff.mp hsh
        refine e_getR (k := 3) hx hb hts in_X13 hown hp h65 rfl (by decide) (by decide) rfl (hts _ kf13_17) rfl dX13_load_65 ?_
        refine e_aload_n (B := B) (x := x0) hx hb dX13_load_68 rfl (hl.at 0 rfl) ?_
        obtain ⟨v69, h69, hsh⟩ := Option.bind_eq_some_iff.mp hsh
        refine e_getI (k := 2) hx hb hts in_X13 hown hp h69 rfl (by decide) (by decide) rfl (hts _ kf13_13) rfl dX13_load_69 ?_
        refine lv_iconst (v := iI (1)) hx hb dX13_load_72 rfl ?_
        refine e_isub hx hb dX13_load_73 ?_
        refine lv_iconst (v := iI (0)) hx hb dX13_load_74 rfl ?_
        obtain ⟨S75, h75, hsh⟩ := Option.bind_eq_some_iff.mp hsh
        refine e_iast hx hb hp hS h75 dX13_load_75 (fun H locs hp hS => ?_)
        refine lv_goto (tgt := 126) hx hb dX13_load_76 (by decide) ?_
        exact w13_load_b126 (hk35 := hk35) E hp hS (hl.sub [0, 1] rfl) hsh
set_option maxRecDepth 100000 in
set_option maxHeartbeats 4000000 in
theorem w13_load_b13 {p : Program} {l : Launch} {e : Env} {s : State} {m : MethodId} {args : Array Value} {below : List Frame} {meth : Method} {c : Code} {D : va_G} {cA : Nat → ClassId} {B : Nat} {res : Int × HP} (E : e_En p s m args meth c cX13_load RX13 2 (some .int)) {ls : Array Slot} {H : Heap} {locs : List Loc} {S : HP} {x0 : Int} {y0 : Int} {y1 : Int} (hp : e_Pic D cA B S s H) (hS : va_S (e_A B) s.heap H locs) (hl : e_lo ls 2 [(0, e_rv B (x0))]) (hsh : s13_load_b13 S x0 y0 y1 = some res) : W p l e ({ frames := 2, cells := 0, slots := 0, locals := 45 } : Room) s m args below meth c H locs 0 0 (MQ below (e_Qi D cA B res.1 res.2) args s 0 0 (e_A B)) (F0 m 13 ls [.int (iI (y1)), e_rv B (y0)]) := by
  obtain ⟨hx, hb, hml, hown, hts, hlk, hrt⟩ := id E
  unfold s13_load_b13 at hsh
  obtain ⟨⟨v13, S13⟩, h13, hsh⟩ := Option.bind_eq_some_iff.mp hsh
  have hsh : _ = _ := hsh
  try dsimp only at hsh
  have ok13 := ok13_can h13
  refine e_callI (nL := 2) (mc := 0) (ms := 0) (T := TX13) (N := 126) (As := [.int (iI (y1))]) (rest := []) hx hb hml hown hts hp hS hl.size ok13.1 ok13.2.1 ok13.2.2 rfl (by decide) (c13_can l D cA B S S13 (y0) (y1) v13 h13) rfl rfl kd13_can (kl13_1043) ks13_can kv13_can ki13 kh13_can ⟨Nat.le_of_ble_eq_true rfl, Nat.le_of_ble_eq_true rfl⟩ rfl (by simp [e_rv_cat, e_int_cat]) ⟨Nat.le_refl _, Nat.le_refl _⟩ dX13_load_13 rfl (fun H locs hp hS => ?_)
  refine e_if_ne (tgt := 21) hx hb dX13_load_16 (by decide) (fun c16 => ?_) (fun c16 => ?_)
  · rw [if_neg c16] at hsh
    refine e_aload_n (B := B) (x := x0) hx hb dX13_load_21 rfl (hl.at 0 rfl) ?_
    refine lv_iconst (v := iI (1)) hx hb dX13_load_22 rfl ?_
    obtain ⟨S23, h23, hsh⟩ := Option.bind_eq_some_iff.mp hsh
    refine e_putI (k := 2) hx hb hts in_X13 tyX13 tyX13_ok nmX13 hown hp hS h23 rfl (by decide) (by decide) rfl (hts _ kf13_13) rfl rfl (by decide +kernel) dX13_load_23 (fun H locs hp hS => ?_)
    refine e_aload_n (B := B) (x := x0) hx hb dX13_load_26 rfl (hl.at 0 rfl) ?_
    obtain ⟨v27, h27, hsh⟩ := Option.bind_eq_some_iff.mp hsh
    refine e_getR (k := 3) hx hb hts in_X13 hown hp h27 rfl (by decide) (by decide) rfl (hts _ kf13_17) rfl dX13_load_27 ?_
    refine lv_iconst (v := iI (0)) hx hb dX13_load_30 rfl ?_
    refine lv_iconst (v := iI (0)) hx hb dX13_load_31 rfl ?_
    obtain ⟨S32, h32, hsh⟩ := Option.bind_eq_some_iff.mp hsh
    refine e_iast hx hb hp hS h32 dX13_load_32 (fun H locs hp hS => ?_)
    refine lv_iconst (v := iI (0)) hx hb dX13_load_33 rfl ?_
    refine e_istore_n (lv' := [(1, .int (iI (0))), (0, e_rv B (x0))]) hx hb dX13_load_34 rfl hl (by decide) rfl (fun ls hl => ?_)
    exact w13_load_l35 E 1000000 hp hS (hl.sub [1, 0] rfl) hsh
  · rw [if_pos c16] at hsh
    refine lv_iconst (v := iI (0)) hx hb dX13_load_19 rfl ?_
    cases hsh
    exact e_iret hx hb hrt hlk hp hS dX13_load_20
set_option maxRecDepth 100000 in
set_option maxHeartbeats 4000000 in
theorem c13_load (l : Launch) (D : va_G) (cA : Nat → ClassId) (B : Nat) (S S' : HP) (x0 : Int) (r : Int) (hsh : s13_load S x0 = some (r, S')) : Met l yX13_load (e_wu yX13_load cX13_load 2 (some .int)) ({ frames := 2, cells := 0, slots := 0, locals := 45 } : Room) (va_Pc [e_rv B (x0)] (fun U => e_PU D cA B S U)) (e_Qi D cA B r S') 0 0 (e_A B) := by
  refine Met.ofW (cc := cX13_load) (maxL := 2) (ret := (some .int)) (by decide +kernel) rfl ?_
  intro p e s m args below meth c s₁ Bd hml hv
  obtain ⟨rfl, hp⟩ := hv
  have hp : e_Pic D cA B S s s.heap := hp
  have hx := Bd.exec
  have hb := Bd.bytes
  have hrt := Bd.returns
  have hlk := Bd.notSynchronized
  have hown : s.vm.findClass RX13 = some m.cls := findClass_of_methodNamed Bd.named
  have hts : ∀ w ∈ e_tb, w.before ([e_rv B (x0)] : List Value).toArray s = true := fun w h => atoms_spec (ws := (e_wu yX13_load cX13_load 2 (some .int))) Bd.pre w (List.mem_cons_of_mem _ h)
  have E : e_En p s m ([e_rv B (x0)] : List Value).toArray meth c cX13_load RX13 2 (some .int) := ⟨hx, hb, hml, hown, hts, hlk, hrt⟩
  have hS : va_S (e_A B) s.heap s.heap [] := va_S.rf
  have hl := e_entry (vs := [e_rv B (x0)]) (n := 2) (Nat.le_of_ble_eq_true rfl) (e_cc (e_rv_cat _ _) e_cn)
  rw [lg_entry_eq]
  generalize (lg_sl [e_rv B (x0)] ++ List.replicate (2 - (lg_sl [e_rv B (x0)]).length) Slot.unset).toArray = ls at hl ⊢
  generalize ([e_rv B (x0)] : List Value).toArray = args at hts E ⊢
  have hl : e_lo ls 2 [(0, e_rv B (x0))] := hl
  have hsh := (gd_some hsh).2
  refine e_aload_n (B := B) (x := x0) hx hb dX13_load_0 rfl (hl.at 0 rfl) ?_
  refine e_aload_n (B := B) (x := x0) hx hb dX13_load_1 rfl (hl.at 0 rfl) ?_
  obtain ⟨⟨v2, S2⟩, h2, hsh⟩ := Option.bind_eq_some_iff.mp hsh
  have hsh : _ = _ := hsh
  try dsimp only at hsh
  have ok2 := ok13_isText h2
  refine e_callI (nL := 2) (mc := 0) (ms := 0) (T := TX13) (N := 126) (As := []) (rest := [e_rv B (x0)]) hx hb hml hown hts hp hS hl.size ok2.1 ok2.2.1 ok2.2.2 rfl (by decide) (c13_isText l D cA B S S2 (x0) v2 h2) rfl rfl kd13_isText (kl13_1046) ks13_isText kv13_isText ki13 kh13_isText ⟨Nat.le_of_ble_eq_true rfl, Nat.le_of_ble_eq_true rfl⟩ rfl (by simp [e_rv_cat, e_int_cat]) ⟨Nat.le_refl _, Nat.le_refl _⟩ dX13_load_2 rfl (fun H locs hp hS => ?_)
  refine e_if_eq (tgt := 12) hx hb dX13_load_5 (by decide) (fun c5 => ?_) (fun c5 => ?_)
  · rw [if_pos c5] at hsh
    refine lv_iconst (v := iI (1)) hx hb dX13_load_12 rfl ?_
    exact w13_load_b13 E hp hS (hl.sub [0] rfl) hsh
  · rw [if_neg c5] at hsh
    refine lv_iconst (v := iI (0)) hx hb dX13_load_8 rfl ?_
    refine lv_goto (tgt := 13) hx hb dX13_load_9 (by decide) ?_
    exact w13_load_b13 E hp hS (hl.sub [0] rfl) hsh
theorem ok13_setWrap {S : HP} {x0 : Int} {x1 : Int} {r : Int × HP} (h : s13_setWrap S x0 x1 = some r) : 0 ≤ x0 ∧ x0.toNat < e_n S ∧ e_g S x0.toNat = 13 := (gd_some h).1
set_option maxRecDepth 100000 in
set_option maxHeartbeats 4000000 in
theorem c13_setWrap (l : Launch) (D : va_G) (cA : Nat → ClassId) (B : Nat) (S S' : HP) (x0 : Int) (x1 : Int) (r : Int) (hsh : s13_setWrap S x0 x1 = some (r, S')) : Met l yX13_setWrap (e_wu yX13_setWrap cX13_setWrap 3 (some .boolean)) ({ frames := 0, cells := 0, slots := 0, locals := 0 } : Room) (va_Pc [e_rv B (x0), .int (iI (x1))] (fun U => e_PU D cA B S U)) (e_Qi D cA B r S') 0 0 (e_A B) := by
  refine Met.ofW (cc := cX13_setWrap) (maxL := 3) (ret := (some .boolean)) (by decide +kernel) rfl ?_
  intro p e s m args below meth c s₁ Bd hml hv
  obtain ⟨rfl, hp⟩ := hv
  have hp : e_Pic D cA B S s s.heap := hp
  have hx := Bd.exec
  have hb := Bd.bytes
  have hrt := Bd.returns
  have hlk := Bd.notSynchronized
  have hown : s.vm.findClass RX13 = some m.cls := findClass_of_methodNamed Bd.named
  have hts : ∀ w ∈ e_tb, w.before ([e_rv B (x0), .int (iI (x1))] : List Value).toArray s = true := fun w h => atoms_spec (ws := (e_wu yX13_setWrap cX13_setWrap 3 (some .boolean))) Bd.pre w (List.mem_cons_of_mem _ h)
  have E : e_En p s m ([e_rv B (x0), .int (iI (x1))] : List Value).toArray meth c cX13_setWrap RX13 3 (some .boolean) := ⟨hx, hb, hml, hown, hts, hlk, hrt⟩
  have hS : va_S (e_A B) s.heap s.heap [] := va_S.rf
  have hl := e_entry (vs := [e_rv B (x0), .int (iI (x1))]) (n := 3) (Nat.le_of_ble_eq_true rfl) (e_cc (e_rv_cat _ _) (e_cc rfl e_cn))
  rw [lg_entry_eq]
  generalize (lg_sl [e_rv B (x0), .int (iI (x1))] ++ List.replicate (3 - (lg_sl [e_rv B (x0), .int (iI (x1))]).length) Slot.unset).toArray = ls at hl ⊢
  generalize ([e_rv B (x0), .int (iI (x1))] : List Value).toArray = args at hts E ⊢
  have hl : e_lo ls 3 [(0, e_rv B (x0)), (1, .int (iI (x1)))] := hl
  have hsh := (gd_some hsh).2
  refine e_aload_n (B := B) (x := x0) hx hb dX13_setWrap_0 rfl (hl.at 0 rfl) ?_
  refine lv_iconst (v := iI (0)) hx hb dX13_setWrap_1 rfl ?_
  obtain ⟨S2, h2, hsh⟩ := Option.bind_eq_some_iff.mp hsh
  refine e_putI (k := 125) hx hb hts in_X13 tyX13 tyX13_ok nmX13 hown hp hS h2 rfl (by decide) (by decide) rfl (hts _ kf13_195) rfl rfl (by decide +kernel) dX13_setWrap_2 (fun H locs hp hS => ?_)
  refine e_aload_n (B := B) (x := x0) hx hb dX13_setWrap_5 rfl (hl.at 0 rfl) ?_
  obtain ⟨v6, h6, hsh⟩ := Option.bind_eq_some_iff.mp hsh
  refine e_getI (k := 32) hx hb hts in_X13 hown hp h6 rfl (by decide) (by decide) rfl (hts _ kf13_76) rfl dX13_setWrap_6 ?_
  refine e_istore_n (lv' := [(2, .int (iI (v6))), (0, e_rv B (x0)), (1, .int (iI (x1)))]) hx hb dX13_setWrap_9 rfl hl (by decide) rfl (fun ls hl => ?_)
  refine e_aload_n (B := B) (x := x0) hx hb dX13_setWrap_10 rfl (hl.at 1 rfl) ?_
  refine lv_iload_n hx hb dX13_setWrap_11 rfl (hl.at 2 rfl) ?_
  obtain ⟨S12, h12, hsh⟩ := Option.bind_eq_some_iff.mp hsh
  refine e_putZ (k := 32) hx hb hts in_X13 tyX13 tyX13_ok nmX13 hown hp hS h12 rfl (by decide) (by decide) rfl (hts _ kf13_76) rfl rfl (by decide +kernel) dX13_setWrap_12 (fun H locs hp hS => ?_)
  refine lv_iload_n hx hb dX13_setWrap_15 rfl (hl.at 0 rfl) ?_
  obtain ⟨hz, hz1, hz2⟩ := zR_some hsh
  rw [← hz1, ← hz2]
  exact e_zret hx hb hrt hlk hp hS hz dX13_setWrap_16
theorem ok13_lines {S : HP} {x0 : Int} {r : Int × HP} (h : s13_lines S x0 = some r) : 0 ≤ x0 ∧ x0.toNat < e_n S ∧ e_g S x0.toNat = 13 := (gd_some h).1
set_option maxRecDepth 100000 in
set_option maxHeartbeats 4000000 in
theorem c13_lines (l : Launch) (D : va_G) (cA : Nat → ClassId) (B : Nat) (S S' : HP) (x0 : Int) (r : Int) (hsh : s13_lines S x0 = some (r, S')) : Met l yX13_lines (e_wu yX13_lines cX13_lines 1 (some .int)) ({ frames := 0, cells := 0, slots := 0, locals := 0 } : Room) (va_Pc [e_rv B (x0)] (fun U => e_PU D cA B S U)) (e_Qi D cA B r S') 0 0 (e_A B) := by
  refine Met.ofW (cc := cX13_lines) (maxL := 1) (ret := (some .int)) (by decide +kernel) rfl ?_
  intro p e s m args below meth c s₁ Bd hml hv
  obtain ⟨rfl, hp⟩ := hv
  have hp : e_Pic D cA B S s s.heap := hp
  have hx := Bd.exec
  have hb := Bd.bytes
  have hrt := Bd.returns
  have hlk := Bd.notSynchronized
  have hown : s.vm.findClass RX13 = some m.cls := findClass_of_methodNamed Bd.named
  have hts : ∀ w ∈ e_tb, w.before ([e_rv B (x0)] : List Value).toArray s = true := fun w h => atoms_spec (ws := (e_wu yX13_lines cX13_lines 1 (some .int))) Bd.pre w (List.mem_cons_of_mem _ h)
  have E : e_En p s m ([e_rv B (x0)] : List Value).toArray meth c cX13_lines RX13 1 (some .int) := ⟨hx, hb, hml, hown, hts, hlk, hrt⟩
  have hS : va_S (e_A B) s.heap s.heap [] := va_S.rf
  have hl := e_entry (vs := [e_rv B (x0)]) (n := 1) (Nat.le_of_ble_eq_true rfl) (e_cc (e_rv_cat _ _) e_cn)
  rw [lg_entry_eq]
  generalize (lg_sl [e_rv B (x0)] ++ List.replicate (1 - (lg_sl [e_rv B (x0)]).length) Slot.unset).toArray = ls at hl ⊢
  generalize ([e_rv B (x0)] : List Value).toArray = args at hts E ⊢
  have hl : e_lo ls 1 [(0, e_rv B (x0))] := hl
  have hsh := (gd_some hsh).2
  refine e_aload_n (B := B) (x := x0) hx hb dX13_lines_0 rfl (hl.at 0 rfl) ?_
  refine lv_iconst (v := iI (0)) hx hb dX13_lines_1 rfl ?_
  obtain ⟨S2, h2, hsh⟩ := Option.bind_eq_some_iff.mp hsh
  refine e_putI (k := 125) hx hb hts in_X13 tyX13 tyX13_ok nmX13 hown hp hS h2 rfl (by decide) (by decide) rfl (hts _ kf13_195) rfl rfl (by decide +kernel) dX13_lines_2 (fun H locs hp hS => ?_)
  refine e_aload_n (B := B) (x := x0) hx hb dX13_lines_5 rfl (hl.at 0 rfl) ?_
  obtain ⟨v6, h6, hsh⟩ := Option.bind_eq_some_iff.mp hsh
  refine e_getI (k := 2) hx hb hts in_X13 hown hp h6 rfl (by decide) (by decide) rfl (hts _ kf13_13) rfl dX13_lines_6 ?_
  cases hsh
  exact e_iret hx hb hrt hlk hp hS dX13_lines_9
theorem ok13_isLine {S : HP} {x0 : Int} {x1 : Int} {r : Int × HP} (h : s13_isLine S x0 x1 = some r) : 0 ≤ x0 ∧ x0.toNat < e_n S ∧ e_g S x0.toNat = 13 := (gd_some h).1
set_option maxRecDepth 100000 in
set_option maxHeartbeats 4000000 in
theorem c13_isLine (l : Launch) (D : va_G) (cA : Nat → ClassId) (B : Nat) (S S' : HP) (x0 : Int) (x1 : Int) (r : Int) (hsh : s13_isLine S x0 x1 = some (r, S')) : Met l yX13_isLine (e_wu yX13_isLine cX13_isLine 2 (some .boolean)) ({ frames := 1, cells := 0, slots := 0, locals := 22 } : Room) (va_Pc [e_rv B (x0), .int (iI (x1))] (fun U => e_PU D cA B S U)) (e_Qi D cA B r S') 0 0 (e_A B) := by
  refine Met.ofW (cc := cX13_isLine) (maxL := 2) (ret := (some .boolean)) (by decide +kernel) rfl ?_
  intro p e s m args below meth c s₁ Bd hml hv
  obtain ⟨rfl, hp⟩ := hv
  have hp : e_Pic D cA B S s s.heap := hp
  have hx := Bd.exec
  have hb := Bd.bytes
  have hrt := Bd.returns
  have hlk := Bd.notSynchronized
  have hown : s.vm.findClass RX13 = some m.cls := findClass_of_methodNamed Bd.named
  have hts : ∀ w ∈ e_tb, w.before ([e_rv B (x0), .int (iI (x1))] : List Value).toArray s = true := fun w h => atoms_spec (ws := (e_wu yX13_isLine cX13_isLine 2 (some .boolean))) Bd.pre w (List.mem_cons_of_mem _ h)
  have E : e_En p s m ([e_rv B (x0), .int (iI (x1))] : List Value).toArray meth c cX13_isLine RX13 2 (some .boolean) := ⟨hx, hb, hml, hown, hts, hlk, hrt⟩
  have hS : va_S (e_A B) s.heap s.heap [] := va_S.rf
  have hl := e_entry (vs := [e_rv B (x0), .int (iI (x1))]) (n := 2) (Nat.le_of_ble_eq_true rfl) (e_cc (e_rv_cat _ _) (e_cc rfl e_cn))
  rw [lg_entry_eq]
  generalize (lg_sl [e_rv B (x0), .int (iI (x1))] ++ List.replicate (2 - (lg_sl [e_rv B (x0), .int (iI (x1))]).length) Slot.unset).toArray = ls at hl ⊢
  generalize ([e_rv B (x0), .int (iI (x1))] : List Value).toArray = args at hts E ⊢
  have hl : e_lo ls 2 [(0, e_rv B (x0)), (1, .int (iI (x1)))] := hl
  have hsh := (gd_some hsh).2
  refine lv_iload_n hx hb dX13_isLine_0 rfl (hl.at 1 rfl) ?_
  refine lv_iconst (v := iI (0)) hx hb dX13_isLine_1 rfl ?_
  refine e_aload_n (B := B) (x := x0) hx hb dX13_isLine_2 rfl (hl.at 0 rfl) ?_
  obtain ⟨v3, h3, hsh⟩ := Option.bind_eq_some_iff.mp hsh
  refine e_getI (k := 2) hx hb hts in_X13 hown hp h3 rfl (by decide) (by decide) rfl (hts _ kf13_13) rfl dX13_isLine_3 ?_
  refine lv_iconst (v := iI (1)) hx hb dX13_isLine_6 rfl ?_
  refine e_isub hx hb dX13_isLine_7 ?_
  obtain ⟨⟨v8, S8⟩, h8, hsh⟩ := Option.bind_eq_some_iff.mp hsh
  have hsh : _ = _ := hsh
  try dsimp only at hsh
  refine e_callS (nL := 2) (mc := 0) (ms := 0) (As := [.int (iI (x1)), .int (iI (0)), .int (iI ((v3 - 1)))]) (rest := []) hx hb hml hown hts hp hS hl.size (c13_isIn l D cA B S S8 (x1) (0) ((v3 - 1)) v8 h8) rfl rfl kd13_isIn (kl13_198) ks13_isIn ki13 kh13_isIn ⟨Nat.le_of_ble_eq_true rfl, Nat.le_of_ble_eq_true rfl⟩ rfl (by simp [e_rv_cat, e_int_cat]) ⟨Nat.le_refl _, Nat.le_refl _⟩ dX13_isLine_8 rfl (fun H locs hp hS => ?_)
  obtain ⟨hz, hz1, hz2⟩ := zR_some hsh
  rw [← hz1, ← hz2]
  exact e_zret hx hb hrt hlk hp hS hz dX13_isLine_11
theorem ok13_length {S : HP} {x0 : Int} {x1 : Int} {r : Int × HP} (h : s13_length S x0 x1 = some r) : 0 ≤ x0 ∧ x0.toNat < e_n S ∧ e_g S x0.toNat = 13 := (gd_some h).1
set_option maxRecDepth 100000 in
set_option maxHeartbeats 4000000 in
theorem w13_length_b30 {p : Program} {l : Launch} {e : Env} {s : State} {m : MethodId} {args : Array Value} {below : List Frame} {meth : Method} {c : Code} {D : va_G} {cA : Nat → ClassId} {B : Nat} {res : Int × HP} (E : e_En p s m args meth c cX13_length RX13 2 (some .int)) {ls : Array Slot} {H : Heap} {locs : List Loc} {S : HP} {y0 : Int} (hp : e_Pic D cA B S s H) (hS : va_S (e_A B) s.heap H locs) (hl : e_lo ls 2 []) (hsh : s13_length_b30 S y0 = some res) : W p l e ({ frames := 2, cells := 0, slots := 0, locals := 43 } : Room) s m args below meth c H locs 0 0 (MQ below (e_Qi D cA B res.1 res.2) args s 0 0 (e_A B)) (F0 m 30 ls [.int (iI (y0))]) := by
  obtain ⟨hx, hb, hml, hown, hts, hlk, hrt⟩ := id E
  unfold s13_length_b30 at hsh
  cases hsh
  exact e_iret hx hb hrt hlk hp hS dX13_length_30
set_option maxRecDepth 100000 in
set_option maxHeartbeats 4000000 in
theorem w13_length_b14 {p : Program} {l : Launch} {e : Env} {s : State} {m : MethodId} {args : Array Value} {below : List Frame} {meth : Method} {c : Code} {D : va_G} {cA : Nat → ClassId} {B : Nat} {res : Int × HP} (E : e_En p s m args meth c cX13_length RX13 2 (some .int)) {ls : Array Slot} {H : Heap} {locs : List Loc} {S : HP} {x0 : Int} {x1 : Int} {y0 : Int} {y1 : Int} (hp : e_Pic D cA B S s H) (hS : va_S (e_A B) s.heap H locs) (hl : e_lo ls 2 [(0, e_rv B (x0)), (1, .int (iI (x1)))]) (hsh : s13_length_b14 S x0 x1 y0 y1 = some res) : W p l e ({ frames := 2, cells := 0, slots := 0, locals := 43 } : Room) s m args below meth c H locs 0 0 (MQ below (e_Qi D cA B res.1 res.2) args s 0 0 (e_A B)) (F0 m 14 ls [.int (iI (y1)), e_rv B (y0)]) := by
  obtain ⟨hx, hb, hml, hown, hts, hlk, hrt⟩ := id E
  unfold s13_length_b14 at hsh
  obtain ⟨⟨v14, S14⟩, h14, hsh⟩ := Option.bind_eq_some_iff.mp hsh
  have hsh : _ = _ := hsh
  try dsimp only at hsh
  have ok14 := ok13_can h14
  refine e_callI (nL := 2) (mc := 0) (ms := 0) (T := TX13) (N := 126) (As := [.int (iI (y1))]) (rest := []) hx hb hml hown hts hp hS hl.size ok14.1 ok14.2.1 ok14.2.2 rfl (by decide) (c13_can l D cA B S S14 (y0) (y1) v14 h14) rfl rfl kd13_can (kl13_1043) ks13_can kv13_can ki13 kh13_can ⟨Nat.le_of_ble_eq_true rfl, Nat.le_of_ble_eq_true rfl⟩ rfl (by simp [e_rv_cat, e_int_cat]) ⟨Nat.le_refl _, Nat.le_refl _⟩ dX13_length_14 rfl (fun H locs hp hS => ?_)
  refine e_if_eq (tgt := 29) hx hb dX13_length_17 (by decide) (fun c17 => ?_) (fun c17 => ?_)
  · rw [if_pos c17] at hsh
    refine lv_iconst (v := iI (0)) hx hb dX13_length_29 rfl ?_
    exact w13_length_b30 E hp hS (hl.sub [] rfl) hsh
  · rw [if_neg c17] at hsh
    refine e_aload_n (B := B) (x := x0) hx hb dX13_length_20 rfl (hl.at 0 rfl) ?_
    obtain ⟨v21, h21, hsh⟩ := Option.bind_eq_some_iff.mp hsh
    refine e_getR (k := 3) hx hb hts in_X13 hown hp h21 rfl (by decide) (by decide) rfl (hts _ kf13_17) rfl dX13_length_21 ?_
    refine lv_iload_n hx hb dX13_length_24 rfl (hl.at 1 rfl) ?_
    obtain ⟨v25, h25, hsh⟩ := Option.bind_eq_some_iff.mp hsh
    refine e_iald hx hb hp h25 dX13_length_25 ?_
    refine lv_goto (tgt := 30) hx hb dX13_length_26 (by decide) ?_
    exact w13_length_b30 E hp hS (hl.sub [] rfl) hsh
set_option maxRecDepth 100000 in
set_option maxHeartbeats 4000000 in
theorem c13_length (l : Launch) (D : va_G) (cA : Nat → ClassId) (B : Nat) (S S' : HP) (x0 : Int) (x1 : Int) (r : Int) (hsh : s13_length S x0 x1 = some (r, S')) : Met l yX13_length (e_wu yX13_length cX13_length 2 (some .int)) ({ frames := 2, cells := 0, slots := 0, locals := 43 } : Room) (va_Pc [e_rv B (x0), .int (iI (x1))] (fun U => e_PU D cA B S U)) (e_Qi D cA B r S') 0 0 (e_A B) := by
  refine Met.ofW (cc := cX13_length) (maxL := 2) (ret := (some .int)) (by decide +kernel) rfl ?_
  intro p e s m args below meth c s₁ Bd hml hv
  obtain ⟨rfl, hp⟩ := hv
  have hp : e_Pic D cA B S s s.heap := hp
  have hx := Bd.exec
  have hb := Bd.bytes
  have hrt := Bd.returns
  have hlk := Bd.notSynchronized
  have hown : s.vm.findClass RX13 = some m.cls := findClass_of_methodNamed Bd.named
  have hts : ∀ w ∈ e_tb, w.before ([e_rv B (x0), .int (iI (x1))] : List Value).toArray s = true := fun w h => atoms_spec (ws := (e_wu yX13_length cX13_length 2 (some .int))) Bd.pre w (List.mem_cons_of_mem _ h)
  have E : e_En p s m ([e_rv B (x0), .int (iI (x1))] : List Value).toArray meth c cX13_length RX13 2 (some .int) := ⟨hx, hb, hml, hown, hts, hlk, hrt⟩
  have hS : va_S (e_A B) s.heap s.heap [] := va_S.rf
  have hl := e_entry (vs := [e_rv B (x0), .int (iI (x1))]) (n := 2) (Nat.le_of_ble_eq_true rfl) (e_cc (e_rv_cat _ _) (e_cc rfl e_cn))
  rw [lg_entry_eq]
  generalize (lg_sl [e_rv B (x0), .int (iI (x1))] ++ List.replicate (2 - (lg_sl [e_rv B (x0), .int (iI (x1))]).length) Slot.unset).toArray = ls at hl ⊢
  generalize ([e_rv B (x0), .int (iI (x1))] : List Value).toArray = args at hts E ⊢
  have hl : e_lo ls 2 [(0, e_rv B (x0)), (1, .int (iI (x1)))] := hl
  have hsh := (gd_some hsh).2
  refine e_aload_n (B := B) (x := x0) hx hb dX13_length_0 rfl (hl.at 0 rfl) ?_
  refine e_aload_n (B := B) (x := x0) hx hb dX13_length_1 rfl (hl.at 0 rfl) ?_
  refine lv_iload_n hx hb dX13_length_2 rfl (hl.at 1 rfl) ?_
  obtain ⟨⟨v3, S3⟩, h3, hsh⟩ := Option.bind_eq_some_iff.mp hsh
  have hsh : _ = _ := hsh
  try dsimp only at hsh
  have ok3 := ok13_isLine h3
  refine e_callI (nL := 2) (mc := 0) (ms := 0) (T := TX13) (N := 126) (As := [.int (iI (x1))]) (rest := [e_rv B (x0)]) hx hb hml hown hts hp hS hl.size ok3.1 ok3.2.1 ok3.2.2 rfl (by decide) (c13_isLine l D cA B S S3 (x0) (x1) v3 h3) rfl rfl kd13_isLine (kl13_1070) ks13_isLine kv13_isLine ki13 kh13_isLine ⟨Nat.le_of_ble_eq_true rfl, Nat.le_of_ble_eq_true rfl⟩ rfl (by simp [e_rv_cat, e_int_cat]) ⟨Nat.le_refl _, Nat.le_refl _⟩ dX13_length_3 rfl (fun H locs hp hS => ?_)
  refine e_if_eq (tgt := 13) hx hb dX13_length_6 (by decide) (fun c6 => ?_) (fun c6 => ?_)
  · rw [if_pos c6] at hsh
    refine lv_iconst (v := iI (1)) hx hb dX13_length_13 rfl ?_
    exact w13_length_b14 E hp hS (hl.sub [0, 1] rfl) hsh
  · rw [if_neg c6] at hsh
    refine lv_iconst (v := iI (0)) hx hb dX13_length_9 rfl ?_
    refine lv_goto (tgt := 14) hx hb dX13_length_10 (by decide) ?_
    exact w13_length_b14 E hp hS (hl.sub [0, 1] rfl) hsh
theorem ok13_line {S : HP} {x0 : Int} {r : Int × HP} (h : s13_line S x0 = some r) : 0 ≤ x0 ∧ x0.toNat < e_n S ∧ e_g S x0.toNat = 13 := (gd_some h).1
set_option maxRecDepth 100000 in
set_option maxHeartbeats 4000000 in
theorem c13_line (l : Launch) (D : va_G) (cA : Nat → ClassId) (B : Nat) (S S' : HP) (x0 : Int) (r : Int) (hsh : s13_line S x0 = some (r, S')) : Met l yX13_line (e_wu yX13_line cX13_line 1 (some .int)) ({ frames := 0, cells := 0, slots := 0, locals := 0 } : Room) (va_Pc [e_rv B (x0)] (fun U => e_PU D cA B S U)) (e_Qi D cA B r S') 0 0 (e_A B) := by
  refine Met.ofW (cc := cX13_line) (maxL := 1) (ret := (some .int)) (by decide +kernel) rfl ?_
  intro p e s m args below meth c s₁ Bd hml hv
  obtain ⟨rfl, hp⟩ := hv
  have hp : e_Pic D cA B S s s.heap := hp
  have hx := Bd.exec
  have hb := Bd.bytes
  have hrt := Bd.returns
  have hlk := Bd.notSynchronized
  have hown : s.vm.findClass RX13 = some m.cls := findClass_of_methodNamed Bd.named
  have hts : ∀ w ∈ e_tb, w.before ([e_rv B (x0)] : List Value).toArray s = true := fun w h => atoms_spec (ws := (e_wu yX13_line cX13_line 1 (some .int))) Bd.pre w (List.mem_cons_of_mem _ h)
  have E : e_En p s m ([e_rv B (x0)] : List Value).toArray meth c cX13_line RX13 1 (some .int) := ⟨hx, hb, hml, hown, hts, hlk, hrt⟩
  have hS : va_S (e_A B) s.heap s.heap [] := va_S.rf
  have hl := e_entry (vs := [e_rv B (x0)]) (n := 1) (Nat.le_of_ble_eq_true rfl) (e_cc (e_rv_cat _ _) e_cn)
  rw [lg_entry_eq]
  generalize (lg_sl [e_rv B (x0)] ++ List.replicate (1 - (lg_sl [e_rv B (x0)]).length) Slot.unset).toArray = ls at hl ⊢
  generalize ([e_rv B (x0)] : List Value).toArray = args at hts E ⊢
  have hl : e_lo ls 1 [(0, e_rv B (x0))] := hl
  have hsh := (gd_some hsh).2
  refine e_aload_n (B := B) (x := x0) hx hb dX13_line_0 rfl (hl.at 0 rfl) ?_
  refine lv_iconst (v := iI (0)) hx hb dX13_line_1 rfl ?_
  obtain ⟨S2, h2, hsh⟩ := Option.bind_eq_some_iff.mp hsh
  refine e_putI (k := 125) hx hb hts in_X13 tyX13 tyX13_ok nmX13 hown hp hS h2 rfl (by decide) (by decide) rfl (hts _ kf13_195) rfl rfl (by decide +kernel) dX13_line_2 (fun H locs hp hS => ?_)
  refine e_aload_n (B := B) (x := x0) hx hb dX13_line_5 rfl (hl.at 0 rfl) ?_
  obtain ⟨v6, h6, hsh⟩ := Option.bind_eq_some_iff.mp hsh
  refine e_getI (k := 5) hx hb hts in_X13 hown hp h6 rfl (by decide) (by decide) rfl (hts _ kf13_213) rfl dX13_line_6 ?_
  cases hsh
  exact e_iret hx hb hrt hlk hp hS dX13_line_9
theorem ok13_column {S : HP} {x0 : Int} {r : Int × HP} (h : s13_column S x0 = some r) : 0 ≤ x0 ∧ x0.toNat < e_n S ∧ e_g S x0.toNat = 13 := (gd_some h).1
set_option maxRecDepth 100000 in
set_option maxHeartbeats 4000000 in
theorem c13_column (l : Launch) (D : va_G) (cA : Nat → ClassId) (B : Nat) (S S' : HP) (x0 : Int) (r : Int) (hsh : s13_column S x0 = some (r, S')) : Met l yX13_column (e_wu yX13_column cX13_column 1 (some .int)) ({ frames := 0, cells := 0, slots := 0, locals := 0 } : Room) (va_Pc [e_rv B (x0)] (fun U => e_PU D cA B S U)) (e_Qi D cA B r S') 0 0 (e_A B) := by
  refine Met.ofW (cc := cX13_column) (maxL := 1) (ret := (some .int)) (by decide +kernel) rfl ?_
  intro p e s m args below meth c s₁ Bd hml hv
  obtain ⟨rfl, hp⟩ := hv
  have hp : e_Pic D cA B S s s.heap := hp
  have hx := Bd.exec
  have hb := Bd.bytes
  have hrt := Bd.returns
  have hlk := Bd.notSynchronized
  have hown : s.vm.findClass RX13 = some m.cls := findClass_of_methodNamed Bd.named
  have hts : ∀ w ∈ e_tb, w.before ([e_rv B (x0)] : List Value).toArray s = true := fun w h => atoms_spec (ws := (e_wu yX13_column cX13_column 1 (some .int))) Bd.pre w (List.mem_cons_of_mem _ h)
  have E : e_En p s m ([e_rv B (x0)] : List Value).toArray meth c cX13_column RX13 1 (some .int) := ⟨hx, hb, hml, hown, hts, hlk, hrt⟩
  have hS : va_S (e_A B) s.heap s.heap [] := va_S.rf
  have hl := e_entry (vs := [e_rv B (x0)]) (n := 1) (Nat.le_of_ble_eq_true rfl) (e_cc (e_rv_cat _ _) e_cn)
  rw [lg_entry_eq]
  generalize (lg_sl [e_rv B (x0)] ++ List.replicate (1 - (lg_sl [e_rv B (x0)]).length) Slot.unset).toArray = ls at hl ⊢
  generalize ([e_rv B (x0)] : List Value).toArray = args at hts E ⊢
  have hl : e_lo ls 1 [(0, e_rv B (x0))] := hl
  have hsh := (gd_some hsh).2
  refine e_aload_n (B := B) (x := x0) hx hb dX13_column_0 rfl (hl.at 0 rfl) ?_
  refine lv_iconst (v := iI (0)) hx hb dX13_column_1 rfl ?_
  obtain ⟨S2, h2, hsh⟩ := Option.bind_eq_some_iff.mp hsh
  refine e_putI (k := 125) hx hb hts in_X13 tyX13 tyX13_ok nmX13 hown hp hS h2 rfl (by decide) (by decide) rfl (hts _ kf13_195) rfl rfl (by decide +kernel) dX13_column_2 (fun H locs hp hS => ?_)
  refine e_aload_n (B := B) (x := x0) hx hb dX13_column_5 rfl (hl.at 0 rfl) ?_
  obtain ⟨v6, h6, hsh⟩ := Option.bind_eq_some_iff.mp hsh
  refine e_getI (k := 6) hx hb hts in_X13 hown hp h6 rfl (by decide) (by decide) rfl (hts _ kf13_216) rfl dX13_column_6 ?_
  cases hsh
  exact e_iret hx hb hrt hlk hp hS dX13_column_9
theorem ok13_mode {S : HP} {x0 : Int} {r : Int × HP} (h : s13_mode S x0 = some r) : 0 ≤ x0 ∧ x0.toNat < e_n S ∧ e_g S x0.toNat = 13 := (gd_some h).1
set_option maxRecDepth 100000 in
set_option maxHeartbeats 4000000 in
theorem c13_mode (l : Launch) (D : va_G) (cA : Nat → ClassId) (B : Nat) (S S' : HP) (x0 : Int) (r : Int) (hsh : s13_mode S x0 = some (r, S')) : Met l yX13_mode (e_wu yX13_mode cX13_mode 1 (some .int)) ({ frames := 0, cells := 0, slots := 0, locals := 0 } : Room) (va_Pc [e_rv B (x0)] (fun U => e_PU D cA B S U)) (e_Qi D cA B r S') 0 0 (e_A B) := by
  refine Met.ofW (cc := cX13_mode) (maxL := 1) (ret := (some .int)) (by decide +kernel) rfl ?_
  intro p e s m args below meth c s₁ Bd hml hv
  obtain ⟨rfl, hp⟩ := hv
  have hp : e_Pic D cA B S s s.heap := hp
  have hx := Bd.exec
  have hb := Bd.bytes
  have hrt := Bd.returns
  have hlk := Bd.notSynchronized
  have hown : s.vm.findClass RX13 = some m.cls := findClass_of_methodNamed Bd.named
  have hts : ∀ w ∈ e_tb, w.before ([e_rv B (x0)] : List Value).toArray s = true := fun w h => atoms_spec (ws := (e_wu yX13_mode cX13_mode 1 (some .int))) Bd.pre w (List.mem_cons_of_mem _ h)
  have E : e_En p s m ([e_rv B (x0)] : List Value).toArray meth c cX13_mode RX13 1 (some .int) := ⟨hx, hb, hml, hown, hts, hlk, hrt⟩
  have hS : va_S (e_A B) s.heap s.heap [] := va_S.rf
  have hl := e_entry (vs := [e_rv B (x0)]) (n := 1) (Nat.le_of_ble_eq_true rfl) (e_cc (e_rv_cat _ _) e_cn)
  rw [lg_entry_eq]
  generalize (lg_sl [e_rv B (x0)] ++ List.replicate (1 - (lg_sl [e_rv B (x0)]).length) Slot.unset).toArray = ls at hl ⊢
  generalize ([e_rv B (x0)] : List Value).toArray = args at hts E ⊢
  have hl : e_lo ls 1 [(0, e_rv B (x0))] := hl
  have hsh := (gd_some hsh).2
  refine e_aload_n (B := B) (x := x0) hx hb dX13_mode_0 rfl (hl.at 0 rfl) ?_
  refine lv_iconst (v := iI (0)) hx hb dX13_mode_1 rfl ?_
  obtain ⟨S2, h2, hsh⟩ := Option.bind_eq_some_iff.mp hsh
  refine e_putI (k := 125) hx hb hts in_X13 tyX13 tyX13_ok nmX13 hown hp hS h2 rfl (by decide) (by decide) rfl (hts _ kf13_195) rfl rfl (by decide +kernel) dX13_mode_2 (fun H locs hp hS => ?_)
  refine e_aload_n (B := B) (x := x0) hx hb dX13_mode_5 rfl (hl.at 0 rfl) ?_
  obtain ⟨v6, h6, hsh⟩ := Option.bind_eq_some_iff.mp hsh
  refine e_getI (k := 8) hx hb hts in_X13 hown hp h6 rfl (by decide) (by decide) rfl (hts _ kf13_466) rfl dX13_mode_6 ?_
  cases hsh
  exact e_iret hx hb hrt hlk hp hS dX13_mode_9
theorem ok13_given {S : HP} {x0 : Int} {r : Int × HP} (h : s13_given S x0 = some r) : 0 ≤ x0 ∧ x0.toNat < e_n S ∧ e_g S x0.toNat = 13 := (gd_some h).1
set_option maxRecDepth 100000 in
set_option maxHeartbeats 4000000 in
theorem w13_given_b29 {p : Program} {l : Launch} {e : Env} {s : State} {m : MethodId} {args : Array Value} {below : List Frame} {meth : Method} {c : Code} {D : va_G} {cA : Nat → ClassId} {B : Nat} {res : Int × HP} (E : e_En p s m args meth c cX13_given RX13 1 (some .int)) {ls : Array Slot} {H : Heap} {locs : List Loc} {S : HP} {y0 : Int} (hp : e_Pic D cA B S s H) (hS : va_S (e_A B) s.heap H locs) (hl : e_lo ls 1 []) (hsh : s13_given_b29 S y0 = some res) : W p l e ({ frames := 0, cells := 0, slots := 0, locals := 0 } : Room) s m args below meth c H locs 0 0 (MQ below (e_Qi D cA B res.1 res.2) args s 0 0 (e_A B)) (F0 m 29 ls [.int (iI (y0))]) := by
  obtain ⟨hx, hb, hml, hown, hts, hlk, hrt⟩ := id E
  unfold s13_given_b29 at hsh
  cases hsh
  exact e_iret hx hb hrt hlk hp hS dX13_given_29
set_option maxRecDepth 100000 in
set_option maxHeartbeats 4000000 in
theorem c13_given (l : Launch) (D : va_G) (cA : Nat → ClassId) (B : Nat) (S S' : HP) (x0 : Int) (r : Int) (hsh : s13_given S x0 = some (r, S')) : Met l yX13_given (e_wu yX13_given cX13_given 1 (some .int)) ({ frames := 0, cells := 0, slots := 0, locals := 0 } : Room) (va_Pc [e_rv B (x0)] (fun U => e_PU D cA B S U)) (e_Qi D cA B r S') 0 0 (e_A B) := by
  refine Met.ofW (cc := cX13_given) (maxL := 1) (ret := (some .int)) (by decide +kernel) rfl ?_
  intro p e s m args below meth c s₁ Bd hml hv
  obtain ⟨rfl, hp⟩ := hv
  have hp : e_Pic D cA B S s s.heap := hp
  have hx := Bd.exec
  have hb := Bd.bytes
  have hrt := Bd.returns
  have hlk := Bd.notSynchronized
  have hown : s.vm.findClass RX13 = some m.cls := findClass_of_methodNamed Bd.named
  have hts : ∀ w ∈ e_tb, w.before ([e_rv B (x0)] : List Value).toArray s = true := fun w h => atoms_spec (ws := (e_wu yX13_given cX13_given 1 (some .int))) Bd.pre w (List.mem_cons_of_mem _ h)
  have E : e_En p s m ([e_rv B (x0)] : List Value).toArray meth c cX13_given RX13 1 (some .int) := ⟨hx, hb, hml, hown, hts, hlk, hrt⟩
  have hS : va_S (e_A B) s.heap s.heap [] := va_S.rf
  have hl := e_entry (vs := [e_rv B (x0)]) (n := 1) (Nat.le_of_ble_eq_true rfl) (e_cc (e_rv_cat _ _) e_cn)
  rw [lg_entry_eq]
  generalize (lg_sl [e_rv B (x0)] ++ List.replicate (1 - (lg_sl [e_rv B (x0)]).length) Slot.unset).toArray = ls at hl ⊢
  generalize ([e_rv B (x0)] : List Value).toArray = args at hts E ⊢
  have hl : e_lo ls 1 [(0, e_rv B (x0))] := hl
  have hsh := (gd_some hsh).2
  refine e_aload_n (B := B) (x := x0) hx hb dX13_given_0 rfl (hl.at 0 rfl) ?_
  refine lv_iconst (v := iI (0)) hx hb dX13_given_1 rfl ?_
  obtain ⟨S2, h2, hsh⟩ := Option.bind_eq_some_iff.mp hsh
  refine e_putI (k := 125) hx hb hts in_X13 tyX13 tyX13_ok nmX13 hown hp hS h2 rfl (by decide) (by decide) rfl (hts _ kf13_195) rfl rfl (by decide +kernel) dX13_given_2 (fun H locs hp hS => ?_)
  refine e_aload_n (B := B) (x := x0) hx hb dX13_given_5 rfl (hl.at 0 rfl) ?_
  obtain ⟨v6, h6, hsh⟩ := Option.bind_eq_some_iff.mp hsh
  refine e_getI (k := 8) hx hb hts in_X13 hown hp h6 rfl (by decide) (by decide) rfl (hts _ kf13_466) rfl dX13_given_6 ?_
  refine lv_iconst (v := iI (5)) hx hb dX13_given_9 rfl ?_
  refine e_icmp_ne (tgt := 20) hx hb dX13_given_10 (by decide) (fun c10 => ?_) (fun c10 => ?_)
  · rw [if_neg c10] at hsh
    refine e_aload_n (B := B) (x := x0) hx hb dX13_given_20 rfl (hl.at 0 rfl) ?_
    obtain ⟨v21, h21, hsh⟩ := Option.bind_eq_some_iff.mp hsh
    refine e_getI (k := 55) hx hb hts in_X13 hown hp h21 rfl (by decide) (by decide) rfl (hts _ kf13_609) rfl dX13_given_21 ?_
    refine e_aload_n (B := B) (x := x0) hx hb dX13_given_24 rfl (hl.at 0 rfl) ?_
    obtain ⟨v25, h25, hsh⟩ := Option.bind_eq_some_iff.mp hsh
    refine e_getI (k := 56) hx hb hts in_X13 hown hp h25 rfl (by decide) (by decide) rfl (hts _ kf13_675) rfl dX13_given_25 ?_
    refine e_iadd hx hb dX13_given_28 ?_
    exact w13_given_b29 E hp hS (hl.sub [] rfl) hsh
  · rw [if_pos c10] at hsh
    refine e_aload_n (B := B) (x := x0) hx hb dX13_given_13 rfl (hl.at 0 rfl) ?_
    obtain ⟨v14, h14, hsh⟩ := Option.bind_eq_some_iff.mp hsh
    refine e_getI (k := 102) hx hb hts in_X13 hown hp h14 rfl (by decide) (by decide) rfl (hts _ kf13_773) rfl dX13_given_14 ?_
    refine lv_goto (tgt := 29) hx hb dX13_given_17 (by decide) ?_
    exact w13_given_b29 E hp hS (hl.sub [] rfl) hsh
theorem ok13_waiting {S : HP} {x0 : Int} {r : Int × HP} (h : s13_waiting S x0 = some r) : 0 ≤ x0 ∧ x0.toNat < e_n S ∧ e_g S x0.toNat = 13 := (gd_some h).1
set_option maxRecDepth 100000 in
set_option maxHeartbeats 4000000 in
theorem c13_waiting (l : Launch) (D : va_G) (cA : Nat → ClassId) (B : Nat) (S S' : HP) (x0 : Int) (r : Int) (hsh : s13_waiting S x0 = some (r, S')) : Met l yX13_waiting (e_wu yX13_waiting cX13_waiting 1 (some .int)) ({ frames := 0, cells := 0, slots := 0, locals := 0 } : Room) (va_Pc [e_rv B (x0)] (fun U => e_PU D cA B S U)) (e_Qi D cA B r S') 0 0 (e_A B) := by
  refine Met.ofW (cc := cX13_waiting) (maxL := 1) (ret := (some .int)) (by decide +kernel) rfl ?_
  intro p e s m args below meth c s₁ Bd hml hv
  obtain ⟨rfl, hp⟩ := hv
  have hp : e_Pic D cA B S s s.heap := hp
  have hx := Bd.exec
  have hb := Bd.bytes
  have hrt := Bd.returns
  have hlk := Bd.notSynchronized
  have hown : s.vm.findClass RX13 = some m.cls := findClass_of_methodNamed Bd.named
  have hts : ∀ w ∈ e_tb, w.before ([e_rv B (x0)] : List Value).toArray s = true := fun w h => atoms_spec (ws := (e_wu yX13_waiting cX13_waiting 1 (some .int))) Bd.pre w (List.mem_cons_of_mem _ h)
  have E : e_En p s m ([e_rv B (x0)] : List Value).toArray meth c cX13_waiting RX13 1 (some .int) := ⟨hx, hb, hml, hown, hts, hlk, hrt⟩
  have hS : va_S (e_A B) s.heap s.heap [] := va_S.rf
  have hl := e_entry (vs := [e_rv B (x0)]) (n := 1) (Nat.le_of_ble_eq_true rfl) (e_cc (e_rv_cat _ _) e_cn)
  rw [lg_entry_eq]
  generalize (lg_sl [e_rv B (x0)] ++ List.replicate (1 - (lg_sl [e_rv B (x0)]).length) Slot.unset).toArray = ls at hl ⊢
  generalize ([e_rv B (x0)] : List Value).toArray = args at hts E ⊢
  have hl : e_lo ls 1 [(0, e_rv B (x0))] := hl
  have hsh := (gd_some hsh).2
  refine e_aload_n (B := B) (x := x0) hx hb dX13_waiting_0 rfl (hl.at 0 rfl) ?_
  refine lv_iconst (v := iI (0)) hx hb dX13_waiting_1 rfl ?_
  obtain ⟨S2, h2, hsh⟩ := Option.bind_eq_some_iff.mp hsh
  refine e_putI (k := 125) hx hb hts in_X13 tyX13 tyX13_ok nmX13 hown hp hS h2 rfl (by decide) (by decide) rfl (hts _ kf13_195) rfl rfl (by decide +kernel) dX13_waiting_2 (fun H locs hp hS => ?_)
  refine e_aload_n (B := B) (x := x0) hx hb dX13_waiting_5 rfl (hl.at 0 rfl) ?_
  obtain ⟨v6, h6, hsh⟩ := Option.bind_eq_some_iff.mp hsh
  refine e_getI (k := 119) hx hb hts in_X13 hown hp h6 rfl (by decide) (by decide) rfl (hts _ kf13_998) rfl dX13_waiting_6 ?_
  cases hsh
  exact e_iret hx hb hrt hlk hp hS dX13_waiting_9
theorem ok13_cursors {S : HP} {x0 : Int} {r : Int × HP} (h : s13_cursors S x0 = some r) : 0 ≤ x0 ∧ x0.toNat < e_n S ∧ e_g S x0.toNat = 13 := (gd_some h).1
set_option maxRecDepth 100000 in
set_option maxHeartbeats 4000000 in
theorem c13_cursors (l : Launch) (D : va_G) (cA : Nat → ClassId) (B : Nat) (S S' : HP) (x0 : Int) (r : Int) (hsh : s13_cursors S x0 = some (r, S')) : Met l yX13_cursors (e_wu yX13_cursors cX13_cursors 1 (some .int)) ({ frames := 0, cells := 0, slots := 0, locals := 0 } : Room) (va_Pc [e_rv B (x0)] (fun U => e_PU D cA B S U)) (e_Qi D cA B r S') 0 0 (e_A B) := by
  refine Met.ofW (cc := cX13_cursors) (maxL := 1) (ret := (some .int)) (by decide +kernel) rfl ?_
  intro p e s m args below meth c s₁ Bd hml hv
  obtain ⟨rfl, hp⟩ := hv
  have hp : e_Pic D cA B S s s.heap := hp
  have hx := Bd.exec
  have hb := Bd.bytes
  have hrt := Bd.returns
  have hlk := Bd.notSynchronized
  have hown : s.vm.findClass RX13 = some m.cls := findClass_of_methodNamed Bd.named
  have hts : ∀ w ∈ e_tb, w.before ([e_rv B (x0)] : List Value).toArray s = true := fun w h => atoms_spec (ws := (e_wu yX13_cursors cX13_cursors 1 (some .int))) Bd.pre w (List.mem_cons_of_mem _ h)
  have E : e_En p s m ([e_rv B (x0)] : List Value).toArray meth c cX13_cursors RX13 1 (some .int) := ⟨hx, hb, hml, hown, hts, hlk, hrt⟩
  have hS : va_S (e_A B) s.heap s.heap [] := va_S.rf
  have hl := e_entry (vs := [e_rv B (x0)]) (n := 1) (Nat.le_of_ble_eq_true rfl) (e_cc (e_rv_cat _ _) e_cn)
  rw [lg_entry_eq]
  generalize (lg_sl [e_rv B (x0)] ++ List.replicate (1 - (lg_sl [e_rv B (x0)]).length) Slot.unset).toArray = ls at hl ⊢
  generalize ([e_rv B (x0)] : List Value).toArray = args at hts E ⊢
  have hl : e_lo ls 1 [(0, e_rv B (x0))] := hl
  have hsh := (gd_some hsh).2
  refine e_aload_n (B := B) (x := x0) hx hb dX13_cursors_0 rfl (hl.at 0 rfl) ?_
  refine lv_iconst (v := iI (0)) hx hb dX13_cursors_1 rfl ?_
  obtain ⟨S2, h2, hsh⟩ := Option.bind_eq_some_iff.mp hsh
  refine e_putI (k := 125) hx hb hts in_X13 tyX13 tyX13_ok nmX13 hown hp hS h2 rfl (by decide) (by decide) rfl (hts _ kf13_195) rfl rfl (by decide +kernel) dX13_cursors_2 (fun H locs hp hS => ?_)
  refine e_aload_n (B := B) (x := x0) hx hb dX13_cursors_5 rfl (hl.at 0 rfl) ?_
  obtain ⟨v6, h6, hsh⟩ := Option.bind_eq_some_iff.mp hsh
  refine e_getI (k := 23) hx hb hts in_X13 hown hp h6 rfl (by decide) (by decide) rfl (hts _ kf13_244) rfl dX13_cursors_6 ?_
  cases hsh
  exact e_iret hx hb hrt hlk hp hS dX13_cursors_9
theorem ok13_cursorAt {S : HP} {x0 : Int} {x1 : Int} {r : Int × HP} (h : s13_cursorAt S x0 x1 = some r) : 0 ≤ x0 ∧ x0.toNat < e_n S ∧ e_g S x0.toNat = 13 := (gd_some h).1
set_option maxRecDepth 100000 in
set_option maxHeartbeats 4000000 in
theorem w13_cursorAt_b20 {p : Program} {l : Launch} {e : Env} {s : State} {m : MethodId} {args : Array Value} {below : List Frame} {meth : Method} {c : Code} {D : va_G} {cA : Nat → ClassId} {B : Nat} {res : Int × HP} (E : e_En p s m args meth c cX13_cursorAt RX13 2 (some .int)) {ls : Array Slot} {H : Heap} {locs : List Loc} {S : HP} {x0 : Int} {x1 : Int} {y0 : Int} {y1 : Int} (hp : e_Pic D cA B S s H) (hS : va_S (e_A B) s.heap H locs) (hl : e_lo ls 2 [(0, e_rv B (x0)), (1, .int (iI (x1)))]) (hsh : s13_cursorAt_b20 S x0 x1 y0 y1 = some res) : W p l e ({ frames := 1, cells := 0, slots := 0, locals := 22 } : Room) s m args below meth c H locs 0 0 (MQ below (e_Qi D cA B res.1 res.2) args s 0 0 (e_A B)) (F0 m 20 ls [.int (iI (y1)), e_rv B (y0)]) := by
  obtain ⟨hx, hb, hml, hown, hts, hlk, hrt⟩ := id E
  unfold s13_cursorAt_b20 at hsh
  obtain ⟨⟨v20, S20⟩, h20, hsh⟩ := Option.bind_eq_some_iff.mp hsh
  have hsh : _ = _ := hsh
  try dsimp only at hsh
  have ok20 := ok13_can h20
  refine e_callI (nL := 2) (mc := 0) (ms := 0) (T := TX13) (N := 126) (As := [.int (iI (y1))]) (rest := []) hx hb hml hown hts hp hS hl.size ok20.1 ok20.2.1 ok20.2.2 rfl (by decide) (c13_can l D cA B S S20 (y0) (y1) v20 h20) rfl rfl kd13_can (kl13_1043) ks13_can kv13_can ki13 kh13_can ⟨Nat.le_of_ble_eq_true rfl, Nat.le_of_ble_eq_true rfl⟩ rfl (by simp [e_rv_cat, e_int_cat]) ⟨Nat.le_refl _, Nat.le_refl _⟩ dX13_cursorAt_20 rfl (fun H locs hp hS => ?_)
  refine e_if_ne (tgt := 28) hx hb dX13_cursorAt_23 (by decide) (fun c23 => ?_) (fun c23 => ?_)
  · rw [if_neg c23] at hsh
    refine lv_bipush (v := iI (100)) hx hb dX13_cursorAt_28 (by decide +kernel) ?_
    refine e_aload_n (B := B) (x := x0) hx hb dX13_cursorAt_30 rfl (hl.at 0 rfl) ?_
    obtain ⟨v31, h31, hsh⟩ := Option.bind_eq_some_iff.mp hsh
    refine e_getR (k := 24) hx hb hts in_X13 hown hp h31 rfl (by decide) (by decide) rfl (hts _ kf13_54) rfl dX13_cursorAt_31 ?_
    refine lv_iload_n hx hb dX13_cursorAt_34 rfl (hl.at 1 rfl) ?_
    obtain ⟨v35, h35, hsh⟩ := Option.bind_eq_some_iff.mp hsh
    refine e_iald hx hb hp h35 dX13_cursorAt_35 ?_
    refine e_imul hx hb dX13_cursorAt_36 ?_
    refine e_aload_n (B := B) (x := x0) hx hb dX13_cursorAt_37 rfl (hl.at 0 rfl) ?_
    obtain ⟨v38, h38, hsh⟩ := Option.bind_eq_some_iff.mp hsh
    refine e_getR (k := 25) hx hb hts in_X13 hown hp h38 rfl (by decide) (by decide) rfl (hts _ kf13_57) rfl dX13_cursorAt_38 ?_
    refine lv_iload_n hx hb dX13_cursorAt_41 rfl (hl.at 1 rfl) ?_
    obtain ⟨v42, h42, hsh⟩ := Option.bind_eq_some_iff.mp hsh
    refine e_iald hx hb hp h42 dX13_cursorAt_42 ?_
    refine e_iadd hx hb dX13_cursorAt_43 ?_
    cases hsh
    exact e_iret hx hb hrt hlk hp hS dX13_cursorAt_44
  · rw [if_pos c23] at hsh
    refine lv_iconst (v := iI (0)) hx hb dX13_cursorAt_26 rfl ?_
    cases hsh
    exact e_iret hx hb hrt hlk hp hS dX13_cursorAt_27
set_option maxRecDepth 100000 in
set_option maxHeartbeats 4000000 in
theorem c13_cursorAt (l : Launch) (D : va_G) (cA : Nat → ClassId) (B : Nat) (S S' : HP) (x0 : Int) (x1 : Int) (r : Int) (hsh : s13_cursorAt S x0 x1 = some (r, S')) : Met l yX13_cursorAt (e_wu yX13_cursorAt cX13_cursorAt 2 (some .int)) ({ frames := 1, cells := 0, slots := 0, locals := 22 } : Room) (va_Pc [e_rv B (x0), .int (iI (x1))] (fun U => e_PU D cA B S U)) (e_Qi D cA B r S') 0 0 (e_A B) := by
  refine Met.ofW (cc := cX13_cursorAt) (maxL := 2) (ret := (some .int)) (by decide +kernel) rfl ?_
  intro p e s m args below meth c s₁ Bd hml hv
  obtain ⟨rfl, hp⟩ := hv
  have hp : e_Pic D cA B S s s.heap := hp
  have hx := Bd.exec
  have hb := Bd.bytes
  have hrt := Bd.returns
  have hlk := Bd.notSynchronized
  have hown : s.vm.findClass RX13 = some m.cls := findClass_of_methodNamed Bd.named
  have hts : ∀ w ∈ e_tb, w.before ([e_rv B (x0), .int (iI (x1))] : List Value).toArray s = true := fun w h => atoms_spec (ws := (e_wu yX13_cursorAt cX13_cursorAt 2 (some .int))) Bd.pre w (List.mem_cons_of_mem _ h)
  have E : e_En p s m ([e_rv B (x0), .int (iI (x1))] : List Value).toArray meth c cX13_cursorAt RX13 2 (some .int) := ⟨hx, hb, hml, hown, hts, hlk, hrt⟩
  have hS : va_S (e_A B) s.heap s.heap [] := va_S.rf
  have hl := e_entry (vs := [e_rv B (x0), .int (iI (x1))]) (n := 2) (Nat.le_of_ble_eq_true rfl) (e_cc (e_rv_cat _ _) (e_cc rfl e_cn))
  rw [lg_entry_eq]
  generalize (lg_sl [e_rv B (x0), .int (iI (x1))] ++ List.replicate (2 - (lg_sl [e_rv B (x0), .int (iI (x1))]).length) Slot.unset).toArray = ls at hl ⊢
  generalize ([e_rv B (x0), .int (iI (x1))] : List Value).toArray = args at hts E ⊢
  have hl : e_lo ls 2 [(0, e_rv B (x0)), (1, .int (iI (x1)))] := hl
  have hsh := (gd_some hsh).2
  refine e_aload_n (B := B) (x := x0) hx hb dX13_cursorAt_0 rfl (hl.at 0 rfl) ?_
  refine lv_iload_n hx hb dX13_cursorAt_1 rfl (hl.at 1 rfl) ?_
  refine lv_iconst (v := iI (0)) hx hb dX13_cursorAt_2 rfl ?_
  refine e_aload_n (B := B) (x := x0) hx hb dX13_cursorAt_3 rfl (hl.at 0 rfl) ?_
  obtain ⟨v4, h4, hsh⟩ := Option.bind_eq_some_iff.mp hsh
  refine e_getI (k := 23) hx hb hts in_X13 hown hp h4 rfl (by decide) (by decide) rfl (hts _ kf13_244) rfl dX13_cursorAt_4 ?_
  refine lv_iconst (v := iI (1)) hx hb dX13_cursorAt_7 rfl ?_
  refine e_isub hx hb dX13_cursorAt_8 ?_
  obtain ⟨⟨v9, S9⟩, h9, hsh⟩ := Option.bind_eq_some_iff.mp hsh
  have hsh : _ = _ := hsh
  try dsimp only at hsh
  refine e_callS (nL := 2) (mc := 0) (ms := 0) (As := [.int (iI (x1)), .int (iI (0)), .int (iI ((v4 - 1)))]) (rest := [e_rv B (x0)]) hx hb hml hown hts hp hS hl.size (c13_isIn l D cA B S S9 (x1) (0) ((v4 - 1)) v9 h9) rfl rfl kd13_isIn (kl13_198) ks13_isIn ki13 kh13_isIn ⟨Nat.le_of_ble_eq_true rfl, Nat.le_of_ble_eq_true rfl⟩ rfl (by simp [e_rv_cat, e_int_cat]) ⟨Nat.le_refl _, Nat.le_refl _⟩ dX13_cursorAt_9 rfl (fun H locs hp hS => ?_)
  refine e_if_eq (tgt := 19) hx hb dX13_cursorAt_12 (by decide) (fun c12 => ?_) (fun c12 => ?_)
  · rw [if_pos c12] at hsh
    refine lv_iconst (v := iI (1)) hx hb dX13_cursorAt_19 rfl ?_
    exact w13_cursorAt_b20 E hp hS (hl.sub [0, 1] rfl) hsh
  · rw [if_neg c12] at hsh
    refine lv_iconst (v := iI (0)) hx hb dX13_cursorAt_15 rfl ?_
    refine lv_goto (tgt := 20) hx hb dX13_cursorAt_16 (by decide) ?_
    exact w13_cursorAt_b20 E hp hS (hl.sub [0, 1] rfl) hsh
set_option maxRecDepth 100000 in
set_option maxHeartbeats 4000000 in
theorem w13_isRegister_b39 {p : Program} {l : Launch} {e : Env} {s : State} {m : MethodId} {args : Array Value} {below : List Frame} {meth : Method} {c : Code} {D : va_G} {cA : Nat → ClassId} {B : Nat} {res : Int × HP} (E : e_En p s m args meth c cX13_isRegister RX13 1 (some .boolean)) {ls : Array Slot} {H : Heap} {locs : List Loc} {S : HP} {y0 : Int} (hp : e_Pic D cA B S s H) (hS : va_S (e_A B) s.heap H locs) (hl : e_lo ls 1 []) (hsh : s13_isRegister_b39 S y0 = some res) : W p l e ({ frames := 1, cells := 0, slots := 0, locals := 22 } : Room) s m args below meth c H locs 0 0 (MQ below (e_Qi D cA B res.1 res.2) args s 0 0 (e_A B)) (F0 m 39 ls [.int (iI (y0))]) := by
  obtain ⟨hx, hb, hml, hown, hts, hlk, hrt⟩ := id E
  unfold s13_isRegister_b39 at hsh
  obtain ⟨hz, hz1, hz2⟩ := zR_some hsh
  rw [← hz1, ← hz2]
  exact e_zret hx hb hrt hlk hp hS hz dX13_isRegister_39
set_option maxRecDepth 100000 in
set_option maxHeartbeats 4000000 in
theorem w13_isRegister_b34 {p : Program} {l : Launch} {e : Env} {s : State} {m : MethodId} {args : Array Value} {below : List Frame} {meth : Method} {c : Code} {D : va_G} {cA : Nat → ClassId} {B : Nat} {res : Int × HP} (E : e_En p s m args meth c cX13_isRegister RX13 1 (some .boolean)) {ls : Array Slot} {H : Heap} {locs : List Loc} {S : HP} (hp : e_Pic D cA B S s H) (hS : va_S (e_A B) s.heap H locs) (hl : e_lo ls 1 []) (hsh : s13_isRegister_b34 S  = some res) : W p l e ({ frames := 1, cells := 0, slots := 0, locals := 22 } : Room) s m args below meth c H locs 0 0 (MQ below (e_Qi D cA B res.1 res.2) args s 0 0 (e_A B)) (F0 m 34 ls []) := by
  obtain ⟨hx, hb, hml, hown, hts, hlk, hrt⟩ := id E
  unfold s13_isRegister_b34 at hsh
  refine lv_iconst (v := iI (1)) hx hb dX13_isRegister_34 rfl ?_
  refine lv_goto (tgt := 39) hx hb dX13_isRegister_35 (by decide) ?_
  exact w13_isRegister_b39 E hp hS (hl.sub [] rfl) hsh
set_option maxRecDepth 100000 in
set_option maxHeartbeats 4000000 in
theorem c13_isRegister (l : Launch) (D : va_G) (cA : Nat → ClassId) (B : Nat) (S S' : HP) (x0 : Int) (r : Int) (hsh : s13_isRegister S x0 = some (r, S')) : Met l yX13_isRegister (e_wu yX13_isRegister cX13_isRegister 1 (some .boolean)) ({ frames := 1, cells := 0, slots := 0, locals := 22 } : Room) (va_Pc [.int (iI (x0))] (fun U => e_PU D cA B S U)) (e_Qi D cA B r S') 0 0 (e_A B) := by
  refine Met.ofW (cc := cX13_isRegister) (maxL := 1) (ret := (some .boolean)) (by decide +kernel) rfl ?_
  intro p e s m args below meth c s₁ Bd hml hv
  obtain ⟨rfl, hp⟩ := hv
  have hp : e_Pic D cA B S s s.heap := hp
  have hx := Bd.exec
  have hb := Bd.bytes
  have hrt := Bd.returns
  have hlk := Bd.notSynchronized
  have hown : s.vm.findClass RX13 = some m.cls := findClass_of_methodNamed Bd.named
  have hts : ∀ w ∈ e_tb, w.before ([.int (iI (x0))] : List Value).toArray s = true := fun w h => atoms_spec (ws := (e_wu yX13_isRegister cX13_isRegister 1 (some .boolean))) Bd.pre w (List.mem_cons_of_mem _ h)
  have E : e_En p s m ([.int (iI (x0))] : List Value).toArray meth c cX13_isRegister RX13 1 (some .boolean) := ⟨hx, hb, hml, hown, hts, hlk, hrt⟩
  have hS : va_S (e_A B) s.heap s.heap [] := va_S.rf
  have hl := e_entry (vs := [.int (iI (x0))]) (n := 1) (Nat.le_of_ble_eq_true rfl) (e_cc rfl e_cn)
  rw [lg_entry_eq]
  generalize (lg_sl [.int (iI (x0))] ++ List.replicate (1 - (lg_sl [.int (iI (x0))]).length) Slot.unset).toArray = ls at hl ⊢
  generalize ([.int (iI (x0))] : List Value).toArray = args at hts E ⊢
  have hl : e_lo ls 1 [(0, .int (iI (x0)))] := hl
  unfold s13_isRegister at hsh
  refine lv_iload_n hx hb dX13_isRegister_0 rfl (hl.at 0 rfl) ?_
  refine lv_bipush (v := iI (97)) hx hb dX13_isRegister_1 (by decide +kernel) ?_
  refine lv_bipush (v := iI (122)) hx hb dX13_isRegister_3 (by decide +kernel) ?_
  obtain ⟨⟨v5, S5⟩, h5, hsh⟩ := Option.bind_eq_some_iff.mp hsh
  have hsh : _ = _ := hsh
  try dsimp only at hsh
  refine e_callS (nL := 1) (mc := 0) (ms := 0) (As := [.int (iI (x0)), .int (iI (97)), .int (iI (122))]) (rest := []) hx hb hml hown hts hp hS hl.size (c13_isIn l D cA B S S5 (x0) (97) (122) v5 h5) rfl rfl kd13_isIn (kl13_198) ks13_isIn ki13 kh13_isIn ⟨Nat.le_of_ble_eq_true rfl, Nat.le_of_ble_eq_true rfl⟩ rfl (by simp [e_rv_cat, e_int_cat]) ⟨Nat.le_refl _, Nat.le_refl _⟩ dX13_isRegister_5 rfl (fun H locs hp hS => ?_)
  refine e_if_ne (tgt := 34) hx hb dX13_isRegister_8 (by decide) (fun c8 => ?_) (fun c8 => ?_)
  · rw [if_neg c8] at hsh
    exact w13_isRegister_b34 E hp hS (hl.sub [] rfl) hsh
  · rw [if_pos c8] at hsh
    refine lv_iload_n hx hb dX13_isRegister_11 rfl (hl.at 0 rfl) ?_
    refine lv_bipush (v := iI (48)) hx hb dX13_isRegister_12 (by decide +kernel) ?_
    refine lv_bipush (v := iI (57)) hx hb dX13_isRegister_14 (by decide +kernel) ?_
    obtain ⟨⟨v16, S16⟩, h16, hsh⟩ := Option.bind_eq_some_iff.mp hsh
    have hsh : _ = _ := hsh
    try dsimp only at hsh
    refine e_callS (nL := 1) (mc := 0) (ms := 0) (As := [.int (iI (x0)), .int (iI (48)), .int (iI (57))]) (rest := []) hx hb hml hown hts hp hS hl.size (c13_isIn l D cA B S5 S16 (x0) (48) (57) v16 h16) rfl rfl kd13_isIn (kl13_198) ks13_isIn ki13 kh13_isIn ⟨Nat.le_of_ble_eq_true rfl, Nat.le_of_ble_eq_true rfl⟩ rfl (by simp [e_rv_cat, e_int_cat]) ⟨Nat.le_refl _, Nat.le_refl _⟩ dX13_isRegister_16 rfl (fun H locs hp hS => ?_)
    refine e_if_ne (tgt := 34) hx hb dX13_isRegister_19 (by decide) (fun c19 => ?_) (fun c19 => ?_)
    · rw [if_neg c19] at hsh
      exact w13_isRegister_b34 E hp hS (hl.sub [] rfl) hsh
    · rw [if_pos c19] at hsh
      refine lv_iload_n hx hb dX13_isRegister_22 rfl (hl.at 0 rfl) ?_
      refine lv_bipush (v := iI (45)) hx hb dX13_isRegister_23 (by decide +kernel) ?_
      refine e_icmp_eq (tgt := 34) hx hb dX13_isRegister_25 (by decide) (fun c25 => ?_) (fun c25 => ?_)
      · rw [if_pos c25] at hsh
        exact w13_isRegister_b34 E hp hS (hl.sub [] rfl) hsh
      · rw [if_neg c25] at hsh
        refine lv_iload_n hx hb dX13_isRegister_28 rfl (hl.at 0 rfl) ?_
        refine lv_bipush (v := iI (34)) hx hb dX13_isRegister_29 (by decide +kernel) ?_
        refine e_icmp_ne (tgt := 38) hx hb dX13_isRegister_31 (by decide) (fun c31 => ?_) (fun c31 => ?_)
        · rw [if_neg c31] at hsh
          refine lv_iconst (v := iI (0)) hx hb dX13_isRegister_38 rfl ?_
          exact w13_isRegister_b39 E hp hS (hl.sub [] rfl) hsh
        · rw [if_pos c31] at hsh
          exact w13_isRegister_b34 E hp hS (hl.sub [] rfl) hsh
theorem ok13_registerKind {S : HP} {x0 : Int} {x1 : Int} {r : Int × HP} (h : s13_registerKind S x0 x1 = some r) : 0 ≤ x0 ∧ x0.toNat < e_n S ∧ e_g S x0.toNat = 13 := (gd_some h).1
set_option maxRecDepth 100000 in
set_option maxHeartbeats 4000000 in
theorem w13_registerKind_b32 {p : Program} {l : Launch} {e : Env} {s : State} {m : MethodId} {args : Array Value} {below : List Frame} {meth : Method} {c : Code} {D : va_G} {cA : Nat → ClassId} {B : Nat} {res : Int × HP} (E : e_En p s m args meth c cX13_registerKind RX13 2 (some .int)) {ls : Array Slot} {H : Heap} {locs : List Loc} {S : HP} {y0 : Int} (hp : e_Pic D cA B S s H) (hS : va_S (e_A B) s.heap H locs) (hl : e_lo ls 2 []) (hsh : s13_registerKind_b32 S y0 = some res) : W p l e ({ frames := 2, cells := 0, slots := 0, locals := 42 } : Room) s m args below meth c H locs 0 0 (MQ below (e_Qi D cA B res.1 res.2) args s 0 0 (e_A B)) (F0 m 32 ls [.int (iI (y0))]) := by
  obtain ⟨hx, hb, hml, hown, hts, hlk, hrt⟩ := id E
  unfold s13_registerKind_b32 at hsh
  cases hsh
  exact e_iret hx hb hrt hlk hp hS dX13_registerKind_32
set_option maxRecDepth 100000 in
set_option maxHeartbeats 4000000 in
theorem w13_registerKind_b13 {p : Program} {l : Launch} {e : Env} {s : State} {m : MethodId} {args : Array Value} {below : List Frame} {meth : Method} {c : Code} {D : va_G} {cA : Nat → ClassId} {B : Nat} {res : Int × HP} (E : e_En p s m args meth c cX13_registerKind RX13 2 (some .int)) {ls : Array Slot} {H : Heap} {locs : List Loc} {S : HP} {x0 : Int} {x1 : Int} {y0 : Int} {y1 : Int} (hp : e_Pic D cA B S s H) (hS : va_S (e_A B) s.heap H locs) (hl : e_lo ls 2 [(0, e_rv B (x0)), (1, .int (iI (x1)))]) (hsh : s13_registerKind_b13 S x0 x1 y0 y1 = some res) : W p l e ({ frames := 2, cells := 0, slots := 0, locals := 42 } : Room) s m args below meth c H locs 0 0 (MQ below (e_Qi D cA B res.1 res.2) args s 0 0 (e_A B)) (F0 m 13 ls [.int (iI (y1)), e_rv B (y0)]) := by
  obtain ⟨hx, hb, hml, hown, hts, hlk, hrt⟩ := id E
  unfold s13_registerKind_b13 at hsh
  obtain ⟨⟨v13, S13⟩, h13, hsh⟩ := Option.bind_eq_some_iff.mp hsh
  have hsh : _ = _ := hsh
  try dsimp only at hsh
  have ok13 := ok13_can h13
  refine e_callI (nL := 2) (mc := 0) (ms := 0) (T := TX13) (N := 126) (As := [.int (iI (y1))]) (rest := []) hx hb hml hown hts hp hS hl.size ok13.1 ok13.2.1 ok13.2.2 rfl (by decide) (c13_can l D cA B S S13 (y0) (y1) v13 h13) rfl rfl kd13_can (kl13_1043) ks13_can kv13_can ki13 kh13_can ⟨Nat.le_of_ble_eq_true rfl, Nat.le_of_ble_eq_true rfl⟩ rfl (by simp [e_rv_cat, e_int_cat]) ⟨Nat.le_refl _, Nat.le_refl _⟩ dX13_registerKind_13 rfl (fun H locs hp hS => ?_)
  refine e_if_eq (tgt := 31) hx hb dX13_registerKind_16 (by decide) (fun c16 => ?_) (fun c16 => ?_)
  · rw [if_pos c16] at hsh
    refine lv_iconst (v := iI (0)) hx hb dX13_registerKind_31 rfl ?_
    exact w13_registerKind_b32 E hp hS (hl.sub [] rfl) hsh
  · rw [if_neg c16] at hsh
    refine e_aload_n (B := B) (x := x0) hx hb dX13_registerKind_19 rfl (hl.at 0 rfl) ?_
    obtain ⟨v20, h20, hsh⟩ := Option.bind_eq_some_iff.mp hsh
    refine e_getR (k := 11) hx hb hts in_X13 hown hp h20 rfl (by decide) (by decide) rfl (hts _ kf13_23) rfl dX13_registerKind_20 ?_
    refine lv_iload_n hx hb dX13_registerKind_23 rfl (hl.at 1 rfl) ?_
    obtain ⟨⟨v24, S24⟩, h24, hsh⟩ := Option.bind_eq_some_iff.mp hsh
    have hsh : _ = _ := hsh
    try dsimp only at hsh
    refine e_callS (nL := 2) (mc := 0) (ms := 0) (As := [.int (iI (x1))]) (rest := [e_rv B (v20)]) hx hb hml hown hts hp hS hl.size (c13_registerOf l D cA B S13 S24 (x1) v24 h24) rfl rfl kd13_registerOf (kl13_457) ks13_registerOf ki13 kh13_registerOf ⟨Nat.le_of_ble_eq_true rfl, Nat.le_of_ble_eq_true rfl⟩ rfl (by simp [e_rv_cat, e_int_cat]) ⟨Nat.le_refl _, Nat.le_refl _⟩ dX13_registerKind_24 rfl (fun H locs hp hS => ?_)
    obtain ⟨v27, h27, hsh⟩ := Option.bind_eq_some_iff.mp hsh
    refine e_iald hx hb hp h27 dX13_registerKind_27 ?_
    refine lv_goto (tgt := 32) hx hb dX13_registerKind_28 (by decide) ?_
    exact w13_registerKind_b32 E hp hS (hl.sub [] rfl) hsh
set_option maxRecDepth 100000 in
set_option maxHeartbeats 4000000 in
theorem c13_registerKind (l : Launch) (D : va_G) (cA : Nat → ClassId) (B : Nat) (S S' : HP) (x0 : Int) (x1 : Int) (r : Int) (hsh : s13_registerKind S x0 x1 = some (r, S')) : Met l yX13_registerKind (e_wu yX13_registerKind cX13_registerKind 2 (some .int)) ({ frames := 2, cells := 0, slots := 0, locals := 42 } : Room) (va_Pc [e_rv B (x0), .int (iI (x1))] (fun U => e_PU D cA B S U)) (e_Qi D cA B r S') 0 0 (e_A B) := by
  refine Met.ofW (cc := cX13_registerKind) (maxL := 2) (ret := (some .int)) (by decide +kernel) rfl ?_
  intro p e s m args below meth c s₁ Bd hml hv
  obtain ⟨rfl, hp⟩ := hv
  have hp : e_Pic D cA B S s s.heap := hp
  have hx := Bd.exec
  have hb := Bd.bytes
  have hrt := Bd.returns
  have hlk := Bd.notSynchronized
  have hown : s.vm.findClass RX13 = some m.cls := findClass_of_methodNamed Bd.named
  have hts : ∀ w ∈ e_tb, w.before ([e_rv B (x0), .int (iI (x1))] : List Value).toArray s = true := fun w h => atoms_spec (ws := (e_wu yX13_registerKind cX13_registerKind 2 (some .int))) Bd.pre w (List.mem_cons_of_mem _ h)
  have E : e_En p s m ([e_rv B (x0), .int (iI (x1))] : List Value).toArray meth c cX13_registerKind RX13 2 (some .int) := ⟨hx, hb, hml, hown, hts, hlk, hrt⟩
  have hS : va_S (e_A B) s.heap s.heap [] := va_S.rf
  have hl := e_entry (vs := [e_rv B (x0), .int (iI (x1))]) (n := 2) (Nat.le_of_ble_eq_true rfl) (e_cc (e_rv_cat _ _) (e_cc rfl e_cn))
  rw [lg_entry_eq]
  generalize (lg_sl [e_rv B (x0), .int (iI (x1))] ++ List.replicate (2 - (lg_sl [e_rv B (x0), .int (iI (x1))]).length) Slot.unset).toArray = ls at hl ⊢
  generalize ([e_rv B (x0), .int (iI (x1))] : List Value).toArray = args at hts E ⊢
  have hl : e_lo ls 2 [(0, e_rv B (x0)), (1, .int (iI (x1)))] := hl
  have hsh := (gd_some hsh).2
  refine e_aload_n (B := B) (x := x0) hx hb dX13_registerKind_0 rfl (hl.at 0 rfl) ?_
  refine lv_iload_n hx hb dX13_registerKind_1 rfl (hl.at 1 rfl) ?_
  obtain ⟨⟨v2, S2⟩, h2, hsh⟩ := Option.bind_eq_some_iff.mp hsh
  have hsh : _ = _ := hsh
  try dsimp only at hsh
  refine e_callS (nL := 2) (mc := 0) (ms := 0) (As := [.int (iI (x1))]) (rest := [e_rv B (x0)]) hx hb hml hown hts hp hS hl.size (c13_isRegister l D cA B S S2 (x1) v2 h2) rfl rfl kd13_isRegister (kl13_1073) ks13_isRegister ki13 kh13_isRegister ⟨Nat.le_of_ble_eq_true rfl, Nat.le_of_ble_eq_true rfl⟩ rfl (by simp [e_rv_cat, e_int_cat]) ⟨Nat.le_refl _, Nat.le_refl _⟩ dX13_registerKind_2 rfl (fun H locs hp hS => ?_)
  refine e_if_eq (tgt := 12) hx hb dX13_registerKind_5 (by decide) (fun c5 => ?_) (fun c5 => ?_)
  · rw [if_pos c5] at hsh
    refine lv_iconst (v := iI (1)) hx hb dX13_registerKind_12 rfl ?_
    exact w13_registerKind_b13 E hp hS (hl.sub [0, 1] rfl) hsh
  · rw [if_neg c5] at hsh
    refine lv_iconst (v := iI (0)) hx hb dX13_registerKind_8 rfl ?_
    refine lv_goto (tgt := 13) hx hb dX13_registerKind_9 (by decide) ?_
    exact w13_registerKind_b13 E hp hS (hl.sub [0, 1] rfl) hsh
theorem ok13_registerLength {S : HP} {x0 : Int} {x1 : Int} {r : Int × HP} (h : s13_registerLength S x0 x1 = some r) : 0 ≤ x0 ∧ x0.toNat < e_n S ∧ e_g S x0.toNat = 13 := (gd_some h).1
set_option maxRecDepth 100000 in
set_option maxHeartbeats 4000000 in
theorem w13_registerLength_b32 {p : Program} {l : Launch} {e : Env} {s : State} {m : MethodId} {args : Array Value} {below : List Frame} {meth : Method} {c : Code} {D : va_G} {cA : Nat → ClassId} {B : Nat} {res : Int × HP} (E : e_En p s m args meth c cX13_registerLength RX13 2 (some .int)) {ls : Array Slot} {H : Heap} {locs : List Loc} {S : HP} {y0 : Int} (hp : e_Pic D cA B S s H) (hS : va_S (e_A B) s.heap H locs) (hl : e_lo ls 2 []) (hsh : s13_registerLength_b32 S y0 = some res) : W p l e ({ frames := 2, cells := 0, slots := 0, locals := 42 } : Room) s m args below meth c H locs 0 0 (MQ below (e_Qi D cA B res.1 res.2) args s 0 0 (e_A B)) (F0 m 32 ls [.int (iI (y0))]) := by
  obtain ⟨hx, hb, hml, hown, hts, hlk, hrt⟩ := id E
  unfold s13_registerLength_b32 at hsh
  cases hsh
  exact e_iret hx hb hrt hlk hp hS dX13_registerLength_32
set_option maxRecDepth 100000 in
set_option maxHeartbeats 4000000 in
theorem w13_registerLength_b13 {p : Program} {l : Launch} {e : Env} {s : State} {m : MethodId} {args : Array Value} {below : List Frame} {meth : Method} {c : Code} {D : va_G} {cA : Nat → ClassId} {B : Nat} {res : Int × HP} (E : e_En p s m args meth c cX13_registerLength RX13 2 (some .int)) {ls : Array Slot} {H : Heap} {locs : List Loc} {S : HP} {x0 : Int} {x1 : Int} {y0 : Int} {y1 : Int} (hp : e_Pic D cA B S s H) (hS : va_S (e_A B) s.heap H locs) (hl : e_lo ls 2 [(0, e_rv B (x0)), (1, .int (iI (x1)))]) (hsh : s13_registerLength_b13 S x0 x1 y0 y1 = some res) : W p l e ({ frames := 2, cells := 0, slots := 0, locals := 42 } : Room) s m args below meth c H locs 0 0 (MQ below (e_Qi D cA B res.1 res.2) args s 0 0 (e_A B)) (F0 m 13 ls [.int (iI (y1)), e_rv B (y0)]) := by
  obtain ⟨hx, hb, hml, hown, hts, hlk, hrt⟩ := id E
  unfold s13_registerLength_b13 at hsh
  obtain ⟨⟨v13, S13⟩, h13, hsh⟩ := Option.bind_eq_some_iff.mp hsh
  have hsh : _ = _ := hsh
  try dsimp only at hsh
  have ok13 := ok13_can h13
  refine e_callI (nL := 2) (mc := 0) (ms := 0) (T := TX13) (N := 126) (As := [.int (iI (y1))]) (rest := []) hx hb hml hown hts hp hS hl.size ok13.1 ok13.2.1 ok13.2.2 rfl (by decide) (c13_can l D cA B S S13 (y0) (y1) v13 h13) rfl rfl kd13_can (kl13_1043) ks13_can kv13_can ki13 kh13_can ⟨Nat.le_of_ble_eq_true rfl, Nat.le_of_ble_eq_true rfl⟩ rfl (by simp [e_rv_cat, e_int_cat]) ⟨Nat.le_refl _, Nat.le_refl _⟩ dX13_registerLength_13 rfl (fun H locs hp hS => ?_)
  refine e_if_eq (tgt := 31) hx hb dX13_registerLength_16 (by decide) (fun c16 => ?_) (fun c16 => ?_)
  · rw [if_pos c16] at hsh
    refine lv_iconst (v := iI (0)) hx hb dX13_registerLength_31 rfl ?_
    exact w13_registerLength_b32 E hp hS (hl.sub [] rfl) hsh
  · rw [if_neg c16] at hsh
    refine e_aload_n (B := B) (x := x0) hx hb dX13_registerLength_19 rfl (hl.at 0 rfl) ?_
    obtain ⟨v20, h20, hsh⟩ := Option.bind_eq_some_iff.mp hsh
    refine e_getR (k := 12) hx hb hts in_X13 hown hp h20 rfl (by decide) (by decide) rfl (hts _ kf13_26) rfl dX13_registerLength_20 ?_
    refine lv_iload_n hx hb dX13_registerLength_23 rfl (hl.at 1 rfl) ?_
    obtain ⟨⟨v24, S24⟩, h24, hsh⟩ := Option.bind_eq_some_iff.mp hsh
    have hsh : _ = _ := hsh
    try dsimp only at hsh
    refine e_callS (nL := 2) (mc := 0) (ms := 0) (As := [.int (iI (x1))]) (rest := [e_rv B (v20)]) hx hb hml hown hts hp hS hl.size (c13_registerOf l D cA B S13 S24 (x1) v24 h24) rfl rfl kd13_registerOf (kl13_457) ks13_registerOf ki13 kh13_registerOf ⟨Nat.le_of_ble_eq_true rfl, Nat.le_of_ble_eq_true rfl⟩ rfl (by simp [e_rv_cat, e_int_cat]) ⟨Nat.le_refl _, Nat.le_refl _⟩ dX13_registerLength_24 rfl (fun H locs hp hS => ?_)
    obtain ⟨v27, h27, hsh⟩ := Option.bind_eq_some_iff.mp hsh
    refine e_iald hx hb hp h27 dX13_registerLength_27 ?_
    refine lv_goto (tgt := 32) hx hb dX13_registerLength_28 (by decide) ?_
    exact w13_registerLength_b32 E hp hS (hl.sub [] rfl) hsh
set_option maxRecDepth 100000 in
set_option maxHeartbeats 4000000 in
theorem c13_registerLength (l : Launch) (D : va_G) (cA : Nat → ClassId) (B : Nat) (S S' : HP) (x0 : Int) (x1 : Int) (r : Int) (hsh : s13_registerLength S x0 x1 = some (r, S')) : Met l yX13_registerLength (e_wu yX13_registerLength cX13_registerLength 2 (some .int)) ({ frames := 2, cells := 0, slots := 0, locals := 42 } : Room) (va_Pc [e_rv B (x0), .int (iI (x1))] (fun U => e_PU D cA B S U)) (e_Qi D cA B r S') 0 0 (e_A B) := by
  refine Met.ofW (cc := cX13_registerLength) (maxL := 2) (ret := (some .int)) (by decide +kernel) rfl ?_
  intro p e s m args below meth c s₁ Bd hml hv
  obtain ⟨rfl, hp⟩ := hv
  have hp : e_Pic D cA B S s s.heap := hp
  have hx := Bd.exec
  have hb := Bd.bytes
  have hrt := Bd.returns
  have hlk := Bd.notSynchronized
  have hown : s.vm.findClass RX13 = some m.cls := findClass_of_methodNamed Bd.named
  have hts : ∀ w ∈ e_tb, w.before ([e_rv B (x0), .int (iI (x1))] : List Value).toArray s = true := fun w h => atoms_spec (ws := (e_wu yX13_registerLength cX13_registerLength 2 (some .int))) Bd.pre w (List.mem_cons_of_mem _ h)
  have E : e_En p s m ([e_rv B (x0), .int (iI (x1))] : List Value).toArray meth c cX13_registerLength RX13 2 (some .int) := ⟨hx, hb, hml, hown, hts, hlk, hrt⟩
  have hS : va_S (e_A B) s.heap s.heap [] := va_S.rf
  have hl := e_entry (vs := [e_rv B (x0), .int (iI (x1))]) (n := 2) (Nat.le_of_ble_eq_true rfl) (e_cc (e_rv_cat _ _) (e_cc rfl e_cn))
  rw [lg_entry_eq]
  generalize (lg_sl [e_rv B (x0), .int (iI (x1))] ++ List.replicate (2 - (lg_sl [e_rv B (x0), .int (iI (x1))]).length) Slot.unset).toArray = ls at hl ⊢
  generalize ([e_rv B (x0), .int (iI (x1))] : List Value).toArray = args at hts E ⊢
  have hl : e_lo ls 2 [(0, e_rv B (x0)), (1, .int (iI (x1)))] := hl
  have hsh := (gd_some hsh).2
  refine e_aload_n (B := B) (x := x0) hx hb dX13_registerLength_0 rfl (hl.at 0 rfl) ?_
  refine lv_iload_n hx hb dX13_registerLength_1 rfl (hl.at 1 rfl) ?_
  obtain ⟨⟨v2, S2⟩, h2, hsh⟩ := Option.bind_eq_some_iff.mp hsh
  have hsh : _ = _ := hsh
  try dsimp only at hsh
  refine e_callS (nL := 2) (mc := 0) (ms := 0) (As := [.int (iI (x1))]) (rest := [e_rv B (x0)]) hx hb hml hown hts hp hS hl.size (c13_isRegister l D cA B S S2 (x1) v2 h2) rfl rfl kd13_isRegister (kl13_1073) ks13_isRegister ki13 kh13_isRegister ⟨Nat.le_of_ble_eq_true rfl, Nat.le_of_ble_eq_true rfl⟩ rfl (by simp [e_rv_cat, e_int_cat]) ⟨Nat.le_refl _, Nat.le_refl _⟩ dX13_registerLength_2 rfl (fun H locs hp hS => ?_)
  refine e_if_eq (tgt := 12) hx hb dX13_registerLength_5 (by decide) (fun c5 => ?_) (fun c5 => ?_)
  · rw [if_pos c5] at hsh
    refine lv_iconst (v := iI (1)) hx hb dX13_registerLength_12 rfl ?_
    exact w13_registerLength_b13 E hp hS (hl.sub [0, 1] rfl) hsh
  · rw [if_neg c5] at hsh
    refine lv_iconst (v := iI (0)) hx hb dX13_registerLength_8 rfl ?_
    refine lv_goto (tgt := 13) hx hb dX13_registerLength_9 (by decide) ?_
    exact w13_registerLength_b13 E hp hS (hl.sub [0, 1] rfl) hsh
theorem ok13_mark {S : HP} {x0 : Int} {x1 : Int} {r : Int × HP} (h : s13_mark S x0 x1 = some r) : 0 ≤ x0 ∧ x0.toNat < e_n S ∧ e_g S x0.toNat = 13 := (gd_some h).1
set_option maxRecDepth 100000 in
set_option maxHeartbeats 4000000 in
theorem w13_mark_b54 {p : Program} {l : Launch} {e : Env} {s : State} {m : MethodId} {args : Array Value} {below : List Frame} {meth : Method} {c : Code} {D : va_G} {cA : Nat → ClassId} {B : Nat} {res : Int × HP} (E : e_En p s m args meth c cX13_mark RX13 3 (some .int)) {ls : Array Slot} {H : Heap} {locs : List Loc} {S : HP} {y0 : Int} (hp : e_Pic D cA B S s H) (hS : va_S (e_A B) s.heap H locs) (hl : e_lo ls 3 []) (hsh : s13_mark_b54 S y0 = some res) : W p l e ({ frames := 2, cells := 0, slots := 0, locals := 42 } : Room) s m args below meth c H locs 0 0 (MQ below (e_Qi D cA B res.1 res.2) args s 0 0 (e_A B)) (F0 m 54 ls [.int (iI (y0))]) := by
  obtain ⟨hx, hb, hml, hown, hts, hlk, hrt⟩ := id E
  unfold s13_mark_b54 at hsh
  cases hsh
  exact e_iret hx hb hrt hlk hp hS dX13_mark_54
set_option maxRecDepth 100000 in
set_option maxHeartbeats 4000000 in
theorem w13_mark_b13 {p : Program} {l : Launch} {e : Env} {s : State} {m : MethodId} {args : Array Value} {below : List Frame} {meth : Method} {c : Code} {D : va_G} {cA : Nat → ClassId} {B : Nat} {res : Int × HP} (E : e_En p s m args meth c cX13_mark RX13 3 (some .int)) {ls : Array Slot} {H : Heap} {locs : List Loc} {S : HP} {x0 : Int} {x1 : Int} {y0 : Int} {y1 : Int} (hp : e_Pic D cA B S s H) (hS : va_S (e_A B) s.heap H locs) (hl : e_lo ls 3 [(0, e_rv B (x0)), (1, .int (iI (x1)))]) (hsh : s13_mark_b13 S x0 x1 y0 y1 = some res) : W p l e ({ frames := 2, cells := 0, slots := 0, locals := 42 } : Room) s m args below meth c H locs 0 0 (MQ below (e_Qi D cA B res.1 res.2) args s 0 0 (e_A B)) (F0 m 13 ls [.int (iI (y1)), e_rv B (y0)]) := by
  obtain ⟨hx, hb, hml, hown, hts, hlk, hrt⟩ := id E
  unfold s13_mark_b13 at hsh
  obtain ⟨⟨v13, S13⟩, h13, hsh⟩ := Option.bind_eq_some_iff.mp hsh
  have hsh : _ = _ := hsh
  try dsimp only at hsh
  have ok13 := ok13_can h13
  refine e_callI (nL := 3) (mc := 0) (ms := 0) (T := TX13) (N := 126) (As := [.int (iI (y1))]) (rest := []) hx hb hml hown hts hp hS hl.size ok13.1 ok13.2.1 ok13.2.2 rfl (by decide) (c13_can l D cA B S S13 (y0) (y1) v13 h13) rfl rfl kd13_can (kl13_1043) ks13_can kv13_can ki13 kh13_can ⟨Nat.le_of_ble_eq_true rfl, Nat.le_of_ble_eq_true rfl⟩ rfl (by simp [e_rv_cat, e_int_cat]) ⟨Nat.le_refl _, Nat.le_refl _⟩ dX13_mark_13 rfl (fun H locs hp hS => ?_)
  refine e_if_ne (tgt := 21) hx hb dX13_mark_16 (by decide) (fun c16 => ?_) (fun c16 => ?_)
  · rw [if_neg c16] at hsh
    refine e_aload_n (B := B) (x := x0) hx hb dX13_mark_21 rfl (hl.at 0 rfl) ?_
    obtain ⟨v22, h22, hsh⟩ := Option.bind_eq_some_iff.mp hsh
    refine e_getR (k := 14) hx hb hts in_X13 hown hp h22 rfl (by decide) (by decide) rfl (hts _ kf13_33) rfl dX13_mark_22 ?_
    refine lv_iload_n hx hb dX13_mark_25 rfl (hl.at 1 rfl) ?_
    refine lv_bipush (v := iI (97)) hx hb dX13_mark_26 (by decide +kernel) ?_
    refine e_isub hx hb dX13_mark_28 ?_
    obtain ⟨v29, h29, hsh⟩ := Option.bind_eq_some_iff.mp hsh
    refine e_iald hx hb hp h29 dX13_mark_29 ?_
    refine e_istore_n (lv' := [(2, .int (iI (v29))), (0, e_rv B (x0)), (1, .int (iI (x1)))]) hx hb dX13_mark_30 rfl hl (by decide) rfl (fun ls hl => ?_)
    refine lv_iload_n hx hb dX13_mark_31 rfl (hl.at 0 rfl) ?_
    refine lv_iconst (v := iI (-1)) hx hb dX13_mark_32 rfl ?_
    refine e_icmp_ne (tgt := 40) hx hb dX13_mark_33 (by decide) (fun c33 => ?_) (fun c33 => ?_)
    · rw [if_neg c33] at hsh
      refine lv_bipush (v := iI (100)) hx hb dX13_mark_40 (by decide +kernel) ?_
      refine lv_iload_n hx hb dX13_mark_42 rfl (hl.at 0 rfl) ?_
      refine e_imul hx hb dX13_mark_43 ?_
      refine e_aload_n (B := B) (x := x0) hx hb dX13_mark_44 rfl (hl.at 1 rfl) ?_
      obtain ⟨v45, h45, hsh⟩ := Option.bind_eq_some_iff.mp hsh
      refine e_getR (k := 15) hx hb hts in_X13 hown hp h45 rfl (by decide) (by decide) rfl (hts _ kf13_36) rfl dX13_mark_45 ?_
      refine lv_iload_n hx hb dX13_mark_48 rfl (hl.at 2 rfl) ?_
      refine lv_bipush (v := iI (97)) hx hb dX13_mark_49 (by decide +kernel) ?_
      refine e_isub hx hb dX13_mark_51 ?_
      obtain ⟨v52, h52, hsh⟩ := Option.bind_eq_some_iff.mp hsh
      refine e_iald hx hb hp h52 dX13_mark_52 ?_
      refine e_iadd hx hb dX13_mark_53 ?_
      exact w13_mark_b54 E hp hS (hl.sub [] rfl) hsh
    · rw [if_pos c33] at hsh
      refine lv_iconst (v := iI (-1)) hx hb dX13_mark_36 rfl ?_
      refine lv_goto (tgt := 54) hx hb dX13_mark_37 (by decide) ?_
      exact w13_mark_b54 E hp hS (hl.sub [] rfl) hsh
  · rw [if_pos c16] at hsh
    refine lv_iconst (v := iI (0)) hx hb dX13_mark_19 rfl ?_
    cases hsh
    exact e_iret hx hb hrt hlk hp hS dX13_mark_20
set_option maxRecDepth 100000 in
set_option maxHeartbeats 4000000 in
theorem c13_mark (l : Launch) (D : va_G) (cA : Nat → ClassId) (B : Nat) (S S' : HP) (x0 : Int) (x1 : Int) (r : Int) (hsh : s13_mark S x0 x1 = some (r, S')) : Met l yX13_mark (e_wu yX13_mark cX13_mark 3 (some .int)) ({ frames := 2, cells := 0, slots := 0, locals := 42 } : Room) (va_Pc [e_rv B (x0), .int (iI (x1))] (fun U => e_PU D cA B S U)) (e_Qi D cA B r S') 0 0 (e_A B) := by
  refine Met.ofW (cc := cX13_mark) (maxL := 3) (ret := (some .int)) (by decide +kernel) rfl ?_
  intro p e s m args below meth c s₁ Bd hml hv
  obtain ⟨rfl, hp⟩ := hv
  have hp : e_Pic D cA B S s s.heap := hp
  have hx := Bd.exec
  have hb := Bd.bytes
  have hrt := Bd.returns
  have hlk := Bd.notSynchronized
  have hown : s.vm.findClass RX13 = some m.cls := findClass_of_methodNamed Bd.named
  have hts : ∀ w ∈ e_tb, w.before ([e_rv B (x0), .int (iI (x1))] : List Value).toArray s = true := fun w h => atoms_spec (ws := (e_wu yX13_mark cX13_mark 3 (some .int))) Bd.pre w (List.mem_cons_of_mem _ h)
  have E : e_En p s m ([e_rv B (x0), .int (iI (x1))] : List Value).toArray meth c cX13_mark RX13 3 (some .int) := ⟨hx, hb, hml, hown, hts, hlk, hrt⟩
  have hS : va_S (e_A B) s.heap s.heap [] := va_S.rf
  have hl := e_entry (vs := [e_rv B (x0), .int (iI (x1))]) (n := 3) (Nat.le_of_ble_eq_true rfl) (e_cc (e_rv_cat _ _) (e_cc rfl e_cn))
  rw [lg_entry_eq]
  generalize (lg_sl [e_rv B (x0), .int (iI (x1))] ++ List.replicate (3 - (lg_sl [e_rv B (x0), .int (iI (x1))]).length) Slot.unset).toArray = ls at hl ⊢
  generalize ([e_rv B (x0), .int (iI (x1))] : List Value).toArray = args at hts E ⊢
  have hl : e_lo ls 3 [(0, e_rv B (x0)), (1, .int (iI (x1)))] := hl
  have hsh := (gd_some hsh).2
  refine e_aload_n (B := B) (x := x0) hx hb dX13_mark_0 rfl (hl.at 0 rfl) ?_
  refine lv_iload_n hx hb dX13_mark_1 rfl (hl.at 1 rfl) ?_
  obtain ⟨⟨v2, S2⟩, h2, hsh⟩ := Option.bind_eq_some_iff.mp hsh
  have hsh : _ = _ := hsh
  try dsimp only at hsh
  refine e_callS (nL := 3) (mc := 0) (ms := 0) (As := [.int (iI (x1))]) (rest := [e_rv B (x0)]) hx hb hml hown hts hp hS hl.size (c13_isLetter l D cA B S S2 (x1) v2 h2) rfl rfl kd13_isLetter (kl13_618) ks13_isLetter ki13 kh13_isLetter ⟨Nat.le_of_ble_eq_true rfl, Nat.le_of_ble_eq_true rfl⟩ rfl (by simp [e_rv_cat, e_int_cat]) ⟨Nat.le_refl _, Nat.le_refl _⟩ dX13_mark_2 rfl (fun H locs hp hS => ?_)
  refine e_if_eq (tgt := 12) hx hb dX13_mark_5 (by decide) (fun c5 => ?_) (fun c5 => ?_)
  · rw [if_pos c5] at hsh
    refine lv_iconst (v := iI (1)) hx hb dX13_mark_12 rfl ?_
    exact w13_mark_b13 E hp hS (hl.sub [0, 1] rfl) hsh
  · rw [if_neg c5] at hsh
    refine lv_iconst (v := iI (0)) hx hb dX13_mark_8 rfl ?_
    refine lv_goto (tgt := 13) hx hb dX13_mark_9 (by decide) ?_
    exact w13_mark_b13 E hp hS (hl.sub [0, 1] rfl) hsh
theorem ok13_folds {S : HP} {x0 : Int} {r : Int × HP} (h : s13_folds S x0 = some r) : 0 ≤ x0 ∧ x0.toNat < e_n S ∧ e_g S x0.toNat = 13 := (gd_some h).1
set_option maxRecDepth 100000 in
set_option maxHeartbeats 4000000 in
theorem c13_folds (l : Launch) (D : va_G) (cA : Nat → ClassId) (B : Nat) (S S' : HP) (x0 : Int) (r : Int) (hsh : s13_folds S x0 = some (r, S')) : Met l yX13_folds (e_wu yX13_folds cX13_folds 1 (some .int)) ({ frames := 0, cells := 0, slots := 0, locals := 0 } : Room) (va_Pc [e_rv B (x0)] (fun U => e_PU D cA B S U)) (e_Qi D cA B r S') 0 0 (e_A B) := by
  refine Met.ofW (cc := cX13_folds) (maxL := 1) (ret := (some .int)) (by decide +kernel) rfl ?_
  intro p e s m args below meth c s₁ Bd hml hv
  obtain ⟨rfl, hp⟩ := hv
  have hp : e_Pic D cA B S s s.heap := hp
  have hx := Bd.exec
  have hb := Bd.bytes
  have hrt := Bd.returns
  have hlk := Bd.notSynchronized
  have hown : s.vm.findClass RX13 = some m.cls := findClass_of_methodNamed Bd.named
  have hts : ∀ w ∈ e_tb, w.before ([e_rv B (x0)] : List Value).toArray s = true := fun w h => atoms_spec (ws := (e_wu yX13_folds cX13_folds 1 (some .int))) Bd.pre w (List.mem_cons_of_mem _ h)
  have E : e_En p s m ([e_rv B (x0)] : List Value).toArray meth c cX13_folds RX13 1 (some .int) := ⟨hx, hb, hml, hown, hts, hlk, hrt⟩
  have hS : va_S (e_A B) s.heap s.heap [] := va_S.rf
  have hl := e_entry (vs := [e_rv B (x0)]) (n := 1) (Nat.le_of_ble_eq_true rfl) (e_cc (e_rv_cat _ _) e_cn)
  rw [lg_entry_eq]
  generalize (lg_sl [e_rv B (x0)] ++ List.replicate (1 - (lg_sl [e_rv B (x0)]).length) Slot.unset).toArray = ls at hl ⊢
  generalize ([e_rv B (x0)] : List Value).toArray = args at hts E ⊢
  have hl : e_lo ls 1 [(0, e_rv B (x0))] := hl
  have hsh := (gd_some hsh).2
  refine e_aload_n (B := B) (x := x0) hx hb dX13_folds_0 rfl (hl.at 0 rfl) ?_
  refine lv_iconst (v := iI (0)) hx hb dX13_folds_1 rfl ?_
  obtain ⟨S2, h2, hsh⟩ := Option.bind_eq_some_iff.mp hsh
  refine e_putI (k := 125) hx hb hts in_X13 tyX13 tyX13_ok nmX13 hown hp hS h2 rfl (by decide) (by decide) rfl (hts _ kf13_195) rfl rfl (by decide +kernel) dX13_folds_2 (fun H locs hp hS => ?_)
  refine e_aload_n (B := B) (x := x0) hx hb dX13_folds_5 rfl (hl.at 0 rfl) ?_
  obtain ⟨v6, h6, hsh⟩ := Option.bind_eq_some_iff.mp hsh
  refine e_getI (k := 20) hx hb hts in_X13 hown hp h6 rfl (by decide) (by decide) rfl (hts _ kf13_237) rfl dX13_folds_6 ?_
  cases hsh
  exact e_iret hx hb hrt hlk hp hS dX13_folds_9
theorem ok13_foldOf {S : HP} {x0 : Int} {x1 : Int} {r : Int × HP} (h : s13_foldOf S x0 x1 = some r) : 0 ≤ x0 ∧ x0.toNat < e_n S ∧ e_g S x0.toNat = 13 := (gd_some h).1
set_option maxRecDepth 100000 in
set_option maxHeartbeats 4000000 in
theorem w13_foldOf_b49 {p : Program} {l : Launch} {e : Env} {s : State} {m : MethodId} {args : Array Value} {below : List Frame} {meth : Method} {c : Code} {D : va_G} {cA : Nat → ClassId} {B : Nat} {res : Int × HP} (E : e_En p s m args meth c cX13_foldOf RX13 3 (some .int)) {ls : Array Slot} {H : Heap} {locs : List Loc} {S : HP} {y0 : Int} (hp : e_Pic D cA B S s H) (hS : va_S (e_A B) s.heap H locs) (hl : e_lo ls 3 []) (hsh : s13_foldOf_b49 S y0 = some res) : W p l e ({ frames := 2, cells := 0, slots := 0, locals := 43 } : Room) s m args below meth c H locs 0 0 (MQ below (e_Qi D cA B res.1 res.2) args s 0 0 (e_A B)) (F0 m 49 ls [.int (iI (y0))]) := by
  obtain ⟨hx, hb, hml, hown, hts, hlk, hrt⟩ := id E
  unfold s13_foldOf_b49 at hsh
  cases hsh
  exact e_iret hx hb hrt hlk hp hS dX13_foldOf_49
set_option maxRecDepth 100000 in
set_option maxHeartbeats 4000000 in
theorem w13_foldOf_b14 {p : Program} {l : Launch} {e : Env} {s : State} {m : MethodId} {args : Array Value} {below : List Frame} {meth : Method} {c : Code} {D : va_G} {cA : Nat → ClassId} {B : Nat} {res : Int × HP} (E : e_En p s m args meth c cX13_foldOf RX13 3 (some .int)) {ls : Array Slot} {H : Heap} {locs : List Loc} {S : HP} {x0 : Int} {x1 : Int} {y0 : Int} {y1 : Int} (hp : e_Pic D cA B S s H) (hS : va_S (e_A B) s.heap H locs) (hl : e_lo ls 3 [(0, e_rv B (x0)), (1, .int (iI (x1)))]) (hsh : s13_foldOf_b14 S x0 x1 y0 y1 = some res) : W p l e ({ frames := 2, cells := 0, slots := 0, locals := 43 } : Room) s m args below meth c H locs 0 0 (MQ below (e_Qi D cA B res.1 res.2) args s 0 0 (e_A B)) (F0 m 14 ls [.int (iI (y1)), e_rv B (y0)]) := by
  obtain ⟨hx, hb, hml, hown, hts, hlk, hrt⟩ := id E
  unfold s13_foldOf_b14 at hsh
  obtain ⟨⟨v14, S14⟩, h14, hsh⟩ := Option.bind_eq_some_iff.mp hsh
  have hsh : _ = _ := hsh
  try dsimp only at hsh
  have ok14 := ok13_can h14
  refine e_callI (nL := 3) (mc := 0) (ms := 0) (T := TX13) (N := 126) (As := [.int (iI (y1))]) (rest := []) hx hb hml hown hts hp hS hl.size ok14.1 ok14.2.1 ok14.2.2 rfl (by decide) (c13_can l D cA B S S14 (y0) (y1) v14 h14) rfl rfl kd13_can (kl13_1043) ks13_can kv13_can ki13 kh13_can ⟨Nat.le_of_ble_eq_true rfl, Nat.le_of_ble_eq_true rfl⟩ rfl (by simp [e_rv_cat, e_int_cat]) ⟨Nat.le_refl _, Nat.le_refl _⟩ dX13_foldOf_14 rfl (fun H locs hp hS => ?_)
  refine e_if_ne (tgt := 22) hx hb dX13_foldOf_17 (by decide) (fun c17 => ?_) (fun c17 => ?_)
  · rw [if_neg c17] at hsh
    refine e_aload_n (B := B) (x := x0) hx hb dX13_foldOf_22 rfl (hl.at 0 rfl) ?_
    refine lv_iload_n hx hb dX13_foldOf_23 rfl (hl.at 1 rfl) ?_
    obtain ⟨⟨v24, S24⟩, h24, hsh⟩ := Option.bind_eq_some_iff.mp hsh
    have hsh : _ = _ := hsh
    try dsimp only at hsh
    have ok24 := ok13_closedAt h24
    refine e_callI (nL := 3) (mc := 0) (ms := 0) (T := TX13) (N := 126) (As := [.int (iI (x1))]) (rest := []) hx hb hml hown hts hp hS hl.size ok24.1 ok24.2.1 ok24.2.2 rfl (by decide) (c13_closedAt l D cA B S14 S24 (x0) (x1) v24 h24) rfl rfl kd13_closedAt (kl13_287) ks13_closedAt kv13_closedAt ki13 kh13_closedAt ⟨Nat.le_of_ble_eq_true rfl, Nat.le_of_ble_eq_true rfl⟩ rfl (by simp [e_rv_cat, e_int_cat]) ⟨Nat.le_refl _, Nat.le_refl _⟩ dX13_foldOf_24 rfl (fun H locs hp hS => ?_)
    refine e_istore_n (lv' := [(2, .int (iI (v24))), (0, e_rv B (x0)), (1, .int (iI (x1)))]) hx hb dX13_foldOf_27 rfl hl (by decide) rfl (fun ls hl => ?_)
    refine lv_iload_n hx hb dX13_foldOf_28 rfl (hl.at 0 rfl) ?_
    refine lv_iconst (v := iI (-1)) hx hb dX13_foldOf_29 rfl ?_
    refine e_icmp_ne (tgt := 37) hx hb dX13_foldOf_30 (by decide) (fun c30 => ?_) (fun c30 => ?_)
    · rw [if_neg c30] at hsh
      refine lv_bipush (v := iI (100)) hx hb dX13_foldOf_37 (by decide +kernel) ?_
      refine lv_iload_n hx hb dX13_foldOf_39 rfl (hl.at 0 rfl) ?_
      refine lv_bipush (v := iI (40)) hx hb dX13_foldOf_40 (by decide +kernel) ?_
      obtain ⟨v42, h42, hsh⟩ := Option.bind_eq_some_iff.mp hsh
      refine e_idiv hx hb h42 dX13_foldOf_42 ?_
      refine e_imul hx hb dX13_foldOf_43 ?_
      refine lv_iload_n hx hb dX13_foldOf_44 rfl (hl.at 0 rfl) ?_
      refine lv_bipush (v := iI (40)) hx hb dX13_foldOf_45 (by decide +kernel) ?_
      obtain ⟨v47, h47, hsh⟩ := Option.bind_eq_some_iff.mp hsh
      refine e_irem hx hb h47 dX13_foldOf_47 ?_
      refine e_iadd hx hb dX13_foldOf_48 ?_
      exact w13_foldOf_b49 E hp hS (hl.sub [] rfl) hsh
    · rw [if_pos c30] at hsh
      refine lv_iconst (v := iI (-1)) hx hb dX13_foldOf_33 rfl ?_
      refine lv_goto (tgt := 49) hx hb dX13_foldOf_34 (by decide) ?_
      exact w13_foldOf_b49 E hp hS (hl.sub [] rfl) hsh
  · rw [if_pos c17] at hsh
    refine lv_iconst (v := iI (0)) hx hb dX13_foldOf_20 rfl ?_
    cases hsh
    exact e_iret hx hb hrt hlk hp hS dX13_foldOf_21
set_option maxRecDepth 100000 in
set_option maxHeartbeats 4000000 in
theorem c13_foldOf (l : Launch) (D : va_G) (cA : Nat → ClassId) (B : Nat) (S S' : HP) (x0 : Int) (x1 : Int) (r : Int) (hsh : s13_foldOf S x0 x1 = some (r, S')) : Met l yX13_foldOf (e_wu yX13_foldOf cX13_foldOf 3 (some .int)) ({ frames := 2, cells := 0, slots := 0, locals := 43 } : Room) (va_Pc [e_rv B (x0), .int (iI (x1))] (fun U => e_PU D cA B S U)) (e_Qi D cA B r S') 0 0 (e_A B) := by
  refine Met.ofW (cc := cX13_foldOf) (maxL := 3) (ret := (some .int)) (by decide +kernel) rfl ?_
  intro p e s m args below meth c s₁ Bd hml hv
  obtain ⟨rfl, hp⟩ := hv
  have hp : e_Pic D cA B S s s.heap := hp
  have hx := Bd.exec
  have hb := Bd.bytes
  have hrt := Bd.returns
  have hlk := Bd.notSynchronized
  have hown : s.vm.findClass RX13 = some m.cls := findClass_of_methodNamed Bd.named
  have hts : ∀ w ∈ e_tb, w.before ([e_rv B (x0), .int (iI (x1))] : List Value).toArray s = true := fun w h => atoms_spec (ws := (e_wu yX13_foldOf cX13_foldOf 3 (some .int))) Bd.pre w (List.mem_cons_of_mem _ h)
  have E : e_En p s m ([e_rv B (x0), .int (iI (x1))] : List Value).toArray meth c cX13_foldOf RX13 3 (some .int) := ⟨hx, hb, hml, hown, hts, hlk, hrt⟩
  have hS : va_S (e_A B) s.heap s.heap [] := va_S.rf
  have hl := e_entry (vs := [e_rv B (x0), .int (iI (x1))]) (n := 3) (Nat.le_of_ble_eq_true rfl) (e_cc (e_rv_cat _ _) (e_cc rfl e_cn))
  rw [lg_entry_eq]
  generalize (lg_sl [e_rv B (x0), .int (iI (x1))] ++ List.replicate (3 - (lg_sl [e_rv B (x0), .int (iI (x1))]).length) Slot.unset).toArray = ls at hl ⊢
  generalize ([e_rv B (x0), .int (iI (x1))] : List Value).toArray = args at hts E ⊢
  have hl : e_lo ls 3 [(0, e_rv B (x0)), (1, .int (iI (x1)))] := hl
  have hsh := (gd_some hsh).2
  refine e_aload_n (B := B) (x := x0) hx hb dX13_foldOf_0 rfl (hl.at 0 rfl) ?_
  refine e_aload_n (B := B) (x := x0) hx hb dX13_foldOf_1 rfl (hl.at 0 rfl) ?_
  refine lv_iload_n hx hb dX13_foldOf_2 rfl (hl.at 1 rfl) ?_
  obtain ⟨⟨v3, S3⟩, h3, hsh⟩ := Option.bind_eq_some_iff.mp hsh
  have hsh : _ = _ := hsh
  try dsimp only at hsh
  have ok3 := ok13_isLine h3
  refine e_callI (nL := 3) (mc := 0) (ms := 0) (T := TX13) (N := 126) (As := [.int (iI (x1))]) (rest := [e_rv B (x0)]) hx hb hml hown hts hp hS hl.size ok3.1 ok3.2.1 ok3.2.2 rfl (by decide) (c13_isLine l D cA B S S3 (x0) (x1) v3 h3) rfl rfl kd13_isLine (kl13_1070) ks13_isLine kv13_isLine ki13 kh13_isLine ⟨Nat.le_of_ble_eq_true rfl, Nat.le_of_ble_eq_true rfl⟩ rfl (by simp [e_rv_cat, e_int_cat]) ⟨Nat.le_refl _, Nat.le_refl _⟩ dX13_foldOf_3 rfl (fun H locs hp hS => ?_)
  refine e_if_eq (tgt := 13) hx hb dX13_foldOf_6 (by decide) (fun c6 => ?_) (fun c6 => ?_)
  · rw [if_pos c6] at hsh
    refine lv_iconst (v := iI (1)) hx hb dX13_foldOf_13 rfl ?_
    exact w13_foldOf_b14 E hp hS (hl.sub [0, 1] rfl) hsh
  · rw [if_neg c6] at hsh
    refine lv_iconst (v := iI (0)) hx hb dX13_foldOf_9 rfl ?_
    refine lv_goto (tgt := 14) hx hb dX13_foldOf_10 (by decide) ?_
    exact w13_foldOf_b14 E hp hS (hl.sub [0, 1] rfl) hsh
theorem ok13_jumps {S : HP} {x0 : Int} {r : Int × HP} (h : s13_jumps S x0 = some r) : 0 ≤ x0 ∧ x0.toNat < e_n S ∧ e_g S x0.toNat = 13 := (gd_some h).1
set_option maxRecDepth 100000 in
set_option maxHeartbeats 4000000 in
theorem c13_jumps (l : Launch) (D : va_G) (cA : Nat → ClassId) (B : Nat) (S S' : HP) (x0 : Int) (r : Int) (hsh : s13_jumps S x0 = some (r, S')) : Met l yX13_jumps (e_wu yX13_jumps cX13_jumps 1 (some .int)) ({ frames := 0, cells := 0, slots := 0, locals := 0 } : Room) (va_Pc [e_rv B (x0)] (fun U => e_PU D cA B S U)) (e_Qi D cA B r S') 0 0 (e_A B) := by
  refine Met.ofW (cc := cX13_jumps) (maxL := 1) (ret := (some .int)) (by decide +kernel) rfl ?_
  intro p e s m args below meth c s₁ Bd hml hv
  obtain ⟨rfl, hp⟩ := hv
  have hp : e_Pic D cA B S s s.heap := hp
  have hx := Bd.exec
  have hb := Bd.bytes
  have hrt := Bd.returns
  have hlk := Bd.notSynchronized
  have hown : s.vm.findClass RX13 = some m.cls := findClass_of_methodNamed Bd.named
  have hts : ∀ w ∈ e_tb, w.before ([e_rv B (x0)] : List Value).toArray s = true := fun w h => atoms_spec (ws := (e_wu yX13_jumps cX13_jumps 1 (some .int))) Bd.pre w (List.mem_cons_of_mem _ h)
  have E : e_En p s m ([e_rv B (x0)] : List Value).toArray meth c cX13_jumps RX13 1 (some .int) := ⟨hx, hb, hml, hown, hts, hlk, hrt⟩
  have hS : va_S (e_A B) s.heap s.heap [] := va_S.rf
  have hl := e_entry (vs := [e_rv B (x0)]) (n := 1) (Nat.le_of_ble_eq_true rfl) (e_cc (e_rv_cat _ _) e_cn)
  rw [lg_entry_eq]
  generalize (lg_sl [e_rv B (x0)] ++ List.replicate (1 - (lg_sl [e_rv B (x0)]).length) Slot.unset).toArray = ls at hl ⊢
  generalize ([e_rv B (x0)] : List Value).toArray = args at hts E ⊢
  have hl : e_lo ls 1 [(0, e_rv B (x0))] := hl
  have hsh := (gd_some hsh).2
  refine e_aload_n (B := B) (x := x0) hx hb dX13_jumps_0 rfl (hl.at 0 rfl) ?_
  refine lv_iconst (v := iI (0)) hx hb dX13_jumps_1 rfl ?_
  obtain ⟨S2, h2, hsh⟩ := Option.bind_eq_some_iff.mp hsh
  refine e_putI (k := 125) hx hb hts in_X13 tyX13 tyX13_ok nmX13 hown hp hS h2 rfl (by decide) (by decide) rfl (hts _ kf13_195) rfl rfl (by decide +kernel) dX13_jumps_2 (fun H locs hp hS => ?_)
  refine e_aload_n (B := B) (x := x0) hx hb dX13_jumps_5 rfl (hl.at 0 rfl) ?_
  obtain ⟨v6, h6, hsh⟩ := Option.bind_eq_some_iff.mp hsh
  refine e_getI (k := 16) hx hb hts in_X13 hown hp h6 rfl (by decide) (by decide) rfl (hts _ kf13_234) rfl dX13_jumps_6 ?_
  cases hsh
  exact e_iret hx hb hrt hlk hp hS dX13_jumps_9
theorem ok13_state {S : HP} {x0 : Int} {r : Int × HP} (h : s13_state S x0 = some r) : 0 ≤ x0 ∧ x0.toNat < e_n S ∧ e_g S x0.toNat = 13 := (gd_some h).1
set_option maxRecDepth 100000 in
set_option maxHeartbeats 4000000 in
theorem c13_state (l : Launch) (D : va_G) (cA : Nat → ClassId) (B : Nat) (S S' : HP) (x0 : Int) (r : Int) (hsh : s13_state S x0 = some (r, S')) : Met l yX13_state (e_wu yX13_state cX13_state 1 (some .int)) ({ frames := 0, cells := 0, slots := 0, locals := 0 } : Room) (va_Pc [e_rv B (x0)] (fun U => e_PU D cA B S U)) (e_Qi D cA B r S') 0 0 (e_A B) := by
  refine Met.ofW (cc := cX13_state) (maxL := 1) (ret := (some .int)) (by decide +kernel) rfl ?_
  intro p e s m args below meth c s₁ Bd hml hv
  obtain ⟨rfl, hp⟩ := hv
  have hp : e_Pic D cA B S s s.heap := hp
  have hx := Bd.exec
  have hb := Bd.bytes
  have hrt := Bd.returns
  have hlk := Bd.notSynchronized
  have hown : s.vm.findClass RX13 = some m.cls := findClass_of_methodNamed Bd.named
  have hts : ∀ w ∈ e_tb, w.before ([e_rv B (x0)] : List Value).toArray s = true := fun w h => atoms_spec (ws := (e_wu yX13_state cX13_state 1 (some .int))) Bd.pre w (List.mem_cons_of_mem _ h)
  have E : e_En p s m ([e_rv B (x0)] : List Value).toArray meth c cX13_state RX13 1 (some .int) := ⟨hx, hb, hml, hown, hts, hlk, hrt⟩
  have hS : va_S (e_A B) s.heap s.heap [] := va_S.rf
  have hl := e_entry (vs := [e_rv B (x0)]) (n := 1) (Nat.le_of_ble_eq_true rfl) (e_cc (e_rv_cat _ _) e_cn)
  rw [lg_entry_eq]
  generalize (lg_sl [e_rv B (x0)] ++ List.replicate (1 - (lg_sl [e_rv B (x0)]).length) Slot.unset).toArray = ls at hl ⊢
  generalize ([e_rv B (x0)] : List Value).toArray = args at hts E ⊢
  have hl : e_lo ls 1 [(0, e_rv B (x0))] := hl
  have hsh := (gd_some hsh).2
  refine e_aload_n (B := B) (x := x0) hx hb dX13_state_0 rfl (hl.at 0 rfl) ?_
  refine lv_iconst (v := iI (0)) hx hb dX13_state_1 rfl ?_
  obtain ⟨S2, h2, hsh⟩ := Option.bind_eq_some_iff.mp hsh
  refine e_putI (k := 125) hx hb hts in_X13 tyX13 tyX13_ok nmX13 hown hp hS h2 rfl (by decide) (by decide) rfl (hts _ kf13_195) rfl rfl (by decide +kernel) dX13_state_2 (fun H locs hp hS => ?_)
  refine e_aload_n (B := B) (x := x0) hx hb dX13_state_5 rfl (hl.at 0 rfl) ?_
  obtain ⟨v6, h6, hsh⟩ := Option.bind_eq_some_iff.mp hsh
  refine e_getI (k := 27) hx hb hts in_X13 hown hp h6 rfl (by decide) (by decide) rfl (hts _ kf13_572) rfl dX13_state_6 ?_
  cases hsh
  exact e_iret hx hb hrt hlk hp hS dX13_state_9
theorem ok13_states {S : HP} {x0 : Int} {r : Int × HP} (h : s13_states S x0 = some r) : 0 ≤ x0 ∧ x0.toNat < e_n S ∧ e_g S x0.toNat = 13 := (gd_some h).1
set_option maxRecDepth 100000 in
set_option maxHeartbeats 4000000 in
theorem c13_states (l : Launch) (D : va_G) (cA : Nat → ClassId) (B : Nat) (S S' : HP) (x0 : Int) (r : Int) (hsh : s13_states S x0 = some (r, S')) : Met l yX13_states (e_wu yX13_states cX13_states 1 (some .int)) ({ frames := 0, cells := 0, slots := 0, locals := 0 } : Room) (va_Pc [e_rv B (x0)] (fun U => e_PU D cA B S U)) (e_Qi D cA B r S') 0 0 (e_A B) := by
  refine Met.ofW (cc := cX13_states) (maxL := 1) (ret := (some .int)) (by decide +kernel) rfl ?_
  intro p e s m args below meth c s₁ Bd hml hv
  obtain ⟨rfl, hp⟩ := hv
  have hp : e_Pic D cA B S s s.heap := hp
  have hx := Bd.exec
  have hb := Bd.bytes
  have hrt := Bd.returns
  have hlk := Bd.notSynchronized
  have hown : s.vm.findClass RX13 = some m.cls := findClass_of_methodNamed Bd.named
  have hts : ∀ w ∈ e_tb, w.before ([e_rv B (x0)] : List Value).toArray s = true := fun w h => atoms_spec (ws := (e_wu yX13_states cX13_states 1 (some .int))) Bd.pre w (List.mem_cons_of_mem _ h)
  have E : e_En p s m ([e_rv B (x0)] : List Value).toArray meth c cX13_states RX13 1 (some .int) := ⟨hx, hb, hml, hown, hts, hlk, hrt⟩
  have hS : va_S (e_A B) s.heap s.heap [] := va_S.rf
  have hl := e_entry (vs := [e_rv B (x0)]) (n := 1) (Nat.le_of_ble_eq_true rfl) (e_cc (e_rv_cat _ _) e_cn)
  rw [lg_entry_eq]
  generalize (lg_sl [e_rv B (x0)] ++ List.replicate (1 - (lg_sl [e_rv B (x0)]).length) Slot.unset).toArray = ls at hl ⊢
  generalize ([e_rv B (x0)] : List Value).toArray = args at hts E ⊢
  have hl : e_lo ls 1 [(0, e_rv B (x0))] := hl
  have hsh := (gd_some hsh).2
  refine e_aload_n (B := B) (x := x0) hx hb dX13_states_0 rfl (hl.at 0 rfl) ?_
  refine lv_iconst (v := iI (0)) hx hb dX13_states_1 rfl ?_
  obtain ⟨S2, h2, hsh⟩ := Option.bind_eq_some_iff.mp hsh
  refine e_putI (k := 125) hx hb hts in_X13 tyX13 tyX13_ok nmX13 hown hp hS h2 rfl (by decide) (by decide) rfl (hts _ kf13_195) rfl rfl (by decide +kernel) dX13_states_2 (fun H locs hp hS => ?_)
  refine e_aload_n (B := B) (x := x0) hx hb dX13_states_5 rfl (hl.at 0 rfl) ?_
  obtain ⟨v6, h6, hsh⟩ := Option.bind_eq_some_iff.mp hsh
  refine e_getI (k := 26) hx hb hts in_X13 hown hp h6 rfl (by decide) (by decide) rfl (hts _ kf13_60) rfl dX13_states_6 ?_
  cases hsh
  exact e_iret hx hb hrt hlk hp hS dX13_states_9
