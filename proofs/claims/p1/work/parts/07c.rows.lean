theorem ok13_copiesState {S : HP} {x0 : Int} {x1 : Int} {r : HP} (h : s13_copiesState S x0 x1 = some r) : 0 ≤ x0 ∧ x0.toNat < e_n S ∧ e_g S x0.toNat = 13 := (gd_some h).1
set_option maxRecDepth 100000 in
set_option maxHeartbeats 4000000 in
theorem w13_copiesState_l39 {p : Program} {l : Launch} {e : Env} {s : State} {m : MethodId} {args : Array Value} {below : List Frame} {meth : Method} {c : Code} {D : va_G} {cA : Nat → ClassId} {B : Nat} {res : HP} {k12 : HP → Int → Int → Int → Option (HP)} (hk12 : ∀ {ls : Array Slot} {H : Heap} {locs : List Loc} {S : HP} {x0 : Int} {x1 : Int} {x2 : Int} (hp : e_Pic D cA B S s H) (hS : va_S (e_A B) s.heap H locs) (hl : e_lo ls 4 [(0, e_rv B (x0)), (1, .int (iI (x1))), (2, .int (iI (x2)))]) (hsh : k12 S x0 x1 x2 = some res), W p l e ({ frames := 1, cells := 0, slots := 0, locals := 22 } : Room) s m args below meth c H locs 0 0 (MQ below (e_Qv D cA B res) args s 0 0 (e_A B)) (F0 m 12 ls [])) (E : e_En p s m args meth c cX13_copiesState RX13 4 none) : ∀ (f : Nat) {ls : Array Slot} {H : Heap} {locs : List Loc} {S : HP} {x0 : Int} {x1 : Int} {x2 : Int} {x3 : Int} (hp : e_Pic D cA B S s H) (hS : va_S (e_A B) s.heap H locs) (hl : e_lo ls 4 [(0, e_rv B (x0)), (1, .int (iI (x1))), (2, .int (iI (x2))), (3, .int (iI (x3)))]) (hsh : s13_copiesState_l39 k12 f S x0 x1 x2 x3 = some res), W p l e ({ frames := 1, cells := 0, slots := 0, locals := 22 } : Room) s m args below meth c H locs 0 0 (MQ below (e_Qv D cA B res) args s 0 0 (e_A B)) (F0 m 39 ls []) := by
  obtain ⟨hx, hb, hml, hown, hts, hlk, hrt⟩ := id E
  intro f
  induction f with
  | zero => intro ls H locs S x0 x1 x2 x3 hp hS hl hsh; cases hsh
  | succ f ih =>
    intro ls H locs S x0 x1 x2 x3 hp hS hl hsh
    have hk39 : ∀ {ls : Array Slot} {H : Heap} {locs : List Loc} {S : HP} {x0 : Int} {x1 : Int} {x2 : Int} {x3 : Int} (hp : e_Pic D cA B S s H) (hS : va_S (e_A B) s.heap H locs) (hl : e_lo ls 4 [(0, e_rv B (x0)), (1, .int (iI (x1))), (2, .int (iI (x2))), (3, .int (iI (x3)))]) (hsh : (s13_copiesState_l39 k12 f) S x0 x1 x2 x3 = some res), W p l e ({ frames := 1, cells := 0, slots := 0, locals := 22 } : Room) s m args below meth c H locs 0 0 (MQ below (e_Qv D cA B res) args s 0 0 (e_A B)) (F0 m 39 ls []) := ih
    generalize hkk : s13_copiesState_l39 k12 f = k39 at hk39
    rw [s13_copiesState_l39] at hsh
    rw [hkk] at hsh
    try dsimp only at hsh
    refine lv_iload_n hx hb dX13_copiesState_39 rfl (hl.at 3 rfl) ?_
    refine e_aload_n (B := B) (x := x0) hx hb dX13_copiesState_40 rfl (hl.at 0 rfl) ?_
    obtain ⟨v41, h41, hsh⟩ := Option.bind_eq_some_iff.mp hsh
    refine e_getR (k := 3) hx hb hts in_X13 hown hp h41 rfl (by decide) (by decide) rfl (hts _ kf13_17) rfl dX13_copiesState_41 ?_
    refine lv_iload_n hx hb dX13_copiesState_44 rfl (hl.at 2 rfl) ?_
    obtain ⟨v45, h45, hsh⟩ := Option.bind_eq_some_iff.mp hsh
    refine e_iald hx hb hp h45 dX13_copiesState_45 ?_
    refine e_icmp_ge (tgt := 77) hx hb dX13_copiesState_46 (by decide) (fun c46 => ?_) (fun c46 => ?_)
    · rw [if_pos c46] at hsh
      refine e_iinc (n := 1) (x := x2) (lv' := [(2, .int (iI ((x2 + 1)))), (0, e_rv B (x0)), (1, .int (iI (x1))), (3, .int (iI (x3)))]) hx hb dX13_copiesState_77 hl (k := 2) rfl (by decide) rfl (fun ls hl => ?_)
      refine lv_goto (tgt := 12) hx hb dX13_copiesState_80 (by decide) ?_
      exact hk12 hp hS (hl.sub [1, 2, 0] rfl) hsh
    · rw [if_neg c46] at hsh
      refine e_aload_n (B := B) (x := x0) hx hb dX13_copiesState_49 rfl (hl.at 0 rfl) ?_
      obtain ⟨v50, h50, hsh⟩ := Option.bind_eq_some_iff.mp hsh
      refine e_getR (k := 30) hx hb hts in_X13 hown hp h50 rfl (by decide) (by decide) rfl (hts _ kf13_70) rfl dX13_copiesState_50 ?_
      refine lv_bipush (v := iI (60)) hx hb dX13_copiesState_53 (by decide +kernel) ?_
      refine lv_bipush (v := iI (40)) hx hb dX13_copiesState_55 (by decide +kernel) ?_
      refine lv_iload_n hx hb dX13_copiesState_57 rfl (hl.at 1 rfl) ?_
      refine e_imul hx hb dX13_copiesState_58 ?_
      refine lv_iload_n hx hb dX13_copiesState_59 rfl (hl.at 2 rfl) ?_
      refine e_iadd hx hb dX13_copiesState_60 ?_
      refine e_imul hx hb dX13_copiesState_61 ?_
      refine lv_iload_n hx hb dX13_copiesState_62 rfl (hl.at 3 rfl) ?_
      refine e_iadd hx hb dX13_copiesState_63 ?_
      refine e_aload_n (B := B) (x := x0) hx hb dX13_copiesState_64 rfl (hl.at 0 rfl) ?_
      refine lv_iload_n hx hb dX13_copiesState_65 rfl (hl.at 2 rfl) ?_
      refine lv_iload_n hx hb dX13_copiesState_66 rfl (hl.at 3 rfl) ?_
      obtain ⟨⟨v67, S67⟩, h67, hsh⟩ := Option.bind_eq_some_iff.mp hsh
      have hsh : _ = _ := hsh
      try dsimp only at hsh
      have ok67 := ok13_at h67
      refine e_callI (nL := 4) (mc := 0) (ms := 0) (T := TX13) (N := 126) (As := [.int (iI (x2)), .int (iI (x3))]) (rest := [.int (iI (((60 * ((40 * x1) + x2)) + x3))), e_rv B (v50)]) hx hb hml hown hts hp hS hl.size ok67.1 ok67.2.1 ok67.2.2 rfl (by decide) (c13_at l D cA B S S67 (x0) (x2) (x3) v67 h67) rfl rfl kd13_at (kl13_206) ks13_at kv13_at ki13 kh13_at ⟨Nat.le_of_ble_eq_true rfl, Nat.le_of_ble_eq_true rfl⟩ rfl (by simp [e_rv_cat, e_int_cat]) ⟨Nat.le_refl _, Nat.le_refl _⟩ dX13_copiesState_67 rfl (fun H locs hp hS => ?_)
      obtain ⟨S70, h70, hsh⟩ := Option.bind_eq_some_iff.mp hsh
      refine e_iast hx hb hp hS h70 dX13_copiesState_70 (fun H locs hp hS => ?_)
      refine e_iinc (n := 1) (x := x3) (lv' := [(3, .int (iI ((x3 + 1)))), (0, e_rv B (x0)), (1, .int (iI (x1))), (2, .int (iI (x2)))]) hx hb dX13_copiesState_71 hl (k := 3) rfl (by decide) rfl (fun ls hl => ?_)
      refine lv_goto (tgt := 39) hx hb dX13_copiesState_74 (by decide) ?_
      exact hk39 hp hS (hl.sub [1, 2, 3, 0] rfl) hsh
set_option maxRecDepth 100000 in
set_option maxHeartbeats 4000000 in
theorem w13_copiesState_l12 {p : Program} {l : Launch} {e : Env} {s : State} {m : MethodId} {args : Array Value} {below : List Frame} {meth : Method} {c : Code} {D : va_G} {cA : Nat → ClassId} {B : Nat} {res : HP} (E : e_En p s m args meth c cX13_copiesState RX13 4 none) : ∀ (f : Nat) {ls : Array Slot} {H : Heap} {locs : List Loc} {S : HP} {x0 : Int} {x1 : Int} {x2 : Int} (hp : e_Pic D cA B S s H) (hS : va_S (e_A B) s.heap H locs) (hl : e_lo ls 4 [(0, e_rv B (x0)), (1, .int (iI (x1))), (2, .int (iI (x2)))]) (hsh : s13_copiesState_l12 f S x0 x1 x2 = some res), W p l e ({ frames := 1, cells := 0, slots := 0, locals := 22 } : Room) s m args below meth c H locs 0 0 (MQ below (e_Qv D cA B res) args s 0 0 (e_A B)) (F0 m 12 ls []) := by
  obtain ⟨hx, hb, hml, hown, hts, hlk, hrt⟩ := id E
  intro f
  induction f with
  | zero => intro ls H locs S x0 x1 x2 hp hS hl hsh; cases hsh
  | succ f ih =>
    intro ls H locs S x0 x1 x2 hp hS hl hsh
    have hk12 : ∀ {ls : Array Slot} {H : Heap} {locs : List Loc} {S : HP} {x0 : Int} {x1 : Int} {x2 : Int} (hp : e_Pic D cA B S s H) (hS : va_S (e_A B) s.heap H locs) (hl : e_lo ls 4 [(0, e_rv B (x0)), (1, .int (iI (x1))), (2, .int (iI (x2)))]) (hsh : (s13_copiesState_l12 f) S x0 x1 x2 = some res), W p l e ({ frames := 1, cells := 0, slots := 0, locals := 22 } : Room) s m args below meth c H locs 0 0 (MQ below (e_Qv D cA B res) args s 0 0 (e_A B)) (F0 m 12 ls []) := ih
    generalize hkk : s13_copiesState_l12 f = k12 at hk12
    rw [s13_copiesState_l12] at hsh
    rw [hkk] at hsh
    try dsimp only at hsh
    refine lv_iload_n hx hb dX13_copiesState_12 rfl (hl.at 2 rfl) ?_
    refine e_aload_n (B := B) (x := x0) hx hb dX13_copiesState_13 rfl (hl.at 0 rfl) ?_
    obtain ⟨v14, h14, hsh⟩ := Option.bind_eq_some_iff.mp hsh
    refine e_getI (k := 2) hx hb hts in_X13 hown hp h14 rfl (by decide) (by decide) rfl (hts _ kf13_13) rfl dX13_copiesState_14 ?_
    refine e_icmp_ge (tgt := 83) hx hb dX13_copiesState_17 (by decide) (fun c17 => ?_) (fun c17 => ?_)
    · rw [if_pos c17] at hsh
      cases hsh
      exact e_vret hx hb hrt hlk hp hS dX13_copiesState_83
    · rw [if_neg c17] at hsh
      refine e_aload_n (B := B) (x := x0) hx hb dX13_copiesState_20 rfl (hl.at 0 rfl) ?_
      obtain ⟨v21, h21, hsh⟩ := Option.bind_eq_some_iff.mp hsh
      refine e_getR (k := 29) hx hb hts in_X13 hown hp h21 rfl (by decide) (by decide) rfl (hts _ kf13_66) rfl dX13_copiesState_21 ?_
      refine lv_bipush (v := iI (40)) hx hb dX13_copiesState_24 (by decide +kernel) ?_
      refine lv_iload_n hx hb dX13_copiesState_26 rfl (hl.at 1 rfl) ?_
      refine e_imul hx hb dX13_copiesState_27 ?_
      refine lv_iload_n hx hb dX13_copiesState_28 rfl (hl.at 2 rfl) ?_
      refine e_iadd hx hb dX13_copiesState_29 ?_
      refine e_aload_n (B := B) (x := x0) hx hb dX13_copiesState_30 rfl (hl.at 0 rfl) ?_
      obtain ⟨v31, h31, hsh⟩ := Option.bind_eq_some_iff.mp hsh
      refine e_getR (k := 3) hx hb hts in_X13 hown hp h31 rfl (by decide) (by decide) rfl (hts _ kf13_17) rfl dX13_copiesState_31 ?_
      refine lv_iload_n hx hb dX13_copiesState_34 rfl (hl.at 2 rfl) ?_
      obtain ⟨v35, h35, hsh⟩ := Option.bind_eq_some_iff.mp hsh
      refine e_iald hx hb hp h35 dX13_copiesState_35 ?_
      obtain ⟨S36, h36, hsh⟩ := Option.bind_eq_some_iff.mp hsh
      refine e_iast hx hb hp hS h36 dX13_copiesState_36 (fun H locs hp hS => ?_)
      refine lv_iconst (v := iI (0)) hx hb dX13_copiesState_37 rfl ?_
      refine e_istore_n (lv' := [(3, .int (iI (0))), (0, e_rv B (x0)), (1, .int (iI (x1))), (2, .int (iI (x2)))]) hx hb dX13_copiesState_38 rfl hl (by decide) rfl (fun ls hl => ?_)
      exact w13_copiesState_l39 (hk12 := hk12) E 1000000 hp hS (hl.sub [1, 2, 3, 0] rfl) hsh
set_option maxRecDepth 100000 in
set_option maxHeartbeats 4000000 in
theorem c13_copiesState (l : Launch) (D : va_G) (cA : Nat → ClassId) (B : Nat) (S S' : HP) (x0 : Int) (x1 : Int) (hsh : s13_copiesState S x0 x1 = some S') : Met l yX13_copiesState (e_wu yX13_copiesState cX13_copiesState 4 none) ({ frames := 1, cells := 0, slots := 0, locals := 22 } : Room) (va_Pc [e_rv B (x0), .int (iI (x1))] (fun U => e_PU D cA B S U)) (e_Qv D cA B S') 0 0 (e_A B) := by
  refine Met.ofW (cc := cX13_copiesState) (maxL := 4) (ret := none) (by decide +kernel) rfl ?_
  intro p e s m args below meth c s₁ Bd hml hv
  obtain ⟨rfl, hp⟩ := hv
  have hp : e_Pic D cA B S s s.heap := hp
  have hx := Bd.exec
  have hb := Bd.bytes
  have hrt := Bd.returns
  have hlk := Bd.notSynchronized
  have hown : s.vm.findClass RX13 = some m.cls := findClass_of_methodNamed Bd.named
  have hts : ∀ w ∈ e_tb, w.before ([e_rv B (x0), .int (iI (x1))] : List Value).toArray s = true := fun w h => atoms_spec (ws := (e_wu yX13_copiesState cX13_copiesState 4 none)) Bd.pre w (List.mem_cons_of_mem _ h)
  have E : e_En p s m ([e_rv B (x0), .int (iI (x1))] : List Value).toArray meth c cX13_copiesState RX13 4 none := ⟨hx, hb, hml, hown, hts, hlk, hrt⟩
  have hS : va_S (e_A B) s.heap s.heap [] := va_S.rf
  have hl := e_entry (vs := [e_rv B (x0), .int (iI (x1))]) (n := 4) (Nat.le_of_ble_eq_true rfl) (e_cc (e_rv_cat _ _) (e_cc rfl e_cn))
  rw [lg_entry_eq]
  generalize (lg_sl [e_rv B (x0), .int (iI (x1))] ++ List.replicate (4 - (lg_sl [e_rv B (x0), .int (iI (x1))]).length) Slot.unset).toArray = ls at hl ⊢
  generalize ([e_rv B (x0), .int (iI (x1))] : List Value).toArray = args at hts E ⊢
  have hl : e_lo ls 4 [(0, e_rv B (x0)), (1, .int (iI (x1)))] := hl
  have hsh := (gd_some hsh).2
  refine e_aload_n (B := B) (x := x0) hx hb dX13_copiesState_0 rfl (hl.at 0 rfl) ?_
  obtain ⟨v1, h1, hsh⟩ := Option.bind_eq_some_iff.mp hsh
  refine e_getR (k := 28) hx hb hts in_X13 hown hp h1 rfl (by decide) (by decide) rfl (hts _ kf13_63) rfl dX13_copiesState_1 ?_
  refine lv_iload_n hx hb dX13_copiesState_4 rfl (hl.at 1 rfl) ?_
  refine e_aload_n (B := B) (x := x0) hx hb dX13_copiesState_5 rfl (hl.at 0 rfl) ?_
  obtain ⟨v6, h6, hsh⟩ := Option.bind_eq_some_iff.mp hsh
  refine e_getI (k := 2) hx hb hts in_X13 hown hp h6 rfl (by decide) (by decide) rfl (hts _ kf13_13) rfl dX13_copiesState_6 ?_
  obtain ⟨S9, h9, hsh⟩ := Option.bind_eq_some_iff.mp hsh
  refine e_iast hx hb hp hS h9 dX13_copiesState_9 (fun H locs hp hS => ?_)
  refine lv_iconst (v := iI (0)) hx hb dX13_copiesState_10 rfl ?_
  refine e_istore_n (lv' := [(2, .int (iI (0))), (0, e_rv B (x0)), (1, .int (iI (x1)))]) hx hb dX13_copiesState_11 rfl hl (by decide) rfl (fun ls hl => ?_)
  exact w13_copiesState_l12 E 1000000 hp hS (hl.sub [1, 2, 0] rfl) hsh
theorem ok13_latestFrom {S : HP} {x0 : Int} {x1 : Int} {r : Int × HP} (h : s13_latestFrom S x0 x1 = some r) : 0 ≤ x0 ∧ x0.toNat < e_n S ∧ e_g S x0.toNat = 13 := (gd_some h).1
set_option maxRecDepth 100000 in
set_option maxHeartbeats 4000000 in
theorem w13_latestFrom_b27 {p : Program} {l : Launch} {e : Env} {s : State} {m : MethodId} {args : Array Value} {below : List Frame} {meth : Method} {c : Code} {D : va_G} {cA : Nat → ClassId} {B : Nat} {res : Int × HP} {k4 : HP → Int → Int → Int → Int → Option (Int × HP)} (hk4 : ∀ {ls : Array Slot} {H : Heap} {locs : List Loc} {S : HP} {x0 : Int} {x1 : Int} {x2 : Int} {x3 : Int} (hp : e_Pic D cA B S s H) (hS : va_S (e_A B) s.heap H locs) (hl : e_lo ls 4 [(0, e_rv B (x0)), (1, .int (iI (x1))), (2, .int (iI (x2))), (3, .int (iI (x3)))]) (hsh : k4 S x0 x1 x2 x3 = some res), W p l e ({ frames := 0, cells := 0, slots := 0, locals := 0 } : Room) s m args below meth c H locs 0 0 (MQ below (e_Qi D cA B res.1 res.2) args s 0 0 (e_A B)) (F0 m 4 ls [])) (E : e_En p s m args meth c cX13_latestFrom RX13 4 (some .int)) {ls : Array Slot} {H : Heap} {locs : List Loc} {S : HP} {x0 : Int} {x1 : Int} {x3 : Int} {y0 : Int} (hp : e_Pic D cA B S s H) (hS : va_S (e_A B) s.heap H locs) (hl : e_lo ls 4 [(0, e_rv B (x0)), (1, .int (iI (x1))), (3, .int (iI (x3)))]) (hsh : s13_latestFrom_b27 k4 S x0 x1 x3 y0 = some res) : W p l e ({ frames := 0, cells := 0, slots := 0, locals := 0 } : Room) s m args below meth c H locs 0 0 (MQ below (e_Qi D cA B res.1 res.2) args s 0 0 (e_A B)) (F0 m 27 ls [.int (iI (y0))]) := by
  obtain ⟨hx, hb, hml, hown, hts, hlk, hrt⟩ := id E
  unfold s13_latestFrom_b27 at hsh
  refine e_istore_n (lv' := [(2, .int (iI (y0))), (0, e_rv B (x0)), (1, .int (iI (x1))), (3, .int (iI (x3)))]) hx hb dX13_latestFrom_27 rfl hl (by decide) rfl (fun ls hl => ?_)
  refine e_iinc (n := 1) (x := x3) (lv' := [(3, .int (iI ((x3 + 1)))), (2, .int (iI (y0))), (0, e_rv B (x0)), (1, .int (iI (x1)))]) hx hb dX13_latestFrom_28 hl (k := 3) rfl (by decide) rfl (fun ls hl => ?_)
  refine lv_goto (tgt := 4) hx hb dX13_latestFrom_31 (by decide) ?_
  exact hk4 hp hS (hl.sub [2, 3, 1, 0] rfl) hsh
set_option maxRecDepth 100000 in
set_option maxHeartbeats 4000000 in
theorem w13_latestFrom_l4 {p : Program} {l : Launch} {e : Env} {s : State} {m : MethodId} {args : Array Value} {below : List Frame} {meth : Method} {c : Code} {D : va_G} {cA : Nat → ClassId} {B : Nat} {res : Int × HP} (E : e_En p s m args meth c cX13_latestFrom RX13 4 (some .int)) : ∀ (f : Nat) {ls : Array Slot} {H : Heap} {locs : List Loc} {S : HP} {x0 : Int} {x1 : Int} {x2 : Int} {x3 : Int} (hp : e_Pic D cA B S s H) (hS : va_S (e_A B) s.heap H locs) (hl : e_lo ls 4 [(0, e_rv B (x0)), (1, .int (iI (x1))), (2, .int (iI (x2))), (3, .int (iI (x3)))]) (hsh : s13_latestFrom_l4 f S x0 x1 x2 x3 = some res), W p l e ({ frames := 0, cells := 0, slots := 0, locals := 0 } : Room) s m args below meth c H locs 0 0 (MQ below (e_Qi D cA B res.1 res.2) args s 0 0 (e_A B)) (F0 m 4 ls []) := by
  obtain ⟨hx, hb, hml, hown, hts, hlk, hrt⟩ := id E
  intro f
  induction f with
  | zero => intro ls H locs S x0 x1 x2 x3 hp hS hl hsh; cases hsh
  | succ f ih =>
    intro ls H locs S x0 x1 x2 x3 hp hS hl hsh
    have hk4 : ∀ {ls : Array Slot} {H : Heap} {locs : List Loc} {S : HP} {x0 : Int} {x1 : Int} {x2 : Int} {x3 : Int} (hp : e_Pic D cA B S s H) (hS : va_S (e_A B) s.heap H locs) (hl : e_lo ls 4 [(0, e_rv B (x0)), (1, .int (iI (x1))), (2, .int (iI (x2))), (3, .int (iI (x3)))]) (hsh : (s13_latestFrom_l4 f) S x0 x1 x2 x3 = some res), W p l e ({ frames := 0, cells := 0, slots := 0, locals := 0 } : Room) s m args below meth c H locs 0 0 (MQ below (e_Qi D cA B res.1 res.2) args s 0 0 (e_A B)) (F0 m 4 ls []) := ih
    generalize hkk : s13_latestFrom_l4 f = k4 at hk4
    rw [s13_latestFrom_l4] at hsh
    rw [hkk] at hsh
    try dsimp only at hsh
    refine lv_iload_n hx hb dX13_latestFrom_4 rfl (hl.at 3 rfl) ?_
    refine e_aload_n (B := B) (x := x0) hx hb dX13_latestFrom_5 rfl (hl.at 0 rfl) ?_
    obtain ⟨v6, h6, hsh⟩ := Option.bind_eq_some_iff.mp hsh
    refine e_getI (k := 26) hx hb hts in_X13 hown hp h6 rfl (by decide) (by decide) rfl (hts _ kf13_60) rfl dX13_latestFrom_6 ?_
    refine e_icmp_ge (tgt := 34) hx hb dX13_latestFrom_9 (by decide) (fun c9 => ?_) (fun c9 => ?_)
    · rw [if_pos c9] at hsh
      refine lv_iload_n hx hb dX13_latestFrom_34 rfl (hl.at 2 rfl) ?_
      cases hsh
      exact e_iret hx hb hrt hlk hp hS dX13_latestFrom_35
    · rw [if_neg c9] at hsh
      refine e_aload_n (B := B) (x := x0) hx hb dX13_latestFrom_12 rfl (hl.at 0 rfl) ?_
      obtain ⟨v13, h13, hsh⟩ := Option.bind_eq_some_iff.mp hsh
      refine e_getR (k := 31) hx hb hts in_X13 hown hp h13 rfl (by decide) (by decide) rfl (hts _ kf13_73) rfl dX13_latestFrom_13 ?_
      refine lv_iload_n hx hb dX13_latestFrom_16 rfl (hl.at 3 rfl) ?_
      obtain ⟨v17, h17, hsh⟩ := Option.bind_eq_some_iff.mp hsh
      refine e_iald hx hb hp h17 dX13_latestFrom_17 ?_
      refine lv_iload_n hx hb dX13_latestFrom_18 rfl (hl.at 1 rfl) ?_
      refine e_icmp_ne (tgt := 26) hx hb dX13_latestFrom_19 (by decide) (fun c19 => ?_) (fun c19 => ?_)
      · rw [if_neg c19] at hsh
        refine lv_iload_n hx hb dX13_latestFrom_26 rfl (hl.at 2 rfl) ?_
        exact w13_latestFrom_b27 (hk4 := hk4) E hp hS (hl.sub [0, 1, 3] rfl) hsh
      · rw [if_pos c19] at hsh
        refine lv_iload_n hx hb dX13_latestFrom_22 rfl (hl.at 3 rfl) ?_
        refine lv_goto (tgt := 27) hx hb dX13_latestFrom_23 (by decide) ?_
        exact w13_latestFrom_b27 (hk4 := hk4) E hp hS (hl.sub [0, 1, 3] rfl) hsh
set_option maxRecDepth 100000 in
set_option maxHeartbeats 4000000 in
theorem c13_latestFrom (l : Launch) (D : va_G) (cA : Nat → ClassId) (B : Nat) (S S' : HP) (x0 : Int) (x1 : Int) (r : Int) (hsh : s13_latestFrom S x0 x1 = some (r, S')) : Met l yX13_latestFrom (e_wu yX13_latestFrom cX13_latestFrom 4 (some .int)) ({ frames := 0, cells := 0, slots := 0, locals := 0 } : Room) (va_Pc [e_rv B (x0), .int (iI (x1))] (fun U => e_PU D cA B S U)) (e_Qi D cA B r S') 0 0 (e_A B) := by
  refine Met.ofW (cc := cX13_latestFrom) (maxL := 4) (ret := (some .int)) (by decide +kernel) rfl ?_
  intro p e s m args below meth c s₁ Bd hml hv
  obtain ⟨rfl, hp⟩ := hv
  have hp : e_Pic D cA B S s s.heap := hp
  have hx := Bd.exec
  have hb := Bd.bytes
  have hrt := Bd.returns
  have hlk := Bd.notSynchronized
  have hown : s.vm.findClass RX13 = some m.cls := findClass_of_methodNamed Bd.named
  have hts : ∀ w ∈ e_tb, w.before ([e_rv B (x0), .int (iI (x1))] : List Value).toArray s = true := fun w h => atoms_spec (ws := (e_wu yX13_latestFrom cX13_latestFrom 4 (some .int))) Bd.pre w (List.mem_cons_of_mem _ h)
  have E : e_En p s m ([e_rv B (x0), .int (iI (x1))] : List Value).toArray meth c cX13_latestFrom RX13 4 (some .int) := ⟨hx, hb, hml, hown, hts, hlk, hrt⟩
  have hS : va_S (e_A B) s.heap s.heap [] := va_S.rf
  have hl := e_entry (vs := [e_rv B (x0), .int (iI (x1))]) (n := 4) (Nat.le_of_ble_eq_true rfl) (e_cc (e_rv_cat _ _) (e_cc rfl e_cn))
  rw [lg_entry_eq]
  generalize (lg_sl [e_rv B (x0), .int (iI (x1))] ++ List.replicate (4 - (lg_sl [e_rv B (x0), .int (iI (x1))]).length) Slot.unset).toArray = ls at hl ⊢
  generalize ([e_rv B (x0), .int (iI (x1))] : List Value).toArray = args at hts E ⊢
  have hl : e_lo ls 4 [(0, e_rv B (x0)), (1, .int (iI (x1)))] := hl
  have hsh := (gd_some hsh).2
  refine lv_iconst (v := iI (-1)) hx hb dX13_latestFrom_0 rfl ?_
  refine e_istore_n (lv' := [(2, .int (iI ((-1)))), (0, e_rv B (x0)), (1, .int (iI (x1)))]) hx hb dX13_latestFrom_1 rfl hl (by decide) rfl (fun ls hl => ?_)
  refine lv_iconst (v := iI (0)) hx hb dX13_latestFrom_2 rfl ?_
  refine e_istore_n (lv' := [(3, .int (iI (0))), (2, .int (iI ((-1)))), (0, e_rv B (x0)), (1, .int (iI (x1)))]) hx hb dX13_latestFrom_3 rfl hl (by decide) rfl (fun ls hl => ?_)
  exact w13_latestFrom_l4 E 1000000 hp hS (hl.sub [2, 3, 1, 0] rfl) hsh
theorem ok13_keepsJump {S : HP} {x0 : Int} {x1 : Int} {x2 : Int} {r : HP} (h : s13_keepsJump S x0 x1 x2 = some r) : 0 ≤ x0 ∧ x0.toNat < e_n S ∧ e_g S x0.toNat = 13 := (gd_some h).1
set_option maxRecDepth 100000 in
set_option maxHeartbeats 4000000 in
theorem w13_keepsJump_b46 {p : Program} {l : Launch} {e : Env} {s : State} {m : MethodId} {args : Array Value} {below : List Frame} {meth : Method} {c : Code} {D : va_G} {cA : Nat → ClassId} {B : Nat} {res : HP} (E : e_En p s m args meth c cX13_keepsJump RX13 4 none) {ls : Array Slot} {H : Heap} {locs : List Loc} {S : HP} {x0 : Int} {x1 : Int} {x2 : Int} (hp : e_Pic D cA B S s H) (hS : va_S (e_A B) s.heap H locs) (hl : e_lo ls 4 [(0, e_rv B (x0)), (1, .int (iI (x1))), (2, .int (iI (x2)))]) (hsh : s13_keepsJump_b46 S x0 x1 x2 = some res) : W p l e ({ frames := 1, cells := 0, slots := 0, locals := 22 } : Room) s m args below meth c H locs 0 0 (MQ below (e_Qv D cA B res) args s 0 0 (e_A B)) (F0 m 46 ls []) := by
  obtain ⟨hx, hb, hml, hown, hts, hlk, hrt⟩ := id E
  unfold s13_keepsJump_b46 at hsh
  refine e_aload_n (B := B) (x := x0) hx hb dX13_keepsJump_46 rfl (hl.at 0 rfl) ?_
  obtain ⟨v47, h47, hsh⟩ := Option.bind_eq_some_iff.mp hsh
  refine e_getR (k := 17) hx hb hts in_X13 hown hp h47 rfl (by decide) (by decide) rfl (hts _ kf13_39) rfl dX13_keepsJump_47 ?_
  refine e_aload_n (B := B) (x := x0) hx hb dX13_keepsJump_50 rfl (hl.at 0 rfl) ?_
  obtain ⟨v51, h51, hsh⟩ := Option.bind_eq_some_iff.mp hsh
  refine e_getI (k := 16) hx hb hts in_X13 hown hp h51 rfl (by decide) (by decide) rfl (hts _ kf13_234) rfl dX13_keepsJump_51 ?_
  refine lv_iload_n hx hb dX13_keepsJump_54 rfl (hl.at 1 rfl) ?_
  obtain ⟨S55, h55, hsh⟩ := Option.bind_eq_some_iff.mp hsh
  refine e_iast hx hb hp hS h55 dX13_keepsJump_55 (fun H locs hp hS => ?_)
  refine e_aload_n (B := B) (x := x0) hx hb dX13_keepsJump_56 rfl (hl.at 0 rfl) ?_
  obtain ⟨v57, h57, hsh⟩ := Option.bind_eq_some_iff.mp hsh
  refine e_getR (k := 18) hx hb hts in_X13 hown hp h57 rfl (by decide) (by decide) rfl (hts _ kf13_42) rfl dX13_keepsJump_57 ?_
  refine e_aload_n (B := B) (x := x0) hx hb dX13_keepsJump_60 rfl (hl.at 0 rfl) ?_
  obtain ⟨v61, h61, hsh⟩ := Option.bind_eq_some_iff.mp hsh
  refine e_getI (k := 16) hx hb hts in_X13 hown hp h61 rfl (by decide) (by decide) rfl (hts _ kf13_234) rfl dX13_keepsJump_61 ?_
  refine lv_iload_n hx hb dX13_keepsJump_64 rfl (hl.at 2 rfl) ?_
  obtain ⟨S65, h65, hsh⟩ := Option.bind_eq_some_iff.mp hsh
  refine e_iast hx hb hp hS h65 dX13_keepsJump_65 (fun H locs hp hS => ?_)
  refine e_aload_n (B := B) (x := x0) hx hb dX13_keepsJump_66 rfl (hl.at 0 rfl) ?_
  refine lv_dup hx hb dX13_keepsJump_67 (e_rv_cat _ _) ?_
  obtain ⟨v68, h68, hsh⟩ := Option.bind_eq_some_iff.mp hsh
  refine e_getI (k := 16) hx hb hts in_X13 hown hp h68 rfl (by decide) (by decide) rfl (hts _ kf13_234) rfl dX13_keepsJump_68 ?_
  refine lv_iconst (v := iI (1)) hx hb dX13_keepsJump_71 rfl ?_
  refine e_iadd hx hb dX13_keepsJump_72 ?_
  obtain ⟨S73, h73, hsh⟩ := Option.bind_eq_some_iff.mp hsh
  refine e_putI (k := 16) hx hb hts in_X13 tyX13 tyX13_ok nmX13 hown hp hS h73 rfl (by decide) (by decide) rfl (hts _ kf13_234) rfl rfl (by decide +kernel) dX13_keepsJump_73 (fun H locs hp hS => ?_)
  refine e_aload_n (B := B) (x := x0) hx hb dX13_keepsJump_76 rfl (hl.at 0 rfl) ?_
  refine lv_iconst (v := iI (-1)) hx hb dX13_keepsJump_77 rfl ?_
  obtain ⟨S78, h78, hsh⟩ := Option.bind_eq_some_iff.mp hsh
  refine e_putI (k := 19) hx hb hts in_X13 tyX13 tyX13_ok nmX13 hown hp hS h78 rfl (by decide) (by decide) rfl (hts _ kf13_45) rfl rfl (by decide +kernel) dX13_keepsJump_78 (fun H locs hp hS => ?_)
  cases hsh
  exact e_vret hx hb hrt hlk hp hS dX13_keepsJump_81
set_option maxRecDepth 100000 in
set_option maxHeartbeats 4000000 in
theorem w13_keepsJump_b26 {p : Program} {l : Launch} {e : Env} {s : State} {m : MethodId} {args : Array Value} {below : List Frame} {meth : Method} {c : Code} {D : va_G} {cA : Nat → ClassId} {B : Nat} {res : HP} {k7 : HP → Int → Int → Int → Int → Option (HP)} (hk7 : ∀ {ls : Array Slot} {H : Heap} {locs : List Loc} {S : HP} {x0 : Int} {x1 : Int} {x2 : Int} {x3 : Int} (hp : e_Pic D cA B S s H) (hS : va_S (e_A B) s.heap H locs) (hl : e_lo ls 4 [(0, e_rv B (x0)), (1, .int (iI (x1))), (2, .int (iI (x2))), (3, .int (iI (x3)))]) (hsh : k7 S x0 x1 x2 x3 = some res), W p l e ({ frames := 1, cells := 0, slots := 0, locals := 22 } : Room) s m args below meth c H locs 0 0 (MQ below (e_Qv D cA B res) args s 0 0 (e_A B)) (F0 m 7 ls [])) (E : e_En p s m args meth c cX13_keepsJump RX13 4 none) {ls : Array Slot} {H : Heap} {locs : List Loc} {S : HP} {x0 : Int} {x1 : Int} {x2 : Int} {x3 : Int} (hp : e_Pic D cA B S s H) (hS : va_S (e_A B) s.heap H locs) (hl : e_lo ls 4 [(0, e_rv B (x0)), (1, .int (iI (x1))), (2, .int (iI (x2))), (3, .int (iI (x3)))]) (hsh : s13_keepsJump_b26 k7 S x0 x1 x2 x3 = some res) : W p l e ({ frames := 1, cells := 0, slots := 0, locals := 22 } : Room) s m args below meth c H locs 0 0 (MQ below (e_Qv D cA B res) args s 0 0 (e_A B)) (F0 m 26 ls []) := by
  obtain ⟨hx, hb, hml, hown, hts, hlk, hrt⟩ := id E
  unfold s13_keepsJump_b26 at hsh
  refine e_iinc (n := (-1)) (x := x3) (lv' := [(3, .int (iI ((x3 + (-1))))), (0, e_rv B (x0)), (1, .int (iI (x1))), (2, .int (iI (x2)))]) hx hb dX13_keepsJump_26 hl (k := 3) rfl (by decide) rfl (fun ls hl => ?_)
  refine lv_goto (tgt := 7) hx hb dX13_keepsJump_29 (by decide) ?_
  exact hk7 hp hS (hl.sub [1, 2, 3, 0] rfl) hsh
set_option maxRecDepth 100000 in
set_option maxHeartbeats 4000000 in
theorem w13_keepsJump_l7 {p : Program} {l : Launch} {e : Env} {s : State} {m : MethodId} {args : Array Value} {below : List Frame} {meth : Method} {c : Code} {D : va_G} {cA : Nat → ClassId} {B : Nat} {res : HP} (E : e_En p s m args meth c cX13_keepsJump RX13 4 none) : ∀ (f : Nat) {ls : Array Slot} {H : Heap} {locs : List Loc} {S : HP} {x0 : Int} {x1 : Int} {x2 : Int} {x3 : Int} (hp : e_Pic D cA B S s H) (hS : va_S (e_A B) s.heap H locs) (hl : e_lo ls 4 [(0, e_rv B (x0)), (1, .int (iI (x1))), (2, .int (iI (x2))), (3, .int (iI (x3)))]) (hsh : s13_keepsJump_l7 f S x0 x1 x2 x3 = some res), W p l e ({ frames := 1, cells := 0, slots := 0, locals := 22 } : Room) s m args below meth c H locs 0 0 (MQ below (e_Qv D cA B res) args s 0 0 (e_A B)) (F0 m 7 ls []) := by
  obtain ⟨hx, hb, hml, hown, hts, hlk, hrt⟩ := id E
  intro f
  induction f with
  | zero => intro ls H locs S x0 x1 x2 x3 hp hS hl hsh; cases hsh
  | succ f ih =>
    intro ls H locs S x0 x1 x2 x3 hp hS hl hsh
    have hk7 : ∀ {ls : Array Slot} {H : Heap} {locs : List Loc} {S : HP} {x0 : Int} {x1 : Int} {x2 : Int} {x3 : Int} (hp : e_Pic D cA B S s H) (hS : va_S (e_A B) s.heap H locs) (hl : e_lo ls 4 [(0, e_rv B (x0)), (1, .int (iI (x1))), (2, .int (iI (x2))), (3, .int (iI (x3)))]) (hsh : (s13_keepsJump_l7 f) S x0 x1 x2 x3 = some res), W p l e ({ frames := 1, cells := 0, slots := 0, locals := 22 } : Room) s m args below meth c H locs 0 0 (MQ below (e_Qv D cA B res) args s 0 0 (e_A B)) (F0 m 7 ls []) := ih
    generalize hkk : s13_keepsJump_l7 f = k7 at hk7
    rw [s13_keepsJump_l7] at hsh
    rw [hkk] at hsh
    try dsimp only at hsh
    refine lv_iload_n hx hb dX13_keepsJump_7 rfl (hl.at 3 rfl) ?_
    refine e_if_lt (tgt := 32) hx hb dX13_keepsJump_8 (by decide) (fun c8 => ?_) (fun c8 => ?_)
    · rw [if_pos c8] at hsh
      refine e_aload_n (B := B) (x := x0) hx hb dX13_keepsJump_32 rfl (hl.at 0 rfl) ?_
      obtain ⟨v33, h33, hsh⟩ := Option.bind_eq_some_iff.mp hsh
      refine e_getI (k := 16) hx hb hts in_X13 hown hp h33 rfl (by decide) (by decide) rfl (hts _ kf13_234) rfl dX13_keepsJump_33 ?_
      refine lv_bipush (v := iI (10)) hx hb dX13_keepsJump_36 (by decide +kernel) ?_
      refine e_icmp_ne (tgt := 46) hx hb dX13_keepsJump_38 (by decide) (fun c38 => ?_) (fun c38 => ?_)
      · rw [if_neg c38] at hsh
        exact w13_keepsJump_b46 E hp hS (hl.sub [0, 1, 2] rfl) hsh
      · rw [if_pos c38] at hsh
        refine e_aload_n (B := B) (x := x0) hx hb dX13_keepsJump_41 rfl (hl.at 0 rfl) ?_
        refine lv_iconst (v := iI (0)) hx hb dX13_keepsJump_42 rfl ?_
        obtain ⟨S43, h43, hsh⟩ := Option.bind_eq_some_iff.mp hsh
        have ok43 := ok13_dropsJump h43
        refine e_callV (nL := 4) (mc := 0) (ms := 0) (T := TX13) (N := 126) (As := [.int (iI (0))]) (rest := []) hx hb hml hown hts hp hS hl.size ok43.1 ok43.2.1 ok43.2.2 rfl (by decide) (c13_dropsJump l D cA B S S43 (x0) (0) h43) rfl rfl kd13_dropsJump (kl13_254) ks13_dropsJump kv13_dropsJump ki13 kh13_dropsJump ⟨Nat.le_of_ble_eq_true rfl, Nat.le_of_ble_eq_true rfl⟩ rfl (by simp [e_rv_cat, e_int_cat]) ⟨Nat.le_refl _, Nat.le_refl _⟩ dX13_keepsJump_43 rfl (fun H locs hp hS => ?_)
        exact w13_keepsJump_b46 E hp hS (hl.sub [0, 1, 2] rfl) hsh
    · rw [if_neg c8] at hsh
      refine e_aload_n (B := B) (x := x0) hx hb dX13_keepsJump_11 rfl (hl.at 0 rfl) ?_
      obtain ⟨v12, h12, hsh⟩ := Option.bind_eq_some_iff.mp hsh
      refine e_getR (k := 17) hx hb hts in_X13 hown hp h12 rfl (by decide) (by decide) rfl (hts _ kf13_39) rfl dX13_keepsJump_12 ?_
      refine lv_iload_n hx hb dX13_keepsJump_15 rfl (hl.at 3 rfl) ?_
      obtain ⟨v16, h16, hsh⟩ := Option.bind_eq_some_iff.mp hsh
      refine e_iald hx hb hp h16 dX13_keepsJump_16 ?_
      refine lv_iload_n hx hb dX13_keepsJump_17 rfl (hl.at 1 rfl) ?_
      refine e_icmp_ne (tgt := 26) hx hb dX13_keepsJump_18 (by decide) (fun c18 => ?_) (fun c18 => ?_)
      · rw [if_neg c18] at hsh
        exact w13_keepsJump_b26 (hk7 := hk7) E hp hS (hl.sub [0, 1, 2, 3] rfl) hsh
      · rw [if_pos c18] at hsh
        refine e_aload_n (B := B) (x := x0) hx hb dX13_keepsJump_21 rfl (hl.at 0 rfl) ?_
        refine lv_iload_n hx hb dX13_keepsJump_22 rfl (hl.at 3 rfl) ?_
        obtain ⟨S23, h23, hsh⟩ := Option.bind_eq_some_iff.mp hsh
        have ok23 := ok13_dropsJump h23
        refine e_callV (nL := 4) (mc := 0) (ms := 0) (T := TX13) (N := 126) (As := [.int (iI (x3))]) (rest := []) hx hb hml hown hts hp hS hl.size ok23.1 ok23.2.1 ok23.2.2 rfl (by decide) (c13_dropsJump l D cA B S S23 (x0) (x3) h23) rfl rfl kd13_dropsJump (kl13_254) ks13_dropsJump kv13_dropsJump ki13 kh13_dropsJump ⟨Nat.le_of_ble_eq_true rfl, Nat.le_of_ble_eq_true rfl⟩ rfl (by simp [e_rv_cat, e_int_cat]) ⟨Nat.le_refl _, Nat.le_refl _⟩ dX13_keepsJump_23 rfl (fun H locs hp hS => ?_)
        exact w13_keepsJump_b26 (hk7 := hk7) E hp hS (hl.sub [0, 1, 2, 3] rfl) hsh
set_option maxRecDepth 100000 in
set_option maxHeartbeats 4000000 in
theorem c13_keepsJump (l : Launch) (D : va_G) (cA : Nat → ClassId) (B : Nat) (S S' : HP) (x0 : Int) (x1 : Int) (x2 : Int) (hsh : s13_keepsJump S x0 x1 x2 = some S') : Met l yX13_keepsJump (e_wu yX13_keepsJump cX13_keepsJump 4 none) ({ frames := 1, cells := 0, slots := 0, locals := 22 } : Room) (va_Pc [e_rv B (x0), .int (iI (x1)), .int (iI (x2))] (fun U => e_PU D cA B S U)) (e_Qv D cA B S') 0 0 (e_A B) := by
  refine Met.ofW (cc := cX13_keepsJump) (maxL := 4) (ret := none) (by decide +kernel) rfl ?_
  intro p e s m args below meth c s₁ Bd hml hv
  obtain ⟨rfl, hp⟩ := hv
  have hp : e_Pic D cA B S s s.heap := hp
  have hx := Bd.exec
  have hb := Bd.bytes
  have hrt := Bd.returns
  have hlk := Bd.notSynchronized
  have hown : s.vm.findClass RX13 = some m.cls := findClass_of_methodNamed Bd.named
  have hts : ∀ w ∈ e_tb, w.before ([e_rv B (x0), .int (iI (x1)), .int (iI (x2))] : List Value).toArray s = true := fun w h => atoms_spec (ws := (e_wu yX13_keepsJump cX13_keepsJump 4 none)) Bd.pre w (List.mem_cons_of_mem _ h)
  have E : e_En p s m ([e_rv B (x0), .int (iI (x1)), .int (iI (x2))] : List Value).toArray meth c cX13_keepsJump RX13 4 none := ⟨hx, hb, hml, hown, hts, hlk, hrt⟩
  have hS : va_S (e_A B) s.heap s.heap [] := va_S.rf
  have hl := e_entry (vs := [e_rv B (x0), .int (iI (x1)), .int (iI (x2))]) (n := 4) (Nat.le_of_ble_eq_true rfl) (e_cc (e_rv_cat _ _) (e_cc rfl (e_cc rfl e_cn)))
  rw [lg_entry_eq]
  generalize (lg_sl [e_rv B (x0), .int (iI (x1)), .int (iI (x2))] ++ List.replicate (4 - (lg_sl [e_rv B (x0), .int (iI (x1)), .int (iI (x2))]).length) Slot.unset).toArray = ls at hl ⊢
  generalize ([e_rv B (x0), .int (iI (x1)), .int (iI (x2))] : List Value).toArray = args at hts E ⊢
  have hl : e_lo ls 4 [(0, e_rv B (x0)), (1, .int (iI (x1))), (2, .int (iI (x2)))] := hl
  have hsh := (gd_some hsh).2
  refine e_aload_n (B := B) (x := x0) hx hb dX13_keepsJump_0 rfl (hl.at 0 rfl) ?_
  obtain ⟨v1, h1, hsh⟩ := Option.bind_eq_some_iff.mp hsh
  refine e_getI (k := 16) hx hb hts in_X13 hown hp h1 rfl (by decide) (by decide) rfl (hts _ kf13_234) rfl dX13_keepsJump_1 ?_
  refine lv_iconst (v := iI (1)) hx hb dX13_keepsJump_4 rfl ?_
  refine e_isub hx hb dX13_keepsJump_5 ?_
  refine e_istore_n (lv' := [(3, .int (iI ((v1 - 1)))), (0, e_rv B (x0)), (1, .int (iI (x1))), (2, .int (iI (x2)))]) hx hb dX13_keepsJump_6 rfl hl (by decide) rfl (fun ls hl => ?_)
  exact w13_keepsJump_l7 E 1000000 hp hS (hl.sub [1, 2, 3, 0] rfl) hsh
theorem ok13_goesJump {S : HP} {x0 : Int} {x1 : Int} {r : Int × HP} (h : s13_goesJump S x0 x1 = some r) : 0 ≤ x0 ∧ x0.toNat < e_n S ∧ e_g S x0.toNat = 13 := (gd_some h).1
set_option maxRecDepth 100000 in
set_option maxHeartbeats 4000000 in
theorem c13_goesJump (l : Launch) (D : va_G) (cA : Nat → ClassId) (B : Nat) (S S' : HP) (x0 : Int) (x1 : Int) (r : Int) (hsh : s13_goesJump S x0 x1 = some (r, S')) : Met l yX13_goesJump (e_wu yX13_goesJump cX13_goesJump 2 (some .boolean)) ({ frames := 2, cells := 0, slots := 0, locals := 44 } : Room) (va_Pc [e_rv B (x0), .int (iI (x1))] (fun U => e_PU D cA B S U)) (e_Qi D cA B r S') 0 0 (e_A B) := by
  refine Met.ofW (cc := cX13_goesJump) (maxL := 2) (ret := (some .boolean)) (by decide +kernel) rfl ?_
  intro p e s m args below meth c s₁ Bd hml hv
  obtain ⟨rfl, hp⟩ := hv
  have hp : e_Pic D cA B S s s.heap := hp
  have hx := Bd.exec
  have hb := Bd.bytes
  have hrt := Bd.returns
  have hlk := Bd.notSynchronized
  have hown : s.vm.findClass RX13 = some m.cls := findClass_of_methodNamed Bd.named
  have hts : ∀ w ∈ e_tb, w.before ([e_rv B (x0), .int (iI (x1))] : List Value).toArray s = true := fun w h => atoms_spec (ws := (e_wu yX13_goesJump cX13_goesJump 2 (some .boolean))) Bd.pre w (List.mem_cons_of_mem _ h)
  have E : e_En p s m ([e_rv B (x0), .int (iI (x1))] : List Value).toArray meth c cX13_goesJump RX13 2 (some .boolean) := ⟨hx, hb, hml, hown, hts, hlk, hrt⟩
  have hS : va_S (e_A B) s.heap s.heap [] := va_S.rf
  have hl := e_entry (vs := [e_rv B (x0), .int (iI (x1))]) (n := 2) (Nat.le_of_ble_eq_true rfl) (e_cc (e_rv_cat _ _) (e_cc rfl e_cn))
  rw [lg_entry_eq]
  generalize (lg_sl [e_rv B (x0), .int (iI (x1))] ++ List.replicate (2 - (lg_sl [e_rv B (x0), .int (iI (x1))]).length) Slot.unset).toArray = ls at hl ⊢
  generalize ([e_rv B (x0), .int (iI (x1))] : List Value).toArray = args at hts E ⊢
  have hl : e_lo ls 2 [(0, e_rv B (x0)), (1, .int (iI (x1)))] := hl
  have hsh := (gd_some hsh).2
  refine lv_iload_n hx hb dX13_goesJump_0 rfl (hl.at 1 rfl) ?_
  refine lv_iconst (v := iI (0)) hx hb dX13_goesJump_1 rfl ?_
  refine e_aload_n (B := B) (x := x0) hx hb dX13_goesJump_2 rfl (hl.at 0 rfl) ?_
  obtain ⟨v3, h3, hsh⟩ := Option.bind_eq_some_iff.mp hsh
  refine e_getI (k := 16) hx hb hts in_X13 hown hp h3 rfl (by decide) (by decide) rfl (hts _ kf13_234) rfl dX13_goesJump_3 ?_
  refine lv_iconst (v := iI (1)) hx hb dX13_goesJump_6 rfl ?_
  refine e_isub hx hb dX13_goesJump_7 ?_
  obtain ⟨⟨v8, S8⟩, h8, hsh⟩ := Option.bind_eq_some_iff.mp hsh
  have hsh : _ = _ := hsh
  try dsimp only at hsh
  refine e_callS (nL := 2) (mc := 0) (ms := 0) (As := [.int (iI (x1)), .int (iI (0)), .int (iI ((v3 - 1)))]) (rest := []) hx hb hml hown hts hp hS hl.size (c13_isIn l D cA B S S8 (x1) (0) ((v3 - 1)) v8 h8) rfl rfl kd13_isIn (kl13_198) ks13_isIn ki13 kh13_isIn ⟨Nat.le_of_ble_eq_true rfl, Nat.le_of_ble_eq_true rfl⟩ rfl (by simp [e_rv_cat, e_int_cat]) ⟨Nat.le_refl _, Nat.le_refl _⟩ dX13_goesJump_8 rfl (fun H locs hp hS => ?_)
  refine e_if_ne (tgt := 16) hx hb dX13_goesJump_11 (by decide) (fun c11 => ?_) (fun c11 => ?_)
  · rw [if_neg c11] at hsh
    refine e_aload_n (B := B) (x := x0) hx hb dX13_goesJump_16 rfl (hl.at 0 rfl) ?_
    refine lv_iload_n hx hb dX13_goesJump_17 rfl (hl.at 1 rfl) ?_
    obtain ⟨S18, h18, hsh⟩ := Option.bind_eq_some_iff.mp hsh
    refine e_putI (k := 19) hx hb hts in_X13 tyX13 tyX13_ok nmX13 hown hp hS h18 rfl (by decide) (by decide) rfl (hts _ kf13_45) rfl rfl (by decide +kernel) dX13_goesJump_18 (fun H locs hp hS => ?_)
    refine e_aload_n (B := B) (x := x0) hx hb dX13_goesJump_21 rfl (hl.at 0 rfl) ?_
    refine e_aload_n (B := B) (x := x0) hx hb dX13_goesJump_22 rfl (hl.at 0 rfl) ?_
    obtain ⟨v23, h23, hsh⟩ := Option.bind_eq_some_iff.mp hsh
    refine e_getR (k := 17) hx hb hts in_X13 hown hp h23 rfl (by decide) (by decide) rfl (hts _ kf13_39) rfl dX13_goesJump_23 ?_
    refine lv_iload_n hx hb dX13_goesJump_26 rfl (hl.at 1 rfl) ?_
    obtain ⟨v27, h27, hsh⟩ := Option.bind_eq_some_iff.mp hsh
    refine e_iald hx hb hp h27 dX13_goesJump_27 ?_
    refine e_aload_n (B := B) (x := x0) hx hb dX13_goesJump_28 rfl (hl.at 0 rfl) ?_
    obtain ⟨v29, h29, hsh⟩ := Option.bind_eq_some_iff.mp hsh
    refine e_getR (k := 18) hx hb hts in_X13 hown hp h29 rfl (by decide) (by decide) rfl (hts _ kf13_42) rfl dX13_goesJump_29 ?_
    refine lv_iload_n hx hb dX13_goesJump_32 rfl (hl.at 1 rfl) ?_
    obtain ⟨v33, h33, hsh⟩ := Option.bind_eq_some_iff.mp hsh
    refine e_iald hx hb hp h33 dX13_goesJump_33 ?_
    obtain ⟨S34, h34, hsh⟩ := Option.bind_eq_some_iff.mp hsh
    have ok34 := ok13_goesNear h34
    refine e_callV (nL := 2) (mc := 0) (ms := 0) (T := TX13) (N := 126) (As := [.int (iI (v27)), .int (iI (v33))]) (rest := []) hx hb hml hown hts hp hS hl.size ok34.1 ok34.2.1 ok34.2.2 rfl (by decide) (c13_goesNear l D cA B S18 S34 (x0) (v27) (v33) h34) rfl rfl kd13_goesNear (kl13_510) ks13_goesNear kv13_goesNear ki13 kh13_goesNear ⟨Nat.le_of_ble_eq_true rfl, Nat.le_of_ble_eq_true rfl⟩ rfl (by simp [e_rv_cat, e_int_cat]) ⟨Nat.le_refl _, Nat.le_refl _⟩ dX13_goesJump_34 rfl (fun H locs hp hS => ?_)
    refine lv_iconst (v := iI (1)) hx hb dX13_goesJump_37 rfl ?_
    obtain ⟨hz, hz1, hz2⟩ := zR_some hsh
    rw [← hz1, ← hz2]
    exact e_zret hx hb hrt hlk hp hS hz dX13_goesJump_38
  · rw [if_pos c11] at hsh
    refine lv_iconst (v := iI (0)) hx hb dX13_goesJump_14 rfl ?_
    obtain ⟨hz, hz1, hz2⟩ := zR_some hsh
    rw [← hz1, ← hz2]
    exact e_zret hx hb hrt hlk hp hS hz dX13_goesJump_15
theorem ok13_innermost {S : HP} {x0 : Int} {x1 : Int} {x2 : Int} {r : Int × HP} (h : s13_innermost S x0 x1 x2 = some r) : 0 ≤ x0 ∧ x0.toNat < e_n S ∧ e_g S x0.toNat = 13 := (gd_some h).1
set_option maxRecDepth 100000 in
set_option maxHeartbeats 4000000 in
theorem w13_innermost_b143 {p : Program} {l : Launch} {e : Env} {s : State} {m : MethodId} {args : Array Value} {below : List Frame} {meth : Method} {c : Code} {D : va_G} {cA : Nat → ClassId} {B : Nat} {res : Int × HP} (E : e_En p s m args meth c cX13_innermost RX13 7 (some .int)) {ls : Array Slot} {H : Heap} {locs : List Loc} {S : HP} {x3 : Int} (hp : e_Pic D cA B S s H) (hS : va_S (e_A B) s.heap H locs) (hl : e_lo ls 7 [(3, .int (iI (x3)))]) (hsh : s13_innermost_b143 S x3 = some res) : W p l e ({ frames := 1, cells := 0, slots := 0, locals := 22 } : Room) s m args below meth c H locs 0 0 (MQ below (e_Qi D cA B res.1 res.2) args s 0 0 (e_A B)) (F0 m 143 ls []) := by
  obtain ⟨hx, hb, hml, hown, hts, hlk, hrt⟩ := id E
  unfold s13_innermost_b143 at hsh
  refine lv_iload_n hx hb dX13_innermost_143 rfl (hl.at 0 rfl) ?_
  cases hsh
  exact e_iret hx hb hrt hlk hp hS dX13_innermost_144
set_option maxRecDepth 100000 in
set_option maxHeartbeats 4000000 in
theorem w13_innermost_b136 {p : Program} {l : Launch} {e : Env} {s : State} {m : MethodId} {args : Array Value} {below : List Frame} {meth : Method} {c : Code} {D : va_G} {cA : Nat → ClassId} {B : Nat} {res : Int × HP} {k5 : HP → Int → Int → Int → Int → Int → Option (Int × HP)} (hk5 : ∀ {ls : Array Slot} {H : Heap} {locs : List Loc} {S : HP} {x0 : Int} {x1 : Int} {x2 : Int} {x3 : Int} {x4 : Int} (hp : e_Pic D cA B S s H) (hS : va_S (e_A B) s.heap H locs) (hl : e_lo ls 7 [(0, e_rv B (x0)), (1, .int (iI (x1))), (2, .int (iI (x2))), (3, .int (iI (x3))), (4, .int (iI (x4)))]) (hsh : k5 S x0 x1 x2 x3 x4 = some res), W p l e ({ frames := 1, cells := 0, slots := 0, locals := 22 } : Room) s m args below meth c H locs 0 0 (MQ below (e_Qi D cA B res.1 res.2) args s 0 0 (e_A B)) (F0 m 5 ls [])) (E : e_En p s m args meth c cX13_innermost RX13 7 (some .int)) {ls : Array Slot} {H : Heap} {locs : List Loc} {S : HP} {x0 : Int} {x1 : Int} {x2 : Int} {x4 : Int} {y0 : Int} (hp : e_Pic D cA B S s H) (hS : va_S (e_A B) s.heap H locs) (hl : e_lo ls 7 [(0, e_rv B (x0)), (1, .int (iI (x1))), (2, .int (iI (x2))), (4, .int (iI (x4)))]) (hsh : s13_innermost_b136 k5 S x0 x1 x2 x4 y0 = some res) : W p l e ({ frames := 1, cells := 0, slots := 0, locals := 22 } : Room) s m args below meth c H locs 0 0 (MQ below (e_Qi D cA B res.1 res.2) args s 0 0 (e_A B)) (F0 m 136 ls [.int (iI (y0))]) := by
  obtain ⟨hx, hb, hml, hown, hts, hlk, hrt⟩ := id E
  unfold s13_innermost_b136 at hsh
  refine e_istore_n (lv' := [(3, .int (iI (y0))), (0, e_rv B (x0)), (1, .int (iI (x1))), (2, .int (iI (x2))), (4, .int (iI (x4)))]) hx hb dX13_innermost_136 rfl hl (by decide) rfl (fun ls hl => ?_)
  refine e_iinc (n := 1) (x := x4) (lv' := [(4, .int (iI ((x4 + 1)))), (3, .int (iI (y0))), (0, e_rv B (x0)), (1, .int (iI (x1))), (2, .int (iI (x2)))]) hx hb dX13_innermost_137 hl (k := 4) rfl (by decide) rfl (fun ls hl => ?_)
  refine lv_goto (tgt := 5) hx hb dX13_innermost_140 (by decide) ?_
  exact hk5 hp hS (hl.sub [2, 3, 4, 1, 0] rfl) hsh
set_option maxRecDepth 100000 in
set_option maxHeartbeats 4000000 in
theorem w13_innermost_b135 {p : Program} {l : Launch} {e : Env} {s : State} {m : MethodId} {args : Array Value} {below : List Frame} {meth : Method} {c : Code} {D : va_G} {cA : Nat → ClassId} {B : Nat} {res : Int × HP} {k5 : HP → Int → Int → Int → Int → Int → Option (Int × HP)} (hk5 : ∀ {ls : Array Slot} {H : Heap} {locs : List Loc} {S : HP} {x0 : Int} {x1 : Int} {x2 : Int} {x3 : Int} {x4 : Int} (hp : e_Pic D cA B S s H) (hS : va_S (e_A B) s.heap H locs) (hl : e_lo ls 7 [(0, e_rv B (x0)), (1, .int (iI (x1))), (2, .int (iI (x2))), (3, .int (iI (x3))), (4, .int (iI (x4)))]) (hsh : k5 S x0 x1 x2 x3 x4 = some res), W p l e ({ frames := 1, cells := 0, slots := 0, locals := 22 } : Room) s m args below meth c H locs 0 0 (MQ below (e_Qi D cA B res.1 res.2) args s 0 0 (e_A B)) (F0 m 5 ls [])) (E : e_En p s m args meth c cX13_innermost RX13 7 (some .int)) {ls : Array Slot} {H : Heap} {locs : List Loc} {S : HP} {x0 : Int} {x1 : Int} {x2 : Int} {x3 : Int} {x4 : Int} (hp : e_Pic D cA B S s H) (hS : va_S (e_A B) s.heap H locs) (hl : e_lo ls 7 [(0, e_rv B (x0)), (1, .int (iI (x1))), (2, .int (iI (x2))), (3, .int (iI (x3))), (4, .int (iI (x4)))]) (hsh : s13_innermost_b135 k5 S x0 x1 x2 x3 x4 = some res) : W p l e ({ frames := 1, cells := 0, slots := 0, locals := 22 } : Room) s m args below meth c H locs 0 0 (MQ below (e_Qi D cA B res.1 res.2) args s 0 0 (e_A B)) (F0 m 135 ls []) := by
  obtain ⟨hx, hb, hml, hown, hts, hlk, hrt⟩ := id E
  unfold s13_innermost_b135 at hsh
  refine lv_iload_n hx hb dX13_innermost_135 rfl (hl.at 3 rfl) ?_
  exact w13_innermost_b136 (hk5 := hk5) E hp hS (hl.sub [0, 1, 2, 4] rfl) hsh
set_option maxRecDepth 100000 in
set_option maxHeartbeats 4000000 in
theorem w13_innermost_b130 {p : Program} {l : Launch} {e : Env} {s : State} {m : MethodId} {args : Array Value} {below : List Frame} {meth : Method} {c : Code} {D : va_G} {cA : Nat → ClassId} {B : Nat} {res : Int × HP} {k5 : HP → Int → Int → Int → Int → Int → Option (Int × HP)} (hk5 : ∀ {ls : Array Slot} {H : Heap} {locs : List Loc} {S : HP} {x0 : Int} {x1 : Int} {x2 : Int} {x3 : Int} {x4 : Int} (hp : e_Pic D cA B S s H) (hS : va_S (e_A B) s.heap H locs) (hl : e_lo ls 7 [(0, e_rv B (x0)), (1, .int (iI (x1))), (2, .int (iI (x2))), (3, .int (iI (x3))), (4, .int (iI (x4)))]) (hsh : k5 S x0 x1 x2 x3 x4 = some res), W p l e ({ frames := 1, cells := 0, slots := 0, locals := 22 } : Room) s m args below meth c H locs 0 0 (MQ below (e_Qi D cA B res.1 res.2) args s 0 0 (e_A B)) (F0 m 5 ls [])) (E : e_En p s m args meth c cX13_innermost RX13 7 (some .int)) {ls : Array Slot} {H : Heap} {locs : List Loc} {S : HP} {x0 : Int} {x1 : Int} {x2 : Int} {x4 : Int} (hp : e_Pic D cA B S s H) (hS : va_S (e_A B) s.heap H locs) (hl : e_lo ls 7 [(0, e_rv B (x0)), (1, .int (iI (x1))), (2, .int (iI (x2))), (4, .int (iI (x4)))]) (hsh : s13_innermost_b130 k5 S x0 x1 x2 x4 = some res) : W p l e ({ frames := 1, cells := 0, slots := 0, locals := 22 } : Room) s m args below meth c H locs 0 0 (MQ below (e_Qi D cA B res.1 res.2) args s 0 0 (e_A B)) (F0 m 130 ls []) := by
  obtain ⟨hx, hb, hml, hown, hts, hlk, hrt⟩ := id E
  unfold s13_innermost_b130 at hsh
  refine lv_iload hx hb dX13_innermost_130 (hl.at 3 rfl) ?_
  refine lv_goto (tgt := 136) hx hb dX13_innermost_132 (by decide) ?_
  exact w13_innermost_b136 (hk5 := hk5) E hp hS (hl.sub [0, 1, 2, 3] rfl) hsh
set_option maxRecDepth 100000 in
set_option maxHeartbeats 4000000 in
theorem w13_innermost_b95 {p : Program} {l : Launch} {e : Env} {s : State} {m : MethodId} {args : Array Value} {below : List Frame} {meth : Method} {c : Code} {D : va_G} {cA : Nat → ClassId} {B : Nat} {res : Int × HP} {k5 : HP → Int → Int → Int → Int → Int → Option (Int × HP)} (hk5 : ∀ {ls : Array Slot} {H : Heap} {locs : List Loc} {S : HP} {x0 : Int} {x1 : Int} {x2 : Int} {x3 : Int} {x4 : Int} (hp : e_Pic D cA B S s H) (hS : va_S (e_A B) s.heap H locs) (hl : e_lo ls 7 [(0, e_rv B (x0)), (1, .int (iI (x1))), (2, .int (iI (x2))), (3, .int (iI (x3))), (4, .int (iI (x4)))]) (hsh : k5 S x0 x1 x2 x3 x4 = some res), W p l e ({ frames := 1, cells := 0, slots := 0, locals := 22 } : Room) s m args below meth c H locs 0 0 (MQ below (e_Qi D cA B res.1 res.2) args s 0 0 (e_A B)) (F0 m 5 ls [])) (E : e_En p s m args meth c cX13_innermost RX13 7 (some .int)) {ls : Array Slot} {H : Heap} {locs : List Loc} {S : HP} {x0 : Int} {x1 : Int} {x2 : Int} {x3 : Int} {x4 : Int} {y0 : Int} (hp : e_Pic D cA B S s H) (hS : va_S (e_A B) s.heap H locs) (hl : e_lo ls 7 [(0, e_rv B (x0)), (1, .int (iI (x1))), (2, .int (iI (x2))), (3, .int (iI (x3))), (4, .int (iI (x4)))]) (hsh : s13_innermost_b95 k5 S x0 x1 x2 x3 x4 y0 = some res) : W p l e ({ frames := 1, cells := 0, slots := 0, locals := 22 } : Room) s m args below meth c H locs 0 0 (MQ below (e_Qi D cA B res.1 res.2) args s 0 0 (e_A B)) (F0 m 95 ls [.int (iI (y0))]) := by
  obtain ⟨hx, hb, hml, hown, hts, hlk, hrt⟩ := id E
  unfold s13_innermost_b95 at hsh
  refine e_istore (lv' := [(6, .int (iI (y0))), (0, e_rv B (x0)), (1, .int (iI (x1))), (2, .int (iI (x2))), (3, .int (iI (x3))), (4, .int (iI (x4)))]) hx hb dX13_innermost_95 hl (by decide) rfl (fun ls hl => ?_)
  refine lv_iload hx hb dX13_innermost_97 (hl.at 0 rfl) ?_
  refine e_if_eq (tgt := 135) hx hb dX13_innermost_99 (by decide) (fun c99 => ?_) (fun c99 => ?_)
  · rw [if_pos c99] at hsh
    exact w13_innermost_b135 (hk5 := hk5) E hp hS (hl.sub [1, 2, 3, 4, 5] rfl) hsh
  · rw [if_neg c99] at hsh
    refine lv_iload_n hx hb dX13_innermost_102 rfl (hl.at 4 rfl) ?_
    refine lv_iconst (v := iI (-1)) hx hb dX13_innermost_103 rfl ?_
    refine e_icmp_eq (tgt := 130) hx hb dX13_innermost_104 (by decide) (fun c104 => ?_) (fun c104 => ?_)
    · rw [if_pos c104] at hsh
      exact w13_innermost_b130 (hk5 := hk5) E hp hS (hl.sub [1, 2, 3, 5] rfl) hsh
    · rw [if_neg c104] at hsh
      refine lv_iload hx hb dX13_innermost_107 (hl.at 5 rfl) ?_
      refine lv_bipush (v := iI (40)) hx hb dX13_innermost_109 (by decide +kernel) ?_
      obtain ⟨v111, h111, hsh⟩ := Option.bind_eq_some_iff.mp hsh
      refine e_irem hx hb h111 dX13_innermost_111 ?_
      refine lv_iload hx hb dX13_innermost_112 (hl.at 5 rfl) ?_
      refine lv_bipush (v := iI (40)) hx hb dX13_innermost_114 (by decide +kernel) ?_
      obtain ⟨v116, h116, hsh⟩ := Option.bind_eq_some_iff.mp hsh
      refine e_idiv hx hb h116 dX13_innermost_116 ?_
      refine e_isub hx hb dX13_innermost_117 ?_
      refine lv_iload_n hx hb dX13_innermost_118 rfl (hl.at 4 rfl) ?_
      refine lv_bipush (v := iI (40)) hx hb dX13_innermost_119 (by decide +kernel) ?_
      obtain ⟨v121, h121, hsh⟩ := Option.bind_eq_some_iff.mp hsh
      refine e_irem hx hb h121 dX13_innermost_121 ?_
      refine lv_iload_n hx hb dX13_innermost_122 rfl (hl.at 4 rfl) ?_
      refine lv_bipush (v := iI (40)) hx hb dX13_innermost_123 (by decide +kernel) ?_
      obtain ⟨v125, h125, hsh⟩ := Option.bind_eq_some_iff.mp hsh
      refine e_idiv hx hb h125 dX13_innermost_125 ?_
      refine e_isub hx hb dX13_innermost_126 ?_
      refine e_icmp_ge (tgt := 135) hx hb dX13_innermost_127 (by decide) (fun c127 => ?_) (fun c127 => ?_)
      · rw [if_pos c127] at hsh
        exact w13_innermost_b135 (hk5 := hk5) E hp hS (hl.sub [1, 2, 3, 4, 5] rfl) hsh
      · rw [if_neg c127] at hsh
        exact w13_innermost_b130 (hk5 := hk5) E hp hS (hl.sub [1, 2, 3, 5] rfl) hsh
set_option maxRecDepth 100000 in
set_option maxHeartbeats 4000000 in
theorem w13_innermost_b94 {p : Program} {l : Launch} {e : Env} {s : State} {m : MethodId} {args : Array Value} {below : List Frame} {meth : Method} {c : Code} {D : va_G} {cA : Nat → ClassId} {B : Nat} {res : Int × HP} {k5 : HP → Int → Int → Int → Int → Int → Option (Int × HP)} (hk5 : ∀ {ls : Array Slot} {H : Heap} {locs : List Loc} {S : HP} {x0 : Int} {x1 : Int} {x2 : Int} {x3 : Int} {x4 : Int} (hp : e_Pic D cA B S s H) (hS : va_S (e_A B) s.heap H locs) (hl : e_lo ls 7 [(0, e_rv B (x0)), (1, .int (iI (x1))), (2, .int (iI (x2))), (3, .int (iI (x3))), (4, .int (iI (x4)))]) (hsh : k5 S x0 x1 x2 x3 x4 = some res), W p l e ({ frames := 1, cells := 0, slots := 0, locals := 22 } : Room) s m args below meth c H locs 0 0 (MQ below (e_Qi D cA B res.1 res.2) args s 0 0 (e_A B)) (F0 m 5 ls [])) (E : e_En p s m args meth c cX13_innermost RX13 7 (some .int)) {ls : Array Slot} {H : Heap} {locs : List Loc} {S : HP} {x0 : Int} {x1 : Int} {x2 : Int} {x3 : Int} {x4 : Int} (hp : e_Pic D cA B S s H) (hS : va_S (e_A B) s.heap H locs) (hl : e_lo ls 7 [(0, e_rv B (x0)), (1, .int (iI (x1))), (2, .int (iI (x2))), (3, .int (iI (x3))), (4, .int (iI (x4)))]) (hsh : s13_innermost_b94 k5 S x0 x1 x2 x3 x4 = some res) : W p l e ({ frames := 1, cells := 0, slots := 0, locals := 22 } : Room) s m args below meth c H locs 0 0 (MQ below (e_Qi D cA B res.1 res.2) args s 0 0 (e_A B)) (F0 m 94 ls []) := by
  obtain ⟨hx, hb, hml, hown, hts, hlk, hrt⟩ := id E
  unfold s13_innermost_b94 at hsh
  refine lv_iconst (v := iI (0)) hx hb dX13_innermost_94 rfl ?_
  exact w13_innermost_b95 (hk5 := hk5) E hp hS (hl.sub [0, 1, 2, 3, 4] rfl) hsh
set_option maxRecDepth 100000 in
set_option maxHeartbeats 4000000 in
theorem w13_innermost_b63 {p : Program} {l : Launch} {e : Env} {s : State} {m : MethodId} {args : Array Value} {below : List Frame} {meth : Method} {c : Code} {D : va_G} {cA : Nat → ClassId} {B : Nat} {res : Int × HP} {k5 : HP → Int → Int → Int → Int → Int → Option (Int × HP)} (hk5 : ∀ {ls : Array Slot} {H : Heap} {locs : List Loc} {S : HP} {x0 : Int} {x1 : Int} {x2 : Int} {x3 : Int} {x4 : Int} (hp : e_Pic D cA B S s H) (hS : va_S (e_A B) s.heap H locs) (hl : e_lo ls 7 [(0, e_rv B (x0)), (1, .int (iI (x1))), (2, .int (iI (x2))), (3, .int (iI (x3))), (4, .int (iI (x4)))]) (hsh : k5 S x0 x1 x2 x3 x4 = some res), W p l e ({ frames := 1, cells := 0, slots := 0, locals := 22 } : Room) s m args below meth c H locs 0 0 (MQ below (e_Qi D cA B res.1 res.2) args s 0 0 (e_A B)) (F0 m 5 ls [])) (E : e_En p s m args meth c cX13_innermost RX13 7 (some .int)) {ls : Array Slot} {H : Heap} {locs : List Loc} {S : HP} {x0 : Int} {x1 : Int} {x2 : Int} {x3 : Int} {x4 : Int} {y0 : Int} (hp : e_Pic D cA B S s H) (hS : va_S (e_A B) s.heap H locs) (hl : e_lo ls 7 [(0, e_rv B (x0)), (1, .int (iI (x1))), (2, .int (iI (x2))), (3, .int (iI (x3))), (4, .int (iI (x4)))]) (hsh : s13_innermost_b63 k5 S x0 x1 x2 x3 x4 y0 = some res) : W p l e ({ frames := 1, cells := 0, slots := 0, locals := 22 } : Room) s m args below meth c H locs 0 0 (MQ below (e_Qi D cA B res.1 res.2) args s 0 0 (e_A B)) (F0 m 63 ls [.int (iI (y0))]) := by
  obtain ⟨hx, hb, hml, hown, hts, hlk, hrt⟩ := id E
  unfold s13_innermost_b63 at hsh
  refine e_istore (lv' := [(5, .int (iI (y0))), (0, e_rv B (x0)), (1, .int (iI (x1))), (2, .int (iI (x2))), (3, .int (iI (x3))), (4, .int (iI (x4)))]) hx hb dX13_innermost_63 hl (by decide) rfl (fun ls hl => ?_)
  refine lv_iload hx hb dX13_innermost_65 (hl.at 0 rfl) ?_
  refine e_if_le (tgt := 94) hx hb dX13_innermost_67 (by decide) (fun c67 => ?_) (fun c67 => ?_)
  · rw [if_pos c67] at hsh
    exact w13_innermost_b94 (hk5 := hk5) E hp hS (hl.sub [1, 2, 3, 4, 5] rfl) hsh
  · rw [if_neg c67] at hsh
    refine e_aload_n (B := B) (x := x0) hx hb dX13_innermost_70 rfl (hl.at 1 rfl) ?_
    obtain ⟨v71, h71, hsh⟩ := Option.bind_eq_some_iff.mp hsh
    refine e_getI (k := 5) hx hb hts in_X13 hown hp h71 rfl (by decide) (by decide) rfl (hts _ kf13_213) rfl dX13_innermost_71 ?_
    refine lv_iload hx hb dX13_innermost_74 (hl.at 5 rfl) ?_
    refine lv_bipush (v := iI (40)) hx hb dX13_innermost_76 (by decide +kernel) ?_
    obtain ⟨v78, h78, hsh⟩ := Option.bind_eq_some_iff.mp hsh
    refine e_idiv hx hb h78 dX13_innermost_78 ?_
    refine lv_iload hx hb dX13_innermost_79 (hl.at 5 rfl) ?_
    refine lv_bipush (v := iI (40)) hx hb dX13_innermost_81 (by decide +kernel) ?_
    obtain ⟨v83, h83, hsh⟩ := Option.bind_eq_some_iff.mp hsh
    refine e_irem hx hb h83 dX13_innermost_83 ?_
    obtain ⟨⟨v84, S84⟩, h84, hsh⟩ := Option.bind_eq_some_iff.mp hsh
    have hsh : _ = _ := hsh
    try dsimp only at hsh
    refine e_callS (nL := 7) (mc := 0) (ms := 0) (As := [.int (iI (v71)), .int (iI (v78)), .int (iI (v83))]) (rest := []) hx hb hml hown hts hp hS hl.size (c13_isIn l D cA B S S84 (v71) (v78) (v83) v84 h84) rfl rfl kd13_isIn (kl13_198) ks13_isIn ki13 kh13_isIn ⟨Nat.le_of_ble_eq_true rfl, Nat.le_of_ble_eq_true rfl⟩ rfl (by simp [e_rv_cat, e_int_cat]) ⟨Nat.le_refl _, Nat.le_refl _⟩ dX13_innermost_84 rfl (fun H locs hp hS => ?_)
    refine e_if_eq (tgt := 94) hx hb dX13_innermost_87 (by decide) (fun c87 => ?_) (fun c87 => ?_)
    · rw [if_pos c87] at hsh
      exact w13_innermost_b94 (hk5 := hk5) E hp hS (hl.sub [1, 2, 3, 4, 5] rfl) hsh
    · rw [if_neg c87] at hsh
      refine lv_iconst (v := iI (1)) hx hb dX13_innermost_90 rfl ?_
      refine lv_goto (tgt := 95) hx hb dX13_innermost_91 (by decide) ?_
      exact w13_innermost_b95 (hk5 := hk5) E hp hS (hl.sub [1, 2, 3, 4, 5] rfl) hsh
set_option maxRecDepth 100000 in
set_option maxHeartbeats 4000000 in
theorem w13_innermost_l5 {p : Program} {l : Launch} {e : Env} {s : State} {m : MethodId} {args : Array Value} {below : List Frame} {meth : Method} {c : Code} {D : va_G} {cA : Nat → ClassId} {B : Nat} {res : Int × HP} (E : e_En p s m args meth c cX13_innermost RX13 7 (some .int)) : ∀ (f : Nat) {ls : Array Slot} {H : Heap} {locs : List Loc} {S : HP} {x0 : Int} {x1 : Int} {x2 : Int} {x3 : Int} {x4 : Int} (hp : e_Pic D cA B S s H) (hS : va_S (e_A B) s.heap H locs) (hl : e_lo ls 7 [(0, e_rv B (x0)), (1, .int (iI (x1))), (2, .int (iI (x2))), (3, .int (iI (x3))), (4, .int (iI (x4)))]) (hsh : s13_innermost_l5 f S x0 x1 x2 x3 x4 = some res), W p l e ({ frames := 1, cells := 0, slots := 0, locals := 22 } : Room) s m args below meth c H locs 0 0 (MQ below (e_Qi D cA B res.1 res.2) args s 0 0 (e_A B)) (F0 m 5 ls []) := by
  obtain ⟨hx, hb, hml, hown, hts, hlk, hrt⟩ := id E
  intro f
  induction f with
  | zero => intro ls H locs S x0 x1 x2 x3 x4 hp hS hl hsh; cases hsh
  | succ f ih =>
    intro ls H locs S x0 x1 x2 x3 x4 hp hS hl hsh
    have hk5 : ∀ {ls : Array Slot} {H : Heap} {locs : List Loc} {S : HP} {x0 : Int} {x1 : Int} {x2 : Int} {x3 : Int} {x4 : Int} (hp : e_Pic D cA B S s H) (hS : va_S (e_A B) s.heap H locs) (hl : e_lo ls 7 [(0, e_rv B (x0)), (1, .int (iI (x1))), (2, .int (iI (x2))), (3, .int (iI (x3))), (4, .int (iI (x4)))]) (hsh : (s13_innermost_l5 f) S x0 x1 x2 x3 x4 = some res), W p l e ({ frames := 1, cells := 0, slots := 0, locals := 22 } : Room) s m args below meth c H locs 0 0 (MQ below (e_Qi D cA B res.1 res.2) args s 0 0 (e_A B)) (F0 m 5 ls []) := ih
    generalize hkk : s13_innermost_l5 f = k5 at hk5
    rw [s13_innermost_l5] at hsh
    rw [hkk] at hsh
    try dsimp only at hsh
    refine lv_iload hx hb dX13_innermost_5 (hl.at 4 rfl) ?_
    refine lv_sipush (v := iI (1600)) hx hb dX13_innermost_7 (by decide +kernel) ?_
    refine e_icmp_ge (tgt := 143) hx hb dX13_innermost_10 (by decide) (fun c10 => ?_) (fun c10 => ?_)
    · rw [if_pos c10] at hsh
      exact w13_innermost_b143 E hp hS (hl.sub [3] rfl) hsh
    · rw [if_neg c10] at hsh
      refine e_aload_n (B := B) (x := x0) hx hb dX13_innermost_13 rfl (hl.at 0 rfl) ?_
      obtain ⟨v14, h14, hsh⟩ := Option.bind_eq_some_iff.mp hsh
      refine e_getI (k := 20) hx hb hts in_X13 hown hp h14 rfl (by decide) (by decide) rfl (hts _ kf13_237) rfl dX13_innermost_14 ?_
      refine e_if_le (tgt := 143) hx hb dX13_innermost_17 (by decide) (fun c17 => ?_) (fun c17 => ?_)
      · rw [if_pos c17] at hsh
        exact w13_innermost_b143 E hp hS (hl.sub [3] rfl) hsh
      · rw [if_neg c17] at hsh
        refine lv_iload_n hx hb dX13_innermost_20 rfl (hl.at 2 rfl) ?_
        refine e_if_eq (tgt := 42) hx hb dX13_innermost_21 (by decide) (fun c21 => ?_) (fun c21 => ?_)
        · rw [if_pos c21] at hsh
          refine lv_iload_n hx hb dX13_innermost_42 rfl (hl.at 1 rfl) ?_
          refine e_if_eq (tgt := 56) hx hb dX13_innermost_43 (by decide) (fun c43 => ?_) (fun c43 => ?_)
          · rw [if_pos c43] at hsh
            refine e_aload_n (B := B) (x := x0) hx hb dX13_innermost_56 rfl (hl.at 0 rfl) ?_
            obtain ⟨v57, h57, hsh⟩ := Option.bind_eq_some_iff.mp hsh
            refine e_getR (k := 21) hx hb hts in_X13 hown hp h57 rfl (by decide) (by decide) rfl (hts _ kf13_48) rfl dX13_innermost_57 ?_
            refine lv_iload hx hb dX13_innermost_60 (hl.at 4 rfl) ?_
            obtain ⟨v62, h62, hsh⟩ := Option.bind_eq_some_iff.mp hsh
            refine e_iald hx hb hp h62 dX13_innermost_62 ?_
            exact w13_innermost_b63 (hk5 := hk5) E hp hS (hl.sub [0, 1, 2, 3, 4] rfl) hsh
          · rw [if_neg c43] at hsh
            refine e_aload_n (B := B) (x := x0) hx hb dX13_innermost_46 rfl (hl.at 0 rfl) ?_
            obtain ⟨v47, h47, hsh⟩ := Option.bind_eq_some_iff.mp hsh
            refine e_getR (k := 22) hx hb hts in_X13 hown hp h47 rfl (by decide) (by decide) rfl (hts _ kf13_51) rfl dX13_innermost_47 ?_
            refine lv_iload hx hb dX13_innermost_50 (hl.at 4 rfl) ?_
            obtain ⟨v52, h52, hsh⟩ := Option.bind_eq_some_iff.mp hsh
            refine e_iald hx hb hp h52 dX13_innermost_52 ?_
            refine lv_goto (tgt := 63) hx hb dX13_innermost_53 (by decide) ?_
            exact w13_innermost_b63 (hk5 := hk5) E hp hS (hl.sub [0, 1, 2, 3, 4] rfl) hsh
        · rw [if_neg c21] at hsh
          refine e_aload_n (B := B) (x := x0) hx hb dX13_innermost_24 rfl (hl.at 0 rfl) ?_
          obtain ⟨v25, h25, hsh⟩ := Option.bind_eq_some_iff.mp hsh
          refine e_getR (k := 21) hx hb hts in_X13 hown hp h25 rfl (by decide) (by decide) rfl (hts _ kf13_48) rfl dX13_innermost_25 ?_
          refine lv_iload hx hb dX13_innermost_28 (hl.at 4 rfl) ?_
          obtain ⟨v30, h30, hsh⟩ := Option.bind_eq_some_iff.mp hsh
          refine e_iald hx hb hp h30 dX13_innermost_30 ?_
          refine e_aload_n (B := B) (x := x0) hx hb dX13_innermost_31 rfl (hl.at 0 rfl) ?_
          obtain ⟨v32, h32, hsh⟩ := Option.bind_eq_some_iff.mp hsh
          refine e_getR (k := 22) hx hb hts in_X13 hown hp h32 rfl (by decide) (by decide) rfl (hts _ kf13_51) rfl dX13_innermost_32 ?_
          refine lv_iload hx hb dX13_innermost_35 (hl.at 4 rfl) ?_
          obtain ⟨v37, h37, hsh⟩ := Option.bind_eq_some_iff.mp hsh
          refine e_iald hx hb hp h37 dX13_innermost_37 ?_
          refine e_iadd hx hb dX13_innermost_38 ?_
          refine lv_goto (tgt := 63) hx hb dX13_innermost_39 (by decide) ?_
          exact w13_innermost_b63 (hk5 := hk5) E hp hS (hl.sub [0, 1, 2, 3, 4] rfl) hsh
set_option maxRecDepth 100000 in
set_option maxHeartbeats 4000000 in
theorem c13_innermost (l : Launch) (D : va_G) (cA : Nat → ClassId) (B : Nat) (S S' : HP) (x0 : Int) (x1 : Int) (x2 : Int) (r : Int) (hsh : s13_innermost S x0 x1 x2 = some (r, S')) : Met l yX13_innermost (e_wu yX13_innermost cX13_innermost 7 (some .int)) ({ frames := 1, cells := 0, slots := 0, locals := 22 } : Room) (va_Pc [e_rv B (x0), .int (iI (x1)), .int (iI (x2))] (fun U => e_PU D cA B S U)) (e_Qi D cA B r S') 0 0 (e_A B) := by
  refine Met.ofW (cc := cX13_innermost) (maxL := 7) (ret := (some .int)) (by decide +kernel) rfl ?_
  intro p e s m args below meth c s₁ Bd hml hv
  obtain ⟨rfl, hp⟩ := hv
  have hp : e_Pic D cA B S s s.heap := hp
  have hx := Bd.exec
  have hb := Bd.bytes
  have hrt := Bd.returns
  have hlk := Bd.notSynchronized
  have hown : s.vm.findClass RX13 = some m.cls := findClass_of_methodNamed Bd.named
  have hts : ∀ w ∈ e_tb, w.before ([e_rv B (x0), .int (iI (x1)), .int (iI (x2))] : List Value).toArray s = true := fun w h => atoms_spec (ws := (e_wu yX13_innermost cX13_innermost 7 (some .int))) Bd.pre w (List.mem_cons_of_mem _ h)
  have E : e_En p s m ([e_rv B (x0), .int (iI (x1)), .int (iI (x2))] : List Value).toArray meth c cX13_innermost RX13 7 (some .int) := ⟨hx, hb, hml, hown, hts, hlk, hrt⟩
  have hS : va_S (e_A B) s.heap s.heap [] := va_S.rf
  have hl := e_entry (vs := [e_rv B (x0), .int (iI (x1)), .int (iI (x2))]) (n := 7) (Nat.le_of_ble_eq_true rfl) (e_cc (e_rv_cat _ _) (e_cc rfl (e_cc rfl e_cn)))
  rw [lg_entry_eq]
  generalize (lg_sl [e_rv B (x0), .int (iI (x1)), .int (iI (x2))] ++ List.replicate (7 - (lg_sl [e_rv B (x0), .int (iI (x1)), .int (iI (x2))]).length) Slot.unset).toArray = ls at hl ⊢
  generalize ([e_rv B (x0), .int (iI (x1)), .int (iI (x2))] : List Value).toArray = args at hts E ⊢
  have hl : e_lo ls 7 [(0, e_rv B (x0)), (1, .int (iI (x1))), (2, .int (iI (x2)))] := hl
  have hsh := (gd_some hsh).2
  refine lv_iconst (v := iI (-1)) hx hb dX13_innermost_0 rfl ?_
  refine e_istore_n (lv' := [(3, .int (iI ((-1)))), (0, e_rv B (x0)), (1, .int (iI (x1))), (2, .int (iI (x2)))]) hx hb dX13_innermost_1 rfl hl (by decide) rfl (fun ls hl => ?_)
  refine lv_iconst (v := iI (0)) hx hb dX13_innermost_2 rfl ?_
  refine e_istore (lv' := [(4, .int (iI (0))), (3, .int (iI ((-1)))), (0, e_rv B (x0)), (1, .int (iI (x1))), (2, .int (iI (x2)))]) hx hb dX13_innermost_3 hl (by decide) rfl (fun ls hl => ?_)
  exact w13_innermost_l5 E 1000000 hp hS (hl.sub [2, 3, 4, 1, 0] rfl) hsh
theorem ok13_changesFold {S : HP} {x0 : Int} {x1 : Int} {r : Int × HP} (h : s13_changesFold S x0 x1 = some r) : 0 ≤ x0 ∧ x0.toNat < e_n S ∧ e_g S x0.toNat = 13 := (gd_some h).1
set_option maxRecDepth 100000 in
set_option maxHeartbeats 4000000 in
theorem w13_changesFold_b112 {p : Program} {l : Launch} {e : Env} {s : State} {m : MethodId} {args : Array Value} {below : List Frame} {meth : Method} {c : Code} {D : va_G} {cA : Nat → ClassId} {B : Nat} {res : Int × HP} (E : e_En p s m args meth c cX13_changesFold RX13 4 (some .boolean)) {ls : Array Slot} {H : Heap} {locs : List Loc} {S : HP} {y0 : Int} {y1 : Int} {y2 : Int} (hp : e_Pic D cA B S s H) (hS : va_S (e_A B) s.heap H locs) (hl : e_lo ls 4 []) (hsh : s13_changesFold_b112 S y0 y1 y2 = some res) : W p l e ({ frames := 2, cells := 0, slots := 0, locals := 48 } : Room) s m args below meth c H locs 0 0 (MQ below (e_Qi D cA B res.1 res.2) args s 0 0 (e_A B)) (F0 m 112 ls [.int (iI (y2)), .int (iI (y1)), e_rv B (y0)]) := by
  obtain ⟨hx, hb, hml, hown, hts, hlk, hrt⟩ := id E
  unfold s13_changesFold_b112 at hsh
  refine e_isub hx hb dX13_changesFold_112 ?_
  obtain ⟨S113, h113, hsh⟩ := Option.bind_eq_some_iff.mp hsh
  refine e_putI (k := 20) hx hb hts in_X13 tyX13 tyX13_ok nmX13 hown hp hS h113 rfl (by decide) (by decide) rfl (hts _ kf13_237) rfl rfl (by decide +kernel) dX13_changesFold_113 (fun H locs hp hS => ?_)
  refine lv_iconst (v := iI (1)) hx hb dX13_changesFold_116 rfl ?_
  obtain ⟨hz, hz1, hz2⟩ := zR_some hsh
  rw [← hz1, ← hz2]
  exact e_zret hx hb hrt hlk hp hS hz dX13_changesFold_117
set_option maxRecDepth 100000 in
set_option maxHeartbeats 4000000 in
theorem w13_changesFold_b93 {p : Program} {l : Launch} {e : Env} {s : State} {m : MethodId} {args : Array Value} {below : List Frame} {meth : Method} {c : Code} {D : va_G} {cA : Nat → ClassId} {B : Nat} {res : Int × HP} (E : e_En p s m args meth c cX13_changesFold RX13 4 (some .boolean)) {ls : Array Slot} {H : Heap} {locs : List Loc} {S : HP} {x0 : Int} {x1 : Int} {y0 : Int} {y1 : Int} {y2 : Int} {y3 : Int} (hp : e_Pic D cA B S s H) (hS : va_S (e_A B) s.heap H locs) (hl : e_lo ls 4 [(0, e_rv B (x0)), (1, .int (iI (x1)))]) (hsh : s13_changesFold_b93 S x0 x1 y0 y1 y2 y3 = some res) : W p l e ({ frames := 2, cells := 0, slots := 0, locals := 48 } : Room) s m args below meth c H locs 0 0 (MQ below (e_Qi D cA B res.1 res.2) args s 0 0 (e_A B)) (F0 m 93 ls [.int (iI (y3)), .int (iI (y2)), .int (iI (y1)), e_rv B (y0)]) := by
  obtain ⟨hx, hb, hml, hown, hts, hlk, hrt⟩ := id E
  unfold s13_changesFold_b93 at hsh
  refine e_isub hx hb dX13_changesFold_93 ?_
  obtain ⟨S94, h94, hsh⟩ := Option.bind_eq_some_iff.mp hsh
  refine e_iast hx hb hp hS h94 dX13_changesFold_94 (fun H locs hp hS => ?_)
  refine e_aload_n (B := B) (x := x0) hx hb dX13_changesFold_95 rfl (hl.at 0 rfl) ?_
  refine lv_dup hx hb dX13_changesFold_96 (e_rv_cat _ _) ?_
  obtain ⟨v97, h97, hsh⟩ := Option.bind_eq_some_iff.mp hsh
  refine e_getI (k := 20) hx hb hts in_X13 hown hp h97 rfl (by decide) (by decide) rfl (hts _ kf13_237) rfl dX13_changesFold_97 ?_
  refine lv_iload_n hx hb dX13_changesFold_100 rfl (hl.at 1 rfl) ?_
  refine lv_sipush (v := iI (612)) hx hb dX13_changesFold_101 (by decide +kernel) ?_
  refine e_icmp_ne (tgt := 111) hx hb dX13_changesFold_104 (by decide) (fun c104 => ?_) (fun c104 => ?_)
  · rw [if_neg c104] at hsh
    refine lv_iconst (v := iI (0)) hx hb dX13_changesFold_111 rfl ?_
    exact w13_changesFold_b112 E hp hS (hl.sub [] rfl) hsh
  · rw [if_pos c104] at hsh
    refine lv_iconst (v := iI (1)) hx hb dX13_changesFold_107 rfl ?_
    refine lv_goto (tgt := 112) hx hb dX13_changesFold_108 (by decide) ?_
    exact w13_changesFold_b112 E hp hS (hl.sub [] rfl) hsh
set_option maxRecDepth 100000 in
set_option maxHeartbeats 4000000 in
theorem w13_changesFold_b61 {p : Program} {l : Launch} {e : Env} {s : State} {m : MethodId} {args : Array Value} {below : List Frame} {meth : Method} {c : Code} {D : va_G} {cA : Nat → ClassId} {B : Nat} {res : Int × HP} (E : e_En p s m args meth c cX13_changesFold RX13 4 (some .boolean)) {ls : Array Slot} {H : Heap} {locs : List Loc} {S : HP} {x0 : Int} {x1 : Int} {x2 : Int} {y0 : Int} (hp : e_Pic D cA B S s H) (hS : va_S (e_A B) s.heap H locs) (hl : e_lo ls 4 [(0, e_rv B (x0)), (1, .int (iI (x1))), (2, .int (iI (x2)))]) (hsh : s13_changesFold_b61 S x0 x1 x2 y0 = some res) : W p l e ({ frames := 2, cells := 0, slots := 0, locals := 48 } : Room) s m args below meth c H locs 0 0 (MQ below (e_Qi D cA B res.1 res.2) args s 0 0 (e_A B)) (F0 m 61 ls [.int (iI (y0))]) := by
  obtain ⟨hx, hb, hml, hown, hts, hlk, hrt⟩ := id E
  unfold s13_changesFold_b61 at hsh
  refine e_istore_n (lv' := [(3, .int (iI (y0))), (0, e_rv B (x0)), (1, .int (iI (x1))), (2, .int (iI (x2)))]) hx hb dX13_changesFold_61 rfl hl (by decide) rfl (fun ls hl => ?_)
  refine e_aload_n (B := B) (x := x0) hx hb dX13_changesFold_62 rfl (hl.at 1 rfl) ?_
  obtain ⟨v63, h63, hsh⟩ := Option.bind_eq_some_iff.mp hsh
  refine e_getR (k := 22) hx hb hts in_X13 hown hp h63 rfl (by decide) (by decide) rfl (hts _ kf13_51) rfl dX13_changesFold_63 ?_
  refine lv_iload_n hx hb dX13_changesFold_66 rfl (hl.at 3 rfl) ?_
  refine lv_dup2_11 hx hb dX13_changesFold_67 rfl (e_rv_cat _ _) ?_
  obtain ⟨v68, h68, hsh⟩ := Option.bind_eq_some_iff.mp hsh
  refine e_iald hx hb hp h68 dX13_changesFold_68 ?_
  refine lv_iload_n hx hb dX13_changesFold_69 rfl (hl.at 0 rfl) ?_
  refine e_iadd hx hb dX13_changesFold_70 ?_
  obtain ⟨S71, h71, hsh⟩ := Option.bind_eq_some_iff.mp hsh
  refine e_iast hx hb hp hS h71 dX13_changesFold_71 (fun H locs hp hS => ?_)
  refine e_aload_n (B := B) (x := x0) hx hb dX13_changesFold_72 rfl (hl.at 1 rfl) ?_
  obtain ⟨v73, h73, hsh⟩ := Option.bind_eq_some_iff.mp hsh
  refine e_getR (k := 21) hx hb hts in_X13 hown hp h73 rfl (by decide) (by decide) rfl (hts _ kf13_48) rfl dX13_changesFold_73 ?_
  refine lv_iload_n hx hb dX13_changesFold_76 rfl (hl.at 3 rfl) ?_
  refine lv_dup2_11 hx hb dX13_changesFold_77 rfl (e_rv_cat _ _) ?_
  obtain ⟨v78, h78, hsh⟩ := Option.bind_eq_some_iff.mp hsh
  refine e_iald hx hb hp h78 dX13_changesFold_78 ?_
  refine lv_iload_n hx hb dX13_changesFold_79 rfl (hl.at 2 rfl) ?_
  refine lv_sipush (v := iI (612)) hx hb dX13_changesFold_80 (by decide +kernel) ?_
  refine e_icmp_ne (tgt := 92) hx hb dX13_changesFold_83 (by decide) (fun c83 => ?_) (fun c83 => ?_)
  · rw [if_neg c83] at hsh
    refine lv_iload_n hx hb dX13_changesFold_92 rfl (hl.at 0 rfl) ?_
    exact w13_changesFold_b93 E hp hS (hl.sub [1, 2] rfl) hsh
  · rw [if_pos c83] at hsh
    refine lv_iload_n hx hb dX13_changesFold_86 rfl (hl.at 0 rfl) ?_
    refine lv_iconst (v := iI (1)) hx hb dX13_changesFold_87 rfl ?_
    refine e_iadd hx hb dX13_changesFold_88 ?_
    refine lv_goto (tgt := 93) hx hb dX13_changesFold_89 (by decide) ?_
    exact w13_changesFold_b93 E hp hS (hl.sub [1, 2] rfl) hsh
set_option maxRecDepth 100000 in
set_option maxHeartbeats 4000000 in
theorem w13_changesFold_b25 {p : Program} {l : Launch} {e : Env} {s : State} {m : MethodId} {args : Array Value} {below : List Frame} {meth : Method} {c : Code} {D : va_G} {cA : Nat → ClassId} {B : Nat} {res : Int × HP} (E : e_En p s m args meth c cX13_changesFold RX13 4 (some .boolean)) {ls : Array Slot} {H : Heap} {locs : List Loc} {S : HP} {x0 : Int} {x1 : Int} {y0 : Int} {y1 : Int} {y2 : Int} (hp : e_Pic D cA B S s H) (hS : va_S (e_A B) s.heap H locs) (hl : e_lo ls 4 [(0, e_rv B (x0)), (1, .int (iI (x1)))]) (hsh : s13_changesFold_b25 S x0 x1 y0 y1 y2 = some res) : W p l e ({ frames := 2, cells := 0, slots := 0, locals := 48 } : Room) s m args below meth c H locs 0 0 (MQ below (e_Qi D cA B res.1 res.2) args s 0 0 (e_A B)) (F0 m 25 ls [.int (iI (y2)), .int (iI (y1)), e_rv B (y0)]) := by
  obtain ⟨hx, hb, hml, hown, hts, hlk, hrt⟩ := id E
  unfold s13_changesFold_b25 at hsh
  obtain ⟨⟨v25, S25⟩, h25, hsh⟩ := Option.bind_eq_some_iff.mp hsh
  have hsh : _ = _ := hsh
  try dsimp only at hsh
  have ok25 := ok13_innermost h25
  refine e_callI (nL := 4) (mc := 0) (ms := 0) (T := TX13) (N := 126) (As := [.int (iI (y1)), .int (iI (y2))]) (rest := []) hx hb hml hown hts hp hS hl.size ok25.1 ok25.2.1 ok25.2.2 rfl (by decide) (c13_innermost l D cA B S S25 (y0) (y1) (y2) v25 h25) rfl rfl kd13_innermost (kl13_593) ks13_innermost kv13_innermost ki13 kh13_innermost ⟨Nat.le_of_ble_eq_true rfl, Nat.le_of_ble_eq_true rfl⟩ rfl (by simp [e_rv_cat, e_int_cat]) ⟨Nat.le_refl _, Nat.le_refl _⟩ dX13_changesFold_25 rfl (fun H locs hp hS => ?_)
  refine e_istore_n (lv' := [(2, .int (iI (v25))), (0, e_rv B (x0)), (1, .int (iI (x1)))]) hx hb dX13_changesFold_28 rfl hl (by decide) rfl (fun ls hl => ?_)
  refine lv_iload_n hx hb dX13_changesFold_29 rfl (hl.at 0 rfl) ?_
  refine lv_iconst (v := iI (-1)) hx hb dX13_changesFold_30 rfl ?_
  refine e_icmp_ne (tgt := 36) hx hb dX13_changesFold_31 (by decide) (fun c31 => ?_) (fun c31 => ?_)
  · rw [if_neg c31] at hsh
    refine lv_iload_n hx hb dX13_changesFold_36 rfl (hl.at 2 rfl) ?_
    refine lv_sipush (v := iI (611)) hx hb dX13_changesFold_37 (by decide +kernel) ?_
    refine e_icmp_ne (tgt := 47) hx hb dX13_changesFold_40 (by decide) (fun c40 => ?_) (fun c40 => ?_)
    · rw [if_neg c40] at hsh
      refine e_aload_n (B := B) (x := x0) hx hb dX13_changesFold_47 rfl (hl.at 1 rfl) ?_
      obtain ⟨v48, h48, hsh⟩ := Option.bind_eq_some_iff.mp hsh
      refine e_getR (k := 22) hx hb hts in_X13 hown hp h48 rfl (by decide) (by decide) rfl (hts _ kf13_51) rfl dX13_changesFold_48 ?_
      refine lv_iload_n hx hb dX13_changesFold_51 rfl (hl.at 0 rfl) ?_
      obtain ⟨v52, h52, hsh⟩ := Option.bind_eq_some_iff.mp hsh
      refine e_iald hx hb hp h52 dX13_changesFold_52 ?_
      refine e_if_le (tgt := 60) hx hb dX13_changesFold_53 (by decide) (fun c53 => ?_) (fun c53 => ?_)
      · rw [if_pos c53] at hsh
        refine lv_iconst (v := iI (0)) hx hb dX13_changesFold_60 rfl ?_
        exact w13_changesFold_b61 E hp hS (hl.sub [1, 2, 0] rfl) hsh
      · rw [if_neg c53] at hsh
        refine lv_iconst (v := iI (-1)) hx hb dX13_changesFold_56 rfl ?_
        refine lv_goto (tgt := 61) hx hb dX13_changesFold_57 (by decide) ?_
        exact w13_changesFold_b61 E hp hS (hl.sub [1, 2, 0] rfl) hsh
    · rw [if_pos c40] at hsh
      refine lv_iconst (v := iI (1)) hx hb dX13_changesFold_43 rfl ?_
      refine lv_goto (tgt := 61) hx hb dX13_changesFold_44 (by decide) ?_
      exact w13_changesFold_b61 E hp hS (hl.sub [1, 2, 0] rfl) hsh
  · rw [if_pos c31] at hsh
    refine lv_iconst (v := iI (0)) hx hb dX13_changesFold_34 rfl ?_
    obtain ⟨hz, hz1, hz2⟩ := zR_some hsh
    rw [← hz1, ← hz2]
    exact e_zret hx hb hrt hlk hp hS hz dX13_changesFold_35
set_option maxRecDepth 100000 in
set_option maxHeartbeats 4000000 in
theorem w13_changesFold_b13 {p : Program} {l : Launch} {e : Env} {s : State} {m : MethodId} {args : Array Value} {below : List Frame} {meth : Method} {c : Code} {D : va_G} {cA : Nat → ClassId} {B : Nat} {res : Int × HP} (E : e_En p s m args meth c cX13_changesFold RX13 4 (some .boolean)) {ls : Array Slot} {H : Heap} {locs : List Loc} {S : HP} {x0 : Int} {x1 : Int} {y0 : Int} {y1 : Int} (hp : e_Pic D cA B S s H) (hS : va_S (e_A B) s.heap H locs) (hl : e_lo ls 4 [(0, e_rv B (x0)), (1, .int (iI (x1)))]) (hsh : s13_changesFold_b13 S x0 x1 y0 y1 = some res) : W p l e ({ frames := 2, cells := 0, slots := 0, locals := 48 } : Room) s m args below meth c H locs 0 0 (MQ below (e_Qi D cA B res.1 res.2) args s 0 0 (e_A B)) (F0 m 13 ls [.int (iI (y1)), e_rv B (y0)]) := by
  obtain ⟨hx, hb, hml, hown, hts, hlk, hrt⟩ := id E
  unfold s13_changesFold_b13 at hsh
  refine lv_iload_n hx hb dX13_changesFold_13 rfl (hl.at 1 rfl) ?_
  refine lv_sipush (v := iI (612)) hx hb dX13_changesFold_14 (by decide +kernel) ?_
  refine e_icmp_ne (tgt := 24) hx hb dX13_changesFold_17 (by decide) (fun c17 => ?_) (fun c17 => ?_)
  · rw [if_neg c17] at hsh
    refine lv_iconst (v := iI (0)) hx hb dX13_changesFold_24 rfl ?_
    exact w13_changesFold_b25 E hp hS (hl.sub [0, 1] rfl) hsh
  · rw [if_pos c17] at hsh
    refine lv_iconst (v := iI (1)) hx hb dX13_changesFold_20 rfl ?_
    refine lv_goto (tgt := 25) hx hb dX13_changesFold_21 (by decide) ?_
    exact w13_changesFold_b25 E hp hS (hl.sub [0, 1] rfl) hsh
set_option maxRecDepth 100000 in
set_option maxHeartbeats 4000000 in
theorem c13_changesFold (l : Launch) (D : va_G) (cA : Nat → ClassId) (B : Nat) (S S' : HP) (x0 : Int) (x1 : Int) (r : Int) (hsh : s13_changesFold S x0 x1 = some (r, S')) : Met l yX13_changesFold (e_wu yX13_changesFold cX13_changesFold 4 (some .boolean)) ({ frames := 2, cells := 0, slots := 0, locals := 48 } : Room) (va_Pc [e_rv B (x0), .int (iI (x1))] (fun U => e_PU D cA B S U)) (e_Qi D cA B r S') 0 0 (e_A B) := by
  refine Met.ofW (cc := cX13_changesFold) (maxL := 4) (ret := (some .boolean)) (by decide +kernel) rfl ?_
  intro p e s m args below meth c s₁ Bd hml hv
  obtain ⟨rfl, hp⟩ := hv
  have hp : e_Pic D cA B S s s.heap := hp
  have hx := Bd.exec
  have hb := Bd.bytes
  have hrt := Bd.returns
  have hlk := Bd.notSynchronized
  have hown : s.vm.findClass RX13 = some m.cls := findClass_of_methodNamed Bd.named
  have hts : ∀ w ∈ e_tb, w.before ([e_rv B (x0), .int (iI (x1))] : List Value).toArray s = true := fun w h => atoms_spec (ws := (e_wu yX13_changesFold cX13_changesFold 4 (some .boolean))) Bd.pre w (List.mem_cons_of_mem _ h)
  have E : e_En p s m ([e_rv B (x0), .int (iI (x1))] : List Value).toArray meth c cX13_changesFold RX13 4 (some .boolean) := ⟨hx, hb, hml, hown, hts, hlk, hrt⟩
  have hS : va_S (e_A B) s.heap s.heap [] := va_S.rf
  have hl := e_entry (vs := [e_rv B (x0), .int (iI (x1))]) (n := 4) (Nat.le_of_ble_eq_true rfl) (e_cc (e_rv_cat _ _) (e_cc rfl e_cn))
  rw [lg_entry_eq]
  generalize (lg_sl [e_rv B (x0), .int (iI (x1))] ++ List.replicate (4 - (lg_sl [e_rv B (x0), .int (iI (x1))]).length) Slot.unset).toArray = ls at hl ⊢
  generalize ([e_rv B (x0), .int (iI (x1))] : List Value).toArray = args at hts E ⊢
  have hl : e_lo ls 4 [(0, e_rv B (x0)), (1, .int (iI (x1)))] := hl
  have hsh := (gd_some hsh).2
  refine e_aload_n (B := B) (x := x0) hx hb dX13_changesFold_0 rfl (hl.at 0 rfl) ?_
  refine lv_iload_n hx hb dX13_changesFold_1 rfl (hl.at 1 rfl) ?_
  refine lv_sipush (v := iI (623)) hx hb dX13_changesFold_2 (by decide +kernel) ?_
  refine e_icmp_ne (tgt := 12) hx hb dX13_changesFold_5 (by decide) (fun c5 => ?_) (fun c5 => ?_)
  · rw [if_neg c5] at hsh
    refine lv_iconst (v := iI (0)) hx hb dX13_changesFold_12 rfl ?_
    exact w13_changesFold_b13 E hp hS (hl.sub [0, 1] rfl) hsh
  · rw [if_pos c5] at hsh
    refine lv_iconst (v := iI (1)) hx hb dX13_changesFold_8 rfl ?_
    refine lv_goto (tgt := 13) hx hb dX13_changesFold_9 (by decide) ?_
    exact w13_changesFold_b13 E hp hS (hl.sub [0, 1] rfl) hsh
theorem ok13_marksPlaces {S : HP} {x0 : Int} {r : Int × HP} (h : s13_marksPlaces S x0 = some r) : 0 ≤ x0 ∧ x0.toNat < e_n S ∧ e_g S x0.toNat = 13 := (gd_some h).1
set_option maxRecDepth 100000 in
set_option maxHeartbeats 4000000 in
theorem w13_marksPlaces_b287 {p : Program} {l : Launch} {e : Env} {s : State} {m : MethodId} {args : Array Value} {below : List Frame} {meth : Method} {c : Code} {D : va_G} {cA : Nat → ClassId} {B : Nat} {res : Int × HP} (E : e_En p s m args meth c cX13_marksPlaces RX13 6 (some .boolean)) {ls : Array Slot} {H : Heap} {locs : List Loc} {S : HP} (hp : e_Pic D cA B S s H) (hS : va_S (e_A B) s.heap H locs) (hl : e_lo ls 6 []) (hsh : s13_marksPlaces_b287 S  = some res) : W p l e ({ frames := 2, cells := 0, slots := 0, locals := 46 } : Room) s m args below meth c H locs 0 0 (MQ below (e_Qi D cA B res.1 res.2) args s 0 0 (e_A B)) (F0 m 287 ls []) := by
  obtain ⟨hx, hb, hml, hown, hts, hlk, hrt⟩ := id E
  unfold s13_marksPlaces_b287 at hsh
  refine lv_iconst (v := iI (1)) hx hb dX13_marksPlaces_287 rfl ?_
  obtain ⟨hz, hz1, hz2⟩ := zR_some hsh
  rw [← hz1, ← hz2]
  exact e_zret hx hb hrt hlk hp hS hz dX13_marksPlaces_288
set_option maxRecDepth 100000 in
set_option maxHeartbeats 4000000 in
theorem w13_marksPlaces_b253 {p : Program} {l : Launch} {e : Env} {s : State} {m : MethodId} {args : Array Value} {below : List Frame} {meth : Method} {c : Code} {D : va_G} {cA : Nat → ClassId} {B : Nat} {res : Int × HP} {k183 : HP → Int → Int → Int → Int → Option (Int × HP)} (hk183 : ∀ {ls : Array Slot} {H : Heap} {locs : List Loc} {S : HP} {x0 : Int} {x1 : Int} {x2 : Int} {x4 : Int} (hp : e_Pic D cA B S s H) (hS : va_S (e_A B) s.heap H locs) (hl : e_lo ls 6 [(0, e_rv B (x0)), (1, .int (iI (x1))), (2, .int (iI (x2))), (4, .int (iI (x4)))]) (hsh : k183 S x0 x1 x2 x4 = some res), W p l e ({ frames := 2, cells := 0, slots := 0, locals := 46 } : Room) s m args below meth c H locs 0 0 (MQ below (e_Qi D cA B res.1 res.2) args s 0 0 (e_A B)) (F0 m 183 ls [])) (E : e_En p s m args meth c cX13_marksPlaces RX13 6 (some .boolean)) {ls : Array Slot} {H : Heap} {locs : List Loc} {S : HP} {x0 : Int} {x1 : Int} {x2 : Int} {x4 : Int} (hp : e_Pic D cA B S s H) (hS : va_S (e_A B) s.heap H locs) (hl : e_lo ls 6 [(0, e_rv B (x0)), (1, .int (iI (x1))), (2, .int (iI (x2))), (4, .int (iI (x4)))]) (hsh : s13_marksPlaces_b253 k183 S x0 x1 x2 x4 = some res) : W p l e ({ frames := 2, cells := 0, slots := 0, locals := 46 } : Room) s m args below meth c H locs 0 0 (MQ below (e_Qi D cA B res.1 res.2) args s 0 0 (e_A B)) (F0 m 253 ls []) := by
  obtain ⟨hx, hb, hml, hown, hts, hlk, hrt⟩ := id E
  unfold s13_marksPlaces_b253 at hsh
  refine e_iinc (n := 1) (x := x4) (lv' := [(4, .int (iI ((x4 + 1)))), (0, e_rv B (x0)), (1, .int (iI (x1))), (2, .int (iI (x2)))]) hx hb dX13_marksPlaces_253 hl (k := 3) rfl (by decide) rfl (fun ls hl => ?_)
  refine lv_goto (tgt := 183) hx hb dX13_marksPlaces_256 (by decide) ?_
  exact hk183 hp hS (hl.sub [1, 2, 3, 0] rfl) hsh
set_option maxRecDepth 100000 in
set_option maxHeartbeats 4000000 in
theorem w13_marksPlaces_l183 {p : Program} {l : Launch} {e : Env} {s : State} {m : MethodId} {args : Array Value} {below : List Frame} {meth : Method} {c : Code} {D : va_G} {cA : Nat → ClassId} {B : Nat} {res : Int × HP} (E : e_En p s m args meth c cX13_marksPlaces RX13 6 (some .boolean)) : ∀ (f : Nat) {ls : Array Slot} {H : Heap} {locs : List Loc} {S : HP} {x0 : Int} {x1 : Int} {x2 : Int} {x4 : Int} (hp : e_Pic D cA B S s H) (hS : va_S (e_A B) s.heap H locs) (hl : e_lo ls 6 [(0, e_rv B (x0)), (1, .int (iI (x1))), (2, .int (iI (x2))), (4, .int (iI (x4)))]) (hsh : s13_marksPlaces_l183 f S x0 x1 x2 x4 = some res), W p l e ({ frames := 2, cells := 0, slots := 0, locals := 46 } : Room) s m args below meth c H locs 0 0 (MQ below (e_Qi D cA B res.1 res.2) args s 0 0 (e_A B)) (F0 m 183 ls []) := by
  obtain ⟨hx, hb, hml, hown, hts, hlk, hrt⟩ := id E
  intro f
  induction f with
  | zero => intro ls H locs S x0 x1 x2 x4 hp hS hl hsh; cases hsh
  | succ f ih =>
    intro ls H locs S x0 x1 x2 x4 hp hS hl hsh
    have hk183 : ∀ {ls : Array Slot} {H : Heap} {locs : List Loc} {S : HP} {x0 : Int} {x1 : Int} {x2 : Int} {x4 : Int} (hp : e_Pic D cA B S s H) (hS : va_S (e_A B) s.heap H locs) (hl : e_lo ls 6 [(0, e_rv B (x0)), (1, .int (iI (x1))), (2, .int (iI (x2))), (4, .int (iI (x4)))]) (hsh : (s13_marksPlaces_l183 f) S x0 x1 x2 x4 = some res), W p l e ({ frames := 2, cells := 0, slots := 0, locals := 46 } : Room) s m args below meth c H locs 0 0 (MQ below (e_Qi D cA B res.1 res.2) args s 0 0 (e_A B)) (F0 m 183 ls []) := ih
    generalize hkk : s13_marksPlaces_l183 f = k183 at hk183
    rw [s13_marksPlaces_l183] at hsh
    rw [hkk] at hsh
    try dsimp only at hsh
    refine lv_iload hx hb dX13_marksPlaces_183 (hl.at 3 rfl) ?_
    refine lv_iload_n hx hb dX13_marksPlaces_185 rfl (hl.at 2 rfl) ?_
    refine e_icmp_ge (tgt := 259) hx hb dX13_marksPlaces_186 (by decide) (fun c186 => ?_) (fun c186 => ?_)
    · rw [if_pos c186] at hsh
      refine lv_iload_n hx hb dX13_marksPlaces_259 rfl (hl.at 1 rfl) ?_
      refine lv_bipush (v := iI (60)) hx hb dX13_marksPlaces_260 (by decide +kernel) ?_
      refine e_aload_n (B := B) (x := x0) hx hb dX13_marksPlaces_262 rfl (hl.at 0 rfl) ?_
      obtain ⟨v263, h263, hsh⟩ := Option.bind_eq_some_iff.mp hsh
      refine e_getI (k := 5) hx hb hts in_X13 hown hp h263 rfl (by decide) (by decide) rfl (hts _ kf13_213) rfl dX13_marksPlaces_263 ?_
      refine e_imul hx hb dX13_marksPlaces_266 ?_
      refine e_aload_n (B := B) (x := x0) hx hb dX13_marksPlaces_267 rfl (hl.at 0 rfl) ?_
      obtain ⟨v268, h268, hsh⟩ := Option.bind_eq_some_iff.mp hsh
      refine e_getI (k := 6) hx hb hts in_X13 hown hp h268 rfl (by decide) (by decide) rfl (hts _ kf13_216) rfl dX13_marksPlaces_268 ?_
      refine e_iadd hx hb dX13_marksPlaces_271 ?_
      refine e_icmp_eq (tgt := 287) hx hb dX13_marksPlaces_272 (by decide) (fun c272 => ?_) (fun c272 => ?_)
      · rw [if_pos c272] at hsh
        exact w13_marksPlaces_b287 E hp hS (hl.sub [] rfl) hsh
      · rw [if_neg c272] at hsh
        refine e_aload_n (B := B) (x := x0) hx hb dX13_marksPlaces_275 rfl (hl.at 0 rfl) ?_
        refine lv_iload_n hx hb dX13_marksPlaces_276 rfl (hl.at 1 rfl) ?_
        refine lv_bipush (v := iI (60)) hx hb dX13_marksPlaces_277 (by decide +kernel) ?_
        obtain ⟨v279, h279, hsh⟩ := Option.bind_eq_some_iff.mp hsh
        refine e_idiv hx hb h279 dX13_marksPlaces_279 ?_
        refine lv_iload_n hx hb dX13_marksPlaces_280 rfl (hl.at 1 rfl) ?_
        refine lv_bipush (v := iI (60)) hx hb dX13_marksPlaces_281 (by decide +kernel) ?_
        obtain ⟨v283, h283, hsh⟩ := Option.bind_eq_some_iff.mp hsh
        refine e_irem hx hb h283 dX13_marksPlaces_283 ?_
        obtain ⟨S284, h284, hsh⟩ := Option.bind_eq_some_iff.mp hsh
        have ok284 := ok13_goes h284
        refine e_callV (nL := 6) (mc := 0) (ms := 0) (T := TX13) (N := 126) (As := [.int (iI (v279)), .int (iI (v283))]) (rest := []) hx hb hml hown hts hp hS hl.size ok284.1 ok284.2.1 ok284.2.2 rfl (by decide) (c13_goes l D cA B S S284 (x0) (v279) (v283) h284) rfl rfl kd13_goes (kl13_226) ks13_goes kv13_goes ki13 kh13_goes ⟨Nat.le_of_ble_eq_true rfl, Nat.le_of_ble_eq_true rfl⟩ rfl (by simp [e_rv_cat, e_int_cat]) ⟨Nat.le_refl _, Nat.le_refl _⟩ dX13_marksPlaces_284 rfl (fun H locs hp hS => ?_)
        exact w13_marksPlaces_b287 E hp hS (hl.sub [] rfl) hsh
    · rw [if_neg c186] at hsh
      refine lv_bipush (v := iI (60)) hx hb dX13_marksPlaces_189 (by decide +kernel) ?_
      refine e_aload_n (B := B) (x := x0) hx hb dX13_marksPlaces_191 rfl (hl.at 0 rfl) ?_
      obtain ⟨v192, h192, hsh⟩ := Option.bind_eq_some_iff.mp hsh
      refine e_getR (k := 24) hx hb hts in_X13 hown hp h192 rfl (by decide) (by decide) rfl (hts _ kf13_54) rfl dX13_marksPlaces_192 ?_
      refine lv_iload hx hb dX13_marksPlaces_195 (hl.at 3 rfl) ?_
      obtain ⟨v197, h197, hsh⟩ := Option.bind_eq_some_iff.mp hsh
      refine e_iald hx hb hp h197 dX13_marksPlaces_197 ?_
      refine e_imul hx hb dX13_marksPlaces_198 ?_
      refine e_aload_n (B := B) (x := x0) hx hb dX13_marksPlaces_199 rfl (hl.at 0 rfl) ?_
      obtain ⟨v200, h200, hsh⟩ := Option.bind_eq_some_iff.mp hsh
      refine e_getR (k := 25) hx hb hts in_X13 hown hp h200 rfl (by decide) (by decide) rfl (hts _ kf13_57) rfl dX13_marksPlaces_200 ?_
      refine lv_iload hx hb dX13_marksPlaces_203 (hl.at 3 rfl) ?_
      obtain ⟨v205, h205, hsh⟩ := Option.bind_eq_some_iff.mp hsh
      refine e_iald hx hb hp h205 dX13_marksPlaces_205 ?_
      refine e_iadd hx hb dX13_marksPlaces_206 ?_
      refine lv_iload_n hx hb dX13_marksPlaces_207 rfl (hl.at 1 rfl) ?_
      refine e_icmp_eq (tgt := 253) hx hb dX13_marksPlaces_208 (by decide) (fun c208 => ?_) (fun c208 => ?_)
      · rw [if_pos c208] at hsh
        exact w13_marksPlaces_b253 (hk183 := hk183) E hp hS (hl.sub [0, 1, 2, 3] rfl) hsh
      · rw [if_neg c208] at hsh
        refine e_aload_n (B := B) (x := x0) hx hb dX13_marksPlaces_211 rfl (hl.at 0 rfl) ?_
        obtain ⟨v212, h212, hsh⟩ := Option.bind_eq_some_iff.mp hsh
        refine e_getR (k := 24) hx hb hts in_X13 hown hp h212 rfl (by decide) (by decide) rfl (hts _ kf13_54) rfl dX13_marksPlaces_212 ?_
        refine e_aload_n (B := B) (x := x0) hx hb dX13_marksPlaces_215 rfl (hl.at 0 rfl) ?_
        obtain ⟨v216, h216, hsh⟩ := Option.bind_eq_some_iff.mp hsh
        refine e_getI (k := 23) hx hb hts in_X13 hown hp h216 rfl (by decide) (by decide) rfl (hts _ kf13_244) rfl dX13_marksPlaces_216 ?_
        refine e_aload_n (B := B) (x := x0) hx hb dX13_marksPlaces_219 rfl (hl.at 0 rfl) ?_
        obtain ⟨v220, h220, hsh⟩ := Option.bind_eq_some_iff.mp hsh
        refine e_getR (k := 24) hx hb hts in_X13 hown hp h220 rfl (by decide) (by decide) rfl (hts _ kf13_54) rfl dX13_marksPlaces_220 ?_
        refine lv_iload hx hb dX13_marksPlaces_223 (hl.at 3 rfl) ?_
        obtain ⟨v225, h225, hsh⟩ := Option.bind_eq_some_iff.mp hsh
        refine e_iald hx hb hp h225 dX13_marksPlaces_225 ?_
        obtain ⟨S226, h226, hsh⟩ := Option.bind_eq_some_iff.mp hsh
        refine e_iast hx hb hp hS h226 dX13_marksPlaces_226 (fun H locs hp hS => ?_)
        refine e_aload_n (B := B) (x := x0) hx hb dX13_marksPlaces_227 rfl (hl.at 0 rfl) ?_
        obtain ⟨v228, h228, hsh⟩ := Option.bind_eq_some_iff.mp hsh
        refine e_getR (k := 25) hx hb hts in_X13 hown hp h228 rfl (by decide) (by decide) rfl (hts _ kf13_57) rfl dX13_marksPlaces_228 ?_
        refine e_aload_n (B := B) (x := x0) hx hb dX13_marksPlaces_231 rfl (hl.at 0 rfl) ?_
        obtain ⟨v232, h232, hsh⟩ := Option.bind_eq_some_iff.mp hsh
        refine e_getI (k := 23) hx hb hts in_X13 hown hp h232 rfl (by decide) (by decide) rfl (hts _ kf13_244) rfl dX13_marksPlaces_232 ?_
        refine e_aload_n (B := B) (x := x0) hx hb dX13_marksPlaces_235 rfl (hl.at 0 rfl) ?_
        obtain ⟨v236, h236, hsh⟩ := Option.bind_eq_some_iff.mp hsh
        refine e_getR (k := 25) hx hb hts in_X13 hown hp h236 rfl (by decide) (by decide) rfl (hts _ kf13_57) rfl dX13_marksPlaces_236 ?_
        refine lv_iload hx hb dX13_marksPlaces_239 (hl.at 3 rfl) ?_
        obtain ⟨v241, h241, hsh⟩ := Option.bind_eq_some_iff.mp hsh
        refine e_iald hx hb hp h241 dX13_marksPlaces_241 ?_
        obtain ⟨S242, h242, hsh⟩ := Option.bind_eq_some_iff.mp hsh
        refine e_iast hx hb hp hS h242 dX13_marksPlaces_242 (fun H locs hp hS => ?_)
        refine e_aload_n (B := B) (x := x0) hx hb dX13_marksPlaces_243 rfl (hl.at 0 rfl) ?_
        refine lv_dup hx hb dX13_marksPlaces_244 (e_rv_cat _ _) ?_
        obtain ⟨v245, h245, hsh⟩ := Option.bind_eq_some_iff.mp hsh
        refine e_getI (k := 23) hx hb hts in_X13 hown hp h245 rfl (by decide) (by decide) rfl (hts _ kf13_244) rfl dX13_marksPlaces_245 ?_
        refine lv_iconst (v := iI (1)) hx hb dX13_marksPlaces_248 rfl ?_
        refine e_iadd hx hb dX13_marksPlaces_249 ?_
        obtain ⟨S250, h250, hsh⟩ := Option.bind_eq_some_iff.mp hsh
        refine e_putI (k := 23) hx hb hts in_X13 tyX13 tyX13_ok nmX13 hown hp hS h250 rfl (by decide) (by decide) rfl (hts _ kf13_244) rfl rfl (by decide +kernel) dX13_marksPlaces_250 (fun H locs hp hS => ?_)
        exact w13_marksPlaces_b253 (hk183 := hk183) E hp hS (hl.sub [0, 1, 2, 3] rfl) hsh
set_option maxRecDepth 100000 in
set_option maxHeartbeats 4000000 in
theorem w13_marksPlaces_b173 {p : Program} {l : Launch} {e : Env} {s : State} {m : MethodId} {args : Array Value} {below : List Frame} {meth : Method} {c : Code} {D : va_G} {cA : Nat → ClassId} {B : Nat} {res : Int × HP} (E : e_En p s m args meth c cX13_marksPlaces RX13 6 (some .boolean)) {ls : Array Slot} {H : Heap} {locs : List Loc} {S : HP} {x0 : Int} {x1 : Int} {y0 : Int} {y1 : Int} (hp : e_Pic D cA B S s H) (hS : va_S (e_A B) s.heap H locs) (hl : e_lo ls 6 [(0, e_rv B (x0)), (1, .int (iI (x1)))]) (hsh : s13_marksPlaces_b173 S x0 x1 y0 y1 = some res) : W p l e ({ frames := 2, cells := 0, slots := 0, locals := 46 } : Room) s m args below meth c H locs 0 0 (MQ below (e_Qi D cA B res.1 res.2) args s 0 0 (e_A B)) (F0 m 173 ls [.int (iI (y1)), .int (iI (y0))]) := by
  obtain ⟨hx, hb, hml, hown, hts, hlk, hrt⟩ := id E
  unfold s13_marksPlaces_b173 at hsh
  refine e_isub hx hb dX13_marksPlaces_173 ?_
  refine e_istore_n (lv' := [(2, .int (iI ((y0 - y1)))), (0, e_rv B (x0)), (1, .int (iI (x1)))]) hx hb dX13_marksPlaces_174 rfl hl (by decide) rfl (fun ls hl => ?_)
  refine e_aload_n (B := B) (x := x0) hx hb dX13_marksPlaces_175 rfl (hl.at 1 rfl) ?_
  refine lv_iconst (v := iI (0)) hx hb dX13_marksPlaces_176 rfl ?_
  obtain ⟨S177, h177, hsh⟩ := Option.bind_eq_some_iff.mp hsh
  refine e_putI (k := 23) hx hb hts in_X13 tyX13 tyX13_ok nmX13 hown hp hS h177 rfl (by decide) (by decide) rfl (hts _ kf13_244) rfl rfl (by decide +kernel) dX13_marksPlaces_177 (fun H locs hp hS => ?_)
  refine lv_iconst (v := iI (0)) hx hb dX13_marksPlaces_180 rfl ?_
  refine e_istore (lv' := [(4, .int (iI (0))), (2, .int (iI ((y0 - y1)))), (0, e_rv B (x0)), (1, .int (iI (x1)))]) hx hb dX13_marksPlaces_181 hl (by decide) rfl (fun ls hl => ?_)
  exact w13_marksPlaces_l183 E 1000000 hp hS (hl.sub [2, 3, 1, 0] rfl) hsh
set_option maxRecDepth 100000 in
set_option maxHeartbeats 4000000 in
theorem w13_marksPlaces_b168 {p : Program} {l : Launch} {e : Env} {s : State} {m : MethodId} {args : Array Value} {below : List Frame} {meth : Method} {c : Code} {D : va_G} {cA : Nat → ClassId} {B : Nat} {res : Int × HP} (E : e_En p s m args meth c cX13_marksPlaces RX13 6 (some .boolean)) {ls : Array Slot} {H : Heap} {locs : List Loc} {S : HP} {x0 : Int} {x1 : Int} {y0 : Int} (hp : e_Pic D cA B S s H) (hS : va_S (e_A B) s.heap H locs) (hl : e_lo ls 6 [(0, e_rv B (x0)), (1, .int (iI (x1)))]) (hsh : s13_marksPlaces_b168 S x0 x1 y0 = some res) : W p l e ({ frames := 2, cells := 0, slots := 0, locals := 46 } : Room) s m args below meth c H locs 0 0 (MQ below (e_Qi D cA B res.1 res.2) args s 0 0 (e_A B)) (F0 m 168 ls [.int (iI (y0))]) := by
  obtain ⟨hx, hb, hml, hown, hts, hlk, hrt⟩ := id E
  unfold s13_marksPlaces_b168 at hsh
  refine lv_iconst (v := iI (0)) hx hb dX13_marksPlaces_168 rfl ?_
  refine lv_goto (tgt := 173) hx hb dX13_marksPlaces_169 (by decide) ?_
  exact w13_marksPlaces_b173 E hp hS (hl.sub [0, 1] rfl) hsh
set_option maxRecDepth 100000 in
set_option maxHeartbeats 4000000 in
theorem w13_marksPlaces_b156 {p : Program} {l : Launch} {e : Env} {s : State} {m : MethodId} {args : Array Value} {below : List Frame} {meth : Method} {c : Code} {D : va_G} {cA : Nat → ClassId} {B : Nat} {res : Int × HP} (E : e_En p s m args meth c cX13_marksPlaces RX13 6 (some .boolean)) {ls : Array Slot} {H : Heap} {locs : List Loc} {S : HP} {x0 : Int} {x1 : Int} {x2 : Int} {y0 : Int} (hp : e_Pic D cA B S s H) (hS : va_S (e_A B) s.heap H locs) (hl : e_lo ls 6 [(0, e_rv B (x0)), (1, .int (iI (x1))), (2, .int (iI (x2)))]) (hsh : s13_marksPlaces_b156 S x0 x1 x2 y0 = some res) : W p l e ({ frames := 2, cells := 0, slots := 0, locals := 46 } : Room) s m args below meth c H locs 0 0 (MQ below (e_Qi D cA B res.1 res.2) args s 0 0 (e_A B)) (F0 m 156 ls [.int (iI (y0))]) := by
  obtain ⟨hx, hb, hml, hown, hts, hlk, hrt⟩ := id E
  unfold s13_marksPlaces_b156 at hsh
  refine e_istore_n (lv' := [(3, .int (iI (y0))), (0, e_rv B (x0)), (1, .int (iI (x1))), (2, .int (iI (x2)))]) hx hb dX13_marksPlaces_156 rfl hl (by decide) rfl (fun ls hl => ?_)
  refine lv_iload_n hx hb dX13_marksPlaces_157 rfl (hl.at 3 rfl) ?_
  refine lv_iload_n hx hb dX13_marksPlaces_158 rfl (hl.at 0 rfl) ?_
  refine e_if_ne (tgt := 168) hx hb dX13_marksPlaces_159 (by decide) (fun c159 => ?_) (fun c159 => ?_)
  · rw [if_neg c159] at hsh
    exact w13_marksPlaces_b168 E hp hS (hl.sub [1, 2] rfl) hsh
  · rw [if_pos c159] at hsh
    refine lv_iload_n hx hb dX13_marksPlaces_162 rfl (hl.at 3 rfl) ?_
    refine lv_bipush (v := iI (10)) hx hb dX13_marksPlaces_163 (by decide +kernel) ?_
    refine e_icmp_ge (tgt := 172) hx hb dX13_marksPlaces_165 (by decide) (fun c165 => ?_) (fun c165 => ?_)
    · rw [if_pos c165] at hsh
      refine lv_iconst (v := iI (1)) hx hb dX13_marksPlaces_172 rfl ?_
      exact w13_marksPlaces_b173 E hp hS (hl.sub [1, 2] rfl) hsh
    · rw [if_neg c165] at hsh
      exact w13_marksPlaces_b168 E hp hS (hl.sub [1, 2] rfl) hsh
set_option maxRecDepth 100000 in
set_option maxHeartbeats 4000000 in
theorem w13_marksPlaces_b126 {p : Program} {l : Launch} {e : Env} {s : State} {m : MethodId} {args : Array Value} {below : List Frame} {meth : Method} {c : Code} {D : va_G} {cA : Nat → ClassId} {B : Nat} {res : Int × HP} (E : e_En p s m args meth c cX13_marksPlaces RX13 6 (some .boolean)) {ls : Array Slot} {H : Heap} {locs : List Loc} {S : HP} {x0 : Int} {x2 : Int} {y0 : Int} (hp : e_Pic D cA B S s H) (hS : va_S (e_A B) s.heap H locs) (hl : e_lo ls 6 [(0, e_rv B (x0)), (2, .int (iI (x2)))]) (hsh : s13_marksPlaces_b126 S x0 x2 y0 = some res) : W p l e ({ frames := 2, cells := 0, slots := 0, locals := 46 } : Room) s m args below meth c H locs 0 0 (MQ below (e_Qi D cA B res.1 res.2) args s 0 0 (e_A B)) (F0 m 126 ls [.int (iI (y0))]) := by
  obtain ⟨hx, hb, hml, hown, hts, hlk, hrt⟩ := id E
  unfold s13_marksPlaces_b126 at hsh
  refine e_istore_n (lv' := [(1, .int (iI (y0))), (0, e_rv B (x0)), (2, .int (iI (x2)))]) hx hb dX13_marksPlaces_126 rfl hl (by decide) rfl (fun ls hl => ?_)
  refine lv_iload_n hx hb dX13_marksPlaces_127 rfl (hl.at 0 rfl) ?_
  refine lv_bipush (v := iI (60)) hx hb dX13_marksPlaces_128 (by decide +kernel) ?_
  refine e_aload_n (B := B) (x := x0) hx hb dX13_marksPlaces_130 rfl (hl.at 1 rfl) ?_
  obtain ⟨v131, h131, hsh⟩ := Option.bind_eq_some_iff.mp hsh
  refine e_getR (k := 24) hx hb hts in_X13 hown hp h131 rfl (by decide) (by decide) rfl (hts _ kf13_54) rfl dX13_marksPlaces_131 ?_
  refine lv_iload_n hx hb dX13_marksPlaces_134 rfl (hl.at 2 rfl) ?_
  refine lv_iconst (v := iI (1)) hx hb dX13_marksPlaces_135 rfl ?_
  refine e_isub hx hb dX13_marksPlaces_136 ?_
  obtain ⟨v137, h137, hsh⟩ := Option.bind_eq_some_iff.mp hsh
  refine e_iald hx hb hp h137 dX13_marksPlaces_137 ?_
  refine e_imul hx hb dX13_marksPlaces_138 ?_
  refine e_aload_n (B := B) (x := x0) hx hb dX13_marksPlaces_139 rfl (hl.at 1 rfl) ?_
  obtain ⟨v140, h140, hsh⟩ := Option.bind_eq_some_iff.mp hsh
  refine e_getR (k := 25) hx hb hts in_X13 hown hp h140 rfl (by decide) (by decide) rfl (hts _ kf13_57) rfl dX13_marksPlaces_140 ?_
  refine lv_iload_n hx hb dX13_marksPlaces_143 rfl (hl.at 2 rfl) ?_
  refine lv_iconst (v := iI (1)) hx hb dX13_marksPlaces_144 rfl ?_
  refine e_isub hx hb dX13_marksPlaces_145 ?_
  obtain ⟨v146, h146, hsh⟩ := Option.bind_eq_some_iff.mp hsh
  refine e_iald hx hb hp h146 dX13_marksPlaces_146 ?_
  refine e_iadd hx hb dX13_marksPlaces_147 ?_
  refine e_icmp_gt (tgt := 155) hx hb dX13_marksPlaces_148 (by decide) (fun c148 => ?_) (fun c148 => ?_)
  · rw [if_pos c148] at hsh
    refine lv_iconst (v := iI (0)) hx hb dX13_marksPlaces_155 rfl ?_
    exact w13_marksPlaces_b156 E hp hS (hl.sub [1, 0, 2] rfl) hsh
  · rw [if_neg c148] at hsh
    refine lv_iconst (v := iI (1)) hx hb dX13_marksPlaces_151 rfl ?_
    refine lv_goto (tgt := 156) hx hb dX13_marksPlaces_152 (by decide) ?_
    exact w13_marksPlaces_b156 E hp hS (hl.sub [1, 0, 2] rfl) hsh
set_option maxRecDepth 100000 in
set_option maxHeartbeats 4000000 in
theorem w13_marksPlaces_b89 {p : Program} {l : Launch} {e : Env} {s : State} {m : MethodId} {args : Array Value} {below : List Frame} {meth : Method} {c : Code} {D : va_G} {cA : Nat → ClassId} {B : Nat} {res : Int × HP} {k6 : HP → Int → Int → Int → Int → Option (Int × HP)} (hk6 : ∀ {ls : Array Slot} {H : Heap} {locs : List Loc} {S : HP} {x0 : Int} {x1 : Int} {x2 : Int} {x3 : Int} (hp : e_Pic D cA B S s H) (hS : va_S (e_A B) s.heap H locs) (hl : e_lo ls 6 [(0, e_rv B (x0)), (1, .int (iI (x1))), (2, .int (iI (x2))), (3, .int (iI (x3)))]) (hsh : k6 S x0 x1 x2 x3 = some res), W p l e ({ frames := 2, cells := 0, slots := 0, locals := 46 } : Room) s m args below meth c H locs 0 0 (MQ below (e_Qi D cA B res.1 res.2) args s 0 0 (e_A B)) (F0 m 6 ls [])) (E : e_En p s m args meth c cX13_marksPlaces RX13 6 (some .boolean)) {ls : Array Slot} {H : Heap} {locs : List Loc} {S : HP} {x0 : Int} {x1 : Int} {x2 : Int} {x3 : Int} (hp : e_Pic D cA B S s H) (hS : va_S (e_A B) s.heap H locs) (hl : e_lo ls 6 [(0, e_rv B (x0)), (1, .int (iI (x1))), (2, .int (iI (x2))), (3, .int (iI (x3)))]) (hsh : s13_marksPlaces_b89 k6 S x0 x1 x2 x3 = some res) : W p l e ({ frames := 2, cells := 0, slots := 0, locals := 46 } : Room) s m args below meth c H locs 0 0 (MQ below (e_Qi D cA B res.1 res.2) args s 0 0 (e_A B)) (F0 m 89 ls []) := by
  obtain ⟨hx, hb, hml, hown, hts, hlk, hrt⟩ := id E
  unfold s13_marksPlaces_b89 at hsh
  refine e_iinc (n := 1) (x := x3) (lv' := [(3, .int (iI ((x3 + 1)))), (0, e_rv B (x0)), (1, .int (iI (x1))), (2, .int (iI (x2)))]) hx hb dX13_marksPlaces_89 hl (k := 3) rfl (by decide) rfl (fun ls hl => ?_)
  refine lv_goto (tgt := 6) hx hb dX13_marksPlaces_92 (by decide) ?_
  exact hk6 hp hS (hl.sub [1, 2, 3, 0] rfl) hsh
set_option maxRecDepth 100000 in
set_option maxHeartbeats 4000000 in
theorem w13_marksPlaces_b63 {p : Program} {l : Launch} {e : Env} {s : State} {m : MethodId} {args : Array Value} {below : List Frame} {meth : Method} {c : Code} {D : va_G} {cA : Nat → ClassId} {B : Nat} {res : Int × HP} {k6 : HP → Int → Int → Int → Int → Option (Int × HP)} (hk6 : ∀ {ls : Array Slot} {H : Heap} {locs : List Loc} {S : HP} {x0 : Int} {x1 : Int} {x2 : Int} {x3 : Int} (hp : e_Pic D cA B S s H) (hS : va_S (e_A B) s.heap H locs) (hl : e_lo ls 6 [(0, e_rv B (x0)), (1, .int (iI (x1))), (2, .int (iI (x2))), (3, .int (iI (x3)))]) (hsh : k6 S x0 x1 x2 x3 = some res), W p l e ({ frames := 2, cells := 0, slots := 0, locals := 46 } : Room) s m args below meth c H locs 0 0 (MQ below (e_Qi D cA B res.1 res.2) args s 0 0 (e_A B)) (F0 m 6 ls [])) (E : e_En p s m args meth c cX13_marksPlaces RX13 6 (some .boolean)) {ls : Array Slot} {H : Heap} {locs : List Loc} {S : HP} {x0 : Int} {x2 : Int} {x3 : Int} {x4 : Int} {x5 : Int} {y0 : Int} (hp : e_Pic D cA B S s H) (hS : va_S (e_A B) s.heap H locs) (hl : e_lo ls 6 [(0, e_rv B (x0)), (2, .int (iI (x2))), (3, .int (iI (x3))), (4, .int (iI (x4))), (5, .int (iI (x5)))]) (hsh : s13_marksPlaces_b63 k6 S x0 x2 x3 x4 x5 y0 = some res) : W p l e ({ frames := 2, cells := 0, slots := 0, locals := 46 } : Room) s m args below meth c H locs 0 0 (MQ below (e_Qi D cA B res.1 res.2) args s 0 0 (e_A B)) (F0 m 63 ls [.int (iI (y0))]) := by
  obtain ⟨hx, hb, hml, hown, hts, hlk, hrt⟩ := id E
  unfold s13_marksPlaces_b63 at hsh
  refine e_istore_n (lv' := [(1, .int (iI (y0))), (0, e_rv B (x0)), (2, .int (iI (x2))), (3, .int (iI (x3))), (4, .int (iI (x4))), (5, .int (iI (x5)))]) hx hb dX13_marksPlaces_63 rfl hl (by decide) rfl (fun ls hl => ?_)
  refine lv_iload_n hx hb dX13_marksPlaces_64 rfl (hl.at 2 rfl) ?_
  refine lv_bipush (v := iI (10)) hx hb dX13_marksPlaces_65 (by decide +kernel) ?_
  refine e_icmp_ge (tgt := 89) hx hb dX13_marksPlaces_67 (by decide) (fun c67 => ?_) (fun c67 => ?_)
  · rw [if_pos c67] at hsh
    exact w13_marksPlaces_b89 (hk6 := hk6) E hp hS (hl.sub [1, 0, 2, 3] rfl) hsh
  · rw [if_neg c67] at hsh
    refine e_aload_n (B := B) (x := x0) hx hb dX13_marksPlaces_70 rfl (hl.at 1 rfl) ?_
    obtain ⟨v71, h71, hsh⟩ := Option.bind_eq_some_iff.mp hsh
    refine e_getR (k := 24) hx hb hts in_X13 hown hp h71 rfl (by decide) (by decide) rfl (hts _ kf13_54) rfl dX13_marksPlaces_71 ?_
    refine lv_iload_n hx hb dX13_marksPlaces_74 rfl (hl.at 2 rfl) ?_
    refine lv_iload hx hb dX13_marksPlaces_75 (hl.at 4 rfl) ?_
    obtain ⟨S77, h77, hsh⟩ := Option.bind_eq_some_iff.mp hsh
    refine e_iast hx hb hp hS h77 dX13_marksPlaces_77 (fun H locs hp hS => ?_)
    refine e_aload_n (B := B) (x := x0) hx hb dX13_marksPlaces_78 rfl (hl.at 1 rfl) ?_
    obtain ⟨v79, h79, hsh⟩ := Option.bind_eq_some_iff.mp hsh
    refine e_getR (k := 25) hx hb hts in_X13 hown hp h79 rfl (by decide) (by decide) rfl (hts _ kf13_57) rfl dX13_marksPlaces_79 ?_
    refine lv_iload_n hx hb dX13_marksPlaces_82 rfl (hl.at 2 rfl) ?_
    refine lv_iload hx hb dX13_marksPlaces_83 (hl.at 5 rfl) ?_
    obtain ⟨S85, h85, hsh⟩ := Option.bind_eq_some_iff.mp hsh
    refine e_iast hx hb hp hS h85 dX13_marksPlaces_85 (fun H locs hp hS => ?_)
    refine e_iinc (n := 1) (x := x2) (lv' := [(2, .int (iI ((x2 + 1)))), (1, .int (iI (y0))), (0, e_rv B (x0)), (3, .int (iI (x3))), (4, .int (iI (x4))), (5, .int (iI (x5)))]) hx hb dX13_marksPlaces_86 hl (k := 2) rfl (by decide) rfl (fun ls hl => ?_)
    exact w13_marksPlaces_b89 (hk6 := hk6) E hp hS (hl.sub [2, 1, 0, 3] rfl) hsh
set_option maxRecDepth 100000 in
set_option maxHeartbeats 4000000 in
theorem w13_marksPlaces_b62 {p : Program} {l : Launch} {e : Env} {s : State} {m : MethodId} {args : Array Value} {below : List Frame} {meth : Method} {c : Code} {D : va_G} {cA : Nat → ClassId} {B : Nat} {res : Int × HP} {k6 : HP → Int → Int → Int → Int → Option (Int × HP)} (hk6 : ∀ {ls : Array Slot} {H : Heap} {locs : List Loc} {S : HP} {x0 : Int} {x1 : Int} {x2 : Int} {x3 : Int} (hp : e_Pic D cA B S s H) (hS : va_S (e_A B) s.heap H locs) (hl : e_lo ls 6 [(0, e_rv B (x0)), (1, .int (iI (x1))), (2, .int (iI (x2))), (3, .int (iI (x3)))]) (hsh : k6 S x0 x1 x2 x3 = some res), W p l e ({ frames := 2, cells := 0, slots := 0, locals := 46 } : Room) s m args below meth c H locs 0 0 (MQ below (e_Qi D cA B res.1 res.2) args s 0 0 (e_A B)) (F0 m 6 ls [])) (E : e_En p s m args meth c cX13_marksPlaces RX13 6 (some .boolean)) {ls : Array Slot} {H : Heap} {locs : List Loc} {S : HP} {x0 : Int} {x1 : Int} {x2 : Int} {x3 : Int} {x4 : Int} {x5 : Int} (hp : e_Pic D cA B S s H) (hS : va_S (e_A B) s.heap H locs) (hl : e_lo ls 6 [(0, e_rv B (x0)), (1, .int (iI (x1))), (2, .int (iI (x2))), (3, .int (iI (x3))), (4, .int (iI (x4))), (5, .int (iI (x5)))]) (hsh : s13_marksPlaces_b62 k6 S x0 x1 x2 x3 x4 x5 = some res) : W p l e ({ frames := 2, cells := 0, slots := 0, locals := 46 } : Room) s m args below meth c H locs 0 0 (MQ below (e_Qi D cA B res.1 res.2) args s 0 0 (e_A B)) (F0 m 62 ls []) := by
  obtain ⟨hx, hb, hml, hown, hts, hlk, hrt⟩ := id E
  unfold s13_marksPlaces_b62 at hsh
  refine lv_iload_n hx hb dX13_marksPlaces_62 rfl (hl.at 1 rfl) ?_
  exact w13_marksPlaces_b63 (hk6 := hk6) E hp hS (hl.sub [0, 2, 3, 4, 5] rfl) hsh
set_option maxRecDepth 100000 in
set_option maxHeartbeats 4000000 in
theorem w13_marksPlaces_l6 {p : Program} {l : Launch} {e : Env} {s : State} {m : MethodId} {args : Array Value} {below : List Frame} {meth : Method} {c : Code} {D : va_G} {cA : Nat → ClassId} {B : Nat} {res : Int × HP} (E : e_En p s m args meth c cX13_marksPlaces RX13 6 (some .boolean)) : ∀ (f : Nat) {ls : Array Slot} {H : Heap} {locs : List Loc} {S : HP} {x0 : Int} {x1 : Int} {x2 : Int} {x3 : Int} (hp : e_Pic D cA B S s H) (hS : va_S (e_A B) s.heap H locs) (hl : e_lo ls 6 [(0, e_rv B (x0)), (1, .int (iI (x1))), (2, .int (iI (x2))), (3, .int (iI (x3)))]) (hsh : s13_marksPlaces_l6 f S x0 x1 x2 x3 = some res), W p l e ({ frames := 2, cells := 0, slots := 0, locals := 46 } : Room) s m args below meth c H locs 0 0 (MQ below (e_Qi D cA B res.1 res.2) args s 0 0 (e_A B)) (F0 m 6 ls []) := by
  obtain ⟨hx, hb, hml, hown, hts, hlk, hrt⟩ := id E
  intro f
  induction f with
  | zero => intro ls H locs S x0 x1 x2 x3 hp hS hl hsh; cases hsh
  | succ f ih =>
    intro ls H locs S x0 x1 x2 x3 hp hS hl hsh
    have hk6 : ∀ {ls : Array Slot} {H : Heap} {locs : List Loc} {S : HP} {x0 : Int} {x1 : Int} {x2 : Int} {x3 : Int} (hp : e_Pic D cA B S s H) (hS : va_S (e_A B) s.heap H locs) (hl : e_lo ls 6 [(0, e_rv B (x0)), (1, .int (iI (x1))), (2, .int (iI (x2))), (3, .int (iI (x3)))]) (hsh : (s13_marksPlaces_l6 f) S x0 x1 x2 x3 = some res), W p l e ({ frames := 2, cells := 0, slots := 0, locals := 46 } : Room) s m args below meth c H locs 0 0 (MQ below (e_Qi D cA B res.1 res.2) args s 0 0 (e_A B)) (F0 m 6 ls []) := ih
    generalize hkk : s13_marksPlaces_l6 f = k6 at hk6
    rw [s13_marksPlaces_l6] at hsh
    rw [hkk] at hsh
    try dsimp only at hsh
    refine lv_iload_n hx hb dX13_marksPlaces_6 rfl (hl.at 3 rfl) ?_
    refine lv_bipush (v := iI (60)) hx hb dX13_marksPlaces_7 (by decide +kernel) ?_
    refine e_aload_n (B := B) (x := x0) hx hb dX13_marksPlaces_9 rfl (hl.at 0 rfl) ?_
    obtain ⟨v10, h10, hsh⟩ := Option.bind_eq_some_iff.mp hsh
    refine e_getI (k := 2) hx hb hts in_X13 hown hp h10 rfl (by decide) (by decide) rfl (hts _ kf13_13) rfl dX13_marksPlaces_10 ?_
    refine e_imul hx hb dX13_marksPlaces_13 ?_
    refine e_icmp_ge (tgt := 95) hx hb dX13_marksPlaces_14 (by decide) (fun c14 => ?_) (fun c14 => ?_)
    · rw [if_pos c14] at hsh
      refine lv_iload_n hx hb dX13_marksPlaces_95 rfl (hl.at 2 rfl) ?_
      refine e_if_ne (tgt := 101) hx hb dX13_marksPlaces_96 (by decide) (fun c96 => ?_) (fun c96 => ?_)
      · rw [if_neg c96] at hsh
        refine lv_iload_n hx hb dX13_marksPlaces_101 rfl (hl.at 1 rfl) ?_
        refine lv_iconst (v := iI (-1)) hx hb dX13_marksPlaces_102 rfl ?_
        refine e_icmp_ne (tgt := 125) hx hb dX13_marksPlaces_103 (by decide) (fun c103 => ?_) (fun c103 => ?_)
        · rw [if_neg c103] at hsh
          refine lv_iload_n hx hb dX13_marksPlaces_125 rfl (hl.at 1 rfl) ?_
          exact w13_marksPlaces_b126 E hp hS (hl.sub [0, 2] rfl) hsh
        · rw [if_pos c103] at hsh
          refine lv_bipush (v := iI (60)) hx hb dX13_marksPlaces_106 (by decide +kernel) ?_
          refine e_aload_n (B := B) (x := x0) hx hb dX13_marksPlaces_108 rfl (hl.at 0 rfl) ?_
          obtain ⟨v109, h109, hsh⟩ := Option.bind_eq_some_iff.mp hsh
          refine e_getR (k := 24) hx hb hts in_X13 hown hp h109 rfl (by decide) (by decide) rfl (hts _ kf13_54) rfl dX13_marksPlaces_109 ?_
          refine lv_iconst (v := iI (0)) hx hb dX13_marksPlaces_112 rfl ?_
          obtain ⟨v113, h113, hsh⟩ := Option.bind_eq_some_iff.mp hsh
          refine e_iald hx hb hp h113 dX13_marksPlaces_113 ?_
          refine e_imul hx hb dX13_marksPlaces_114 ?_
          refine e_aload_n (B := B) (x := x0) hx hb dX13_marksPlaces_115 rfl (hl.at 0 rfl) ?_
          obtain ⟨v116, h116, hsh⟩ := Option.bind_eq_some_iff.mp hsh
          refine e_getR (k := 25) hx hb hts in_X13 hown hp h116 rfl (by decide) (by decide) rfl (hts _ kf13_57) rfl dX13_marksPlaces_116 ?_
          refine lv_iconst (v := iI (0)) hx hb dX13_marksPlaces_119 rfl ?_
          obtain ⟨v120, h120, hsh⟩ := Option.bind_eq_some_iff.mp hsh
          refine e_iald hx hb hp h120 dX13_marksPlaces_120 ?_
          refine e_iadd hx hb dX13_marksPlaces_121 ?_
          refine lv_goto (tgt := 126) hx hb dX13_marksPlaces_122 (by decide) ?_
          exact w13_marksPlaces_b126 E hp hS (hl.sub [0, 2] rfl) hsh
      · rw [if_pos c96] at hsh
        refine lv_iconst (v := iI (0)) hx hb dX13_marksPlaces_99 rfl ?_
        obtain ⟨hz, hz1, hz2⟩ := zR_some hsh
        rw [← hz1, ← hz2]
        exact e_zret hx hb hrt hlk hp hS hz dX13_marksPlaces_100
    · rw [if_neg c14] at hsh
      refine lv_iload_n hx hb dX13_marksPlaces_17 rfl (hl.at 3 rfl) ?_
      refine lv_bipush (v := iI (60)) hx hb dX13_marksPlaces_18 (by decide +kernel) ?_
      obtain ⟨v20, h20, hsh⟩ := Option.bind_eq_some_iff.mp hsh
      refine e_idiv hx hb h20 dX13_marksPlaces_20 ?_
      refine e_istore (lv' := [(4, .int (iI (v20))), (0, e_rv B (x0)), (1, .int (iI (x1))), (2, .int (iI (x2))), (3, .int (iI (x3)))]) hx hb dX13_marksPlaces_21 hl (by decide) rfl (fun ls hl => ?_)
      refine lv_iload_n hx hb dX13_marksPlaces_23 rfl (hl.at 4 rfl) ?_
      refine lv_bipush (v := iI (60)) hx hb dX13_marksPlaces_24 (by decide +kernel) ?_
      obtain ⟨v26, h26, hsh⟩ := Option.bind_eq_some_iff.mp hsh
      refine e_irem hx hb h26 dX13_marksPlaces_26 ?_
      refine e_istore (lv' := [(5, .int (iI (v26))), (4, .int (iI (v20))), (0, e_rv B (x0)), (1, .int (iI (x1))), (2, .int (iI (x2))), (3, .int (iI (x3)))]) hx hb dX13_marksPlaces_27 hl (by decide) rfl (fun ls hl => ?_)
      refine e_aload_n (B := B) (x := x0) hx hb dX13_marksPlaces_29 rfl (hl.at 2 rfl) ?_
      refine lv_iload hx hb dX13_marksPlaces_30 (hl.at 1 rfl) ?_
      refine lv_iload hx hb dX13_marksPlaces_32 (hl.at 0 rfl) ?_
      obtain ⟨⟨v34, S34⟩, h34, hsh⟩ := Option.bind_eq_some_iff.mp hsh
      have hsh : _ = _ := hsh
      try dsimp only at hsh
      have ok34 := ok13_stands h34
      refine e_callI (nL := 6) (mc := 0) (ms := 0) (T := TX13) (N := 126) (As := [.int (iI (v20)), .int (iI (v26))]) (rest := []) hx hb hml hown hts hp hS hl.size ok34.1 ok34.2.1 ok34.2.2 rfl (by decide) (c13_stands l D cA B S S34 (x0) (v20) (v26) v34 h34) rfl rfl kd13_stands (kl13_327) ks13_stands kv13_stands ki13 kh13_stands ⟨Nat.le_of_ble_eq_true rfl, Nat.le_of_ble_eq_true rfl⟩ rfl (by simp [e_rv_cat, e_int_cat]) ⟨Nat.le_refl _, Nat.le_refl _⟩ dX13_marksPlaces_34 rfl (fun H locs hp hS => ?_)
      refine e_if_eq (tgt := 89) hx hb dX13_marksPlaces_37 (by decide) (fun c37 => ?_) (fun c37 => ?_)
      · rw [if_pos c37] at hsh
        exact w13_marksPlaces_b89 (hk6 := hk6) E hp hS (hl.sub [2, 3, 4, 5] rfl) hsh
      · rw [if_neg c37] at hsh
        refine lv_iload hx hb dX13_marksPlaces_40 (hl.at 1 rfl) ?_
        refine e_aload_n (B := B) (x := x0) hx hb dX13_marksPlaces_42 rfl (hl.at 2 rfl) ?_
        obtain ⟨v43, h43, hsh⟩ := Option.bind_eq_some_iff.mp hsh
        refine e_getI (k := 5) hx hb hts in_X13 hown hp h43 rfl (by decide) (by decide) rfl (hts _ kf13_213) rfl dX13_marksPlaces_43 ?_
        refine e_icmp_ne (tgt := 62) hx hb dX13_marksPlaces_46 (by decide) (fun c46 => ?_) (fun c46 => ?_)
        · rw [if_neg c46] at hsh
          exact w13_marksPlaces_b62 (hk6 := hk6) E hp hS (hl.sub [2, 3, 4, 5, 1, 0] rfl) hsh
        · rw [if_pos c46] at hsh
          refine lv_iload hx hb dX13_marksPlaces_49 (hl.at 0 rfl) ?_
          refine e_aload_n (B := B) (x := x0) hx hb dX13_marksPlaces_51 rfl (hl.at 2 rfl) ?_
          obtain ⟨v52, h52, hsh⟩ := Option.bind_eq_some_iff.mp hsh
          refine e_getI (k := 6) hx hb hts in_X13 hown hp h52 rfl (by decide) (by decide) rfl (hts _ kf13_216) rfl dX13_marksPlaces_52 ?_
          refine e_icmp_ne (tgt := 62) hx hb dX13_marksPlaces_55 (by decide) (fun c55 => ?_) (fun c55 => ?_)
          · rw [if_neg c55] at hsh
            exact w13_marksPlaces_b62 (hk6 := hk6) E hp hS (hl.sub [2, 3, 4, 5, 1, 0] rfl) hsh
          · rw [if_pos c55] at hsh
            refine lv_iload_n hx hb dX13_marksPlaces_58 rfl (hl.at 5 rfl) ?_
            refine lv_goto (tgt := 63) hx hb dX13_marksPlaces_59 (by decide) ?_
            exact w13_marksPlaces_b63 (hk6 := hk6) E hp hS (hl.sub [2, 4, 5, 1, 0] rfl) hsh
set_option maxRecDepth 100000 in
set_option maxHeartbeats 4000000 in
theorem c13_marksPlaces (l : Launch) (D : va_G) (cA : Nat → ClassId) (B : Nat) (S S' : HP) (x0 : Int) (r : Int) (hsh : s13_marksPlaces S x0 = some (r, S')) : Met l yX13_marksPlaces (e_wu yX13_marksPlaces cX13_marksPlaces 6 (some .boolean)) ({ frames := 2, cells := 0, slots := 0, locals := 46 } : Room) (va_Pc [e_rv B (x0)] (fun U => e_PU D cA B S U)) (e_Qi D cA B r S') 0 0 (e_A B) := by
  refine Met.ofW (cc := cX13_marksPlaces) (maxL := 6) (ret := (some .boolean)) (by decide +kernel) rfl ?_
  intro p e s m args below meth c s₁ Bd hml hv
  obtain ⟨rfl, hp⟩ := hv
  have hp : e_Pic D cA B S s s.heap := hp
  have hx := Bd.exec
  have hb := Bd.bytes
  have hrt := Bd.returns
  have hlk := Bd.notSynchronized
  have hown : s.vm.findClass RX13 = some m.cls := findClass_of_methodNamed Bd.named
  have hts : ∀ w ∈ e_tb, w.before ([e_rv B (x0)] : List Value).toArray s = true := fun w h => atoms_spec (ws := (e_wu yX13_marksPlaces cX13_marksPlaces 6 (some .boolean))) Bd.pre w (List.mem_cons_of_mem _ h)
  have E : e_En p s m ([e_rv B (x0)] : List Value).toArray meth c cX13_marksPlaces RX13 6 (some .boolean) := ⟨hx, hb, hml, hown, hts, hlk, hrt⟩
  have hS : va_S (e_A B) s.heap s.heap [] := va_S.rf
  have hl := e_entry (vs := [e_rv B (x0)]) (n := 6) (Nat.le_of_ble_eq_true rfl) (e_cc (e_rv_cat _ _) e_cn)
  rw [lg_entry_eq]
  generalize (lg_sl [e_rv B (x0)] ++ List.replicate (6 - (lg_sl [e_rv B (x0)]).length) Slot.unset).toArray = ls at hl ⊢
  generalize ([e_rv B (x0)] : List Value).toArray = args at hts E ⊢
  have hl : e_lo ls 6 [(0, e_rv B (x0))] := hl
  have hsh := (gd_some hsh).2
  refine lv_iconst (v := iI (-1)) hx hb dX13_marksPlaces_0 rfl ?_
  refine e_istore_n (lv' := [(1, .int (iI ((-1)))), (0, e_rv B (x0))]) hx hb dX13_marksPlaces_1 rfl hl (by decide) rfl (fun ls hl => ?_)
  refine lv_iconst (v := iI (0)) hx hb dX13_marksPlaces_2 rfl ?_
  refine e_istore_n (lv' := [(2, .int (iI (0))), (1, .int (iI ((-1)))), (0, e_rv B (x0))]) hx hb dX13_marksPlaces_3 rfl hl (by decide) rfl (fun ls hl => ?_)
  refine lv_iconst (v := iI (0)) hx hb dX13_marksPlaces_4 rfl ?_
  refine e_istore_n (lv' := [(3, .int (iI (0))), (2, .int (iI (0))), (1, .int (iI ((-1)))), (0, e_rv B (x0))]) hx hb dX13_marksPlaces_5 rfl hl (by decide) rfl (fun ls hl => ?_)
  exact w13_marksPlaces_l6 E 1000000 hp hS (hl.sub [3, 2, 1, 0] rfl) hsh
set_option maxRecDepth 100000 in
set_option maxHeartbeats 4000000 in
theorem w13_isOperator_b49 {p : Program} {l : Launch} {e : Env} {s : State} {m : MethodId} {args : Array Value} {below : List Frame} {meth : Method} {c : Code} {D : va_G} {cA : Nat → ClassId} {B : Nat} {res : Int × HP} (E : e_En p s m args meth c cX13_isOperator RX13 1 (some .boolean)) {ls : Array Slot} {H : Heap} {locs : List Loc} {S : HP} {y0 : Int} (hp : e_Pic D cA B S s H) (hS : va_S (e_A B) s.heap H locs) (hl : e_lo ls 1 []) (hsh : s13_isOperator_b49 S y0 = some res) : W p l e ({ frames := 0, cells := 0, slots := 0, locals := 0 } : Room) s m args below meth c H locs 0 0 (MQ below (e_Qi D cA B res.1 res.2) args s 0 0 (e_A B)) (F0 m 49 ls [.int (iI (y0))]) := by
  obtain ⟨hx, hb, hml, hown, hts, hlk, hrt⟩ := id E
  unfold s13_isOperator_b49 at hsh
  obtain ⟨hz, hz1, hz2⟩ := zR_some hsh
  rw [← hz1, ← hz2]
  exact e_zret hx hb hrt hlk hp hS hz dX13_isOperator_49
set_option maxRecDepth 100000 in
set_option maxHeartbeats 4000000 in
theorem w13_isOperator_b44 {p : Program} {l : Launch} {e : Env} {s : State} {m : MethodId} {args : Array Value} {below : List Frame} {meth : Method} {c : Code} {D : va_G} {cA : Nat → ClassId} {B : Nat} {res : Int × HP} (E : e_En p s m args meth c cX13_isOperator RX13 1 (some .boolean)) {ls : Array Slot} {H : Heap} {locs : List Loc} {S : HP} (hp : e_Pic D cA B S s H) (hS : va_S (e_A B) s.heap H locs) (hl : e_lo ls 1 []) (hsh : s13_isOperator_b44 S  = some res) : W p l e ({ frames := 0, cells := 0, slots := 0, locals := 0 } : Room) s m args below meth c H locs 0 0 (MQ below (e_Qi D cA B res.1 res.2) args s 0 0 (e_A B)) (F0 m 44 ls []) := by
  obtain ⟨hx, hb, hml, hown, hts, hlk, hrt⟩ := id E
  unfold s13_isOperator_b44 at hsh
  refine lv_iconst (v := iI (1)) hx hb dX13_isOperator_44 rfl ?_
  refine lv_goto (tgt := 49) hx hb dX13_isOperator_45 (by decide) ?_
  exact w13_isOperator_b49 E hp hS (hl.sub [] rfl) hsh
set_option maxRecDepth 100000 in
set_option maxHeartbeats 4000000 in
theorem c13_isOperator (l : Launch) (D : va_G) (cA : Nat → ClassId) (B : Nat) (S S' : HP) (x0 : Int) (r : Int) (hsh : s13_isOperator S x0 = some (r, S')) : Met l yX13_isOperator (e_wu yX13_isOperator cX13_isOperator 1 (some .boolean)) ({ frames := 0, cells := 0, slots := 0, locals := 0 } : Room) (va_Pc [.int (iI (x0))] (fun U => e_PU D cA B S U)) (e_Qi D cA B r S') 0 0 (e_A B) := by
  refine Met.ofW (cc := cX13_isOperator) (maxL := 1) (ret := (some .boolean)) (by decide +kernel) rfl ?_
  intro p e s m args below meth c s₁ Bd hml hv
  obtain ⟨rfl, hp⟩ := hv
  have hp : e_Pic D cA B S s s.heap := hp
  have hx := Bd.exec
  have hb := Bd.bytes
  have hrt := Bd.returns
  have hlk := Bd.notSynchronized
  have hown : s.vm.findClass RX13 = some m.cls := findClass_of_methodNamed Bd.named
  have hts : ∀ w ∈ e_tb, w.before ([.int (iI (x0))] : List Value).toArray s = true := fun w h => atoms_spec (ws := (e_wu yX13_isOperator cX13_isOperator 1 (some .boolean))) Bd.pre w (List.mem_cons_of_mem _ h)
  have E : e_En p s m ([.int (iI (x0))] : List Value).toArray meth c cX13_isOperator RX13 1 (some .boolean) := ⟨hx, hb, hml, hown, hts, hlk, hrt⟩
  have hS : va_S (e_A B) s.heap s.heap [] := va_S.rf
  have hl := e_entry (vs := [.int (iI (x0))]) (n := 1) (Nat.le_of_ble_eq_true rfl) (e_cc rfl e_cn)
  rw [lg_entry_eq]
  generalize (lg_sl [.int (iI (x0))] ++ List.replicate (1 - (lg_sl [.int (iI (x0))]).length) Slot.unset).toArray = ls at hl ⊢
  generalize ([.int (iI (x0))] : List Value).toArray = args at hts E ⊢
  have hl : e_lo ls 1 [(0, .int (iI (x0)))] := hl
  unfold s13_isOperator at hsh
  refine lv_iload_n hx hb dX13_isOperator_0 rfl (hl.at 0 rfl) ?_
  refine lv_bipush (v := iI (100)) hx hb dX13_isOperator_1 (by decide +kernel) ?_
  refine e_icmp_eq (tgt := 44) hx hb dX13_isOperator_3 (by decide) (fun c3 => ?_) (fun c3 => ?_)
  · rw [if_pos c3] at hsh
    exact w13_isOperator_b44 E hp hS (hl.sub [] rfl) hsh
  · rw [if_neg c3] at hsh
    refine lv_iload_n hx hb dX13_isOperator_6 rfl (hl.at 0 rfl) ?_
    refine lv_bipush (v := iI (99)) hx hb dX13_isOperator_7 (by decide +kernel) ?_
    refine e_icmp_eq (tgt := 44) hx hb dX13_isOperator_9 (by decide) (fun c9 => ?_) (fun c9 => ?_)
    · rw [if_pos c9] at hsh
      exact w13_isOperator_b44 E hp hS (hl.sub [] rfl) hsh
    · rw [if_neg c9] at hsh
      refine lv_iload_n hx hb dX13_isOperator_12 rfl (hl.at 0 rfl) ?_
      refine lv_bipush (v := iI (121)) hx hb dX13_isOperator_13 (by decide +kernel) ?_
      refine e_icmp_eq (tgt := 44) hx hb dX13_isOperator_15 (by decide) (fun c15 => ?_) (fun c15 => ?_)
      · rw [if_pos c15] at hsh
        exact w13_isOperator_b44 E hp hS (hl.sub [] rfl) hsh
      · rw [if_neg c15] at hsh
        refine lv_iload_n hx hb dX13_isOperator_18 rfl (hl.at 0 rfl) ?_
        refine lv_bipush (v := iI (62)) hx hb dX13_isOperator_19 (by decide +kernel) ?_
        refine e_icmp_eq (tgt := 44) hx hb dX13_isOperator_21 (by decide) (fun c21 => ?_) (fun c21 => ?_)
        · rw [if_pos c21] at hsh
          exact w13_isOperator_b44 E hp hS (hl.sub [] rfl) hsh
        · rw [if_neg c21] at hsh
          refine lv_iload_n hx hb dX13_isOperator_24 rfl (hl.at 0 rfl) ?_
          refine lv_bipush (v := iI (60)) hx hb dX13_isOperator_25 (by decide +kernel) ?_
          refine e_icmp_eq (tgt := 44) hx hb dX13_isOperator_27 (by decide) (fun c27 => ?_) (fun c27 => ?_)
          · rw [if_pos c27] at hsh
            exact w13_isOperator_b44 E hp hS (hl.sub [] rfl) hsh
          · rw [if_neg c27] at hsh
            refine lv_iload_n hx hb dX13_isOperator_30 rfl (hl.at 0 rfl) ?_
            refine lv_sipush (v := iI (382)) hx hb dX13_isOperator_31 (by decide +kernel) ?_
            refine e_icmp_eq (tgt := 44) hx hb dX13_isOperator_34 (by decide) (fun c34 => ?_) (fun c34 => ?_)
            · rw [if_pos c34] at hsh
              exact w13_isOperator_b44 E hp hS (hl.sub [] rfl) hsh
            · rw [if_neg c34] at hsh
              refine lv_iload_n hx hb dX13_isOperator_37 rfl (hl.at 0 rfl) ?_
              refine lv_sipush (v := iI (614)) hx hb dX13_isOperator_38 (by decide +kernel) ?_
              refine e_icmp_ne (tgt := 48) hx hb dX13_isOperator_41 (by decide) (fun c41 => ?_) (fun c41 => ?_)
              · rw [if_neg c41] at hsh
                refine lv_iconst (v := iI (0)) hx hb dX13_isOperator_48 rfl ?_
                exact w13_isOperator_b49 E hp hS (hl.sub [] rfl) hsh
              · rw [if_pos c41] at hsh
                exact w13_isOperator_b44 E hp hS (hl.sub [] rfl) hsh
set_option maxRecDepth 100000 in
set_option maxHeartbeats 4000000 in
theorem w13_isObject_b41 {p : Program} {l : Launch} {e : Env} {s : State} {m : MethodId} {args : Array Value} {below : List Frame} {meth : Method} {c : Code} {D : va_G} {cA : Nat → ClassId} {B : Nat} {res : Int × HP} (E : e_En p s m args meth c cX13_isObject RX13 1 (some .boolean)) {ls : Array Slot} {H : Heap} {locs : List Loc} {S : HP} {y0 : Int} (hp : e_Pic D cA B S s H) (hS : va_S (e_A B) s.heap H locs) (hl : e_lo ls 1 []) (hsh : s13_isObject_b41 S y0 = some res) : W p l e ({ frames := 0, cells := 0, slots := 0, locals := 0 } : Room) s m args below meth c H locs 0 0 (MQ below (e_Qi D cA B res.1 res.2) args s 0 0 (e_A B)) (F0 m 41 ls [.int (iI (y0))]) := by
  obtain ⟨hx, hb, hml, hown, hts, hlk, hrt⟩ := id E
  unfold s13_isObject_b41 at hsh
  obtain ⟨hz, hz1, hz2⟩ := zR_some hsh
  rw [← hz1, ← hz2]
  exact e_zret hx hb hrt hlk hp hS hz dX13_isObject_41
set_option maxRecDepth 100000 in
set_option maxHeartbeats 4000000 in
theorem w13_isObject_b36 {p : Program} {l : Launch} {e : Env} {s : State} {m : MethodId} {args : Array Value} {below : List Frame} {meth : Method} {c : Code} {D : va_G} {cA : Nat → ClassId} {B : Nat} {res : Int × HP} (E : e_En p s m args meth c cX13_isObject RX13 1 (some .boolean)) {ls : Array Slot} {H : Heap} {locs : List Loc} {S : HP} (hp : e_Pic D cA B S s H) (hS : va_S (e_A B) s.heap H locs) (hl : e_lo ls 1 []) (hsh : s13_isObject_b36 S  = some res) : W p l e ({ frames := 0, cells := 0, slots := 0, locals := 0 } : Room) s m args below meth c H locs 0 0 (MQ below (e_Qi D cA B res.1 res.2) args s 0 0 (e_A B)) (F0 m 36 ls []) := by
  obtain ⟨hx, hb, hml, hown, hts, hlk, hrt⟩ := id E
  unfold s13_isObject_b36 at hsh
  refine lv_iconst (v := iI (1)) hx hb dX13_isObject_36 rfl ?_
  refine lv_goto (tgt := 41) hx hb dX13_isObject_37 (by decide) ?_
  exact w13_isObject_b41 E hp hS (hl.sub [] rfl) hsh
set_option maxRecDepth 100000 in
set_option maxHeartbeats 4000000 in
theorem c13_isObject (l : Launch) (D : va_G) (cA : Nat → ClassId) (B : Nat) (S S' : HP) (x0 : Int) (r : Int) (hsh : s13_isObject S x0 = some (r, S')) : Met l yX13_isObject (e_wu yX13_isObject cX13_isObject 1 (some .boolean)) ({ frames := 0, cells := 0, slots := 0, locals := 0 } : Room) (va_Pc [.int (iI (x0))] (fun U => e_PU D cA B S U)) (e_Qi D cA B r S') 0 0 (e_A B) := by
  refine Met.ofW (cc := cX13_isObject) (maxL := 1) (ret := (some .boolean)) (by decide +kernel) rfl ?_
  intro p e s m args below meth c s₁ Bd hml hv
  obtain ⟨rfl, hp⟩ := hv
  have hp : e_Pic D cA B S s s.heap := hp
  have hx := Bd.exec
  have hb := Bd.bytes
  have hrt := Bd.returns
  have hlk := Bd.notSynchronized
  have hown : s.vm.findClass RX13 = some m.cls := findClass_of_methodNamed Bd.named
  have hts : ∀ w ∈ e_tb, w.before ([.int (iI (x0))] : List Value).toArray s = true := fun w h => atoms_spec (ws := (e_wu yX13_isObject cX13_isObject 1 (some .boolean))) Bd.pre w (List.mem_cons_of_mem _ h)
  have E : e_En p s m ([.int (iI (x0))] : List Value).toArray meth c cX13_isObject RX13 1 (some .boolean) := ⟨hx, hb, hml, hown, hts, hlk, hrt⟩
  have hS : va_S (e_A B) s.heap s.heap [] := va_S.rf
  have hl := e_entry (vs := [.int (iI (x0))]) (n := 1) (Nat.le_of_ble_eq_true rfl) (e_cc rfl e_cn)
  rw [lg_entry_eq]
  generalize (lg_sl [.int (iI (x0))] ++ List.replicate (1 - (lg_sl [.int (iI (x0))]).length) Slot.unset).toArray = ls at hl ⊢
  generalize ([.int (iI (x0))] : List Value).toArray = args at hts E ⊢
  have hl : e_lo ls 1 [(0, .int (iI (x0)))] := hl
  unfold s13_isObject at hsh
  refine lv_iload_n hx hb dX13_isObject_0 rfl (hl.at 0 rfl) ?_
  refine lv_bipush (v := iI (119)) hx hb dX13_isObject_1 (by decide +kernel) ?_
  refine e_icmp_eq (tgt := 36) hx hb dX13_isObject_3 (by decide) (fun c3 => ?_) (fun c3 => ?_)
  · rw [if_pos c3] at hsh
    exact w13_isObject_b36 E hp hS (hl.sub [] rfl) hsh
  · rw [if_neg c3] at hsh
    refine lv_iload_n hx hb dX13_isObject_6 rfl (hl.at 0 rfl) ?_
    refine lv_bipush (v := iI (34)) hx hb dX13_isObject_7 (by decide +kernel) ?_
    refine e_icmp_eq (tgt := 36) hx hb dX13_isObject_9 (by decide) (fun c9 => ?_) (fun c9 => ?_)
    · rw [if_pos c9] at hsh
      exact w13_isObject_b36 E hp hS (hl.sub [] rfl) hsh
    · rw [if_neg c9] at hsh
      refine lv_iload_n hx hb dX13_isObject_12 rfl (hl.at 0 rfl) ?_
      refine lv_bipush (v := iI (40)) hx hb dX13_isObject_13 (by decide +kernel) ?_
      refine e_icmp_eq (tgt := 36) hx hb dX13_isObject_15 (by decide) (fun c15 => ?_) (fun c15 => ?_)
      · rw [if_pos c15] at hsh
        exact w13_isObject_b36 E hp hS (hl.sub [] rfl) hsh
      · rw [if_neg c15] at hsh
        refine lv_iload_n hx hb dX13_isObject_18 rfl (hl.at 0 rfl) ?_
        refine lv_bipush (v := iI (91)) hx hb dX13_isObject_19 (by decide +kernel) ?_
        refine e_icmp_eq (tgt := 36) hx hb dX13_isObject_21 (by decide) (fun c21 => ?_) (fun c21 => ?_)
        · rw [if_pos c21] at hsh
          exact w13_isObject_b36 E hp hS (hl.sub [] rfl) hsh
        · rw [if_neg c21] at hsh
          refine lv_iload_n hx hb dX13_isObject_24 rfl (hl.at 0 rfl) ?_
          refine lv_bipush (v := iI (123)) hx hb dX13_isObject_25 (by decide +kernel) ?_
          refine e_icmp_eq (tgt := 36) hx hb dX13_isObject_27 (by decide) (fun c27 => ?_) (fun c27 => ?_)
          · rw [if_pos c27] at hsh
            exact w13_isObject_b36 E hp hS (hl.sub [] rfl) hsh
          · rw [if_neg c27] at hsh
            refine lv_iload_n hx hb dX13_isObject_30 rfl (hl.at 0 rfl) ?_
            refine lv_bipush (v := iI (112)) hx hb dX13_isObject_31 (by decide +kernel) ?_
            refine e_icmp_ne (tgt := 40) hx hb dX13_isObject_33 (by decide) (fun c33 => ?_) (fun c33 => ?_)
            · rw [if_neg c33] at hsh
              refine lv_iconst (v := iI (0)) hx hb dX13_isObject_40 rfl ?_
              exact w13_isObject_b41 E hp hS (hl.sub [] rfl) hsh
            · rw [if_pos c33] at hsh
              exact w13_isObject_b36 E hp hS (hl.sub [] rfl) hsh
set_option maxRecDepth 100000 in
set_option maxHeartbeats 4000000 in
theorem w13_isLong_b47 {p : Program} {l : Launch} {e : Env} {s : State} {m : MethodId} {args : Array Value} {below : List Frame} {meth : Method} {c : Code} {D : va_G} {cA : Nat → ClassId} {B : Nat} {res : Int × HP} (E : e_En p s m args meth c cX13_isLong RX13 1 (some .boolean)) {ls : Array Slot} {H : Heap} {locs : List Loc} {S : HP} {y0 : Int} (hp : e_Pic D cA B S s H) (hS : va_S (e_A B) s.heap H locs) (hl : e_lo ls 1 []) (hsh : s13_isLong_b47 S y0 = some res) : W p l e ({ frames := 0, cells := 0, slots := 0, locals := 0 } : Room) s m args below meth c H locs 0 0 (MQ below (e_Qi D cA B res.1 res.2) args s 0 0 (e_A B)) (F0 m 47 ls [.int (iI (y0))]) := by
  obtain ⟨hx, hb, hml, hown, hts, hlk, hrt⟩ := id E
  unfold s13_isLong_b47 at hsh
  obtain ⟨hz, hz1, hz2⟩ := zR_some hsh
  rw [← hz1, ← hz2]
  exact e_zret hx hb hrt hlk hp hS hz dX13_isLong_47
set_option maxRecDepth 100000 in
set_option maxHeartbeats 4000000 in
theorem w13_isLong_b42 {p : Program} {l : Launch} {e : Env} {s : State} {m : MethodId} {args : Array Value} {below : List Frame} {meth : Method} {c : Code} {D : va_G} {cA : Nat → ClassId} {B : Nat} {res : Int × HP} (E : e_En p s m args meth c cX13_isLong RX13 1 (some .boolean)) {ls : Array Slot} {H : Heap} {locs : List Loc} {S : HP} (hp : e_Pic D cA B S s H) (hS : va_S (e_A B) s.heap H locs) (hl : e_lo ls 1 []) (hsh : s13_isLong_b42 S  = some res) : W p l e ({ frames := 0, cells := 0, slots := 0, locals := 0 } : Room) s m args below meth c H locs 0 0 (MQ below (e_Qi D cA B res.1 res.2) args s 0 0 (e_A B)) (F0 m 42 ls []) := by
  obtain ⟨hx, hb, hml, hown, hts, hlk, hrt⟩ := id E
  unfold s13_isLong_b42 at hsh
  refine lv_iconst (v := iI (1)) hx hb dX13_isLong_42 rfl ?_
  refine lv_goto (tgt := 47) hx hb dX13_isLong_43 (by decide) ?_
  exact w13_isLong_b47 E hp hS (hl.sub [] rfl) hsh
set_option maxRecDepth 100000 in
set_option maxHeartbeats 4000000 in
theorem c13_isLong (l : Launch) (D : va_G) (cA : Nat → ClassId) (B : Nat) (S S' : HP) (x0 : Int) (r : Int) (hsh : s13_isLong S x0 = some (r, S')) : Met l yX13_isLong (e_wu yX13_isLong cX13_isLong 1 (some .boolean)) ({ frames := 0, cells := 0, slots := 0, locals := 0 } : Room) (va_Pc [.int (iI (x0))] (fun U => e_PU D cA B S U)) (e_Qi D cA B r S') 0 0 (e_A B) := by
  refine Met.ofW (cc := cX13_isLong) (maxL := 1) (ret := (some .boolean)) (by decide +kernel) rfl ?_
  intro p e s m args below meth c s₁ Bd hml hv
  obtain ⟨rfl, hp⟩ := hv
  have hp : e_Pic D cA B S s s.heap := hp
  have hx := Bd.exec
  have hb := Bd.bytes
  have hrt := Bd.returns
  have hlk := Bd.notSynchronized
  have hown : s.vm.findClass RX13 = some m.cls := findClass_of_methodNamed Bd.named
  have hts : ∀ w ∈ e_tb, w.before ([.int (iI (x0))] : List Value).toArray s = true := fun w h => atoms_spec (ws := (e_wu yX13_isLong cX13_isLong 1 (some .boolean))) Bd.pre w (List.mem_cons_of_mem _ h)
  have E : e_En p s m ([.int (iI (x0))] : List Value).toArray meth c cX13_isLong RX13 1 (some .boolean) := ⟨hx, hb, hml, hown, hts, hlk, hrt⟩
  have hS : va_S (e_A B) s.heap s.heap [] := va_S.rf
  have hl := e_entry (vs := [.int (iI (x0))]) (n := 1) (Nat.le_of_ble_eq_true rfl) (e_cc rfl e_cn)
  rw [lg_entry_eq]
  generalize (lg_sl [.int (iI (x0))] ++ List.replicate (1 - (lg_sl [.int (iI (x0))]).length) Slot.unset).toArray = ls at hl ⊢
  generalize ([.int (iI (x0))] : List Value).toArray = args at hts E ⊢
  have hl : e_lo ls 1 [(0, .int (iI (x0)))] := hl
  unfold s13_isLong at hsh
  refine lv_iload_n hx hb dX13_isLong_0 rfl (hl.at 0 rfl) ?_
  refine lv_bipush (v := iI (102)) hx hb dX13_isLong_1 (by decide +kernel) ?_
  refine e_icmp_eq (tgt := 42) hx hb dX13_isLong_3 (by decide) (fun c3 => ?_) (fun c3 => ?_)
  · rw [if_pos c3] at hsh
    exact w13_isLong_b42 E hp hS (hl.sub [] rfl) hsh
  · rw [if_neg c3] at hsh
    refine lv_iload_n hx hb dX13_isLong_6 rfl (hl.at 0 rfl) ?_
    refine lv_bipush (v := iI (116)) hx hb dX13_isLong_7 (by decide +kernel) ?_
    refine e_icmp_eq (tgt := 42) hx hb dX13_isLong_9 (by decide) (fun c9 => ?_) (fun c9 => ?_)
    · rw [if_pos c9] at hsh
      exact w13_isLong_b42 E hp hS (hl.sub [] rfl) hsh
    · rw [if_neg c9] at hsh
      refine lv_iload_n hx hb dX13_isLong_12 rfl (hl.at 0 rfl) ?_
      refine lv_bipush (v := iI (70)) hx hb dX13_isLong_13 (by decide +kernel) ?_
      refine e_icmp_eq (tgt := 42) hx hb dX13_isLong_15 (by decide) (fun c15 => ?_) (fun c15 => ?_)
      · rw [if_pos c15] at hsh
        exact w13_isLong_b42 E hp hS (hl.sub [] rfl) hsh
      · rw [if_neg c15] at hsh
        refine lv_iload_n hx hb dX13_isLong_18 rfl (hl.at 0 rfl) ?_
        refine lv_bipush (v := iI (84)) hx hb dX13_isLong_19 (by decide +kernel) ?_
        refine e_icmp_eq (tgt := 42) hx hb dX13_isLong_21 (by decide) (fun c21 => ?_) (fun c21 => ?_)
        · rw [if_pos c21] at hsh
          exact w13_isLong_b42 E hp hS (hl.sub [] rfl) hsh
        · rw [if_neg c21] at hsh
          refine lv_iload_n hx hb dX13_isLong_24 rfl (hl.at 0 rfl) ?_
          refine lv_bipush (v := iI (39)) hx hb dX13_isLong_25 (by decide +kernel) ?_
          refine e_icmp_eq (tgt := 42) hx hb dX13_isLong_27 (by decide) (fun c27 => ?_) (fun c27 => ?_)
          · rw [if_pos c27] at hsh
            exact w13_isLong_b42 E hp hS (hl.sub [] rfl) hsh
          · rw [if_neg c27] at hsh
            refine lv_iload_n hx hb dX13_isLong_30 rfl (hl.at 0 rfl) ?_
            refine lv_bipush (v := iI (96)) hx hb dX13_isLong_31 (by decide +kernel) ?_
            refine e_icmp_eq (tgt := 42) hx hb dX13_isLong_33 (by decide) (fun c33 => ?_) (fun c33 => ?_)
            · rw [if_pos c33] at hsh
              exact w13_isLong_b42 E hp hS (hl.sub [] rfl) hsh
            · rw [if_neg c33] at hsh
              refine lv_iload_n hx hb dX13_isLong_36 rfl (hl.at 0 rfl) ?_
              refine lv_bipush (v := iI (47)) hx hb dX13_isLong_37 (by decide +kernel) ?_
              refine e_icmp_ne (tgt := 46) hx hb dX13_isLong_39 (by decide) (fun c39 => ?_) (fun c39 => ?_)
              · rw [if_neg c39] at hsh
                refine lv_iconst (v := iI (0)) hx hb dX13_isLong_46 rfl ?_
                exact w13_isLong_b47 E hp hS (hl.sub [] rfl) hsh
              · rw [if_pos c39] at hsh
                exact w13_isLong_b42 E hp hS (hl.sub [] rfl) hsh
set_option maxRecDepth 100000 in
set_option maxHeartbeats 4000000 in
theorem w13_isPlain_b203 {p : Program} {l : Launch} {e : Env} {s : State} {m : MethodId} {args : Array Value} {below : List Frame} {meth : Method} {c : Code} {D : va_G} {cA : Nat → ClassId} {B : Nat} {res : Int × HP} (E : e_En p s m args meth c cX13_isPlain RX13 1 (some .boolean)) {ls : Array Slot} {H : Heap} {locs : List Loc} {S : HP} {y0 : Int} (hp : e_Pic D cA B S s H) (hS : va_S (e_A B) s.heap H locs) (hl : e_lo ls 1 []) (hsh : s13_isPlain_b203 S y0 = some res) : W p l e ({ frames := 0, cells := 0, slots := 0, locals := 0 } : Room) s m args below meth c H locs 0 0 (MQ below (e_Qi D cA B res.1 res.2) args s 0 0 (e_A B)) (F0 m 203 ls [.int (iI (y0))]) := by
  obtain ⟨hx, hb, hml, hown, hts, hlk, hrt⟩ := id E
  unfold s13_isPlain_b203 at hsh
  obtain ⟨hz, hz1, hz2⟩ := zR_some hsh
  rw [← hz1, ← hz2]
  exact e_zret hx hb hrt hlk hp hS hz dX13_isPlain_203
set_option maxRecDepth 100000 in
set_option maxHeartbeats 4000000 in
theorem w13_isPlain_b198 {p : Program} {l : Launch} {e : Env} {s : State} {m : MethodId} {args : Array Value} {below : List Frame} {meth : Method} {c : Code} {D : va_G} {cA : Nat → ClassId} {B : Nat} {res : Int × HP} (E : e_En p s m args meth c cX13_isPlain RX13 1 (some .boolean)) {ls : Array Slot} {H : Heap} {locs : List Loc} {S : HP} (hp : e_Pic D cA B S s H) (hS : va_S (e_A B) s.heap H locs) (hl : e_lo ls 1 []) (hsh : s13_isPlain_b198 S  = some res) : W p l e ({ frames := 0, cells := 0, slots := 0, locals := 0 } : Room) s m args below meth c H locs 0 0 (MQ below (e_Qi D cA B res.1 res.2) args s 0 0 (e_A B)) (F0 m 198 ls []) := by
  obtain ⟨hx, hb, hml, hown, hts, hlk, hrt⟩ := id E
  unfold s13_isPlain_b198 at hsh
  refine lv_iconst (v := iI (1)) hx hb dX13_isPlain_198 rfl ?_
  refine lv_goto (tgt := 203) hx hb dX13_isPlain_199 (by decide) ?_
  exact w13_isPlain_b203 E hp hS (hl.sub [] rfl) hsh
set_option maxRecDepth 100000 in
set_option maxHeartbeats 4000000 in
theorem c13_isPlain (l : Launch) (D : va_G) (cA : Nat → ClassId) (B : Nat) (S S' : HP) (x0 : Int) (r : Int) (hsh : s13_isPlain S x0 = some (r, S')) : Met l yX13_isPlain (e_wu yX13_isPlain cX13_isPlain 1 (some .boolean)) ({ frames := 0, cells := 0, slots := 0, locals := 0 } : Room) (va_Pc [.int (iI (x0))] (fun U => e_PU D cA B S U)) (e_Qi D cA B r S') 0 0 (e_A B) := by
  refine Met.ofW (cc := cX13_isPlain) (maxL := 1) (ret := (some .boolean)) (by decide +kernel) rfl ?_
  intro p e s m args below meth c s₁ Bd hml hv
  obtain ⟨rfl, hp⟩ := hv
  have hp : e_Pic D cA B S s s.heap := hp
  have hx := Bd.exec
  have hb := Bd.bytes
  have hrt := Bd.returns
  have hlk := Bd.notSynchronized
  have hown : s.vm.findClass RX13 = some m.cls := findClass_of_methodNamed Bd.named
  have hts : ∀ w ∈ e_tb, w.before ([.int (iI (x0))] : List Value).toArray s = true := fun w h => atoms_spec (ws := (e_wu yX13_isPlain cX13_isPlain 1 (some .boolean))) Bd.pre w (List.mem_cons_of_mem _ h)
  have E : e_En p s m ([.int (iI (x0))] : List Value).toArray meth c cX13_isPlain RX13 1 (some .boolean) := ⟨hx, hb, hml, hown, hts, hlk, hrt⟩
  have hS : va_S (e_A B) s.heap s.heap [] := va_S.rf
  have hl := e_entry (vs := [.int (iI (x0))]) (n := 1) (Nat.le_of_ble_eq_true rfl) (e_cc rfl e_cn)
  rw [lg_entry_eq]
  generalize (lg_sl [.int (iI (x0))] ++ List.replicate (1 - (lg_sl [.int (iI (x0))]).length) Slot.unset).toArray = ls at hl ⊢
  generalize ([.int (iI (x0))] : List Value).toArray = args at hts E ⊢
  have hl : e_lo ls 1 [(0, .int (iI (x0)))] := hl
  unfold s13_isPlain at hsh
  refine lv_iload_n hx hb dX13_isPlain_0 rfl (hl.at 0 rfl) ?_
  refine lv_bipush (v := iI (120)) hx hb dX13_isPlain_1 (by decide +kernel) ?_
  refine e_icmp_eq (tgt := 198) hx hb dX13_isPlain_3 (by decide) (fun c3 => ?_) (fun c3 => ?_)
  · rw [if_pos c3] at hsh
    exact w13_isPlain_b198 E hp hS (hl.sub [] rfl) hsh
  · rw [if_neg c3] at hsh
    refine lv_iload_n hx hb dX13_isPlain_6 rfl (hl.at 0 rfl) ?_
    refine lv_bipush (v := iI (88)) hx hb dX13_isPlain_7 (by decide +kernel) ?_
    refine e_icmp_eq (tgt := 198) hx hb dX13_isPlain_9 (by decide) (fun c9 => ?_) (fun c9 => ?_)
    · rw [if_pos c9] at hsh
      exact w13_isPlain_b198 E hp hS (hl.sub [] rfl) hsh
    · rw [if_neg c9] at hsh
      refine lv_iload_n hx hb dX13_isPlain_12 rfl (hl.at 0 rfl) ?_
      refine lv_bipush (v := iI (68)) hx hb dX13_isPlain_13 (by decide +kernel) ?_
      refine e_icmp_eq (tgt := 198) hx hb dX13_isPlain_15 (by decide) (fun c15 => ?_) (fun c15 => ?_)
      · rw [if_pos c15] at hsh
        exact w13_isPlain_b198 E hp hS (hl.sub [] rfl) hsh
      · rw [if_neg c15] at hsh
        refine lv_iload_n hx hb dX13_isPlain_18 rfl (hl.at 0 rfl) ?_
        refine lv_bipush (v := iI (67)) hx hb dX13_isPlain_19 (by decide +kernel) ?_
        refine e_icmp_eq (tgt := 198) hx hb dX13_isPlain_21 (by decide) (fun c21 => ?_) (fun c21 => ?_)
        · rw [if_pos c21] at hsh
          exact w13_isPlain_b198 E hp hS (hl.sub [] rfl) hsh
        · rw [if_neg c21] at hsh
          refine lv_iload_n hx hb dX13_isPlain_24 rfl (hl.at 0 rfl) ?_
          refine lv_bipush (v := iI (115)) hx hb dX13_isPlain_25 (by decide +kernel) ?_
          refine e_icmp_eq (tgt := 198) hx hb dX13_isPlain_27 (by decide) (fun c27 => ?_) (fun c27 => ?_)
          · rw [if_pos c27] at hsh
            exact w13_isPlain_b198 E hp hS (hl.sub [] rfl) hsh
          · rw [if_neg c27] at hsh
            refine lv_iload_n hx hb dX13_isPlain_30 rfl (hl.at 0 rfl) ?_
            refine lv_bipush (v := iI (83)) hx hb dX13_isPlain_31 (by decide +kernel) ?_
            refine e_icmp_eq (tgt := 198) hx hb dX13_isPlain_33 (by decide) (fun c33 => ?_) (fun c33 => ?_)
            · rw [if_pos c33] at hsh
              exact w13_isPlain_b198 E hp hS (hl.sub [] rfl) hsh
            · rw [if_neg c33] at hsh
              refine lv_iload_n hx hb dX13_isPlain_36 rfl (hl.at 0 rfl) ?_
              refine lv_bipush (v := iI (89)) hx hb dX13_isPlain_37 (by decide +kernel) ?_
              refine e_icmp_eq (tgt := 198) hx hb dX13_isPlain_39 (by decide) (fun c39 => ?_) (fun c39 => ?_)
              · rw [if_pos c39] at hsh
                exact w13_isPlain_b198 E hp hS (hl.sub [] rfl) hsh
              · rw [if_neg c39] at hsh
                refine lv_iload_n hx hb dX13_isPlain_42 rfl (hl.at 0 rfl) ?_
                refine lv_bipush (v := iI (74)) hx hb dX13_isPlain_43 (by decide +kernel) ?_
                refine e_icmp_eq (tgt := 198) hx hb dX13_isPlain_45 (by decide) (fun c45 => ?_) (fun c45 => ?_)
                · rw [if_pos c45] at hsh
                  exact w13_isPlain_b198 E hp hS (hl.sub [] rfl) hsh
                · rw [if_neg c45] at hsh
                  refine lv_iload_n hx hb dX13_isPlain_48 rfl (hl.at 0 rfl) ?_
                  refine lv_bipush (v := iI (112)) hx hb dX13_isPlain_49 (by decide +kernel) ?_
                  refine e_icmp_eq (tgt := 198) hx hb dX13_isPlain_51 (by decide) (fun c51 => ?_) (fun c51 => ?_)
                  · rw [if_pos c51] at hsh
                    exact w13_isPlain_b198 E hp hS (hl.sub [] rfl) hsh
                  · rw [if_neg c51] at hsh
                    refine lv_iload_n hx hb dX13_isPlain_54 rfl (hl.at 0 rfl) ?_
                    refine lv_bipush (v := iI (80)) hx hb dX13_isPlain_55 (by decide +kernel) ?_
                    refine e_icmp_eq (tgt := 198) hx hb dX13_isPlain_57 (by decide) (fun c57 => ?_) (fun c57 => ?_)
                    · rw [if_pos c57] at hsh
                      exact w13_isPlain_b198 E hp hS (hl.sub [] rfl) hsh
                    · rw [if_neg c57] at hsh
                      refine lv_iload_n hx hb dX13_isPlain_60 rfl (hl.at 0 rfl) ?_
                      refine lv_bipush (v := iI (126)) hx hb dX13_isPlain_61 (by decide +kernel) ?_
                      refine e_icmp_eq (tgt := 198) hx hb dX13_isPlain_63 (by decide) (fun c63 => ?_) (fun c63 => ?_)
                      · rw [if_pos c63] at hsh
                        exact w13_isPlain_b198 E hp hS (hl.sub [] rfl) hsh
                      · rw [if_neg c63] at hsh
                        refine lv_iload_n hx hb dX13_isPlain_66 rfl (hl.at 0 rfl) ?_
                        refine lv_bipush (v := iI (105)) hx hb dX13_isPlain_67 (by decide +kernel) ?_
                        refine e_icmp_eq (tgt := 198) hx hb dX13_isPlain_69 (by decide) (fun c69 => ?_) (fun c69 => ?_)
                        · rw [if_pos c69] at hsh
                          exact w13_isPlain_b198 E hp hS (hl.sub [] rfl) hsh
                        · rw [if_neg c69] at hsh
                          refine lv_iload_n hx hb dX13_isPlain_72 rfl (hl.at 0 rfl) ?_
                          refine lv_bipush (v := iI (97)) hx hb dX13_isPlain_73 (by decide +kernel) ?_
                          refine e_icmp_eq (tgt := 198) hx hb dX13_isPlain_75 (by decide) (fun c75 => ?_) (fun c75 => ?_)
                          · rw [if_pos c75] at hsh
                            exact w13_isPlain_b198 E hp hS (hl.sub [] rfl) hsh
                          · rw [if_neg c75] at hsh
                            refine lv_iload_n hx hb dX13_isPlain_78 rfl (hl.at 0 rfl) ?_
                            refine lv_bipush (v := iI (73)) hx hb dX13_isPlain_79 (by decide +kernel) ?_
                            refine e_icmp_eq (tgt := 198) hx hb dX13_isPlain_81 (by decide) (fun c81 => ?_) (fun c81 => ?_)
                            · rw [if_pos c81] at hsh
                              exact w13_isPlain_b198 E hp hS (hl.sub [] rfl) hsh
                            · rw [if_neg c81] at hsh
                              refine lv_iload_n hx hb dX13_isPlain_84 rfl (hl.at 0 rfl) ?_
                              refine lv_bipush (v := iI (65)) hx hb dX13_isPlain_85 (by decide +kernel) ?_
                              refine e_icmp_eq (tgt := 198) hx hb dX13_isPlain_87 (by decide) (fun c87 => ?_) (fun c87 => ?_)
                              · rw [if_pos c87] at hsh
                                exact w13_isPlain_b198 E hp hS (hl.sub [] rfl) hsh
                              · rw [if_neg c87] at hsh
                                refine lv_iload_n hx hb dX13_isPlain_90 rfl (hl.at 0 rfl) ?_
                                refine lv_bipush (v := iI (111)) hx hb dX13_isPlain_91 (by decide +kernel) ?_
                                refine e_icmp_eq (tgt := 198) hx hb dX13_isPlain_93 (by decide) (fun c93 => ?_) (fun c93 => ?_)
                                · rw [if_pos c93] at hsh
                                  exact w13_isPlain_b198 E hp hS (hl.sub [] rfl) hsh
                                · rw [if_neg c93] at hsh
                                  refine lv_iload_n hx hb dX13_isPlain_96 rfl (hl.at 0 rfl) ?_
                                  refine lv_bipush (v := iI (79)) hx hb dX13_isPlain_97 (by decide +kernel) ?_
                                  refine e_icmp_eq (tgt := 198) hx hb dX13_isPlain_99 (by decide) (fun c99 => ?_) (fun c99 => ?_)
                                  · rw [if_pos c99] at hsh
                                    exact w13_isPlain_b198 E hp hS (hl.sub [] rfl) hsh
                                  · rw [if_neg c99] at hsh
                                    refine lv_iload_n hx hb dX13_isPlain_102 rfl (hl.at 0 rfl) ?_
                                    refine lv_bipush (v := iI (118)) hx hb dX13_isPlain_103 (by decide +kernel) ?_
                                    refine e_icmp_eq (tgt := 198) hx hb dX13_isPlain_105 (by decide) (fun c105 => ?_) (fun c105 => ?_)
                                    · rw [if_pos c105] at hsh
                                      exact w13_isPlain_b198 E hp hS (hl.sub [] rfl) hsh
                                    · rw [if_neg c105] at hsh
                                      refine lv_iload_n hx hb dX13_isPlain_108 rfl (hl.at 0 rfl) ?_
                                      refine lv_bipush (v := iI (86)) hx hb dX13_isPlain_109 (by decide +kernel) ?_
                                      refine e_icmp_eq (tgt := 198) hx hb dX13_isPlain_111 (by decide) (fun c111 => ?_) (fun c111 => ?_)
                                      · rw [if_pos c111] at hsh
                                        exact w13_isPlain_b198 E hp hS (hl.sub [] rfl) hsh
                                      · rw [if_neg c111] at hsh
                                        refine lv_iload_n hx hb dX13_isPlain_114 rfl (hl.at 0 rfl) ?_
                                        refine lv_bipush (v := iI (22)) hx hb dX13_isPlain_115 (by decide +kernel) ?_
                                        refine e_icmp_eq (tgt := 198) hx hb dX13_isPlain_117 (by decide) (fun c117 => ?_) (fun c117 => ?_)
                                        · rw [if_pos c117] at hsh
                                          exact w13_isPlain_b198 E hp hS (hl.sub [] rfl) hsh
                                        · rw [if_neg c117] at hsh
                                          refine lv_iload_n hx hb dX13_isPlain_120 rfl (hl.at 0 rfl) ?_
                                          refine lv_bipush (v := iI (58)) hx hb dX13_isPlain_121 (by decide +kernel) ?_
                                          refine e_icmp_eq (tgt := 198) hx hb dX13_isPlain_123 (by decide) (fun c123 => ?_) (fun c123 => ?_)
                                          · rw [if_pos c123] at hsh
                                            exact w13_isPlain_b198 E hp hS (hl.sub [] rfl) hsh
                                          · rw [if_neg c123] at hsh
                                            refine lv_iload_n hx hb dX13_isPlain_126 rfl (hl.at 0 rfl) ?_
                                            refine lv_bipush (v := iI (117)) hx hb dX13_isPlain_127 (by decide +kernel) ?_
                                            refine e_icmp_eq (tgt := 198) hx hb dX13_isPlain_129 (by decide) (fun c129 => ?_) (fun c129 => ?_)
                                            · rw [if_pos c129] at hsh
                                              exact w13_isPlain_b198 E hp hS (hl.sub [] rfl) hsh
                                            · rw [if_neg c129] at hsh
                                              refine lv_iload_n hx hb dX13_isPlain_132 rfl (hl.at 0 rfl) ?_
                                              refine lv_bipush (v := iI (18)) hx hb dX13_isPlain_133 (by decide +kernel) ?_
                                              refine e_icmp_eq (tgt := 198) hx hb dX13_isPlain_135 (by decide) (fun c135 => ?_) (fun c135 => ?_)
                                              · rw [if_pos c135] at hsh
                                                exact w13_isPlain_b198 E hp hS (hl.sub [] rfl) hsh
                                              · rw [if_neg c135] at hsh
                                                refine lv_iload_n hx hb dX13_isPlain_138 rfl (hl.at 0 rfl) ?_
                                                refine lv_bipush (v := iI (46)) hx hb dX13_isPlain_139 (by decide +kernel) ?_
                                                refine e_icmp_eq (tgt := 198) hx hb dX13_isPlain_141 (by decide) (fun c141 => ?_) (fun c141 => ?_)
                                                · rw [if_pos c141] at hsh
                                                  exact w13_isPlain_b198 E hp hS (hl.sub [] rfl) hsh
                                                · rw [if_neg c141] at hsh
                                                  refine lv_iload_n hx hb dX13_isPlain_144 rfl (hl.at 0 rfl) ?_
                                                  refine lv_bipush (v := iI (15)) hx hb dX13_isPlain_145 (by decide +kernel) ?_
                                                  refine e_icmp_eq (tgt := 198) hx hb dX13_isPlain_147 (by decide) (fun c147 => ?_) (fun c147 => ?_)
                                                  · rw [if_pos c147] at hsh
                                                    exact w13_isPlain_b198 E hp hS (hl.sub [] rfl) hsh
                                                  · rw [if_neg c147] at hsh
                                                    refine lv_iload_n hx hb dX13_isPlain_150 rfl (hl.at 0 rfl) ?_
                                                    refine lv_bipush (v := iI (9)) hx hb dX13_isPlain_151 (by decide +kernel) ?_
                                                    refine e_icmp_eq (tgt := 198) hx hb dX13_isPlain_153 (by decide) (fun c153 => ?_) (fun c153 => ?_)
                                                    · rw [if_pos c153] at hsh
                                                      exact w13_isPlain_b198 E hp hS (hl.sub [] rfl) hsh
                                                    · rw [if_neg c153] at hsh
                                                      refine lv_iload_n hx hb dX13_isPlain_156 rfl (hl.at 0 rfl) ?_
                                                      refine lv_sipush (v := iI (301)) hx hb dX13_isPlain_157 (by decide +kernel) ?_
                                                      refine e_icmp_eq (tgt := 198) hx hb dX13_isPlain_160 (by decide) (fun c160 => ?_) (fun c160 => ?_)
                                                      · rw [if_pos c160] at hsh
                                                        exact w13_isPlain_b198 E hp hS (hl.sub [] rfl) hsh
                                                      · rw [if_neg c160] at hsh
                                                        refine lv_iload_n hx hb dX13_isPlain_163 rfl (hl.at 0 rfl) ?_
                                                        refine lv_sipush (v := iI (299)) hx hb dX13_isPlain_164 (by decide +kernel) ?_
                                                        refine e_icmp_eq (tgt := 198) hx hb dX13_isPlain_167 (by decide) (fun c167 => ?_) (fun c167 => ?_)
                                                        · rw [if_pos c167] at hsh
                                                          exact w13_isPlain_b198 E hp hS (hl.sub [] rfl) hsh
                                                        · rw [if_neg c167] at hsh
                                                          refine lv_iload_n hx hb dX13_isPlain_170 rfl (hl.at 0 rfl) ?_
                                                          refine lv_sipush (v := iI (365)) hx hb dX13_isPlain_171 (by decide +kernel) ?_
                                                          refine e_icmp_eq (tgt := 198) hx hb dX13_isPlain_174 (by decide) (fun c174 => ?_) (fun c174 => ?_)
                                                          · rw [if_pos c174] at hsh
                                                            exact w13_isPlain_b198 E hp hS (hl.sub [] rfl) hsh
                                                          · rw [if_neg c174] at hsh
                                                            refine lv_iload_n hx hb dX13_isPlain_177 rfl (hl.at 0 rfl) ?_
                                                            refine lv_sipush (v := iI (623)) hx hb dX13_isPlain_178 (by decide +kernel) ?_
                                                            refine e_icmp_eq (tgt := 198) hx hb dX13_isPlain_181 (by decide) (fun c181 => ?_) (fun c181 => ?_)
                                                            · rw [if_pos c181] at hsh
                                                              exact w13_isPlain_b198 E hp hS (hl.sub [] rfl) hsh
                                                            · rw [if_neg c181] at hsh
                                                              refine lv_iload_n hx hb dX13_isPlain_184 rfl (hl.at 0 rfl) ?_
                                                              refine lv_sipush (v := iI (611)) hx hb dX13_isPlain_185 (by decide +kernel) ?_
                                                              refine e_icmp_eq (tgt := 198) hx hb dX13_isPlain_188 (by decide) (fun c188 => ?_) (fun c188 => ?_)
                                                              · rw [if_pos c188] at hsh
                                                                exact w13_isPlain_b198 E hp hS (hl.sub [] rfl) hsh
                                                              · rw [if_neg c188] at hsh
                                                                refine lv_iload_n hx hb dX13_isPlain_191 rfl (hl.at 0 rfl) ?_
                                                                refine lv_sipush (v := iI (612)) hx hb dX13_isPlain_192 (by decide +kernel) ?_
                                                                refine e_icmp_ne (tgt := 202) hx hb dX13_isPlain_195 (by decide) (fun c195 => ?_) (fun c195 => ?_)
                                                                · rw [if_neg c195] at hsh
                                                                  refine lv_iconst (v := iI (0)) hx hb dX13_isPlain_202 rfl ?_
                                                                  exact w13_isPlain_b203 E hp hS (hl.sub [] rfl) hsh
                                                                · rw [if_pos c195] at hsh
                                                                  exact w13_isPlain_b198 E hp hS (hl.sub [] rfl) hsh
theorem ok13_isPlainHere {S : HP} {x0 : Int} {x1 : Int} {r : Int × HP} (h : s13_isPlainHere S x0 x1 = some r) : 0 ≤ x0 ∧ x0.toNat < e_n S ∧ e_g S x0.toNat = 13 := (gd_some h).1
set_option maxRecDepth 100000 in
set_option maxHeartbeats 4000000 in
theorem w13_isPlainHere_b116 {p : Program} {l : Launch} {e : Env} {s : State} {m : MethodId} {args : Array Value} {below : List Frame} {meth : Method} {c : Code} {D : va_G} {cA : Nat → ClassId} {B : Nat} {res : Int × HP} (E : e_En p s m args meth c cX13_isPlainHere RX13 2 (some .boolean)) {ls : Array Slot} {H : Heap} {locs : List Loc} {S : HP} {y0 : Int} (hp : e_Pic D cA B S s H) (hS : va_S (e_A B) s.heap H locs) (hl : e_lo ls 2 []) (hsh : s13_isPlainHere_b116 S y0 = some res) : W p l e ({ frames := 1, cells := 0, slots := 0, locals := 20 } : Room) s m args below meth c H locs 0 0 (MQ below (e_Qi D cA B res.1 res.2) args s 0 0 (e_A B)) (F0 m 116 ls [.int (iI (y0))]) := by
  obtain ⟨hx, hb, hml, hown, hts, hlk, hrt⟩ := id E
  unfold s13_isPlainHere_b116 at hsh
  obtain ⟨hz, hz1, hz2⟩ := zR_some hsh
  rw [← hz1, ← hz2]
  exact e_zret hx hb hrt hlk hp hS hz dX13_isPlainHere_116
set_option maxRecDepth 100000 in
set_option maxHeartbeats 4000000 in
theorem w13_isPlainHere_b111 {p : Program} {l : Launch} {e : Env} {s : State} {m : MethodId} {args : Array Value} {below : List Frame} {meth : Method} {c : Code} {D : va_G} {cA : Nat → ClassId} {B : Nat} {res : Int × HP} (E : e_En p s m args meth c cX13_isPlainHere RX13 2 (some .boolean)) {ls : Array Slot} {H : Heap} {locs : List Loc} {S : HP} (hp : e_Pic D cA B S s H) (hS : va_S (e_A B) s.heap H locs) (hl : e_lo ls 2 []) (hsh : s13_isPlainHere_b111 S  = some res) : W p l e ({ frames := 1, cells := 0, slots := 0, locals := 20 } : Room) s m args below meth c H locs 0 0 (MQ below (e_Qi D cA B res.1 res.2) args s 0 0 (e_A B)) (F0 m 111 ls []) := by
  obtain ⟨hx, hb, hml, hown, hts, hlk, hrt⟩ := id E
  unfold s13_isPlainHere_b111 at hsh
  refine lv_iconst (v := iI (1)) hx hb dX13_isPlainHere_111 rfl ?_
  refine lv_goto (tgt := 116) hx hb dX13_isPlainHere_112 (by decide) ?_
  exact w13_isPlainHere_b116 E hp hS (hl.sub [] rfl) hsh
set_option maxRecDepth 100000 in
set_option maxHeartbeats 4000000 in
theorem w13_isPlainHere_b75 {p : Program} {l : Launch} {e : Env} {s : State} {m : MethodId} {args : Array Value} {below : List Frame} {meth : Method} {c : Code} {D : va_G} {cA : Nat → ClassId} {B : Nat} {res : Int × HP} (E : e_En p s m args meth c cX13_isPlainHere RX13 2 (some .boolean)) {ls : Array Slot} {H : Heap} {locs : List Loc} {S : HP} {x1 : Int} (hp : e_Pic D cA B S s H) (hS : va_S (e_A B) s.heap H locs) (hl : e_lo ls 2 [(1, .int (iI (x1)))]) (hsh : s13_isPlainHere_b75 S x1 = some res) : W p l e ({ frames := 1, cells := 0, slots := 0, locals := 20 } : Room) s m args below meth c H locs 0 0 (MQ below (e_Qi D cA B res.1 res.2) args s 0 0 (e_A B)) (F0 m 75 ls []) := by
  obtain ⟨hx, hb, hml, hown, hts, hlk, hrt⟩ := id E
  unfold s13_isPlainHere_b75 at hsh
  refine lv_iload_n hx hb dX13_isPlainHere_75 rfl (hl.at 0 rfl) ?_
  refine lv_bipush (v := iI (126)) hx hb dX13_isPlainHere_76 (by decide +kernel) ?_
  refine e_icmp_eq (tgt := 111) hx hb dX13_isPlainHere_78 (by decide) (fun c78 => ?_) (fun c78 => ?_)
  · rw [if_pos c78] at hsh
    exact w13_isPlainHere_b111 E hp hS (hl.sub [] rfl) hsh
  · rw [if_neg c78] at hsh
    refine lv_iload_n hx hb dX13_isPlainHere_81 rfl (hl.at 0 rfl) ?_
    refine lv_bipush (v := iI (74)) hx hb dX13_isPlainHere_82 (by decide +kernel) ?_
    refine e_icmp_eq (tgt := 111) hx hb dX13_isPlainHere_84 (by decide) (fun c84 => ?_) (fun c84 => ?_)
    · rw [if_pos c84] at hsh
      exact w13_isPlainHere_b111 E hp hS (hl.sub [] rfl) hsh
    · rw [if_neg c84] at hsh
      refine lv_iload_n hx hb dX13_isPlainHere_87 rfl (hl.at 0 rfl) ?_
      refine lv_bipush (v := iI (111)) hx hb dX13_isPlainHere_88 (by decide +kernel) ?_
      refine e_icmp_eq (tgt := 111) hx hb dX13_isPlainHere_90 (by decide) (fun c90 => ?_) (fun c90 => ?_)
      · rw [if_pos c90] at hsh
        exact w13_isPlainHere_b111 E hp hS (hl.sub [] rfl) hsh
      · rw [if_neg c90] at hsh
        refine lv_iload_n hx hb dX13_isPlainHere_93 rfl (hl.at 0 rfl) ?_
        refine lv_bipush (v := iI (118)) hx hb dX13_isPlainHere_94 (by decide +kernel) ?_
        refine e_icmp_eq (tgt := 111) hx hb dX13_isPlainHere_96 (by decide) (fun c96 => ?_) (fun c96 => ?_)
        · rw [if_pos c96] at hsh
          exact w13_isPlainHere_b111 E hp hS (hl.sub [] rfl) hsh
        · rw [if_neg c96] at hsh
          refine lv_iload_n hx hb dX13_isPlainHere_99 rfl (hl.at 0 rfl) ?_
          refine lv_bipush (v := iI (86)) hx hb dX13_isPlainHere_100 (by decide +kernel) ?_
          refine e_icmp_eq (tgt := 111) hx hb dX13_isPlainHere_102 (by decide) (fun c102 => ?_) (fun c102 => ?_)
          · rw [if_pos c102] at hsh
            exact w13_isPlainHere_b111 E hp hS (hl.sub [] rfl) hsh
          · rw [if_neg c102] at hsh
            refine lv_iload_n hx hb dX13_isPlainHere_105 rfl (hl.at 0 rfl) ?_
            refine lv_bipush (v := iI (22)) hx hb dX13_isPlainHere_106 (by decide +kernel) ?_
            refine e_icmp_ne (tgt := 115) hx hb dX13_isPlainHere_108 (by decide) (fun c108 => ?_) (fun c108 => ?_)
            · rw [if_neg c108] at hsh
              refine lv_iconst (v := iI (0)) hx hb dX13_isPlainHere_115 rfl ?_
              exact w13_isPlainHere_b116 E hp hS (hl.sub [] rfl) hsh
            · rw [if_pos c108] at hsh
              exact w13_isPlainHere_b111 E hp hS (hl.sub [] rfl) hsh
set_option maxRecDepth 100000 in
set_option maxHeartbeats 4000000 in
theorem w13_isPlainHere_b55 {p : Program} {l : Launch} {e : Env} {s : State} {m : MethodId} {args : Array Value} {below : List Frame} {meth : Method} {c : Code} {D : va_G} {cA : Nat → ClassId} {B : Nat} {res : Int × HP} (E : e_En p s m args meth c cX13_isPlainHere RX13 2 (some .boolean)) {ls : Array Slot} {H : Heap} {locs : List Loc} {S : HP} {x0 : Int} {x1 : Int} (hp : e_Pic D cA B S s H) (hS : va_S (e_A B) s.heap H locs) (hl : e_lo ls 2 [(0, e_rv B (x0)), (1, .int (iI (x1)))]) (hsh : s13_isPlainHere_b55 S x0 x1 = some res) : W p l e ({ frames := 1, cells := 0, slots := 0, locals := 20 } : Room) s m args below meth c H locs 0 0 (MQ below (e_Qi D cA B res.1 res.2) args s 0 0 (e_A B)) (F0 m 55 ls []) := by
  obtain ⟨hx, hb, hml, hown, hts, hlk, hrt⟩ := id E
  unfold s13_isPlainHere_b55 at hsh
  refine lv_iload_n hx hb dX13_isPlainHere_55 rfl (hl.at 1 rfl) ?_
  refine lv_bipush (v := iI (120)) hx hb dX13_isPlainHere_56 (by decide +kernel) ?_
  refine e_icmp_eq (tgt := 111) hx hb dX13_isPlainHere_58 (by decide) (fun c58 => ?_) (fun c58 => ?_)
  · rw [if_pos c58] at hsh
    exact w13_isPlainHere_b111 E hp hS (hl.sub [] rfl) hsh
  · rw [if_neg c58] at hsh
    refine lv_iload_n hx hb dX13_isPlainHere_61 rfl (hl.at 1 rfl) ?_
    refine lv_bipush (v := iI (115)) hx hb dX13_isPlainHere_62 (by decide +kernel) ?_
    refine e_icmp_ne (tgt := 75) hx hb dX13_isPlainHere_64 (by decide) (fun c64 => ?_) (fun c64 => ?_)
    · rw [if_neg c64] at hsh
      exact w13_isPlainHere_b75 E hp hS (hl.sub [1] rfl) hsh
    · rw [if_pos c64] at hsh
      refine e_aload_n (B := B) (x := x0) hx hb dX13_isPlainHere_67 rfl (hl.at 0 rfl) ?_
      obtain ⟨v68, h68, hsh⟩ := Option.bind_eq_some_iff.mp hsh
      refine e_getI (k := 8) hx hb hts in_X13 hown hp h68 rfl (by decide) (by decide) rfl (hts _ kf13_466) rfl dX13_isPlainHere_68 ?_
      refine lv_iconst (v := iI (4)) hx hb dX13_isPlainHere_71 rfl ?_
      refine e_icmp_ne (tgt := 111) hx hb dX13_isPlainHere_72 (by decide) (fun c72 => ?_) (fun c72 => ?_)
      · rw [if_neg c72] at hsh
        exact w13_isPlainHere_b111 E hp hS (hl.sub [] rfl) hsh
      · rw [if_pos c72] at hsh
        exact w13_isPlainHere_b75 E hp hS (hl.sub [1] rfl) hsh
set_option maxRecDepth 100000 in
set_option maxHeartbeats 4000000 in
theorem w13_isPlainHere_b33 {p : Program} {l : Launch} {e : Env} {s : State} {m : MethodId} {args : Array Value} {below : List Frame} {meth : Method} {c : Code} {D : va_G} {cA : Nat → ClassId} {B : Nat} {res : Int × HP} (E : e_En p s m args meth c cX13_isPlainHere RX13 2 (some .boolean)) {ls : Array Slot} {H : Heap} {locs : List Loc} {S : HP} {y0 : Int} (hp : e_Pic D cA B S s H) (hS : va_S (e_A B) s.heap H locs) (hl : e_lo ls 2 []) (hsh : s13_isPlainHere_b33 S y0 = some res) : W p l e ({ frames := 1, cells := 0, slots := 0, locals := 20 } : Room) s m args below meth c H locs 0 0 (MQ below (e_Qi D cA B res.1 res.2) args s 0 0 (e_A B)) (F0 m 33 ls [.int (iI (y0))]) := by
  obtain ⟨hx, hb, hml, hown, hts, hlk, hrt⟩ := id E
  unfold s13_isPlainHere_b33 at hsh
  obtain ⟨hz, hz1, hz2⟩ := zR_some hsh
  rw [← hz1, ← hz2]
  exact e_zret hx hb hrt hlk hp hS hz dX13_isPlainHere_33
set_option maxRecDepth 100000 in
set_option maxHeartbeats 4000000 in
theorem w13_isPlainHere_b28 {p : Program} {l : Launch} {e : Env} {s : State} {m : MethodId} {args : Array Value} {below : List Frame} {meth : Method} {c : Code} {D : va_G} {cA : Nat → ClassId} {B : Nat} {res : Int × HP} (E : e_En p s m args meth c cX13_isPlainHere RX13 2 (some .boolean)) {ls : Array Slot} {H : Heap} {locs : List Loc} {S : HP} (hp : e_Pic D cA B S s H) (hS : va_S (e_A B) s.heap H locs) (hl : e_lo ls 2 []) (hsh : s13_isPlainHere_b28 S  = some res) : W p l e ({ frames := 1, cells := 0, slots := 0, locals := 20 } : Room) s m args below meth c H locs 0 0 (MQ below (e_Qi D cA B res.1 res.2) args s 0 0 (e_A B)) (F0 m 28 ls []) := by
  obtain ⟨hx, hb, hml, hown, hts, hlk, hrt⟩ := id E
  unfold s13_isPlainHere_b28 at hsh
  refine lv_iconst (v := iI (1)) hx hb dX13_isPlainHere_28 rfl ?_
  refine lv_goto (tgt := 33) hx hb dX13_isPlainHere_29 (by decide) ?_
  exact w13_isPlainHere_b33 E hp hS (hl.sub [] rfl) hsh
set_option maxRecDepth 100000 in
set_option maxHeartbeats 4000000 in
theorem w13_isPlainHere_b32 {p : Program} {l : Launch} {e : Env} {s : State} {m : MethodId} {args : Array Value} {below : List Frame} {meth : Method} {c : Code} {D : va_G} {cA : Nat → ClassId} {B : Nat} {res : Int × HP} (E : e_En p s m args meth c cX13_isPlainHere RX13 2 (some .boolean)) {ls : Array Slot} {H : Heap} {locs : List Loc} {S : HP} (hp : e_Pic D cA B S s H) (hS : va_S (e_A B) s.heap H locs) (hl : e_lo ls 2 []) (hsh : s13_isPlainHere_b32 S  = some res) : W p l e ({ frames := 1, cells := 0, slots := 0, locals := 20 } : Room) s m args below meth c H locs 0 0 (MQ below (e_Qi D cA B res.1 res.2) args s 0 0 (e_A B)) (F0 m 32 ls []) := by
  obtain ⟨hx, hb, hml, hown, hts, hlk, hrt⟩ := id E
  unfold s13_isPlainHere_b32 at hsh
  refine lv_iconst (v := iI (0)) hx hb dX13_isPlainHere_32 rfl ?_
  exact w13_isPlainHere_b33 E hp hS (hl.sub [] rfl) hsh
set_option maxRecDepth 100000 in
set_option maxHeartbeats 4000000 in
theorem c13_isPlainHere (l : Launch) (D : va_G) (cA : Nat → ClassId) (B : Nat) (S S' : HP) (x0 : Int) (x1 : Int) (r : Int) (hsh : s13_isPlainHere S x0 x1 = some (r, S')) : Met l yX13_isPlainHere (e_wu yX13_isPlainHere cX13_isPlainHere 2 (some .boolean)) ({ frames := 1, cells := 0, slots := 0, locals := 20 } : Room) (va_Pc [e_rv B (x0), .int (iI (x1))] (fun U => e_PU D cA B S U)) (e_Qi D cA B r S') 0 0 (e_A B) := by
  refine Met.ofW (cc := cX13_isPlainHere) (maxL := 2) (ret := (some .boolean)) (by decide +kernel) rfl ?_
  intro p e s m args below meth c s₁ Bd hml hv
  obtain ⟨rfl, hp⟩ := hv
  have hp : e_Pic D cA B S s s.heap := hp
  have hx := Bd.exec
  have hb := Bd.bytes
  have hrt := Bd.returns
  have hlk := Bd.notSynchronized
  have hown : s.vm.findClass RX13 = some m.cls := findClass_of_methodNamed Bd.named
  have hts : ∀ w ∈ e_tb, w.before ([e_rv B (x0), .int (iI (x1))] : List Value).toArray s = true := fun w h => atoms_spec (ws := (e_wu yX13_isPlainHere cX13_isPlainHere 2 (some .boolean))) Bd.pre w (List.mem_cons_of_mem _ h)
  have E : e_En p s m ([e_rv B (x0), .int (iI (x1))] : List Value).toArray meth c cX13_isPlainHere RX13 2 (some .boolean) := ⟨hx, hb, hml, hown, hts, hlk, hrt⟩
  have hS : va_S (e_A B) s.heap s.heap [] := va_S.rf
  have hl := e_entry (vs := [e_rv B (x0), .int (iI (x1))]) (n := 2) (Nat.le_of_ble_eq_true rfl) (e_cc (e_rv_cat _ _) (e_cc rfl e_cn))
  rw [lg_entry_eq]
  generalize (lg_sl [e_rv B (x0), .int (iI (x1))] ++ List.replicate (2 - (lg_sl [e_rv B (x0), .int (iI (x1))]).length) Slot.unset).toArray = ls at hl ⊢
  generalize ([e_rv B (x0), .int (iI (x1))] : List Value).toArray = args at hts E ⊢
  have hl : e_lo ls 2 [(0, e_rv B (x0)), (1, .int (iI (x1)))] := hl
  have hsh := (gd_some hsh).2
  refine e_aload_n (B := B) (x := x0) hx hb dX13_isPlainHere_0 rfl (hl.at 0 rfl) ?_
  obtain ⟨v1, h1, hsh⟩ := Option.bind_eq_some_iff.mp hsh
  refine e_getI (k := 8) hx hb hts in_X13 hown hp h1 rfl (by decide) (by decide) rfl (hts _ kf13_466) rfl dX13_isPlainHere_1 ?_
  refine e_if_ne (tgt := 34) hx hb dX13_isPlainHere_4 (by decide) (fun c4 => ?_) (fun c4 => ?_)
  · rw [if_neg c4] at hsh
    refine lv_iload_n hx hb dX13_isPlainHere_34 rfl (hl.at 1 rfl) ?_
    obtain ⟨⟨v35, S35⟩, h35, hsh⟩ := Option.bind_eq_some_iff.mp hsh
    have hsh : _ = _ := hsh
    try dsimp only at hsh
    refine e_callS (nL := 2) (mc := 0) (ms := 0) (As := [.int (iI (x1))]) (rest := []) hx hb hml hown hts hp hS hl.size (c13_isOperator l D cA B S S35 (x1) v35 h35) rfl rfl kd13_isOperator (kl13_603) ks13_isOperator ki13 kh13_isOperator ⟨Nat.le_of_ble_eq_true rfl, Nat.le_of_ble_eq_true rfl⟩ rfl (by simp [e_rv_cat, e_int_cat]) ⟨Nat.le_refl _, Nat.le_refl _⟩ dX13_isPlainHere_35 rfl (fun H locs hp hS => ?_)
    refine e_if_eq (tgt := 55) hx hb dX13_isPlainHere_38 (by decide) (fun c38 => ?_) (fun c38 => ?_)
    · rw [if_pos c38] at hsh
      exact w13_isPlainHere_b55 E hp hS (hl.sub [0, 1] rfl) hsh
    · rw [if_neg c38] at hsh
      refine lv_iload_n hx hb dX13_isPlainHere_41 rfl (hl.at 1 rfl) ?_
      refine lv_bipush (v := iI (99)) hx hb dX13_isPlainHere_42 (by decide +kernel) ?_
      refine e_icmp_ne (tgt := 111) hx hb dX13_isPlainHere_44 (by decide) (fun c44 => ?_) (fun c44 => ?_)
      · rw [if_neg c44] at hsh
        exact w13_isPlainHere_b111 E hp hS (hl.sub [] rfl) hsh
      · rw [if_pos c44] at hsh
        refine e_aload_n (B := B) (x := x0) hx hb dX13_isPlainHere_47 rfl (hl.at 0 rfl) ?_
        obtain ⟨v48, h48, hsh⟩ := Option.bind_eq_some_iff.mp hsh
        refine e_getI (k := 8) hx hb hts in_X13 hown hp h48 rfl (by decide) (by decide) rfl (hts _ kf13_466) rfl dX13_isPlainHere_48 ?_
        refine lv_iconst (v := iI (4)) hx hb dX13_isPlainHere_51 rfl ?_
        refine e_icmp_ne (tgt := 111) hx hb dX13_isPlainHere_52 (by decide) (fun c52 => ?_) (fun c52 => ?_)
        · rw [if_neg c52] at hsh
          exact w13_isPlainHere_b111 E hp hS (hl.sub [] rfl) hsh
        · rw [if_pos c52] at hsh
          exact w13_isPlainHere_b55 E hp hS (hl.sub [0, 1] rfl) hsh
  · rw [if_pos c4] at hsh
    refine lv_iload_n hx hb dX13_isPlainHere_7 rfl (hl.at 1 rfl) ?_
    obtain ⟨⟨v8, S8⟩, h8, hsh⟩ := Option.bind_eq_some_iff.mp hsh
    have hsh : _ = _ := hsh
    try dsimp only at hsh
    refine e_callS (nL := 2) (mc := 0) (ms := 0) (As := [.int (iI (x1))]) (rest := []) hx hb hml hown hts hp hS hl.size (c13_isPlain l D cA B S S8 (x1) v8 h8) rfl rfl kd13_isPlain (kl13_600) ks13_isPlain ki13 kh13_isPlain ⟨Nat.le_of_ble_eq_true rfl, Nat.le_of_ble_eq_true rfl⟩ rfl (by simp [e_rv_cat, e_int_cat]) ⟨Nat.le_refl _, Nat.le_refl _⟩ dX13_isPlainHere_8 rfl (fun H locs hp hS => ?_)
    refine e_if_ne (tgt := 28) hx hb dX13_isPlainHere_11 (by decide) (fun c11 => ?_) (fun c11 => ?_)
    · rw [if_neg c11] at hsh
      exact w13_isPlainHere_b28 E hp hS (hl.sub [] rfl) hsh
    · rw [if_pos c11] at hsh
      refine lv_iload_n hx hb dX13_isPlainHere_14 rfl (hl.at 1 rfl) ?_
      refine lv_bipush (v := iI (113)) hx hb dX13_isPlainHere_15 (by decide +kernel) ?_
      refine e_icmp_ne (tgt := 32) hx hb dX13_isPlainHere_17 (by decide) (fun c17 => ?_) (fun c17 => ?_)
      · rw [if_neg c17] at hsh
        exact w13_isPlainHere_b32 E hp hS (hl.sub [] rfl) hsh
      · rw [if_pos c17] at hsh
        refine e_aload_n (B := B) (x := x0) hx hb dX13_isPlainHere_20 rfl (hl.at 0 rfl) ?_
        obtain ⟨v21, h21, hsh⟩ := Option.bind_eq_some_iff.mp hsh
        refine e_getI (k := 86) hx hb hts in_X13 hown hp h21 rfl (by decide) (by decide) rfl (hts _ kf13_114) rfl dX13_isPlainHere_21 ?_
        refine lv_iconst (v := iI (-1)) hx hb dX13_isPlainHere_24 rfl ?_
        refine e_icmp_eq (tgt := 32) hx hb dX13_isPlainHere_25 (by decide) (fun c25 => ?_) (fun c25 => ?_)
        · rw [if_pos c25] at hsh
          exact w13_isPlainHere_b32 E hp hS (hl.sub [] rfl) hsh
        · rw [if_neg c25] at hsh
          exact w13_isPlainHere_b28 E hp hS (hl.sub [] rfl) hsh
set_option maxRecDepth 100000 in
set_option maxHeartbeats 4000000 in
theorem c13_isLetter (l : Launch) (D : va_G) (cA : Nat → ClassId) (B : Nat) (S S' : HP) (x0 : Int) (r : Int) (hsh : s13_isLetter S x0 = some (r, S')) : Met l yX13_isLetter (e_wu yX13_isLetter cX13_isLetter 1 (some .boolean)) ({ frames := 1, cells := 0, slots := 0, locals := 22 } : Room) (va_Pc [.int (iI (x0))] (fun U => e_PU D cA B S U)) (e_Qi D cA B r S') 0 0 (e_A B) := by
  refine Met.ofW (cc := cX13_isLetter) (maxL := 1) (ret := (some .boolean)) (by decide +kernel) rfl ?_
  intro p e s m args below meth c s₁ Bd hml hv
  obtain ⟨rfl, hp⟩ := hv
  have hp : e_Pic D cA B S s s.heap := hp
  have hx := Bd.exec
  have hb := Bd.bytes
  have hrt := Bd.returns
  have hlk := Bd.notSynchronized
  have hown : s.vm.findClass RX13 = some m.cls := findClass_of_methodNamed Bd.named
  have hts : ∀ w ∈ e_tb, w.before ([.int (iI (x0))] : List Value).toArray s = true := fun w h => atoms_spec (ws := (e_wu yX13_isLetter cX13_isLetter 1 (some .boolean))) Bd.pre w (List.mem_cons_of_mem _ h)
  have E : e_En p s m ([.int (iI (x0))] : List Value).toArray meth c cX13_isLetter RX13 1 (some .boolean) := ⟨hx, hb, hml, hown, hts, hlk, hrt⟩
  have hS : va_S (e_A B) s.heap s.heap [] := va_S.rf
  have hl := e_entry (vs := [.int (iI (x0))]) (n := 1) (Nat.le_of_ble_eq_true rfl) (e_cc rfl e_cn)
  rw [lg_entry_eq]
  generalize (lg_sl [.int (iI (x0))] ++ List.replicate (1 - (lg_sl [.int (iI (x0))]).length) Slot.unset).toArray = ls at hl ⊢
  generalize ([.int (iI (x0))] : List Value).toArray = args at hts E ⊢
  have hl : e_lo ls 1 [(0, .int (iI (x0)))] := hl
  unfold s13_isLetter at hsh
  refine lv_iload_n hx hb dX13_isLetter_0 rfl (hl.at 0 rfl) ?_
  refine lv_bipush (v := iI (97)) hx hb dX13_isLetter_1 (by decide +kernel) ?_
  refine lv_bipush (v := iI (122)) hx hb dX13_isLetter_3 (by decide +kernel) ?_
  obtain ⟨⟨v5, S5⟩, h5, hsh⟩ := Option.bind_eq_some_iff.mp hsh
  have hsh : _ = _ := hsh
  try dsimp only at hsh
  refine e_callS (nL := 1) (mc := 0) (ms := 0) (As := [.int (iI (x0)), .int (iI (97)), .int (iI (122))]) (rest := []) hx hb hml hown hts hp hS hl.size (c13_isIn l D cA B S S5 (x0) (97) (122) v5 h5) rfl rfl kd13_isIn (kl13_198) ks13_isIn ki13 kh13_isIn ⟨Nat.le_of_ble_eq_true rfl, Nat.le_of_ble_eq_true rfl⟩ rfl (by simp [e_rv_cat, e_int_cat]) ⟨Nat.le_refl _, Nat.le_refl _⟩ dX13_isLetter_5 rfl (fun H locs hp hS => ?_)
  obtain ⟨hz, hz1, hz2⟩ := zR_some hsh
  rw [← hz1, ← hz2]
  exact e_zret hx hb hrt hlk hp hS hz dX13_isLetter_8
theorem ok13_counts {S : HP} {x0 : Int} {x1 : Int} {r : Int × HP} (h : s13_counts S x0 x1 = some r) : 0 ≤ x0 ∧ x0.toNat < e_n S ∧ e_g S x0.toNat = 13 := (gd_some h).1
set_option maxRecDepth 100000 in
set_option maxHeartbeats 4000000 in
theorem w13_counts_b73 {p : Program} {l : Launch} {e : Env} {s : State} {m : MethodId} {args : Array Value} {below : List Frame} {meth : Method} {c : Code} {D : va_G} {cA : Nat → ClassId} {B : Nat} {res : Int × HP} (E : e_En p s m args meth c cX13_counts RX13 3 (some .int)) {ls : Array Slot} {H : Heap} {locs : List Loc} {S : HP} {x2 : Int} (hp : e_Pic D cA B S s H) (hS : va_S (e_A B) s.heap H locs) (hl : e_lo ls 3 [(2, .int (iI (x2)))]) (hsh : s13_counts_b73 S x2 = some res) : W p l e ({ frames := 1, cells := 0, slots := 0, locals := 22 } : Room) s m args below meth c H locs 0 0 (MQ below (e_Qi D cA B res.1 res.2) args s 0 0 (e_A B)) (F0 m 73 ls []) := by
  obtain ⟨hx, hb, hml, hown, hts, hlk, hrt⟩ := id E
  unfold s13_counts_b73 at hsh
  refine lv_iload_n hx hb dX13_counts_73 rfl (hl.at 0 rfl) ?_
  cases hsh
  exact e_iret hx hb hrt hlk hp hS dX13_counts_74
set_option maxRecDepth 100000 in
set_option maxHeartbeats 4000000 in
theorem w13_counts_b33 {p : Program} {l : Launch} {e : Env} {s : State} {m : MethodId} {args : Array Value} {below : List Frame} {meth : Method} {c : Code} {D : va_G} {cA : Nat → ClassId} {B : Nat} {res : Int × HP} {k7 : HP → Int → Int → Int → Option (Int × HP)} (hk7 : ∀ {ls : Array Slot} {H : Heap} {locs : List Loc} {S : HP} {x0 : Int} {x1 : Int} {x2 : Int} (hp : e_Pic D cA B S s H) (hS : va_S (e_A B) s.heap H locs) (hl : e_lo ls 3 [(0, e_rv B (x0)), (1, .int (iI (x1))), (2, .int (iI (x2)))]) (hsh : k7 S x0 x1 x2 = some res), W p l e ({ frames := 1, cells := 0, slots := 0, locals := 22 } : Room) s m args below meth c H locs 0 0 (MQ below (e_Qi D cA B res.1 res.2) args s 0 0 (e_A B)) (F0 m 7 ls [])) (E : e_En p s m args meth c cX13_counts RX13 3 (some .int)) {ls : Array Slot} {H : Heap} {locs : List Loc} {S : HP} {x0 : Int} {x1 : Int} {x2 : Int} {y0 : Int} {y1 : Int} (hp : e_Pic D cA B S s H) (hS : va_S (e_A B) s.heap H locs) (hl : e_lo ls 3 [(0, e_rv B (x0)), (1, .int (iI (x1))), (2, .int (iI (x2)))]) (hsh : s13_counts_b33 k7 S x0 x1 x2 y0 y1 = some res) : W p l e ({ frames := 1, cells := 0, slots := 0, locals := 22 } : Room) s m args below meth c H locs 0 0 (MQ below (e_Qi D cA B res.1 res.2) args s 0 0 (e_A B)) (F0 m 33 ls [.int (iI (y1)), .int (iI (y0))]) := by
  obtain ⟨hx, hb, hml, hown, hts, hlk, hrt⟩ := id E
  unfold s13_counts_b33 at hsh
  refine lv_bipush (v := iI (57)) hx hb dX13_counts_33 (by decide +kernel) ?_
  obtain ⟨⟨v35, S35⟩, h35, hsh⟩ := Option.bind_eq_some_iff.mp hsh
  have hsh : _ = _ := hsh
  try dsimp only at hsh
  refine e_callS (nL := 3) (mc := 0) (ms := 0) (As := [.int (iI (y0)), .int (iI (y1)), .int (iI (57))]) (rest := []) hx hb hml hown hts hp hS hl.size (c13_isIn l D cA B S S35 (y0) (y1) (57) v35 h35) rfl rfl kd13_isIn (kl13_198) ks13_isIn ki13 kh13_isIn ⟨Nat.le_of_ble_eq_true rfl, Nat.le_of_ble_eq_true rfl⟩ rfl (by simp [e_rv_cat, e_int_cat]) ⟨Nat.le_refl _, Nat.le_refl _⟩ dX13_counts_35 rfl (fun H locs hp hS => ?_)
  refine e_if_eq (tgt := 73) hx hb dX13_counts_38 (by decide) (fun c38 => ?_) (fun c38 => ?_)
  · rw [if_pos c38] at hsh
    exact w13_counts_b73 E hp hS (hl.sub [2] rfl) hsh
  · rw [if_neg c38] at hsh
    refine e_aload_n (B := B) (x := x0) hx hb dX13_counts_41 rfl (hl.at 0 rfl) ?_
    refine lv_bipush (v := iI (99)) hx hb dX13_counts_42 (by decide +kernel) ?_
    refine lv_bipush (v := iI (10)) hx hb dX13_counts_44 (by decide +kernel) ?_
    refine e_aload_n (B := B) (x := x0) hx hb dX13_counts_46 rfl (hl.at 0 rfl) ?_
    obtain ⟨v47, h47, hsh⟩ := Option.bind_eq_some_iff.mp hsh
    refine e_getI (k := 66) hx hb hts in_X13 hown hp h47 rfl (by decide) (by decide) rfl (hts _ kf13_606) rfl dX13_counts_47 ?_
    refine e_imul hx hb dX13_counts_50 ?_
    refine e_aload_n (B := B) (x := x0) hx hb dX13_counts_51 rfl (hl.at 0 rfl) ?_
    obtain ⟨v52, h52, hsh⟩ := Option.bind_eq_some_iff.mp hsh
    refine e_getR (k := 57) hx hb hts in_X13 hown hp h52 rfl (by decide) (by decide) rfl (hts _ kf13_95) rfl dX13_counts_52 ?_
    refine lv_iload_n hx hb dX13_counts_55 rfl (hl.at 2 rfl) ?_
    obtain ⟨v56, h56, hsh⟩ := Option.bind_eq_some_iff.mp hsh
    refine e_iald hx hb hp h56 dX13_counts_56 ?_
    refine e_iadd hx hb dX13_counts_57 ?_
    refine lv_bipush (v := iI (48)) hx hb dX13_counts_58 (by decide +kernel) ?_
    refine e_isub hx hb dX13_counts_60 ?_
    obtain ⟨⟨v61, S61⟩, h61, hsh⟩ := Option.bind_eq_some_iff.mp hsh
    have hsh : _ = _ := hsh
    try dsimp only at hsh
    refine e_callS (nL := 3) (mc := 0) (ms := 0) (As := [.int (iI (99)), .int (iI ((((10 * v47) + v56) - 48)))]) (rest := [e_rv B (x0)]) hx hb hml hown hts hp hS hl.size (c13_lesser l D cA B S35 S61 (99) ((((10 * v47) + v56) - 48)) v61 h61) rfl rfl kd13_lesser (kl13_257) ks13_lesser ki13 kh13_lesser ⟨Nat.le_of_ble_eq_true rfl, Nat.le_of_ble_eq_true rfl⟩ rfl (by simp [e_rv_cat, e_int_cat]) ⟨Nat.le_refl _, Nat.le_refl _⟩ dX13_counts_61 rfl (fun H locs hp hS => ?_)
    obtain ⟨S64, h64, hsh⟩ := Option.bind_eq_some_iff.mp hsh
    refine e_putI (k := 66) hx hb hts in_X13 tyX13 tyX13_ok nmX13 hown hp hS h64 rfl (by decide) (by decide) rfl (hts _ kf13_606) rfl rfl (by decide +kernel) dX13_counts_64 (fun H locs hp hS => ?_)
    refine e_iinc (n := 1) (x := x2) (lv' := [(2, .int (iI ((x2 + 1)))), (0, e_rv B (x0)), (1, .int (iI (x1)))]) hx hb dX13_counts_67 hl (k := 2) rfl (by decide) rfl (fun ls hl => ?_)
    refine lv_goto (tgt := 7) hx hb dX13_counts_70 (by decide) ?_
    exact hk7 hp hS (hl.sub [1, 2, 0] rfl) hsh
set_option maxRecDepth 100000 in
set_option maxHeartbeats 4000000 in
theorem w13_counts_l7 {p : Program} {l : Launch} {e : Env} {s : State} {m : MethodId} {args : Array Value} {below : List Frame} {meth : Method} {c : Code} {D : va_G} {cA : Nat → ClassId} {B : Nat} {res : Int × HP} (E : e_En p s m args meth c cX13_counts RX13 3 (some .int)) : ∀ (f : Nat) {ls : Array Slot} {H : Heap} {locs : List Loc} {S : HP} {x0 : Int} {x1 : Int} {x2 : Int} (hp : e_Pic D cA B S s H) (hS : va_S (e_A B) s.heap H locs) (hl : e_lo ls 3 [(0, e_rv B (x0)), (1, .int (iI (x1))), (2, .int (iI (x2)))]) (hsh : s13_counts_l7 f S x0 x1 x2 = some res), W p l e ({ frames := 1, cells := 0, slots := 0, locals := 22 } : Room) s m args below meth c H locs 0 0 (MQ below (e_Qi D cA B res.1 res.2) args s 0 0 (e_A B)) (F0 m 7 ls []) := by
  obtain ⟨hx, hb, hml, hown, hts, hlk, hrt⟩ := id E
  intro f
  induction f with
  | zero => intro ls H locs S x0 x1 x2 hp hS hl hsh; cases hsh
  | succ f ih =>
    intro ls H locs S x0 x1 x2 hp hS hl hsh
    have hk7 : ∀ {ls : Array Slot} {H : Heap} {locs : List Loc} {S : HP} {x0 : Int} {x1 : Int} {x2 : Int} (hp : e_Pic D cA B S s H) (hS : va_S (e_A B) s.heap H locs) (hl : e_lo ls 3 [(0, e_rv B (x0)), (1, .int (iI (x1))), (2, .int (iI (x2)))]) (hsh : (s13_counts_l7 f) S x0 x1 x2 = some res), W p l e ({ frames := 1, cells := 0, slots := 0, locals := 22 } : Room) s m args below meth c H locs 0 0 (MQ below (e_Qi D cA B res.1 res.2) args s 0 0 (e_A B)) (F0 m 7 ls []) := ih
    generalize hkk : s13_counts_l7 f = k7 at hk7
    rw [s13_counts_l7] at hsh
    rw [hkk] at hsh
    try dsimp only at hsh
    refine lv_iload_n hx hb dX13_counts_7 rfl (hl.at 2 rfl) ?_
    refine e_aload_n (B := B) (x := x0) hx hb dX13_counts_8 rfl (hl.at 0 rfl) ?_
    obtain ⟨v9, h9, hsh⟩ := Option.bind_eq_some_iff.mp hsh
    refine e_getI (k := 55) hx hb hts in_X13 hown hp h9 rfl (by decide) (by decide) rfl (hts _ kf13_609) rfl dX13_counts_9 ?_
    refine e_icmp_ge (tgt := 73) hx hb dX13_counts_12 (by decide) (fun c12 => ?_) (fun c12 => ?_)
    · rw [if_pos c12] at hsh
      exact w13_counts_b73 E hp hS (hl.sub [2] rfl) hsh
    · rw [if_neg c12] at hsh
      refine e_aload_n (B := B) (x := x0) hx hb dX13_counts_15 rfl (hl.at 0 rfl) ?_
      obtain ⟨v16, h16, hsh⟩ := Option.bind_eq_some_iff.mp hsh
      refine e_getR (k := 57) hx hb hts in_X13 hown hp h16 rfl (by decide) (by decide) rfl (hts _ kf13_95) rfl dX13_counts_16 ?_
      refine lv_iload_n hx hb dX13_counts_19 rfl (hl.at 2 rfl) ?_
      obtain ⟨v20, h20, hsh⟩ := Option.bind_eq_some_iff.mp hsh
      refine e_iald hx hb hp h20 dX13_counts_20 ?_
      refine lv_iload_n hx hb dX13_counts_21 rfl (hl.at 2 rfl) ?_
      refine lv_iload_n hx hb dX13_counts_22 rfl (hl.at 1 rfl) ?_
      refine e_icmp_ne (tgt := 31) hx hb dX13_counts_23 (by decide) (fun c23 => ?_) (fun c23 => ?_)
      · rw [if_neg c23] at hsh
        refine lv_bipush (v := iI (48)) hx hb dX13_counts_31 (by decide +kernel) ?_
        exact w13_counts_b33 (hk7 := hk7) E hp hS (hl.sub [0, 1, 2] rfl) hsh
      · rw [if_pos c23] at hsh
        refine lv_bipush (v := iI (49)) hx hb dX13_counts_26 (by decide +kernel) ?_
        refine lv_goto (tgt := 33) hx hb dX13_counts_28 (by decide) ?_
        exact w13_counts_b33 (hk7 := hk7) E hp hS (hl.sub [0, 1, 2] rfl) hsh
set_option maxRecDepth 100000 in
set_option maxHeartbeats 4000000 in
theorem c13_counts (l : Launch) (D : va_G) (cA : Nat → ClassId) (B : Nat) (S S' : HP) (x0 : Int) (x1 : Int) (r : Int) (hsh : s13_counts S x0 x1 = some (r, S')) : Met l yX13_counts (e_wu yX13_counts cX13_counts 3 (some .int)) ({ frames := 1, cells := 0, slots := 0, locals := 22 } : Room) (va_Pc [e_rv B (x0), .int (iI (x1))] (fun U => e_PU D cA B S U)) (e_Qi D cA B r S') 0 0 (e_A B) := by
  refine Met.ofW (cc := cX13_counts) (maxL := 3) (ret := (some .int)) (by decide +kernel) rfl ?_
  intro p e s m args below meth c s₁ Bd hml hv
  obtain ⟨rfl, hp⟩ := hv
  have hp : e_Pic D cA B S s s.heap := hp
  have hx := Bd.exec
  have hb := Bd.bytes
  have hrt := Bd.returns
  have hlk := Bd.notSynchronized
  have hown : s.vm.findClass RX13 = some m.cls := findClass_of_methodNamed Bd.named
  have hts : ∀ w ∈ e_tb, w.before ([e_rv B (x0), .int (iI (x1))] : List Value).toArray s = true := fun w h => atoms_spec (ws := (e_wu yX13_counts cX13_counts 3 (some .int))) Bd.pre w (List.mem_cons_of_mem _ h)
  have E : e_En p s m ([e_rv B (x0), .int (iI (x1))] : List Value).toArray meth c cX13_counts RX13 3 (some .int) := ⟨hx, hb, hml, hown, hts, hlk, hrt⟩
  have hS : va_S (e_A B) s.heap s.heap [] := va_S.rf
  have hl := e_entry (vs := [e_rv B (x0), .int (iI (x1))]) (n := 3) (Nat.le_of_ble_eq_true rfl) (e_cc (e_rv_cat _ _) (e_cc rfl e_cn))
  rw [lg_entry_eq]
  generalize (lg_sl [e_rv B (x0), .int (iI (x1))] ++ List.replicate (3 - (lg_sl [e_rv B (x0), .int (iI (x1))]).length) Slot.unset).toArray = ls at hl ⊢
  generalize ([e_rv B (x0), .int (iI (x1))] : List Value).toArray = args at hts E ⊢
  have hl : e_lo ls 3 [(0, e_rv B (x0)), (1, .int (iI (x1)))] := hl
  have hsh := (gd_some hsh).2
  refine lv_iload_n hx hb dX13_counts_0 rfl (hl.at 1 rfl) ?_
  refine e_istore_n (lv' := [(2, .int (iI (x1))), (0, e_rv B (x0)), (1, .int (iI (x1)))]) hx hb dX13_counts_1 rfl hl (by decide) rfl (fun ls hl => ?_)
  refine e_aload_n (B := B) (x := x0) hx hb dX13_counts_2 rfl (hl.at 1 rfl) ?_
  refine lv_iconst (v := iI (0)) hx hb dX13_counts_3 rfl ?_
  obtain ⟨S4, h4, hsh⟩ := Option.bind_eq_some_iff.mp hsh
  refine e_putI (k := 66) hx hb hts in_X13 tyX13 tyX13_ok nmX13 hown hp hS h4 rfl (by decide) (by decide) rfl (hts _ kf13_606) rfl rfl (by decide +kernel) dX13_counts_4 (fun H locs hp hS => ?_)
  exact w13_counts_l7 E 1000000 hp hS (hl.sub [1, 2, 0] rfl) hsh
theorem ok13_readsArgument {S : HP} {x0 : Int} {x1 : Int} {r : Int × HP} (h : s13_readsArgument S x0 x1 = some r) : 0 ≤ x0 ∧ x0.toNat < e_n S ∧ e_g S x0.toNat = 13 := (gd_some h).1
set_option maxRecDepth 100000 in
set_option maxHeartbeats 4000000 in
theorem w13_readsArgument_b132 {p : Program} {l : Launch} {e : Env} {s : State} {m : MethodId} {args : Array Value} {below : List Frame} {meth : Method} {c : Code} {D : va_G} {cA : Nat → ClassId} {B : Nat} {res : Int × HP} (E : e_En p s m args meth c cX13_readsArgument RX13 2 (some .int)) {ls : Array Slot} {H : Heap} {locs : List Loc} {S : HP} {y0 : Int} (hp : e_Pic D cA B S s H) (hS : va_S (e_A B) s.heap H locs) (hl : e_lo ls 2 []) (hsh : s13_readsArgument_b132 S y0 = some res) : W p l e ({ frames := 2, cells := 0, slots := 0, locals := 42 } : Room) s m args below meth c H locs 0 0 (MQ below (e_Qi D cA B res.1 res.2) args s 0 0 (e_A B)) (F0 m 132 ls [.int (iI (y0))]) := by
  obtain ⟨hx, hb, hml, hown, hts, hlk, hrt⟩ := id E
  unfold s13_readsArgument_b132 at hsh
  cases hsh
  exact e_iret hx hb hrt hlk hp hS dX13_readsArgument_132
set_option maxRecDepth 100000 in
set_option maxHeartbeats 4000000 in
theorem w13_readsArgument_b116 {p : Program} {l : Launch} {e : Env} {s : State} {m : MethodId} {args : Array Value} {below : List Frame} {meth : Method} {c : Code} {D : va_G} {cA : Nat → ClassId} {B : Nat} {res : Int × HP} (E : e_En p s m args meth c cX13_readsArgument RX13 2 (some .int)) {ls : Array Slot} {H : Heap} {locs : List Loc} {S : HP} {y0 : Int} (hp : e_Pic D cA B S s H) (hS : va_S (e_A B) s.heap H locs) (hl : e_lo ls 2 []) (hsh : s13_readsArgument_b116 S y0 = some res) : W p l e ({ frames := 2, cells := 0, slots := 0, locals := 42 } : Room) s m args below meth c H locs 0 0 (MQ below (e_Qi D cA B res.1 res.2) args s 0 0 (e_A B)) (F0 m 116 ls [.int (iI (y0))]) := by
  obtain ⟨hx, hb, hml, hown, hts, hlk, hrt⟩ := id E
  unfold s13_readsArgument_b116 at hsh
  cases hsh
  exact e_iret hx hb hrt hlk hp hS dX13_readsArgument_116
set_option maxRecDepth 100000 in
set_option maxHeartbeats 4000000 in
theorem w13_readsArgument_b157 {p : Program} {l : Launch} {e : Env} {s : State} {m : MethodId} {args : Array Value} {below : List Frame} {meth : Method} {c : Code} {D : va_G} {cA : Nat → ClassId} {B : Nat} {res : Int × HP} (E : e_En p s m args meth c cX13_readsArgument RX13 2 (some .int)) {ls : Array Slot} {H : Heap} {locs : List Loc} {S : HP} {y0 : Int} (hp : e_Pic D cA B S s H) (hS : va_S (e_A B) s.heap H locs) (hl : e_lo ls 2 []) (hsh : s13_readsArgument_b157 S y0 = some res) : W p l e ({ frames := 2, cells := 0, slots := 0, locals := 42 } : Room) s m args below meth c H locs 0 0 (MQ below (e_Qi D cA B res.1 res.2) args s 0 0 (e_A B)) (F0 m 157 ls [.int (iI (y0))]) := by
  obtain ⟨hx, hb, hml, hown, hts, hlk, hrt⟩ := id E
  unfold s13_readsArgument_b157 at hsh
  cases hsh
  exact e_iret hx hb hrt hlk hp hS dX13_readsArgument_157
set_option maxRecDepth 100000 in
set_option maxHeartbeats 4000000 in
theorem w13_readsArgument_b152 {p : Program} {l : Launch} {e : Env} {s : State} {m : MethodId} {args : Array Value} {below : List Frame} {meth : Method} {c : Code} {D : va_G} {cA : Nat → ClassId} {B : Nat} {res : Int × HP} (E : e_En p s m args meth c cX13_readsArgument RX13 2 (some .int)) {ls : Array Slot} {H : Heap} {locs : List Loc} {S : HP} (hp : e_Pic D cA B S s H) (hS : va_S (e_A B) s.heap H locs) (hl : e_lo ls 2 []) (hsh : s13_readsArgument_b152 S  = some res) : W p l e ({ frames := 2, cells := 0, slots := 0, locals := 42 } : Room) s m args below meth c H locs 0 0 (MQ below (e_Qi D cA B res.1 res.2) args s 0 0 (e_A B)) (F0 m 152 ls []) := by
  obtain ⟨hx, hb, hml, hown, hts, hlk, hrt⟩ := id E
  unfold s13_readsArgument_b152 at hsh
  refine lv_iconst (v := iI (2)) hx hb dX13_readsArgument_152 rfl ?_
  refine lv_goto (tgt := 157) hx hb dX13_readsArgument_153 (by decide) ?_
  exact w13_readsArgument_b157 E hp hS (hl.sub [] rfl) hsh
set_option maxRecDepth 100000 in
set_option maxHeartbeats 4000000 in
theorem w13_readsArgument_b173 {p : Program} {l : Launch} {e : Env} {s : State} {m : MethodId} {args : Array Value} {below : List Frame} {meth : Method} {c : Code} {D : va_G} {cA : Nat → ClassId} {B : Nat} {res : Int × HP} (E : e_En p s m args meth c cX13_readsArgument RX13 2 (some .int)) {ls : Array Slot} {H : Heap} {locs : List Loc} {S : HP} {y0 : Int} (hp : e_Pic D cA B S s H) (hS : va_S (e_A B) s.heap H locs) (hl : e_lo ls 2 []) (hsh : s13_readsArgument_b173 S y0 = some res) : W p l e ({ frames := 2, cells := 0, slots := 0, locals := 42 } : Room) s m args below meth c H locs 0 0 (MQ below (e_Qi D cA B res.1 res.2) args s 0 0 (e_A B)) (F0 m 173 ls [.int (iI (y0))]) := by
  obtain ⟨hx, hb, hml, hown, hts, hlk, hrt⟩ := id E
  unfold s13_readsArgument_b173 at hsh
  cases hsh
  exact e_iret hx hb hrt hlk hp hS dX13_readsArgument_173
set_option maxRecDepth 100000 in
set_option maxHeartbeats 4000000 in
theorem c13_readsArgument (l : Launch) (D : va_G) (cA : Nat → ClassId) (B : Nat) (S S' : HP) (x0 : Int) (x1 : Int) (r : Int) (hsh : s13_readsArgument S x0 x1 = some (r, S')) : Met l yX13_readsArgument (e_wu yX13_readsArgument cX13_readsArgument 2 (some .int)) ({ frames := 2, cells := 0, slots := 0, locals := 42 } : Room) (va_Pc [e_rv B (x0), .int (iI (x1))] (fun U => e_PU D cA B S U)) (e_Qi D cA B r S') 0 0 (e_A B) := by
  refine Met.ofW (cc := cX13_readsArgument) (maxL := 2) (ret := (some .int)) (by decide +kernel) rfl ?_
  intro p e s m args below meth c s₁ Bd hml hv
  obtain ⟨rfl, hp⟩ := hv
  have hp : e_Pic D cA B S s s.heap := hp
  have hx := Bd.exec
  have hb := Bd.bytes
  have hrt := Bd.returns
  have hlk := Bd.notSynchronized
  have hown : s.vm.findClass RX13 = some m.cls := findClass_of_methodNamed Bd.named
  have hts : ∀ w ∈ e_tb, w.before ([e_rv B (x0), .int (iI (x1))] : List Value).toArray s = true := fun w h => atoms_spec (ws := (e_wu yX13_readsArgument cX13_readsArgument 2 (some .int))) Bd.pre w (List.mem_cons_of_mem _ h)
  have E : e_En p s m ([e_rv B (x0), .int (iI (x1))] : List Value).toArray meth c cX13_readsArgument RX13 2 (some .int) := ⟨hx, hb, hml, hown, hts, hlk, hrt⟩
  have hS : va_S (e_A B) s.heap s.heap [] := va_S.rf
  have hl := e_entry (vs := [e_rv B (x0), .int (iI (x1))]) (n := 2) (Nat.le_of_ble_eq_true rfl) (e_cc (e_rv_cat _ _) (e_cc rfl e_cn))
  rw [lg_entry_eq]
  generalize (lg_sl [e_rv B (x0), .int (iI (x1))] ++ List.replicate (2 - (lg_sl [e_rv B (x0), .int (iI (x1))]).length) Slot.unset).toArray = ls at hl ⊢
  generalize ([e_rv B (x0), .int (iI (x1))] : List Value).toArray = args at hts E ⊢
  have hl : e_lo ls 2 [(0, e_rv B (x0)), (1, .int (iI (x1)))] := hl
  have hsh := (gd_some hsh).2
  refine lv_iload_n hx hb dX13_readsArgument_0 rfl (hl.at 1 rfl) ?_
  refine e_aload_n (B := B) (x := x0) hx hb dX13_readsArgument_1 rfl (hl.at 0 rfl) ?_
  obtain ⟨v2, h2, hsh⟩ := Option.bind_eq_some_iff.mp hsh
  refine e_getI (k := 55) hx hb hts in_X13 hown hp h2 rfl (by decide) (by decide) rfl (hts _ kf13_609) rfl dX13_readsArgument_2 ?_
  refine e_icmp_ne (tgt := 10) hx hb dX13_readsArgument_5 (by decide) (fun c5 => ?_) (fun c5 => ?_)
  · rw [if_neg c5] at hsh
    refine e_aload_n (B := B) (x := x0) hx hb dX13_readsArgument_10 rfl (hl.at 0 rfl) ?_
    refine e_aload_n (B := B) (x := x0) hx hb dX13_readsArgument_11 rfl (hl.at 0 rfl) ?_
    obtain ⟨v12, h12, hsh⟩ := Option.bind_eq_some_iff.mp hsh
    refine e_getR (k := 57) hx hb hts in_X13 hown hp h12 rfl (by decide) (by decide) rfl (hts _ kf13_95) rfl dX13_readsArgument_12 ?_
    refine e_aload_n (B := B) (x := x0) hx hb dX13_readsArgument_15 rfl (hl.at 0 rfl) ?_
    obtain ⟨v16, h16, hsh⟩ := Option.bind_eq_some_iff.mp hsh
    refine e_getI (k := 55) hx hb hts in_X13 hown hp h16 rfl (by decide) (by decide) rfl (hts _ kf13_609) rfl dX13_readsArgument_16 ?_
    refine lv_iconst (v := iI (1)) hx hb dX13_readsArgument_19 rfl ?_
    refine e_isub hx hb dX13_readsArgument_20 ?_
    obtain ⟨v21, h21, hsh⟩ := Option.bind_eq_some_iff.mp hsh
    refine e_iald hx hb hp h21 dX13_readsArgument_21 ?_
    obtain ⟨S22, h22, hsh⟩ := Option.bind_eq_some_iff.mp hsh
    refine e_putI (k := 63) hx hb hts in_X13 tyX13 tyX13_ok nmX13 hown hp hS h22 rfl (by decide) (by decide) rfl (hts _ kf13_612) rfl rfl (by decide +kernel) dX13_readsArgument_22 (fun H locs hp hS => ?_)
    refine e_aload_n (B := B) (x := x0) hx hb dX13_readsArgument_25 rfl (hl.at 0 rfl) ?_
    obtain ⟨v26, h26, hsh⟩ := Option.bind_eq_some_iff.mp hsh
    refine e_getI (k := 62) hx hb hts in_X13 hown hp h26 rfl (by decide) (by decide) rfl (hts _ kf13_615) rfl dX13_readsArgument_26 ?_
    by_cases c29_0 : iW (v26) = 39
    · rw [if_pos c29_0] at hsh
      refine lv_lookup (off := 88) (tgt := 117) hx hb dX13_readsArgument_29 (by decide +kernel) (e_off_h c29_0.symm) (by decide) ?_
      refine e_aload_n (B := B) (x := x0) hx hb dX13_readsArgument_117 rfl (hl.at 0 rfl) ?_
      obtain ⟨v118, h118, hsh⟩ := Option.bind_eq_some_iff.mp hsh
      refine e_getI (k := 63) hx hb hts in_X13 hown hp h118 rfl (by decide) (by decide) rfl (hts _ kf13_612) rfl dX13_readsArgument_118 ?_
      obtain ⟨⟨v121, S121⟩, h121, hsh⟩ := Option.bind_eq_some_iff.mp hsh
      have hsh : _ = _ := hsh
      try dsimp only at hsh
      refine e_callS (nL := 2) (mc := 0) (ms := 0) (As := [.int (iI (v118))]) (rest := []) hx hb hml hown hts hp hS hl.size (c13_isLetter l D cA B S22 S121 (v118) v121 h121) rfl rfl kd13_isLetter (kl13_618) ks13_isLetter ki13 kh13_isLetter ⟨Nat.le_of_ble_eq_true rfl, Nat.le_of_ble_eq_true rfl⟩ rfl (by simp [e_rv_cat, e_int_cat]) ⟨Nat.le_refl _, Nat.le_refl _⟩ dX13_readsArgument_121 rfl (fun H locs hp hS => ?_)
      refine e_if_eq (tgt := 131) hx hb dX13_readsArgument_124 (by decide) (fun c124 => ?_) (fun c124 => ?_)
      · rw [if_pos c124] at hsh
        refine lv_iconst (v := iI (1)) hx hb dX13_readsArgument_131 rfl ?_
        exact w13_readsArgument_b132 E hp hS (hl.sub [] rfl) hsh
      · rw [if_neg c124] at hsh
        refine lv_iconst (v := iI (2)) hx hb dX13_readsArgument_127 rfl ?_
        refine lv_goto (tgt := 132) hx hb dX13_readsArgument_128 (by decide) ?_
        exact w13_readsArgument_b132 E hp hS (hl.sub [] rfl) hsh
    · rw [if_neg c29_0] at hsh
      by_cases c29_1 : iW (v26) = 47
      · rw [if_pos c29_1] at hsh
        refine lv_lookup (off := 59) (tgt := 88) hx hb dX13_readsArgument_29 (by decide +kernel) (e_off_s (fun q => c29_0 q.symm) (e_off_h c29_1.symm)) (by decide) ?_
        refine e_aload_n (B := B) (x := x0) hx hb dX13_readsArgument_88 rfl (hl.at 0 rfl) ?_
        obtain ⟨v89, h89, hsh⟩ := Option.bind_eq_some_iff.mp hsh
        refine e_getI (k := 63) hx hb hts in_X13 hown hp h89 rfl (by decide) (by decide) rfl (hts _ kf13_612) rfl dX13_readsArgument_89 ?_
        refine lv_bipush (v := iI (13)) hx hb dX13_readsArgument_92 (by decide +kernel) ?_
        refine e_icmp_ne (tgt := 101) hx hb dX13_readsArgument_94 (by decide) (fun c94 => ?_) (fun c94 => ?_)
        · rw [if_neg c94] at hsh
          refine e_aload_n (B := B) (x := x0) hx hb dX13_readsArgument_101 rfl (hl.at 0 rfl) ?_
          obtain ⟨v102, h102, hsh⟩ := Option.bind_eq_some_iff.mp hsh
          refine e_getI (k := 63) hx hb hts in_X13 hown hp h102 rfl (by decide) (by decide) rfl (hts _ kf13_612) rfl dX13_readsArgument_102 ?_
          obtain ⟨⟨v105, S105⟩, h105, hsh⟩ := Option.bind_eq_some_iff.mp hsh
          have hsh : _ = _ := hsh
          try dsimp only at hsh
          refine e_callS (nL := 2) (mc := 0) (ms := 0) (As := [.int (iI (v102))]) (rest := []) hx hb hml hown hts hp hS hl.size (c13_isSign l D cA B S22 S105 (v102) v105 h105) rfl rfl kd13_isSign (kl13_202) ks13_isSign ki13 kh13_isSign ⟨Nat.le_of_ble_eq_true rfl, Nat.le_of_ble_eq_true rfl⟩ rfl (by simp [e_rv_cat, e_int_cat]) ⟨Nat.le_refl _, Nat.le_refl _⟩ dX13_readsArgument_105 rfl (fun H locs hp hS => ?_)
          refine e_if_eq (tgt := 115) hx hb dX13_readsArgument_108 (by decide) (fun c108 => ?_) (fun c108 => ?_)
          · rw [if_pos c108] at hsh
            refine lv_iconst (v := iI (1)) hx hb dX13_readsArgument_115 rfl ?_
            exact w13_readsArgument_b116 E hp hS (hl.sub [] rfl) hsh
          · rw [if_neg c108] at hsh
            refine lv_iconst (v := iI (0)) hx hb dX13_readsArgument_111 rfl ?_
            refine lv_goto (tgt := 116) hx hb dX13_readsArgument_112 (by decide) ?_
            exact w13_readsArgument_b116 E hp hS (hl.sub [] rfl) hsh
        · rw [if_pos c94] at hsh
          refine lv_iconst (v := iI (2)) hx hb dX13_readsArgument_97 rfl ?_
          refine lv_goto (tgt := 116) hx hb dX13_readsArgument_98 (by decide) ?_
          exact w13_readsArgument_b116 E hp hS (hl.sub [] rfl) hsh
      · rw [if_neg c29_1] at hsh
        by_cases c29_2 : iW (v26) = 64
        · rw [if_pos c29_2] at hsh
          refine lv_lookup (off := 104) (tgt := 133) hx hb dX13_readsArgument_29 (by decide +kernel) (e_off_s (fun q => c29_0 q.symm) (e_off_s (fun q => c29_1 q.symm) (e_off_h c29_2.symm))) (by decide) ?_
          refine e_aload_n (B := B) (x := x0) hx hb dX13_readsArgument_133 rfl (hl.at 0 rfl) ?_
          obtain ⟨v134, h134, hsh⟩ := Option.bind_eq_some_iff.mp hsh
          refine e_getI (k := 63) hx hb hts in_X13 hown hp h134 rfl (by decide) (by decide) rfl (hts _ kf13_612) rfl dX13_readsArgument_134 ?_
          obtain ⟨⟨v137, S137⟩, h137, hsh⟩ := Option.bind_eq_some_iff.mp hsh
          have hsh : _ = _ := hsh
          try dsimp only at hsh
          refine e_callS (nL := 2) (mc := 0) (ms := 0) (As := [.int (iI (v134))]) (rest := []) hx hb hml hown hts hp hS hl.size (c13_isLetter l D cA B S22 S137 (v134) v137 h137) rfl rfl kd13_isLetter (kl13_618) ks13_isLetter ki13 kh13_isLetter ⟨Nat.le_of_ble_eq_true rfl, Nat.le_of_ble_eq_true rfl⟩ rfl (by simp [e_rv_cat, e_int_cat]) ⟨Nat.le_refl _, Nat.le_refl _⟩ dX13_readsArgument_137 rfl (fun H locs hp hS => ?_)
          refine e_if_ne (tgt := 152) hx hb dX13_readsArgument_140 (by decide) (fun c140 => ?_) (fun c140 => ?_)
          · rw [if_neg c140] at hsh
            exact w13_readsArgument_b152 E hp hS (hl.sub [] rfl) hsh
          · rw [if_pos c140] at hsh
            refine e_aload_n (B := B) (x := x0) hx hb dX13_readsArgument_143 rfl (hl.at 0 rfl) ?_
            obtain ⟨v144, h144, hsh⟩ := Option.bind_eq_some_iff.mp hsh
            refine e_getI (k := 63) hx hb hts in_X13 hown hp h144 rfl (by decide) (by decide) rfl (hts _ kf13_612) rfl dX13_readsArgument_144 ?_
            refine lv_bipush (v := iI (64)) hx hb dX13_readsArgument_147 (by decide +kernel) ?_
            refine e_icmp_ne (tgt := 156) hx hb dX13_readsArgument_149 (by decide) (fun c149 => ?_) (fun c149 => ?_)
            · rw [if_neg c149] at hsh
              refine lv_iconst (v := iI (1)) hx hb dX13_readsArgument_156 rfl ?_
              exact w13_readsArgument_b157 E hp hS (hl.sub [] rfl) hsh
            · rw [if_pos c149] at hsh
              exact w13_readsArgument_b152 E hp hS (hl.sub [] rfl) hsh
        · rw [if_neg c29_2] at hsh
          by_cases c29_3 : iW (v26) = 96
          · rw [if_pos c29_3] at hsh
            refine lv_lookup (off := 88) (tgt := 117) hx hb dX13_readsArgument_29 (by decide +kernel) (e_off_s (fun q => c29_0 q.symm) (e_off_s (fun q => c29_1 q.symm) (e_off_s (fun q => c29_2 q.symm) (e_off_h c29_3.symm)))) (by decide) ?_
            refine e_aload_n (B := B) (x := x0) hx hb dX13_readsArgument_117 rfl (hl.at 0 rfl) ?_
            obtain ⟨v118, h118, hsh⟩ := Option.bind_eq_some_iff.mp hsh
            refine e_getI (k := 63) hx hb hts in_X13 hown hp h118 rfl (by decide) (by decide) rfl (hts _ kf13_612) rfl dX13_readsArgument_118 ?_
            obtain ⟨⟨v121, S121⟩, h121, hsh⟩ := Option.bind_eq_some_iff.mp hsh
            have hsh : _ = _ := hsh
            try dsimp only at hsh
            refine e_callS (nL := 2) (mc := 0) (ms := 0) (As := [.int (iI (v118))]) (rest := []) hx hb hml hown hts hp hS hl.size (c13_isLetter l D cA B S22 S121 (v118) v121 h121) rfl rfl kd13_isLetter (kl13_618) ks13_isLetter ki13 kh13_isLetter ⟨Nat.le_of_ble_eq_true rfl, Nat.le_of_ble_eq_true rfl⟩ rfl (by simp [e_rv_cat, e_int_cat]) ⟨Nat.le_refl _, Nat.le_refl _⟩ dX13_readsArgument_121 rfl (fun H locs hp hS => ?_)
            refine e_if_eq (tgt := 131) hx hb dX13_readsArgument_124 (by decide) (fun c124 => ?_) (fun c124 => ?_)
            · rw [if_pos c124] at hsh
              refine lv_iconst (v := iI (1)) hx hb dX13_readsArgument_131 rfl ?_
              exact w13_readsArgument_b132 E hp hS (hl.sub [] rfl) hsh
            · rw [if_neg c124] at hsh
              refine lv_iconst (v := iI (2)) hx hb dX13_readsArgument_127 rfl ?_
              refine lv_goto (tgt := 132) hx hb dX13_readsArgument_128 (by decide) ?_
              exact w13_readsArgument_b132 E hp hS (hl.sub [] rfl) hsh
          · rw [if_neg c29_3] at hsh
            by_cases c29_4 : iW (v26) = 109
            · rw [if_pos c29_4] at hsh
              refine lv_lookup (off := 88) (tgt := 117) hx hb dX13_readsArgument_29 (by decide +kernel) (e_off_s (fun q => c29_0 q.symm) (e_off_s (fun q => c29_1 q.symm) (e_off_s (fun q => c29_2 q.symm) (e_off_s (fun q => c29_3 q.symm) (e_off_h c29_4.symm))))) (by decide) ?_
              refine e_aload_n (B := B) (x := x0) hx hb dX13_readsArgument_117 rfl (hl.at 0 rfl) ?_
              obtain ⟨v118, h118, hsh⟩ := Option.bind_eq_some_iff.mp hsh
              refine e_getI (k := 63) hx hb hts in_X13 hown hp h118 rfl (by decide) (by decide) rfl (hts _ kf13_612) rfl dX13_readsArgument_118 ?_
              obtain ⟨⟨v121, S121⟩, h121, hsh⟩ := Option.bind_eq_some_iff.mp hsh
              have hsh : _ = _ := hsh
              try dsimp only at hsh
              refine e_callS (nL := 2) (mc := 0) (ms := 0) (As := [.int (iI (v118))]) (rest := []) hx hb hml hown hts hp hS hl.size (c13_isLetter l D cA B S22 S121 (v118) v121 h121) rfl rfl kd13_isLetter (kl13_618) ks13_isLetter ki13 kh13_isLetter ⟨Nat.le_of_ble_eq_true rfl, Nat.le_of_ble_eq_true rfl⟩ rfl (by simp [e_rv_cat, e_int_cat]) ⟨Nat.le_refl _, Nat.le_refl _⟩ dX13_readsArgument_121 rfl (fun H locs hp hS => ?_)
              refine e_if_eq (tgt := 131) hx hb dX13_readsArgument_124 (by decide) (fun c124 => ?_) (fun c124 => ?_)
              · rw [if_pos c124] at hsh
                refine lv_iconst (v := iI (1)) hx hb dX13_readsArgument_131 rfl ?_
                exact w13_readsArgument_b132 E hp hS (hl.sub [] rfl) hsh
              · rw [if_neg c124] at hsh
                refine lv_iconst (v := iI (2)) hx hb dX13_readsArgument_127 rfl ?_
                refine lv_goto (tgt := 132) hx hb dX13_readsArgument_128 (by decide) ?_
                exact w13_readsArgument_b132 E hp hS (hl.sub [] rfl) hsh
            · rw [if_neg c29_4] at hsh
              by_cases c29_5 : iW (v26) = 113
              · rw [if_pos c29_5] at hsh
                refine lv_lookup (off := 88) (tgt := 117) hx hb dX13_readsArgument_29 (by decide +kernel) (e_off_s (fun q => c29_0 q.symm) (e_off_s (fun q => c29_1 q.symm) (e_off_s (fun q => c29_2 q.symm) (e_off_s (fun q => c29_3 q.symm) (e_off_s (fun q => c29_4 q.symm) (e_off_h c29_5.symm)))))) (by decide) ?_
                refine e_aload_n (B := B) (x := x0) hx hb dX13_readsArgument_117 rfl (hl.at 0 rfl) ?_
                obtain ⟨v118, h118, hsh⟩ := Option.bind_eq_some_iff.mp hsh
                refine e_getI (k := 63) hx hb hts in_X13 hown hp h118 rfl (by decide) (by decide) rfl (hts _ kf13_612) rfl dX13_readsArgument_118 ?_
                obtain ⟨⟨v121, S121⟩, h121, hsh⟩ := Option.bind_eq_some_iff.mp hsh
                have hsh : _ = _ := hsh
                try dsimp only at hsh
                refine e_callS (nL := 2) (mc := 0) (ms := 0) (As := [.int (iI (v118))]) (rest := []) hx hb hml hown hts hp hS hl.size (c13_isLetter l D cA B S22 S121 (v118) v121 h121) rfl rfl kd13_isLetter (kl13_618) ks13_isLetter ki13 kh13_isLetter ⟨Nat.le_of_ble_eq_true rfl, Nat.le_of_ble_eq_true rfl⟩ rfl (by simp [e_rv_cat, e_int_cat]) ⟨Nat.le_refl _, Nat.le_refl _⟩ dX13_readsArgument_121 rfl (fun H locs hp hS => ?_)
                refine e_if_eq (tgt := 131) hx hb dX13_readsArgument_124 (by decide) (fun c124 => ?_) (fun c124 => ?_)
                · rw [if_pos c124] at hsh
                  refine lv_iconst (v := iI (1)) hx hb dX13_readsArgument_131 rfl ?_
                  exact w13_readsArgument_b132 E hp hS (hl.sub [] rfl) hsh
                · rw [if_neg c124] at hsh
                  refine lv_iconst (v := iI (2)) hx hb dX13_readsArgument_127 rfl ?_
                  refine lv_goto (tgt := 132) hx hb dX13_readsArgument_128 (by decide) ?_
                  exact w13_readsArgument_b132 E hp hS (hl.sub [] rfl) hsh
              · rw [if_neg c29_5] at hsh
                refine lv_lookup (off := 129) (tgt := 158) hx hb dX13_readsArgument_29 (by decide +kernel) (e_off_s (fun q => c29_0 q.symm) (e_off_s (fun q => c29_1 q.symm) (e_off_s (fun q => c29_2 q.symm) (e_off_s (fun q => c29_3 q.symm) (e_off_s (fun q => c29_4 q.symm) (e_off_s (fun q => c29_5 q.symm) rfl)))))) (by decide) ?_
                refine e_aload_n (B := B) (x := x0) hx hb dX13_readsArgument_158 rfl (hl.at 0 rfl) ?_
                obtain ⟨v159, h159, hsh⟩ := Option.bind_eq_some_iff.mp hsh
                refine e_getI (k := 63) hx hb hts in_X13 hown hp h159 rfl (by decide) (by decide) rfl (hts _ kf13_612) rfl dX13_readsArgument_159 ?_
                obtain ⟨⟨v162, S162⟩, h162, hsh⟩ := Option.bind_eq_some_iff.mp hsh
                have hsh : _ = _ := hsh
                try dsimp only at hsh
                refine e_callS (nL := 2) (mc := 0) (ms := 0) (As := [.int (iI (v159))]) (rest := []) hx hb hml hown hts hp hS hl.size (c13_isSign l D cA B S22 S162 (v159) v162 h162) rfl rfl kd13_isSign (kl13_202) ks13_isSign ki13 kh13_isSign ⟨Nat.le_of_ble_eq_true rfl, Nat.le_of_ble_eq_true rfl⟩ rfl (by simp [e_rv_cat, e_int_cat]) ⟨Nat.le_refl _, Nat.le_refl _⟩ dX13_readsArgument_162 rfl (fun H locs hp hS => ?_)
                refine e_if_eq (tgt := 172) hx hb dX13_readsArgument_165 (by decide) (fun c165 => ?_) (fun c165 => ?_)
                · rw [if_pos c165] at hsh
                  refine lv_iconst (v := iI (1)) hx hb dX13_readsArgument_172 rfl ?_
                  exact w13_readsArgument_b173 E hp hS (hl.sub [] rfl) hsh
                · rw [if_neg c165] at hsh
                  refine lv_iconst (v := iI (2)) hx hb dX13_readsArgument_168 rfl ?_
                  refine lv_goto (tgt := 173) hx hb dX13_readsArgument_169 (by decide) ?_
                  exact w13_readsArgument_b173 E hp hS (hl.sub [] rfl) hsh
  · rw [if_pos c5] at hsh
    refine lv_iconst (v := iI (0)) hx hb dX13_readsArgument_8 rfl ?_
    cases hsh
    exact e_iret hx hb hrt hlk hp hS dX13_readsArgument_9
theorem ok13_readsObject {S : HP} {x0 : Int} {x1 : Int} {r : Int × HP} (h : s13_readsObject S x0 x1 = some r) : 0 ≤ x0 ∧ x0.toNat < e_n S ∧ e_g S x0.toNat = 13 := (gd_some h).1
set_option maxRecDepth 100000 in
set_option maxHeartbeats 4000000 in
theorem w13_readsObject_b66 {p : Program} {l : Launch} {e : Env} {s : State} {m : MethodId} {args : Array Value} {below : List Frame} {meth : Method} {c : Code} {D : va_G} {cA : Nat → ClassId} {B : Nat} {res : Int × HP} (E : e_En p s m args meth c cX13_readsObject RX13 2 (some .int)) {ls : Array Slot} {H : Heap} {locs : List Loc} {S : HP} {y0 : Int} (hp : e_Pic D cA B S s H) (hS : va_S (e_A B) s.heap H locs) (hl : e_lo ls 2 []) (hsh : s13_readsObject_b66 S y0 = some res) : W p l e ({ frames := 1, cells := 0, slots := 0, locals := 20 } : Room) s m args below meth c H locs 0 0 (MQ below (e_Qi D cA B res.1 res.2) args s 0 0 (e_A B)) (F0 m 66 ls [.int (iI (y0))]) := by
  obtain ⟨hx, hb, hml, hown, hts, hlk, hrt⟩ := id E
  unfold s13_readsObject_b66 at hsh
  cases hsh
  exact e_iret hx hb hrt hlk hp hS dX13_readsObject_66
set_option maxRecDepth 100000 in
set_option maxHeartbeats 4000000 in
theorem w13_readsObject_b17 {p : Program} {l : Launch} {e : Env} {s : State} {m : MethodId} {args : Array Value} {below : List Frame} {meth : Method} {c : Code} {D : va_G} {cA : Nat → ClassId} {B : Nat} {res : Int × HP} (E : e_En p s m args meth c cX13_readsObject RX13 2 (some .int)) {ls : Array Slot} {H : Heap} {locs : List Loc} {S : HP} {x0 : Int} {x1 : Int} {y0 : Int} {y1 : Int} (hp : e_Pic D cA B S s H) (hS : va_S (e_A B) s.heap H locs) (hl : e_lo ls 2 [(0, e_rv B (x0)), (1, .int (iI (x1)))]) (hsh : s13_readsObject_b17 S x0 x1 y0 y1 = some res) : W p l e ({ frames := 1, cells := 0, slots := 0, locals := 20 } : Room) s m args below meth c H locs 0 0 (MQ below (e_Qi D cA B res.1 res.2) args s 0 0 (e_A B)) (F0 m 17 ls [.int (iI (y1)), e_rv B (y0)]) := by
  obtain ⟨hx, hb, hml, hown, hts, hlk, hrt⟩ := id E
  unfold s13_readsObject_b17 at hsh
  obtain ⟨S17, h17, hsh⟩ := Option.bind_eq_some_iff.mp hsh
  refine e_putZ (k := 65) hx hb hts in_X13 tyX13 tyX13_ok nmX13 hown hp hS h17 rfl (by decide) (by decide) rfl (hts _ kf13_621) rfl rfl (by decide +kernel) dX13_readsObject_17 (fun H locs hp hS => ?_)
  refine e_aload_n (B := B) (x := x0) hx hb dX13_readsObject_20 rfl (hl.at 0 rfl) ?_
  refine lv_sipush (v := iI (1024)) hx hb dX13_readsObject_21 (by decide +kernel) ?_
  obtain ⟨S24, h24, hsh⟩ := Option.bind_eq_some_iff.mp hsh
  refine e_putI (k := 62) hx hb hts in_X13 tyX13 tyX13_ok nmX13 hown hp hS h24 rfl (by decide) (by decide) rfl (hts _ kf13_615) rfl rfl (by decide +kernel) dX13_readsObject_24 (fun H locs hp hS => ?_)
  refine lv_iload_n hx hb dX13_readsObject_27 rfl (hl.at 1 rfl) ?_
  refine lv_iconst (v := iI (1)) hx hb dX13_readsObject_28 rfl ?_
  refine e_iadd hx hb dX13_readsObject_29 ?_
  refine e_aload_n (B := B) (x := x0) hx hb dX13_readsObject_30 rfl (hl.at 0 rfl) ?_
  obtain ⟨v31, h31, hsh⟩ := Option.bind_eq_some_iff.mp hsh
  refine e_getI (k := 55) hx hb hts in_X13 hown hp h31 rfl (by decide) (by decide) rfl (hts _ kf13_609) rfl dX13_readsObject_31 ?_
  refine e_icmp_ne (tgt := 39) hx hb dX13_readsObject_34 (by decide) (fun c34 => ?_) (fun c34 => ?_)
  · rw [if_neg c34] at hsh
    refine e_aload_n (B := B) (x := x0) hx hb dX13_readsObject_39 rfl (hl.at 0 rfl) ?_
    refine e_aload_n (B := B) (x := x0) hx hb dX13_readsObject_40 rfl (hl.at 0 rfl) ?_
    obtain ⟨v41, h41, hsh⟩ := Option.bind_eq_some_iff.mp hsh
    refine e_getR (k := 57) hx hb hts in_X13 hown hp h41 rfl (by decide) (by decide) rfl (hts _ kf13_95) rfl dX13_readsObject_41 ?_
    refine lv_iload_n hx hb dX13_readsObject_44 rfl (hl.at 1 rfl) ?_
    refine lv_iconst (v := iI (1)) hx hb dX13_readsObject_45 rfl ?_
    refine e_iadd hx hb dX13_readsObject_46 ?_
    obtain ⟨v47, h47, hsh⟩ := Option.bind_eq_some_iff.mp hsh
    refine e_iald hx hb hp h47 dX13_readsObject_47 ?_
    obtain ⟨S48, h48, hsh⟩ := Option.bind_eq_some_iff.mp hsh
    refine e_putI (k := 63) hx hb hts in_X13 tyX13 tyX13_ok nmX13 hown hp hS h48 rfl (by decide) (by decide) rfl (hts _ kf13_612) rfl rfl (by decide +kernel) dX13_readsObject_48 (fun H locs hp hS => ?_)
    refine e_aload_n (B := B) (x := x0) hx hb dX13_readsObject_51 rfl (hl.at 0 rfl) ?_
    obtain ⟨v52, h52, hsh⟩ := Option.bind_eq_some_iff.mp hsh
    refine e_getI (k := 63) hx hb hts in_X13 hown hp h52 rfl (by decide) (by decide) rfl (hts _ kf13_612) rfl dX13_readsObject_52 ?_
    obtain ⟨⟨v55, S55⟩, h55, hsh⟩ := Option.bind_eq_some_iff.mp hsh
    have hsh : _ = _ := hsh
    try dsimp only at hsh
    refine e_callS (nL := 2) (mc := 0) (ms := 0) (As := [.int (iI (v52))]) (rest := []) hx hb hml hown hts hp hS hl.size (c13_isObject l D cA B S48 S55 (v52) v55 h55) rfl rfl kd13_isObject (kl13_624) ks13_isObject ki13 kh13_isObject ⟨Nat.le_of_ble_eq_true rfl, Nat.le_of_ble_eq_true rfl⟩ rfl (by simp [e_rv_cat, e_int_cat]) ⟨Nat.le_refl _, Nat.le_refl _⟩ dX13_readsObject_55 rfl (fun H locs hp hS => ?_)
    refine e_if_eq (tgt := 65) hx hb dX13_readsObject_58 (by decide) (fun c58 => ?_) (fun c58 => ?_)
    · rw [if_pos c58] at hsh
      refine lv_iconst (v := iI (1)) hx hb dX13_readsObject_65 rfl ?_
      exact w13_readsObject_b66 E hp hS (hl.sub [] rfl) hsh
    · rw [if_neg c58] at hsh
      refine lv_iconst (v := iI (2)) hx hb dX13_readsObject_61 rfl ?_
      refine lv_goto (tgt := 66) hx hb dX13_readsObject_62 (by decide) ?_
      exact w13_readsObject_b66 E hp hS (hl.sub [] rfl) hsh
  · rw [if_pos c34] at hsh
    refine lv_iconst (v := iI (0)) hx hb dX13_readsObject_37 rfl ?_
    cases hsh
    exact e_iret hx hb hrt hlk hp hS dX13_readsObject_38
set_option maxRecDepth 100000 in
set_option maxHeartbeats 4000000 in
theorem c13_readsObject (l : Launch) (D : va_G) (cA : Nat → ClassId) (B : Nat) (S S' : HP) (x0 : Int) (x1 : Int) (r : Int) (hsh : s13_readsObject S x0 x1 = some (r, S')) : Met l yX13_readsObject (e_wu yX13_readsObject cX13_readsObject 2 (some .int)) ({ frames := 1, cells := 0, slots := 0, locals := 20 } : Room) (va_Pc [e_rv B (x0), .int (iI (x1))] (fun U => e_PU D cA B S U)) (e_Qi D cA B r S') 0 0 (e_A B) := by
  refine Met.ofW (cc := cX13_readsObject) (maxL := 2) (ret := (some .int)) (by decide +kernel) rfl ?_
  intro p e s m args below meth c s₁ Bd hml hv
  obtain ⟨rfl, hp⟩ := hv
  have hp : e_Pic D cA B S s s.heap := hp
  have hx := Bd.exec
  have hb := Bd.bytes
  have hrt := Bd.returns
  have hlk := Bd.notSynchronized
  have hown : s.vm.findClass RX13 = some m.cls := findClass_of_methodNamed Bd.named
  have hts : ∀ w ∈ e_tb, w.before ([e_rv B (x0), .int (iI (x1))] : List Value).toArray s = true := fun w h => atoms_spec (ws := (e_wu yX13_readsObject cX13_readsObject 2 (some .int))) Bd.pre w (List.mem_cons_of_mem _ h)
  have E : e_En p s m ([e_rv B (x0), .int (iI (x1))] : List Value).toArray meth c cX13_readsObject RX13 2 (some .int) := ⟨hx, hb, hml, hown, hts, hlk, hrt⟩
  have hS : va_S (e_A B) s.heap s.heap [] := va_S.rf
  have hl := e_entry (vs := [e_rv B (x0), .int (iI (x1))]) (n := 2) (Nat.le_of_ble_eq_true rfl) (e_cc (e_rv_cat _ _) (e_cc rfl e_cn))
  rw [lg_entry_eq]
  generalize (lg_sl [e_rv B (x0), .int (iI (x1))] ++ List.replicate (2 - (lg_sl [e_rv B (x0), .int (iI (x1))]).length) Slot.unset).toArray = ls at hl ⊢
  generalize ([e_rv B (x0), .int (iI (x1))] : List Value).toArray = args at hts E ⊢
  have hl : e_lo ls 2 [(0, e_rv B (x0)), (1, .int (iI (x1)))] := hl
  have hsh := (gd_some hsh).2
  refine e_aload_n (B := B) (x := x0) hx hb dX13_readsObject_0 rfl (hl.at 0 rfl) ?_
  refine e_aload_n (B := B) (x := x0) hx hb dX13_readsObject_1 rfl (hl.at 0 rfl) ?_
  obtain ⟨v2, h2, hsh⟩ := Option.bind_eq_some_iff.mp hsh
  refine e_getR (k := 57) hx hb hts in_X13 hown hp h2 rfl (by decide) (by decide) rfl (hts _ kf13_95) rfl dX13_readsObject_2 ?_
  refine lv_iload_n hx hb dX13_readsObject_5 rfl (hl.at 1 rfl) ?_
  obtain ⟨v6, h6, hsh⟩ := Option.bind_eq_some_iff.mp hsh
  refine e_iald hx hb hp h6 dX13_readsObject_6 ?_
  refine lv_bipush (v := iI (97)) hx hb dX13_readsObject_7 (by decide +kernel) ?_
  refine e_icmp_ne (tgt := 16) hx hb dX13_readsObject_9 (by decide) (fun c9 => ?_) (fun c9 => ?_)
  · rw [if_neg c9] at hsh
    refine lv_iconst (v := iI (0)) hx hb dX13_readsObject_16 rfl ?_
    exact w13_readsObject_b17 E hp hS (hl.sub [0, 1] rfl) hsh
  · rw [if_pos c9] at hsh
    refine lv_iconst (v := iI (1)) hx hb dX13_readsObject_12 rfl ?_
    refine lv_goto (tgt := 17) hx hb dX13_readsObject_13 (by decide) ?_
    exact w13_readsObject_b17 E hp hS (hl.sub [0, 1] rfl) hsh
theorem ok13_isServing {S : HP} {x0 : Int} {r : Int × HP} (h : s13_isServing S x0 = some r) : 0 ≤ x0 ∧ x0.toNat < e_n S ∧ e_g S x0.toNat = 13 := (gd_some h).1
set_option maxRecDepth 100000 in
set_option maxHeartbeats 4000000 in
theorem w13_isServing_b27 {p : Program} {l : Launch} {e : Env} {s : State} {m : MethodId} {args : Array Value} {below : List Frame} {meth : Method} {c : Code} {D : va_G} {cA : Nat → ClassId} {B : Nat} {res : Int × HP} (E : e_En p s m args meth c cX13_isServing RX13 1 (some .boolean)) {ls : Array Slot} {H : Heap} {locs : List Loc} {S : HP} {y0 : Int} (hp : e_Pic D cA B S s H) (hS : va_S (e_A B) s.heap H locs) (hl : e_lo ls 1 []) (hsh : s13_isServing_b27 S y0 = some res) : W p l e ({ frames := 0, cells := 0, slots := 0, locals := 0 } : Room) s m args below meth c H locs 0 0 (MQ below (e_Qi D cA B res.1 res.2) args s 0 0 (e_A B)) (F0 m 27 ls [.int (iI (y0))]) := by
  obtain ⟨hx, hb, hml, hown, hts, hlk, hrt⟩ := id E
  unfold s13_isServing_b27 at hsh
  obtain ⟨hz, hz1, hz2⟩ := zR_some hsh
  rw [← hz1, ← hz2]
  exact e_zret hx hb hrt hlk hp hS hz dX13_isServing_27
set_option maxRecDepth 100000 in
set_option maxHeartbeats 4000000 in
theorem w13_isServing_b26 {p : Program} {l : Launch} {e : Env} {s : State} {m : MethodId} {args : Array Value} {below : List Frame} {meth : Method} {c : Code} {D : va_G} {cA : Nat → ClassId} {B : Nat} {res : Int × HP} (E : e_En p s m args meth c cX13_isServing RX13 1 (some .boolean)) {ls : Array Slot} {H : Heap} {locs : List Loc} {S : HP} (hp : e_Pic D cA B S s H) (hS : va_S (e_A B) s.heap H locs) (hl : e_lo ls 1 []) (hsh : s13_isServing_b26 S  = some res) : W p l e ({ frames := 0, cells := 0, slots := 0, locals := 0 } : Room) s m args below meth c H locs 0 0 (MQ below (e_Qi D cA B res.1 res.2) args s 0 0 (e_A B)) (F0 m 26 ls []) := by
  obtain ⟨hx, hb, hml, hown, hts, hlk, hrt⟩ := id E
  unfold s13_isServing_b26 at hsh
  refine lv_iconst (v := iI (0)) hx hb dX13_isServing_26 rfl ?_
  exact w13_isServing_b27 E hp hS (hl.sub [] rfl) hsh
set_option maxRecDepth 100000 in
set_option maxHeartbeats 4000000 in
theorem c13_isServing (l : Launch) (D : va_G) (cA : Nat → ClassId) (B : Nat) (S S' : HP) (x0 : Int) (r : Int) (hsh : s13_isServing S x0 = some (r, S')) : Met l yX13_isServing (e_wu yX13_isServing cX13_isServing 1 (some .boolean)) ({ frames := 0, cells := 0, slots := 0, locals := 0 } : Room) (va_Pc [e_rv B (x0)] (fun U => e_PU D cA B S U)) (e_Qi D cA B r S') 0 0 (e_A B) := by
  refine Met.ofW (cc := cX13_isServing) (maxL := 1) (ret := (some .boolean)) (by decide +kernel) rfl ?_
  intro p e s m args below meth c s₁ Bd hml hv
  obtain ⟨rfl, hp⟩ := hv
  have hp : e_Pic D cA B S s s.heap := hp
  have hx := Bd.exec
  have hb := Bd.bytes
  have hrt := Bd.returns
  have hlk := Bd.notSynchronized
  have hown : s.vm.findClass RX13 = some m.cls := findClass_of_methodNamed Bd.named
  have hts : ∀ w ∈ e_tb, w.before ([e_rv B (x0)] : List Value).toArray s = true := fun w h => atoms_spec (ws := (e_wu yX13_isServing cX13_isServing 1 (some .boolean))) Bd.pre w (List.mem_cons_of_mem _ h)
  have E : e_En p s m ([e_rv B (x0)] : List Value).toArray meth c cX13_isServing RX13 1 (some .boolean) := ⟨hx, hb, hml, hown, hts, hlk, hrt⟩
  have hS : va_S (e_A B) s.heap s.heap [] := va_S.rf
  have hl := e_entry (vs := [e_rv B (x0)]) (n := 1) (Nat.le_of_ble_eq_true rfl) (e_cc (e_rv_cat _ _) e_cn)
  rw [lg_entry_eq]
  generalize (lg_sl [e_rv B (x0)] ++ List.replicate (1 - (lg_sl [e_rv B (x0)]).length) Slot.unset).toArray = ls at hl ⊢
  generalize ([e_rv B (x0)] : List Value).toArray = args at hts E ⊢
  have hl : e_lo ls 1 [(0, e_rv B (x0))] := hl
  have hsh := (gd_some hsh).2
  refine e_aload_n (B := B) (x := x0) hx hb dX13_isServing_0 rfl (hl.at 0 rfl) ?_
  obtain ⟨v1, h1, hsh⟩ := Option.bind_eq_some_iff.mp hsh
  refine e_getI (k := 90) hx hb hts in_X13 hown hp h1 rfl (by decide) (by decide) rfl (hts _ kf13_672) rfl dX13_isServing_1 ?_
  refine e_if_le (tgt := 26) hx hb dX13_isServing_4 (by decide) (fun c4 => ?_) (fun c4 => ?_)
  · rw [if_pos c4] at hsh
    exact w13_isServing_b26 E hp hS (hl.sub [] rfl) hsh
  · rw [if_neg c4] at hsh
    refine e_aload_n (B := B) (x := x0) hx hb dX13_isServing_7 rfl (hl.at 0 rfl) ?_
    obtain ⟨v8, h8, hsh⟩ := Option.bind_eq_some_iff.mp hsh
    refine e_getR (k := 91) hx hb hts in_X13 hown hp h8 rfl (by decide) (by decide) rfl (hts _ kf13_123) rfl dX13_isServing_8 ?_
    refine e_aload_n (B := B) (x := x0) hx hb dX13_isServing_11 rfl (hl.at 0 rfl) ?_
    obtain ⟨v12, h12, hsh⟩ := Option.bind_eq_some_iff.mp hsh
    refine e_getI (k := 90) hx hb hts in_X13 hown hp h12 rfl (by decide) (by decide) rfl (hts _ kf13_672) rfl dX13_isServing_12 ?_
    refine lv_iconst (v := iI (1)) hx hb dX13_isServing_15 rfl ?_
    refine e_isub hx hb dX13_isServing_16 ?_
    obtain ⟨v17, h17, hsh⟩ := Option.bind_eq_some_iff.mp hsh
    refine e_iald hx hb hp h17 dX13_isServing_17 ?_
    refine lv_iconst (v := iI (5)) hx hb dX13_isServing_18 rfl ?_
    refine e_icmp_ne (tgt := 26) hx hb dX13_isServing_19 (by decide) (fun c19 => ?_) (fun c19 => ?_)
    · rw [if_neg c19] at hsh
      exact w13_isServing_b26 E hp hS (hl.sub [] rfl) hsh
    · rw [if_pos c19] at hsh
      refine lv_iconst (v := iI (1)) hx hb dX13_isServing_22 rfl ?_
      refine lv_goto (tgt := 27) hx hb dX13_isServing_23 (by decide) ?_
      exact w13_isServing_b27 E hp hS (hl.sub [] rfl) hsh
theorem ok13_isPlaying {S : HP} {x0 : Int} {r : Int × HP} (h : s13_isPlaying S x0 = some r) : 0 ≤ x0 ∧ x0.toNat < e_n S ∧ e_g S x0.toNat = 13 := (gd_some h).1
set_option maxRecDepth 100000 in
set_option maxHeartbeats 4000000 in
theorem w13_isPlaying_b12 {p : Program} {l : Launch} {e : Env} {s : State} {m : MethodId} {args : Array Value} {below : List Frame} {meth : Method} {c : Code} {D : va_G} {cA : Nat → ClassId} {B : Nat} {res : Int × HP} (E : e_En p s m args meth c cX13_isPlaying RX13 1 (some .boolean)) {ls : Array Slot} {H : Heap} {locs : List Loc} {S : HP} {y0 : Int} (hp : e_Pic D cA B S s H) (hS : va_S (e_A B) s.heap H locs) (hl : e_lo ls 1 []) (hsh : s13_isPlaying_b12 S y0 = some res) : W p l e ({ frames := 0, cells := 0, slots := 0, locals := 0 } : Room) s m args below meth c H locs 0 0 (MQ below (e_Qi D cA B res.1 res.2) args s 0 0 (e_A B)) (F0 m 12 ls [.int (iI (y0))]) := by
  obtain ⟨hx, hb, hml, hown, hts, hlk, hrt⟩ := id E
  unfold s13_isPlaying_b12 at hsh
  obtain ⟨hz, hz1, hz2⟩ := zR_some hsh
  rw [← hz1, ← hz2]
  exact e_zret hx hb hrt hlk hp hS hz dX13_isPlaying_12
set_option maxRecDepth 100000 in
set_option maxHeartbeats 4000000 in
theorem c13_isPlaying (l : Launch) (D : va_G) (cA : Nat → ClassId) (B : Nat) (S S' : HP) (x0 : Int) (r : Int) (hsh : s13_isPlaying S x0 = some (r, S')) : Met l yX13_isPlaying (e_wu yX13_isPlaying cX13_isPlaying 1 (some .boolean)) ({ frames := 0, cells := 0, slots := 0, locals := 0 } : Room) (va_Pc [e_rv B (x0)] (fun U => e_PU D cA B S U)) (e_Qi D cA B r S') 0 0 (e_A B) := by
  refine Met.ofW (cc := cX13_isPlaying) (maxL := 1) (ret := (some .boolean)) (by decide +kernel) rfl ?_
  intro p e s m args below meth c s₁ Bd hml hv
  obtain ⟨rfl, hp⟩ := hv
  have hp : e_Pic D cA B S s s.heap := hp
  have hx := Bd.exec
  have hb := Bd.bytes
  have hrt := Bd.returns
  have hlk := Bd.notSynchronized
  have hown : s.vm.findClass RX13 = some m.cls := findClass_of_methodNamed Bd.named
  have hts : ∀ w ∈ e_tb, w.before ([e_rv B (x0)] : List Value).toArray s = true := fun w h => atoms_spec (ws := (e_wu yX13_isPlaying cX13_isPlaying 1 (some .boolean))) Bd.pre w (List.mem_cons_of_mem _ h)
  have E : e_En p s m ([e_rv B (x0)] : List Value).toArray meth c cX13_isPlaying RX13 1 (some .boolean) := ⟨hx, hb, hml, hown, hts, hlk, hrt⟩
  have hS : va_S (e_A B) s.heap s.heap [] := va_S.rf
  have hl := e_entry (vs := [e_rv B (x0)]) (n := 1) (Nat.le_of_ble_eq_true rfl) (e_cc (e_rv_cat _ _) e_cn)
  rw [lg_entry_eq]
  generalize (lg_sl [e_rv B (x0)] ++ List.replicate (1 - (lg_sl [e_rv B (x0)]).length) Slot.unset).toArray = ls at hl ⊢
  generalize ([e_rv B (x0)] : List Value).toArray = args at hts E ⊢
  have hl : e_lo ls 1 [(0, e_rv B (x0))] := hl
  have hsh := (gd_some hsh).2
  refine e_aload_n (B := B) (x := x0) hx hb dX13_isPlaying_0 rfl (hl.at 0 rfl) ?_
  obtain ⟨v1, h1, hsh⟩ := Option.bind_eq_some_iff.mp hsh
  refine e_getI (k := 90) hx hb hts in_X13 hown hp h1 rfl (by decide) (by decide) rfl (hts _ kf13_672) rfl dX13_isPlaying_1 ?_
  refine e_if_le (tgt := 11) hx hb dX13_isPlaying_4 (by decide) (fun c4 => ?_) (fun c4 => ?_)
  · rw [if_pos c4] at hsh
    refine lv_iconst (v := iI (0)) hx hb dX13_isPlaying_11 rfl ?_
    exact w13_isPlaying_b12 E hp hS (hl.sub [] rfl) hsh
  · rw [if_neg c4] at hsh
    refine lv_iconst (v := iI (1)) hx hb dX13_isPlaying_7 rfl ?_
    refine lv_goto (tgt := 12) hx hb dX13_isPlaying_8 (by decide) ?_
    exact w13_isPlaying_b12 E hp hS (hl.sub [] rfl) hsh
theorem ok13_playings {S : HP} {x0 : Int} {r : Int × HP} (h : s13_playings S x0 = some r) : 0 ≤ x0 ∧ x0.toNat < e_n S ∧ e_g S x0.toNat = 13 := (gd_some h).1
set_option maxRecDepth 100000 in
set_option maxHeartbeats 4000000 in
theorem w13_playings_b48 {p : Program} {l : Launch} {e : Env} {s : State} {m : MethodId} {args : Array Value} {below : List Frame} {meth : Method} {c : Code} {D : va_G} {cA : Nat → ClassId} {B : Nat} {res : Int × HP} {k4 : HP → Int → Int → Int → Option (Int × HP)} (hk4 : ∀ {ls : Array Slot} {H : Heap} {locs : List Loc} {S : HP} {x0 : Int} {x1 : Int} {x2 : Int} (hp : e_Pic D cA B S s H) (hS : va_S (e_A B) s.heap H locs) (hl : e_lo ls 3 [(0, e_rv B (x0)), (1, .int (iI (x1))), (2, .int (iI (x2)))]) (hsh : k4 S x0 x1 x2 = some res), W p l e ({ frames := 0, cells := 0, slots := 0, locals := 0 } : Room) s m args below meth c H locs 0 0 (MQ below (e_Qi D cA B res.1 res.2) args s 0 0 (e_A B)) (F0 m 4 ls [])) (E : e_En p s m args meth c cX13_playings RX13 3 (some .int)) {ls : Array Slot} {H : Heap} {locs : List Loc} {S : HP} {x0 : Int} {x2 : Int} {y0 : Int} {y1 : Int} (hp : e_Pic D cA B S s H) (hS : va_S (e_A B) s.heap H locs) (hl : e_lo ls 3 [(0, e_rv B (x0)), (2, .int (iI (x2)))]) (hsh : s13_playings_b48 k4 S x0 x2 y0 y1 = some res) : W p l e ({ frames := 0, cells := 0, slots := 0, locals := 0 } : Room) s m args below meth c H locs 0 0 (MQ below (e_Qi D cA B res.1 res.2) args s 0 0 (e_A B)) (F0 m 48 ls [.int (iI (y1)), .int (iI (y0))]) := by
  obtain ⟨hx, hb, hml, hown, hts, hlk, hrt⟩ := id E
  unfold s13_playings_b48 at hsh
  refine e_iadd hx hb dX13_playings_48 ?_
  refine e_istore_n (lv' := [(1, .int (iI ((y0 + y1)))), (0, e_rv B (x0)), (2, .int (iI (x2)))]) hx hb dX13_playings_49 rfl hl (by decide) rfl (fun ls hl => ?_)
  refine e_iinc (n := 1) (x := x2) (lv' := [(2, .int (iI ((x2 + 1)))), (1, .int (iI ((y0 + y1)))), (0, e_rv B (x0))]) hx hb dX13_playings_50 hl (k := 2) rfl (by decide) rfl (fun ls hl => ?_)
  refine lv_goto (tgt := 4) hx hb dX13_playings_53 (by decide) ?_
  exact hk4 hp hS (hl.sub [2, 1, 0] rfl) hsh
set_option maxRecDepth 100000 in
set_option maxHeartbeats 4000000 in
theorem w13_playings_b43 {p : Program} {l : Launch} {e : Env} {s : State} {m : MethodId} {args : Array Value} {below : List Frame} {meth : Method} {c : Code} {D : va_G} {cA : Nat → ClassId} {B : Nat} {res : Int × HP} {k4 : HP → Int → Int → Int → Option (Int × HP)} (hk4 : ∀ {ls : Array Slot} {H : Heap} {locs : List Loc} {S : HP} {x0 : Int} {x1 : Int} {x2 : Int} (hp : e_Pic D cA B S s H) (hS : va_S (e_A B) s.heap H locs) (hl : e_lo ls 3 [(0, e_rv B (x0)), (1, .int (iI (x1))), (2, .int (iI (x2)))]) (hsh : k4 S x0 x1 x2 = some res), W p l e ({ frames := 0, cells := 0, slots := 0, locals := 0 } : Room) s m args below meth c H locs 0 0 (MQ below (e_Qi D cA B res.1 res.2) args s 0 0 (e_A B)) (F0 m 4 ls [])) (E : e_En p s m args meth c cX13_playings RX13 3 (some .int)) {ls : Array Slot} {H : Heap} {locs : List Loc} {S : HP} {x0 : Int} {x2 : Int} {y0 : Int} (hp : e_Pic D cA B S s H) (hS : va_S (e_A B) s.heap H locs) (hl : e_lo ls 3 [(0, e_rv B (x0)), (2, .int (iI (x2)))]) (hsh : s13_playings_b43 k4 S x0 x2 y0 = some res) : W p l e ({ frames := 0, cells := 0, slots := 0, locals := 0 } : Room) s m args below meth c H locs 0 0 (MQ below (e_Qi D cA B res.1 res.2) args s 0 0 (e_A B)) (F0 m 43 ls [.int (iI (y0))]) := by
  obtain ⟨hx, hb, hml, hown, hts, hlk, hrt⟩ := id E
  unfold s13_playings_b43 at hsh
  refine lv_iconst (v := iI (1)) hx hb dX13_playings_43 rfl ?_
  refine lv_goto (tgt := 48) hx hb dX13_playings_44 (by decide) ?_
  exact w13_playings_b48 (hk4 := hk4) E hp hS (hl.sub [0, 1] rfl) hsh
set_option maxRecDepth 100000 in
set_option maxHeartbeats 4000000 in
theorem w13_playings_l4 {p : Program} {l : Launch} {e : Env} {s : State} {m : MethodId} {args : Array Value} {below : List Frame} {meth : Method} {c : Code} {D : va_G} {cA : Nat → ClassId} {B : Nat} {res : Int × HP} (E : e_En p s m args meth c cX13_playings RX13 3 (some .int)) : ∀ (f : Nat) {ls : Array Slot} {H : Heap} {locs : List Loc} {S : HP} {x0 : Int} {x1 : Int} {x2 : Int} (hp : e_Pic D cA B S s H) (hS : va_S (e_A B) s.heap H locs) (hl : e_lo ls 3 [(0, e_rv B (x0)), (1, .int (iI (x1))), (2, .int (iI (x2)))]) (hsh : s13_playings_l4 f S x0 x1 x2 = some res), W p l e ({ frames := 0, cells := 0, slots := 0, locals := 0 } : Room) s m args below meth c H locs 0 0 (MQ below (e_Qi D cA B res.1 res.2) args s 0 0 (e_A B)) (F0 m 4 ls []) := by
  obtain ⟨hx, hb, hml, hown, hts, hlk, hrt⟩ := id E
  intro f
  induction f with
  | zero => intro ls H locs S x0 x1 x2 hp hS hl hsh; cases hsh
  | succ f ih =>
    intro ls H locs S x0 x1 x2 hp hS hl hsh
    have hk4 : ∀ {ls : Array Slot} {H : Heap} {locs : List Loc} {S : HP} {x0 : Int} {x1 : Int} {x2 : Int} (hp : e_Pic D cA B S s H) (hS : va_S (e_A B) s.heap H locs) (hl : e_lo ls 3 [(0, e_rv B (x0)), (1, .int (iI (x1))), (2, .int (iI (x2)))]) (hsh : (s13_playings_l4 f) S x0 x1 x2 = some res), W p l e ({ frames := 0, cells := 0, slots := 0, locals := 0 } : Room) s m args below meth c H locs 0 0 (MQ below (e_Qi D cA B res.1 res.2) args s 0 0 (e_A B)) (F0 m 4 ls []) := ih
    generalize hkk : s13_playings_l4 f = k4 at hk4
    rw [s13_playings_l4] at hsh
    rw [hkk] at hsh
    try dsimp only at hsh
    refine lv_iload_n hx hb dX13_playings_4 rfl (hl.at 2 rfl) ?_
    refine e_aload_n (B := B) (x := x0) hx hb dX13_playings_5 rfl (hl.at 0 rfl) ?_
    obtain ⟨v6, h6, hsh⟩ := Option.bind_eq_some_iff.mp hsh
    refine e_getI (k := 90) hx hb hts in_X13 hown hp h6 rfl (by decide) (by decide) rfl (hts _ kf13_672) rfl dX13_playings_6 ?_
    refine e_icmp_ge (tgt := 56) hx hb dX13_playings_9 (by decide) (fun c9 => ?_) (fun c9 => ?_)
    · rw [if_pos c9] at hsh
      refine lv_iload_n hx hb dX13_playings_56 rfl (hl.at 1 rfl) ?_
      cases hsh
      exact e_iret hx hb hrt hlk hp hS dX13_playings_57
    · rw [if_neg c9] at hsh
      refine lv_iload_n hx hb dX13_playings_12 rfl (hl.at 1 rfl) ?_
      refine e_aload_n (B := B) (x := x0) hx hb dX13_playings_13 rfl (hl.at 0 rfl) ?_
      obtain ⟨v14, h14, hsh⟩ := Option.bind_eq_some_iff.mp hsh
      refine e_getR (k := 91) hx hb hts in_X13 hown hp h14 rfl (by decide) (by decide) rfl (hts _ kf13_123) rfl dX13_playings_14 ?_
      refine lv_iload_n hx hb dX13_playings_17 rfl (hl.at 2 rfl) ?_
      obtain ⟨v18, h18, hsh⟩ := Option.bind_eq_some_iff.mp hsh
      refine e_iald hx hb hp h18 dX13_playings_18 ?_
      refine lv_iconst (v := iI (1)) hx hb dX13_playings_19 rfl ?_
      refine e_icmp_eq (tgt := 43) hx hb dX13_playings_20 (by decide) (fun c20 => ?_) (fun c20 => ?_)
      · rw [if_pos c20] at hsh
        exact w13_playings_b43 (hk4 := hk4) E hp hS (hl.sub [0, 2] rfl) hsh
      · rw [if_neg c20] at hsh
        refine e_aload_n (B := B) (x := x0) hx hb dX13_playings_23 rfl (hl.at 0 rfl) ?_
        obtain ⟨v24, h24, hsh⟩ := Option.bind_eq_some_iff.mp hsh
        refine e_getR (k := 91) hx hb hts in_X13 hown hp h24 rfl (by decide) (by decide) rfl (hts _ kf13_123) rfl dX13_playings_24 ?_
        refine lv_iload_n hx hb dX13_playings_27 rfl (hl.at 2 rfl) ?_
        obtain ⟨v28, h28, hsh⟩ := Option.bind_eq_some_iff.mp hsh
        refine e_iald hx hb hp h28 dX13_playings_28 ?_
        refine lv_iconst (v := iI (2)) hx hb dX13_playings_29 rfl ?_
        refine e_icmp_eq (tgt := 43) hx hb dX13_playings_30 (by decide) (fun c30 => ?_) (fun c30 => ?_)
        · rw [if_pos c30] at hsh
          exact w13_playings_b43 (hk4 := hk4) E hp hS (hl.sub [0, 2] rfl) hsh
        · rw [if_neg c30] at hsh
          refine e_aload_n (B := B) (x := x0) hx hb dX13_playings_33 rfl (hl.at 0 rfl) ?_
          obtain ⟨v34, h34, hsh⟩ := Option.bind_eq_some_iff.mp hsh
          refine e_getR (k := 91) hx hb hts in_X13 hown hp h34 rfl (by decide) (by decide) rfl (hts _ kf13_123) rfl dX13_playings_34 ?_
          refine lv_iload_n hx hb dX13_playings_37 rfl (hl.at 2 rfl) ?_
          obtain ⟨v38, h38, hsh⟩ := Option.bind_eq_some_iff.mp hsh
          refine e_iald hx hb hp h38 dX13_playings_38 ?_
          refine lv_iconst (v := iI (3)) hx hb dX13_playings_39 rfl ?_
          refine e_icmp_ne (tgt := 47) hx hb dX13_playings_40 (by decide) (fun c40 => ?_) (fun c40 => ?_)
          · rw [if_neg c40] at hsh
            refine lv_iconst (v := iI (0)) hx hb dX13_playings_47 rfl ?_
            exact w13_playings_b48 (hk4 := hk4) E hp hS (hl.sub [0, 2] rfl) hsh
          · rw [if_pos c40] at hsh
            exact w13_playings_b43 (hk4 := hk4) E hp hS (hl.sub [0, 2] rfl) hsh
set_option maxRecDepth 100000 in
set_option maxHeartbeats 4000000 in
theorem c13_playings (l : Launch) (D : va_G) (cA : Nat → ClassId) (B : Nat) (S S' : HP) (x0 : Int) (r : Int) (hsh : s13_playings S x0 = some (r, S')) : Met l yX13_playings (e_wu yX13_playings cX13_playings 3 (some .int)) ({ frames := 0, cells := 0, slots := 0, locals := 0 } : Room) (va_Pc [e_rv B (x0)] (fun U => e_PU D cA B S U)) (e_Qi D cA B r S') 0 0 (e_A B) := by
  refine Met.ofW (cc := cX13_playings) (maxL := 3) (ret := (some .int)) (by decide +kernel) rfl ?_
  intro p e s m args below meth c s₁ Bd hml hv
  obtain ⟨rfl, hp⟩ := hv
  have hp : e_Pic D cA B S s s.heap := hp
  have hx := Bd.exec
  have hb := Bd.bytes
  have hrt := Bd.returns
  have hlk := Bd.notSynchronized
  have hown : s.vm.findClass RX13 = some m.cls := findClass_of_methodNamed Bd.named
  have hts : ∀ w ∈ e_tb, w.before ([e_rv B (x0)] : List Value).toArray s = true := fun w h => atoms_spec (ws := (e_wu yX13_playings cX13_playings 3 (some .int))) Bd.pre w (List.mem_cons_of_mem _ h)
  have E : e_En p s m ([e_rv B (x0)] : List Value).toArray meth c cX13_playings RX13 3 (some .int) := ⟨hx, hb, hml, hown, hts, hlk, hrt⟩
  have hS : va_S (e_A B) s.heap s.heap [] := va_S.rf
  have hl := e_entry (vs := [e_rv B (x0)]) (n := 3) (Nat.le_of_ble_eq_true rfl) (e_cc (e_rv_cat _ _) e_cn)
  rw [lg_entry_eq]
  generalize (lg_sl [e_rv B (x0)] ++ List.replicate (3 - (lg_sl [e_rv B (x0)]).length) Slot.unset).toArray = ls at hl ⊢
  generalize ([e_rv B (x0)] : List Value).toArray = args at hts E ⊢
  have hl : e_lo ls 3 [(0, e_rv B (x0))] := hl
  have hsh := (gd_some hsh).2
  refine lv_iconst (v := iI (0)) hx hb dX13_playings_0 rfl ?_
  refine e_istore_n (lv' := [(1, .int (iI (0))), (0, e_rv B (x0))]) hx hb dX13_playings_1 rfl hl (by decide) rfl (fun ls hl => ?_)
  refine lv_iconst (v := iI (0)) hx hb dX13_playings_2 rfl ?_
  refine e_istore_n (lv' := [(2, .int (iI (0))), (1, .int (iI (0))), (0, e_rv B (x0))]) hx hb dX13_playings_3 rfl hl (by decide) rfl (fun ls hl => ?_)
  exact w13_playings_l4 E 1000000 hp hS (hl.sub [2, 1, 0] rfl) hsh
theorem ok13_begins {S : HP} {x0 : Int} {x1 : Int} {x2 : Int} {r : HP} (h : s13_begins S x0 x1 x2 = some r) : 0 ≤ x0 ∧ x0.toNat < e_n S ∧ e_g S x0.toNat = 13 := (gd_some h).1
set_option maxRecDepth 100000 in
set_option maxHeartbeats 4000000 in
theorem w13_begins_l115 {p : Program} {l : Launch} {e : Env} {s : State} {m : MethodId} {args : Array Value} {below : List Frame} {meth : Method} {c : Code} {D : va_G} {cA : Nat → ClassId} {B : Nat} {res : HP} (E : e_En p s m args meth c cX13_begins RX13 4 none) : ∀ (f : Nat) {ls : Array Slot} {H : Heap} {locs : List Loc} {S : HP} {x0 : Int} {x3 : Int} (hp : e_Pic D cA B S s H) (hS : va_S (e_A B) s.heap H locs) (hl : e_lo ls 4 [(0, e_rv B (x0)), (3, .int (iI (x3)))]) (hsh : s13_begins_l115 f S x0 x3 = some res), W p l e ({ frames := 0, cells := 0, slots := 0, locals := 0 } : Room) s m args below meth c H locs 0 0 (MQ below (e_Qv D cA B res) args s 0 0 (e_A B)) (F0 m 115 ls []) := by
  obtain ⟨hx, hb, hml, hown, hts, hlk, hrt⟩ := id E
  intro f
  induction f with
  | zero => intro ls H locs S x0 x3 hp hS hl hsh; cases hsh
  | succ f ih =>
    intro ls H locs S x0 x3 hp hS hl hsh
    have hk115 : ∀ {ls : Array Slot} {H : Heap} {locs : List Loc} {S : HP} {x0 : Int} {x3 : Int} (hp : e_Pic D cA B S s H) (hS : va_S (e_A B) s.heap H locs) (hl : e_lo ls 4 [(0, e_rv B (x0)), (3, .int (iI (x3)))]) (hsh : (s13_begins_l115 f) S x0 x3 = some res), W p l e ({ frames := 0, cells := 0, slots := 0, locals := 0 } : Room) s m args below meth c H locs 0 0 (MQ below (e_Qv D cA B res) args s 0 0 (e_A B)) (F0 m 115 ls []) := ih
    generalize hkk : s13_begins_l115 f = k115 at hk115
    rw [s13_begins_l115] at hsh
    rw [hkk] at hsh
    try dsimp only at hsh
    refine lv_iload_n hx hb dX13_begins_115 rfl (hl.at 1 rfl) ?_
    refine lv_bipush (v := iI (41)) hx hb dX13_begins_116 (by decide +kernel) ?_
    refine e_aload_n (B := B) (x := x0) hx hb dX13_begins_118 rfl (hl.at 0 rfl) ?_
    obtain ⟨v119, h119, hsh⟩ := Option.bind_eq_some_iff.mp hsh
    refine e_getI (k := 90) hx hb hts in_X13 hown hp h119 rfl (by decide) (by decide) rfl (hts _ kf13_672) rfl dX13_begins_119 ?_
    refine lv_iconst (v := iI (1)) hx hb dX13_begins_122 rfl ?_
    refine e_iadd hx hb dX13_begins_123 ?_
    refine e_imul hx hb dX13_begins_124 ?_
    refine e_icmp_ge (tgt := 141) hx hb dX13_begins_125 (by decide) (fun c125 => ?_) (fun c125 => ?_)
    · rw [if_pos c125] at hsh
      refine e_aload_n (B := B) (x := x0) hx hb dX13_begins_141 rfl (hl.at 0 rfl) ?_
      refine lv_dup hx hb dX13_begins_142 (e_rv_cat _ _) ?_
      obtain ⟨v143, h143, hsh⟩ := Option.bind_eq_some_iff.mp hsh
      refine e_getI (k := 90) hx hb hts in_X13 hown hp h143 rfl (by decide) (by decide) rfl (hts _ kf13_672) rfl dX13_begins_143 ?_
      refine lv_iconst (v := iI (1)) hx hb dX13_begins_146 rfl ?_
      refine e_iadd hx hb dX13_begins_147 ?_
      obtain ⟨S148, h148, hsh⟩ := Option.bind_eq_some_iff.mp hsh
      refine e_putI (k := 90) hx hb hts in_X13 tyX13 tyX13_ok nmX13 hown hp hS h148 rfl (by decide) (by decide) rfl (hts _ kf13_672) rfl rfl (by decide +kernel) dX13_begins_148 (fun H locs hp hS => ?_)
      cases hsh
      exact e_vret hx hb hrt hlk hp hS dX13_begins_151
    · rw [if_neg c125] at hsh
      refine e_aload_n (B := B) (x := x0) hx hb dX13_begins_128 rfl (hl.at 0 rfl) ?_
      obtain ⟨v129, h129, hsh⟩ := Option.bind_eq_some_iff.mp hsh
      refine e_getR (k := 99) hx hb hts in_X13 hown hp h129 rfl (by decide) (by decide) rfl (hts _ kf13_148) rfl dX13_begins_129 ?_
      refine lv_iload_n hx hb dX13_begins_132 rfl (hl.at 1 rfl) ?_
      refine lv_iconst (v := iI (-1)) hx hb dX13_begins_133 rfl ?_
      obtain ⟨S134, h134, hsh⟩ := Option.bind_eq_some_iff.mp hsh
      refine e_iast hx hb hp hS h134 dX13_begins_134 (fun H locs hp hS => ?_)
      refine e_iinc (n := 1) (x := x3) (lv' := [(3, .int (iI ((x3 + 1)))), (0, e_rv B (x0))]) hx hb dX13_begins_135 hl (k := 1) rfl (by decide) rfl (fun ls hl => ?_)
      refine lv_goto (tgt := 115) hx hb dX13_begins_138 (by decide) ?_
      exact hk115 hp hS (hl.sub [1, 0] rfl) hsh
set_option maxRecDepth 100000 in
set_option maxHeartbeats 4000000 in
theorem w13_begins_b40 {p : Program} {l : Launch} {e : Env} {s : State} {m : MethodId} {args : Array Value} {below : List Frame} {meth : Method} {c : Code} {D : va_G} {cA : Nat → ClassId} {B : Nat} {res : HP} (E : e_En p s m args meth c cX13_begins RX13 4 none) {ls : Array Slot} {H : Heap} {locs : List Loc} {S : HP} {x0 : Int} {x2 : Int} {y0 : Int} {y1 : Int} {y2 : Int} (hp : e_Pic D cA B S s H) (hS : va_S (e_A B) s.heap H locs) (hl : e_lo ls 4 [(0, e_rv B (x0)), (2, .int (iI (x2)))]) (hsh : s13_begins_b40 S x0 x2 y0 y1 y2 = some res) : W p l e ({ frames := 0, cells := 0, slots := 0, locals := 0 } : Room) s m args below meth c H locs 0 0 (MQ below (e_Qv D cA B res) args s 0 0 (e_A B)) (F0 m 40 ls [.int (iI (y2)), .int (iI (y1)), e_rv B (y0)]) := by
  obtain ⟨hx, hb, hml, hown, hts, hlk, hrt⟩ := id E
  unfold s13_begins_b40 at hsh
  obtain ⟨S40, h40, hsh⟩ := Option.bind_eq_some_iff.mp hsh
  refine e_iast hx hb hp hS h40 dX13_begins_40 (fun H locs hp hS => ?_)
  refine e_aload_n (B := B) (x := x0) hx hb dX13_begins_41 rfl (hl.at 0 rfl) ?_
  obtain ⟨v42, h42, hsh⟩ := Option.bind_eq_some_iff.mp hsh
  refine e_getR (k := 93) hx hb hts in_X13 hown hp h42 rfl (by decide) (by decide) rfl (hts _ kf13_129) rfl dX13_begins_42 ?_
  refine e_aload_n (B := B) (x := x0) hx hb dX13_begins_45 rfl (hl.at 0 rfl) ?_
  obtain ⟨v46, h46, hsh⟩ := Option.bind_eq_some_iff.mp hsh
  refine e_getI (k := 90) hx hb hts in_X13 hown hp h46 rfl (by decide) (by decide) rfl (hts _ kf13_672) rfl dX13_begins_46 ?_
  refine e_aload_n (B := B) (x := x0) hx hb dX13_begins_49 rfl (hl.at 0 rfl) ?_
  obtain ⟨v50, h50, hsh⟩ := Option.bind_eq_some_iff.mp hsh
  refine e_getR (k := 92) hx hb hts in_X13 hown hp h50 rfl (by decide) (by decide) rfl (hts _ kf13_126) rfl dX13_begins_50 ?_
  refine e_aload_n (B := B) (x := x0) hx hb dX13_begins_53 rfl (hl.at 0 rfl) ?_
  obtain ⟨v54, h54, hsh⟩ := Option.bind_eq_some_iff.mp hsh
  refine e_getI (k := 90) hx hb hts in_X13 hown hp h54 rfl (by decide) (by decide) rfl (hts _ kf13_672) rfl dX13_begins_54 ?_
  obtain ⟨v57, h57, hsh⟩ := Option.bind_eq_some_iff.mp hsh
  refine e_iald hx hb hp h57 dX13_begins_57 ?_
  obtain ⟨S58, h58, hsh⟩ := Option.bind_eq_some_iff.mp hsh
  refine e_iast hx hb hp hS h58 dX13_begins_58 (fun H locs hp hS => ?_)
  refine e_aload_n (B := B) (x := x0) hx hb dX13_begins_59 rfl (hl.at 0 rfl) ?_
  obtain ⟨v60, h60, hsh⟩ := Option.bind_eq_some_iff.mp hsh
  refine e_getR (k := 94) hx hb hts in_X13 hown hp h60 rfl (by decide) (by decide) rfl (hts _ kf13_132) rfl dX13_begins_60 ?_
  refine e_aload_n (B := B) (x := x0) hx hb dX13_begins_63 rfl (hl.at 0 rfl) ?_
  obtain ⟨v64, h64, hsh⟩ := Option.bind_eq_some_iff.mp hsh
  refine e_getI (k := 90) hx hb hts in_X13 hown hp h64 rfl (by decide) (by decide) rfl (hts _ kf13_672) rfl dX13_begins_64 ?_
  refine e_aload_n (B := B) (x := x0) hx hb dX13_begins_67 rfl (hl.at 0 rfl) ?_
  obtain ⟨v68, h68, hsh⟩ := Option.bind_eq_some_iff.mp hsh
  refine e_getR (k := 92) hx hb hts in_X13 hown hp h68 rfl (by decide) (by decide) rfl (hts _ kf13_126) rfl dX13_begins_68 ?_
  refine e_aload_n (B := B) (x := x0) hx hb dX13_begins_71 rfl (hl.at 0 rfl) ?_
  obtain ⟨v72, h72, hsh⟩ := Option.bind_eq_some_iff.mp hsh
  refine e_getI (k := 90) hx hb hts in_X13 hown hp h72 rfl (by decide) (by decide) rfl (hts _ kf13_672) rfl dX13_begins_72 ?_
  obtain ⟨v75, h75, hsh⟩ := Option.bind_eq_some_iff.mp hsh
  refine e_iald hx hb hp h75 dX13_begins_75 ?_
  obtain ⟨S76, h76, hsh⟩ := Option.bind_eq_some_iff.mp hsh
  refine e_iast hx hb hp hS h76 dX13_begins_76 (fun H locs hp hS => ?_)
  refine e_aload_n (B := B) (x := x0) hx hb dX13_begins_77 rfl (hl.at 0 rfl) ?_
  obtain ⟨v78, h78, hsh⟩ := Option.bind_eq_some_iff.mp hsh
  refine e_getR (k := 95) hx hb hts in_X13 hown hp h78 rfl (by decide) (by decide) rfl (hts _ kf13_135) rfl dX13_begins_78 ?_
  refine e_aload_n (B := B) (x := x0) hx hb dX13_begins_81 rfl (hl.at 0 rfl) ?_
  obtain ⟨v82, h82, hsh⟩ := Option.bind_eq_some_iff.mp hsh
  refine e_getI (k := 90) hx hb hts in_X13 hown hp h82 rfl (by decide) (by decide) rfl (hts _ kf13_672) rfl dX13_begins_82 ?_
  refine lv_iload_n hx hb dX13_begins_85 rfl (hl.at 1 rfl) ?_
  obtain ⟨S86, h86, hsh⟩ := Option.bind_eq_some_iff.mp hsh
  refine e_iast hx hb hp hS h86 dX13_begins_86 (fun H locs hp hS => ?_)
  refine e_aload_n (B := B) (x := x0) hx hb dX13_begins_87 rfl (hl.at 0 rfl) ?_
  obtain ⟨v88, h88, hsh⟩ := Option.bind_eq_some_iff.mp hsh
  refine e_getR (k := 96) hx hb hts in_X13 hown hp h88 rfl (by decide) (by decide) rfl (hts _ kf13_138) rfl dX13_begins_88 ?_
  refine e_aload_n (B := B) (x := x0) hx hb dX13_begins_91 rfl (hl.at 0 rfl) ?_
  obtain ⟨v92, h92, hsh⟩ := Option.bind_eq_some_iff.mp hsh
  refine e_getI (k := 90) hx hb hts in_X13 hown hp h92 rfl (by decide) (by decide) rfl (hts _ kf13_672) rfl dX13_begins_92 ?_
  refine lv_iconst (v := iI (-1)) hx hb dX13_begins_95 rfl ?_
  obtain ⟨S96, h96, hsh⟩ := Option.bind_eq_some_iff.mp hsh
  refine e_iast hx hb hp hS h96 dX13_begins_96 (fun H locs hp hS => ?_)
  refine e_aload_n (B := B) (x := x0) hx hb dX13_begins_97 rfl (hl.at 0 rfl) ?_
  obtain ⟨v98, h98, hsh⟩ := Option.bind_eq_some_iff.mp hsh
  refine e_getR (k := 97) hx hb hts in_X13 hown hp h98 rfl (by decide) (by decide) rfl (hts _ kf13_141) rfl dX13_begins_98 ?_
  refine e_aload_n (B := B) (x := x0) hx hb dX13_begins_101 rfl (hl.at 0 rfl) ?_
  obtain ⟨v102, h102, hsh⟩ := Option.bind_eq_some_iff.mp hsh
  refine e_getI (k := 90) hx hb hts in_X13 hown hp h102 rfl (by decide) (by decide) rfl (hts _ kf13_672) rfl dX13_begins_102 ?_
  refine lv_iconst (v := iI (0)) hx hb dX13_begins_105 rfl ?_
  obtain ⟨S106, h106, hsh⟩ := Option.bind_eq_some_iff.mp hsh
  refine e_iast hx hb hp hS h106 dX13_begins_106 (fun H locs hp hS => ?_)
  refine lv_bipush (v := iI (41)) hx hb dX13_begins_107 (by decide +kernel) ?_
  refine e_aload_n (B := B) (x := x0) hx hb dX13_begins_109 rfl (hl.at 0 rfl) ?_
  obtain ⟨v110, h110, hsh⟩ := Option.bind_eq_some_iff.mp hsh
  refine e_getI (k := 90) hx hb hts in_X13 hown hp h110 rfl (by decide) (by decide) rfl (hts _ kf13_672) rfl dX13_begins_110 ?_
  refine e_imul hx hb dX13_begins_113 ?_
  refine e_istore_n (lv' := [(3, .int (iI ((41 * v110)))), (0, e_rv B (x0)), (2, .int (iI (x2)))]) hx hb dX13_begins_114 rfl hl (by decide) rfl (fun ls hl => ?_)
  exact w13_begins_l115 E 1000000 hp hS (hl.sub [1, 0] rfl) hsh
set_option maxRecDepth 100000 in
set_option maxHeartbeats 4000000 in
theorem c13_begins (l : Launch) (D : va_G) (cA : Nat → ClassId) (B : Nat) (S S' : HP) (x0 : Int) (x1 : Int) (x2 : Int) (hsh : s13_begins S x0 x1 x2 = some S') : Met l yX13_begins (e_wu yX13_begins cX13_begins 4 none) ({ frames := 0, cells := 0, slots := 0, locals := 0 } : Room) (va_Pc [e_rv B (x0), .int (iI (x1)), .int (iI (x2))] (fun U => e_PU D cA B S U)) (e_Qv D cA B S') 0 0 (e_A B) := by
  refine Met.ofW (cc := cX13_begins) (maxL := 4) (ret := none) (by decide +kernel) rfl ?_
  intro p e s m args below meth c s₁ Bd hml hv
  obtain ⟨rfl, hp⟩ := hv
  have hp : e_Pic D cA B S s s.heap := hp
  have hx := Bd.exec
  have hb := Bd.bytes
  have hrt := Bd.returns
  have hlk := Bd.notSynchronized
  have hown : s.vm.findClass RX13 = some m.cls := findClass_of_methodNamed Bd.named
  have hts : ∀ w ∈ e_tb, w.before ([e_rv B (x0), .int (iI (x1)), .int (iI (x2))] : List Value).toArray s = true := fun w h => atoms_spec (ws := (e_wu yX13_begins cX13_begins 4 none)) Bd.pre w (List.mem_cons_of_mem _ h)
  have E : e_En p s m ([e_rv B (x0), .int (iI (x1)), .int (iI (x2))] : List Value).toArray meth c cX13_begins RX13 4 none := ⟨hx, hb, hml, hown, hts, hlk, hrt⟩
  have hS : va_S (e_A B) s.heap s.heap [] := va_S.rf
  have hl := e_entry (vs := [e_rv B (x0), .int (iI (x1)), .int (iI (x2))]) (n := 4) (Nat.le_of_ble_eq_true rfl) (e_cc (e_rv_cat _ _) (e_cc rfl (e_cc rfl e_cn)))
  rw [lg_entry_eq]
  generalize (lg_sl [e_rv B (x0), .int (iI (x1)), .int (iI (x2))] ++ List.replicate (4 - (lg_sl [e_rv B (x0), .int (iI (x1)), .int (iI (x2))]).length) Slot.unset).toArray = ls at hl ⊢
  generalize ([e_rv B (x0), .int (iI (x1)), .int (iI (x2))] : List Value).toArray = args at hts E ⊢
  have hl : e_lo ls 4 [(0, e_rv B (x0)), (1, .int (iI (x1))), (2, .int (iI (x2)))] := hl
  have hsh := (gd_some hsh).2
  refine e_aload_n (B := B) (x := x0) hx hb dX13_begins_0 rfl (hl.at 0 rfl) ?_
  obtain ⟨v1, h1, hsh⟩ := Option.bind_eq_some_iff.mp hsh
  refine e_getR (k := 91) hx hb hts in_X13 hown hp h1 rfl (by decide) (by decide) rfl (hts _ kf13_123) rfl dX13_begins_1 ?_
  refine e_aload_n (B := B) (x := x0) hx hb dX13_begins_4 rfl (hl.at 0 rfl) ?_
  obtain ⟨v5, h5, hsh⟩ := Option.bind_eq_some_iff.mp hsh
  refine e_getI (k := 90) hx hb hts in_X13 hown hp h5 rfl (by decide) (by decide) rfl (hts _ kf13_672) rfl dX13_begins_5 ?_
  refine lv_iload_n hx hb dX13_begins_8 rfl (hl.at 1 rfl) ?_
  obtain ⟨S9, h9, hsh⟩ := Option.bind_eq_some_iff.mp hsh
  refine e_iast hx hb hp hS h9 dX13_begins_9 (fun H locs hp hS => ?_)
  refine e_aload_n (B := B) (x := x0) hx hb dX13_begins_10 rfl (hl.at 0 rfl) ?_
  obtain ⟨v11, h11, hsh⟩ := Option.bind_eq_some_iff.mp hsh
  refine e_getR (k := 92) hx hb hts in_X13 hown hp h11 rfl (by decide) (by decide) rfl (hts _ kf13_126) rfl dX13_begins_11 ?_
  refine e_aload_n (B := B) (x := x0) hx hb dX13_begins_14 rfl (hl.at 0 rfl) ?_
  obtain ⟨v15, h15, hsh⟩ := Option.bind_eq_some_iff.mp hsh
  refine e_getI (k := 90) hx hb hts in_X13 hown hp h15 rfl (by decide) (by decide) rfl (hts _ kf13_672) rfl dX13_begins_15 ?_
  refine e_aload_n (B := B) (x := x0) hx hb dX13_begins_18 rfl (hl.at 0 rfl) ?_
  obtain ⟨v19, h19, hsh⟩ := Option.bind_eq_some_iff.mp hsh
  refine e_getI (k := 90) hx hb hts in_X13 hown hp h19 rfl (by decide) (by decide) rfl (hts _ kf13_672) rfl dX13_begins_19 ?_
  refine e_if_ne (tgt := 29) hx hb dX13_begins_22 (by decide) (fun c22 => ?_) (fun c22 => ?_)
  · rw [if_neg c22] at hsh
    refine e_aload_n (B := B) (x := x0) hx hb dX13_begins_29 rfl (hl.at 0 rfl) ?_
    obtain ⟨v30, h30, hsh⟩ := Option.bind_eq_some_iff.mp hsh
    refine e_getR (k := 93) hx hb hts in_X13 hown hp h30 rfl (by decide) (by decide) rfl (hts _ kf13_129) rfl dX13_begins_30 ?_
    refine e_aload_n (B := B) (x := x0) hx hb dX13_begins_33 rfl (hl.at 0 rfl) ?_
    obtain ⟨v34, h34, hsh⟩ := Option.bind_eq_some_iff.mp hsh
    refine e_getI (k := 90) hx hb hts in_X13 hown hp h34 rfl (by decide) (by decide) rfl (hts _ kf13_672) rfl dX13_begins_34 ?_
    refine lv_iconst (v := iI (1)) hx hb dX13_begins_37 rfl ?_
    refine e_isub hx hb dX13_begins_38 ?_
    obtain ⟨v39, h39, hsh⟩ := Option.bind_eq_some_iff.mp hsh
    refine e_iald hx hb hp h39 dX13_begins_39 ?_
    exact w13_begins_b40 E hp hS (hl.sub [0, 2] rfl) hsh
  · rw [if_pos c22] at hsh
    refine lv_iconst (v := iI (0)) hx hb dX13_begins_25 rfl ?_
    refine lv_goto (tgt := 40) hx hb dX13_begins_26 (by decide) ?_
    exact w13_begins_b40 E hp hS (hl.sub [0, 2] rfl) hsh
theorem ok13_heaps {S : HP} {x0 : Int} {x1 : Int} {r : HP} (h : s13_heaps S x0 x1 = some r) : 0 ≤ x0 ∧ x0.toNat < e_n S ∧ e_g S x0.toNat = 13 := (gd_some h).1
set_option maxRecDepth 100000 in
set_option maxHeartbeats 4000000 in
theorem c13_heaps (l : Launch) (D : va_G) (cA : Nat → ClassId) (B : Nat) (S S' : HP) (x0 : Int) (x1 : Int) (hsh : s13_heaps S x0 x1 = some S') : Met l yX13_heaps (e_wu yX13_heaps cX13_heaps 2 none) ({ frames := 0, cells := 0, slots := 0, locals := 0 } : Room) (va_Pc [e_rv B (x0), .int (iI (x1))] (fun U => e_PU D cA B S U)) (e_Qv D cA B S') 0 0 (e_A B) := by
  refine Met.ofW (cc := cX13_heaps) (maxL := 2) (ret := none) (by decide +kernel) rfl ?_
  intro p e s m args below meth c s₁ Bd hml hv
  obtain ⟨rfl, hp⟩ := hv
  have hp : e_Pic D cA B S s s.heap := hp
  have hx := Bd.exec
  have hb := Bd.bytes
  have hrt := Bd.returns
  have hlk := Bd.notSynchronized
  have hown : s.vm.findClass RX13 = some m.cls := findClass_of_methodNamed Bd.named
  have hts : ∀ w ∈ e_tb, w.before ([e_rv B (x0), .int (iI (x1))] : List Value).toArray s = true := fun w h => atoms_spec (ws := (e_wu yX13_heaps cX13_heaps 2 none)) Bd.pre w (List.mem_cons_of_mem _ h)
  have E : e_En p s m ([e_rv B (x0), .int (iI (x1))] : List Value).toArray meth c cX13_heaps RX13 2 none := ⟨hx, hb, hml, hown, hts, hlk, hrt⟩
  have hS : va_S (e_A B) s.heap s.heap [] := va_S.rf
  have hl := e_entry (vs := [e_rv B (x0), .int (iI (x1))]) (n := 2) (Nat.le_of_ble_eq_true rfl) (e_cc (e_rv_cat _ _) (e_cc rfl e_cn))
  rw [lg_entry_eq]
  generalize (lg_sl [e_rv B (x0), .int (iI (x1))] ++ List.replicate (2 - (lg_sl [e_rv B (x0), .int (iI (x1))]).length) Slot.unset).toArray = ls at hl ⊢
  generalize ([e_rv B (x0), .int (iI (x1))] : List Value).toArray = args at hts E ⊢
  have hl : e_lo ls 2 [(0, e_rv B (x0)), (1, .int (iI (x1)))] := hl
  have hsh := (gd_some hsh).2
  refine e_aload_n (B := B) (x := x0) hx hb dX13_heaps_0 rfl (hl.at 0 rfl) ?_
  obtain ⟨v1, h1, hsh⟩ := Option.bind_eq_some_iff.mp hsh
  refine e_getR (k := 98) hx hb hts in_X13 hown hp h1 rfl (by decide) (by decide) rfl (hts _ kf13_145) rfl dX13_heaps_1 ?_
  refine e_aload_n (B := B) (x := x0) hx hb dX13_heaps_4 rfl (hl.at 0 rfl) ?_
  obtain ⟨v5, h5, hsh⟩ := Option.bind_eq_some_iff.mp hsh
  refine e_getR (k := 93) hx hb hts in_X13 hown hp h5 rfl (by decide) (by decide) rfl (hts _ kf13_129) rfl dX13_heaps_5 ?_
  refine e_aload_n (B := B) (x := x0) hx hb dX13_heaps_8 rfl (hl.at 0 rfl) ?_
  obtain ⟨v9, h9, hsh⟩ := Option.bind_eq_some_iff.mp hsh
  refine e_getI (k := 90) hx hb hts in_X13 hown hp h9 rfl (by decide) (by decide) rfl (hts _ kf13_672) rfl dX13_heaps_9 ?_
  refine lv_iconst (v := iI (1)) hx hb dX13_heaps_12 rfl ?_
  refine e_isub hx hb dX13_heaps_13 ?_
  obtain ⟨v14, h14, hsh⟩ := Option.bind_eq_some_iff.mp hsh
  refine e_iald hx hb hp h14 dX13_heaps_14 ?_
  refine lv_iload_n hx hb dX13_heaps_15 rfl (hl.at 1 rfl) ?_
  obtain ⟨S16, h16, hsh⟩ := Option.bind_eq_some_iff.mp hsh
  refine e_iast hx hb hp hS h16 dX13_heaps_16 (fun H locs hp hS => ?_)
  refine e_aload_n (B := B) (x := x0) hx hb dX13_heaps_17 rfl (hl.at 0 rfl) ?_
  obtain ⟨v18, h18, hsh⟩ := Option.bind_eq_some_iff.mp hsh
  refine e_getR (k := 93) hx hb hts in_X13 hown hp h18 rfl (by decide) (by decide) rfl (hts _ kf13_129) rfl dX13_heaps_18 ?_
  refine e_aload_n (B := B) (x := x0) hx hb dX13_heaps_21 rfl (hl.at 0 rfl) ?_
  obtain ⟨v22, h22, hsh⟩ := Option.bind_eq_some_iff.mp hsh
  refine e_getI (k := 90) hx hb hts in_X13 hown hp h22 rfl (by decide) (by decide) rfl (hts _ kf13_672) rfl dX13_heaps_22 ?_
  refine lv_iconst (v := iI (1)) hx hb dX13_heaps_25 rfl ?_
  refine e_isub hx hb dX13_heaps_26 ?_
  refine lv_dup2_11 hx hb dX13_heaps_27 rfl (e_rv_cat _ _) ?_
  obtain ⟨v28, h28, hsh⟩ := Option.bind_eq_some_iff.mp hsh
  refine e_iald hx hb hp h28 dX13_heaps_28 ?_
  refine lv_iconst (v := iI (1)) hx hb dX13_heaps_29 rfl ?_
  refine e_iadd hx hb dX13_heaps_30 ?_
  obtain ⟨S31, h31, hsh⟩ := Option.bind_eq_some_iff.mp hsh
  refine e_iast hx hb hp hS h31 dX13_heaps_31 (fun H locs hp hS => ?_)
  cases hsh
  exact e_vret hx hb hrt hlk hp hS dX13_heaps_32
theorem ok13_isFar {S : HP} {x0 : Int} {x1 : Int} {r : Int × HP} (h : s13_isFar S x0 x1 = some r) : 0 ≤ x0 ∧ x0.toNat < e_n S ∧ e_g S x0.toNat = 13 := (gd_some h).1
set_option maxRecDepth 100000 in
set_option maxHeartbeats 4000000 in
theorem w13_isFar_b66 {p : Program} {l : Launch} {e : Env} {s : State} {m : MethodId} {args : Array Value} {below : List Frame} {meth : Method} {c : Code} {D : va_G} {cA : Nat → ClassId} {B : Nat} {res : Int × HP} (E : e_En p s m args meth c cX13_isFar RX13 2 (some .boolean)) {ls : Array Slot} {H : Heap} {locs : List Loc} {S : HP} {y0 : Int} (hp : e_Pic D cA B S s H) (hS : va_S (e_A B) s.heap H locs) (hl : e_lo ls 2 []) (hsh : s13_isFar_b66 S y0 = some res) : W p l e ({ frames := 0, cells := 0, slots := 0, locals := 0 } : Room) s m args below meth c H locs 0 0 (MQ below (e_Qi D cA B res.1 res.2) args s 0 0 (e_A B)) (F0 m 66 ls [.int (iI (y0))]) := by
  obtain ⟨hx, hb, hml, hown, hts, hlk, hrt⟩ := id E
  unfold s13_isFar_b66 at hsh
  obtain ⟨hz, hz1, hz2⟩ := zR_some hsh
  rw [← hz1, ← hz2]
  exact e_zret hx hb hrt hlk hp hS hz dX13_isFar_66
set_option maxRecDepth 100000 in
set_option maxHeartbeats 4000000 in
theorem w13_isFar_b61 {p : Program} {l : Launch} {e : Env} {s : State} {m : MethodId} {args : Array Value} {below : List Frame} {meth : Method} {c : Code} {D : va_G} {cA : Nat → ClassId} {B : Nat} {res : Int × HP} (E : e_En p s m args meth c cX13_isFar RX13 2 (some .boolean)) {ls : Array Slot} {H : Heap} {locs : List Loc} {S : HP} (hp : e_Pic D cA B S s H) (hS : va_S (e_A B) s.heap H locs) (hl : e_lo ls 2 []) (hsh : s13_isFar_b61 S  = some res) : W p l e ({ frames := 0, cells := 0, slots := 0, locals := 0 } : Room) s m args below meth c H locs 0 0 (MQ below (e_Qi D cA B res.1 res.2) args s 0 0 (e_A B)) (F0 m 61 ls []) := by
  obtain ⟨hx, hb, hml, hown, hts, hlk, hrt⟩ := id E
  unfold s13_isFar_b61 at hsh
  refine lv_iconst (v := iI (1)) hx hb dX13_isFar_61 rfl ?_
  refine lv_goto (tgt := 66) hx hb dX13_isFar_62 (by decide) ?_
  exact w13_isFar_b66 E hp hS (hl.sub [] rfl) hsh
set_option maxRecDepth 100000 in
set_option maxHeartbeats 4000000 in
theorem c13_isFar (l : Launch) (D : va_G) (cA : Nat → ClassId) (B : Nat) (S S' : HP) (x0 : Int) (x1 : Int) (r : Int) (hsh : s13_isFar S x0 x1 = some (r, S')) : Met l yX13_isFar (e_wu yX13_isFar cX13_isFar 2 (some .boolean)) ({ frames := 0, cells := 0, slots := 0, locals := 0 } : Room) (va_Pc [e_rv B (x0), .int (iI (x1))] (fun U => e_PU D cA B S U)) (e_Qi D cA B r S') 0 0 (e_A B) := by
  refine Met.ofW (cc := cX13_isFar) (maxL := 2) (ret := (some .boolean)) (by decide +kernel) rfl ?_
  intro p e s m args below meth c s₁ Bd hml hv
  obtain ⟨rfl, hp⟩ := hv
  have hp : e_Pic D cA B S s s.heap := hp
  have hx := Bd.exec
  have hb := Bd.bytes
  have hrt := Bd.returns
  have hlk := Bd.notSynchronized
  have hown : s.vm.findClass RX13 = some m.cls := findClass_of_methodNamed Bd.named
  have hts : ∀ w ∈ e_tb, w.before ([e_rv B (x0), .int (iI (x1))] : List Value).toArray s = true := fun w h => atoms_spec (ws := (e_wu yX13_isFar cX13_isFar 2 (some .boolean))) Bd.pre w (List.mem_cons_of_mem _ h)
  have E : e_En p s m ([e_rv B (x0), .int (iI (x1))] : List Value).toArray meth c cX13_isFar RX13 2 (some .boolean) := ⟨hx, hb, hml, hown, hts, hlk, hrt⟩
  have hS : va_S (e_A B) s.heap s.heap [] := va_S.rf
  have hl := e_entry (vs := [e_rv B (x0), .int (iI (x1))]) (n := 2) (Nat.le_of_ble_eq_true rfl) (e_cc (e_rv_cat _ _) (e_cc rfl e_cn))
  rw [lg_entry_eq]
  generalize (lg_sl [e_rv B (x0), .int (iI (x1))] ++ List.replicate (2 - (lg_sl [e_rv B (x0), .int (iI (x1))]).length) Slot.unset).toArray = ls at hl ⊢
  generalize ([e_rv B (x0), .int (iI (x1))] : List Value).toArray = args at hts E ⊢
  have hl : e_lo ls 2 [(0, e_rv B (x0)), (1, .int (iI (x1)))] := hl
  have hsh := (gd_some hsh).2
  refine lv_iload_n hx hb dX13_isFar_0 rfl (hl.at 1 rfl) ?_
  refine lv_bipush (v := iI (71)) hx hb dX13_isFar_1 (by decide +kernel) ?_
  refine e_icmp_eq (tgt := 61) hx hb dX13_isFar_3 (by decide) (fun c3 => ?_) (fun c3 => ?_)
  · rw [if_pos c3] at hsh
    exact w13_isFar_b61 E hp hS (hl.sub [] rfl) hsh
  · rw [if_neg c3] at hsh
    refine lv_iload_n hx hb dX13_isFar_6 rfl (hl.at 1 rfl) ?_
    refine lv_sipush (v := iI (359)) hx hb dX13_isFar_7 (by decide +kernel) ?_
    refine e_icmp_eq (tgt := 61) hx hb dX13_isFar_10 (by decide) (fun c10 => ?_) (fun c10 => ?_)
    · rw [if_pos c10] at hsh
      exact w13_isFar_b61 E hp hS (hl.sub [] rfl) hsh
    · rw [if_neg c10] at hsh
      refine lv_iload_n hx hb dX13_isFar_13 rfl (hl.at 1 rfl) ?_
      refine lv_bipush (v := iI (47)) hx hb dX13_isFar_14 (by decide +kernel) ?_
      refine e_icmp_eq (tgt := 61) hx hb dX13_isFar_16 (by decide) (fun c16 => ?_) (fun c16 => ?_)
      · rw [if_pos c16] at hsh
        exact w13_isFar_b61 E hp hS (hl.sub [] rfl) hsh
      · rw [if_neg c16] at hsh
        refine lv_iload_n hx hb dX13_isFar_19 rfl (hl.at 1 rfl) ?_
        refine lv_bipush (v := iI (110)) hx hb dX13_isFar_20 (by decide +kernel) ?_
        refine e_icmp_eq (tgt := 61) hx hb dX13_isFar_22 (by decide) (fun c22 => ?_) (fun c22 => ?_)
        · rw [if_pos c22] at hsh
          exact w13_isFar_b61 E hp hS (hl.sub [] rfl) hsh
        · rw [if_neg c22] at hsh
          refine lv_iload_n hx hb dX13_isFar_25 rfl (hl.at 1 rfl) ?_
          refine lv_bipush (v := iI (78)) hx hb dX13_isFar_26 (by decide +kernel) ?_
          refine e_icmp_eq (tgt := 61) hx hb dX13_isFar_28 (by decide) (fun c28 => ?_) (fun c28 => ?_)
          · rw [if_pos c28] at hsh
            exact w13_isFar_b61 E hp hS (hl.sub [] rfl) hsh
          · rw [if_neg c28] at hsh
            refine lv_iload_n hx hb dX13_isFar_31 rfl (hl.at 1 rfl) ?_
            refine lv_bipush (v := iI (39)) hx hb dX13_isFar_32 (by decide +kernel) ?_
            refine e_icmp_eq (tgt := 61) hx hb dX13_isFar_34 (by decide) (fun c34 => ?_) (fun c34 => ?_)
            · rw [if_pos c34] at hsh
              exact w13_isFar_b61 E hp hS (hl.sub [] rfl) hsh
            · rw [if_neg c34] at hsh
              refine lv_iload_n hx hb dX13_isFar_37 rfl (hl.at 1 rfl) ?_
              refine lv_bipush (v := iI (96)) hx hb dX13_isFar_38 (by decide +kernel) ?_
              refine e_icmp_eq (tgt := 61) hx hb dX13_isFar_40 (by decide) (fun c40 => ?_) (fun c40 => ?_)
              · rw [if_pos c40] at hsh
                exact w13_isFar_b61 E hp hS (hl.sub [] rfl) hsh
              · rw [if_neg c40] at hsh
                refine lv_iload_n hx hb dX13_isFar_43 rfl (hl.at 1 rfl) ?_
                refine lv_bipush (v := iI (37)) hx hb dX13_isFar_44 (by decide +kernel) ?_
                refine e_icmp_eq (tgt := 61) hx hb dX13_isFar_46 (by decide) (fun c46 => ?_) (fun c46 => ?_)
                · rw [if_pos c46] at hsh
                  exact w13_isFar_b61 E hp hS (hl.sub [] rfl) hsh
                · rw [if_neg c46] at hsh
                  refine lv_iload_n hx hb dX13_isFar_49 rfl (hl.at 1 rfl) ?_
                  refine lv_bipush (v := iI (123)) hx hb dX13_isFar_50 (by decide +kernel) ?_
                  refine e_icmp_eq (tgt := 61) hx hb dX13_isFar_52 (by decide) (fun c52 => ?_) (fun c52 => ?_)
                  · rw [if_pos c52] at hsh
                    exact w13_isFar_b61 E hp hS (hl.sub [] rfl) hsh
                  · rw [if_neg c52] at hsh
                    refine lv_iload_n hx hb dX13_isFar_55 rfl (hl.at 1 rfl) ?_
                    refine lv_bipush (v := iI (125)) hx hb dX13_isFar_56 (by decide +kernel) ?_
                    refine e_icmp_ne (tgt := 65) hx hb dX13_isFar_58 (by decide) (fun c58 => ?_) (fun c58 => ?_)
                    · rw [if_neg c58] at hsh
                      refine lv_iconst (v := iI (0)) hx hb dX13_isFar_65 rfl ?_
                      exact w13_isFar_b66 E hp hS (hl.sub [] rfl) hsh
                    · rw [if_pos c58] at hsh
                      exact w13_isFar_b61 E hp hS (hl.sub [] rfl) hsh
theorem ok13_forgets {S : HP} {x0 : Int} {r : HP} (h : s13_forgets S x0 = some r) : 0 ≤ x0 ∧ x0.toNat < e_n S ∧ e_g S x0.toNat = 13 := (gd_some h).1
set_option maxRecDepth 100000 in
set_option maxHeartbeats 4000000 in
theorem c13_forgets (l : Launch) (D : va_G) (cA : Nat → ClassId) (B : Nat) (S S' : HP) (x0 : Int) (hsh : s13_forgets S x0 = some S') : Met l yX13_forgets (e_wu yX13_forgets cX13_forgets 1 none) ({ frames := 0, cells := 0, slots := 0, locals := 0 } : Room) (va_Pc [e_rv B (x0)] (fun U => e_PU D cA B S U)) (e_Qv D cA B S') 0 0 (e_A B) := by
  refine Met.ofW (cc := cX13_forgets) (maxL := 1) (ret := none) (by decide +kernel) rfl ?_
  intro p e s m args below meth c s₁ Bd hml hv
  obtain ⟨rfl, hp⟩ := hv
  have hp : e_Pic D cA B S s s.heap := hp
  have hx := Bd.exec
  have hb := Bd.bytes
  have hrt := Bd.returns
  have hlk := Bd.notSynchronized
  have hown : s.vm.findClass RX13 = some m.cls := findClass_of_methodNamed Bd.named
  have hts : ∀ w ∈ e_tb, w.before ([e_rv B (x0)] : List Value).toArray s = true := fun w h => atoms_spec (ws := (e_wu yX13_forgets cX13_forgets 1 none)) Bd.pre w (List.mem_cons_of_mem _ h)
  have E : e_En p s m ([e_rv B (x0)] : List Value).toArray meth c cX13_forgets RX13 1 none := ⟨hx, hb, hml, hown, hts, hlk, hrt⟩
  have hS : va_S (e_A B) s.heap s.heap [] := va_S.rf
  have hl := e_entry (vs := [e_rv B (x0)]) (n := 1) (Nat.le_of_ble_eq_true rfl) (e_cc (e_rv_cat _ _) e_cn)
  rw [lg_entry_eq]
  generalize (lg_sl [e_rv B (x0)] ++ List.replicate (1 - (lg_sl [e_rv B (x0)]).length) Slot.unset).toArray = ls at hl ⊢
  generalize ([e_rv B (x0)] : List Value).toArray = args at hts E ⊢
  have hl : e_lo ls 1 [(0, e_rv B (x0))] := hl
  have hsh := (gd_some hsh).2
  refine e_aload_n (B := B) (x := x0) hx hb dX13_forgets_0 rfl (hl.at 0 rfl) ?_
  refine lv_iconst (v := iI (0)) hx hb dX13_forgets_1 rfl ?_
  obtain ⟨S2, h2, hsh⟩ := Option.bind_eq_some_iff.mp hsh
  refine e_putI (k := 55) hx hb hts in_X13 tyX13 tyX13_ok nmX13 hown hp hS h2 rfl (by decide) (by decide) rfl (hts _ kf13_609) rfl rfl (by decide +kernel) dX13_forgets_2 (fun H locs hp hS => ?_)
  refine e_aload_n (B := B) (x := x0) hx hb dX13_forgets_5 rfl (hl.at 0 rfl) ?_
  refine lv_iconst (v := iI (0)) hx hb dX13_forgets_6 rfl ?_
  obtain ⟨S7, h7, hsh⟩ := Option.bind_eq_some_iff.mp hsh
  refine e_putI (k := 56) hx hb hts in_X13 tyX13 tyX13_ok nmX13 hown hp hS h7 rfl (by decide) (by decide) rfl (hts _ kf13_675) rfl rfl (by decide +kernel) dX13_forgets_7 (fun H locs hp hS => ?_)
  cases hsh
  exact e_vret hx hb hrt hlk hp hS dX13_forgets_10
theorem ok13_settles {S : HP} {x0 : Int} {r : HP} (h : s13_settles S x0 = some r) : 0 ≤ x0 ∧ x0.toNat < e_n S ∧ e_g S x0.toNat = 13 := (gd_some h).1
set_option maxRecDepth 100000 in
set_option maxHeartbeats 4000000 in
theorem w13_settles_b55 {p : Program} {l : Launch} {e : Env} {s : State} {m : MethodId} {args : Array Value} {below : List Frame} {meth : Method} {c : Code} {D : va_G} {cA : Nat → ClassId} {B : Nat} {res : HP} (E : e_En p s m args meth c cX13_settles RX13 1 none) {ls : Array Slot} {H : Heap} {locs : List Loc} {S : HP} (hp : e_Pic D cA B S s H) (hS : va_S (e_A B) s.heap H locs) (hl : e_lo ls 1 []) (hsh : s13_settles_b55 S  = some res) : W p l e ({ frames := 2, cells := 0, slots := 0, locals := 46 } : Room) s m args below meth c H locs 0 0 (MQ below (e_Qv D cA B res) args s 0 0 (e_A B)) (F0 m 55 ls []) := by
  obtain ⟨hx, hb, hml, hown, hts, hlk, hrt⟩ := id E
  unfold s13_settles_b55 at hsh
  cases hsh
  exact e_vret hx hb hrt hlk hp hS dX13_settles_55
set_option maxRecDepth 100000 in
set_option maxHeartbeats 4000000 in
theorem c13_settles (l : Launch) (D : va_G) (cA : Nat → ClassId) (B : Nat) (S S' : HP) (x0 : Int) (hsh : s13_settles S x0 = some S') : Met l yX13_settles (e_wu yX13_settles cX13_settles 1 none) ({ frames := 2, cells := 0, slots := 0, locals := 46 } : Room) (va_Pc [e_rv B (x0)] (fun U => e_PU D cA B S U)) (e_Qv D cA B S') 0 0 (e_A B) := by
  refine Met.ofW (cc := cX13_settles) (maxL := 1) (ret := none) (by decide +kernel) rfl ?_
  intro p e s m args below meth c s₁ Bd hml hv
  obtain ⟨rfl, hp⟩ := hv
  have hp : e_Pic D cA B S s s.heap := hp
  have hx := Bd.exec
  have hb := Bd.bytes
  have hrt := Bd.returns
  have hlk := Bd.notSynchronized
  have hown : s.vm.findClass RX13 = some m.cls := findClass_of_methodNamed Bd.named
  have hts : ∀ w ∈ e_tb, w.before ([e_rv B (x0)] : List Value).toArray s = true := fun w h => atoms_spec (ws := (e_wu yX13_settles cX13_settles 1 none)) Bd.pre w (List.mem_cons_of_mem _ h)
  have E : e_En p s m ([e_rv B (x0)] : List Value).toArray meth c cX13_settles RX13 1 none := ⟨hx, hb, hml, hown, hts, hlk, hrt⟩
  have hS : va_S (e_A B) s.heap s.heap [] := va_S.rf
  have hl := e_entry (vs := [e_rv B (x0)]) (n := 1) (Nat.le_of_ble_eq_true rfl) (e_cc (e_rv_cat _ _) e_cn)
  rw [lg_entry_eq]
  generalize (lg_sl [e_rv B (x0)] ++ List.replicate (1 - (lg_sl [e_rv B (x0)]).length) Slot.unset).toArray = ls at hl ⊢
  generalize ([e_rv B (x0)] : List Value).toArray = args at hts E ⊢
  have hl : e_lo ls 1 [(0, e_rv B (x0))] := hl
  have hsh := (gd_some hsh).2
  refine e_aload_n (B := B) (x := x0) hx hb dX13_settles_0 rfl (hl.at 0 rfl) ?_
  obtain ⟨v1, h1, hsh⟩ := Option.bind_eq_some_iff.mp hsh
  refine e_getI (k := 8) hx hb hts in_X13 hown hp h1 rfl (by decide) (by decide) rfl (hts _ kf13_466) rfl dX13_settles_1 ?_
  refine lv_iconst (v := iI (1)) hx hb dX13_settles_4 rfl ?_
  refine e_icmp_eq (tgt := 55) hx hb dX13_settles_5 (by decide) (fun c5 => ?_) (fun c5 => ?_)
  · rw [if_pos c5] at hsh
    exact w13_settles_b55 E hp hS (hl.sub [] rfl) hsh
  · rw [if_neg c5] at hsh
    refine e_aload_n (B := B) (x := x0) hx hb dX13_settles_8 rfl (hl.at 0 rfl) ?_
    refine e_aload_n (B := B) (x := x0) hx hb dX13_settles_9 rfl (hl.at 0 rfl) ?_
    refine e_aload_n (B := B) (x := x0) hx hb dX13_settles_10 rfl (hl.at 0 rfl) ?_
    obtain ⟨v11, h11, hsh⟩ := Option.bind_eq_some_iff.mp hsh
    refine e_getI (k := 5) hx hb hts in_X13 hown hp h11 rfl (by decide) (by decide) rfl (hts _ kf13_213) rfl dX13_settles_11 ?_
    refine e_aload_n (B := B) (x := x0) hx hb dX13_settles_14 rfl (hl.at 0 rfl) ?_
    obtain ⟨v15, h15, hsh⟩ := Option.bind_eq_some_iff.mp hsh
    refine e_getI (k := 2) hx hb hts in_X13 hown hp h15 rfl (by decide) (by decide) rfl (hts _ kf13_13) rfl dX13_settles_15 ?_
    refine lv_iconst (v := iI (1)) hx hb dX13_settles_18 rfl ?_
    refine e_isub hx hb dX13_settles_19 ?_
    obtain ⟨⟨v20, S20⟩, h20, hsh⟩ := Option.bind_eq_some_iff.mp hsh
    have hsh : _ = _ := hsh
    try dsimp only at hsh
    refine e_callS (nL := 1) (mc := 0) (ms := 0) (As := [.int (iI (v11)), .int (iI ((v15 - 1)))]) (rest := [e_rv B (x0), e_rv B (x0)]) hx hb hml hown hts hp hS hl.size (c13_lesser l D cA B S S20 (v11) ((v15 - 1)) v20 h20) rfl rfl kd13_lesser (kl13_257) ks13_lesser ki13 kh13_lesser ⟨Nat.le_of_ble_eq_true rfl, Nat.le_of_ble_eq_true rfl⟩ rfl (by simp [e_rv_cat, e_int_cat]) ⟨Nat.le_refl _, Nat.le_refl _⟩ dX13_settles_20 rfl (fun H locs hp hS => ?_)
    obtain ⟨⟨v23, S23⟩, h23, hsh⟩ := Option.bind_eq_some_iff.mp hsh
    have hsh : _ = _ := hsh
    try dsimp only at hsh
    have ok23 := ok13_firstSeen h23
    refine e_callI (nL := 1) (mc := 0) (ms := 0) (T := TX13) (N := 126) (As := [.int (iI (v20))]) (rest := [e_rv B (x0)]) hx hb hml hown hts hp hS hl.size ok23.1 ok23.2.1 ok23.2.2 rfl (by decide) (c13_firstSeen l D cA B S20 S23 (x0) (v20) v23 h23) rfl rfl kd13_firstSeen (kl13_346) ks13_firstSeen kv13_firstSeen ki13 kh13_firstSeen ⟨Nat.le_of_ble_eq_true rfl, Nat.le_of_ble_eq_true rfl⟩ rfl (by simp [e_rv_cat, e_int_cat]) ⟨Nat.le_refl _, Nat.le_refl _⟩ dX13_settles_23 rfl (fun H locs hp hS => ?_)
    obtain ⟨S26, h26, hsh⟩ := Option.bind_eq_some_iff.mp hsh
    refine e_putI (k := 5) hx hb hts in_X13 tyX13 tyX13_ok nmX13 hown hp hS h26 rfl (by decide) (by decide) rfl (hts _ kf13_213) rfl rfl (by decide +kernel) dX13_settles_26 (fun H locs hp hS => ?_)
    refine e_aload_n (B := B) (x := x0) hx hb dX13_settles_29 rfl (hl.at 0 rfl) ?_
    refine lv_iconst (v := iI (0)) hx hb dX13_settles_30 rfl ?_
    refine e_aload_n (B := B) (x := x0) hx hb dX13_settles_31 rfl (hl.at 0 rfl) ?_
    obtain ⟨v32, h32, hsh⟩ := Option.bind_eq_some_iff.mp hsh
    refine e_getI (k := 6) hx hb hts in_X13 hown hp h32 rfl (by decide) (by decide) rfl (hts _ kf13_216) rfl dX13_settles_32 ?_
    refine e_aload_n (B := B) (x := x0) hx hb dX13_settles_35 rfl (hl.at 0 rfl) ?_
    obtain ⟨v36, h36, hsh⟩ := Option.bind_eq_some_iff.mp hsh
    refine e_getR (k := 3) hx hb hts in_X13 hown hp h36 rfl (by decide) (by decide) rfl (hts _ kf13_17) rfl dX13_settles_36 ?_
    refine e_aload_n (B := B) (x := x0) hx hb dX13_settles_39 rfl (hl.at 0 rfl) ?_
    obtain ⟨v40, h40, hsh⟩ := Option.bind_eq_some_iff.mp hsh
    refine e_getI (k := 5) hx hb hts in_X13 hown hp h40 rfl (by decide) (by decide) rfl (hts _ kf13_213) rfl dX13_settles_40 ?_
    obtain ⟨v43, h43, hsh⟩ := Option.bind_eq_some_iff.mp hsh
    refine e_iald hx hb hp h43 dX13_settles_43 ?_
    refine lv_iconst (v := iI (1)) hx hb dX13_settles_44 rfl ?_
    refine e_isub hx hb dX13_settles_45 ?_
    obtain ⟨⟨v46, S46⟩, h46, hsh⟩ := Option.bind_eq_some_iff.mp hsh
    have hsh : _ = _ := hsh
    try dsimp only at hsh
    refine e_callS (nL := 1) (mc := 0) (ms := 0) (As := [.int (iI (v32)), .int (iI ((v43 - 1)))]) (rest := [.int (iI (0)), e_rv B (x0)]) hx hb hml hown hts hp hS hl.size (c13_lesser l D cA B S26 S46 (v32) ((v43 - 1)) v46 h46) rfl rfl kd13_lesser (kl13_257) ks13_lesser ki13 kh13_lesser ⟨Nat.le_of_ble_eq_true rfl, Nat.le_of_ble_eq_true rfl⟩ rfl (by simp [e_rv_cat, e_int_cat]) ⟨Nat.le_refl _, Nat.le_refl _⟩ dX13_settles_46 rfl (fun H locs hp hS => ?_)
    obtain ⟨⟨v49, S49⟩, h49, hsh⟩ := Option.bind_eq_some_iff.mp hsh
    have hsh : _ = _ := hsh
    try dsimp only at hsh
    refine e_callS (nL := 1) (mc := 0) (ms := 0) (As := [.int (iI (0)), .int (iI (v46))]) (rest := [e_rv B (x0)]) hx hb hml hown hts hp hS hl.size (c13_greater l D cA B S46 S49 (0) (v46) v49 h49) rfl rfl kd13_greater (kl13_210) ks13_greater ki13 kh13_greater ⟨Nat.le_of_ble_eq_true rfl, Nat.le_of_ble_eq_true rfl⟩ rfl (by simp [e_rv_cat, e_int_cat]) ⟨Nat.le_refl _, Nat.le_refl _⟩ dX13_settles_49 rfl (fun H locs hp hS => ?_)
    obtain ⟨S52, h52, hsh⟩ := Option.bind_eq_some_iff.mp hsh
    refine e_putI (k := 6) hx hb hts in_X13 tyX13 tyX13_ok nmX13 hown hp hS h52 rfl (by decide) (by decide) rfl (hts _ kf13_216) rfl rfl (by decide +kernel) dX13_settles_52 (fun H locs hp hS => ?_)
    exact w13_settles_b55 E hp hS (hl.sub [] rfl) hsh
theorem ok13_copiesBase {S : HP} {x0 : Int} {r : HP} (h : s13_copiesBase S x0 = some r) : 0 ≤ x0 ∧ x0.toNat < e_n S ∧ e_g S x0.toNat = 13 := (gd_some h).1
set_option maxRecDepth 100000 in
set_option maxHeartbeats 4000000 in
theorem w13_copiesBase_l32 {p : Program} {l : Launch} {e : Env} {s : State} {m : MethodId} {args : Array Value} {below : List Frame} {meth : Method} {c : Code} {D : va_G} {cA : Nat → ClassId} {B : Nat} {res : HP} {k10 : HP → Int → Int → Option (HP)} (hk10 : ∀ {ls : Array Slot} {H : Heap} {locs : List Loc} {S : HP} {x0 : Int} {x1 : Int} (hp : e_Pic D cA B S s H) (hS : va_S (e_A B) s.heap H locs) (hl : e_lo ls 3 [(0, e_rv B (x0)), (1, .int (iI (x1)))]) (hsh : k10 S x0 x1 = some res), W p l e ({ frames := 1, cells := 0, slots := 0, locals := 22 } : Room) s m args below meth c H locs 0 0 (MQ below (e_Qv D cA B res) args s 0 0 (e_A B)) (F0 m 10 ls [])) (E : e_En p s m args meth c cX13_copiesBase RX13 3 none) : ∀ (f : Nat) {ls : Array Slot} {H : Heap} {locs : List Loc} {S : HP} {x0 : Int} {x1 : Int} {x2 : Int} (hp : e_Pic D cA B S s H) (hS : va_S (e_A B) s.heap H locs) (hl : e_lo ls 3 [(0, e_rv B (x0)), (1, .int (iI (x1))), (2, .int (iI (x2)))]) (hsh : s13_copiesBase_l32 k10 f S x0 x1 x2 = some res), W p l e ({ frames := 1, cells := 0, slots := 0, locals := 22 } : Room) s m args below meth c H locs 0 0 (MQ below (e_Qv D cA B res) args s 0 0 (e_A B)) (F0 m 32 ls []) := by
  obtain ⟨hx, hb, hml, hown, hts, hlk, hrt⟩ := id E
  intro f
  induction f with
  | zero => intro ls H locs S x0 x1 x2 hp hS hl hsh; cases hsh
  | succ f ih =>
    intro ls H locs S x0 x1 x2 hp hS hl hsh
    have hk32 : ∀ {ls : Array Slot} {H : Heap} {locs : List Loc} {S : HP} {x0 : Int} {x1 : Int} {x2 : Int} (hp : e_Pic D cA B S s H) (hS : va_S (e_A B) s.heap H locs) (hl : e_lo ls 3 [(0, e_rv B (x0)), (1, .int (iI (x1))), (2, .int (iI (x2)))]) (hsh : (s13_copiesBase_l32 k10 f) S x0 x1 x2 = some res), W p l e ({ frames := 1, cells := 0, slots := 0, locals := 22 } : Room) s m args below meth c H locs 0 0 (MQ below (e_Qv D cA B res) args s 0 0 (e_A B)) (F0 m 32 ls []) := ih
    generalize hkk : s13_copiesBase_l32 k10 f = k32 at hk32
    rw [s13_copiesBase_l32] at hsh
    rw [hkk] at hsh
    try dsimp only at hsh
    refine lv_iload_n hx hb dX13_copiesBase_32 rfl (hl.at 2 rfl) ?_
    refine e_aload_n (B := B) (x := x0) hx hb dX13_copiesBase_33 rfl (hl.at 0 rfl) ?_
    obtain ⟨v34, h34, hsh⟩ := Option.bind_eq_some_iff.mp hsh
    refine e_getR (k := 3) hx hb hts in_X13 hown hp h34 rfl (by decide) (by decide) rfl (hts _ kf13_17) rfl dX13_copiesBase_34 ?_
    refine lv_iload_n hx hb dX13_copiesBase_37 rfl (hl.at 1 rfl) ?_
    obtain ⟨v38, h38, hsh⟩ := Option.bind_eq_some_iff.mp hsh
    refine e_iald hx hb hp h38 dX13_copiesBase_38 ?_
    refine e_icmp_ge (tgt := 65) hx hb dX13_copiesBase_39 (by decide) (fun c39 => ?_) (fun c39 => ?_)
    · rw [if_pos c39] at hsh
      refine e_iinc (n := 1) (x := x1) (lv' := [(1, .int (iI ((x1 + 1)))), (0, e_rv B (x0)), (2, .int (iI (x2)))]) hx hb dX13_copiesBase_65 hl (k := 1) rfl (by decide) rfl (fun ls hl => ?_)
      refine lv_goto (tgt := 10) hx hb dX13_copiesBase_68 (by decide) ?_
      exact hk10 hp hS (hl.sub [1, 0] rfl) hsh
    · rw [if_neg c39] at hsh
      refine e_aload_n (B := B) (x := x0) hx hb dX13_copiesBase_42 rfl (hl.at 0 rfl) ?_
      obtain ⟨v43, h43, hsh⟩ := Option.bind_eq_some_iff.mp hsh
      refine e_getR (k := 83) hx hb hts in_X13 hown hp h43 rfl (by decide) (by decide) rfl (hts _ kf13_108) rfl dX13_copiesBase_43 ?_
      refine lv_bipush (v := iI (60)) hx hb dX13_copiesBase_46 (by decide +kernel) ?_
      refine lv_iload_n hx hb dX13_copiesBase_48 rfl (hl.at 1 rfl) ?_
      refine e_imul hx hb dX13_copiesBase_49 ?_
      refine lv_iload_n hx hb dX13_copiesBase_50 rfl (hl.at 2 rfl) ?_
      refine e_iadd hx hb dX13_copiesBase_51 ?_
      refine e_aload_n (B := B) (x := x0) hx hb dX13_copiesBase_52 rfl (hl.at 0 rfl) ?_
      refine lv_iload_n hx hb dX13_copiesBase_53 rfl (hl.at 1 rfl) ?_
      refine lv_iload_n hx hb dX13_copiesBase_54 rfl (hl.at 2 rfl) ?_
      obtain ⟨⟨v55, S55⟩, h55, hsh⟩ := Option.bind_eq_some_iff.mp hsh
      have hsh : _ = _ := hsh
      try dsimp only at hsh
      have ok55 := ok13_at h55
      refine e_callI (nL := 3) (mc := 0) (ms := 0) (T := TX13) (N := 126) (As := [.int (iI (x1)), .int (iI (x2))]) (rest := [.int (iI (((60 * x1) + x2))), e_rv B (v43)]) hx hb hml hown hts hp hS hl.size ok55.1 ok55.2.1 ok55.2.2 rfl (by decide) (c13_at l D cA B S S55 (x0) (x1) (x2) v55 h55) rfl rfl kd13_at (kl13_206) ks13_at kv13_at ki13 kh13_at ⟨Nat.le_of_ble_eq_true rfl, Nat.le_of_ble_eq_true rfl⟩ rfl (by simp [e_rv_cat, e_int_cat]) ⟨Nat.le_refl _, Nat.le_refl _⟩ dX13_copiesBase_55 rfl (fun H locs hp hS => ?_)
      obtain ⟨S58, h58, hsh⟩ := Option.bind_eq_some_iff.mp hsh
      refine e_iast hx hb hp hS h58 dX13_copiesBase_58 (fun H locs hp hS => ?_)
      refine e_iinc (n := 1) (x := x2) (lv' := [(2, .int (iI ((x2 + 1)))), (0, e_rv B (x0)), (1, .int (iI (x1)))]) hx hb dX13_copiesBase_59 hl (k := 2) rfl (by decide) rfl (fun ls hl => ?_)
      refine lv_goto (tgt := 32) hx hb dX13_copiesBase_62 (by decide) ?_
      exact hk32 hp hS (hl.sub [1, 2, 0] rfl) hsh
set_option maxRecDepth 100000 in
set_option maxHeartbeats 4000000 in
theorem w13_copiesBase_l10 {p : Program} {l : Launch} {e : Env} {s : State} {m : MethodId} {args : Array Value} {below : List Frame} {meth : Method} {c : Code} {D : va_G} {cA : Nat → ClassId} {B : Nat} {res : HP} (E : e_En p s m args meth c cX13_copiesBase RX13 3 none) : ∀ (f : Nat) {ls : Array Slot} {H : Heap} {locs : List Loc} {S : HP} {x0 : Int} {x1 : Int} (hp : e_Pic D cA B S s H) (hS : va_S (e_A B) s.heap H locs) (hl : e_lo ls 3 [(0, e_rv B (x0)), (1, .int (iI (x1)))]) (hsh : s13_copiesBase_l10 f S x0 x1 = some res), W p l e ({ frames := 1, cells := 0, slots := 0, locals := 22 } : Room) s m args below meth c H locs 0 0 (MQ below (e_Qv D cA B res) args s 0 0 (e_A B)) (F0 m 10 ls []) := by
  obtain ⟨hx, hb, hml, hown, hts, hlk, hrt⟩ := id E
  intro f
  induction f with
  | zero => intro ls H locs S x0 x1 hp hS hl hsh; cases hsh
  | succ f ih =>
    intro ls H locs S x0 x1 hp hS hl hsh
    have hk10 : ∀ {ls : Array Slot} {H : Heap} {locs : List Loc} {S : HP} {x0 : Int} {x1 : Int} (hp : e_Pic D cA B S s H) (hS : va_S (e_A B) s.heap H locs) (hl : e_lo ls 3 [(0, e_rv B (x0)), (1, .int (iI (x1)))]) (hsh : (s13_copiesBase_l10 f) S x0 x1 = some res), W p l e ({ frames := 1, cells := 0, slots := 0, locals := 22 } : Room) s m args below meth c H locs 0 0 (MQ below (e_Qv D cA B res) args s 0 0 (e_A B)) (F0 m 10 ls []) := ih
    generalize hkk : s13_copiesBase_l10 f = k10 at hk10
    rw [s13_copiesBase_l10] at hsh
    rw [hkk] at hsh
    try dsimp only at hsh
    refine lv_iload_n hx hb dX13_copiesBase_10 rfl (hl.at 1 rfl) ?_
    refine e_aload_n (B := B) (x := x0) hx hb dX13_copiesBase_11 rfl (hl.at 0 rfl) ?_
    obtain ⟨v12, h12, hsh⟩ := Option.bind_eq_some_iff.mp hsh
    refine e_getI (k := 2) hx hb hts in_X13 hown hp h12 rfl (by decide) (by decide) rfl (hts _ kf13_13) rfl dX13_copiesBase_12 ?_
    refine e_icmp_ge (tgt := 71) hx hb dX13_copiesBase_15 (by decide) (fun c15 => ?_) (fun c15 => ?_)
    · rw [if_pos c15] at hsh
      cases hsh
      exact e_vret hx hb hrt hlk hp hS dX13_copiesBase_71
    · rw [if_neg c15] at hsh
      refine e_aload_n (B := B) (x := x0) hx hb dX13_copiesBase_18 rfl (hl.at 0 rfl) ?_
      obtain ⟨v19, h19, hsh⟩ := Option.bind_eq_some_iff.mp hsh
      refine e_getR (k := 82) hx hb hts in_X13 hown hp h19 rfl (by decide) (by decide) rfl (hts _ kf13_105) rfl dX13_copiesBase_19 ?_
      refine lv_iload_n hx hb dX13_copiesBase_22 rfl (hl.at 1 rfl) ?_
      refine e_aload_n (B := B) (x := x0) hx hb dX13_copiesBase_23 rfl (hl.at 0 rfl) ?_
      obtain ⟨v24, h24, hsh⟩ := Option.bind_eq_some_iff.mp hsh
      refine e_getR (k := 3) hx hb hts in_X13 hown hp h24 rfl (by decide) (by decide) rfl (hts _ kf13_17) rfl dX13_copiesBase_24 ?_
      refine lv_iload_n hx hb dX13_copiesBase_27 rfl (hl.at 1 rfl) ?_
      obtain ⟨v28, h28, hsh⟩ := Option.bind_eq_some_iff.mp hsh
      refine e_iald hx hb hp h28 dX13_copiesBase_28 ?_
      obtain ⟨S29, h29, hsh⟩ := Option.bind_eq_some_iff.mp hsh
      refine e_iast hx hb hp hS h29 dX13_copiesBase_29 (fun H locs hp hS => ?_)
      refine lv_iconst (v := iI (0)) hx hb dX13_copiesBase_30 rfl ?_
      refine e_istore_n (lv' := [(2, .int (iI (0))), (0, e_rv B (x0)), (1, .int (iI (x1)))]) hx hb dX13_copiesBase_31 rfl hl (by decide) rfl (fun ls hl => ?_)
      exact w13_copiesBase_l32 (hk10 := hk10) E 1000000 hp hS (hl.sub [1, 2, 0] rfl) hsh
set_option maxRecDepth 100000 in
set_option maxHeartbeats 4000000 in
theorem c13_copiesBase (l : Launch) (D : va_G) (cA : Nat → ClassId) (B : Nat) (S S' : HP) (x0 : Int) (hsh : s13_copiesBase S x0 = some S') : Met l yX13_copiesBase (e_wu yX13_copiesBase cX13_copiesBase 3 none) ({ frames := 1, cells := 0, slots := 0, locals := 22 } : Room) (va_Pc [e_rv B (x0)] (fun U => e_PU D cA B S U)) (e_Qv D cA B S') 0 0 (e_A B) := by
  refine Met.ofW (cc := cX13_copiesBase) (maxL := 3) (ret := none) (by decide +kernel) rfl ?_
  intro p e s m args below meth c s₁ Bd hml hv
  obtain ⟨rfl, hp⟩ := hv
  have hp : e_Pic D cA B S s s.heap := hp
  have hx := Bd.exec
  have hb := Bd.bytes
  have hrt := Bd.returns
  have hlk := Bd.notSynchronized
  have hown : s.vm.findClass RX13 = some m.cls := findClass_of_methodNamed Bd.named
  have hts : ∀ w ∈ e_tb, w.before ([e_rv B (x0)] : List Value).toArray s = true := fun w h => atoms_spec (ws := (e_wu yX13_copiesBase cX13_copiesBase 3 none)) Bd.pre w (List.mem_cons_of_mem _ h)
  have E : e_En p s m ([e_rv B (x0)] : List Value).toArray meth c cX13_copiesBase RX13 3 none := ⟨hx, hb, hml, hown, hts, hlk, hrt⟩
  have hS : va_S (e_A B) s.heap s.heap [] := va_S.rf
  have hl := e_entry (vs := [e_rv B (x0)]) (n := 3) (Nat.le_of_ble_eq_true rfl) (e_cc (e_rv_cat _ _) e_cn)
  rw [lg_entry_eq]
  generalize (lg_sl [e_rv B (x0)] ++ List.replicate (3 - (lg_sl [e_rv B (x0)]).length) Slot.unset).toArray = ls at hl ⊢
  generalize ([e_rv B (x0)] : List Value).toArray = args at hts E ⊢
  have hl : e_lo ls 3 [(0, e_rv B (x0))] := hl
  have hsh := (gd_some hsh).2
  refine e_aload_n (B := B) (x := x0) hx hb dX13_copiesBase_0 rfl (hl.at 0 rfl) ?_
  refine e_aload_n (B := B) (x := x0) hx hb dX13_copiesBase_1 rfl (hl.at 0 rfl) ?_
  obtain ⟨v2, h2, hsh⟩ := Option.bind_eq_some_iff.mp hsh
  refine e_getI (k := 2) hx hb hts in_X13 hown hp h2 rfl (by decide) (by decide) rfl (hts _ kf13_13) rfl dX13_copiesBase_2 ?_
  obtain ⟨S5, h5, hsh⟩ := Option.bind_eq_some_iff.mp hsh
  refine e_putI (k := 81) hx hb hts in_X13 tyX13 tyX13_ok nmX13 hown hp hS h5 rfl (by decide) (by decide) rfl (hts _ kf13_102) rfl rfl (by decide +kernel) dX13_copiesBase_5 (fun H locs hp hS => ?_)
  refine lv_iconst (v := iI (0)) hx hb dX13_copiesBase_8 rfl ?_
  refine e_istore_n (lv' := [(1, .int (iI (0))), (0, e_rv B (x0))]) hx hb dX13_copiesBase_9 rfl hl (by decide) rfl (fun ls hl => ?_)
  exact w13_copiesBase_l10 E 1000000 hp hS (hl.sub [1, 0] rfl) hsh
theorem ok13_isChanged {S : HP} {x0 : Int} {r : Int × HP} (h : s13_isChanged S x0 = some r) : 0 ≤ x0 ∧ x0.toNat < e_n S ∧ e_g S x0.toNat = 13 := (gd_some h).1
set_option maxRecDepth 100000 in
set_option maxHeartbeats 4000000 in
theorem w13_isChanged_b115 {p : Program} {l : Launch} {e : Env} {s : State} {m : MethodId} {args : Array Value} {below : List Frame} {meth : Method} {c : Code} {D : va_G} {cA : Nat → ClassId} {B : Nat} {res : Int × HP} (E : e_En p s m args meth c cX13_isChanged RX13 4 (some .boolean)) {ls : Array Slot} {H : Heap} {locs : List Loc} {S : HP} {y0 : Int} (hp : e_Pic D cA B S s H) (hS : va_S (e_A B) s.heap H locs) (hl : e_lo ls 4 []) (hsh : s13_isChanged_b115 S y0 = some res) : W p l e ({ frames := 1, cells := 0, slots := 0, locals := 22 } : Room) s m args below meth c H locs 0 0 (MQ below (e_Qi D cA B res.1 res.2) args s 0 0 (e_A B)) (F0 m 115 ls [.int (iI (y0))]) := by
  obtain ⟨hx, hb, hml, hown, hts, hlk, hrt⟩ := id E
  unfold s13_isChanged_b115 at hsh
  obtain ⟨hz, hz1, hz2⟩ := zR_some hsh
  rw [← hz1, ← hz2]
  exact e_zret hx hb hrt hlk hp hS hz dX13_isChanged_115
set_option maxRecDepth 100000 in
set_option maxHeartbeats 4000000 in
theorem w13_isChanged_b106 {p : Program} {l : Launch} {e : Env} {s : State} {m : MethodId} {args : Array Value} {below : List Frame} {meth : Method} {c : Code} {D : va_G} {cA : Nat → ClassId} {B : Nat} {res : Int × HP} (E : e_En p s m args meth c cX13_isChanged RX13 4 (some .boolean)) {ls : Array Slot} {H : Heap} {locs : List Loc} {S : HP} {x1 : Int} (hp : e_Pic D cA B S s H) (hS : va_S (e_A B) s.heap H locs) (hl : e_lo ls 4 [(1, .int (iI (x1)))]) (hsh : s13_isChanged_b106 S x1 = some res) : W p l e ({ frames := 1, cells := 0, slots := 0, locals := 22 } : Room) s m args below meth c H locs 0 0 (MQ below (e_Qi D cA B res.1 res.2) args s 0 0 (e_A B)) (F0 m 106 ls []) := by
  obtain ⟨hx, hb, hml, hown, hts, hlk, hrt⟩ := id E
  unfold s13_isChanged_b106 at hsh
  refine lv_iload_n hx hb dX13_isChanged_106 rfl (hl.at 0 rfl) ?_
  refine e_if_ne (tgt := 114) hx hb dX13_isChanged_107 (by decide) (fun c107 => ?_) (fun c107 => ?_)
  · rw [if_neg c107] at hsh
    refine lv_iconst (v := iI (0)) hx hb dX13_isChanged_114 rfl ?_
    exact w13_isChanged_b115 E hp hS (hl.sub [] rfl) hsh
  · rw [if_pos c107] at hsh
    refine lv_iconst (v := iI (1)) hx hb dX13_isChanged_110 rfl ?_
    refine lv_goto (tgt := 115) hx hb dX13_isChanged_111 (by decide) ?_
    exact w13_isChanged_b115 E hp hS (hl.sub [] rfl) hsh
set_option maxRecDepth 100000 in
set_option maxHeartbeats 4000000 in
theorem w13_isChanged_b100 {p : Program} {l : Launch} {e : Env} {s : State} {m : MethodId} {args : Array Value} {below : List Frame} {meth : Method} {c : Code} {D : va_G} {cA : Nat → ClassId} {B : Nat} {res : Int × HP} {k19 : HP → Int → Int → Int → Option (Int × HP)} (hk19 : ∀ {ls : Array Slot} {H : Heap} {locs : List Loc} {S : HP} {x0 : Int} {x1 : Int} {x2 : Int} (hp : e_Pic D cA B S s H) (hS : va_S (e_A B) s.heap H locs) (hl : e_lo ls 4 [(0, e_rv B (x0)), (1, .int (iI (x1))), (2, .int (iI (x2)))]) (hsh : k19 S x0 x1 x2 = some res), W p l e ({ frames := 1, cells := 0, slots := 0, locals := 22 } : Room) s m args below meth c H locs 0 0 (MQ below (e_Qi D cA B res.1 res.2) args s 0 0 (e_A B)) (F0 m 19 ls [])) (E : e_En p s m args meth c cX13_isChanged RX13 4 (some .boolean)) {ls : Array Slot} {H : Heap} {locs : List Loc} {S : HP} {x0 : Int} {x1 : Int} {x2 : Int} (hp : e_Pic D cA B S s H) (hS : va_S (e_A B) s.heap H locs) (hl : e_lo ls 4 [(0, e_rv B (x0)), (1, .int (iI (x1))), (2, .int (iI (x2)))]) (hsh : s13_isChanged_b100 k19 S x0 x1 x2 = some res) : W p l e ({ frames := 1, cells := 0, slots := 0, locals := 22 } : Room) s m args below meth c H locs 0 0 (MQ below (e_Qi D cA B res.1 res.2) args s 0 0 (e_A B)) (F0 m 100 ls []) := by
  obtain ⟨hx, hb, hml, hown, hts, hlk, hrt⟩ := id E
  unfold s13_isChanged_b100 at hsh
  refine e_iinc (n := 1) (x := x2) (lv' := [(2, .int (iI ((x2 + 1)))), (0, e_rv B (x0)), (1, .int (iI (x1)))]) hx hb dX13_isChanged_100 hl (k := 2) rfl (by decide) rfl (fun ls hl => ?_)
  refine lv_goto (tgt := 19) hx hb dX13_isChanged_103 (by decide) ?_
  exact hk19 hp hS (hl.sub [1, 2, 0] rfl) hsh
set_option maxRecDepth 100000 in
set_option maxHeartbeats 4000000 in
theorem w13_isChanged_b93 {p : Program} {l : Launch} {e : Env} {s : State} {m : MethodId} {args : Array Value} {below : List Frame} {meth : Method} {c : Code} {D : va_G} {cA : Nat → ClassId} {B : Nat} {res : Int × HP} {k19 : HP → Int → Int → Int → Option (Int × HP)} (hk19 : ∀ {ls : Array Slot} {H : Heap} {locs : List Loc} {S : HP} {x0 : Int} {x1 : Int} {x2 : Int} (hp : e_Pic D cA B S s H) (hS : va_S (e_A B) s.heap H locs) (hl : e_lo ls 4 [(0, e_rv B (x0)), (1, .int (iI (x1))), (2, .int (iI (x2)))]) (hsh : k19 S x0 x1 x2 = some res), W p l e ({ frames := 1, cells := 0, slots := 0, locals := 22 } : Room) s m args below meth c H locs 0 0 (MQ below (e_Qi D cA B res.1 res.2) args s 0 0 (e_A B)) (F0 m 19 ls [])) {k54 : HP → Int → Int → Int → Int → Option (Int × HP)} (hk54 : ∀ {ls : Array Slot} {H : Heap} {locs : List Loc} {S : HP} {x0 : Int} {x1 : Int} {x2 : Int} {x3 : Int} (hp : e_Pic D cA B S s H) (hS : va_S (e_A B) s.heap H locs) (hl : e_lo ls 4 [(0, e_rv B (x0)), (1, .int (iI (x1))), (2, .int (iI (x2))), (3, .int (iI (x3)))]) (hsh : k54 S x0 x1 x2 x3 = some res), W p l e ({ frames := 1, cells := 0, slots := 0, locals := 22 } : Room) s m args below meth c H locs 0 0 (MQ below (e_Qi D cA B res.1 res.2) args s 0 0 (e_A B)) (F0 m 54 ls [])) (E : e_En p s m args meth c cX13_isChanged RX13 4 (some .boolean)) {ls : Array Slot} {H : Heap} {locs : List Loc} {S : HP} {x0 : Int} {x2 : Int} {x3 : Int} {y0 : Int} (hp : e_Pic D cA B S s H) (hS : va_S (e_A B) s.heap H locs) (hl : e_lo ls 4 [(0, e_rv B (x0)), (2, .int (iI (x2))), (3, .int (iI (x3)))]) (hsh : s13_isChanged_b93 k19 k54 S x0 x2 x3 y0 = some res) : W p l e ({ frames := 1, cells := 0, slots := 0, locals := 22 } : Room) s m args below meth c H locs 0 0 (MQ below (e_Qi D cA B res.1 res.2) args s 0 0 (e_A B)) (F0 m 93 ls [.int (iI (y0))]) := by
  obtain ⟨hx, hb, hml, hown, hts, hlk, hrt⟩ := id E
  unfold s13_isChanged_b93 at hsh
  refine e_istore_n (lv' := [(1, .int (iI (y0))), (0, e_rv B (x0)), (2, .int (iI (x2))), (3, .int (iI (x3)))]) hx hb dX13_isChanged_93 rfl hl (by decide) rfl (fun ls hl => ?_)
  refine e_iinc (n := 1) (x := x3) (lv' := [(3, .int (iI ((x3 + 1)))), (1, .int (iI (y0))), (0, e_rv B (x0)), (2, .int (iI (x2)))]) hx hb dX13_isChanged_94 hl (k := 3) rfl (by decide) rfl (fun ls hl => ?_)
  refine lv_goto (tgt := 54) hx hb dX13_isChanged_97 (by decide) ?_
  exact hk54 hp hS (hl.sub [2, 1, 3, 0] rfl) hsh
set_option maxRecDepth 100000 in
set_option maxHeartbeats 4000000 in
theorem w13_isChanged_l54 {p : Program} {l : Launch} {e : Env} {s : State} {m : MethodId} {args : Array Value} {below : List Frame} {meth : Method} {c : Code} {D : va_G} {cA : Nat → ClassId} {B : Nat} {res : Int × HP} {k19 : HP → Int → Int → Int → Option (Int × HP)} (hk19 : ∀ {ls : Array Slot} {H : Heap} {locs : List Loc} {S : HP} {x0 : Int} {x1 : Int} {x2 : Int} (hp : e_Pic D cA B S s H) (hS : va_S (e_A B) s.heap H locs) (hl : e_lo ls 4 [(0, e_rv B (x0)), (1, .int (iI (x1))), (2, .int (iI (x2)))]) (hsh : k19 S x0 x1 x2 = some res), W p l e ({ frames := 1, cells := 0, slots := 0, locals := 22 } : Room) s m args below meth c H locs 0 0 (MQ below (e_Qi D cA B res.1 res.2) args s 0 0 (e_A B)) (F0 m 19 ls [])) (E : e_En p s m args meth c cX13_isChanged RX13 4 (some .boolean)) : ∀ (f : Nat) {ls : Array Slot} {H : Heap} {locs : List Loc} {S : HP} {x0 : Int} {x1 : Int} {x2 : Int} {x3 : Int} (hp : e_Pic D cA B S s H) (hS : va_S (e_A B) s.heap H locs) (hl : e_lo ls 4 [(0, e_rv B (x0)), (1, .int (iI (x1))), (2, .int (iI (x2))), (3, .int (iI (x3)))]) (hsh : s13_isChanged_l54 k19 f S x0 x1 x2 x3 = some res), W p l e ({ frames := 1, cells := 0, slots := 0, locals := 22 } : Room) s m args below meth c H locs 0 0 (MQ below (e_Qi D cA B res.1 res.2) args s 0 0 (e_A B)) (F0 m 54 ls []) := by
  obtain ⟨hx, hb, hml, hown, hts, hlk, hrt⟩ := id E
  intro f
  induction f with
  | zero => intro ls H locs S x0 x1 x2 x3 hp hS hl hsh; cases hsh
  | succ f ih =>
    intro ls H locs S x0 x1 x2 x3 hp hS hl hsh
    have hk54 : ∀ {ls : Array Slot} {H : Heap} {locs : List Loc} {S : HP} {x0 : Int} {x1 : Int} {x2 : Int} {x3 : Int} (hp : e_Pic D cA B S s H) (hS : va_S (e_A B) s.heap H locs) (hl : e_lo ls 4 [(0, e_rv B (x0)), (1, .int (iI (x1))), (2, .int (iI (x2))), (3, .int (iI (x3)))]) (hsh : (s13_isChanged_l54 k19 f) S x0 x1 x2 x3 = some res), W p l e ({ frames := 1, cells := 0, slots := 0, locals := 22 } : Room) s m args below meth c H locs 0 0 (MQ below (e_Qi D cA B res.1 res.2) args s 0 0 (e_A B)) (F0 m 54 ls []) := ih
    generalize hkk : s13_isChanged_l54 k19 f = k54 at hk54
    rw [s13_isChanged_l54] at hsh
    rw [hkk] at hsh
    try dsimp only at hsh
    refine lv_iload_n hx hb dX13_isChanged_54 rfl (hl.at 3 rfl) ?_
    refine e_aload_n (B := B) (x := x0) hx hb dX13_isChanged_55 rfl (hl.at 0 rfl) ?_
    obtain ⟨v56, h56, hsh⟩ := Option.bind_eq_some_iff.mp hsh
    refine e_getR (k := 3) hx hb hts in_X13 hown hp h56 rfl (by decide) (by decide) rfl (hts _ kf13_17) rfl dX13_isChanged_56 ?_
    refine lv_iload_n hx hb dX13_isChanged_59 rfl (hl.at 2 rfl) ?_
    obtain ⟨v60, h60, hsh⟩ := Option.bind_eq_some_iff.mp hsh
    refine e_iald hx hb hp h60 dX13_isChanged_60 ?_
    refine e_icmp_ge (tgt := 100) hx hb dX13_isChanged_61 (by decide) (fun c61 => ?_) (fun c61 => ?_)
    · rw [if_pos c61] at hsh
      exact w13_isChanged_b100 (hk19 := hk19) E hp hS (hl.sub [0, 1, 2] rfl) hsh
    · rw [if_neg c61] at hsh
      refine lv_iload_n hx hb dX13_isChanged_64 rfl (hl.at 1 rfl) ?_
      refine e_if_eq (tgt := 100) hx hb dX13_isChanged_65 (by decide) (fun c65 => ?_) (fun c65 => ?_)
      · rw [if_pos c65] at hsh
        exact w13_isChanged_b100 (hk19 := hk19) E hp hS (hl.sub [0, 1, 2] rfl) hsh
      · rw [if_neg c65] at hsh
        refine e_aload_n (B := B) (x := x0) hx hb dX13_isChanged_68 rfl (hl.at 0 rfl) ?_
        obtain ⟨v69, h69, hsh⟩ := Option.bind_eq_some_iff.mp hsh
        refine e_getR (k := 83) hx hb hts in_X13 hown hp h69 rfl (by decide) (by decide) rfl (hts _ kf13_108) rfl dX13_isChanged_69 ?_
        refine lv_bipush (v := iI (60)) hx hb dX13_isChanged_72 (by decide +kernel) ?_
        refine lv_iload_n hx hb dX13_isChanged_74 rfl (hl.at 2 rfl) ?_
        refine e_imul hx hb dX13_isChanged_75 ?_
        refine lv_iload_n hx hb dX13_isChanged_76 rfl (hl.at 3 rfl) ?_
        refine e_iadd hx hb dX13_isChanged_77 ?_
        obtain ⟨v78, h78, hsh⟩ := Option.bind_eq_some_iff.mp hsh
        refine e_iald hx hb hp h78 dX13_isChanged_78 ?_
        refine e_aload_n (B := B) (x := x0) hx hb dX13_isChanged_79 rfl (hl.at 0 rfl) ?_
        refine lv_iload_n hx hb dX13_isChanged_80 rfl (hl.at 2 rfl) ?_
        refine lv_iload_n hx hb dX13_isChanged_81 rfl (hl.at 3 rfl) ?_
        obtain ⟨⟨v82, S82⟩, h82, hsh⟩ := Option.bind_eq_some_iff.mp hsh
        have hsh : _ = _ := hsh
        try dsimp only at hsh
        have ok82 := ok13_at h82
        refine e_callI (nL := 4) (mc := 0) (ms := 0) (T := TX13) (N := 126) (As := [.int (iI (x2)), .int (iI (x3))]) (rest := [.int (iI (v78))]) hx hb hml hown hts hp hS hl.size ok82.1 ok82.2.1 ok82.2.2 rfl (by decide) (c13_at l D cA B S S82 (x0) (x2) (x3) v82 h82) rfl rfl kd13_at (kl13_206) ks13_at kv13_at ki13 kh13_at ⟨Nat.le_of_ble_eq_true rfl, Nat.le_of_ble_eq_true rfl⟩ rfl (by simp [e_rv_cat, e_int_cat]) ⟨Nat.le_refl _, Nat.le_refl _⟩ dX13_isChanged_82 rfl (fun H locs hp hS => ?_)
        refine e_icmp_ne (tgt := 92) hx hb dX13_isChanged_85 (by decide) (fun c85 => ?_) (fun c85 => ?_)
        · rw [if_neg c85] at hsh
          refine lv_iconst (v := iI (0)) hx hb dX13_isChanged_92 rfl ?_
          exact w13_isChanged_b93 (hk19 := hk19) (hk54 := hk54) E hp hS (hl.sub [0, 2, 3] rfl) hsh
        · rw [if_pos c85] at hsh
          refine lv_iconst (v := iI (1)) hx hb dX13_isChanged_88 rfl ?_
          refine lv_goto (tgt := 93) hx hb dX13_isChanged_89 (by decide) ?_
          exact w13_isChanged_b93 (hk19 := hk19) (hk54 := hk54) E hp hS (hl.sub [0, 2, 3] rfl) hsh
set_option maxRecDepth 100000 in
set_option maxHeartbeats 4000000 in
theorem w13_isChanged_b51 {p : Program} {l : Launch} {e : Env} {s : State} {m : MethodId} {args : Array Value} {below : List Frame} {meth : Method} {c : Code} {D : va_G} {cA : Nat → ClassId} {B : Nat} {res : Int × HP} {k19 : HP → Int → Int → Int → Option (Int × HP)} (hk19 : ∀ {ls : Array Slot} {H : Heap} {locs : List Loc} {S : HP} {x0 : Int} {x1 : Int} {x2 : Int} (hp : e_Pic D cA B S s H) (hS : va_S (e_A B) s.heap H locs) (hl : e_lo ls 4 [(0, e_rv B (x0)), (1, .int (iI (x1))), (2, .int (iI (x2)))]) (hsh : k19 S x0 x1 x2 = some res), W p l e ({ frames := 1, cells := 0, slots := 0, locals := 22 } : Room) s m args below meth c H locs 0 0 (MQ below (e_Qi D cA B res.1 res.2) args s 0 0 (e_A B)) (F0 m 19 ls [])) (E : e_En p s m args meth c cX13_isChanged RX13 4 (some .boolean)) {ls : Array Slot} {H : Heap} {locs : List Loc} {S : HP} {x0 : Int} {x2 : Int} {y0 : Int} (hp : e_Pic D cA B S s H) (hS : va_S (e_A B) s.heap H locs) (hl : e_lo ls 4 [(0, e_rv B (x0)), (2, .int (iI (x2)))]) (hsh : s13_isChanged_b51 k19 S x0 x2 y0 = some res) : W p l e ({ frames := 1, cells := 0, slots := 0, locals := 22 } : Room) s m args below meth c H locs 0 0 (MQ below (e_Qi D cA B res.1 res.2) args s 0 0 (e_A B)) (F0 m 51 ls [.int (iI (y0))]) := by
  obtain ⟨hx, hb, hml, hown, hts, hlk, hrt⟩ := id E
  unfold s13_isChanged_b51 at hsh
  refine e_istore_n (lv' := [(1, .int (iI (y0))), (0, e_rv B (x0)), (2, .int (iI (x2)))]) hx hb dX13_isChanged_51 rfl hl (by decide) rfl (fun ls hl => ?_)
  refine lv_iconst (v := iI (0)) hx hb dX13_isChanged_52 rfl ?_
  refine e_istore_n (lv' := [(3, .int (iI (0))), (1, .int (iI (y0))), (0, e_rv B (x0)), (2, .int (iI (x2)))]) hx hb dX13_isChanged_53 rfl hl (by decide) rfl (fun ls hl => ?_)
  exact w13_isChanged_l54 (hk19 := hk19) E 1000000 hp hS (hl.sub [2, 1, 3, 0] rfl) hsh
set_option maxRecDepth 100000 in
set_option maxHeartbeats 4000000 in
theorem w13_isChanged_l19 {p : Program} {l : Launch} {e : Env} {s : State} {m : MethodId} {args : Array Value} {below : List Frame} {meth : Method} {c : Code} {D : va_G} {cA : Nat → ClassId} {B : Nat} {res : Int × HP} (E : e_En p s m args meth c cX13_isChanged RX13 4 (some .boolean)) : ∀ (f : Nat) {ls : Array Slot} {H : Heap} {locs : List Loc} {S : HP} {x0 : Int} {x1 : Int} {x2 : Int} (hp : e_Pic D cA B S s H) (hS : va_S (e_A B) s.heap H locs) (hl : e_lo ls 4 [(0, e_rv B (x0)), (1, .int (iI (x1))), (2, .int (iI (x2)))]) (hsh : s13_isChanged_l19 f S x0 x1 x2 = some res), W p l e ({ frames := 1, cells := 0, slots := 0, locals := 22 } : Room) s m args below meth c H locs 0 0 (MQ below (e_Qi D cA B res.1 res.2) args s 0 0 (e_A B)) (F0 m 19 ls []) := by
  obtain ⟨hx, hb, hml, hown, hts, hlk, hrt⟩ := id E
  intro f
  induction f with
  | zero => intro ls H locs S x0 x1 x2 hp hS hl hsh; cases hsh
  | succ f ih =>
    intro ls H locs S x0 x1 x2 hp hS hl hsh
    have hk19 : ∀ {ls : Array Slot} {H : Heap} {locs : List Loc} {S : HP} {x0 : Int} {x1 : Int} {x2 : Int} (hp : e_Pic D cA B S s H) (hS : va_S (e_A B) s.heap H locs) (hl : e_lo ls 4 [(0, e_rv B (x0)), (1, .int (iI (x1))), (2, .int (iI (x2)))]) (hsh : (s13_isChanged_l19 f) S x0 x1 x2 = some res), W p l e ({ frames := 1, cells := 0, slots := 0, locals := 22 } : Room) s m args below meth c H locs 0 0 (MQ below (e_Qi D cA B res.1 res.2) args s 0 0 (e_A B)) (F0 m 19 ls []) := ih
    generalize hkk : s13_isChanged_l19 f = k19 at hk19
    rw [s13_isChanged_l19] at hsh
    rw [hkk] at hsh
    try dsimp only at hsh
    refine lv_iload_n hx hb dX13_isChanged_19 rfl (hl.at 2 rfl) ?_
    refine e_aload_n (B := B) (x := x0) hx hb dX13_isChanged_20 rfl (hl.at 0 rfl) ?_
    obtain ⟨v21, h21, hsh⟩ := Option.bind_eq_some_iff.mp hsh
    refine e_getI (k := 2) hx hb hts in_X13 hown hp h21 rfl (by decide) (by decide) rfl (hts _ kf13_13) rfl dX13_isChanged_21 ?_
    refine e_icmp_ge (tgt := 106) hx hb dX13_isChanged_24 (by decide) (fun c24 => ?_) (fun c24 => ?_)
    · rw [if_pos c24] at hsh
      exact w13_isChanged_b106 E hp hS (hl.sub [1] rfl) hsh
    · rw [if_neg c24] at hsh
      refine lv_iload_n hx hb dX13_isChanged_27 rfl (hl.at 1 rfl) ?_
      refine e_if_eq (tgt := 106) hx hb dX13_isChanged_28 (by decide) (fun c28 => ?_) (fun c28 => ?_)
      · rw [if_pos c28] at hsh
        exact w13_isChanged_b106 E hp hS (hl.sub [1] rfl) hsh
      · rw [if_neg c28] at hsh
        refine e_aload_n (B := B) (x := x0) hx hb dX13_isChanged_31 rfl (hl.at 0 rfl) ?_
        obtain ⟨v32, h32, hsh⟩ := Option.bind_eq_some_iff.mp hsh
        refine e_getR (k := 82) hx hb hts in_X13 hown hp h32 rfl (by decide) (by decide) rfl (hts _ kf13_105) rfl dX13_isChanged_32 ?_
        refine lv_iload_n hx hb dX13_isChanged_35 rfl (hl.at 2 rfl) ?_
        obtain ⟨v36, h36, hsh⟩ := Option.bind_eq_some_iff.mp hsh
        refine e_iald hx hb hp h36 dX13_isChanged_36 ?_
        refine e_aload_n (B := B) (x := x0) hx hb dX13_isChanged_37 rfl (hl.at 0 rfl) ?_
        obtain ⟨v38, h38, hsh⟩ := Option.bind_eq_some_iff.mp hsh
        refine e_getR (k := 3) hx hb hts in_X13 hown hp h38 rfl (by decide) (by decide) rfl (hts _ kf13_17) rfl dX13_isChanged_38 ?_
        refine lv_iload_n hx hb dX13_isChanged_41 rfl (hl.at 2 rfl) ?_
        obtain ⟨v42, h42, hsh⟩ := Option.bind_eq_some_iff.mp hsh
        refine e_iald hx hb hp h42 dX13_isChanged_42 ?_
        refine e_icmp_ne (tgt := 50) hx hb dX13_isChanged_43 (by decide) (fun c43 => ?_) (fun c43 => ?_)
        · rw [if_neg c43] at hsh
          refine lv_iconst (v := iI (0)) hx hb dX13_isChanged_50 rfl ?_
          exact w13_isChanged_b51 (hk19 := hk19) E hp hS (hl.sub [0, 2] rfl) hsh
        · rw [if_pos c43] at hsh
          refine lv_iconst (v := iI (1)) hx hb dX13_isChanged_46 rfl ?_
          refine lv_goto (tgt := 51) hx hb dX13_isChanged_47 (by decide) ?_
          exact w13_isChanged_b51 (hk19 := hk19) E hp hS (hl.sub [0, 2] rfl) hsh
set_option maxRecDepth 100000 in
set_option maxHeartbeats 4000000 in
theorem w13_isChanged_b16 {p : Program} {l : Launch} {e : Env} {s : State} {m : MethodId} {args : Array Value} {below : List Frame} {meth : Method} {c : Code} {D : va_G} {cA : Nat → ClassId} {B : Nat} {res : Int × HP} (E : e_En p s m args meth c cX13_isChanged RX13 4 (some .boolean)) {ls : Array Slot} {H : Heap} {locs : List Loc} {S : HP} {x0 : Int} {y0 : Int} (hp : e_Pic D cA B S s H) (hS : va_S (e_A B) s.heap H locs) (hl : e_lo ls 4 [(0, e_rv B (x0))]) (hsh : s13_isChanged_b16 S x0 y0 = some res) : W p l e ({ frames := 1, cells := 0, slots := 0, locals := 22 } : Room) s m args below meth c H locs 0 0 (MQ below (e_Qi D cA B res.1 res.2) args s 0 0 (e_A B)) (F0 m 16 ls [.int (iI (y0))]) := by
  obtain ⟨hx, hb, hml, hown, hts, hlk, hrt⟩ := id E
  unfold s13_isChanged_b16 at hsh
  refine e_istore_n (lv' := [(1, .int (iI (y0))), (0, e_rv B (x0))]) hx hb dX13_isChanged_16 rfl hl (by decide) rfl (fun ls hl => ?_)
  refine lv_iconst (v := iI (0)) hx hb dX13_isChanged_17 rfl ?_
  refine e_istore_n (lv' := [(2, .int (iI (0))), (1, .int (iI (y0))), (0, e_rv B (x0))]) hx hb dX13_isChanged_18 rfl hl (by decide) rfl (fun ls hl => ?_)
  exact w13_isChanged_l19 E 1000000 hp hS (hl.sub [2, 1, 0] rfl) hsh
set_option maxRecDepth 100000 in
set_option maxHeartbeats 4000000 in
theorem c13_isChanged (l : Launch) (D : va_G) (cA : Nat → ClassId) (B : Nat) (S S' : HP) (x0 : Int) (r : Int) (hsh : s13_isChanged S x0 = some (r, S')) : Met l yX13_isChanged (e_wu yX13_isChanged cX13_isChanged 4 (some .boolean)) ({ frames := 1, cells := 0, slots := 0, locals := 22 } : Room) (va_Pc [e_rv B (x0)] (fun U => e_PU D cA B S U)) (e_Qi D cA B r S') 0 0 (e_A B) := by
  refine Met.ofW (cc := cX13_isChanged) (maxL := 4) (ret := (some .boolean)) (by decide +kernel) rfl ?_
  intro p e s m args below meth c s₁ Bd hml hv
  obtain ⟨rfl, hp⟩ := hv
  have hp : e_Pic D cA B S s s.heap := hp
  have hx := Bd.exec
  have hb := Bd.bytes
  have hrt := Bd.returns
  have hlk := Bd.notSynchronized
  have hown : s.vm.findClass RX13 = some m.cls := findClass_of_methodNamed Bd.named
  have hts : ∀ w ∈ e_tb, w.before ([e_rv B (x0)] : List Value).toArray s = true := fun w h => atoms_spec (ws := (e_wu yX13_isChanged cX13_isChanged 4 (some .boolean))) Bd.pre w (List.mem_cons_of_mem _ h)
  have E : e_En p s m ([e_rv B (x0)] : List Value).toArray meth c cX13_isChanged RX13 4 (some .boolean) := ⟨hx, hb, hml, hown, hts, hlk, hrt⟩
  have hS : va_S (e_A B) s.heap s.heap [] := va_S.rf
  have hl := e_entry (vs := [e_rv B (x0)]) (n := 4) (Nat.le_of_ble_eq_true rfl) (e_cc (e_rv_cat _ _) e_cn)
  rw [lg_entry_eq]
  generalize (lg_sl [e_rv B (x0)] ++ List.replicate (4 - (lg_sl [e_rv B (x0)]).length) Slot.unset).toArray = ls at hl ⊢
  generalize ([e_rv B (x0)] : List Value).toArray = args at hts E ⊢
  have hl : e_lo ls 4 [(0, e_rv B (x0))] := hl
  have hsh := (gd_some hsh).2
  refine e_aload_n (B := B) (x := x0) hx hb dX13_isChanged_0 rfl (hl.at 0 rfl) ?_
  obtain ⟨v1, h1, hsh⟩ := Option.bind_eq_some_iff.mp hsh
  refine e_getI (k := 81) hx hb hts in_X13 hown hp h1 rfl (by decide) (by decide) rfl (hts _ kf13_102) rfl dX13_isChanged_1 ?_
  refine e_aload_n (B := B) (x := x0) hx hb dX13_isChanged_4 rfl (hl.at 0 rfl) ?_
  obtain ⟨v5, h5, hsh⟩ := Option.bind_eq_some_iff.mp hsh
  refine e_getI (k := 2) hx hb hts in_X13 hown hp h5 rfl (by decide) (by decide) rfl (hts _ kf13_13) rfl dX13_isChanged_5 ?_
  refine e_icmp_ne (tgt := 15) hx hb dX13_isChanged_8 (by decide) (fun c8 => ?_) (fun c8 => ?_)
  · rw [if_neg c8] at hsh
    refine lv_iconst (v := iI (0)) hx hb dX13_isChanged_15 rfl ?_
    exact w13_isChanged_b16 E hp hS (hl.sub [0] rfl) hsh
  · rw [if_pos c8] at hsh
    refine lv_iconst (v := iI (1)) hx hb dX13_isChanged_11 rfl ?_
    refine lv_goto (tgt := 16) hx hb dX13_isChanged_12 (by decide) ?_
    exact w13_isChanged_b16 E hp hS (hl.sub [0] rfl) hsh
theorem ok13_keepsChange {S : HP} {x0 : Int} {r : HP} (h : s13_keepsChange S x0 = some r) : 0 ≤ x0 ∧ x0.toNat < e_n S ∧ e_g S x0.toNat = 13 := (gd_some h).1
set_option maxRecDepth 100000 in
set_option maxHeartbeats 4000000 in
theorem w13_keepsChange_l16 {p : Program} {l : Launch} {e : Env} {s : State} {m : MethodId} {args : Array Value} {below : List Frame} {meth : Method} {c : Code} {D : va_G} {cA : Nat → ClassId} {B : Nat} {res : HP} (E : e_En p s m args meth c cX13_keepsChange RX13 2 none) : ∀ (f : Nat) {ls : Array Slot} {H : Heap} {locs : List Loc} {S : HP} {x0 : Int} {x1 : Int} (hp : e_Pic D cA B S s H) (hS : va_S (e_A B) s.heap H locs) (hl : e_lo ls 2 [(0, e_rv B (x0)), (1, .int (iI (x1)))]) (hsh : s13_keepsChange_l16 f S x0 x1 = some res), W p l e ({ frames := 1, cells := 0, slots := 0, locals := 21 } : Room) s m args below meth c H locs 0 0 (MQ below (e_Qv D cA B res) args s 0 0 (e_A B)) (F0 m 16 ls []) := by
  obtain ⟨hx, hb, hml, hown, hts, hlk, hrt⟩ := id E
  intro f
  induction f with
  | zero => intro ls H locs S x0 x1 hp hS hl hsh; cases hsh
  | succ f ih =>
    intro ls H locs S x0 x1 hp hS hl hsh
    have hk16 : ∀ {ls : Array Slot} {H : Heap} {locs : List Loc} {S : HP} {x0 : Int} {x1 : Int} (hp : e_Pic D cA B S s H) (hS : va_S (e_A B) s.heap H locs) (hl : e_lo ls 2 [(0, e_rv B (x0)), (1, .int (iI (x1)))]) (hsh : (s13_keepsChange_l16 f) S x0 x1 = some res), W p l e ({ frames := 1, cells := 0, slots := 0, locals := 21 } : Room) s m args below meth c H locs 0 0 (MQ below (e_Qv D cA B res) args s 0 0 (e_A B)) (F0 m 16 ls []) := ih
    generalize hkk : s13_keepsChange_l16 f = k16 at hk16
    rw [s13_keepsChange_l16] at hsh
    rw [hkk] at hsh
    try dsimp only at hsh
    refine lv_iload_n hx hb dX13_keepsChange_16 rfl (hl.at 1 rfl) ?_
    refine e_aload_n (B := B) (x := x0) hx hb dX13_keepsChange_17 rfl (hl.at 0 rfl) ?_
    obtain ⟨v18, h18, hsh⟩ := Option.bind_eq_some_iff.mp hsh
    refine e_getI (k := 84) hx hb hts in_X13 hown hp h18 rfl (by decide) (by decide) rfl (hts _ kf13_693) rfl dX13_keepsChange_18 ?_
    refine e_icmp_ge (tgt := 42) hx hb dX13_keepsChange_21 (by decide) (fun c21 => ?_) (fun c21 => ?_)
    · rw [if_pos c21] at hsh
      cases hsh
      exact e_vret hx hb hrt hlk hp hS dX13_keepsChange_42
    · rw [if_neg c21] at hsh
      refine e_aload_n (B := B) (x := x0) hx hb dX13_keepsChange_24 rfl (hl.at 0 rfl) ?_
      obtain ⟨v25, h25, hsh⟩ := Option.bind_eq_some_iff.mp hsh
      refine e_getR (k := 85) hx hb hts in_X13 hown hp h25 rfl (by decide) (by decide) rfl (hts _ kf13_111) rfl dX13_keepsChange_25 ?_
      refine lv_iload_n hx hb dX13_keepsChange_28 rfl (hl.at 1 rfl) ?_
      refine e_aload_n (B := B) (x := x0) hx hb dX13_keepsChange_29 rfl (hl.at 0 rfl) ?_
      obtain ⟨v30, h30, hsh⟩ := Option.bind_eq_some_iff.mp hsh
      refine e_getR (k := 75) hx hb hts in_X13 hown hp h30 rfl (by decide) (by decide) rfl (hts _ kf13_99) rfl dX13_keepsChange_30 ?_
      refine lv_iload_n hx hb dX13_keepsChange_33 rfl (hl.at 1 rfl) ?_
      obtain ⟨v34, h34, hsh⟩ := Option.bind_eq_some_iff.mp hsh
      refine e_iald hx hb hp h34 dX13_keepsChange_34 ?_
      obtain ⟨S35, h35, hsh⟩ := Option.bind_eq_some_iff.mp hsh
      refine e_iast hx hb hp hS h35 dX13_keepsChange_35 (fun H locs hp hS => ?_)
      refine e_iinc (n := 1) (x := x1) (lv' := [(1, .int (iI ((x1 + 1)))), (0, e_rv B (x0))]) hx hb dX13_keepsChange_36 hl (k := 1) rfl (by decide) rfl (fun ls hl => ?_)
      refine lv_goto (tgt := 16) hx hb dX13_keepsChange_39 (by decide) ?_
      exact hk16 hp hS (hl.sub [1, 0] rfl) hsh
set_option maxRecDepth 100000 in
set_option maxHeartbeats 4000000 in
theorem c13_keepsChange (l : Launch) (D : va_G) (cA : Nat → ClassId) (B : Nat) (S S' : HP) (x0 : Int) (hsh : s13_keepsChange S x0 = some S') : Met l yX13_keepsChange (e_wu yX13_keepsChange cX13_keepsChange 2 none) ({ frames := 1, cells := 0, slots := 0, locals := 21 } : Room) (va_Pc [e_rv B (x0)] (fun U => e_PU D cA B S U)) (e_Qv D cA B S') 0 0 (e_A B) := by
  refine Met.ofW (cc := cX13_keepsChange) (maxL := 2) (ret := none) (by decide +kernel) rfl ?_
  intro p e s m args below meth c s₁ Bd hml hv
  obtain ⟨rfl, hp⟩ := hv
  have hp : e_Pic D cA B S s s.heap := hp
  have hx := Bd.exec
  have hb := Bd.bytes
  have hrt := Bd.returns
  have hlk := Bd.notSynchronized
  have hown : s.vm.findClass RX13 = some m.cls := findClass_of_methodNamed Bd.named
  have hts : ∀ w ∈ e_tb, w.before ([e_rv B (x0)] : List Value).toArray s = true := fun w h => atoms_spec (ws := (e_wu yX13_keepsChange cX13_keepsChange 2 none)) Bd.pre w (List.mem_cons_of_mem _ h)
  have E : e_En p s m ([e_rv B (x0)] : List Value).toArray meth c cX13_keepsChange RX13 2 none := ⟨hx, hb, hml, hown, hts, hlk, hrt⟩
  have hS : va_S (e_A B) s.heap s.heap [] := va_S.rf
  have hl := e_entry (vs := [e_rv B (x0)]) (n := 2) (Nat.le_of_ble_eq_true rfl) (e_cc (e_rv_cat _ _) e_cn)
  rw [lg_entry_eq]
  generalize (lg_sl [e_rv B (x0)] ++ List.replicate (2 - (lg_sl [e_rv B (x0)]).length) Slot.unset).toArray = ls at hl ⊢
  generalize ([e_rv B (x0)] : List Value).toArray = args at hts E ⊢
  have hl : e_lo ls 2 [(0, e_rv B (x0))] := hl
  have hsh := (gd_some hsh).2
  refine e_aload_n (B := B) (x := x0) hx hb dX13_keepsChange_0 rfl (hl.at 0 rfl) ?_
  refine e_aload_n (B := B) (x := x0) hx hb dX13_keepsChange_1 rfl (hl.at 0 rfl) ?_
  obtain ⟨v2, h2, hsh⟩ := Option.bind_eq_some_iff.mp hsh
  refine e_getI (k := 74) hx hb hts in_X13 hown hp h2 rfl (by decide) (by decide) rfl (hts _ kf13_690) rfl dX13_keepsChange_2 ?_
  refine lv_sipush (v := iI (8000)) hx hb dX13_keepsChange_5 (by decide +kernel) ?_
  obtain ⟨⟨v8, S8⟩, h8, hsh⟩ := Option.bind_eq_some_iff.mp hsh
  have hsh : _ = _ := hsh
  try dsimp only at hsh
  refine e_callS (nL := 2) (mc := 0) (ms := 0) (As := [.int (iI (v2)), .int (iI (8000))]) (rest := [e_rv B (x0)]) hx hb hml hown hts hp hS hl.size (c13_lesser l D cA B S S8 (v2) (8000) v8 h8) rfl rfl kd13_lesser (kl13_257) ks13_lesser ki13 kh13_lesser ⟨Nat.le_of_ble_eq_true rfl, Nat.le_of_ble_eq_true rfl⟩ rfl (by simp [e_rv_cat, e_int_cat]) ⟨Nat.le_refl _, Nat.le_refl _⟩ dX13_keepsChange_8 rfl (fun H locs hp hS => ?_)
  obtain ⟨S11, h11, hsh⟩ := Option.bind_eq_some_iff.mp hsh
  refine e_putI (k := 84) hx hb hts in_X13 tyX13 tyX13_ok nmX13 hown hp hS h11 rfl (by decide) (by decide) rfl (hts _ kf13_693) rfl rfl (by decide +kernel) dX13_keepsChange_11 (fun H locs hp hS => ?_)
  refine lv_iconst (v := iI (0)) hx hb dX13_keepsChange_14 rfl ?_
  refine e_istore_n (lv' := [(1, .int (iI (0))), (0, e_rv B (x0))]) hx hb dX13_keepsChange_15 rfl hl (by decide) rfl (fun ls hl => ?_)
  exact w13_keepsChange_l16 E 1000000 hp hS (hl.sub [1, 0] rfl) hsh
theorem ok13_isRepeating {S : HP} {x0 : Int} {r : Int × HP} (h : s13_isRepeating S x0 = some r) : 0 ≤ x0 ∧ x0.toNat < e_n S ∧ e_g S x0.toNat = 13 := (gd_some h).1
set_option maxRecDepth 100000 in
set_option maxHeartbeats 4000000 in
theorem w13_isRepeating_b27 {p : Program} {l : Launch} {e : Env} {s : State} {m : MethodId} {args : Array Value} {below : List Frame} {meth : Method} {c : Code} {D : va_G} {cA : Nat → ClassId} {B : Nat} {res : Int × HP} (E : e_En p s m args meth c cX13_isRepeating RX13 1 (some .boolean)) {ls : Array Slot} {H : Heap} {locs : List Loc} {S : HP} {y0 : Int} (hp : e_Pic D cA B S s H) (hS : va_S (e_A B) s.heap H locs) (hl : e_lo ls 1 []) (hsh : s13_isRepeating_b27 S y0 = some res) : W p l e ({ frames := 0, cells := 0, slots := 0, locals := 0 } : Room) s m args below meth c H locs 0 0 (MQ below (e_Qi D cA B res.1 res.2) args s 0 0 (e_A B)) (F0 m 27 ls [.int (iI (y0))]) := by
  obtain ⟨hx, hb, hml, hown, hts, hlk, hrt⟩ := id E
  unfold s13_isRepeating_b27 at hsh
  obtain ⟨hz, hz1, hz2⟩ := zR_some hsh
  rw [← hz1, ← hz2]
  exact e_zret hx hb hrt hlk hp hS hz dX13_isRepeating_27
set_option maxRecDepth 100000 in
set_option maxHeartbeats 4000000 in
theorem w13_isRepeating_b26 {p : Program} {l : Launch} {e : Env} {s : State} {m : MethodId} {args : Array Value} {below : List Frame} {meth : Method} {c : Code} {D : va_G} {cA : Nat → ClassId} {B : Nat} {res : Int × HP} (E : e_En p s m args meth c cX13_isRepeating RX13 1 (some .boolean)) {ls : Array Slot} {H : Heap} {locs : List Loc} {S : HP} (hp : e_Pic D cA B S s H) (hS : va_S (e_A B) s.heap H locs) (hl : e_lo ls 1 []) (hsh : s13_isRepeating_b26 S  = some res) : W p l e ({ frames := 0, cells := 0, slots := 0, locals := 0 } : Room) s m args below meth c H locs 0 0 (MQ below (e_Qi D cA B res.1 res.2) args s 0 0 (e_A B)) (F0 m 26 ls []) := by
  obtain ⟨hx, hb, hml, hown, hts, hlk, hrt⟩ := id E
  unfold s13_isRepeating_b26 at hsh
  refine lv_iconst (v := iI (0)) hx hb dX13_isRepeating_26 rfl ?_
  exact w13_isRepeating_b27 E hp hS (hl.sub [] rfl) hsh
set_option maxRecDepth 100000 in
set_option maxHeartbeats 4000000 in
theorem c13_isRepeating (l : Launch) (D : va_G) (cA : Nat → ClassId) (B : Nat) (S S' : HP) (x0 : Int) (r : Int) (hsh : s13_isRepeating S x0 = some (r, S')) : Met l yX13_isRepeating (e_wu yX13_isRepeating cX13_isRepeating 1 (some .boolean)) ({ frames := 0, cells := 0, slots := 0, locals := 0 } : Room) (va_Pc [e_rv B (x0)] (fun U => e_PU D cA B S U)) (e_Qi D cA B r S') 0 0 (e_A B) := by
  refine Met.ofW (cc := cX13_isRepeating) (maxL := 1) (ret := (some .boolean)) (by decide +kernel) rfl ?_
  intro p e s m args below meth c s₁ Bd hml hv
  obtain ⟨rfl, hp⟩ := hv
  have hp : e_Pic D cA B S s s.heap := hp
  have hx := Bd.exec
  have hb := Bd.bytes
  have hrt := Bd.returns
  have hlk := Bd.notSynchronized
  have hown : s.vm.findClass RX13 = some m.cls := findClass_of_methodNamed Bd.named
  have hts : ∀ w ∈ e_tb, w.before ([e_rv B (x0)] : List Value).toArray s = true := fun w h => atoms_spec (ws := (e_wu yX13_isRepeating cX13_isRepeating 1 (some .boolean))) Bd.pre w (List.mem_cons_of_mem _ h)
  have E : e_En p s m ([e_rv B (x0)] : List Value).toArray meth c cX13_isRepeating RX13 1 (some .boolean) := ⟨hx, hb, hml, hown, hts, hlk, hrt⟩
  have hS : va_S (e_A B) s.heap s.heap [] := va_S.rf
  have hl := e_entry (vs := [e_rv B (x0)]) (n := 1) (Nat.le_of_ble_eq_true rfl) (e_cc (e_rv_cat _ _) e_cn)
  rw [lg_entry_eq]
  generalize (lg_sl [e_rv B (x0)] ++ List.replicate (1 - (lg_sl [e_rv B (x0)]).length) Slot.unset).toArray = ls at hl ⊢
  generalize ([e_rv B (x0)] : List Value).toArray = args at hts E ⊢
  have hl : e_lo ls 1 [(0, e_rv B (x0))] := hl
  have hsh := (gd_some hsh).2
  refine e_aload_n (B := B) (x := x0) hx hb dX13_isRepeating_0 rfl (hl.at 0 rfl) ?_
  obtain ⟨v1, h1, hsh⟩ := Option.bind_eq_some_iff.mp hsh
  refine e_getI (k := 90) hx hb hts in_X13 hown hp h1 rfl (by decide) (by decide) rfl (hts _ kf13_672) rfl dX13_isRepeating_1 ?_
  refine e_if_le (tgt := 26) hx hb dX13_isRepeating_4 (by decide) (fun c4 => ?_) (fun c4 => ?_)
  · rw [if_pos c4] at hsh
    exact w13_isRepeating_b26 E hp hS (hl.sub [] rfl) hsh
  · rw [if_neg c4] at hsh
    refine e_aload_n (B := B) (x := x0) hx hb dX13_isRepeating_7 rfl (hl.at 0 rfl) ?_
    obtain ⟨v8, h8, hsh⟩ := Option.bind_eq_some_iff.mp hsh
    refine e_getR (k := 91) hx hb hts in_X13 hown hp h8 rfl (by decide) (by decide) rfl (hts _ kf13_123) rfl dX13_isRepeating_8 ?_
    refine e_aload_n (B := B) (x := x0) hx hb dX13_isRepeating_11 rfl (hl.at 0 rfl) ?_
    obtain ⟨v12, h12, hsh⟩ := Option.bind_eq_some_iff.mp hsh
    refine e_getI (k := 90) hx hb hts in_X13 hown hp h12 rfl (by decide) (by decide) rfl (hts _ kf13_672) rfl dX13_isRepeating_12 ?_
    refine lv_iconst (v := iI (1)) hx hb dX13_isRepeating_15 rfl ?_
    refine e_isub hx hb dX13_isRepeating_16 ?_
    obtain ⟨v17, h17, hsh⟩ := Option.bind_eq_some_iff.mp hsh
    refine e_iald hx hb hp h17 dX13_isRepeating_17 ?_
    refine lv_iconst (v := iI (2)) hx hb dX13_isRepeating_18 rfl ?_
    refine e_icmp_ne (tgt := 26) hx hb dX13_isRepeating_19 (by decide) (fun c19 => ?_) (fun c19 => ?_)
    · rw [if_neg c19] at hsh
      exact w13_isRepeating_b26 E hp hS (hl.sub [] rfl) hsh
    · rw [if_pos c19] at hsh
      refine lv_iconst (v := iI (1)) hx hb dX13_isRepeating_22 rfl ?_
      refine lv_goto (tgt := 27) hx hb dX13_isRepeating_23 (by decide) ?_
      exact w13_isRepeating_b27 E hp hS (hl.sub [] rfl) hsh
theorem ok13_keepsSeek {S : HP} {x0 : Int} {r : HP} (h : s13_keepsSeek S x0 = some r) : 0 ≤ x0 ∧ x0.toNat < e_n S ∧ e_g S x0.toNat = 13 := (gd_some h).1
set_option maxRecDepth 100000 in
set_option maxHeartbeats 4000000 in
theorem w13_keepsSeek_l58 {p : Program} {l : Launch} {e : Env} {s : State} {m : MethodId} {args : Array Value} {below : List Frame} {meth : Method} {c : Code} {D : va_G} {cA : Nat → ClassId} {B : Nat} {res : HP} (E : e_En p s m args meth c cX13_keepsSeek RX13 3 none) : ∀ (f : Nat) {ls : Array Slot} {H : Heap} {locs : List Loc} {S : HP} {x0 : Int} {x2 : Int} (hp : e_Pic D cA B S s H) (hS : va_S (e_A B) s.heap H locs) (hl : e_lo ls 3 [(0, e_rv B (x0)), (2, .int (iI (x2)))]) (hsh : s13_keepsSeek_l58 f S x0 x2 = some res), W p l e ({ frames := 1, cells := 0, slots := 0, locals := 21 } : Room) s m args below meth c H locs 0 0 (MQ below (e_Qv D cA B res) args s 0 0 (e_A B)) (F0 m 58 ls []) := by
  obtain ⟨hx, hb, hml, hown, hts, hlk, hrt⟩ := id E
  intro f
  induction f with
  | zero => intro ls H locs S x0 x2 hp hS hl hsh; cases hsh
  | succ f ih =>
    intro ls H locs S x0 x2 hp hS hl hsh
    have hk58 : ∀ {ls : Array Slot} {H : Heap} {locs : List Loc} {S : HP} {x0 : Int} {x2 : Int} (hp : e_Pic D cA B S s H) (hS : va_S (e_A B) s.heap H locs) (hl : e_lo ls 3 [(0, e_rv B (x0)), (2, .int (iI (x2)))]) (hsh : (s13_keepsSeek_l58 f) S x0 x2 = some res), W p l e ({ frames := 1, cells := 0, slots := 0, locals := 21 } : Room) s m args below meth c H locs 0 0 (MQ below (e_Qv D cA B res) args s 0 0 (e_A B)) (F0 m 58 ls []) := ih
    generalize hkk : s13_keepsSeek_l58 f = k58 at hk58
    rw [s13_keepsSeek_l58] at hsh
    rw [hkk] at hsh
    try dsimp only at hsh
    refine lv_iload_n hx hb dX13_keepsSeek_58 rfl (hl.at 1 rfl) ?_
    refine e_aload_n (B := B) (x := x0) hx hb dX13_keepsSeek_59 rfl (hl.at 0 rfl) ?_
    obtain ⟨v60, h60, hsh⟩ := Option.bind_eq_some_iff.mp hsh
    refine e_getI (k := 51) hx hb hts in_X13 hown hp h60 rfl (by decide) (by decide) rfl (hts _ kf13_324) rfl dX13_keepsSeek_60 ?_
    refine e_icmp_ge (tgt := 89) hx hb dX13_keepsSeek_63 (by decide) (fun c63 => ?_) (fun c63 => ?_)
    · rw [if_pos c63] at hsh
      cases hsh
      exact e_vret hx hb hrt hlk hp hS dX13_keepsSeek_89
    · rw [if_neg c63] at hsh
      refine e_aload_n (B := B) (x := x0) hx hb dX13_keepsSeek_66 rfl (hl.at 0 rfl) ?_
      obtain ⟨v67, h67, hsh⟩ := Option.bind_eq_some_iff.mp hsh
      refine e_getR (k := 52) hx hb hts in_X13 hown hp h67 rfl (by decide) (by decide) rfl (hts _ kf13_89) rfl dX13_keepsSeek_67 ?_
      refine lv_iload_n hx hb dX13_keepsSeek_70 rfl (hl.at 1 rfl) ?_
      refine e_aload_n (B := B) (x := x0) hx hb dX13_keepsSeek_71 rfl (hl.at 0 rfl) ?_
      obtain ⟨v72, h72, hsh⟩ := Option.bind_eq_some_iff.mp hsh
      refine e_getR (k := 57) hx hb hts in_X13 hown hp h72 rfl (by decide) (by decide) rfl (hts _ kf13_95) rfl dX13_keepsSeek_72 ?_
      refine e_aload_n (B := B) (x := x0) hx hb dX13_keepsSeek_75 rfl (hl.at 0 rfl) ?_
      obtain ⟨v76, h76, hsh⟩ := Option.bind_eq_some_iff.mp hsh
      refine e_getI (k := 64) hx hb hts in_X13 hown hp h76 rfl (by decide) (by decide) rfl (hts _ kf13_627) rfl dX13_keepsSeek_76 ?_
      refine lv_iload_n hx hb dX13_keepsSeek_79 rfl (hl.at 1 rfl) ?_
      refine e_iadd hx hb dX13_keepsSeek_80 ?_
      obtain ⟨v81, h81, hsh⟩ := Option.bind_eq_some_iff.mp hsh
      refine e_iald hx hb hp h81 dX13_keepsSeek_81 ?_
      obtain ⟨S82, h82, hsh⟩ := Option.bind_eq_some_iff.mp hsh
      refine e_iast hx hb hp hS h82 dX13_keepsSeek_82 (fun H locs hp hS => ?_)
      refine e_iinc (n := 1) (x := x2) (lv' := [(2, .int (iI ((x2 + 1)))), (0, e_rv B (x0))]) hx hb dX13_keepsSeek_83 hl (k := 1) rfl (by decide) rfl (fun ls hl => ?_)
      refine lv_goto (tgt := 58) hx hb dX13_keepsSeek_86 (by decide) ?_
      exact hk58 hp hS (hl.sub [1, 0] rfl) hsh
set_option maxRecDepth 100000 in
set_option maxHeartbeats 4000000 in
theorem w13_keepsSeek_l22 {p : Program} {l : Launch} {e : Env} {s : State} {m : MethodId} {args : Array Value} {below : List Frame} {meth : Method} {c : Code} {D : va_G} {cA : Nat → ClassId} {B : Nat} {res : HP} (E : e_En p s m args meth c cX13_keepsSeek RX13 3 none) : ∀ (f : Nat) {ls : Array Slot} {H : Heap} {locs : List Loc} {S : HP} {x0 : Int} {x1 : Int} {x2 : Int} (hp : e_Pic D cA B S s H) (hS : va_S (e_A B) s.heap H locs) (hl : e_lo ls 3 [(0, e_rv B (x0)), (1, .int (iI (x1))), (2, .int (iI (x2)))]) (hsh : s13_keepsSeek_l22 f S x0 x1 x2 = some res), W p l e ({ frames := 1, cells := 0, slots := 0, locals := 21 } : Room) s m args below meth c H locs 0 0 (MQ below (e_Qv D cA B res) args s 0 0 (e_A B)) (F0 m 22 ls []) := by
  obtain ⟨hx, hb, hml, hown, hts, hlk, hrt⟩ := id E
  intro f
  induction f with
  | zero => intro ls H locs S x0 x1 x2 hp hS hl hsh; cases hsh
  | succ f ih =>
    intro ls H locs S x0 x1 x2 hp hS hl hsh
    have hk22 : ∀ {ls : Array Slot} {H : Heap} {locs : List Loc} {S : HP} {x0 : Int} {x1 : Int} {x2 : Int} (hp : e_Pic D cA B S s H) (hS : va_S (e_A B) s.heap H locs) (hl : e_lo ls 3 [(0, e_rv B (x0)), (1, .int (iI (x1))), (2, .int (iI (x2)))]) (hsh : (s13_keepsSeek_l22 f) S x0 x1 x2 = some res), W p l e ({ frames := 1, cells := 0, slots := 0, locals := 21 } : Room) s m args below meth c H locs 0 0 (MQ below (e_Qv D cA B res) args s 0 0 (e_A B)) (F0 m 22 ls []) := ih
    generalize hkk : s13_keepsSeek_l22 f = k22 at hk22
    rw [s13_keepsSeek_l22] at hsh
    rw [hkk] at hsh
    try dsimp only at hsh
    refine lv_iload_n hx hb dX13_keepsSeek_22 rfl (hl.at 2 rfl) ?_
    refine lv_bipush (v := iI (61)) hx hb dX13_keepsSeek_23 (by decide +kernel) ?_
    refine e_icmp_ge (tgt := 46) hx hb dX13_keepsSeek_25 (by decide) (fun c25 => ?_) (fun c25 => ?_)
    · rw [if_pos c25] at hsh
      refine e_aload_n (B := B) (x := x0) hx hb dX13_keepsSeek_46 rfl (hl.at 0 rfl) ?_
      refine lv_iload_n hx hb dX13_keepsSeek_47 rfl (hl.at 1 rfl) ?_
      refine lv_bipush (v := iI (61)) hx hb dX13_keepsSeek_48 (by decide +kernel) ?_
      obtain ⟨⟨v50, S50⟩, h50, hsh⟩ := Option.bind_eq_some_iff.mp hsh
      have hsh : _ = _ := hsh
      try dsimp only at hsh
      refine e_callS (nL := 3) (mc := 0) (ms := 0) (As := [.int (iI (x1)), .int (iI (61))]) (rest := [e_rv B (x0)]) hx hb hml hown hts hp hS hl.size (c13_lesser l D cA B S S50 (x1) (61) v50 h50) rfl rfl kd13_lesser (kl13_257) ks13_lesser ki13 kh13_lesser ⟨Nat.le_of_ble_eq_true rfl, Nat.le_of_ble_eq_true rfl⟩ rfl (by simp [e_rv_cat, e_int_cat]) ⟨Nat.le_refl _, Nat.le_refl _⟩ dX13_keepsSeek_50 rfl (fun H locs hp hS => ?_)
      obtain ⟨S53, h53, hsh⟩ := Option.bind_eq_some_iff.mp hsh
      refine e_putI (k := 51) hx hb hts in_X13 tyX13 tyX13_ok nmX13 hown hp hS h53 rfl (by decide) (by decide) rfl (hts _ kf13_324) rfl rfl (by decide +kernel) dX13_keepsSeek_53 (fun H locs hp hS => ?_)
      refine lv_iconst (v := iI (0)) hx hb dX13_keepsSeek_56 rfl ?_
      refine e_istore_n (lv' := [(2, .int (iI (0))), (0, e_rv B (x0)), (1, .int (iI (x1)))]) hx hb dX13_keepsSeek_57 rfl hl (by decide) rfl (fun ls hl => ?_)
      exact w13_keepsSeek_l58 E 1000000 hp hS (hl.sub [1, 0] rfl) hsh
    · rw [if_neg c25] at hsh
      refine e_aload_n (B := B) (x := x0) hx hb dX13_keepsSeek_28 rfl (hl.at 0 rfl) ?_
      obtain ⟨v29, h29, hsh⟩ := Option.bind_eq_some_iff.mp hsh
      refine e_getR (k := 54) hx hb hts in_X13 hown hp h29 rfl (by decide) (by decide) rfl (hts _ kf13_92) rfl dX13_keepsSeek_29 ?_
      refine lv_iload_n hx hb dX13_keepsSeek_32 rfl (hl.at 2 rfl) ?_
      refine e_aload_n (B := B) (x := x0) hx hb dX13_keepsSeek_33 rfl (hl.at 0 rfl) ?_
      obtain ⟨v34, h34, hsh⟩ := Option.bind_eq_some_iff.mp hsh
      refine e_getR (k := 52) hx hb hts in_X13 hown hp h34 rfl (by decide) (by decide) rfl (hts _ kf13_89) rfl dX13_keepsSeek_34 ?_
      refine lv_iload_n hx hb dX13_keepsSeek_37 rfl (hl.at 2 rfl) ?_
      obtain ⟨v38, h38, hsh⟩ := Option.bind_eq_some_iff.mp hsh
      refine e_iald hx hb hp h38 dX13_keepsSeek_38 ?_
      obtain ⟨S39, h39, hsh⟩ := Option.bind_eq_some_iff.mp hsh
      refine e_iast hx hb hp hS h39 dX13_keepsSeek_39 (fun H locs hp hS => ?_)
      refine e_iinc (n := 1) (x := x2) (lv' := [(2, .int (iI ((x2 + 1)))), (0, e_rv B (x0)), (1, .int (iI (x1)))]) hx hb dX13_keepsSeek_40 hl (k := 2) rfl (by decide) rfl (fun ls hl => ?_)
      refine lv_goto (tgt := 22) hx hb dX13_keepsSeek_43 (by decide) ?_
      exact hk22 hp hS (hl.sub [1, 2, 0] rfl) hsh
set_option maxRecDepth 100000 in
set_option maxHeartbeats 4000000 in
theorem c13_keepsSeek (l : Launch) (D : va_G) (cA : Nat → ClassId) (B : Nat) (S S' : HP) (x0 : Int) (hsh : s13_keepsSeek S x0 = some S') : Met l yX13_keepsSeek (e_wu yX13_keepsSeek cX13_keepsSeek 3 none) ({ frames := 1, cells := 0, slots := 0, locals := 21 } : Room) (va_Pc [e_rv B (x0)] (fun U => e_PU D cA B S U)) (e_Qv D cA B S') 0 0 (e_A B) := by
  refine Met.ofW (cc := cX13_keepsSeek) (maxL := 3) (ret := none) (by decide +kernel) rfl ?_
  intro p e s m args below meth c s₁ Bd hml hv
  obtain ⟨rfl, hp⟩ := hv
  have hp : e_Pic D cA B S s s.heap := hp
  have hx := Bd.exec
  have hb := Bd.bytes
  have hrt := Bd.returns
  have hlk := Bd.notSynchronized
  have hown : s.vm.findClass RX13 = some m.cls := findClass_of_methodNamed Bd.named
  have hts : ∀ w ∈ e_tb, w.before ([e_rv B (x0)] : List Value).toArray s = true := fun w h => atoms_spec (ws := (e_wu yX13_keepsSeek cX13_keepsSeek 3 none)) Bd.pre w (List.mem_cons_of_mem _ h)
  have E : e_En p s m ([e_rv B (x0)] : List Value).toArray meth c cX13_keepsSeek RX13 3 none := ⟨hx, hb, hml, hown, hts, hlk, hrt⟩
  have hS : va_S (e_A B) s.heap s.heap [] := va_S.rf
  have hl := e_entry (vs := [e_rv B (x0)]) (n := 3) (Nat.le_of_ble_eq_true rfl) (e_cc (e_rv_cat _ _) e_cn)
  rw [lg_entry_eq]
  generalize (lg_sl [e_rv B (x0)] ++ List.replicate (3 - (lg_sl [e_rv B (x0)]).length) Slot.unset).toArray = ls at hl ⊢
  generalize ([e_rv B (x0)] : List Value).toArray = args at hts E ⊢
  have hl : e_lo ls 3 [(0, e_rv B (x0))] := hl
  have hsh := (gd_some hsh).2
  refine e_aload_n (B := B) (x := x0) hx hb dX13_keepsSeek_0 rfl (hl.at 0 rfl) ?_
  obtain ⟨v1, h1, hsh⟩ := Option.bind_eq_some_iff.mp hsh
  refine e_getI (k := 55) hx hb hts in_X13 hown hp h1 rfl (by decide) (by decide) rfl (hts _ kf13_609) rfl dX13_keepsSeek_1 ?_
  refine lv_iconst (v := iI (1)) hx hb dX13_keepsSeek_4 rfl ?_
  refine e_isub hx hb dX13_keepsSeek_5 ?_
  refine e_aload_n (B := B) (x := x0) hx hb dX13_keepsSeek_6 rfl (hl.at 0 rfl) ?_
  obtain ⟨v7, h7, hsh⟩ := Option.bind_eq_some_iff.mp hsh
  refine e_getI (k := 64) hx hb hts in_X13 hown hp h7 rfl (by decide) (by decide) rfl (hts _ kf13_627) rfl dX13_keepsSeek_7 ?_
  refine e_isub hx hb dX13_keepsSeek_10 ?_
  refine e_istore_n (lv' := [(1, .int (iI (((v1 - 1) - v7)))), (0, e_rv B (x0))]) hx hb dX13_keepsSeek_11 rfl hl (by decide) rfl (fun ls hl => ?_)
  refine e_aload_n (B := B) (x := x0) hx hb dX13_keepsSeek_12 rfl (hl.at 1 rfl) ?_
  refine e_aload_n (B := B) (x := x0) hx hb dX13_keepsSeek_13 rfl (hl.at 1 rfl) ?_
  obtain ⟨v14, h14, hsh⟩ := Option.bind_eq_some_iff.mp hsh
  refine e_getI (k := 51) hx hb hts in_X13 hown hp h14 rfl (by decide) (by decide) rfl (hts _ kf13_324) rfl dX13_keepsSeek_14 ?_
  obtain ⟨S17, h17, hsh⟩ := Option.bind_eq_some_iff.mp hsh
  refine e_putI (k := 53) hx hb hts in_X13 tyX13 tyX13_ok nmX13 hown hp hS h17 rfl (by decide) (by decide) rfl (hts _ kf13_731) rfl rfl (by decide +kernel) dX13_keepsSeek_17 (fun H locs hp hS => ?_)
  refine lv_iconst (v := iI (0)) hx hb dX13_keepsSeek_20 rfl ?_
  refine e_istore_n (lv' := [(2, .int (iI (0))), (1, .int (iI (((v1 - 1) - v7)))), (0, e_rv B (x0))]) hx hb dX13_keepsSeek_21 rfl hl (by decide) rfl (fun ls hl => ?_)
  exact w13_keepsSeek_l22 E 1000000 hp hS (hl.sub [2, 1, 0] rfl) hsh
theorem ok13_restoresSeek {S : HP} {x0 : Int} {r : HP} (h : s13_restoresSeek S x0 = some r) : 0 ≤ x0 ∧ x0.toNat < e_n S ∧ e_g S x0.toNat = 13 := (gd_some h).1
set_option maxRecDepth 100000 in
set_option maxHeartbeats 4000000 in
theorem w13_restoresSeek_l10 {p : Program} {l : Launch} {e : Env} {s : State} {m : MethodId} {args : Array Value} {below : List Frame} {meth : Method} {c : Code} {D : va_G} {cA : Nat → ClassId} {B : Nat} {res : HP} (E : e_En p s m args meth c cX13_restoresSeek RX13 2 none) : ∀ (f : Nat) {ls : Array Slot} {H : Heap} {locs : List Loc} {S : HP} {x0 : Int} {x1 : Int} (hp : e_Pic D cA B S s H) (hS : va_S (e_A B) s.heap H locs) (hl : e_lo ls 2 [(0, e_rv B (x0)), (1, .int (iI (x1)))]) (hsh : s13_restoresSeek_l10 f S x0 x1 = some res), W p l e ({ frames := 0, cells := 0, slots := 0, locals := 0 } : Room) s m args below meth c H locs 0 0 (MQ below (e_Qv D cA B res) args s 0 0 (e_A B)) (F0 m 10 ls []) := by
  obtain ⟨hx, hb, hml, hown, hts, hlk, hrt⟩ := id E
  intro f
  induction f with
  | zero => intro ls H locs S x0 x1 hp hS hl hsh; cases hsh
  | succ f ih =>
    intro ls H locs S x0 x1 hp hS hl hsh
    have hk10 : ∀ {ls : Array Slot} {H : Heap} {locs : List Loc} {S : HP} {x0 : Int} {x1 : Int} (hp : e_Pic D cA B S s H) (hS : va_S (e_A B) s.heap H locs) (hl : e_lo ls 2 [(0, e_rv B (x0)), (1, .int (iI (x1)))]) (hsh : (s13_restoresSeek_l10 f) S x0 x1 = some res), W p l e ({ frames := 0, cells := 0, slots := 0, locals := 0 } : Room) s m args below meth c H locs 0 0 (MQ below (e_Qv D cA B res) args s 0 0 (e_A B)) (F0 m 10 ls []) := ih
    generalize hkk : s13_restoresSeek_l10 f = k10 at hk10
    rw [s13_restoresSeek_l10] at hsh
    rw [hkk] at hsh
    try dsimp only at hsh
    refine lv_iload_n hx hb dX13_restoresSeek_10 rfl (hl.at 1 rfl) ?_
    refine lv_bipush (v := iI (61)) hx hb dX13_restoresSeek_11 (by decide +kernel) ?_
    refine e_icmp_ge (tgt := 34) hx hb dX13_restoresSeek_13 (by decide) (fun c13 => ?_) (fun c13 => ?_)
    · rw [if_pos c13] at hsh
      cases hsh
      exact e_vret hx hb hrt hlk hp hS dX13_restoresSeek_34
    · rw [if_neg c13] at hsh
      refine e_aload_n (B := B) (x := x0) hx hb dX13_restoresSeek_16 rfl (hl.at 0 rfl) ?_
      obtain ⟨v17, h17, hsh⟩ := Option.bind_eq_some_iff.mp hsh
      refine e_getR (k := 52) hx hb hts in_X13 hown hp h17 rfl (by decide) (by decide) rfl (hts _ kf13_89) rfl dX13_restoresSeek_17 ?_
      refine lv_iload_n hx hb dX13_restoresSeek_20 rfl (hl.at 1 rfl) ?_
      refine e_aload_n (B := B) (x := x0) hx hb dX13_restoresSeek_21 rfl (hl.at 0 rfl) ?_
      obtain ⟨v22, h22, hsh⟩ := Option.bind_eq_some_iff.mp hsh
      refine e_getR (k := 54) hx hb hts in_X13 hown hp h22 rfl (by decide) (by decide) rfl (hts _ kf13_92) rfl dX13_restoresSeek_22 ?_
      refine lv_iload_n hx hb dX13_restoresSeek_25 rfl (hl.at 1 rfl) ?_
      obtain ⟨v26, h26, hsh⟩ := Option.bind_eq_some_iff.mp hsh
      refine e_iald hx hb hp h26 dX13_restoresSeek_26 ?_
      obtain ⟨S27, h27, hsh⟩ := Option.bind_eq_some_iff.mp hsh
      refine e_iast hx hb hp hS h27 dX13_restoresSeek_27 (fun H locs hp hS => ?_)
      refine e_iinc (n := 1) (x := x1) (lv' := [(1, .int (iI ((x1 + 1)))), (0, e_rv B (x0))]) hx hb dX13_restoresSeek_28 hl (k := 1) rfl (by decide) rfl (fun ls hl => ?_)
      refine lv_goto (tgt := 10) hx hb dX13_restoresSeek_31 (by decide) ?_
      exact hk10 hp hS (hl.sub [1, 0] rfl) hsh
set_option maxRecDepth 100000 in
set_option maxHeartbeats 4000000 in
theorem c13_restoresSeek (l : Launch) (D : va_G) (cA : Nat → ClassId) (B : Nat) (S S' : HP) (x0 : Int) (hsh : s13_restoresSeek S x0 = some S') : Met l yX13_restoresSeek (e_wu yX13_restoresSeek cX13_restoresSeek 2 none) ({ frames := 0, cells := 0, slots := 0, locals := 0 } : Room) (va_Pc [e_rv B (x0)] (fun U => e_PU D cA B S U)) (e_Qv D cA B S') 0 0 (e_A B) := by
  refine Met.ofW (cc := cX13_restoresSeek) (maxL := 2) (ret := none) (by decide +kernel) rfl ?_
  intro p e s m args below meth c s₁ Bd hml hv
  obtain ⟨rfl, hp⟩ := hv
  have hp : e_Pic D cA B S s s.heap := hp
  have hx := Bd.exec
  have hb := Bd.bytes
  have hrt := Bd.returns
  have hlk := Bd.notSynchronized
  have hown : s.vm.findClass RX13 = some m.cls := findClass_of_methodNamed Bd.named
  have hts : ∀ w ∈ e_tb, w.before ([e_rv B (x0)] : List Value).toArray s = true := fun w h => atoms_spec (ws := (e_wu yX13_restoresSeek cX13_restoresSeek 2 none)) Bd.pre w (List.mem_cons_of_mem _ h)
  have E : e_En p s m ([e_rv B (x0)] : List Value).toArray meth c cX13_restoresSeek RX13 2 none := ⟨hx, hb, hml, hown, hts, hlk, hrt⟩
  have hS : va_S (e_A B) s.heap s.heap [] := va_S.rf
  have hl := e_entry (vs := [e_rv B (x0)]) (n := 2) (Nat.le_of_ble_eq_true rfl) (e_cc (e_rv_cat _ _) e_cn)
  rw [lg_entry_eq]
  generalize (lg_sl [e_rv B (x0)] ++ List.replicate (2 - (lg_sl [e_rv B (x0)]).length) Slot.unset).toArray = ls at hl ⊢
  generalize ([e_rv B (x0)] : List Value).toArray = args at hts E ⊢
  have hl : e_lo ls 2 [(0, e_rv B (x0))] := hl
  have hsh := (gd_some hsh).2
  refine e_aload_n (B := B) (x := x0) hx hb dX13_restoresSeek_0 rfl (hl.at 0 rfl) ?_
  refine e_aload_n (B := B) (x := x0) hx hb dX13_restoresSeek_1 rfl (hl.at 0 rfl) ?_
  obtain ⟨v2, h2, hsh⟩ := Option.bind_eq_some_iff.mp hsh
  refine e_getI (k := 53) hx hb hts in_X13 hown hp h2 rfl (by decide) (by decide) rfl (hts _ kf13_731) rfl dX13_restoresSeek_2 ?_
  obtain ⟨S5, h5, hsh⟩ := Option.bind_eq_some_iff.mp hsh
  refine e_putI (k := 51) hx hb hts in_X13 tyX13 tyX13_ok nmX13 hown hp hS h5 rfl (by decide) (by decide) rfl (hts _ kf13_324) rfl rfl (by decide +kernel) dX13_restoresSeek_5 (fun H locs hp hS => ?_)
  refine lv_iconst (v := iI (0)) hx hb dX13_restoresSeek_8 rfl ?_
  refine e_istore_n (lv' := [(1, .int (iI (0))), (0, e_rv B (x0))]) hx hb dX13_restoresSeek_9 rfl hl (by decide) rfl (fun ls hl => ?_)
  exact w13_restoresSeek_l10 E 1000000 hp hS (hl.sub [1, 0] rfl) hsh
theorem ok13_goesMotion {S : HP} {x0 : Int} {x1 : Int} {x2 : Int} {r : Int × HP} (h : s13_goesMotion S x0 x1 x2 = some r) : 0 ≤ x0 ∧ x0.toNat < e_n S ∧ e_g S x0.toNat = 13 := (gd_some h).1
set_option maxRecDepth 100000 in
set_option maxHeartbeats 4000000 in
theorem w13_goesMotion_b127 {p : Program} {l : Launch} {e : Env} {s : State} {m : MethodId} {args : Array Value} {below : List Frame} {meth : Method} {c : Code} {D : va_G} {cA : Nat → ClassId} {B : Nat} {res : Int × HP} (E : e_En p s m args meth c cX13_goesMotion RX13 5 (some .boolean)) {ls : Array Slot} {H : Heap} {locs : List Loc} {S : HP} (hp : e_Pic D cA B S s H) (hS : va_S (e_A B) s.heap H locs) (hl : e_lo ls 5 []) (hsh : s13_goesMotion_b127 S  = some res) : W p l e ({ frames := 7, cells := 0, slots := 0, locals := 163 } : Room) s m args below meth c H locs 0 0 (MQ below (e_Qi D cA B res.1 res.2) args s 0 0 (e_A B)) (F0 m 127 ls []) := by
  obtain ⟨hx, hb, hml, hown, hts, hlk, hrt⟩ := id E
  unfold s13_goesMotion_b127 at hsh
  refine lv_iconst (v := iI (1)) hx hb dX13_goesMotion_127 rfl ?_
  obtain ⟨hz, hz1, hz2⟩ := zR_some hsh
  rw [← hz1, ← hz2]
  exact e_zret hx hb hrt hlk hp hS hz dX13_goesMotion_128
set_option maxRecDepth 100000 in
set_option maxHeartbeats 4000000 in
theorem w13_goesMotion_b92 {p : Program} {l : Launch} {e : Env} {s : State} {m : MethodId} {args : Array Value} {below : List Frame} {meth : Method} {c : Code} {D : va_G} {cA : Nat → ClassId} {B : Nat} {res : Int × HP} (E : e_En p s m args meth c cX13_goesMotion RX13 5 (some .boolean)) {ls : Array Slot} {H : Heap} {locs : List Loc} {S : HP} {x0 : Int} {x3 : Int} {x4 : Int} {y0 : Int} {y1 : Int} (hp : e_Pic D cA B S s H) (hS : va_S (e_A B) s.heap H locs) (hl : e_lo ls 5 [(0, e_rv B (x0)), (3, .int (iI (x3))), (4, .int (iI (x4)))]) (hsh : s13_goesMotion_b92 S x0 x3 x4 y0 y1 = some res) : W p l e ({ frames := 7, cells := 0, slots := 0, locals := 163 } : Room) s m args below meth c H locs 0 0 (MQ below (e_Qi D cA B res.1 res.2) args s 0 0 (e_A B)) (F0 m 92 ls [.int (iI (y1)), e_rv B (y0)]) := by
  obtain ⟨hx, hb, hml, hown, hts, hlk, hrt⟩ := id E
  unfold s13_goesMotion_b92 at hsh
  obtain ⟨S92, h92, hsh⟩ := Option.bind_eq_some_iff.mp hsh
  refine e_putI (k := 7) hx hb hts in_X13 tyX13 tyX13_ok nmX13 hown hp hS h92 rfl (by decide) (by decide) rfl (hts _ kf13_219) rfl rfl (by decide +kernel) dX13_goesMotion_92 (fun H locs hp hS => ?_)
  refine e_aload_n (B := B) (x := x0) hx hb dX13_goesMotion_95 rfl (hl.at 0 rfl) ?_
  obtain ⟨v96, h96, hsh⟩ := Option.bind_eq_some_iff.mp hsh
  refine e_getI (k := 8) hx hb hts in_X13 hown hp h96 rfl (by decide) (by decide) rfl (hts _ kf13_466) rfl dX13_goesMotion_96 ?_
  refine e_if_ne (tgt := 127) hx hb dX13_goesMotion_99 (by decide) (fun c99 => ?_) (fun c99 => ?_)
  · rw [if_neg c99] at hsh
    exact w13_goesMotion_b127 E hp hS (hl.sub [] rfl) hsh
  · rw [if_pos c99] at hsh
    refine e_aload_n (B := B) (x := x0) hx hb dX13_goesMotion_102 rfl (hl.at 0 rfl) ?_
    refine e_aload_n (B := B) (x := x0) hx hb dX13_goesMotion_103 rfl (hl.at 0 rfl) ?_
    obtain ⟨v104, h104, hsh⟩ := Option.bind_eq_some_iff.mp hsh
    refine e_getI (k := 62) hx hb hts in_X13 hown hp h104 rfl (by decide) (by decide) rfl (hts _ kf13_615) rfl dX13_goesMotion_104 ?_
    obtain ⟨⟨v107, S107⟩, h107, hsh⟩ := Option.bind_eq_some_iff.mp hsh
    have hsh : _ = _ := hsh
    try dsimp only at hsh
    have ok107 := ok13_isFar h107
    refine e_callI (nL := 5) (mc := 0) (ms := 0) (T := TX13) (N := 126) (As := [.int (iI (v104))]) (rest := []) hx hb hml hown hts hp hS hl.size ok107.1 ok107.2.1 ok107.2.2 rfl (by decide) (c13_isFar l D cA B S92 S107 (x0) (v104) v107 h107) rfl rfl kd13_isFar (kl13_734) ks13_isFar kv13_isFar ki13 kh13_isFar ⟨Nat.le_of_ble_eq_true rfl, Nat.le_of_ble_eq_true rfl⟩ rfl (by simp [e_rv_cat, e_int_cat]) ⟨Nat.le_refl _, Nat.le_refl _⟩ dX13_goesMotion_107 rfl (fun H locs hp hS => ?_)
    refine e_if_eq (tgt := 127) hx hb dX13_goesMotion_110 (by decide) (fun c110 => ?_) (fun c110 => ?_)
    · rw [if_pos c110] at hsh
      exact w13_goesMotion_b127 E hp hS (hl.sub [] rfl) hsh
    · rw [if_neg c110] at hsh
      refine e_aload_n (B := B) (x := x0) hx hb dX13_goesMotion_113 rfl (hl.at 0 rfl) ?_
      obtain ⟨⟨v114, S114⟩, h114, hsh⟩ := Option.bind_eq_some_iff.mp hsh
      have hsh : _ = _ := hsh
      try dsimp only at hsh
      have ok114 := ok13_isServing h114
      refine e_callI (nL := 5) (mc := 0) (ms := 0) (T := TX13) (N := 126) (As := []) (rest := []) hx hb hml hown hts hp hS hl.size ok114.1 ok114.2.1 ok114.2.2 rfl (by decide) (c13_isServing l D cA B S107 S114 (x0) v114 h114) rfl rfl kd13_isServing (kl13_247) ks13_isServing kv13_isServing ki13 kh13_isServing ⟨Nat.le_of_ble_eq_true rfl, Nat.le_of_ble_eq_true rfl⟩ rfl (by simp [e_rv_cat, e_int_cat]) ⟨Nat.le_refl _, Nat.le_refl _⟩ dX13_goesMotion_114 rfl (fun H locs hp hS => ?_)
      refine e_if_ne (tgt := 127) hx hb dX13_goesMotion_117 (by decide) (fun c117 => ?_) (fun c117 => ?_)
      · rw [if_neg c117] at hsh
        exact w13_goesMotion_b127 E hp hS (hl.sub [] rfl) hsh
      · rw [if_pos c117] at hsh
        refine e_aload_n (B := B) (x := x0) hx hb dX13_goesMotion_120 rfl (hl.at 0 rfl) ?_
        refine lv_iload_n hx hb dX13_goesMotion_121 rfl (hl.at 1 rfl) ?_
        refine lv_iload hx hb dX13_goesMotion_122 (hl.at 2 rfl) ?_
        obtain ⟨S124, h124, hsh⟩ := Option.bind_eq_some_iff.mp hsh
        have ok124 := ok13_keepsJump h124
        refine e_callV (nL := 5) (mc := 0) (ms := 0) (T := TX13) (N := 126) (As := [.int (iI (x3)), .int (iI (x4))]) (rest := []) hx hb hml hown hts hp hS hl.size ok124.1 ok124.2.1 ok124.2.2 rfl (by decide) (c13_keepsJump l D cA B S114 S124 (x0) (x3) (x4) h124) rfl rfl kd13_keepsJump (kl13_590) ks13_keepsJump kv13_keepsJump ki13 kh13_keepsJump ⟨Nat.le_of_ble_eq_true rfl, Nat.le_of_ble_eq_true rfl⟩ rfl (by simp [e_rv_cat, e_int_cat]) ⟨Nat.le_refl _, Nat.le_refl _⟩ dX13_goesMotion_124 rfl (fun H locs hp hS => ?_)
        exact w13_goesMotion_b127 E hp hS (hl.sub [] rfl) hsh
set_option maxRecDepth 100000 in
set_option maxHeartbeats 4000000 in
theorem w13_goesMotion_b66 {p : Program} {l : Launch} {e : Env} {s : State} {m : MethodId} {args : Array Value} {below : List Frame} {meth : Method} {c : Code} {D : va_G} {cA : Nat → ClassId} {B : Nat} {res : Int × HP} (E : e_En p s m args meth c cX13_goesMotion RX13 5 (some .boolean)) {ls : Array Slot} {H : Heap} {locs : List Loc} {S : HP} {x0 : Int} {x3 : Int} {x4 : Int} {y0 : Int} (hp : e_Pic D cA B S s H) (hS : va_S (e_A B) s.heap H locs) (hl : e_lo ls 5 [(0, e_rv B (x0)), (3, .int (iI (x3))), (4, .int (iI (x4)))]) (hsh : s13_goesMotion_b66 S x0 x3 x4 y0 = some res) : W p l e ({ frames := 7, cells := 0, slots := 0, locals := 163 } : Room) s m args below meth c H locs 0 0 (MQ below (e_Qi D cA B res.1 res.2) args s 0 0 (e_A B)) (F0 m 66 ls [e_rv B (y0)]) := by
  obtain ⟨hx, hb, hml, hown, hts, hlk, hrt⟩ := id E
  unfold s13_goesMotion_b66 at hsh
  refine e_aload_n (B := B) (x := x0) hx hb dX13_goesMotion_66 rfl (hl.at 0 rfl) ?_
  obtain ⟨v67, h67, hsh⟩ := Option.bind_eq_some_iff.mp hsh
  refine e_getI (k := 7) hx hb hts in_X13 hown hp h67 rfl (by decide) (by decide) rfl (hts _ kf13_219) rfl dX13_goesMotion_67 ?_
  refine lv_goto (tgt := 92) hx hb dX13_goesMotion_70 (by decide) ?_
  exact w13_goesMotion_b92 E hp hS (hl.sub [0, 1, 2] rfl) hsh
set_option maxRecDepth 100000 in
set_option maxHeartbeats 4000000 in
theorem c13_goesMotion (l : Launch) (D : va_G) (cA : Nat → ClassId) (B : Nat) (S S' : HP) (x0 : Int) (x1 : Int) (x2 : Int) (r : Int) (hsh : s13_goesMotion S x0 x1 x2 = some (r, S')) : Met l yX13_goesMotion (e_wu yX13_goesMotion cX13_goesMotion 5 (some .boolean)) ({ frames := 7, cells := 0, slots := 0, locals := 163 } : Room) (va_Pc [e_rv B (x0), .int (iI (x1)), .int (iI (x2))] (fun U => e_PU D cA B S U)) (e_Qi D cA B r S') 0 0 (e_A B) := by
  refine Met.ofW (cc := cX13_goesMotion) (maxL := 5) (ret := (some .boolean)) (by decide +kernel) rfl ?_
  intro p e s m args below meth c s₁ Bd hml hv
  obtain ⟨rfl, hp⟩ := hv
  have hp : e_Pic D cA B S s s.heap := hp
  have hx := Bd.exec
  have hb := Bd.bytes
  have hrt := Bd.returns
  have hlk := Bd.notSynchronized
  have hown : s.vm.findClass RX13 = some m.cls := findClass_of_methodNamed Bd.named
  have hts : ∀ w ∈ e_tb, w.before ([e_rv B (x0), .int (iI (x1)), .int (iI (x2))] : List Value).toArray s = true := fun w h => atoms_spec (ws := (e_wu yX13_goesMotion cX13_goesMotion 5 (some .boolean))) Bd.pre w (List.mem_cons_of_mem _ h)
  have E : e_En p s m ([e_rv B (x0), .int (iI (x1)), .int (iI (x2))] : List Value).toArray meth c cX13_goesMotion RX13 5 (some .boolean) := ⟨hx, hb, hml, hown, hts, hlk, hrt⟩
  have hS : va_S (e_A B) s.heap s.heap [] := va_S.rf
  have hl := e_entry (vs := [e_rv B (x0), .int (iI (x1)), .int (iI (x2))]) (n := 5) (Nat.le_of_ble_eq_true rfl) (e_cc (e_rv_cat _ _) (e_cc rfl (e_cc rfl e_cn)))
  rw [lg_entry_eq]
  generalize (lg_sl [e_rv B (x0), .int (iI (x1)), .int (iI (x2))] ++ List.replicate (5 - (lg_sl [e_rv B (x0), .int (iI (x1)), .int (iI (x2))]).length) Slot.unset).toArray = ls at hl ⊢
  generalize ([e_rv B (x0), .int (iI (x1)), .int (iI (x2))] : List Value).toArray = args at hts E ⊢
  have hl : e_lo ls 5 [(0, e_rv B (x0)), (1, .int (iI (x1))), (2, .int (iI (x2)))] := hl
  have hsh := (gd_some hsh).2
  refine e_aload_n (B := B) (x := x0) hx hb dX13_goesMotion_0 rfl (hl.at 0 rfl) ?_
  obtain ⟨v1, h1, hsh⟩ := Option.bind_eq_some_iff.mp hsh
  refine e_getI (k := 5) hx hb hts in_X13 hown hp h1 rfl (by decide) (by decide) rfl (hts _ kf13_213) rfl dX13_goesMotion_1 ?_
  refine e_istore_n (lv' := [(3, .int (iI (v1))), (0, e_rv B (x0)), (1, .int (iI (x1))), (2, .int (iI (x2)))]) hx hb dX13_goesMotion_4 rfl hl (by decide) rfl (fun ls hl => ?_)
  refine e_aload_n (B := B) (x := x0) hx hb dX13_goesMotion_5 rfl (hl.at 1 rfl) ?_
  obtain ⟨v6, h6, hsh⟩ := Option.bind_eq_some_iff.mp hsh
  refine e_getI (k := 6) hx hb hts in_X13 hown hp h6 rfl (by decide) (by decide) rfl (hts _ kf13_216) rfl dX13_goesMotion_6 ?_
  refine e_istore (lv' := [(4, .int (iI (v6))), (3, .int (iI (v1))), (0, e_rv B (x0)), (1, .int (iI (x1))), (2, .int (iI (x2)))]) hx hb dX13_goesMotion_9 hl (by decide) rfl (fun ls hl => ?_)
  refine e_aload_n (B := B) (x := x0) hx hb dX13_goesMotion_11 rfl (hl.at 2 rfl) ?_
  refine e_aload_n (B := B) (x := x0) hx hb dX13_goesMotion_12 rfl (hl.at 2 rfl) ?_
  obtain ⟨v13, h13, hsh⟩ := Option.bind_eq_some_iff.mp hsh
  refine e_getI (k := 62) hx hb hts in_X13 hown hp h13 rfl (by decide) (by decide) rfl (hts _ kf13_615) rfl dX13_goesMotion_13 ?_
  refine e_aload_n (B := B) (x := x0) hx hb dX13_goesMotion_16 rfl (hl.at 2 rfl) ?_
  obtain ⟨v17, h17, hsh⟩ := Option.bind_eq_some_iff.mp hsh
  refine e_getI (k := 63) hx hb hts in_X13 hown hp h17 rfl (by decide) (by decide) rfl (hts _ kf13_612) rfl dX13_goesMotion_17 ?_
  refine lv_iload_n hx hb dX13_goesMotion_20 rfl (hl.at 3 rfl) ?_
  refine lv_iload_n hx hb dX13_goesMotion_21 rfl (hl.at 4 rfl) ?_
  refine lv_iconst (v := iI (0)) hx hb dX13_goesMotion_22 rfl ?_
  obtain ⟨⟨v23, S23⟩, h23, hsh⟩ := Option.bind_eq_some_iff.mp hsh
  have hsh : _ = _ := hsh
  try dsimp only at hsh
  have ok23 := ok13_moves h23
  refine e_callI (nL := 5) (mc := 0) (ms := 0) (T := TX13) (N := 126) (As := [.int (iI (v13)), .int (iI (v17)), .int (iI (x1)), .int (iI (x2)), .int (iI (0))]) (rest := []) hx hb hml hown hts hp hS hl.size ok23.1 ok23.2.1 ok23.2.2 rfl (by decide) (c13_moves l D cA B S S23 (x0) (v13) (v17) (x1) (x2) (0) v23 h23) rfl rfl kd13_moves (kl13_541) ks13_moves kv13_moves ki13 kh13_moves ⟨Nat.le_of_ble_eq_true rfl, Nat.le_of_ble_eq_true rfl⟩ rfl (by simp [e_rv_cat, e_int_cat]) ⟨Nat.le_refl _, Nat.le_refl _⟩ dX13_goesMotion_23 rfl (fun H locs hp hS => ?_)
  refine e_if_ne (tgt := 31) hx hb dX13_goesMotion_26 (by decide) (fun c26 => ?_) (fun c26 => ?_)
  · rw [if_neg c26] at hsh
    refine e_aload_n (B := B) (x := x0) hx hb dX13_goesMotion_31 rfl (hl.at 2 rfl) ?_
    refine e_aload_n (B := B) (x := x0) hx hb dX13_goesMotion_32 rfl (hl.at 2 rfl) ?_
    obtain ⟨v33, h33, hsh⟩ := Option.bind_eq_some_iff.mp hsh
    refine e_getI (k := 46) hx hb hts in_X13 hown hp h33 rfl (by decide) (by decide) rfl (hts _ kf13_296) rfl dX13_goesMotion_33 ?_
    obtain ⟨S36, h36, hsh⟩ := Option.bind_eq_some_iff.mp hsh
    refine e_putI (k := 5) hx hb hts in_X13 tyX13 tyX13_ok nmX13 hown hp hS h36 rfl (by decide) (by decide) rfl (hts _ kf13_213) rfl rfl (by decide +kernel) dX13_goesMotion_36 (fun H locs hp hS => ?_)
    refine e_aload_n (B := B) (x := x0) hx hb dX13_goesMotion_39 rfl (hl.at 2 rfl) ?_
    refine e_aload_n (B := B) (x := x0) hx hb dX13_goesMotion_40 rfl (hl.at 2 rfl) ?_
    obtain ⟨v41, h41, hsh⟩ := Option.bind_eq_some_iff.mp hsh
    refine e_getI (k := 47) hx hb hts in_X13 hown hp h41 rfl (by decide) (by decide) rfl (hts _ kf13_299) rfl dX13_goesMotion_41 ?_
    obtain ⟨S44, h44, hsh⟩ := Option.bind_eq_some_iff.mp hsh
    refine e_putI (k := 6) hx hb hts in_X13 tyX13 tyX13_ok nmX13 hown hp hS h44 rfl (by decide) (by decide) rfl (hts _ kf13_216) rfl rfl (by decide +kernel) dX13_goesMotion_44 (fun H locs hp hS => ?_)
    refine e_aload_n (B := B) (x := x0) hx hb dX13_goesMotion_47 rfl (hl.at 2 rfl) ?_
    refine e_aload_n (B := B) (x := x0) hx hb dX13_goesMotion_48 rfl (hl.at 2 rfl) ?_
    obtain ⟨v49, h49, hsh⟩ := Option.bind_eq_some_iff.mp hsh
    refine e_getI (k := 62) hx hb hts in_X13 hown hp h49 rfl (by decide) (by decide) rfl (hts _ kf13_615) rfl dX13_goesMotion_49 ?_
    refine lv_bipush (v := iI (106)) hx hb dX13_goesMotion_52 (by decide +kernel) ?_
    refine e_icmp_eq (tgt := 66) hx hb dX13_goesMotion_54 (by decide) (fun c54 => ?_) (fun c54 => ?_)
    · rw [if_pos c54] at hsh
      exact w13_goesMotion_b66 E hp hS (hl.sub [2, 1, 0] rfl) hsh
    · rw [if_neg c54] at hsh
      refine e_aload_n (B := B) (x := x0) hx hb dX13_goesMotion_57 rfl (hl.at 2 rfl) ?_
      obtain ⟨v58, h58, hsh⟩ := Option.bind_eq_some_iff.mp hsh
      refine e_getI (k := 62) hx hb hts in_X13 hown hp h58 rfl (by decide) (by decide) rfl (hts _ kf13_615) rfl dX13_goesMotion_58 ?_
      refine lv_bipush (v := iI (107)) hx hb dX13_goesMotion_61 (by decide +kernel) ?_
      refine e_icmp_ne (tgt := 73) hx hb dX13_goesMotion_63 (by decide) (fun c63 => ?_) (fun c63 => ?_)
      · rw [if_neg c63] at hsh
        refine e_aload_n (B := B) (x := x0) hx hb dX13_goesMotion_73 rfl (hl.at 2 rfl) ?_
        obtain ⟨v74, h74, hsh⟩ := Option.bind_eq_some_iff.mp hsh
        refine e_getI (k := 62) hx hb hts in_X13 hown hp h74 rfl (by decide) (by decide) rfl (hts _ kf13_615) rfl dX13_goesMotion_74 ?_
        refine lv_bipush (v := iI (36)) hx hb dX13_goesMotion_77 (by decide +kernel) ?_
        refine e_icmp_ne (tgt := 88) hx hb dX13_goesMotion_79 (by decide) (fun c79 => ?_) (fun c79 => ?_)
        · rw [if_neg c79] at hsh
          refine e_aload_n (B := B) (x := x0) hx hb dX13_goesMotion_88 rfl (hl.at 2 rfl) ?_
          obtain ⟨v89, h89, hsh⟩ := Option.bind_eq_some_iff.mp hsh
          refine e_getI (k := 6) hx hb hts in_X13 hown hp h89 rfl (by decide) (by decide) rfl (hts _ kf13_216) rfl dX13_goesMotion_89 ?_
          exact w13_goesMotion_b92 E hp hS (hl.sub [2, 1, 0] rfl) hsh
        · rw [if_pos c79] at hsh
          refine lv_sipush (v := iI (1000)) hx hb dX13_goesMotion_82 (by decide +kernel) ?_
          refine lv_goto (tgt := 92) hx hb dX13_goesMotion_85 (by decide) ?_
          exact w13_goesMotion_b92 E hp hS (hl.sub [2, 1, 0] rfl) hsh
      · rw [if_pos c63] at hsh
        exact w13_goesMotion_b66 E hp hS (hl.sub [2, 1, 0] rfl) hsh
  · rw [if_pos c26] at hsh
    refine lv_iconst (v := iI (0)) hx hb dX13_goesMotion_29 rfl ?_
    obtain ⟨hz, hz1, hz2⟩ := zR_some hsh
    rw [← hz1, ← hz2]
    exact e_zret hx hb hrt hlk hp hS hz dX13_goesMotion_30
theorem ok13_selects {S : HP} {x0 : Int} {x1 : Int} {r : Int × HP} (h : s13_selects S x0 x1 = some r) : 0 ≤ x0 ∧ x0.toNat < e_n S ∧ e_g S x0.toNat = 13 := (gd_some h).1
set_option maxRecDepth 100000 in
set_option maxHeartbeats 4000000 in
theorem w13_selects_b22 {p : Program} {l : Launch} {e : Env} {s : State} {m : MethodId} {args : Array Value} {below : List Frame} {meth : Method} {c : Code} {D : va_G} {cA : Nat → ClassId} {B : Nat} {res : Int × HP} (E : e_En p s m args meth c cX13_selects RX13 2 (some .boolean)) {ls : Array Slot} {H : Heap} {locs : List Loc} {S : HP} {x0 : Int} {y0 : Int} {y1 : Int} (hp : e_Pic D cA B S s H) (hS : va_S (e_A B) s.heap H locs) (hl : e_lo ls 2 [(0, e_rv B (x0))]) (hsh : s13_selects_b22 S x0 y0 y1 = some res) : W p l e ({ frames := 0, cells := 0, slots := 0, locals := 0 } : Room) s m args below meth c H locs 0 0 (MQ below (e_Qi D cA B res.1 res.2) args s 0 0 (e_A B)) (F0 m 22 ls [.int (iI (y1)), e_rv B (y0)]) := by
  obtain ⟨hx, hb, hml, hown, hts, hlk, hrt⟩ := id E
  unfold s13_selects_b22 at hsh
  obtain ⟨S22, h22, hsh⟩ := Option.bind_eq_some_iff.mp hsh
  refine e_putI (k := 8) hx hb hts in_X13 tyX13 tyX13_ok nmX13 hown hp hS h22 rfl (by decide) (by decide) rfl (hts _ kf13_466) rfl rfl (by decide +kernel) dX13_selects_22 (fun H locs hp hS => ?_)
  refine e_aload_n (B := B) (x := x0) hx hb dX13_selects_25 rfl (hl.at 0 rfl) ?_
  refine e_aload_n (B := B) (x := x0) hx hb dX13_selects_26 rfl (hl.at 0 rfl) ?_
  obtain ⟨v27, h27, hsh⟩ := Option.bind_eq_some_iff.mp hsh
  refine e_getI (k := 5) hx hb hts in_X13 hown hp h27 rfl (by decide) (by decide) rfl (hts _ kf13_213) rfl dX13_selects_27 ?_
  obtain ⟨S30, h30, hsh⟩ := Option.bind_eq_some_iff.mp hsh
  refine e_putI (k := 9) hx hb hts in_X13 tyX13 tyX13_ok nmX13 hown hp hS h30 rfl (by decide) (by decide) rfl (hts _ kf13_748) rfl rfl (by decide +kernel) dX13_selects_30 (fun H locs hp hS => ?_)
  refine e_aload_n (B := B) (x := x0) hx hb dX13_selects_33 rfl (hl.at 0 rfl) ?_
  refine e_aload_n (B := B) (x := x0) hx hb dX13_selects_34 rfl (hl.at 0 rfl) ?_
  obtain ⟨v35, h35, hsh⟩ := Option.bind_eq_some_iff.mp hsh
  refine e_getI (k := 6) hx hb hts in_X13 hown hp h35 rfl (by decide) (by decide) rfl (hts _ kf13_216) rfl dX13_selects_35 ?_
  obtain ⟨S38, h38, hsh⟩ := Option.bind_eq_some_iff.mp hsh
  refine e_putI (k := 10) hx hb hts in_X13 tyX13 tyX13_ok nmX13 hown hp hS h38 rfl (by decide) (by decide) rfl (hts _ kf13_751) rfl rfl (by decide +kernel) dX13_selects_38 (fun H locs hp hS => ?_)
  refine lv_iconst (v := iI (1)) hx hb dX13_selects_41 rfl ?_
  obtain ⟨hz, hz1, hz2⟩ := zR_some hsh
  rw [← hz1, ← hz2]
  exact e_zret hx hb hrt hlk hp hS hz dX13_selects_42
set_option maxRecDepth 100000 in
set_option maxHeartbeats 4000000 in
theorem c13_selects (l : Launch) (D : va_G) (cA : Nat → ClassId) (B : Nat) (S S' : HP) (x0 : Int) (x1 : Int) (r : Int) (hsh : s13_selects S x0 x1 = some (r, S')) : Met l yX13_selects (e_wu yX13_selects cX13_selects 2 (some .boolean)) ({ frames := 0, cells := 0, slots := 0, locals := 0 } : Room) (va_Pc [e_rv B (x0), .int (iI (x1))] (fun U => e_PU D cA B S U)) (e_Qi D cA B r S') 0 0 (e_A B) := by
  refine Met.ofW (cc := cX13_selects) (maxL := 2) (ret := (some .boolean)) (by decide +kernel) rfl ?_
  intro p e s m args below meth c s₁ Bd hml hv
  obtain ⟨rfl, hp⟩ := hv
  have hp : e_Pic D cA B S s s.heap := hp
  have hx := Bd.exec
  have hb := Bd.bytes
  have hrt := Bd.returns
  have hlk := Bd.notSynchronized
  have hown : s.vm.findClass RX13 = some m.cls := findClass_of_methodNamed Bd.named
  have hts : ∀ w ∈ e_tb, w.before ([e_rv B (x0), .int (iI (x1))] : List Value).toArray s = true := fun w h => atoms_spec (ws := (e_wu yX13_selects cX13_selects 2 (some .boolean))) Bd.pre w (List.mem_cons_of_mem _ h)
  have E : e_En p s m ([e_rv B (x0), .int (iI (x1))] : List Value).toArray meth c cX13_selects RX13 2 (some .boolean) := ⟨hx, hb, hml, hown, hts, hlk, hrt⟩
  have hS : va_S (e_A B) s.heap s.heap [] := va_S.rf
  have hl := e_entry (vs := [e_rv B (x0), .int (iI (x1))]) (n := 2) (Nat.le_of_ble_eq_true rfl) (e_cc (e_rv_cat _ _) (e_cc rfl e_cn))
  rw [lg_entry_eq]
  generalize (lg_sl [e_rv B (x0), .int (iI (x1))] ++ List.replicate (2 - (lg_sl [e_rv B (x0), .int (iI (x1))]).length) Slot.unset).toArray = ls at hl ⊢
  generalize ([e_rv B (x0), .int (iI (x1))] : List Value).toArray = args at hts E ⊢
  have hl : e_lo ls 2 [(0, e_rv B (x0)), (1, .int (iI (x1)))] := hl
  have hsh := (gd_some hsh).2
  refine e_aload_n (B := B) (x := x0) hx hb dX13_selects_0 rfl (hl.at 0 rfl) ?_
  refine lv_iload_n hx hb dX13_selects_1 rfl (hl.at 1 rfl) ?_
  refine lv_bipush (v := iI (118)) hx hb dX13_selects_2 (by decide +kernel) ?_
  refine e_icmp_ne (tgt := 11) hx hb dX13_selects_4 (by decide) (fun c4 => ?_) (fun c4 => ?_)
  · rw [if_neg c4] at hsh
    refine lv_iload_n hx hb dX13_selects_11 rfl (hl.at 1 rfl) ?_
    refine lv_bipush (v := iI (86)) hx hb dX13_selects_12 (by decide +kernel) ?_
    refine e_icmp_ne (tgt := 21) hx hb dX13_selects_14 (by decide) (fun c14 => ?_) (fun c14 => ?_)
    · rw [if_neg c14] at hsh
      refine lv_iconst (v := iI (4)) hx hb dX13_selects_21 rfl ?_
      exact w13_selects_b22 E hp hS (hl.sub [0] rfl) hsh
    · rw [if_pos c14] at hsh
      refine lv_iconst (v := iI (3)) hx hb dX13_selects_17 rfl ?_
      refine lv_goto (tgt := 22) hx hb dX13_selects_18 (by decide) ?_
      exact w13_selects_b22 E hp hS (hl.sub [0] rfl) hsh
  · rw [if_pos c4] at hsh
    refine lv_iconst (v := iI (2)) hx hb dX13_selects_7 rfl ?_
    refine lv_goto (tgt := 22) hx hb dX13_selects_8 (by decide) ?_
    exact w13_selects_b22 E hp hS (hl.sub [0] rfl) hsh
theorem ok13_records {S : HP} {x0 : Int} {r : Int × HP} (h : s13_records S x0 = some r) : 0 ≤ x0 ∧ x0.toNat < e_n S ∧ e_g S x0.toNat = 13 := (gd_some h).1
set_option maxRecDepth 100000 in
set_option maxHeartbeats 4000000 in
theorem w13_records_l84 {p : Program} {l : Launch} {e : Env} {s : State} {m : MethodId} {args : Array Value} {below : List Frame} {meth : Method} {c : Code} {D : va_G} {cA : Nat → ClassId} {B : Nat} {res : Int × HP} (E : e_En p s m args meth c cX13_records RX13 2 (some .boolean)) : ∀ (f : Nat) {ls : Array Slot} {H : Heap} {locs : List Loc} {S : HP} {x0 : Int} {x1 : Int} (hp : e_Pic D cA B S s H) (hS : va_S (e_A B) s.heap H locs) (hl : e_lo ls 2 [(0, e_rv B (x0)), (1, .int (iI (x1)))]) (hsh : s13_records_l84 f S x0 x1 = some res), W p l e ({ frames := 1, cells := 0, slots := 0, locals := 21 } : Room) s m args below meth c H locs 0 0 (MQ below (e_Qi D cA B res.1 res.2) args s 0 0 (e_A B)) (F0 m 84 ls []) := by
  obtain ⟨hx, hb, hml, hown, hts, hlk, hrt⟩ := id E
  intro f
  induction f with
  | zero => intro ls H locs S x0 x1 hp hS hl hsh; cases hsh
  | succ f ih =>
    intro ls H locs S x0 x1 hp hS hl hsh
    have hk84 : ∀ {ls : Array Slot} {H : Heap} {locs : List Loc} {S : HP} {x0 : Int} {x1 : Int} (hp : e_Pic D cA B S s H) (hS : va_S (e_A B) s.heap H locs) (hl : e_lo ls 2 [(0, e_rv B (x0)), (1, .int (iI (x1)))]) (hsh : (s13_records_l84 f) S x0 x1 = some res), W p l e ({ frames := 1, cells := 0, slots := 0, locals := 21 } : Room) s m args below meth c H locs 0 0 (MQ below (e_Qi D cA B res.1 res.2) args s 0 0 (e_A B)) (F0 m 84 ls []) := ih
    generalize hkk : s13_records_l84 f = k84 at hk84
    rw [s13_records_l84] at hsh
    rw [hkk] at hsh
    try dsimp only at hsh
    refine lv_iload_n hx hb dX13_records_84 rfl (hl.at 1 rfl) ?_
    refine e_aload_n (B := B) (x := x0) hx hb dX13_records_85 rfl (hl.at 0 rfl) ?_
    obtain ⟨v86, h86, hsh⟩ := Option.bind_eq_some_iff.mp hsh
    refine e_getR (k := 12) hx hb hts in_X13 hown hp h86 rfl (by decide) (by decide) rfl (hts _ kf13_26) rfl dX13_records_86 ?_
    refine e_aload_n (B := B) (x := x0) hx hb dX13_records_89 rfl (hl.at 0 rfl) ?_
    obtain ⟨v90, h90, hsh⟩ := Option.bind_eq_some_iff.mp hsh
    refine e_getI (k := 86) hx hb hts in_X13 hown hp h90 rfl (by decide) (by decide) rfl (hts _ kf13_114) rfl dX13_records_90 ?_
    obtain ⟨v93, h93, hsh⟩ := Option.bind_eq_some_iff.mp hsh
    refine e_iald hx hb hp h93 dX13_records_93 ?_
    refine e_icmp_ge (tgt := 124) hx hb dX13_records_94 (by decide) (fun c94 => ?_) (fun c94 => ?_)
    · rw [if_pos c94] at hsh
      refine e_aload_n (B := B) (x := x0) hx hb dX13_records_124 rfl (hl.at 0 rfl) ?_
      refine lv_iconst (v := iI (-1)) hx hb dX13_records_125 rfl ?_
      obtain ⟨S126, h126, hsh⟩ := Option.bind_eq_some_iff.mp hsh
      refine e_putI (k := 86) hx hb hts in_X13 tyX13 tyX13_ok nmX13 hown hp hS h126 rfl (by decide) (by decide) rfl (hts _ kf13_114) rfl rfl (by decide +kernel) dX13_records_126 (fun H locs hp hS => ?_)
      refine lv_iconst (v := iI (1)) hx hb dX13_records_129 rfl ?_
      obtain ⟨hz, hz1, hz2⟩ := zR_some hsh
      rw [← hz1, ← hz2]
      exact e_zret hx hb hrt hlk hp hS hz dX13_records_130
    · rw [if_neg c94] at hsh
      refine e_aload_n (B := B) (x := x0) hx hb dX13_records_97 rfl (hl.at 0 rfl) ?_
      obtain ⟨v98, h98, hsh⟩ := Option.bind_eq_some_iff.mp hsh
      refine e_getR (k := 13) hx hb hts in_X13 hown hp h98 rfl (by decide) (by decide) rfl (hts _ kf13_30) rfl dX13_records_98 ?_
      refine lv_sipush (v := iI (3000)) hx hb dX13_records_101 (by decide +kernel) ?_
      refine e_aload_n (B := B) (x := x0) hx hb dX13_records_104 rfl (hl.at 0 rfl) ?_
      obtain ⟨v105, h105, hsh⟩ := Option.bind_eq_some_iff.mp hsh
      refine e_getI (k := 86) hx hb hts in_X13 hown hp h105 rfl (by decide) (by decide) rfl (hts _ kf13_114) rfl dX13_records_105 ?_
      refine e_imul hx hb dX13_records_108 ?_
      refine lv_iload_n hx hb dX13_records_109 rfl (hl.at 1 rfl) ?_
      refine e_iadd hx hb dX13_records_110 ?_
      refine e_aload_n (B := B) (x := x0) hx hb dX13_records_111 rfl (hl.at 0 rfl) ?_
      obtain ⟨v112, h112, hsh⟩ := Option.bind_eq_some_iff.mp hsh
      refine e_getR (k := 88) hx hb hts in_X13 hown hp h112 rfl (by decide) (by decide) rfl (hts _ kf13_117) rfl dX13_records_112 ?_
      refine lv_iload_n hx hb dX13_records_115 rfl (hl.at 1 rfl) ?_
      obtain ⟨v116, h116, hsh⟩ := Option.bind_eq_some_iff.mp hsh
      refine e_iald hx hb hp h116 dX13_records_116 ?_
      obtain ⟨S117, h117, hsh⟩ := Option.bind_eq_some_iff.mp hsh
      refine e_iast hx hb hp hS h117 dX13_records_117 (fun H locs hp hS => ?_)
      refine e_iinc (n := 1) (x := x1) (lv' := [(1, .int (iI ((x1 + 1)))), (0, e_rv B (x0))]) hx hb dX13_records_118 hl (k := 1) rfl (by decide) rfl (fun ls hl => ?_)
      refine lv_goto (tgt := 84) hx hb dX13_records_121 (by decide) ?_
      exact hk84 hp hS (hl.sub [1, 0] rfl) hsh
set_option maxRecDepth 100000 in
set_option maxHeartbeats 4000000 in
theorem w13_records_b81 {p : Program} {l : Launch} {e : Env} {s : State} {m : MethodId} {args : Array Value} {below : List Frame} {meth : Method} {c : Code} {D : va_G} {cA : Nat → ClassId} {B : Nat} {res : Int × HP} (E : e_En p s m args meth c cX13_records RX13 2 (some .boolean)) {ls : Array Slot} {H : Heap} {locs : List Loc} {S : HP} {x0 : Int} {y0 : Int} {y1 : Int} {y2 : Int} (hp : e_Pic D cA B S s H) (hS : va_S (e_A B) s.heap H locs) (hl : e_lo ls 2 [(0, e_rv B (x0))]) (hsh : s13_records_b81 S x0 y0 y1 y2 = some res) : W p l e ({ frames := 1, cells := 0, slots := 0, locals := 21 } : Room) s m args below meth c H locs 0 0 (MQ below (e_Qi D cA B res.1 res.2) args s 0 0 (e_A B)) (F0 m 81 ls [.int (iI (y2)), .int (iI (y1)), e_rv B (y0)]) := by
  obtain ⟨hx, hb, hml, hown, hts, hlk, hrt⟩ := id E
  unfold s13_records_b81 at hsh
  obtain ⟨S81, h81, hsh⟩ := Option.bind_eq_some_iff.mp hsh
  refine e_iast hx hb hp hS h81 dX13_records_81 (fun H locs hp hS => ?_)
  refine lv_iconst (v := iI (0)) hx hb dX13_records_82 rfl ?_
  refine e_istore_n (lv' := [(1, .int (iI (0))), (0, e_rv B (x0))]) hx hb dX13_records_83 rfl hl (by decide) rfl (fun ls hl => ?_)
  exact w13_records_l84 E 1000000 hp hS (hl.sub [1, 0] rfl) hsh
set_option maxRecDepth 100000 in
set_option maxHeartbeats 4000000 in
theorem c13_records (l : Launch) (D : va_G) (cA : Nat → ClassId) (B : Nat) (S S' : HP) (x0 : Int) (r : Int) (hsh : s13_records S x0 = some (r, S')) : Met l yX13_records (e_wu yX13_records cX13_records 2 (some .boolean)) ({ frames := 1, cells := 0, slots := 0, locals := 21 } : Room) (va_Pc [e_rv B (x0)] (fun U => e_PU D cA B S U)) (e_Qi D cA B r S') 0 0 (e_A B) := by
  refine Met.ofW (cc := cX13_records) (maxL := 2) (ret := (some .boolean)) (by decide +kernel) rfl ?_
  intro p e s m args below meth c s₁ Bd hml hv
  obtain ⟨rfl, hp⟩ := hv
  have hp : e_Pic D cA B S s s.heap := hp
  have hx := Bd.exec
  have hb := Bd.bytes
  have hrt := Bd.returns
  have hlk := Bd.notSynchronized
  have hown : s.vm.findClass RX13 = some m.cls := findClass_of_methodNamed Bd.named
  have hts : ∀ w ∈ e_tb, w.before ([e_rv B (x0)] : List Value).toArray s = true := fun w h => atoms_spec (ws := (e_wu yX13_records cX13_records 2 (some .boolean))) Bd.pre w (List.mem_cons_of_mem _ h)
  have E : e_En p s m ([e_rv B (x0)] : List Value).toArray meth c cX13_records RX13 2 (some .boolean) := ⟨hx, hb, hml, hown, hts, hlk, hrt⟩
  have hS : va_S (e_A B) s.heap s.heap [] := va_S.rf
  have hl := e_entry (vs := [e_rv B (x0)]) (n := 2) (Nat.le_of_ble_eq_true rfl) (e_cc (e_rv_cat _ _) e_cn)
  rw [lg_entry_eq]
  generalize (lg_sl [e_rv B (x0)] ++ List.replicate (2 - (lg_sl [e_rv B (x0)]).length) Slot.unset).toArray = ls at hl ⊢
  generalize ([e_rv B (x0)] : List Value).toArray = args at hts E ⊢
  have hl : e_lo ls 2 [(0, e_rv B (x0))] := hl
  have hsh := (gd_some hsh).2
  refine e_aload_n (B := B) (x := x0) hx hb dX13_records_0 rfl (hl.at 0 rfl) ?_
  obtain ⟨⟨v1, S1⟩, h1, hsh⟩ := Option.bind_eq_some_iff.mp hsh
  have hsh : _ = _ := hsh
  try dsimp only at hsh
  have ok1 := ok13_isPlaying h1
  refine e_callI (nL := 2) (mc := 0) (ms := 0) (T := TX13) (N := 126) (As := []) (rest := []) hx hb hml hown hts hp hS hl.size ok1.1 ok1.2.1 ok1.2.2 rfl (by decide) (c13_isPlaying l D cA B S S1 (x0) v1 h1) rfl rfl kd13_isPlaying (kl13_581) ks13_isPlaying kv13_isPlaying ki13 kh13_isPlaying ⟨Nat.le_of_ble_eq_true rfl, Nat.le_of_ble_eq_true rfl⟩ rfl (by simp [e_rv_cat, e_int_cat]) ⟨Nat.le_refl _, Nat.le_refl _⟩ dX13_records_1 rfl (fun H locs hp hS => ?_)
  refine e_if_eq (tgt := 9) hx hb dX13_records_4 (by decide) (fun c4 => ?_) (fun c4 => ?_)
  · rw [if_pos c4] at hsh
    refine e_aload_n (B := B) (x := x0) hx hb dX13_records_9 rfl (hl.at 0 rfl) ?_
    obtain ⟨v10, h10, hsh⟩ := Option.bind_eq_some_iff.mp hsh
    refine e_getI (k := 86) hx hb hts in_X13 hown hp h10 rfl (by decide) (by decide) rfl (hts _ kf13_114) rfl dX13_records_10 ?_
    refine lv_iconst (v := iI (-1)) hx hb dX13_records_13 rfl ?_
    refine e_icmp_ne (tgt := 35) hx hb dX13_records_14 (by decide) (fun c14 => ?_) (fun c14 => ?_)
    · rw [if_neg c14] at hsh
      refine e_aload_n (B := B) (x := x0) hx hb dX13_records_35 rfl (hl.at 0 rfl) ?_
      obtain ⟨v36, h36, hsh⟩ := Option.bind_eq_some_iff.mp hsh
      refine e_getR (k := 12) hx hb hts in_X13 hown hp h36 rfl (by decide) (by decide) rfl (hts _ kf13_26) rfl dX13_records_36 ?_
      refine e_aload_n (B := B) (x := x0) hx hb dX13_records_39 rfl (hl.at 0 rfl) ?_
      obtain ⟨v40, h40, hsh⟩ := Option.bind_eq_some_iff.mp hsh
      refine e_getI (k := 86) hx hb hts in_X13 hown hp h40 rfl (by decide) (by decide) rfl (hts _ kf13_114) rfl dX13_records_40 ?_
      refine e_aload_n (B := B) (x := x0) hx hb dX13_records_43 rfl (hl.at 0 rfl) ?_
      obtain ⟨v44, h44, hsh⟩ := Option.bind_eq_some_iff.mp hsh
      refine e_getI (k := 87) hx hb hts in_X13 hown hp h44 rfl (by decide) (by decide) rfl (hts _ kf13_815) rfl dX13_records_44 ?_
      refine lv_iconst (v := iI (1)) hx hb dX13_records_47 rfl ?_
      refine e_isub hx hb dX13_records_48 ?_
      refine lv_sipush (v := iI (3000)) hx hb dX13_records_49 (by decide +kernel) ?_
      obtain ⟨⟨v52, S52⟩, h52, hsh⟩ := Option.bind_eq_some_iff.mp hsh
      have hsh : _ = _ := hsh
      try dsimp only at hsh
      refine e_callS (nL := 2) (mc := 0) (ms := 0) (As := [.int (iI ((v44 - 1))), .int (iI (3000))]) (rest := [.int (iI (v40)), e_rv B (v36)]) hx hb hml hown hts hp hS hl.size (c13_lesser l D cA B S1 S52 ((v44 - 1)) (3000) v52 h52) rfl rfl kd13_lesser (kl13_257) ks13_lesser ki13 kh13_lesser ⟨Nat.le_of_ble_eq_true rfl, Nat.le_of_ble_eq_true rfl⟩ rfl (by simp [e_rv_cat, e_int_cat]) ⟨Nat.le_refl _, Nat.le_refl _⟩ dX13_records_52 rfl (fun H locs hp hS => ?_)
      obtain ⟨S55, h55, hsh⟩ := Option.bind_eq_some_iff.mp hsh
      refine e_iast hx hb hp hS h55 dX13_records_55 (fun H locs hp hS => ?_)
      refine e_aload_n (B := B) (x := x0) hx hb dX13_records_56 rfl (hl.at 0 rfl) ?_
      obtain ⟨v57, h57, hsh⟩ := Option.bind_eq_some_iff.mp hsh
      refine e_getR (k := 11) hx hb hts in_X13 hown hp h57 rfl (by decide) (by decide) rfl (hts _ kf13_23) rfl dX13_records_57 ?_
      refine e_aload_n (B := B) (x := x0) hx hb dX13_records_60 rfl (hl.at 0 rfl) ?_
      obtain ⟨v61, h61, hsh⟩ := Option.bind_eq_some_iff.mp hsh
      refine e_getI (k := 86) hx hb hts in_X13 hown hp h61 rfl (by decide) (by decide) rfl (hts _ kf13_114) rfl dX13_records_61 ?_
      refine e_aload_n (B := B) (x := x0) hx hb dX13_records_64 rfl (hl.at 0 rfl) ?_
      obtain ⟨v65, h65, hsh⟩ := Option.bind_eq_some_iff.mp hsh
      refine e_getR (k := 12) hx hb hts in_X13 hown hp h65 rfl (by decide) (by decide) rfl (hts _ kf13_26) rfl dX13_records_65 ?_
      refine e_aload_n (B := B) (x := x0) hx hb dX13_records_68 rfl (hl.at 0 rfl) ?_
      obtain ⟨v69, h69, hsh⟩ := Option.bind_eq_some_iff.mp hsh
      refine e_getI (k := 86) hx hb hts in_X13 hown hp h69 rfl (by decide) (by decide) rfl (hts _ kf13_114) rfl dX13_records_69 ?_
      obtain ⟨v72, h72, hsh⟩ := Option.bind_eq_some_iff.mp hsh
      refine e_iald hx hb hp h72 dX13_records_72 ?_
      refine e_if_le (tgt := 80) hx hb dX13_records_73 (by decide) (fun c73 => ?_) (fun c73 => ?_)
      · rw [if_pos c73] at hsh
        refine lv_iconst (v := iI (0)) hx hb dX13_records_80 rfl ?_
        exact w13_records_b81 E hp hS (hl.sub [0] rfl) hsh
      · rw [if_neg c73] at hsh
        refine lv_iconst (v := iI (1)) hx hb dX13_records_76 rfl ?_
        refine lv_goto (tgt := 81) hx hb dX13_records_77 (by decide) ?_
        exact w13_records_b81 E hp hS (hl.sub [0] rfl) hsh
    · rw [if_pos c14] at hsh
      refine e_aload_n (B := B) (x := x0) hx hb dX13_records_17 rfl (hl.at 0 rfl) ?_
      refine e_aload_n (B := B) (x := x0) hx hb dX13_records_18 rfl (hl.at 0 rfl) ?_
      obtain ⟨v19, h19, hsh⟩ := Option.bind_eq_some_iff.mp hsh
      refine e_getI (k := 63) hx hb hts in_X13 hown hp h19 rfl (by decide) (by decide) rfl (hts _ kf13_612) rfl dX13_records_19 ?_
      refine lv_bipush (v := iI (97)) hx hb dX13_records_22 (by decide +kernel) ?_
      refine e_isub hx hb dX13_records_24 ?_
      obtain ⟨S25, h25, hsh⟩ := Option.bind_eq_some_iff.mp hsh
      refine e_putI (k := 86) hx hb hts in_X13 tyX13 tyX13_ok nmX13 hown hp hS h25 rfl (by decide) (by decide) rfl (hts _ kf13_114) rfl rfl (by decide +kernel) dX13_records_25 (fun H locs hp hS => ?_)
      refine e_aload_n (B := B) (x := x0) hx hb dX13_records_28 rfl (hl.at 0 rfl) ?_
      refine lv_iconst (v := iI (0)) hx hb dX13_records_29 rfl ?_
      obtain ⟨S30, h30, hsh⟩ := Option.bind_eq_some_iff.mp hsh
      refine e_putI (k := 87) hx hb hts in_X13 tyX13 tyX13_ok nmX13 hown hp hS h30 rfl (by decide) (by decide) rfl (hts _ kf13_815) rfl rfl (by decide +kernel) dX13_records_30 (fun H locs hp hS => ?_)
      refine lv_iconst (v := iI (1)) hx hb dX13_records_33 rfl ?_
      obtain ⟨hz, hz1, hz2⟩ := zR_some hsh
      rw [← hz1, ← hz2]
      exact e_zret hx hb hrt hlk hp hS hz dX13_records_34
  · rw [if_neg c4] at hsh
    refine lv_iconst (v := iI (0)) hx hb dX13_records_7 rfl ?_
    obtain ⟨hz, hz1, hz2⟩ := zR_some hsh
    rw [← hz1, ← hz2]
    exact e_zret hx hb hrt hlk hp hS hz dX13_records_8
theorem ok13_plays {S : HP} {x0 : Int} {x1 : Int} {r : Int × HP} (h : s13_plays S x0 x1 = some r) : 0 ≤ x0 ∧ x0.toNat < e_n S ∧ e_g S x0.toNat = 13 := (gd_some h).1
set_option maxRecDepth 100000 in
set_option maxHeartbeats 4000000 in
theorem w13_plays_b47 {p : Program} {l : Launch} {e : Env} {s : State} {m : MethodId} {args : Array Value} {below : List Frame} {meth : Method} {c : Code} {D : va_G} {cA : Nat → ClassId} {B : Nat} {res : Int × HP} (E : e_En p s m args meth c cX13_plays RX13 5 (some .boolean)) {ls : Array Slot} {H : Heap} {locs : List Loc} {S : HP} (hp : e_Pic D cA B S s H) (hS : va_S (e_A B) s.heap H locs) (hl : e_lo ls 5 []) (hsh : s13_plays_b47 S  = some res) : W p l e ({ frames := 1, cells := 0, slots := 0, locals := 23 } : Room) s m args below meth c H locs 0 0 (MQ below (e_Qi D cA B res.1 res.2) args s 0 0 (e_A B)) (F0 m 47 ls []) := by
  obtain ⟨hx, hb, hml, hown, hts, hlk, hrt⟩ := id E
  unfold s13_plays_b47 at hsh
  refine lv_iconst (v := iI (0)) hx hb dX13_plays_47 rfl ?_
  obtain ⟨hz, hz1, hz2⟩ := zR_some hsh
  rw [← hz1, ← hz2]
  exact e_zret hx hb hrt hlk hp hS hz dX13_plays_48
set_option maxRecDepth 100000 in
set_option maxHeartbeats 4000000 in
theorem w13_plays_b106 {p : Program} {l : Launch} {e : Env} {s : State} {m : MethodId} {args : Array Value} {below : List Frame} {meth : Method} {c : Code} {D : va_G} {cA : Nat → ClassId} {B : Nat} {res : Int × HP} {k67 : HP → Int → Int → Int → Option (Int × HP)} (hk67 : ∀ {ls : Array Slot} {H : Heap} {locs : List Loc} {S : HP} {x0 : Int} {x2 : Int} {x3 : Int} (hp : e_Pic D cA B S s H) (hS : va_S (e_A B) s.heap H locs) (hl : e_lo ls 5 [(0, e_rv B (x0)), (2, .int (iI (x2))), (3, .int (iI (x3)))]) (hsh : k67 S x0 x2 x3 = some res), W p l e ({ frames := 1, cells := 0, slots := 0, locals := 23 } : Room) s m args below meth c H locs 0 0 (MQ below (e_Qi D cA B res.1 res.2) args s 0 0 (e_A B)) (F0 m 67 ls [])) (E : e_En p s m args meth c cX13_plays RX13 5 (some .boolean)) {ls : Array Slot} {H : Heap} {locs : List Loc} {S : HP} {x0 : Int} {x2 : Int} {x3 : Int} {y0 : Int} {y1 : Int} (hp : e_Pic D cA B S s H) (hS : va_S (e_A B) s.heap H locs) (hl : e_lo ls 5 [(0, e_rv B (x0)), (2, .int (iI (x2))), (3, .int (iI (x3)))]) (hsh : s13_plays_b106 k67 S x0 x2 x3 y0 y1 = some res) : W p l e ({ frames := 1, cells := 0, slots := 0, locals := 23 } : Room) s m args below meth c H locs 0 0 (MQ below (e_Qi D cA B res.1 res.2) args s 0 0 (e_A B)) (F0 m 106 ls [.int (iI (y1)), e_rv B (y0)]) := by
  obtain ⟨hx, hb, hml, hown, hts, hlk, hrt⟩ := id E
  unfold s13_plays_b106 at hsh
  obtain ⟨S106, h106, hsh⟩ := Option.bind_eq_some_iff.mp hsh
  have ok106 := ok13_heaps h106
  refine e_callV (nL := 5) (mc := 0) (ms := 0) (T := TX13) (N := 126) (As := [.int (iI (y1))]) (rest := []) hx hb hml hown hts hp hS hl.size ok106.1 ok106.2.1 ok106.2.2 rfl (by decide) (c13_heaps l D cA B S S106 (y0) (y1) h106) rfl rfl kd13_heaps (kl13_702) ks13_heaps kv13_heaps ki13 kh13_heaps ⟨Nat.le_of_ble_eq_true rfl, Nat.le_of_ble_eq_true rfl⟩ rfl (by simp [e_rv_cat, e_int_cat]) ⟨Nat.le_refl _, Nat.le_refl _⟩ dX13_plays_106 rfl (fun H locs hp hS => ?_)
  refine e_iinc (n := 1) (x := x3) (lv' := [(3, .int (iI ((x3 + 1)))), (0, e_rv B (x0)), (2, .int (iI (x2)))]) hx hb dX13_plays_109 hl (k := 2) rfl (by decide) rfl (fun ls hl => ?_)
  refine lv_goto (tgt := 67) hx hb dX13_plays_112 (by decide) ?_
  exact hk67 hp hS (hl.sub [1, 2, 0] rfl) hsh
set_option maxRecDepth 100000 in
set_option maxHeartbeats 4000000 in
theorem w13_plays_l67 {p : Program} {l : Launch} {e : Env} {s : State} {m : MethodId} {args : Array Value} {below : List Frame} {meth : Method} {c : Code} {D : va_G} {cA : Nat → ClassId} {B : Nat} {res : Int × HP} (E : e_En p s m args meth c cX13_plays RX13 5 (some .boolean)) : ∀ (f : Nat) {ls : Array Slot} {H : Heap} {locs : List Loc} {S : HP} {x0 : Int} {x2 : Int} {x3 : Int} (hp : e_Pic D cA B S s H) (hS : va_S (e_A B) s.heap H locs) (hl : e_lo ls 5 [(0, e_rv B (x0)), (2, .int (iI (x2))), (3, .int (iI (x3)))]) (hsh : s13_plays_l67 f S x0 x2 x3 = some res), W p l e ({ frames := 1, cells := 0, slots := 0, locals := 23 } : Room) s m args below meth c H locs 0 0 (MQ below (e_Qi D cA B res.1 res.2) args s 0 0 (e_A B)) (F0 m 67 ls []) := by
  obtain ⟨hx, hb, hml, hown, hts, hlk, hrt⟩ := id E
  intro f
  induction f with
  | zero => intro ls H locs S x0 x2 x3 hp hS hl hsh; cases hsh
  | succ f ih =>
    intro ls H locs S x0 x2 x3 hp hS hl hsh
    have hk67 : ∀ {ls : Array Slot} {H : Heap} {locs : List Loc} {S : HP} {x0 : Int} {x2 : Int} {x3 : Int} (hp : e_Pic D cA B S s H) (hS : va_S (e_A B) s.heap H locs) (hl : e_lo ls 5 [(0, e_rv B (x0)), (2, .int (iI (x2))), (3, .int (iI (x3)))]) (hsh : (s13_plays_l67 f) S x0 x2 x3 = some res), W p l e ({ frames := 1, cells := 0, slots := 0, locals := 23 } : Room) s m args below meth c H locs 0 0 (MQ below (e_Qi D cA B res.1 res.2) args s 0 0 (e_A B)) (F0 m 67 ls []) := ih
    generalize hkk : s13_plays_l67 f = k67 at hk67
    rw [s13_plays_l67] at hsh
    rw [hkk] at hsh
    try dsimp only at hsh
    refine lv_iload_n hx hb dX13_plays_67 rfl (hl.at 2 rfl) ?_
    refine e_aload_n (B := B) (x := x0) hx hb dX13_plays_68 rfl (hl.at 0 rfl) ?_
    obtain ⟨v69, h69, hsh⟩ := Option.bind_eq_some_iff.mp hsh
    refine e_getR (k := 12) hx hb hts in_X13 hown hp h69 rfl (by decide) (by decide) rfl (hts _ kf13_26) rfl dX13_plays_69 ?_
    refine lv_iload_n hx hb dX13_plays_72 rfl (hl.at 1 rfl) ?_
    obtain ⟨v73, h73, hsh⟩ := Option.bind_eq_some_iff.mp hsh
    refine e_iald hx hb hp h73 dX13_plays_73 ?_
    refine e_icmp_ge (tgt := 115) hx hb dX13_plays_74 (by decide) (fun c74 => ?_) (fun c74 => ?_)
    · rw [if_pos c74] at hsh
      refine lv_iconst (v := iI (1)) hx hb dX13_plays_115 rfl ?_
      obtain ⟨hz, hz1, hz2⟩ := zR_some hsh
      rw [← hz1, ← hz2]
      exact e_zret hx hb hrt hlk hp hS hz dX13_plays_116
    · rw [if_neg c74] at hsh
      refine e_aload_n (B := B) (x := x0) hx hb dX13_plays_77 rfl (hl.at 0 rfl) ?_
      obtain ⟨v78, h78, hsh⟩ := Option.bind_eq_some_iff.mp hsh
      refine e_getR (k := 13) hx hb hts in_X13 hown hp h78 rfl (by decide) (by decide) rfl (hts _ kf13_30) rfl dX13_plays_78 ?_
      refine lv_sipush (v := iI (3000)) hx hb dX13_plays_81 (by decide +kernel) ?_
      refine lv_iload_n hx hb dX13_plays_84 rfl (hl.at 1 rfl) ?_
      refine e_imul hx hb dX13_plays_85 ?_
      refine lv_iload_n hx hb dX13_plays_86 rfl (hl.at 2 rfl) ?_
      refine e_iadd hx hb dX13_plays_87 ?_
      obtain ⟨v88, h88, hsh⟩ := Option.bind_eq_some_iff.mp hsh
      refine e_iald hx hb hp h88 dX13_plays_88 ?_
      refine e_istore (lv' := [(4, .int (iI (v88))), (0, e_rv B (x0)), (2, .int (iI (x2))), (3, .int (iI (x3)))]) hx hb dX13_plays_89 hl (by decide) rfl (fun ls hl => ?_)
      refine e_aload_n (B := B) (x := x0) hx hb dX13_plays_91 rfl (hl.at 1 rfl) ?_
      refine lv_iload hx hb dX13_plays_92 (hl.at 0 rfl) ?_
      refine lv_bipush (v := iI (10)) hx hb dX13_plays_94 (by decide +kernel) ?_
      refine e_icmp_ne (tgt := 104) hx hb dX13_plays_96 (by decide) (fun c96 => ?_) (fun c96 => ?_)
      · rw [if_neg c96] at hsh
        refine lv_iload hx hb dX13_plays_104 (hl.at 0 rfl) ?_
        exact w13_plays_b106 (hk67 := hk67) E hp hS (hl.sub [1, 2, 3] rfl) hsh
      · rw [if_pos c96] at hsh
        refine lv_bipush (v := iI (13)) hx hb dX13_plays_99 (by decide +kernel) ?_
        refine lv_goto (tgt := 106) hx hb dX13_plays_101 (by decide) ?_
        exact w13_plays_b106 (hk67 := hk67) E hp hS (hl.sub [1, 2, 3] rfl) hsh
set_option maxRecDepth 100000 in
set_option maxHeartbeats 4000000 in
theorem w13_plays_b23 {p : Program} {l : Launch} {e : Env} {s : State} {m : MethodId} {args : Array Value} {below : List Frame} {meth : Method} {c : Code} {D : va_G} {cA : Nat → ClassId} {B : Nat} {res : Int × HP} (E : e_En p s m args meth c cX13_plays RX13 5 (some .boolean)) {ls : Array Slot} {H : Heap} {locs : List Loc} {S : HP} {x0 : Int} {x1 : Int} {y0 : Int} (hp : e_Pic D cA B S s H) (hS : va_S (e_A B) s.heap H locs) (hl : e_lo ls 5 [(0, e_rv B (x0)), (1, .int (iI (x1)))]) (hsh : s13_plays_b23 S x0 x1 y0 = some res) : W p l e ({ frames := 1, cells := 0, slots := 0, locals := 23 } : Room) s m args below meth c H locs 0 0 (MQ below (e_Qi D cA B res.1 res.2) args s 0 0 (e_A B)) (F0 m 23 ls [.int (iI (y0))]) := by
  obtain ⟨hx, hb, hml, hown, hts, hlk, hrt⟩ := id E
  unfold s13_plays_b23 at hsh
  refine e_istore_n (lv' := [(2, .int (iI (y0))), (0, e_rv B (x0)), (1, .int (iI (x1)))]) hx hb dX13_plays_23 rfl hl (by decide) rfl (fun ls hl => ?_)
  refine lv_iload_n hx hb dX13_plays_24 rfl (hl.at 0 rfl) ?_
  refine lv_iconst (v := iI (-1)) hx hb dX13_plays_25 rfl ?_
  refine e_icmp_eq (tgt := 47) hx hb dX13_plays_26 (by decide) (fun c26 => ?_) (fun c26 => ?_)
  · rw [if_pos c26] at hsh
    exact w13_plays_b47 E hp hS (hl.sub [] rfl) hsh
  · rw [if_neg c26] at hsh
    refine e_aload_n (B := B) (x := x0) hx hb dX13_plays_29 rfl (hl.at 1 rfl) ?_
    obtain ⟨v30, h30, hsh⟩ := Option.bind_eq_some_iff.mp hsh
    refine e_getR (k := 11) hx hb hts in_X13 hown hp h30 rfl (by decide) (by decide) rfl (hts _ kf13_23) rfl dX13_plays_30 ?_
    refine lv_iload_n hx hb dX13_plays_33 rfl (hl.at 0 rfl) ?_
    obtain ⟨v34, h34, hsh⟩ := Option.bind_eq_some_iff.mp hsh
    refine e_iald hx hb hp h34 dX13_plays_34 ?_
    refine e_if_eq (tgt := 47) hx hb dX13_plays_35 (by decide) (fun c35 => ?_) (fun c35 => ?_)
    · rw [if_pos c35] at hsh
      exact w13_plays_b47 E hp hS (hl.sub [] rfl) hsh
    · rw [if_neg c35] at hsh
      refine e_aload_n (B := B) (x := x0) hx hb dX13_plays_38 rfl (hl.at 1 rfl) ?_
      obtain ⟨⟨v39, S39⟩, h39, hsh⟩ := Option.bind_eq_some_iff.mp hsh
      have hsh : _ = _ := hsh
      try dsimp only at hsh
      have ok39 := ok13_playings h39
      refine e_callI (nL := 5) (mc := 0) (ms := 0) (T := TX13) (N := 126) (As := []) (rest := []) hx hb hml hown hts hp hS hl.size ok39.1 ok39.2.1 ok39.2.2 rfl (by decide) (c13_playings l D cA B S S39 (x0) v39 h39) rfl rfl kd13_playings (kl13_818) ks13_playings kv13_playings ki13 kh13_playings ⟨Nat.le_of_ble_eq_true rfl, Nat.le_of_ble_eq_true rfl⟩ rfl (by simp [e_rv_cat, e_int_cat]) ⟨Nat.le_refl _, Nat.le_refl _⟩ dX13_plays_39 rfl (fun H locs hp hS => ?_)
      refine lv_bipush (v := iI (20)) hx hb dX13_plays_42 (by decide +kernel) ?_
      refine e_icmp_ne (tgt := 49) hx hb dX13_plays_44 (by decide) (fun c44 => ?_) (fun c44 => ?_)
      · rw [if_neg c44] at hsh
        refine e_aload_n (B := B) (x := x0) hx hb dX13_plays_49 rfl (hl.at 1 rfl) ?_
        refine lv_iload_n hx hb dX13_plays_50 rfl (hl.at 0 rfl) ?_
        obtain ⟨S51, h51, hsh⟩ := Option.bind_eq_some_iff.mp hsh
        refine e_putI (k := 89) hx hb hts in_X13 tyX13 tyX13_ok nmX13 hown hp hS h51 rfl (by decide) (by decide) rfl (hts _ kf13_120) rfl rfl (by decide +kernel) dX13_plays_51 (fun H locs hp hS => ?_)
        refine e_aload_n (B := B) (x := x0) hx hb dX13_plays_54 rfl (hl.at 1 rfl) ?_
        refine lv_iconst (v := iI (0)) hx hb dX13_plays_55 rfl ?_
        obtain ⟨S56, h56, hsh⟩ := Option.bind_eq_some_iff.mp hsh
        refine e_putI (k := 23) hx hb hts in_X13 tyX13 tyX13_ok nmX13 hown hp hS h56 rfl (by decide) (by decide) rfl (hts _ kf13_244) rfl rfl (by decide +kernel) dX13_plays_56 (fun H locs hp hS => ?_)
        refine e_aload_n (B := B) (x := x0) hx hb dX13_plays_59 rfl (hl.at 1 rfl) ?_
        refine lv_iconst (v := iI (1)) hx hb dX13_plays_60 rfl ?_
        refine lv_iload_n hx hb dX13_plays_61 rfl (hl.at 2 rfl) ?_
        obtain ⟨S62, h62, hsh⟩ := Option.bind_eq_some_iff.mp hsh
        have ok62 := ok13_begins h62
        refine e_callV (nL := 5) (mc := 0) (ms := 0) (T := TX13) (N := 126) (As := [.int (iI (1)), .int (iI (x1))]) (rest := []) hx hb hml hown hts hp hS hl.size ok62.1 ok62.2.1 ok62.2.2 rfl (by decide) (c13_begins l D cA B S56 S62 (x0) (1) (x1) h62) rfl rfl kd13_begins (kl13_699) ks13_begins kv13_begins ki13 kh13_begins ⟨Nat.le_of_ble_eq_true rfl, Nat.le_of_ble_eq_true rfl⟩ rfl (by simp [e_rv_cat, e_int_cat]) ⟨Nat.le_refl _, Nat.le_refl _⟩ dX13_plays_62 rfl (fun H locs hp hS => ?_)
        refine lv_iconst (v := iI (0)) hx hb dX13_plays_65 rfl ?_
        refine e_istore_n (lv' := [(3, .int (iI (0))), (2, .int (iI (y0))), (0, e_rv B (x0)), (1, .int (iI (x1)))]) hx hb dX13_plays_66 rfl hl (by decide) rfl (fun ls hl => ?_)
        exact w13_plays_l67 E 1000000 hp hS (hl.sub [2, 1, 0] rfl) hsh
      · rw [if_pos c44] at hsh
        exact w13_plays_b47 E hp hS (hl.sub [] rfl) hsh
set_option maxRecDepth 100000 in
set_option maxHeartbeats 4000000 in
theorem c13_plays (l : Launch) (D : va_G) (cA : Nat → ClassId) (B : Nat) (S S' : HP) (x0 : Int) (x1 : Int) (r : Int) (hsh : s13_plays S x0 x1 = some (r, S')) : Met l yX13_plays (e_wu yX13_plays cX13_plays 5 (some .boolean)) ({ frames := 1, cells := 0, slots := 0, locals := 23 } : Room) (va_Pc [e_rv B (x0), .int (iI (x1))] (fun U => e_PU D cA B S U)) (e_Qi D cA B r S') 0 0 (e_A B) := by
  refine Met.ofW (cc := cX13_plays) (maxL := 5) (ret := (some .boolean)) (by decide +kernel) rfl ?_
  intro p e s m args below meth c s₁ Bd hml hv
  obtain ⟨rfl, hp⟩ := hv
  have hp : e_Pic D cA B S s s.heap := hp
  have hx := Bd.exec
  have hb := Bd.bytes
  have hrt := Bd.returns
  have hlk := Bd.notSynchronized
  have hown : s.vm.findClass RX13 = some m.cls := findClass_of_methodNamed Bd.named
  have hts : ∀ w ∈ e_tb, w.before ([e_rv B (x0), .int (iI (x1))] : List Value).toArray s = true := fun w h => atoms_spec (ws := (e_wu yX13_plays cX13_plays 5 (some .boolean))) Bd.pre w (List.mem_cons_of_mem _ h)
  have E : e_En p s m ([e_rv B (x0), .int (iI (x1))] : List Value).toArray meth c cX13_plays RX13 5 (some .boolean) := ⟨hx, hb, hml, hown, hts, hlk, hrt⟩
  have hS : va_S (e_A B) s.heap s.heap [] := va_S.rf
  have hl := e_entry (vs := [e_rv B (x0), .int (iI (x1))]) (n := 5) (Nat.le_of_ble_eq_true rfl) (e_cc (e_rv_cat _ _) (e_cc rfl e_cn))
  rw [lg_entry_eq]
  generalize (lg_sl [e_rv B (x0), .int (iI (x1))] ++ List.replicate (5 - (lg_sl [e_rv B (x0), .int (iI (x1))]).length) Slot.unset).toArray = ls at hl ⊢
  generalize ([e_rv B (x0), .int (iI (x1))] : List Value).toArray = args at hts E ⊢
  have hl : e_lo ls 5 [(0, e_rv B (x0)), (1, .int (iI (x1)))] := hl
  have hsh := (gd_some hsh).2
  refine e_aload_n (B := B) (x := x0) hx hb dX13_plays_0 rfl (hl.at 0 rfl) ?_
  obtain ⟨v1, h1, hsh⟩ := Option.bind_eq_some_iff.mp hsh
  refine e_getI (k := 63) hx hb hts in_X13 hown hp h1 rfl (by decide) (by decide) rfl (hts _ kf13_612) rfl dX13_plays_1 ?_
  refine lv_bipush (v := iI (64)) hx hb dX13_plays_4 (by decide +kernel) ?_
  refine e_icmp_ne (tgt := 16) hx hb dX13_plays_6 (by decide) (fun c6 => ?_) (fun c6 => ?_)
  · rw [if_neg c6] at hsh
    refine e_aload_n (B := B) (x := x0) hx hb dX13_plays_16 rfl (hl.at 0 rfl) ?_
    obtain ⟨v17, h17, hsh⟩ := Option.bind_eq_some_iff.mp hsh
    refine e_getI (k := 63) hx hb hts in_X13 hown hp h17 rfl (by decide) (by decide) rfl (hts _ kf13_612) rfl dX13_plays_17 ?_
    refine lv_bipush (v := iI (97)) hx hb dX13_plays_20 (by decide +kernel) ?_
    refine e_isub hx hb dX13_plays_22 ?_
    exact w13_plays_b23 E hp hS (hl.sub [0, 1] rfl) hsh
  · rw [if_pos c6] at hsh
    refine e_aload_n (B := B) (x := x0) hx hb dX13_plays_9 rfl (hl.at 0 rfl) ?_
    obtain ⟨v10, h10, hsh⟩ := Option.bind_eq_some_iff.mp hsh
    refine e_getI (k := 89) hx hb hts in_X13 hown hp h10 rfl (by decide) (by decide) rfl (hts _ kf13_120) rfl dX13_plays_10 ?_
    refine lv_goto (tgt := 23) hx hb dX13_plays_13 (by decide) ?_
    exact w13_plays_b23 E hp hS (hl.sub [0, 1] rfl) hsh
set_option maxRecDepth 100000 in
set_option maxHeartbeats 4000000 in
theorem c13_isDigit (l : Launch) (D : va_G) (cA : Nat → ClassId) (B : Nat) (S S' : HP) (x0 : Int) (r : Int) (hsh : s13_isDigit S x0 = some (r, S')) : Met l yX13_isDigit (e_wu yX13_isDigit cX13_isDigit 1 (some .boolean)) ({ frames := 1, cells := 0, slots := 0, locals := 22 } : Room) (va_Pc [.int (iI (x0))] (fun U => e_PU D cA B S U)) (e_Qi D cA B r S') 0 0 (e_A B) := by
  refine Met.ofW (cc := cX13_isDigit) (maxL := 1) (ret := (some .boolean)) (by decide +kernel) rfl ?_
  intro p e s m args below meth c s₁ Bd hml hv
  obtain ⟨rfl, hp⟩ := hv
  have hp : e_Pic D cA B S s s.heap := hp
  have hx := Bd.exec
  have hb := Bd.bytes
  have hrt := Bd.returns
  have hlk := Bd.notSynchronized
  have hown : s.vm.findClass RX13 = some m.cls := findClass_of_methodNamed Bd.named
  have hts : ∀ w ∈ e_tb, w.before ([.int (iI (x0))] : List Value).toArray s = true := fun w h => atoms_spec (ws := (e_wu yX13_isDigit cX13_isDigit 1 (some .boolean))) Bd.pre w (List.mem_cons_of_mem _ h)
  have E : e_En p s m ([.int (iI (x0))] : List Value).toArray meth c cX13_isDigit RX13 1 (some .boolean) := ⟨hx, hb, hml, hown, hts, hlk, hrt⟩
  have hS : va_S (e_A B) s.heap s.heap [] := va_S.rf
  have hl := e_entry (vs := [.int (iI (x0))]) (n := 1) (Nat.le_of_ble_eq_true rfl) (e_cc rfl e_cn)
  rw [lg_entry_eq]
  generalize (lg_sl [.int (iI (x0))] ++ List.replicate (1 - (lg_sl [.int (iI (x0))]).length) Slot.unset).toArray = ls at hl ⊢
  generalize ([.int (iI (x0))] : List Value).toArray = args at hts E ⊢
  have hl : e_lo ls 1 [(0, .int (iI (x0)))] := hl
  unfold s13_isDigit at hsh
  refine lv_iload_n hx hb dX13_isDigit_0 rfl (hl.at 0 rfl) ?_
  refine lv_bipush (v := iI (48)) hx hb dX13_isDigit_1 (by decide +kernel) ?_
  refine lv_bipush (v := iI (57)) hx hb dX13_isDigit_3 (by decide +kernel) ?_
  obtain ⟨⟨v5, S5⟩, h5, hsh⟩ := Option.bind_eq_some_iff.mp hsh
  have hsh : _ = _ := hsh
  try dsimp only at hsh
  refine e_callS (nL := 1) (mc := 0) (ms := 0) (As := [.int (iI (x0)), .int (iI (48)), .int (iI (57))]) (rest := []) hx hb hml hown hts hp hS hl.size (c13_isIn l D cA B S S5 (x0) (48) (57) v5 h5) rfl rfl kd13_isIn (kl13_198) ks13_isIn ki13 kh13_isIn ⟨Nat.le_of_ble_eq_true rfl, Nat.le_of_ble_eq_true rfl⟩ rfl (by simp [e_rv_cat, e_int_cat]) ⟨Nat.le_refl _, Nat.le_refl _⟩ dX13_isDigit_5 rfl (fun H locs hp hS => ?_)
  obtain ⟨hz, hz1, hz2⟩ := zR_some hsh
  rw [← hz1, ← hz2]
  exact e_zret hx hb hrt hlk hp hS hz dX13_isDigit_8
theorem ok13_heapsChange {S : HP} {x0 : Int} {x1 : Int} {r : HP} (h : s13_heapsChange S x0 x1 = some r) : 0 ≤ x0 ∧ x0.toNat < e_n S ∧ e_g S x0.toNat = 13 := (gd_some h).1
set_option maxRecDepth 100000 in
set_option maxHeartbeats 4000000 in
theorem w13_heapsChange_l326 {p : Program} {l : Launch} {e : Env} {s : State} {m : MethodId} {args : Array Value} {below : List Frame} {meth : Method} {c : Code} {D : va_G} {cA : Nat → ClassId} {B : Nat} {res : HP} (E : e_En p s m args meth c cX13_heapsChange RX13 6 none) : ∀ (f : Nat) {ls : Array Slot} {H : Heap} {locs : List Loc} {S : HP} {x0 : Int} {x2 : Int} (hp : e_Pic D cA B S s H) (hS : va_S (e_A B) s.heap H locs) (hl : e_lo ls 6 [(0, e_rv B (x0)), (2, .int (iI (x2)))]) (hsh : s13_heapsChange_l326 f S x0 x2 = some res), W p l e ({ frames := 2, cells := 0, slots := 0, locals := 42 } : Room) s m args below meth c H locs 0 0 (MQ below (e_Qv D cA B res) args s 0 0 (e_A B)) (F0 m 326 ls []) := by
  obtain ⟨hx, hb, hml, hown, hts, hlk, hrt⟩ := id E
  intro f
  induction f with
  | zero => intro ls H locs S x0 x2 hp hS hl hsh; cases hsh
  | succ f ih =>
    intro ls H locs S x0 x2 hp hS hl hsh
    have hk326 : ∀ {ls : Array Slot} {H : Heap} {locs : List Loc} {S : HP} {x0 : Int} {x2 : Int} (hp : e_Pic D cA B S s H) (hS : va_S (e_A B) s.heap H locs) (hl : e_lo ls 6 [(0, e_rv B (x0)), (2, .int (iI (x2)))]) (hsh : (s13_heapsChange_l326 f) S x0 x2 = some res), W p l e ({ frames := 2, cells := 0, slots := 0, locals := 42 } : Room) s m args below meth c H locs 0 0 (MQ below (e_Qv D cA B res) args s 0 0 (e_A B)) (F0 m 326 ls []) := ih
    generalize hkk : s13_heapsChange_l326 f = k326 at hk326
    rw [s13_heapsChange_l326] at hsh
    rw [hkk] at hsh
    try dsimp only at hsh
    refine lv_iload_n hx hb dX13_heapsChange_326 rfl (hl.at 1 rfl) ?_
    refine e_aload_n (B := B) (x := x0) hx hb dX13_heapsChange_327 rfl (hl.at 0 rfl) ?_
    obtain ⟨v328, h328, hsh⟩ := Option.bind_eq_some_iff.mp hsh
    refine e_getI (k := 84) hx hb hts in_X13 hown hp h328 rfl (by decide) (by decide) rfl (hts _ kf13_693) rfl dX13_heapsChange_328 ?_
    refine e_icmp_ge (tgt := 350) hx hb dX13_heapsChange_331 (by decide) (fun c331 => ?_) (fun c331 => ?_)
    · rw [if_pos c331] at hsh
      cases hsh
      exact e_vret hx hb hrt hlk hp hS dX13_heapsChange_350
    · rw [if_neg c331] at hsh
      refine e_aload_n (B := B) (x := x0) hx hb dX13_heapsChange_334 rfl (hl.at 0 rfl) ?_
      refine e_aload_n (B := B) (x := x0) hx hb dX13_heapsChange_335 rfl (hl.at 0 rfl) ?_
      obtain ⟨v336, h336, hsh⟩ := Option.bind_eq_some_iff.mp hsh
      refine e_getR (k := 85) hx hb hts in_X13 hown hp h336 rfl (by decide) (by decide) rfl (hts _ kf13_111) rfl dX13_heapsChange_336 ?_
      refine lv_iload_n hx hb dX13_heapsChange_339 rfl (hl.at 1 rfl) ?_
      obtain ⟨v340, h340, hsh⟩ := Option.bind_eq_some_iff.mp hsh
      refine e_iald hx hb hp h340 dX13_heapsChange_340 ?_
      obtain ⟨S341, h341, hsh⟩ := Option.bind_eq_some_iff.mp hsh
      have ok341 := ok13_heaps h341
      refine e_callV (nL := 6) (mc := 0) (ms := 0) (T := TX13) (N := 126) (As := [.int (iI (v340))]) (rest := []) hx hb hml hown hts hp hS hl.size ok341.1 ok341.2.1 ok341.2.2 rfl (by decide) (c13_heaps l D cA B S S341 (x0) (v340) h341) rfl rfl kd13_heaps (kl13_702) ks13_heaps kv13_heaps ki13 kh13_heaps ⟨Nat.le_of_ble_eq_true rfl, Nat.le_of_ble_eq_true rfl⟩ rfl (by simp [e_rv_cat, e_int_cat]) ⟨Nat.le_refl _, Nat.le_refl _⟩ dX13_heapsChange_341 rfl (fun H locs hp hS => ?_)
      refine e_iinc (n := 1) (x := x2) (lv' := [(2, .int (iI ((x2 + 1)))), (0, e_rv B (x0))]) hx hb dX13_heapsChange_344 hl (k := 1) rfl (by decide) rfl (fun ls hl => ?_)
      refine lv_goto (tgt := 326) hx hb dX13_heapsChange_347 (by decide) ?_
      exact hk326 hp hS (hl.sub [1, 0] rfl) hsh
set_option maxRecDepth 100000 in
set_option maxHeartbeats 4000000 in
theorem w13_heapsChange_b320 {p : Program} {l : Launch} {e : Env} {s : State} {m : MethodId} {args : Array Value} {below : List Frame} {meth : Method} {c : Code} {D : va_G} {cA : Nat → ClassId} {B : Nat} {res : HP} {k289 : HP → Int → Int → Int → Int → Option (HP)} (hk289 : ∀ {ls : Array Slot} {H : Heap} {locs : List Loc} {S : HP} {x0 : Int} {x1 : Int} {x2 : Int} {x5 : Int} (hp : e_Pic D cA B S s H) (hS : va_S (e_A B) s.heap H locs) (hl : e_lo ls 6 [(0, e_rv B (x0)), (1, .int (iI (x1))), (2, .int (iI (x2))), (5, .int (iI (x5)))]) (hsh : k289 S x0 x1 x2 x5 = some res), W p l e ({ frames := 2, cells := 0, slots := 0, locals := 42 } : Room) s m args below meth c H locs 0 0 (MQ below (e_Qv D cA B res) args s 0 0 (e_A B)) (F0 m 289 ls [])) (E : e_En p s m args meth c cX13_heapsChange RX13 6 none) {ls : Array Slot} {H : Heap} {locs : List Loc} {S : HP} {x0 : Int} {x1 : Int} {x2 : Int} {x5 : Int} (hp : e_Pic D cA B S s H) (hS : va_S (e_A B) s.heap H locs) (hl : e_lo ls 6 [(0, e_rv B (x0)), (1, .int (iI (x1))), (2, .int (iI (x2))), (5, .int (iI (x5)))]) (hsh : s13_heapsChange_b320 k289 S x0 x1 x2 x5 = some res) : W p l e ({ frames := 2, cells := 0, slots := 0, locals := 42 } : Room) s m args below meth c H locs 0 0 (MQ below (e_Qv D cA B res) args s 0 0 (e_A B)) (F0 m 320 ls []) := by
  obtain ⟨hx, hb, hml, hown, hts, hlk, hrt⟩ := id E
  unfold s13_heapsChange_b320 at hsh
  refine e_iinc (n := 1) (x := x2) (lv' := [(2, .int (iI ((x2 + 1)))), (0, e_rv B (x0)), (1, .int (iI (x1))), (5, .int (iI (x5)))]) hx hb dX13_heapsChange_320 hl (k := 2) rfl (by decide) rfl (fun ls hl => ?_)
  refine lv_goto (tgt := 289) hx hb dX13_heapsChange_323 (by decide) ?_
  exact hk289 hp hS (hl.sub [1, 2, 0, 3] rfl) hsh
set_option maxRecDepth 100000 in
set_option maxHeartbeats 4000000 in
theorem w13_heapsChange_l289 {p : Program} {l : Launch} {e : Env} {s : State} {m : MethodId} {args : Array Value} {below : List Frame} {meth : Method} {c : Code} {D : va_G} {cA : Nat → ClassId} {B : Nat} {res : HP} (E : e_En p s m args meth c cX13_heapsChange RX13 6 none) : ∀ (f : Nat) {ls : Array Slot} {H : Heap} {locs : List Loc} {S : HP} {x0 : Int} {x1 : Int} {x2 : Int} {x5 : Int} (hp : e_Pic D cA B S s H) (hS : va_S (e_A B) s.heap H locs) (hl : e_lo ls 6 [(0, e_rv B (x0)), (1, .int (iI (x1))), (2, .int (iI (x2))), (5, .int (iI (x5)))]) (hsh : s13_heapsChange_l289 f S x0 x1 x2 x5 = some res), W p l e ({ frames := 2, cells := 0, slots := 0, locals := 42 } : Room) s m args below meth c H locs 0 0 (MQ below (e_Qv D cA B res) args s 0 0 (e_A B)) (F0 m 289 ls []) := by
  obtain ⟨hx, hb, hml, hown, hts, hlk, hrt⟩ := id E
  intro f
  induction f with
  | zero => intro ls H locs S x0 x1 x2 x5 hp hS hl hsh; cases hsh
  | succ f ih =>
    intro ls H locs S x0 x1 x2 x5 hp hS hl hsh
    have hk289 : ∀ {ls : Array Slot} {H : Heap} {locs : List Loc} {S : HP} {x0 : Int} {x1 : Int} {x2 : Int} {x5 : Int} (hp : e_Pic D cA B S s H) (hS : va_S (e_A B) s.heap H locs) (hl : e_lo ls 6 [(0, e_rv B (x0)), (1, .int (iI (x1))), (2, .int (iI (x2))), (5, .int (iI (x5)))]) (hsh : (s13_heapsChange_l289 f) S x0 x1 x2 x5 = some res), W p l e ({ frames := 2, cells := 0, slots := 0, locals := 42 } : Room) s m args below meth c H locs 0 0 (MQ below (e_Qv D cA B res) args s 0 0 (e_A B)) (F0 m 289 ls []) := ih
    generalize hkk : s13_heapsChange_l289 f = k289 at hk289
    rw [s13_heapsChange_l289] at hsh
    rw [hkk] at hsh
    try dsimp only at hsh
    refine lv_iload hx hb dX13_heapsChange_289 (hl.at 3 rfl) ?_
    refine e_if_eq (tgt := 326) hx hb dX13_heapsChange_291 (by decide) (fun c291 => ?_) (fun c291 => ?_)
    · rw [if_pos c291] at hsh
      exact w13_heapsChange_l326 E 1000000 hp hS (hl.sub [0, 2] rfl) hsh
    · rw [if_neg c291] at hsh
      refine e_aload_n (B := B) (x := x0) hx hb dX13_heapsChange_294 rfl (hl.at 0 rfl) ?_
      obtain ⟨v295, h295, hsh⟩ := Option.bind_eq_some_iff.mp hsh
      refine e_getR (k := 85) hx hb hts in_X13 hown hp h295 rfl (by decide) (by decide) rfl (hts _ kf13_111) rfl dX13_heapsChange_295 ?_
      refine lv_iload_n hx hb dX13_heapsChange_298 rfl (hl.at 2 rfl) ?_
      obtain ⟨v299, h299, hsh⟩ := Option.bind_eq_some_iff.mp hsh
      refine e_iald hx hb hp h299 dX13_heapsChange_299 ?_
      obtain ⟨⟨v300, S300⟩, h300, hsh⟩ := Option.bind_eq_some_iff.mp hsh
      have hsh : _ = _ := hsh
      try dsimp only at hsh
      refine e_callS (nL := 6) (mc := 0) (ms := 0) (As := [.int (iI (v299))]) (rest := []) hx hb hml hown hts hp hS hl.size (c13_isDigit l D cA B S S300 (v299) v300 h300) rfl rfl kd13_isDigit (kl13_822) ks13_isDigit ki13 kh13_isDigit ⟨Nat.le_of_ble_eq_true rfl, Nat.le_of_ble_eq_true rfl⟩ rfl (by simp [e_rv_cat, e_int_cat]) ⟨Nat.le_refl _, Nat.le_refl _⟩ dX13_heapsChange_300 rfl (fun H locs hp hS => ?_)
      refine e_if_eq (tgt := 326) hx hb dX13_heapsChange_303 (by decide) (fun c303 => ?_) (fun c303 => ?_)
      · rw [if_pos c303] at hsh
        exact w13_heapsChange_l326 E 1000000 hp hS (hl.sub [0, 2] rfl) hsh
      · rw [if_neg c303] at hsh
        refine lv_iload_n hx hb dX13_heapsChange_306 rfl (hl.at 1 rfl) ?_
        refine e_if_ne (tgt := 320) hx hb dX13_heapsChange_307 (by decide) (fun c307 => ?_) (fun c307 => ?_)
        · rw [if_neg c307] at hsh
          exact w13_heapsChange_b320 (hk289 := hk289) E hp hS (hl.sub [0, 1, 2, 3] rfl) hsh
        · rw [if_pos c307] at hsh
          refine e_aload_n (B := B) (x := x0) hx hb dX13_heapsChange_310 rfl (hl.at 0 rfl) ?_
          refine e_aload_n (B := B) (x := x0) hx hb dX13_heapsChange_311 rfl (hl.at 0 rfl) ?_
          obtain ⟨v312, h312, hsh⟩ := Option.bind_eq_some_iff.mp hsh
          refine e_getR (k := 85) hx hb hts in_X13 hown hp h312 rfl (by decide) (by decide) rfl (hts _ kf13_111) rfl dX13_heapsChange_312 ?_
          refine lv_iload_n hx hb dX13_heapsChange_315 rfl (hl.at 2 rfl) ?_
          obtain ⟨v316, h316, hsh⟩ := Option.bind_eq_some_iff.mp hsh
          refine e_iald hx hb hp h316 dX13_heapsChange_316 ?_
          obtain ⟨S317, h317, hsh⟩ := Option.bind_eq_some_iff.mp hsh
          have ok317 := ok13_heaps h317
          refine e_callV (nL := 6) (mc := 0) (ms := 0) (T := TX13) (N := 126) (As := [.int (iI (v316))]) (rest := []) hx hb hml hown hts hp hS hl.size ok317.1 ok317.2.1 ok317.2.2 rfl (by decide) (c13_heaps l D cA B S300 S317 (x0) (v316) h317) rfl rfl kd13_heaps (kl13_702) ks13_heaps kv13_heaps ki13 kh13_heaps ⟨Nat.le_of_ble_eq_true rfl, Nat.le_of_ble_eq_true rfl⟩ rfl (by simp [e_rv_cat, e_int_cat]) ⟨Nat.le_refl _, Nat.le_refl _⟩ dX13_heapsChange_317 rfl (fun H locs hp hS => ?_)
          exact w13_heapsChange_b320 (hk289 := hk289) E hp hS (hl.sub [0, 1, 2, 3] rfl) hsh
set_option maxRecDepth 100000 in
set_option maxHeartbeats 4000000 in
theorem w13_heapsChange_b287 {p : Program} {l : Launch} {e : Env} {s : State} {m : MethodId} {args : Array Value} {below : List Frame} {meth : Method} {c : Code} {D : va_G} {cA : Nat → ClassId} {B : Nat} {res : HP} (E : e_En p s m args meth c cX13_heapsChange RX13 6 none) {ls : Array Slot} {H : Heap} {locs : List Loc} {S : HP} {x0 : Int} {x1 : Int} {x2 : Int} {y0 : Int} (hp : e_Pic D cA B S s H) (hS : va_S (e_A B) s.heap H locs) (hl : e_lo ls 6 [(0, e_rv B (x0)), (1, .int (iI (x1))), (2, .int (iI (x2)))]) (hsh : s13_heapsChange_b287 S x0 x1 x2 y0 = some res) : W p l e ({ frames := 2, cells := 0, slots := 0, locals := 42 } : Room) s m args below meth c H locs 0 0 (MQ below (e_Qv D cA B res) args s 0 0 (e_A B)) (F0 m 287 ls [.int (iI (y0))]) := by
  obtain ⟨hx, hb, hml, hown, hts, hlk, hrt⟩ := id E
  unfold s13_heapsChange_b287 at hsh
  refine e_istore (lv' := [(5, .int (iI (y0))), (0, e_rv B (x0)), (1, .int (iI (x1))), (2, .int (iI (x2)))]) hx hb dX13_heapsChange_287 hl (by decide) rfl (fun ls hl => ?_)
  exact w13_heapsChange_l289 E 1000000 hp hS (hl.sub [1, 2, 3, 0] rfl) hsh
set_option maxRecDepth 100000 in
set_option maxHeartbeats 4000000 in
theorem w13_heapsChange_b286 {p : Program} {l : Launch} {e : Env} {s : State} {m : MethodId} {args : Array Value} {below : List Frame} {meth : Method} {c : Code} {D : va_G} {cA : Nat → ClassId} {B : Nat} {res : HP} (E : e_En p s m args meth c cX13_heapsChange RX13 6 none) {ls : Array Slot} {H : Heap} {locs : List Loc} {S : HP} {x0 : Int} {x1 : Int} {x2 : Int} (hp : e_Pic D cA B S s H) (hS : va_S (e_A B) s.heap H locs) (hl : e_lo ls 6 [(0, e_rv B (x0)), (1, .int (iI (x1))), (2, .int (iI (x2)))]) (hsh : s13_heapsChange_b286 S x0 x1 x2 = some res) : W p l e ({ frames := 2, cells := 0, slots := 0, locals := 42 } : Room) s m args below meth c H locs 0 0 (MQ below (e_Qv D cA B res) args s 0 0 (e_A B)) (F0 m 286 ls []) := by
  obtain ⟨hx, hb, hml, hown, hts, hlk, hrt⟩ := id E
  unfold s13_heapsChange_b286 at hsh
  refine lv_iconst (v := iI (0)) hx hb dX13_heapsChange_286 rfl ?_
  exact w13_heapsChange_b287 E hp hS (hl.sub [0, 1, 2] rfl) hsh
set_option maxRecDepth 100000 in
set_option maxHeartbeats 4000000 in
theorem w13_heapsChange_b259 {p : Program} {l : Launch} {e : Env} {s : State} {m : MethodId} {args : Array Value} {below : List Frame} {meth : Method} {c : Code} {D : va_G} {cA : Nat → ClassId} {B : Nat} {res : HP} (E : e_En p s m args meth c cX13_heapsChange RX13 6 none) {ls : Array Slot} {H : Heap} {locs : List Loc} {S : HP} {x0 : Int} {x1 : Int} {x2 : Int} (hp : e_Pic D cA B S s H) (hS : va_S (e_A B) s.heap H locs) (hl : e_lo ls 6 [(0, e_rv B (x0)), (1, .int (iI (x1))), (2, .int (iI (x2)))]) (hsh : s13_heapsChange_b259 S x0 x1 x2 = some res) : W p l e ({ frames := 2, cells := 0, slots := 0, locals := 42 } : Room) s m args below meth c H locs 0 0 (MQ below (e_Qv D cA B res) args s 0 0 (e_A B)) (F0 m 259 ls []) := by
  obtain ⟨hx, hb, hml, hown, hts, hlk, hrt⟩ := id E
  unfold s13_heapsChange_b259 at hsh
  refine e_aload_n (B := B) (x := x0) hx hb dX13_heapsChange_259 rfl (hl.at 0 rfl) ?_
  obtain ⟨v260, h260, hsh⟩ := Option.bind_eq_some_iff.mp hsh
  refine e_getR (k := 85) hx hb hts in_X13 hown hp h260 rfl (by decide) (by decide) rfl (hts _ kf13_111) rfl dX13_heapsChange_260 ?_
  refine lv_iload_n hx hb dX13_heapsChange_263 rfl (hl.at 2 rfl) ?_
  obtain ⟨v264, h264, hsh⟩ := Option.bind_eq_some_iff.mp hsh
  refine e_iald hx hb hp h264 dX13_heapsChange_264 ?_
  refine lv_bipush (v := iI (48)) hx hb dX13_heapsChange_265 (by decide +kernel) ?_
  refine e_icmp_eq (tgt := 286) hx hb dX13_heapsChange_267 (by decide) (fun c267 => ?_) (fun c267 => ?_)
  · rw [if_pos c267] at hsh
    exact w13_heapsChange_b286 E hp hS (hl.sub [0, 1, 2] rfl) hsh
  · rw [if_neg c267] at hsh
    refine e_aload_n (B := B) (x := x0) hx hb dX13_heapsChange_270 rfl (hl.at 0 rfl) ?_
    obtain ⟨v271, h271, hsh⟩ := Option.bind_eq_some_iff.mp hsh
    refine e_getR (k := 85) hx hb hts in_X13 hown hp h271 rfl (by decide) (by decide) rfl (hts _ kf13_111) rfl dX13_heapsChange_271 ?_
    refine lv_iload_n hx hb dX13_heapsChange_274 rfl (hl.at 2 rfl) ?_
    obtain ⟨v275, h275, hsh⟩ := Option.bind_eq_some_iff.mp hsh
    refine e_iald hx hb hp h275 dX13_heapsChange_275 ?_
    obtain ⟨⟨v276, S276⟩, h276, hsh⟩ := Option.bind_eq_some_iff.mp hsh
    have hsh : _ = _ := hsh
    try dsimp only at hsh
    refine e_callS (nL := 6) (mc := 0) (ms := 0) (As := [.int (iI (v275))]) (rest := []) hx hb hml hown hts hp hS hl.size (c13_isDigit l D cA B S S276 (v275) v276 h276) rfl rfl kd13_isDigit (kl13_822) ks13_isDigit ki13 kh13_isDigit ⟨Nat.le_of_ble_eq_true rfl, Nat.le_of_ble_eq_true rfl⟩ rfl (by simp [e_rv_cat, e_int_cat]) ⟨Nat.le_refl _, Nat.le_refl _⟩ dX13_heapsChange_276 rfl (fun H locs hp hS => ?_)
    refine e_if_eq (tgt := 286) hx hb dX13_heapsChange_279 (by decide) (fun c279 => ?_) (fun c279 => ?_)
    · rw [if_pos c279] at hsh
      exact w13_heapsChange_b286 E hp hS (hl.sub [0, 1, 2] rfl) hsh
    · rw [if_neg c279] at hsh
      refine lv_iconst (v := iI (1)) hx hb dX13_heapsChange_282 rfl ?_
      refine lv_goto (tgt := 287) hx hb dX13_heapsChange_283 (by decide) ?_
      exact w13_heapsChange_b287 E hp hS (hl.sub [0, 1, 2] rfl) hsh
set_option maxRecDepth 100000 in
set_option maxHeartbeats 4000000 in
theorem w13_heapsChange_b215 {p : Program} {l : Launch} {e : Env} {s : State} {m : MethodId} {args : Array Value} {below : List Frame} {meth : Method} {c : Code} {D : va_G} {cA : Nat → ClassId} {B : Nat} {res : HP} (E : e_En p s m args meth c cX13_heapsChange RX13 6 none) {ls : Array Slot} {H : Heap} {locs : List Loc} {S : HP} {x0 : Int} {x1 : Int} {x2 : Int} {y0 : Int} (hp : e_Pic D cA B S s H) (hS : va_S (e_A B) s.heap H locs) (hl : e_lo ls 6 [(0, e_rv B (x0)), (1, .int (iI (x1))), (2, .int (iI (x2)))]) (hsh : s13_heapsChange_b215 S x0 x1 x2 y0 = some res) : W p l e ({ frames := 2, cells := 0, slots := 0, locals := 42 } : Room) s m args below meth c H locs 0 0 (MQ below (e_Qv D cA B res) args s 0 0 (e_A B)) (F0 m 215 ls [.int (iI (y0))]) := by
  obtain ⟨hx, hb, hml, hown, hts, hlk, hrt⟩ := id E
  unfold s13_heapsChange_b215 at hsh
  refine e_istore (lv' := [(4, .int (iI (y0))), (0, e_rv B (x0)), (1, .int (iI (x1))), (2, .int (iI (x2)))]) hx hb dX13_heapsChange_215 hl (by decide) rfl (fun ls hl => ?_)
  refine lv_iload hx hb dX13_heapsChange_217 (hl.at 0 rfl) ?_
  obtain ⟨⟨v219, S219⟩, h219, hsh⟩ := Option.bind_eq_some_iff.mp hsh
  have hsh : _ = _ := hsh
  try dsimp only at hsh
  refine e_callS (nL := 6) (mc := 0) (ms := 0) (As := [.int (iI (y0))]) (rest := []) hx hb hml hown hts hp hS hl.size (c13_isOperator l D cA B S S219 (y0) v219 h219) rfl rfl kd13_isOperator (kl13_603) ks13_isOperator ki13 kh13_isOperator ⟨Nat.le_of_ble_eq_true rfl, Nat.le_of_ble_eq_true rfl⟩ rfl (by simp [e_rv_cat, e_int_cat]) ⟨Nat.le_refl _, Nat.le_refl _⟩ dX13_heapsChange_219 rfl (fun H locs hp hS => ?_)
  refine e_if_eq (tgt := 326) hx hb dX13_heapsChange_222 (by decide) (fun c222 => ?_) (fun c222 => ?_)
  · rw [if_pos c222] at hsh
    exact w13_heapsChange_l326 E 1000000 hp hS (hl.sub [1, 3] rfl) hsh
  · rw [if_neg c222] at hsh
    refine e_aload_n (B := B) (x := x0) hx hb dX13_heapsChange_225 rfl (hl.at 1 rfl) ?_
    refine e_aload_n (B := B) (x := x0) hx hb dX13_heapsChange_226 rfl (hl.at 1 rfl) ?_
    obtain ⟨v227, h227, hsh⟩ := Option.bind_eq_some_iff.mp hsh
    refine e_getR (k := 85) hx hb hts in_X13 hown hp h227 rfl (by decide) (by decide) rfl (hts _ kf13_111) rfl dX13_heapsChange_227 ?_
    refine lv_iload_n hx hb dX13_heapsChange_230 rfl (hl.at 3 rfl) ?_
    obtain ⟨v231, h231, hsh⟩ := Option.bind_eq_some_iff.mp hsh
    refine e_iald hx hb hp h231 dX13_heapsChange_231 ?_
    obtain ⟨S232, h232, hsh⟩ := Option.bind_eq_some_iff.mp hsh
    have ok232 := ok13_heaps h232
    refine e_callV (nL := 6) (mc := 0) (ms := 0) (T := TX13) (N := 126) (As := [.int (iI (v231))]) (rest := []) hx hb hml hown hts hp hS hl.size ok232.1 ok232.2.1 ok232.2.2 rfl (by decide) (c13_heaps l D cA B S219 S232 (x0) (v231) h232) rfl rfl kd13_heaps (kl13_702) ks13_heaps kv13_heaps ki13 kh13_heaps ⟨Nat.le_of_ble_eq_true rfl, Nat.le_of_ble_eq_true rfl⟩ rfl (by simp [e_rv_cat, e_int_cat]) ⟨Nat.le_refl _, Nat.le_refl _⟩ dX13_heapsChange_232 rfl (fun H locs hp hS => ?_)
    refine e_iinc (n := 1) (x := x2) (lv' := [(2, .int (iI ((x2 + 1)))), (4, .int (iI (y0))), (0, e_rv B (x0)), (1, .int (iI (x1)))]) hx hb dX13_heapsChange_235 hl (k := 3) rfl (by decide) rfl (fun ls hl => ?_)
    refine lv_iload hx hb dX13_heapsChange_238 (hl.at 1 rfl) ?_
    refine lv_sipush (v := iI (256)) hx hb dX13_heapsChange_240 (by decide +kernel) ?_
    refine e_icmp_le (tgt := 259) hx hb dX13_heapsChange_243 (by decide) (fun c243 => ?_) (fun c243 => ?_)
    · rw [if_pos c243] at hsh
      exact w13_heapsChange_b259 E hp hS (hl.sub [2, 3, 0] rfl) hsh
    · rw [if_neg c243] at hsh
      refine e_aload_n (B := B) (x := x0) hx hb dX13_heapsChange_246 rfl (hl.at 2 rfl) ?_
      refine e_aload_n (B := B) (x := x0) hx hb dX13_heapsChange_247 rfl (hl.at 2 rfl) ?_
      obtain ⟨v248, h248, hsh⟩ := Option.bind_eq_some_iff.mp hsh
      refine e_getR (k := 85) hx hb hts in_X13 hown hp h248 rfl (by decide) (by decide) rfl (hts _ kf13_111) rfl dX13_heapsChange_248 ?_
      refine lv_iload_n hx hb dX13_heapsChange_251 rfl (hl.at 0 rfl) ?_
      obtain ⟨v252, h252, hsh⟩ := Option.bind_eq_some_iff.mp hsh
      refine e_iald hx hb hp h252 dX13_heapsChange_252 ?_
      obtain ⟨S253, h253, hsh⟩ := Option.bind_eq_some_iff.mp hsh
      have ok253 := ok13_heaps h253
      refine e_callV (nL := 6) (mc := 0) (ms := 0) (T := TX13) (N := 126) (As := [.int (iI (v252))]) (rest := []) hx hb hml hown hts hp hS hl.size ok253.1 ok253.2.1 ok253.2.2 rfl (by decide) (c13_heaps l D cA B S232 S253 (x0) (v252) h253) rfl rfl kd13_heaps (kl13_702) ks13_heaps kv13_heaps ki13 kh13_heaps ⟨Nat.le_of_ble_eq_true rfl, Nat.le_of_ble_eq_true rfl⟩ rfl (by simp [e_rv_cat, e_int_cat]) ⟨Nat.le_refl _, Nat.le_refl _⟩ dX13_heapsChange_253 rfl (fun H locs hp hS => ?_)
      refine e_iinc (n := 1) (x := (x2 + 1)) (lv' := [(2, .int (iI (((x2 + 1) + 1)))), (4, .int (iI (y0))), (0, e_rv B (x0)), (1, .int (iI (x1)))]) hx hb dX13_heapsChange_256 hl (k := 0) rfl (by decide) rfl (fun ls hl => ?_)
      exact w13_heapsChange_b259 E hp hS (hl.sub [2, 3, 0] rfl) hsh
set_option maxRecDepth 100000 in
set_option maxHeartbeats 4000000 in
theorem w13_heapsChange_b197 {p : Program} {l : Launch} {e : Env} {s : State} {m : MethodId} {args : Array Value} {below : List Frame} {meth : Method} {c : Code} {D : va_G} {cA : Nat → ClassId} {B : Nat} {res : HP} (E : e_En p s m args meth c cX13_heapsChange RX13 6 none) {ls : Array Slot} {H : Heap} {locs : List Loc} {S : HP} {x0 : Int} {x1 : Int} {x2 : Int} {y0 : Int} (hp : e_Pic D cA B S s H) (hS : va_S (e_A B) s.heap H locs) (hl : e_lo ls 6 [(0, e_rv B (x0)), (1, .int (iI (x1))), (2, .int (iI (x2)))]) (hsh : s13_heapsChange_b197 S x0 x1 x2 y0 = some res) : W p l e ({ frames := 2, cells := 0, slots := 0, locals := 42 } : Room) s m args below meth c H locs 0 0 (MQ below (e_Qv D cA B res) args s 0 0 (e_A B)) (F0 m 197 ls [.int (iI (y0))]) := by
  obtain ⟨hx, hb, hml, hown, hts, hlk, hrt⟩ := id E
  unfold s13_heapsChange_b197 at hsh
  refine e_aload_n (B := B) (x := x0) hx hb dX13_heapsChange_197 rfl (hl.at 0 rfl) ?_
  obtain ⟨v198, h198, hsh⟩ := Option.bind_eq_some_iff.mp hsh
  refine e_getR (k := 85) hx hb hts in_X13 hown hp h198 rfl (by decide) (by decide) rfl (hts _ kf13_111) rfl dX13_heapsChange_198 ?_
  refine lv_iload_n hx hb dX13_heapsChange_201 rfl (hl.at 2 rfl) ?_
  refine lv_iconst (v := iI (1)) hx hb dX13_heapsChange_202 rfl ?_
  refine e_iadd hx hb dX13_heapsChange_203 ?_
  obtain ⟨v204, h204, hsh⟩ := Option.bind_eq_some_iff.mp hsh
  refine e_iald hx hb hp h204 dX13_heapsChange_204 ?_
  refine e_iadd hx hb dX13_heapsChange_205 ?_
  refine lv_goto (tgt := 215) hx hb dX13_heapsChange_206 (by decide) ?_
  exact w13_heapsChange_b215 E hp hS (hl.sub [0, 1, 2] rfl) hsh
set_option maxRecDepth 100000 in
set_option maxHeartbeats 4000000 in
theorem w13_heapsChange_b177 {p : Program} {l : Launch} {e : Env} {s : State} {m : MethodId} {args : Array Value} {below : List Frame} {meth : Method} {c : Code} {D : va_G} {cA : Nat → ClassId} {B : Nat} {res : HP} (E : e_En p s m args meth c cX13_heapsChange RX13 6 none) {ls : Array Slot} {H : Heap} {locs : List Loc} {S : HP} {x0 : Int} {x1 : Int} {x2 : Int} (hp : e_Pic D cA B S s H) (hS : va_S (e_A B) s.heap H locs) (hl : e_lo ls 6 [(0, e_rv B (x0)), (1, .int (iI (x1))), (2, .int (iI (x2)))]) (hsh : s13_heapsChange_b177 S x0 x1 x2 = some res) : W p l e ({ frames := 2, cells := 0, slots := 0, locals := 42 } : Room) s m args below meth c H locs 0 0 (MQ below (e_Qv D cA B res) args s 0 0 (e_A B)) (F0 m 177 ls []) := by
  obtain ⟨hx, hb, hml, hown, hts, hlk, hrt⟩ := id E
  unfold s13_heapsChange_b177 at hsh
  refine e_aload_n (B := B) (x := x0) hx hb dX13_heapsChange_177 rfl (hl.at 0 rfl) ?_
  obtain ⟨v178, h178, hsh⟩ := Option.bind_eq_some_iff.mp hsh
  refine e_getR (k := 85) hx hb hts in_X13 hown hp h178 rfl (by decide) (by decide) rfl (hts _ kf13_111) rfl dX13_heapsChange_178 ?_
  refine lv_iload_n hx hb dX13_heapsChange_181 rfl (hl.at 2 rfl) ?_
  obtain ⟨v182, h182, hsh⟩ := Option.bind_eq_some_iff.mp hsh
  refine e_iald hx hb hp h182 dX13_heapsChange_182 ?_
  refine lv_bipush (v := iI (103)) hx hb dX13_heapsChange_183 (by decide +kernel) ?_
  refine e_icmp_ne (tgt := 194) hx hb dX13_heapsChange_185 (by decide) (fun c185 => ?_) (fun c185 => ?_)
  · rw [if_neg c185] at hsh
    refine lv_sipush (v := iI (512)) hx hb dX13_heapsChange_194 (by decide +kernel) ?_
    exact w13_heapsChange_b197 E hp hS (hl.sub [0, 1, 2] rfl) hsh
  · rw [if_pos c185] at hsh
    refine lv_sipush (v := iI (256)) hx hb dX13_heapsChange_188 (by decide +kernel) ?_
    refine lv_goto (tgt := 197) hx hb dX13_heapsChange_191 (by decide) ?_
    exact w13_heapsChange_b197 E hp hS (hl.sub [0, 1, 2] rfl) hsh
set_option maxRecDepth 100000 in
set_option maxHeartbeats 4000000 in
theorem w13_heapsChange_b155 {p : Program} {l : Launch} {e : Env} {s : State} {m : MethodId} {args : Array Value} {below : List Frame} {meth : Method} {c : Code} {D : va_G} {cA : Nat → ClassId} {B : Nat} {res : HP} (E : e_En p s m args meth c cX13_heapsChange RX13 6 none) {ls : Array Slot} {H : Heap} {locs : List Loc} {S : HP} {x0 : Int} {x1 : Int} {x2 : Int} (hp : e_Pic D cA B S s H) (hS : va_S (e_A B) s.heap H locs) (hl : e_lo ls 6 [(0, e_rv B (x0)), (1, .int (iI (x1))), (2, .int (iI (x2)))]) (hsh : s13_heapsChange_b155 S x0 x1 x2 = some res) : W p l e ({ frames := 2, cells := 0, slots := 0, locals := 42 } : Room) s m args below meth c H locs 0 0 (MQ below (e_Qv D cA B res) args s 0 0 (e_A B)) (F0 m 155 ls []) := by
  obtain ⟨hx, hb, hml, hown, hts, hlk, hrt⟩ := id E
  unfold s13_heapsChange_b155 at hsh
  refine e_aload_n (B := B) (x := x0) hx hb dX13_heapsChange_155 rfl (hl.at 0 rfl) ?_
  obtain ⟨v156, h156, hsh⟩ := Option.bind_eq_some_iff.mp hsh
  refine e_getR (k := 85) hx hb hts in_X13 hown hp h156 rfl (by decide) (by decide) rfl (hts _ kf13_111) rfl dX13_heapsChange_156 ?_
  refine lv_iload_n hx hb dX13_heapsChange_159 rfl (hl.at 2 rfl) ?_
  obtain ⟨v160, h160, hsh⟩ := Option.bind_eq_some_iff.mp hsh
  refine e_iald hx hb hp h160 dX13_heapsChange_160 ?_
  refine lv_bipush (v := iI (103)) hx hb dX13_heapsChange_161 (by decide +kernel) ?_
  refine e_icmp_eq (tgt := 177) hx hb dX13_heapsChange_163 (by decide) (fun c163 => ?_) (fun c163 => ?_)
  · rw [if_pos c163] at hsh
    exact w13_heapsChange_b177 E hp hS (hl.sub [0, 1, 2] rfl) hsh
  · rw [if_neg c163] at hsh
    refine e_aload_n (B := B) (x := x0) hx hb dX13_heapsChange_166 rfl (hl.at 0 rfl) ?_
    obtain ⟨v167, h167, hsh⟩ := Option.bind_eq_some_iff.mp hsh
    refine e_getR (k := 85) hx hb hts in_X13 hown hp h167 rfl (by decide) (by decide) rfl (hts _ kf13_111) rfl dX13_heapsChange_167 ?_
    refine lv_iload_n hx hb dX13_heapsChange_170 rfl (hl.at 2 rfl) ?_
    obtain ⟨v171, h171, hsh⟩ := Option.bind_eq_some_iff.mp hsh
    refine e_iald hx hb hp h171 dX13_heapsChange_171 ?_
    refine lv_bipush (v := iI (122)) hx hb dX13_heapsChange_172 (by decide +kernel) ?_
    refine e_icmp_ne (tgt := 209) hx hb dX13_heapsChange_174 (by decide) (fun c174 => ?_) (fun c174 => ?_)
    · rw [if_neg c174] at hsh
      refine e_aload_n (B := B) (x := x0) hx hb dX13_heapsChange_209 rfl (hl.at 0 rfl) ?_
      obtain ⟨v210, h210, hsh⟩ := Option.bind_eq_some_iff.mp hsh
      refine e_getR (k := 85) hx hb hts in_X13 hown hp h210 rfl (by decide) (by decide) rfl (hts _ kf13_111) rfl dX13_heapsChange_210 ?_
      refine lv_iload_n hx hb dX13_heapsChange_213 rfl (hl.at 2 rfl) ?_
      obtain ⟨v214, h214, hsh⟩ := Option.bind_eq_some_iff.mp hsh
      refine e_iald hx hb hp h214 dX13_heapsChange_214 ?_
      exact w13_heapsChange_b215 E hp hS (hl.sub [0, 1, 2] rfl) hsh
    · rw [if_pos c174] at hsh
      exact w13_heapsChange_b177 E hp hS (hl.sub [0, 1, 2] rfl) hsh
set_option maxRecDepth 100000 in
set_option maxHeartbeats 4000000 in
theorem w13_heapsChange_b149 {p : Program} {l : Launch} {e : Env} {s : State} {m : MethodId} {args : Array Value} {below : List Frame} {meth : Method} {c : Code} {D : va_G} {cA : Nat → ClassId} {B : Nat} {res : HP} {k119 : HP → Int → Int → Int → Int → Option (HP)} (hk119 : ∀ {ls : Array Slot} {H : Heap} {locs : List Loc} {S : HP} {x0 : Int} {x1 : Int} {x2 : Int} {x3 : Int} (hp : e_Pic D cA B S s H) (hS : va_S (e_A B) s.heap H locs) (hl : e_lo ls 6 [(0, e_rv B (x0)), (1, .int (iI (x1))), (2, .int (iI (x2))), (3, .int (iI (x3)))]) (hsh : k119 S x0 x1 x2 x3 = some res), W p l e ({ frames := 2, cells := 0, slots := 0, locals := 42 } : Room) s m args below meth c H locs 0 0 (MQ below (e_Qv D cA B res) args s 0 0 (e_A B)) (F0 m 119 ls [])) (E : e_En p s m args meth c cX13_heapsChange RX13 6 none) {ls : Array Slot} {H : Heap} {locs : List Loc} {S : HP} {x0 : Int} {x1 : Int} {x2 : Int} {x3 : Int} (hp : e_Pic D cA B S s H) (hS : va_S (e_A B) s.heap H locs) (hl : e_lo ls 6 [(0, e_rv B (x0)), (1, .int (iI (x1))), (2, .int (iI (x2))), (3, .int (iI (x3)))]) (hsh : s13_heapsChange_b149 k119 S x0 x1 x2 x3 = some res) : W p l e ({ frames := 2, cells := 0, slots := 0, locals := 42 } : Room) s m args below meth c H locs 0 0 (MQ below (e_Qv D cA B res) args s 0 0 (e_A B)) (F0 m 149 ls []) := by
  obtain ⟨hx, hb, hml, hown, hts, hlk, hrt⟩ := id E
  unfold s13_heapsChange_b149 at hsh
  refine e_iinc (n := 1) (x := x2) (lv' := [(2, .int (iI ((x2 + 1)))), (0, e_rv B (x0)), (1, .int (iI (x1))), (3, .int (iI (x3)))]) hx hb dX13_heapsChange_149 hl (k := 2) rfl (by decide) rfl (fun ls hl => ?_)
  refine lv_goto (tgt := 119) hx hb dX13_heapsChange_152 (by decide) ?_
  exact hk119 hp hS (hl.sub [1, 2, 0, 3] rfl) hsh
set_option maxRecDepth 100000 in
set_option maxHeartbeats 4000000 in
theorem w13_heapsChange_l119 {p : Program} {l : Launch} {e : Env} {s : State} {m : MethodId} {args : Array Value} {below : List Frame} {meth : Method} {c : Code} {D : va_G} {cA : Nat → ClassId} {B : Nat} {res : HP} (E : e_En p s m args meth c cX13_heapsChange RX13 6 none) : ∀ (f : Nat) {ls : Array Slot} {H : Heap} {locs : List Loc} {S : HP} {x0 : Int} {x1 : Int} {x2 : Int} {x3 : Int} (hp : e_Pic D cA B S s H) (hS : va_S (e_A B) s.heap H locs) (hl : e_lo ls 6 [(0, e_rv B (x0)), (1, .int (iI (x1))), (2, .int (iI (x2))), (3, .int (iI (x3)))]) (hsh : s13_heapsChange_l119 f S x0 x1 x2 x3 = some res), W p l e ({ frames := 2, cells := 0, slots := 0, locals := 42 } : Room) s m args below meth c H locs 0 0 (MQ below (e_Qv D cA B res) args s 0 0 (e_A B)) (F0 m 119 ls []) := by
  obtain ⟨hx, hb, hml, hown, hts, hlk, hrt⟩ := id E
  intro f
  induction f with
  | zero => intro ls H locs S x0 x1 x2 x3 hp hS hl hsh; cases hsh
  | succ f ih =>
    intro ls H locs S x0 x1 x2 x3 hp hS hl hsh
    have hk119 : ∀ {ls : Array Slot} {H : Heap} {locs : List Loc} {S : HP} {x0 : Int} {x1 : Int} {x2 : Int} {x3 : Int} (hp : e_Pic D cA B S s H) (hS : va_S (e_A B) s.heap H locs) (hl : e_lo ls 6 [(0, e_rv B (x0)), (1, .int (iI (x1))), (2, .int (iI (x2))), (3, .int (iI (x3)))]) (hsh : (s13_heapsChange_l119 f) S x0 x1 x2 x3 = some res), W p l e ({ frames := 2, cells := 0, slots := 0, locals := 42 } : Room) s m args below meth c H locs 0 0 (MQ below (e_Qv D cA B res) args s 0 0 (e_A B)) (F0 m 119 ls []) := ih
    generalize hkk : s13_heapsChange_l119 f = k119 at hk119
    rw [s13_heapsChange_l119] at hsh
    rw [hkk] at hsh
    try dsimp only at hsh
    refine lv_iload_n hx hb dX13_heapsChange_119 rfl (hl.at 3 rfl) ?_
    refine e_if_eq (tgt := 155) hx hb dX13_heapsChange_120 (by decide) (fun c120 => ?_) (fun c120 => ?_)
    · rw [if_pos c120] at hsh
      exact w13_heapsChange_b155 E hp hS (hl.sub [0, 1, 2] rfl) hsh
    · rw [if_neg c120] at hsh
      refine e_aload_n (B := B) (x := x0) hx hb dX13_heapsChange_123 rfl (hl.at 0 rfl) ?_
      obtain ⟨v124, h124, hsh⟩ := Option.bind_eq_some_iff.mp hsh
      refine e_getR (k := 85) hx hb hts in_X13 hown hp h124 rfl (by decide) (by decide) rfl (hts _ kf13_111) rfl dX13_heapsChange_124 ?_
      refine lv_iload_n hx hb dX13_heapsChange_127 rfl (hl.at 2 rfl) ?_
      obtain ⟨v128, h128, hsh⟩ := Option.bind_eq_some_iff.mp hsh
      refine e_iald hx hb hp h128 dX13_heapsChange_128 ?_
      obtain ⟨⟨v129, S129⟩, h129, hsh⟩ := Option.bind_eq_some_iff.mp hsh
      have hsh : _ = _ := hsh
      try dsimp only at hsh
      refine e_callS (nL := 6) (mc := 0) (ms := 0) (As := [.int (iI (v128))]) (rest := []) hx hb hml hown hts hp hS hl.size (c13_isDigit l D cA B S S129 (v128) v129 h129) rfl rfl kd13_isDigit (kl13_822) ks13_isDigit ki13 kh13_isDigit ⟨Nat.le_of_ble_eq_true rfl, Nat.le_of_ble_eq_true rfl⟩ rfl (by simp [e_rv_cat, e_int_cat]) ⟨Nat.le_refl _, Nat.le_refl _⟩ dX13_heapsChange_129 rfl (fun H locs hp hS => ?_)
      refine e_if_eq (tgt := 155) hx hb dX13_heapsChange_132 (by decide) (fun c132 => ?_) (fun c132 => ?_)
      · rw [if_pos c132] at hsh
        exact w13_heapsChange_b155 E hp hS (hl.sub [0, 1, 2] rfl) hsh
      · rw [if_neg c132] at hsh
        refine lv_iload_n hx hb dX13_heapsChange_135 rfl (hl.at 1 rfl) ?_
        refine e_if_ne (tgt := 149) hx hb dX13_heapsChange_136 (by decide) (fun c136 => ?_) (fun c136 => ?_)
        · rw [if_neg c136] at hsh
          exact w13_heapsChange_b149 (hk119 := hk119) E hp hS (hl.sub [0, 1, 2, 3] rfl) hsh
        · rw [if_pos c136] at hsh
          refine e_aload_n (B := B) (x := x0) hx hb dX13_heapsChange_139 rfl (hl.at 0 rfl) ?_
          refine e_aload_n (B := B) (x := x0) hx hb dX13_heapsChange_140 rfl (hl.at 0 rfl) ?_
          obtain ⟨v141, h141, hsh⟩ := Option.bind_eq_some_iff.mp hsh
          refine e_getR (k := 85) hx hb hts in_X13 hown hp h141 rfl (by decide) (by decide) rfl (hts _ kf13_111) rfl dX13_heapsChange_141 ?_
          refine lv_iload_n hx hb dX13_heapsChange_144 rfl (hl.at 2 rfl) ?_
          obtain ⟨v145, h145, hsh⟩ := Option.bind_eq_some_iff.mp hsh
          refine e_iald hx hb hp h145 dX13_heapsChange_145 ?_
          obtain ⟨S146, h146, hsh⟩ := Option.bind_eq_some_iff.mp hsh
          have ok146 := ok13_heaps h146
          refine e_callV (nL := 6) (mc := 0) (ms := 0) (T := TX13) (N := 126) (As := [.int (iI (v145))]) (rest := []) hx hb hml hown hts hp hS hl.size ok146.1 ok146.2.1 ok146.2.2 rfl (by decide) (c13_heaps l D cA B S129 S146 (x0) (v145) h146) rfl rfl kd13_heaps (kl13_702) ks13_heaps kv13_heaps ki13 kh13_heaps ⟨Nat.le_of_ble_eq_true rfl, Nat.le_of_ble_eq_true rfl⟩ rfl (by simp [e_rv_cat, e_int_cat]) ⟨Nat.le_refl _, Nat.le_refl _⟩ dX13_heapsChange_146 rfl (fun H locs hp hS => ?_)
          exact w13_heapsChange_b149 (hk119 := hk119) E hp hS (hl.sub [0, 1, 2, 3] rfl) hsh
set_option maxRecDepth 100000 in
set_option maxHeartbeats 4000000 in
theorem w13_heapsChange_b118 {p : Program} {l : Launch} {e : Env} {s : State} {m : MethodId} {args : Array Value} {below : List Frame} {meth : Method} {c : Code} {D : va_G} {cA : Nat → ClassId} {B : Nat} {res : HP} (E : e_En p s m args meth c cX13_heapsChange RX13 6 none) {ls : Array Slot} {H : Heap} {locs : List Loc} {S : HP} {x0 : Int} {x1 : Int} {x2 : Int} {y0 : Int} (hp : e_Pic D cA B S s H) (hS : va_S (e_A B) s.heap H locs) (hl : e_lo ls 6 [(0, e_rv B (x0)), (1, .int (iI (x1))), (2, .int (iI (x2)))]) (hsh : s13_heapsChange_b118 S x0 x1 x2 y0 = some res) : W p l e ({ frames := 2, cells := 0, slots := 0, locals := 42 } : Room) s m args below meth c H locs 0 0 (MQ below (e_Qv D cA B res) args s 0 0 (e_A B)) (F0 m 118 ls [.int (iI (y0))]) := by
  obtain ⟨hx, hb, hml, hown, hts, hlk, hrt⟩ := id E
  unfold s13_heapsChange_b118 at hsh
  refine e_istore_n (lv' := [(3, .int (iI (y0))), (0, e_rv B (x0)), (1, .int (iI (x1))), (2, .int (iI (x2)))]) hx hb dX13_heapsChange_118 rfl hl (by decide) rfl (fun ls hl => ?_)
  exact w13_heapsChange_l119 E 1000000 hp hS (hl.sub [1, 2, 3, 0] rfl) hsh
set_option maxRecDepth 100000 in
set_option maxHeartbeats 4000000 in
theorem w13_heapsChange_b117 {p : Program} {l : Launch} {e : Env} {s : State} {m : MethodId} {args : Array Value} {below : List Frame} {meth : Method} {c : Code} {D : va_G} {cA : Nat → ClassId} {B : Nat} {res : HP} (E : e_En p s m args meth c cX13_heapsChange RX13 6 none) {ls : Array Slot} {H : Heap} {locs : List Loc} {S : HP} {x0 : Int} {x1 : Int} {x2 : Int} (hp : e_Pic D cA B S s H) (hS : va_S (e_A B) s.heap H locs) (hl : e_lo ls 6 [(0, e_rv B (x0)), (1, .int (iI (x1))), (2, .int (iI (x2)))]) (hsh : s13_heapsChange_b117 S x0 x1 x2 = some res) : W p l e ({ frames := 2, cells := 0, slots := 0, locals := 42 } : Room) s m args below meth c H locs 0 0 (MQ below (e_Qv D cA B res) args s 0 0 (e_A B)) (F0 m 117 ls []) := by
  obtain ⟨hx, hb, hml, hown, hts, hlk, hrt⟩ := id E
  unfold s13_heapsChange_b117 at hsh
  refine lv_iconst (v := iI (0)) hx hb dX13_heapsChange_117 rfl ?_
  exact w13_heapsChange_b118 E hp hS (hl.sub [0, 1, 2] rfl) hsh
set_option maxRecDepth 100000 in
set_option maxHeartbeats 4000000 in
theorem w13_heapsChange_b90 {p : Program} {l : Launch} {e : Env} {s : State} {m : MethodId} {args : Array Value} {below : List Frame} {meth : Method} {c : Code} {D : va_G} {cA : Nat → ClassId} {B : Nat} {res : HP} (E : e_En p s m args meth c cX13_heapsChange RX13 6 none) {ls : Array Slot} {H : Heap} {locs : List Loc} {S : HP} {x0 : Int} {x1 : Int} {x2 : Int} (hp : e_Pic D cA B S s H) (hS : va_S (e_A B) s.heap H locs) (hl : e_lo ls 6 [(0, e_rv B (x0)), (1, .int (iI (x1))), (2, .int (iI (x2)))]) (hsh : s13_heapsChange_b90 S x0 x1 x2 = some res) : W p l e ({ frames := 2, cells := 0, slots := 0, locals := 42 } : Room) s m args below meth c H locs 0 0 (MQ below (e_Qv D cA B res) args s 0 0 (e_A B)) (F0 m 90 ls []) := by
  obtain ⟨hx, hb, hml, hown, hts, hlk, hrt⟩ := id E
  unfold s13_heapsChange_b90 at hsh
  refine e_aload_n (B := B) (x := x0) hx hb dX13_heapsChange_90 rfl (hl.at 0 rfl) ?_
  obtain ⟨v91, h91, hsh⟩ := Option.bind_eq_some_iff.mp hsh
  refine e_getR (k := 85) hx hb hts in_X13 hown hp h91 rfl (by decide) (by decide) rfl (hts _ kf13_111) rfl dX13_heapsChange_91 ?_
  refine lv_iload_n hx hb dX13_heapsChange_94 rfl (hl.at 2 rfl) ?_
  obtain ⟨v95, h95, hsh⟩ := Option.bind_eq_some_iff.mp hsh
  refine e_iald hx hb hp h95 dX13_heapsChange_95 ?_
  refine lv_bipush (v := iI (48)) hx hb dX13_heapsChange_96 (by decide +kernel) ?_
  refine e_icmp_eq (tgt := 117) hx hb dX13_heapsChange_98 (by decide) (fun c98 => ?_) (fun c98 => ?_)
  · rw [if_pos c98] at hsh
    exact w13_heapsChange_b117 E hp hS (hl.sub [0, 1, 2] rfl) hsh
  · rw [if_neg c98] at hsh
    refine e_aload_n (B := B) (x := x0) hx hb dX13_heapsChange_101 rfl (hl.at 0 rfl) ?_
    obtain ⟨v102, h102, hsh⟩ := Option.bind_eq_some_iff.mp hsh
    refine e_getR (k := 85) hx hb hts in_X13 hown hp h102 rfl (by decide) (by decide) rfl (hts _ kf13_111) rfl dX13_heapsChange_102 ?_
    refine lv_iload_n hx hb dX13_heapsChange_105 rfl (hl.at 2 rfl) ?_
    obtain ⟨v106, h106, hsh⟩ := Option.bind_eq_some_iff.mp hsh
    refine e_iald hx hb hp h106 dX13_heapsChange_106 ?_
    obtain ⟨⟨v107, S107⟩, h107, hsh⟩ := Option.bind_eq_some_iff.mp hsh
    have hsh : _ = _ := hsh
    try dsimp only at hsh
    refine e_callS (nL := 6) (mc := 0) (ms := 0) (As := [.int (iI (v106))]) (rest := []) hx hb hml hown hts hp hS hl.size (c13_isDigit l D cA B S S107 (v106) v107 h107) rfl rfl kd13_isDigit (kl13_822) ks13_isDigit ki13 kh13_isDigit ⟨Nat.le_of_ble_eq_true rfl, Nat.le_of_ble_eq_true rfl⟩ rfl (by simp [e_rv_cat, e_int_cat]) ⟨Nat.le_refl _, Nat.le_refl _⟩ dX13_heapsChange_107 rfl (fun H locs hp hS => ?_)
    refine e_if_eq (tgt := 117) hx hb dX13_heapsChange_110 (by decide) (fun c110 => ?_) (fun c110 => ?_)
    · rw [if_pos c110] at hsh
      exact w13_heapsChange_b117 E hp hS (hl.sub [0, 1, 2] rfl) hsh
    · rw [if_neg c110] at hsh
      refine lv_iconst (v := iI (1)) hx hb dX13_heapsChange_113 rfl ?_
      refine lv_goto (tgt := 118) hx hb dX13_heapsChange_114 (by decide) ?_
      exact w13_heapsChange_b118 E hp hS (hl.sub [0, 1, 2] rfl) hsh
set_option maxRecDepth 100000 in
set_option maxHeartbeats 4000000 in
theorem w13_heapsChange_b75 {p : Program} {l : Launch} {e : Env} {s : State} {m : MethodId} {args : Array Value} {below : List Frame} {meth : Method} {c : Code} {D : va_G} {cA : Nat → ClassId} {B : Nat} {res : HP} (E : e_En p s m args meth c cX13_heapsChange RX13 6 none) {ls : Array Slot} {H : Heap} {locs : List Loc} {S : HP} {x0 : Int} {x1 : Int} {x2 : Int} (hp : e_Pic D cA B S s H) (hS : va_S (e_A B) s.heap H locs) (hl : e_lo ls 6 [(0, e_rv B (x0)), (1, .int (iI (x1))), (2, .int (iI (x2)))]) (hsh : s13_heapsChange_b75 S x0 x1 x2 = some res) : W p l e ({ frames := 2, cells := 0, slots := 0, locals := 42 } : Room) s m args below meth c H locs 0 0 (MQ below (e_Qv D cA B res) args s 0 0 (e_A B)) (F0 m 75 ls []) := by
  obtain ⟨hx, hb, hml, hown, hts, hlk, hrt⟩ := id E
  unfold s13_heapsChange_b75 at hsh
  refine lv_iload_n hx hb dX13_heapsChange_75 rfl (hl.at 1 rfl) ?_
  refine e_if_le (tgt := 90) hx hb dX13_heapsChange_76 (by decide) (fun c76 => ?_) (fun c76 => ?_)
  · rw [if_pos c76] at hsh
    exact w13_heapsChange_b90 E hp hS (hl.sub [0, 1, 2] rfl) hsh
  · rw [if_neg c76] at hsh
    refine e_aload_n (B := B) (x := x0) hx hb dX13_heapsChange_79 rfl (hl.at 0 rfl) ?_
    refine lv_bipush (v := iI (48)) hx hb dX13_heapsChange_80 (by decide +kernel) ?_
    refine lv_iload_n hx hb dX13_heapsChange_82 rfl (hl.at 1 rfl) ?_
    refine lv_bipush (v := iI (10)) hx hb dX13_heapsChange_83 (by decide +kernel) ?_
    obtain ⟨v85, h85, hsh⟩ := Option.bind_eq_some_iff.mp hsh
    refine e_irem hx hb h85 dX13_heapsChange_85 ?_
    refine e_iadd hx hb dX13_heapsChange_86 ?_
    obtain ⟨S87, h87, hsh⟩ := Option.bind_eq_some_iff.mp hsh
    have ok87 := ok13_heaps h87
    refine e_callV (nL := 6) (mc := 0) (ms := 0) (T := TX13) (N := 126) (As := [.int (iI ((48 + v85)))]) (rest := []) hx hb hml hown hts hp hS hl.size ok87.1 ok87.2.1 ok87.2.2 rfl (by decide) (c13_heaps l D cA B S S87 (x0) ((48 + v85)) h87) rfl rfl kd13_heaps (kl13_702) ks13_heaps kv13_heaps ki13 kh13_heaps ⟨Nat.le_of_ble_eq_true rfl, Nat.le_of_ble_eq_true rfl⟩ rfl (by simp [e_rv_cat, e_int_cat]) ⟨Nat.le_refl _, Nat.le_refl _⟩ dX13_heapsChange_87 rfl (fun H locs hp hS => ?_)
    exact w13_heapsChange_b90 E hp hS (hl.sub [0, 1, 2] rfl) hsh
set_option maxRecDepth 100000 in
set_option maxHeartbeats 4000000 in
theorem w13_heapsChange_b58 {p : Program} {l : Launch} {e : Env} {s : State} {m : MethodId} {args : Array Value} {below : List Frame} {meth : Method} {c : Code} {D : va_G} {cA : Nat → ClassId} {B : Nat} {res : HP} (E : e_En p s m args meth c cX13_heapsChange RX13 6 none) {ls : Array Slot} {H : Heap} {locs : List Loc} {S : HP} {x0 : Int} {x1 : Int} {x2 : Int} (hp : e_Pic D cA B S s H) (hS : va_S (e_A B) s.heap H locs) (hl : e_lo ls 6 [(0, e_rv B (x0)), (1, .int (iI (x1))), (2, .int (iI (x2)))]) (hsh : s13_heapsChange_b58 S x0 x1 x2 = some res) : W p l e ({ frames := 2, cells := 0, slots := 0, locals := 42 } : Room) s m args below meth c H locs 0 0 (MQ below (e_Qv D cA B res) args s 0 0 (e_A B)) (F0 m 58 ls []) := by
  obtain ⟨hx, hb, hml, hown, hts, hlk, hrt⟩ := id E
  unfold s13_heapsChange_b58 at hsh
  refine lv_iload_n hx hb dX13_heapsChange_58 rfl (hl.at 1 rfl) ?_
  refine lv_bipush (v := iI (9)) hx hb dX13_heapsChange_59 (by decide +kernel) ?_
  refine e_icmp_le (tgt := 75) hx hb dX13_heapsChange_61 (by decide) (fun c61 => ?_) (fun c61 => ?_)
  · rw [if_pos c61] at hsh
    exact w13_heapsChange_b75 E hp hS (hl.sub [0, 1, 2] rfl) hsh
  · rw [if_neg c61] at hsh
    refine e_aload_n (B := B) (x := x0) hx hb dX13_heapsChange_64 rfl (hl.at 0 rfl) ?_
    refine lv_bipush (v := iI (48)) hx hb dX13_heapsChange_65 (by decide +kernel) ?_
    refine lv_iload_n hx hb dX13_heapsChange_67 rfl (hl.at 1 rfl) ?_
    refine lv_bipush (v := iI (10)) hx hb dX13_heapsChange_68 (by decide +kernel) ?_
    obtain ⟨v70, h70, hsh⟩ := Option.bind_eq_some_iff.mp hsh
    refine e_idiv hx hb h70 dX13_heapsChange_70 ?_
    refine e_iadd hx hb dX13_heapsChange_71 ?_
    obtain ⟨S72, h72, hsh⟩ := Option.bind_eq_some_iff.mp hsh
    have ok72 := ok13_heaps h72
    refine e_callV (nL := 6) (mc := 0) (ms := 0) (T := TX13) (N := 126) (As := [.int (iI ((48 + v70)))]) (rest := []) hx hb hml hown hts hp hS hl.size ok72.1 ok72.2.1 ok72.2.2 rfl (by decide) (c13_heaps l D cA B S S72 (x0) ((48 + v70)) h72) rfl rfl kd13_heaps (kl13_702) ks13_heaps kv13_heaps ki13 kh13_heaps ⟨Nat.le_of_ble_eq_true rfl, Nat.le_of_ble_eq_true rfl⟩ rfl (by simp [e_rv_cat, e_int_cat]) ⟨Nat.le_refl _, Nat.le_refl _⟩ dX13_heapsChange_72 rfl (fun H locs hp hS => ?_)
    exact w13_heapsChange_b75 E hp hS (hl.sub [0, 1, 2] rfl) hsh
set_option maxRecDepth 100000 in
set_option maxHeartbeats 4000000 in
theorem w13_heapsChange_b53 {p : Program} {l : Launch} {e : Env} {s : State} {m : MethodId} {args : Array Value} {below : List Frame} {meth : Method} {c : Code} {D : va_G} {cA : Nat → ClassId} {B : Nat} {res : HP} (E : e_En p s m args meth c cX13_heapsChange RX13 6 none) {ls : Array Slot} {H : Heap} {locs : List Loc} {S : HP} {x0 : Int} {x1 : Int} {y0 : Int} {y1 : Int} (hp : e_Pic D cA B S s H) (hS : va_S (e_A B) s.heap H locs) (hl : e_lo ls 6 [(0, e_rv B (x0)), (1, .int (iI (x1)))]) (hsh : s13_heapsChange_b53 S x0 x1 y0 y1 = some res) : W p l e ({ frames := 2, cells := 0, slots := 0, locals := 42 } : Room) s m args below meth c H locs 0 0 (MQ below (e_Qv D cA B res) args s 0 0 (e_A B)) (F0 m 53 ls [.int (iI (y1)), e_rv B (y0)]) := by
  obtain ⟨hx, hb, hml, hown, hts, hlk, hrt⟩ := id E
  unfold s13_heapsChange_b53 at hsh
  obtain ⟨S53, h53, hsh⟩ := Option.bind_eq_some_iff.mp hsh
  have ok53 := ok13_heaps h53
  refine e_callV (nL := 6) (mc := 0) (ms := 0) (T := TX13) (N := 126) (As := [.int (iI (y1))]) (rest := []) hx hb hml hown hts hp hS hl.size ok53.1 ok53.2.1 ok53.2.2 rfl (by decide) (c13_heaps l D cA B S S53 (y0) (y1) h53) rfl rfl kd13_heaps (kl13_702) ks13_heaps kv13_heaps ki13 kh13_heaps ⟨Nat.le_of_ble_eq_true rfl, Nat.le_of_ble_eq_true rfl⟩ rfl (by simp [e_rv_cat, e_int_cat]) ⟨Nat.le_refl _, Nat.le_refl _⟩ dX13_heapsChange_53 rfl (fun H locs hp hS => ?_)
  refine lv_iconst (v := iI (2)) hx hb dX13_heapsChange_56 rfl ?_
  refine e_istore_n (lv' := [(2, .int (iI (2))), (0, e_rv B (x0)), (1, .int (iI (x1)))]) hx hb dX13_heapsChange_57 rfl hl (by decide) rfl (fun ls hl => ?_)
  exact w13_heapsChange_b58 E hp hS (hl.sub [1, 2, 0] rfl) hsh
set_option maxRecDepth 100000 in
set_option maxHeartbeats 4000000 in
theorem c13_heapsChange (l : Launch) (D : va_G) (cA : Nat → ClassId) (B : Nat) (S S' : HP) (x0 : Int) (x1 : Int) (hsh : s13_heapsChange S x0 x1 = some S') : Met l yX13_heapsChange (e_wu yX13_heapsChange cX13_heapsChange 6 none) ({ frames := 2, cells := 0, slots := 0, locals := 42 } : Room) (va_Pc [e_rv B (x0), .int (iI (x1))] (fun U => e_PU D cA B S U)) (e_Qv D cA B S') 0 0 (e_A B) := by
  refine Met.ofW (cc := cX13_heapsChange) (maxL := 6) (ret := none) (by decide +kernel) rfl ?_
  intro p e s m args below meth c s₁ Bd hml hv
  obtain ⟨rfl, hp⟩ := hv
  have hp : e_Pic D cA B S s s.heap := hp
  have hx := Bd.exec
  have hb := Bd.bytes
  have hrt := Bd.returns
  have hlk := Bd.notSynchronized
  have hown : s.vm.findClass RX13 = some m.cls := findClass_of_methodNamed Bd.named
  have hts : ∀ w ∈ e_tb, w.before ([e_rv B (x0), .int (iI (x1))] : List Value).toArray s = true := fun w h => atoms_spec (ws := (e_wu yX13_heapsChange cX13_heapsChange 6 none)) Bd.pre w (List.mem_cons_of_mem _ h)
  have E : e_En p s m ([e_rv B (x0), .int (iI (x1))] : List Value).toArray meth c cX13_heapsChange RX13 6 none := ⟨hx, hb, hml, hown, hts, hlk, hrt⟩
  have hS : va_S (e_A B) s.heap s.heap [] := va_S.rf
  have hl := e_entry (vs := [e_rv B (x0), .int (iI (x1))]) (n := 6) (Nat.le_of_ble_eq_true rfl) (e_cc (e_rv_cat _ _) (e_cc rfl e_cn))
  rw [lg_entry_eq]
  generalize (lg_sl [e_rv B (x0), .int (iI (x1))] ++ List.replicate (6 - (lg_sl [e_rv B (x0), .int (iI (x1))]).length) Slot.unset).toArray = ls at hl ⊢
  generalize ([e_rv B (x0), .int (iI (x1))] : List Value).toArray = args at hts E ⊢
  have hl : e_lo ls 6 [(0, e_rv B (x0)), (1, .int (iI (x1)))] := hl
  have hsh := (gd_some hsh).2
  refine lv_iconst (v := iI (0)) hx hb dX13_heapsChange_0 rfl ?_
  refine e_istore_n (lv' := [(2, .int (iI (0))), (0, e_rv B (x0)), (1, .int (iI (x1)))]) hx hb dX13_heapsChange_1 rfl hl (by decide) rfl (fun ls hl => ?_)
  refine e_aload_n (B := B) (x := x0) hx hb dX13_heapsChange_2 rfl (hl.at 1 rfl) ?_
  obtain ⟨v3, h3, hsh⟩ := Option.bind_eq_some_iff.mp hsh
  refine e_getR (k := 85) hx hb hts in_X13 hown hp h3 rfl (by decide) (by decide) rfl (hts _ kf13_111) rfl dX13_heapsChange_3 ?_
  refine lv_iconst (v := iI (0)) hx hb dX13_heapsChange_6 rfl ?_
  obtain ⟨v7, h7, hsh⟩ := Option.bind_eq_some_iff.mp hsh
  refine e_iald hx hb hp h7 dX13_heapsChange_7 ?_
  refine lv_bipush (v := iI (34)) hx hb dX13_heapsChange_8 (by decide +kernel) ?_
  refine e_icmp_ne (tgt := 58) hx hb dX13_heapsChange_10 (by decide) (fun c10 => ?_) (fun c10 => ?_)
  · rw [if_neg c10] at hsh
    exact w13_heapsChange_b58 E hp hS (hl.sub [1, 2, 0] rfl) hsh
  · rw [if_pos c10] at hsh
    refine e_aload_n (B := B) (x := x0) hx hb dX13_heapsChange_13 rfl (hl.at 1 rfl) ?_
    refine lv_bipush (v := iI (34)) hx hb dX13_heapsChange_14 (by decide +kernel) ?_
    obtain ⟨S16, h16, hsh⟩ := Option.bind_eq_some_iff.mp hsh
    have ok16 := ok13_heaps h16
    refine e_callV (nL := 6) (mc := 0) (ms := 0) (T := TX13) (N := 126) (As := [.int (iI (34))]) (rest := []) hx hb hml hown hts hp hS hl.size ok16.1 ok16.2.1 ok16.2.2 rfl (by decide) (c13_heaps l D cA B S S16 (x0) (34) h16) rfl rfl kd13_heaps (kl13_702) ks13_heaps kv13_heaps ki13 kh13_heaps ⟨Nat.le_of_ble_eq_true rfl, Nat.le_of_ble_eq_true rfl⟩ rfl (by simp [e_rv_cat, e_int_cat]) ⟨Nat.le_refl _, Nat.le_refl _⟩ dX13_heapsChange_16 rfl (fun H locs hp hS => ?_)
    refine e_aload_n (B := B) (x := x0) hx hb dX13_heapsChange_19 rfl (hl.at 1 rfl) ?_
    refine e_aload_n (B := B) (x := x0) hx hb dX13_heapsChange_20 rfl (hl.at 1 rfl) ?_
    obtain ⟨v21, h21, hsh⟩ := Option.bind_eq_some_iff.mp hsh
    refine e_getR (k := 85) hx hb hts in_X13 hown hp h21 rfl (by decide) (by decide) rfl (hts _ kf13_111) rfl dX13_heapsChange_21 ?_
    refine lv_iconst (v := iI (1)) hx hb dX13_heapsChange_24 rfl ?_
    obtain ⟨v25, h25, hsh⟩ := Option.bind_eq_some_iff.mp hsh
    refine e_iald hx hb hp h25 dX13_heapsChange_25 ?_
    refine lv_bipush (v := iI (49)) hx hb dX13_heapsChange_26 (by decide +kernel) ?_
    refine lv_bipush (v := iI (56)) hx hb dX13_heapsChange_28 (by decide +kernel) ?_
    obtain ⟨⟨v30, S30⟩, h30, hsh⟩ := Option.bind_eq_some_iff.mp hsh
    have hsh : _ = _ := hsh
    try dsimp only at hsh
    refine e_callS (nL := 6) (mc := 0) (ms := 0) (As := [.int (iI (v25)), .int (iI (49)), .int (iI (56))]) (rest := [e_rv B (x0)]) hx hb hml hown hts hp hS hl.size (c13_isIn l D cA B S16 S30 (v25) (49) (56) v30 h30) rfl rfl kd13_isIn (kl13_198) ks13_isIn ki13 kh13_isIn ⟨Nat.le_of_ble_eq_true rfl, Nat.le_of_ble_eq_true rfl⟩ rfl (by simp [e_rv_cat, e_int_cat]) ⟨Nat.le_refl _, Nat.le_refl _⟩ dX13_heapsChange_30 rfl (fun H locs hp hS => ?_)
    refine e_if_eq (tgt := 47) hx hb dX13_heapsChange_33 (by decide) (fun c33 => ?_) (fun c33 => ?_)
    · rw [if_pos c33] at hsh
      refine e_aload_n (B := B) (x := x0) hx hb dX13_heapsChange_47 rfl (hl.at 1 rfl) ?_
      obtain ⟨v48, h48, hsh⟩ := Option.bind_eq_some_iff.mp hsh
      refine e_getR (k := 85) hx hb hts in_X13 hown hp h48 rfl (by decide) (by decide) rfl (hts _ kf13_111) rfl dX13_heapsChange_48 ?_
      refine lv_iconst (v := iI (1)) hx hb dX13_heapsChange_51 rfl ?_
      obtain ⟨v52, h52, hsh⟩ := Option.bind_eq_some_iff.mp hsh
      refine e_iald hx hb hp h52 dX13_heapsChange_52 ?_
      exact w13_heapsChange_b53 E hp hS (hl.sub [1, 2] rfl) hsh
    · rw [if_neg c33] at hsh
      refine e_aload_n (B := B) (x := x0) hx hb dX13_heapsChange_36 rfl (hl.at 1 rfl) ?_
      obtain ⟨v37, h37, hsh⟩ := Option.bind_eq_some_iff.mp hsh
      refine e_getR (k := 85) hx hb hts in_X13 hown hp h37 rfl (by decide) (by decide) rfl (hts _ kf13_111) rfl dX13_heapsChange_37 ?_
      refine lv_iconst (v := iI (1)) hx hb dX13_heapsChange_40 rfl ?_
      obtain ⟨v41, h41, hsh⟩ := Option.bind_eq_some_iff.mp hsh
      refine e_iald hx hb hp h41 dX13_heapsChange_41 ?_
      refine lv_iconst (v := iI (1)) hx hb dX13_heapsChange_42 rfl ?_
      refine e_iadd hx hb dX13_heapsChange_43 ?_
      refine lv_goto (tgt := 53) hx hb dX13_heapsChange_44 (by decide) ?_
      exact w13_heapsChange_b53 E hp hS (hl.sub [1, 2] rfl) hsh
theorem ok13_repeatsChange {S : HP} {x0 : Int} {r : Int × HP} (h : s13_repeatsChange S x0 = some r) : 0 ≤ x0 ∧ x0.toNat < e_n S ∧ e_g S x0.toNat = 13 := (gd_some h).1
set_option maxRecDepth 100000 in
set_option maxHeartbeats 4000000 in
theorem w13_repeatsChange_b16 {p : Program} {l : Launch} {e : Env} {s : State} {m : MethodId} {args : Array Value} {below : List Frame} {meth : Method} {c : Code} {D : va_G} {cA : Nat → ClassId} {B : Nat} {res : Int × HP} (E : e_En p s m args meth c cX13_repeatsChange RX13 2 (some .boolean)) {ls : Array Slot} {H : Heap} {locs : List Loc} {S : HP} (hp : e_Pic D cA B S s H) (hS : va_S (e_A B) s.heap H locs) (hl : e_lo ls 2 []) (hsh : s13_repeatsChange_b16 S  = some res) : W p l e ({ frames := 3, cells := 0, slots := 0, locals := 67 } : Room) s m args below meth c H locs 0 0 (MQ below (e_Qi D cA B res.1 res.2) args s 0 0 (e_A B)) (F0 m 16 ls []) := by
  obtain ⟨hx, hb, hml, hown, hts, hlk, hrt⟩ := id E
  unfold s13_repeatsChange_b16 at hsh
  refine lv_iconst (v := iI (0)) hx hb dX13_repeatsChange_16 rfl ?_
  obtain ⟨hz, hz1, hz2⟩ := zR_some hsh
  rw [← hz1, ← hz2]
  exact e_zret hx hb hrt hlk hp hS hz dX13_repeatsChange_17
set_option maxRecDepth 100000 in
set_option maxHeartbeats 4000000 in
theorem c13_repeatsChange (l : Launch) (D : va_G) (cA : Nat → ClassId) (B : Nat) (S S' : HP) (x0 : Int) (r : Int) (hsh : s13_repeatsChange S x0 = some (r, S')) : Met l yX13_repeatsChange (e_wu yX13_repeatsChange cX13_repeatsChange 2 (some .boolean)) ({ frames := 3, cells := 0, slots := 0, locals := 67 } : Room) (va_Pc [e_rv B (x0)] (fun U => e_PU D cA B S U)) (e_Qi D cA B r S') 0 0 (e_A B) := by
  refine Met.ofW (cc := cX13_repeatsChange) (maxL := 2) (ret := (some .boolean)) (by decide +kernel) rfl ?_
  intro p e s m args below meth c s₁ Bd hml hv
  obtain ⟨rfl, hp⟩ := hv
  have hp : e_Pic D cA B S s s.heap := hp
  have hx := Bd.exec
  have hb := Bd.bytes
  have hrt := Bd.returns
  have hlk := Bd.notSynchronized
  have hown : s.vm.findClass RX13 = some m.cls := findClass_of_methodNamed Bd.named
  have hts : ∀ w ∈ e_tb, w.before ([e_rv B (x0)] : List Value).toArray s = true := fun w h => atoms_spec (ws := (e_wu yX13_repeatsChange cX13_repeatsChange 2 (some .boolean))) Bd.pre w (List.mem_cons_of_mem _ h)
  have E : e_En p s m ([e_rv B (x0)] : List Value).toArray meth c cX13_repeatsChange RX13 2 (some .boolean) := ⟨hx, hb, hml, hown, hts, hlk, hrt⟩
  have hS : va_S (e_A B) s.heap s.heap [] := va_S.rf
  have hl := e_entry (vs := [e_rv B (x0)]) (n := 2) (Nat.le_of_ble_eq_true rfl) (e_cc (e_rv_cat _ _) e_cn)
  rw [lg_entry_eq]
  generalize (lg_sl [e_rv B (x0)] ++ List.replicate (2 - (lg_sl [e_rv B (x0)]).length) Slot.unset).toArray = ls at hl ⊢
  generalize ([e_rv B (x0)] : List Value).toArray = args at hts E ⊢
  have hl : e_lo ls 2 [(0, e_rv B (x0))] := hl
  have hsh := (gd_some hsh).2
  refine e_aload_n (B := B) (x := x0) hx hb dX13_repeatsChange_0 rfl (hl.at 0 rfl) ?_
  obtain ⟨v1, h1, hsh⟩ := Option.bind_eq_some_iff.mp hsh
  refine e_getI (k := 84) hx hb hts in_X13 hown hp h1 rfl (by decide) (by decide) rfl (hts _ kf13_693) rfl dX13_repeatsChange_1 ?_
  refine e_if_eq (tgt := 16) hx hb dX13_repeatsChange_4 (by decide) (fun c4 => ?_) (fun c4 => ?_)
  · rw [if_pos c4] at hsh
    exact w13_repeatsChange_b16 E hp hS (hl.sub [] rfl) hsh
  · rw [if_neg c4] at hsh
    refine e_aload_n (B := B) (x := x0) hx hb dX13_repeatsChange_7 rfl (hl.at 0 rfl) ?_
    obtain ⟨⟨v8, S8⟩, h8, hsh⟩ := Option.bind_eq_some_iff.mp hsh
    have hsh : _ = _ := hsh
    try dsimp only at hsh
    have ok8 := ok13_playings h8
    refine e_callI (nL := 2) (mc := 0) (ms := 0) (T := TX13) (N := 126) (As := []) (rest := []) hx hb hml hown hts hp hS hl.size ok8.1 ok8.2.1 ok8.2.2 rfl (by decide) (c13_playings l D cA B S S8 (x0) v8 h8) rfl rfl kd13_playings (kl13_818) ks13_playings kv13_playings ki13 kh13_playings ⟨Nat.le_of_ble_eq_true rfl, Nat.le_of_ble_eq_true rfl⟩ rfl (by simp [e_rv_cat, e_int_cat]) ⟨Nat.le_refl _, Nat.le_refl _⟩ dX13_repeatsChange_8 rfl (fun H locs hp hS => ?_)
    refine lv_bipush (v := iI (20)) hx hb dX13_repeatsChange_11 (by decide +kernel) ?_
    refine e_icmp_ne (tgt := 18) hx hb dX13_repeatsChange_13 (by decide) (fun c13 => ?_) (fun c13 => ?_)
    · rw [if_neg c13] at hsh
      refine e_aload_n (B := B) (x := x0) hx hb dX13_repeatsChange_18 rfl (hl.at 0 rfl) ?_
      obtain ⟨v19, h19, hsh⟩ := Option.bind_eq_some_iff.mp hsh
      refine e_getI (k := 59) hx hb hts in_X13 hown hp h19 rfl (by decide) (by decide) rfl (hts _ kf13_654) rfl dX13_repeatsChange_19 ?_
      refine e_istore_n (lv' := [(1, .int (iI (v19))), (0, e_rv B (x0))]) hx hb dX13_repeatsChange_22 rfl hl (by decide) rfl (fun ls hl => ?_)
      refine e_aload_n (B := B) (x := x0) hx hb dX13_repeatsChange_23 rfl (hl.at 1 rfl) ?_
      refine lv_iconst (v := iI (0)) hx hb dX13_repeatsChange_24 rfl ?_
      obtain ⟨S25, h25, hsh⟩ := Option.bind_eq_some_iff.mp hsh
      refine e_putI (k := 23) hx hb hts in_X13 tyX13 tyX13_ok nmX13 hown hp hS h25 rfl (by decide) (by decide) rfl (hts _ kf13_244) rfl rfl (by decide +kernel) dX13_repeatsChange_25 (fun H locs hp hS => ?_)
      refine e_aload_n (B := B) (x := x0) hx hb dX13_repeatsChange_28 rfl (hl.at 1 rfl) ?_
      refine lv_iconst (v := iI (2)) hx hb dX13_repeatsChange_29 rfl ?_
      refine lv_iconst (v := iI (1)) hx hb dX13_repeatsChange_30 rfl ?_
      obtain ⟨S31, h31, hsh⟩ := Option.bind_eq_some_iff.mp hsh
      have ok31 := ok13_begins h31
      refine e_callV (nL := 2) (mc := 0) (ms := 0) (T := TX13) (N := 126) (As := [.int (iI (2)), .int (iI (1))]) (rest := []) hx hb hml hown hts hp hS hl.size ok31.1 ok31.2.1 ok31.2.2 rfl (by decide) (c13_begins l D cA B S25 S31 (x0) (2) (1) h31) rfl rfl kd13_begins (kl13_699) ks13_begins kv13_begins ki13 kh13_begins ⟨Nat.le_of_ble_eq_true rfl, Nat.le_of_ble_eq_true rfl⟩ rfl (by simp [e_rv_cat, e_int_cat]) ⟨Nat.le_refl _, Nat.le_refl _⟩ dX13_repeatsChange_31 rfl (fun H locs hp hS => ?_)
      refine e_aload_n (B := B) (x := x0) hx hb dX13_repeatsChange_34 rfl (hl.at 1 rfl) ?_
      refine lv_iload_n hx hb dX13_repeatsChange_35 rfl (hl.at 0 rfl) ?_
      obtain ⟨S36, h36, hsh⟩ := Option.bind_eq_some_iff.mp hsh
      have ok36 := ok13_heapsChange h36
      refine e_callV (nL := 2) (mc := 0) (ms := 0) (T := TX13) (N := 126) (As := [.int (iI (v19))]) (rest := []) hx hb hml hown hts hp hS hl.size ok36.1 ok36.2.1 ok36.2.2 rfl (by decide) (c13_heapsChange l D cA B S31 S36 (x0) (v19) h36) rfl rfl kd13_heapsChange (kl13_825) ks13_heapsChange kv13_heapsChange ki13 kh13_heapsChange ⟨Nat.le_of_ble_eq_true rfl, Nat.le_of_ble_eq_true rfl⟩ rfl (by simp [e_rv_cat, e_int_cat]) ⟨Nat.le_refl _, Nat.le_refl _⟩ dX13_repeatsChange_36 rfl (fun H locs hp hS => ?_)
      refine lv_iconst (v := iI (1)) hx hb dX13_repeatsChange_39 rfl ?_
      obtain ⟨hz, hz1, hz2⟩ := zR_some hsh
      rw [← hz1, ← hz2]
      exact e_zret hx hb hrt hlk hp hS hz dX13_repeatsChange_40
    · rw [if_pos c13] at hsh
      exact w13_repeatsChange_b16 E hp hS (hl.sub [] rfl) hsh
theorem ok13_isBehind {S : HP} {x0 : Int} {r : Int × HP} (h : s13_isBehind S x0 = some r) : 0 ≤ x0 ∧ x0.toNat < e_n S ∧ e_g S x0.toNat = 13 := (gd_some h).1
set_option maxRecDepth 100000 in
set_option maxHeartbeats 4000000 in
theorem w13_isBehind_b38 {p : Program} {l : Launch} {e : Env} {s : State} {m : MethodId} {args : Array Value} {below : List Frame} {meth : Method} {c : Code} {D : va_G} {cA : Nat → ClassId} {B : Nat} {res : Int × HP} (E : e_En p s m args meth c cX13_isBehind RX13 1 (some .boolean)) {ls : Array Slot} {H : Heap} {locs : List Loc} {S : HP} {y0 : Int} (hp : e_Pic D cA B S s H) (hS : va_S (e_A B) s.heap H locs) (hl : e_lo ls 1 []) (hsh : s13_isBehind_b38 S y0 = some res) : W p l e ({ frames := 0, cells := 0, slots := 0, locals := 0 } : Room) s m args below meth c H locs 0 0 (MQ below (e_Qi D cA B res.1 res.2) args s 0 0 (e_A B)) (F0 m 38 ls [.int (iI (y0))]) := by
  obtain ⟨hx, hb, hml, hown, hts, hlk, hrt⟩ := id E
  unfold s13_isBehind_b38 at hsh
  obtain ⟨hz, hz1, hz2⟩ := zR_some hsh
  rw [← hz1, ← hz2]
  exact e_zret hx hb hrt hlk hp hS hz dX13_isBehind_38
set_option maxRecDepth 100000 in
set_option maxHeartbeats 4000000 in
theorem w13_isBehind_b33 {p : Program} {l : Launch} {e : Env} {s : State} {m : MethodId} {args : Array Value} {below : List Frame} {meth : Method} {c : Code} {D : va_G} {cA : Nat → ClassId} {B : Nat} {res : Int × HP} (E : e_En p s m args meth c cX13_isBehind RX13 1 (some .boolean)) {ls : Array Slot} {H : Heap} {locs : List Loc} {S : HP} (hp : e_Pic D cA B S s H) (hS : va_S (e_A B) s.heap H locs) (hl : e_lo ls 1 []) (hsh : s13_isBehind_b33 S  = some res) : W p l e ({ frames := 0, cells := 0, slots := 0, locals := 0 } : Room) s m args below meth c H locs 0 0 (MQ below (e_Qi D cA B res.1 res.2) args s 0 0 (e_A B)) (F0 m 33 ls []) := by
  obtain ⟨hx, hb, hml, hown, hts, hlk, hrt⟩ := id E
  unfold s13_isBehind_b33 at hsh
  refine lv_iconst (v := iI (1)) hx hb dX13_isBehind_33 rfl ?_
  refine lv_goto (tgt := 38) hx hb dX13_isBehind_34 (by decide) ?_
  exact w13_isBehind_b38 E hp hS (hl.sub [] rfl) hsh
set_option maxRecDepth 100000 in
set_option maxHeartbeats 4000000 in
theorem w13_isBehind_b37 {p : Program} {l : Launch} {e : Env} {s : State} {m : MethodId} {args : Array Value} {below : List Frame} {meth : Method} {c : Code} {D : va_G} {cA : Nat → ClassId} {B : Nat} {res : Int × HP} (E : e_En p s m args meth c cX13_isBehind RX13 1 (some .boolean)) {ls : Array Slot} {H : Heap} {locs : List Loc} {S : HP} (hp : e_Pic D cA B S s H) (hS : va_S (e_A B) s.heap H locs) (hl : e_lo ls 1 []) (hsh : s13_isBehind_b37 S  = some res) : W p l e ({ frames := 0, cells := 0, slots := 0, locals := 0 } : Room) s m args below meth c H locs 0 0 (MQ below (e_Qi D cA B res.1 res.2) args s 0 0 (e_A B)) (F0 m 37 ls []) := by
  obtain ⟨hx, hb, hml, hown, hts, hlk, hrt⟩ := id E
  unfold s13_isBehind_b37 at hsh
  refine lv_iconst (v := iI (0)) hx hb dX13_isBehind_37 rfl ?_
  exact w13_isBehind_b38 E hp hS (hl.sub [] rfl) hsh
set_option maxRecDepth 100000 in
set_option maxHeartbeats 4000000 in
theorem c13_isBehind (l : Launch) (D : va_G) (cA : Nat → ClassId) (B : Nat) (S S' : HP) (x0 : Int) (r : Int) (hsh : s13_isBehind S x0 = some (r, S')) : Met l yX13_isBehind (e_wu yX13_isBehind cX13_isBehind 1 (some .boolean)) ({ frames := 0, cells := 0, slots := 0, locals := 0 } : Room) (va_Pc [e_rv B (x0)] (fun U => e_PU D cA B S U)) (e_Qi D cA B r S') 0 0 (e_A B) := by
  refine Met.ofW (cc := cX13_isBehind) (maxL := 1) (ret := (some .boolean)) (by decide +kernel) rfl ?_
  intro p e s m args below meth c s₁ Bd hml hv
  obtain ⟨rfl, hp⟩ := hv
  have hp : e_Pic D cA B S s s.heap := hp
  have hx := Bd.exec
  have hb := Bd.bytes
  have hrt := Bd.returns
  have hlk := Bd.notSynchronized
  have hown : s.vm.findClass RX13 = some m.cls := findClass_of_methodNamed Bd.named
  have hts : ∀ w ∈ e_tb, w.before ([e_rv B (x0)] : List Value).toArray s = true := fun w h => atoms_spec (ws := (e_wu yX13_isBehind cX13_isBehind 1 (some .boolean))) Bd.pre w (List.mem_cons_of_mem _ h)
  have E : e_En p s m ([e_rv B (x0)] : List Value).toArray meth c cX13_isBehind RX13 1 (some .boolean) := ⟨hx, hb, hml, hown, hts, hlk, hrt⟩
  have hS : va_S (e_A B) s.heap s.heap [] := va_S.rf
  have hl := e_entry (vs := [e_rv B (x0)]) (n := 1) (Nat.le_of_ble_eq_true rfl) (e_cc (e_rv_cat _ _) e_cn)
  rw [lg_entry_eq]
  generalize (lg_sl [e_rv B (x0)] ++ List.replicate (1 - (lg_sl [e_rv B (x0)]).length) Slot.unset).toArray = ls at hl ⊢
  generalize ([e_rv B (x0)] : List Value).toArray = args at hts E ⊢
  have hl : e_lo ls 1 [(0, e_rv B (x0))] := hl
  have hsh := (gd_some hsh).2
  refine e_aload_n (B := B) (x := x0) hx hb dX13_isBehind_0 rfl (hl.at 0 rfl) ?_
  obtain ⟨v1, h1, hsh⟩ := Option.bind_eq_some_iff.mp hsh
  refine e_getI (k := 9) hx hb hts in_X13 hown hp h1 rfl (by decide) (by decide) rfl (hts _ kf13_748) rfl dX13_isBehind_1 ?_
  refine e_aload_n (B := B) (x := x0) hx hb dX13_isBehind_4 rfl (hl.at 0 rfl) ?_
  obtain ⟨v5, h5, hsh⟩ := Option.bind_eq_some_iff.mp hsh
  refine e_getI (k := 5) hx hb hts in_X13 hown hp h5 rfl (by decide) (by decide) rfl (hts _ kf13_213) rfl dX13_isBehind_5 ?_
  refine e_icmp_gt (tgt := 33) hx hb dX13_isBehind_8 (by decide) (fun c8 => ?_) (fun c8 => ?_)
  · rw [if_pos c8] at hsh
    exact w13_isBehind_b33 E hp hS (hl.sub [] rfl) hsh
  · rw [if_neg c8] at hsh
    refine e_aload_n (B := B) (x := x0) hx hb dX13_isBehind_11 rfl (hl.at 0 rfl) ?_
    obtain ⟨v12, h12, hsh⟩ := Option.bind_eq_some_iff.mp hsh
    refine e_getI (k := 9) hx hb hts in_X13 hown hp h12 rfl (by decide) (by decide) rfl (hts _ kf13_748) rfl dX13_isBehind_12 ?_
    refine e_aload_n (B := B) (x := x0) hx hb dX13_isBehind_15 rfl (hl.at 0 rfl) ?_
    obtain ⟨v16, h16, hsh⟩ := Option.bind_eq_some_iff.mp hsh
    refine e_getI (k := 5) hx hb hts in_X13 hown hp h16 rfl (by decide) (by decide) rfl (hts _ kf13_213) rfl dX13_isBehind_16 ?_
    refine e_icmp_ne (tgt := 37) hx hb dX13_isBehind_19 (by decide) (fun c19 => ?_) (fun c19 => ?_)
    · rw [if_neg c19] at hsh
      exact w13_isBehind_b37 E hp hS (hl.sub [] rfl) hsh
    · rw [if_pos c19] at hsh
      refine e_aload_n (B := B) (x := x0) hx hb dX13_isBehind_22 rfl (hl.at 0 rfl) ?_
      obtain ⟨v23, h23, hsh⟩ := Option.bind_eq_some_iff.mp hsh
      refine e_getI (k := 10) hx hb hts in_X13 hown hp h23 rfl (by decide) (by decide) rfl (hts _ kf13_751) rfl dX13_isBehind_23 ?_
      refine e_aload_n (B := B) (x := x0) hx hb dX13_isBehind_26 rfl (hl.at 0 rfl) ?_
      obtain ⟨v27, h27, hsh⟩ := Option.bind_eq_some_iff.mp hsh
      refine e_getI (k := 6) hx hb hts in_X13 hown hp h27 rfl (by decide) (by decide) rfl (hts _ kf13_216) rfl dX13_isBehind_27 ?_
      refine e_icmp_le (tgt := 37) hx hb dX13_isBehind_30 (by decide) (fun c30 => ?_) (fun c30 => ?_)
      · rw [if_pos c30] at hsh
        exact w13_isBehind_b37 E hp hS (hl.sub [] rfl) hsh
      · rw [if_neg c30] at hsh
        exact w13_isBehind_b33 E hp hS (hl.sub [] rfl) hsh
theorem ok13_spansSelection {S : HP} {x0 : Int} {r : HP} (h : s13_spansSelection S x0 = some r) : 0 ≤ x0 ∧ x0.toNat < e_n S ∧ e_g S x0.toNat = 13 := (gd_some h).1
set_option maxRecDepth 100000 in
set_option maxHeartbeats 4000000 in
theorem w13_spansSelection_b154 {p : Program} {l : Launch} {e : Env} {s : State} {m : MethodId} {args : Array Value} {below : List Frame} {meth : Method} {c : Code} {D : va_G} {cA : Nat → ClassId} {B : Nat} {res : HP} (E : e_En p s m args meth c cX13_spansSelection RX13 5 none) {ls : Array Slot} {H : Heap} {locs : List Loc} {S : HP} (hp : e_Pic D cA B S s H) (hS : va_S (e_A B) s.heap H locs) (hl : e_lo ls 5 []) (hsh : s13_spansSelection_b154 S  = some res) : W p l e ({ frames := 2, cells := 0, slots := 0, locals := 47 } : Room) s m args below meth c H locs 0 0 (MQ below (e_Qv D cA B res) args s 0 0 (e_A B)) (F0 m 154 ls []) := by
  obtain ⟨hx, hb, hml, hown, hts, hlk, hrt⟩ := id E
  unfold s13_spansSelection_b154 at hsh
  cases hsh
  exact e_vret hx hb hrt hlk hp hS dX13_spansSelection_154
set_option maxRecDepth 100000 in
set_option maxHeartbeats 4000000 in
theorem w13_spansSelection_b137 {p : Program} {l : Launch} {e : Env} {s : State} {m : MethodId} {args : Array Value} {below : List Frame} {meth : Method} {c : Code} {D : va_G} {cA : Nat → ClassId} {B : Nat} {res : HP} (E : e_En p s m args meth c cX13_spansSelection RX13 5 none) {ls : Array Slot} {H : Heap} {locs : List Loc} {S : HP} {x0 : Int} {x2 : Int} {x4 : Int} {y0 : Int} {y1 : Int} {y2 : Int} {y3 : Int} (hp : e_Pic D cA B S s H) (hS : va_S (e_A B) s.heap H locs) (hl : e_lo ls 5 [(0, e_rv B (x0)), (2, .int (iI (x2))), (4, .int (iI (x4)))]) (hsh : s13_spansSelection_b137 S x0 x2 x4 y0 y1 y2 y3 = some res) : W p l e ({ frames := 2, cells := 0, slots := 0, locals := 47 } : Room) s m args below meth c H locs 0 0 (MQ below (e_Qv D cA B res) args s 0 0 (e_A B)) (F0 m 137 ls [.int (iI (y3)), .int (iI (y2)), .int (iI (y1)), e_rv B (y0)]) := by
  obtain ⟨hx, hb, hml, hown, hts, hlk, hrt⟩ := id E
  unfold s13_spansSelection_b137 at hsh
  refine lv_iload_n hx hb dX13_spansSelection_137 rfl (hl.at 1 rfl) ?_
  refine lv_iload hx hb dX13_spansSelection_138 (hl.at 2 rfl) ?_
  refine lv_iconst (v := iI (1)) hx hb dX13_spansSelection_140 rfl ?_
  refine e_iadd hx hb dX13_spansSelection_141 ?_
  refine e_aload_n (B := B) (x := x0) hx hb dX13_spansSelection_142 rfl (hl.at 0 rfl) ?_
  obtain ⟨v143, h143, hsh⟩ := Option.bind_eq_some_iff.mp hsh
  refine e_getR (k := 3) hx hb hts in_X13 hown hp h143 rfl (by decide) (by decide) rfl (hts _ kf13_17) rfl dX13_spansSelection_143 ?_
  refine lv_iload_n hx hb dX13_spansSelection_146 rfl (hl.at 1 rfl) ?_
  obtain ⟨v147, h147, hsh⟩ := Option.bind_eq_some_iff.mp hsh
  refine e_iald hx hb hp h147 dX13_spansSelection_147 ?_
  obtain ⟨⟨v148, S148⟩, h148, hsh⟩ := Option.bind_eq_some_iff.mp hsh
  have hsh : _ = _ := hsh
  try dsimp only at hsh
  refine e_callS (nL := 5) (mc := 0) (ms := 0) (As := [.int (iI ((x4 + 1))), .int (iI (v147))]) (rest := [.int (iI (x2)), .int (iI (y3)), .int (iI (y2)), .int (iI (y1)), e_rv B (y0)]) hx hb hml hown hts hp hS hl.size (c13_lesser l D cA B S S148 ((x4 + 1)) (v147) v148 h148) rfl rfl kd13_lesser (kl13_257) ks13_lesser ki13 kh13_lesser ⟨Nat.le_of_ble_eq_true rfl, Nat.le_of_ble_eq_true rfl⟩ rfl (by simp [e_rv_cat, e_int_cat]) ⟨Nat.le_refl _, Nat.le_refl _⟩ dX13_spansSelection_148 rfl (fun H locs hp hS => ?_)
  obtain ⟨S151, h151, hsh⟩ := Option.bind_eq_some_iff.mp hsh
  have ok151 := ok13_spans h151
  refine e_callV (nL := 5) (mc := 0) (ms := 0) (T := TX13) (N := 126) (As := [.int (iI (y1)), .int (iI (y2)), .int (iI (y3)), .int (iI (x2)), .int (iI (v148))]) (rest := []) hx hb hml hown hts hp hS hl.size ok151.1 ok151.2.1 ok151.2.2 rfl (by decide) (c13_spans l D cA B S148 S151 (y0) (y1) (y2) (y3) (x2) (v148) h151) rfl rfl kd13_spans (kl13_410) ks13_spans kv13_spans ki13 kh13_spans ⟨Nat.le_of_ble_eq_true rfl, Nat.le_of_ble_eq_true rfl⟩ rfl (by simp [e_rv_cat, e_int_cat]) ⟨Nat.le_refl _, Nat.le_refl _⟩ dX13_spansSelection_151 rfl (fun H locs hp hS => ?_)
  exact w13_spansSelection_b154 E hp hS (hl.sub [] rfl) hsh
set_option maxRecDepth 100000 in
set_option maxHeartbeats 4000000 in
theorem w13_spansSelection_b117 {p : Program} {l : Launch} {e : Env} {s : State} {m : MethodId} {args : Array Value} {below : List Frame} {meth : Method} {c : Code} {D : va_G} {cA : Nat → ClassId} {B : Nat} {res : HP} (E : e_En p s m args meth c cX13_spansSelection RX13 5 none) {ls : Array Slot} {H : Heap} {locs : List Loc} {S : HP} {x0 : Int} {x1 : Int} {x2 : Int} {x3 : Int} {y0 : Int} (hp : e_Pic D cA B S s H) (hS : va_S (e_A B) s.heap H locs) (hl : e_lo ls 5 [(0, e_rv B (x0)), (1, .int (iI (x1))), (2, .int (iI (x2))), (3, .int (iI (x3)))]) (hsh : s13_spansSelection_b117 S x0 x1 x2 x3 y0 = some res) : W p l e ({ frames := 2, cells := 0, slots := 0, locals := 47 } : Room) s m args below meth c H locs 0 0 (MQ below (e_Qv D cA B res) args s 0 0 (e_A B)) (F0 m 117 ls [.int (iI (y0))]) := by
  obtain ⟨hx, hb, hml, hown, hts, hlk, hrt⟩ := id E
  unfold s13_spansSelection_b117 at hsh
  refine e_istore (lv' := [(4, .int (iI (y0))), (0, e_rv B (x0)), (1, .int (iI (x1))), (2, .int (iI (x2))), (3, .int (iI (x3)))]) hx hb dX13_spansSelection_117 hl (by decide) rfl (fun ls hl => ?_)
  refine e_aload_n (B := B) (x := x0) hx hb dX13_spansSelection_119 rfl (hl.at 1 rfl) ?_
  refine lv_iconst (v := iI (1)) hx hb dX13_spansSelection_120 rfl ?_
  refine lv_iload_n hx hb dX13_spansSelection_121 rfl (hl.at 2 rfl) ?_
  refine e_aload_n (B := B) (x := x0) hx hb dX13_spansSelection_122 rfl (hl.at 1 rfl) ?_
  obtain ⟨⟨v123, S123⟩, h123, hsh⟩ := Option.bind_eq_some_iff.mp hsh
  have hsh : _ = _ := hsh
  try dsimp only at hsh
  have ok123 := ok13_isBehind h123
  refine e_callI (nL := 5) (mc := 0) (ms := 0) (T := TX13) (N := 126) (As := []) (rest := [.int (iI (x1)), .int (iI (1)), e_rv B (x0)]) hx hb hml hown hts hp hS hl.size ok123.1 ok123.2.1 ok123.2.2 rfl (by decide) (c13_isBehind l D cA B S S123 (x0) v123 h123) rfl rfl kd13_isBehind (kl13_834) ks13_isBehind kv13_isBehind ki13 kh13_isBehind ⟨Nat.le_of_ble_eq_true rfl, Nat.le_of_ble_eq_true rfl⟩ rfl (by simp [e_rv_cat, e_int_cat]) ⟨Nat.le_refl _, Nat.le_refl _⟩ dX13_spansSelection_123 rfl (fun H locs hp hS => ?_)
  refine e_if_eq (tgt := 136) hx hb dX13_spansSelection_126 (by decide) (fun c126 => ?_) (fun c126 => ?_)
  · rw [if_pos c126] at hsh
    refine lv_iload_n hx hb dX13_spansSelection_136 rfl (hl.at 4 rfl) ?_
    exact w13_spansSelection_b137 E hp hS (hl.sub [1, 3, 0] rfl) hsh
  · rw [if_neg c126] at hsh
    refine e_aload_n (B := B) (x := x0) hx hb dX13_spansSelection_129 rfl (hl.at 1 rfl) ?_
    obtain ⟨v130, h130, hsh⟩ := Option.bind_eq_some_iff.mp hsh
    refine e_getI (k := 6) hx hb hts in_X13 hown hp h130 rfl (by decide) (by decide) rfl (hts _ kf13_216) rfl dX13_spansSelection_130 ?_
    refine lv_goto (tgt := 137) hx hb dX13_spansSelection_133 (by decide) ?_
    exact w13_spansSelection_b137 E hp hS (hl.sub [1, 3, 0] rfl) hsh
set_option maxRecDepth 100000 in
set_option maxHeartbeats 4000000 in
theorem c13_spansSelection (l : Launch) (D : va_G) (cA : Nat → ClassId) (B : Nat) (S S' : HP) (x0 : Int) (hsh : s13_spansSelection S x0 = some S') : Met l yX13_spansSelection (e_wu yX13_spansSelection cX13_spansSelection 5 none) ({ frames := 2, cells := 0, slots := 0, locals := 47 } : Room) (va_Pc [e_rv B (x0)] (fun U => e_PU D cA B S U)) (e_Qv D cA B S') 0 0 (e_A B) := by
  refine Met.ofW (cc := cX13_spansSelection) (maxL := 5) (ret := none) (by decide +kernel) rfl ?_
  intro p e s m args below meth c s₁ Bd hml hv
  obtain ⟨rfl, hp⟩ := hv
  have hp : e_Pic D cA B S s s.heap := hp
  have hx := Bd.exec
  have hb := Bd.bytes
  have hrt := Bd.returns
  have hlk := Bd.notSynchronized
  have hown : s.vm.findClass RX13 = some m.cls := findClass_of_methodNamed Bd.named
  have hts : ∀ w ∈ e_tb, w.before ([e_rv B (x0)] : List Value).toArray s = true := fun w h => atoms_spec (ws := (e_wu yX13_spansSelection cX13_spansSelection 5 none)) Bd.pre w (List.mem_cons_of_mem _ h)
  have E : e_En p s m ([e_rv B (x0)] : List Value).toArray meth c cX13_spansSelection RX13 5 none := ⟨hx, hb, hml, hown, hts, hlk, hrt⟩
  have hS : va_S (e_A B) s.heap s.heap [] := va_S.rf
  have hl := e_entry (vs := [e_rv B (x0)]) (n := 5) (Nat.le_of_ble_eq_true rfl) (e_cc (e_rv_cat _ _) e_cn)
  rw [lg_entry_eq]
  generalize (lg_sl [e_rv B (x0)] ++ List.replicate (5 - (lg_sl [e_rv B (x0)]).length) Slot.unset).toArray = ls at hl ⊢
  generalize ([e_rv B (x0)] : List Value).toArray = args at hts E ⊢
  have hl : e_lo ls 5 [(0, e_rv B (x0))] := hl
  have hsh := (gd_some hsh).2
  refine e_aload_n (B := B) (x := x0) hx hb dX13_spansSelection_0 rfl (hl.at 0 rfl) ?_
  obtain ⟨v1, h1, hsh⟩ := Option.bind_eq_some_iff.mp hsh
  refine e_getI (k := 9) hx hb hts in_X13 hown hp h1 rfl (by decide) (by decide) rfl (hts _ kf13_748) rfl dX13_spansSelection_1 ?_
  refine e_aload_n (B := B) (x := x0) hx hb dX13_spansSelection_4 rfl (hl.at 0 rfl) ?_
  obtain ⟨v5, h5, hsh⟩ := Option.bind_eq_some_iff.mp hsh
  refine e_getI (k := 5) hx hb hts in_X13 hown hp h5 rfl (by decide) (by decide) rfl (hts _ kf13_213) rfl dX13_spansSelection_5 ?_
  obtain ⟨⟨v8, S8⟩, h8, hsh⟩ := Option.bind_eq_some_iff.mp hsh
  have hsh : _ = _ := hsh
  try dsimp only at hsh
  refine e_callS (nL := 5) (mc := 0) (ms := 0) (As := [.int (iI (v1)), .int (iI (v5))]) (rest := []) hx hb hml hown hts hp hS hl.size (c13_lesser l D cA B S S8 (v1) (v5) v8 h8) rfl rfl kd13_lesser (kl13_257) ks13_lesser ki13 kh13_lesser ⟨Nat.le_of_ble_eq_true rfl, Nat.le_of_ble_eq_true rfl⟩ rfl (by simp [e_rv_cat, e_int_cat]) ⟨Nat.le_refl _, Nat.le_refl _⟩ dX13_spansSelection_8 rfl (fun H locs hp hS => ?_)
  refine e_istore_n (lv' := [(1, .int (iI (v8))), (0, e_rv B (x0))]) hx hb dX13_spansSelection_11 rfl hl (by decide) rfl (fun ls hl => ?_)
  refine e_aload_n (B := B) (x := x0) hx hb dX13_spansSelection_12 rfl (hl.at 1 rfl) ?_
  obtain ⟨v13, h13, hsh⟩ := Option.bind_eq_some_iff.mp hsh
  refine e_getI (k := 9) hx hb hts in_X13 hown hp h13 rfl (by decide) (by decide) rfl (hts _ kf13_748) rfl dX13_spansSelection_13 ?_
  refine e_aload_n (B := B) (x := x0) hx hb dX13_spansSelection_16 rfl (hl.at 1 rfl) ?_
  obtain ⟨v17, h17, hsh⟩ := Option.bind_eq_some_iff.mp hsh
  refine e_getI (k := 5) hx hb hts in_X13 hown hp h17 rfl (by decide) (by decide) rfl (hts _ kf13_213) rfl dX13_spansSelection_17 ?_
  obtain ⟨⟨v20, S20⟩, h20, hsh⟩ := Option.bind_eq_some_iff.mp hsh
  have hsh : _ = _ := hsh
  try dsimp only at hsh
  refine e_callS (nL := 5) (mc := 0) (ms := 0) (As := [.int (iI (v13)), .int (iI (v17))]) (rest := []) hx hb hml hown hts hp hS hl.size (c13_greater l D cA B S8 S20 (v13) (v17) v20 h20) rfl rfl kd13_greater (kl13_210) ks13_greater ki13 kh13_greater ⟨Nat.le_of_ble_eq_true rfl, Nat.le_of_ble_eq_true rfl⟩ rfl (by simp [e_rv_cat, e_int_cat]) ⟨Nat.le_refl _, Nat.le_refl _⟩ dX13_spansSelection_20 rfl (fun H locs hp hS => ?_)
  refine e_istore_n (lv' := [(2, .int (iI (v20))), (1, .int (iI (v8))), (0, e_rv B (x0))]) hx hb dX13_spansSelection_23 rfl hl (by decide) rfl (fun ls hl => ?_)
  refine e_aload_n (B := B) (x := x0) hx hb dX13_spansSelection_24 rfl (hl.at 2 rfl) ?_
  obtain ⟨v25, h25, hsh⟩ := Option.bind_eq_some_iff.mp hsh
  refine e_getI (k := 10) hx hb hts in_X13 hown hp h25 rfl (by decide) (by decide) rfl (hts _ kf13_751) rfl dX13_spansSelection_25 ?_
  refine e_aload_n (B := B) (x := x0) hx hb dX13_spansSelection_28 rfl (hl.at 2 rfl) ?_
  obtain ⟨v29, h29, hsh⟩ := Option.bind_eq_some_iff.mp hsh
  refine e_getR (k := 3) hx hb hts in_X13 hown hp h29 rfl (by decide) (by decide) rfl (hts _ kf13_17) rfl dX13_spansSelection_29 ?_
  refine e_aload_n (B := B) (x := x0) hx hb dX13_spansSelection_32 rfl (hl.at 2 rfl) ?_
  obtain ⟨v33, h33, hsh⟩ := Option.bind_eq_some_iff.mp hsh
  refine e_getI (k := 9) hx hb hts in_X13 hown hp h33 rfl (by decide) (by decide) rfl (hts _ kf13_748) rfl dX13_spansSelection_33 ?_
  obtain ⟨v36, h36, hsh⟩ := Option.bind_eq_some_iff.mp hsh
  refine e_iald hx hb hp h36 dX13_spansSelection_36 ?_
  obtain ⟨⟨v37, S37⟩, h37, hsh⟩ := Option.bind_eq_some_iff.mp hsh
  have hsh : _ = _ := hsh
  try dsimp only at hsh
  refine e_callS (nL := 5) (mc := 0) (ms := 0) (As := [.int (iI (v25)), .int (iI (v36))]) (rest := []) hx hb hml hown hts hp hS hl.size (c13_lesser l D cA B S20 S37 (v25) (v36) v37 h37) rfl rfl kd13_lesser (kl13_257) ks13_lesser ki13 kh13_lesser ⟨Nat.le_of_ble_eq_true rfl, Nat.le_of_ble_eq_true rfl⟩ rfl (by simp [e_rv_cat, e_int_cat]) ⟨Nat.le_refl _, Nat.le_refl _⟩ dX13_spansSelection_37 rfl (fun H locs hp hS => ?_)
  refine e_istore_n (lv' := [(3, .int (iI (v37))), (2, .int (iI (v20))), (1, .int (iI (v8))), (0, e_rv B (x0))]) hx hb dX13_spansSelection_40 rfl hl (by decide) rfl (fun ls hl => ?_)
  refine e_aload_n (B := B) (x := x0) hx hb dX13_spansSelection_41 rfl (hl.at 3 rfl) ?_
  obtain ⟨v42, h42, hsh⟩ := Option.bind_eq_some_iff.mp hsh
  refine e_getI (k := 8) hx hb hts in_X13 hown hp h42 rfl (by decide) (by decide) rfl (hts _ kf13_466) rfl dX13_spansSelection_42 ?_
  refine lv_iconst (v := iI (3)) hx hb dX13_spansSelection_45 rfl ?_
  refine e_icmp_ne (tgt := 66) hx hb dX13_spansSelection_46 (by decide) (fun c46 => ?_) (fun c46 => ?_)
  · rw [if_neg c46] at hsh
    refine e_aload_n (B := B) (x := x0) hx hb dX13_spansSelection_66 rfl (hl.at 3 rfl) ?_
    obtain ⟨v67, h67, hsh⟩ := Option.bind_eq_some_iff.mp hsh
    refine e_getI (k := 8) hx hb hts in_X13 hown hp h67 rfl (by decide) (by decide) rfl (hts _ kf13_466) rfl dX13_spansSelection_67 ?_
    refine lv_iconst (v := iI (4)) hx hb dX13_spansSelection_70 rfl ?_
    refine e_icmp_ne (tgt := 102) hx hb dX13_spansSelection_71 (by decide) (fun c71 => ?_) (fun c71 => ?_)
    · rw [if_neg c71] at hsh
      refine e_aload_n (B := B) (x := x0) hx hb dX13_spansSelection_102 rfl (hl.at 3 rfl) ?_
      obtain ⟨⟨v103, S103⟩, h103, hsh⟩ := Option.bind_eq_some_iff.mp hsh
      have hsh : _ = _ := hsh
      try dsimp only at hsh
      have ok103 := ok13_isBehind h103
      refine e_callI (nL := 5) (mc := 0) (ms := 0) (T := TX13) (N := 126) (As := []) (rest := []) hx hb hml hown hts hp hS hl.size ok103.1 ok103.2.1 ok103.2.2 rfl (by decide) (c13_isBehind l D cA B S37 S103 (x0) v103 h103) rfl rfl kd13_isBehind (kl13_834) ks13_isBehind kv13_isBehind ki13 kh13_isBehind ⟨Nat.le_of_ble_eq_true rfl, Nat.le_of_ble_eq_true rfl⟩ rfl (by simp [e_rv_cat, e_int_cat]) ⟨Nat.le_refl _, Nat.le_refl _⟩ dX13_spansSelection_103 rfl (fun H locs hp hS => ?_)
      refine e_if_eq (tgt := 113) hx hb dX13_spansSelection_106 (by decide) (fun c106 => ?_) (fun c106 => ?_)
      · rw [if_pos c106] at hsh
        refine e_aload_n (B := B) (x := x0) hx hb dX13_spansSelection_113 rfl (hl.at 3 rfl) ?_
        obtain ⟨v114, h114, hsh⟩ := Option.bind_eq_some_iff.mp hsh
        refine e_getI (k := 6) hx hb hts in_X13 hown hp h114 rfl (by decide) (by decide) rfl (hts _ kf13_216) rfl dX13_spansSelection_114 ?_
        exact w13_spansSelection_b117 E hp hS (hl.sub [3, 2, 1, 0] rfl) hsh
      · rw [if_neg c106] at hsh
        refine lv_iload_n hx hb dX13_spansSelection_109 rfl (hl.at 0 rfl) ?_
        refine lv_goto (tgt := 117) hx hb dX13_spansSelection_110 (by decide) ?_
        exact w13_spansSelection_b117 E hp hS (hl.sub [3, 2, 1, 0] rfl) hsh
    · rw [if_pos c71] at hsh
      refine e_aload_n (B := B) (x := x0) hx hb dX13_spansSelection_74 rfl (hl.at 3 rfl) ?_
      refine lv_iconst (v := iI (3)) hx hb dX13_spansSelection_75 rfl ?_
      refine lv_iload_n hx hb dX13_spansSelection_76 rfl (hl.at 2 rfl) ?_
      refine lv_iload_n hx hb dX13_spansSelection_77 rfl (hl.at 0 rfl) ?_
      refine e_aload_n (B := B) (x := x0) hx hb dX13_spansSelection_78 rfl (hl.at 3 rfl) ?_
      obtain ⟨v79, h79, hsh⟩ := Option.bind_eq_some_iff.mp hsh
      refine e_getI (k := 6) hx hb hts in_X13 hown hp h79 rfl (by decide) (by decide) rfl (hts _ kf13_216) rfl dX13_spansSelection_79 ?_
      obtain ⟨⟨v82, S82⟩, h82, hsh⟩ := Option.bind_eq_some_iff.mp hsh
      have hsh : _ = _ := hsh
      try dsimp only at hsh
      refine e_callS (nL := 5) (mc := 0) (ms := 0) (As := [.int (iI (v37)), .int (iI (v79))]) (rest := [.int (iI (v8)), .int (iI (3)), e_rv B (x0)]) hx hb hml hown hts hp hS hl.size (c13_lesser l D cA B S37 S82 (v37) (v79) v82 h82) rfl rfl kd13_lesser (kl13_257) ks13_lesser ki13 kh13_lesser ⟨Nat.le_of_ble_eq_true rfl, Nat.le_of_ble_eq_true rfl⟩ rfl (by simp [e_rv_cat, e_int_cat]) ⟨Nat.le_refl _, Nat.le_refl _⟩ dX13_spansSelection_82 rfl (fun H locs hp hS => ?_)
      refine lv_iload_n hx hb dX13_spansSelection_85 rfl (hl.at 1 rfl) ?_
      refine lv_iload_n hx hb dX13_spansSelection_86 rfl (hl.at 0 rfl) ?_
      refine e_aload_n (B := B) (x := x0) hx hb dX13_spansSelection_87 rfl (hl.at 3 rfl) ?_
      obtain ⟨v88, h88, hsh⟩ := Option.bind_eq_some_iff.mp hsh
      refine e_getI (k := 6) hx hb hts in_X13 hown hp h88 rfl (by decide) (by decide) rfl (hts _ kf13_216) rfl dX13_spansSelection_88 ?_
      obtain ⟨⟨v91, S91⟩, h91, hsh⟩ := Option.bind_eq_some_iff.mp hsh
      have hsh : _ = _ := hsh
      try dsimp only at hsh
      refine e_callS (nL := 5) (mc := 0) (ms := 0) (As := [.int (iI (v37)), .int (iI (v88))]) (rest := [.int (iI (v20)), .int (iI (v82)), .int (iI (v8)), .int (iI (3)), e_rv B (x0)]) hx hb hml hown hts hp hS hl.size (c13_greater l D cA B S82 S91 (v37) (v88) v91 h91) rfl rfl kd13_greater (kl13_210) ks13_greater ki13 kh13_greater ⟨Nat.le_of_ble_eq_true rfl, Nat.le_of_ble_eq_true rfl⟩ rfl (by simp [e_rv_cat, e_int_cat]) ⟨Nat.le_refl _, Nat.le_refl _⟩ dX13_spansSelection_91 rfl (fun H locs hp hS => ?_)
      refine lv_iconst (v := iI (1)) hx hb dX13_spansSelection_94 rfl ?_
      refine e_iadd hx hb dX13_spansSelection_95 ?_
      obtain ⟨S96, h96, hsh⟩ := Option.bind_eq_some_iff.mp hsh
      have ok96 := ok13_spans h96
      refine e_callV (nL := 5) (mc := 0) (ms := 0) (T := TX13) (N := 126) (As := [.int (iI (3)), .int (iI (v8)), .int (iI (v82)), .int (iI (v20)), .int (iI ((v91 + 1)))]) (rest := []) hx hb hml hown hts hp hS hl.size ok96.1 ok96.2.1 ok96.2.2 rfl (by decide) (c13_spans l D cA B S91 S96 (x0) (3) (v8) (v82) (v20) ((v91 + 1)) h96) rfl rfl kd13_spans (kl13_410) ks13_spans kv13_spans ki13 kh13_spans ⟨Nat.le_of_ble_eq_true rfl, Nat.le_of_ble_eq_true rfl⟩ rfl (by simp [e_rv_cat, e_int_cat]) ⟨Nat.le_refl _, Nat.le_refl _⟩ dX13_spansSelection_96 rfl (fun H locs hp hS => ?_)
      refine lv_goto (tgt := 154) hx hb dX13_spansSelection_99 (by decide) ?_
      exact w13_spansSelection_b154 E hp hS (hl.sub [] rfl) hsh
  · rw [if_pos c46] at hsh
    refine e_aload_n (B := B) (x := x0) hx hb dX13_spansSelection_49 rfl (hl.at 3 rfl) ?_
    refine e_aload_n (B := B) (x := x0) hx hb dX13_spansSelection_50 rfl (hl.at 3 rfl) ?_
    refine lv_iload_n hx hb dX13_spansSelection_51 rfl (hl.at 2 rfl) ?_
    obtain ⟨⟨v52, S52⟩, h52, hsh⟩ := Option.bind_eq_some_iff.mp hsh
    have hsh : _ = _ := hsh
    try dsimp only at hsh
    have ok52 := ok13_firstSeen h52
    refine e_callI (nL := 5) (mc := 0) (ms := 0) (T := TX13) (N := 126) (As := [.int (iI (v8))]) (rest := [e_rv B (x0)]) hx hb hml hown hts hp hS hl.size ok52.1 ok52.2.1 ok52.2.2 rfl (by decide) (c13_firstSeen l D cA B S37 S52 (x0) (v8) v52 h52) rfl rfl kd13_firstSeen (kl13_346) ks13_firstSeen kv13_firstSeen ki13 kh13_firstSeen ⟨Nat.le_of_ble_eq_true rfl, Nat.le_of_ble_eq_true rfl⟩ rfl (by simp [e_rv_cat, e_int_cat]) ⟨Nat.le_refl _, Nat.le_refl _⟩ dX13_spansSelection_52 rfl (fun H locs hp hS => ?_)
    refine e_aload_n (B := B) (x := x0) hx hb dX13_spansSelection_55 rfl (hl.at 3 rfl) ?_
    refine lv_iload_n hx hb dX13_spansSelection_56 rfl (hl.at 1 rfl) ?_
    obtain ⟨⟨v57, S57⟩, h57, hsh⟩ := Option.bind_eq_some_iff.mp hsh
    have hsh : _ = _ := hsh
    try dsimp only at hsh
    have ok57 := ok13_lastSeen h57
    refine e_callI (nL := 5) (mc := 0) (ms := 0) (T := TX13) (N := 126) (As := [.int (iI (v20))]) (rest := [.int (iI (v52)), e_rv B (x0)]) hx hb hml hown hts hp hS hl.size ok57.1 ok57.2.1 ok57.2.2 rfl (by decide) (c13_lastSeen l D cA B S52 S57 (x0) (v20) v57 h57) rfl rfl kd13_lastSeen (kl13_343) ks13_lastSeen kv13_lastSeen ki13 kh13_lastSeen ⟨Nat.le_of_ble_eq_true rfl, Nat.le_of_ble_eq_true rfl⟩ rfl (by simp [e_rv_cat, e_int_cat]) ⟨Nat.le_refl _, Nat.le_refl _⟩ dX13_spansSelection_57 rfl (fun H locs hp hS => ?_)
    obtain ⟨S60, h60, hsh⟩ := Option.bind_eq_some_iff.mp hsh
    have ok60 := ok13_spansLines h60
    refine e_callV (nL := 5) (mc := 0) (ms := 0) (T := TX13) (N := 126) (As := [.int (iI (v52)), .int (iI (v57))]) (rest := []) hx hb hml hown hts hp hS hl.size ok60.1 ok60.2.1 ok60.2.2 rfl (by decide) (c13_spansLines l D cA B S57 S60 (x0) (v52) (v57) h60) rfl rfl kd13_spansLines (kl13_414) ks13_spansLines kv13_spansLines ki13 kh13_spansLines ⟨Nat.le_of_ble_eq_true rfl, Nat.le_of_ble_eq_true rfl⟩ rfl (by simp [e_rv_cat, e_int_cat]) ⟨Nat.le_refl _, Nat.le_refl _⟩ dX13_spansSelection_60 rfl (fun H locs hp hS => ?_)
    refine lv_goto (tgt := 154) hx hb dX13_spansSelection_63 (by decide) ?_
    exact w13_spansSelection_b154 E hp hS (hl.sub [] rfl) hsh
