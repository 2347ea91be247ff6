theorem ok13_parent {S : HP} {x0 : Int} {x1 : Int} {r : Int × HP} (h : s13_parent S x0 x1 = some r) : 0 ≤ x0 ∧ x0.toNat < e_n S ∧ e_g S x0.toNat = 13 := (gd_some h).1
set_option maxRecDepth 100000 in
set_option maxHeartbeats 4000000 in
theorem w13_parent_b36 {p : Program} {l : Launch} {e : Env} {s : State} {m : MethodId} {args : Array Value} {below : List Frame} {meth : Method} {c : Code} {D : va_G} {cA : Nat → ClassId} {B : Nat} {res : Int × HP} (E : e_En p s m args meth c cX13_parent RX13 2 (some .int)) {ls : Array Slot} {H : Heap} {locs : List Loc} {S : HP} {y0 : Int} (hp : e_Pic D cA B S s H) (hS : va_S (e_A B) s.heap H locs) (hl : e_lo ls 2 []) (hsh : s13_parent_b36 S y0 = some res) : W p l e ({ frames := 1, cells := 0, slots := 0, locals := 22 } : Room) s m args below meth c H locs 0 0 (MQ below (e_Qi D cA B res.1 res.2) args s 0 0 (e_A B)) (F0 m 36 ls [.int (iI (y0))]) := by
  obtain ⟨hx, hb, hml, hown, hts, hlk, hrt⟩ := id E
  unfold s13_parent_b36 at hsh
  cases hsh
  exact e_iret hx hb hrt hlk hp hS dX13_parent_36
set_option maxRecDepth 100000 in
set_option maxHeartbeats 4000000 in
theorem w13_parent_b20 {p : Program} {l : Launch} {e : Env} {s : State} {m : MethodId} {args : Array Value} {below : List Frame} {meth : Method} {c : Code} {D : va_G} {cA : Nat → ClassId} {B : Nat} {res : Int × HP} (E : e_En p s m args meth c cX13_parent RX13 2 (some .int)) {ls : Array Slot} {H : Heap} {locs : List Loc} {S : HP} {x0 : Int} {x1 : Int} {y0 : Int} {y1 : Int} (hp : e_Pic D cA B S s H) (hS : va_S (e_A B) s.heap H locs) (hl : e_lo ls 2 [(0, e_rv B (x0)), (1, .int (iI (x1)))]) (hsh : s13_parent_b20 S x0 x1 y0 y1 = some res) : W p l e ({ frames := 1, cells := 0, slots := 0, locals := 22 } : Room) s m args below meth c H locs 0 0 (MQ below (e_Qi D cA B res.1 res.2) args s 0 0 (e_A B)) (F0 m 20 ls [.int (iI (y1)), e_rv B (y0)]) := by
  obtain ⟨hx, hb, hml, hown, hts, hlk, hrt⟩ := id E
  unfold s13_parent_b20 at hsh
  obtain ⟨⟨v20, S20⟩, h20, hsh⟩ := Option.bind_eq_some_iff.mp hsh
  have hsh : _ = _ := hsh
  try dsimp only at hsh
  have ok20 := ok13_can h20
  refine e_callI (nL := 2) (mc := 0) (ms := 0) (T := TX13) (N := 126) (As := [.int (iI (y1))]) (rest := []) hx hb hml hown hts hp hS hl.size ok20.1 ok20.2.1 ok20.2.2 rfl (by decide) (c13_can l D cA B S S20 (y0) (y1) v20 h20) rfl rfl kd13_can (kl13_1043) ks13_can kv13_can ki13 kh13_can ⟨Nat.le_of_ble_eq_true rfl, Nat.le_of_ble_eq_true rfl⟩ rfl (by simp [e_rv_cat, e_int_cat]) ⟨Nat.le_refl _, Nat.le_refl _⟩ dX13_parent_20 rfl (fun H locs hp hS => ?_)
  refine e_if_eq (tgt := 35) hx hb dX13_parent_23 (by decide) (fun c23 => ?_) (fun c23 => ?_)
  · rw [if_pos c23] at hsh
    refine lv_iconst (v := iI (0)) hx hb dX13_parent_35 rfl ?_
    exact w13_parent_b36 E hp hS (hl.sub [] rfl) hsh
  · rw [if_neg c23] at hsh
    refine e_aload_n (B := B) (x := x0) hx hb dX13_parent_26 rfl (hl.at 0 rfl) ?_
    obtain ⟨v27, h27, hsh⟩ := Option.bind_eq_some_iff.mp hsh
    refine e_getR (k := 31) hx hb hts in_X13 hown hp h27 rfl (by decide) (by decide) rfl (hts _ kf13_73) rfl dX13_parent_27 ?_
    refine lv_iload_n hx hb dX13_parent_30 rfl (hl.at 1 rfl) ?_
    obtain ⟨v31, h31, hsh⟩ := Option.bind_eq_some_iff.mp hsh
    refine e_iald hx hb hp h31 dX13_parent_31 ?_
    refine lv_goto (tgt := 36) hx hb dX13_parent_32 (by decide) ?_
    exact w13_parent_b36 E hp hS (hl.sub [] rfl) hsh
set_option maxRecDepth 100000 in
set_option maxHeartbeats 4000000 in
theorem c13_parent (l : Launch) (D : va_G) (cA : Nat → ClassId) (B : Nat) (S S' : HP) (x0 : Int) (x1 : Int) (r : Int) (hsh : s13_parent S x0 x1 = some (r, S')) : Met l yX13_parent (e_wu yX13_parent cX13_parent 2 (some .int)) ({ frames := 1, cells := 0, slots := 0, locals := 22 } : Room) (va_Pc [e_rv B (x0), .int (iI (x1))] (fun U => e_PU D cA B S U)) (e_Qi D cA B r S') 0 0 (e_A B) := by
  refine Met.ofW (cc := cX13_parent) (maxL := 2) (ret := (some .int)) (by decide +kernel) rfl ?_
  intro p e s m args below meth c s₁ Bd hml hv
  obtain ⟨rfl, hp⟩ := hv
  have hp : e_Pic D cA B S s s.heap := hp
  have hx := Bd.exec
  have hb := Bd.bytes
  have hrt := Bd.returns
  have hlk := Bd.notSynchronized
  have hown : s.vm.findClass RX13 = some m.cls := findClass_of_methodNamed Bd.named
  have hts : ∀ w ∈ e_tb, w.before ([e_rv B (x0), .int (iI (x1))] : List Value).toArray s = true := fun w h => atoms_spec (ws := (e_wu yX13_parent cX13_parent 2 (some .int))) Bd.pre w (List.mem_cons_of_mem _ h)
  have E : e_En p s m ([e_rv B (x0), .int (iI (x1))] : List Value).toArray meth c cX13_parent RX13 2 (some .int) := ⟨hx, hb, hml, hown, hts, hlk, hrt⟩
  have hS : va_S (e_A B) s.heap s.heap [] := va_S.rf
  have hl := e_entry (vs := [e_rv B (x0), .int (iI (x1))]) (n := 2) (Nat.le_of_ble_eq_true rfl) (e_cc (e_rv_cat _ _) (e_cc rfl e_cn))
  rw [lg_entry_eq]
  generalize (lg_sl [e_rv B (x0), .int (iI (x1))] ++ List.replicate (2 - (lg_sl [e_rv B (x0), .int (iI (x1))]).length) Slot.unset).toArray = ls at hl ⊢
  generalize ([e_rv B (x0), .int (iI (x1))] : List Value).toArray = args at hts E ⊢
  have hl : e_lo ls 2 [(0, e_rv B (x0)), (1, .int (iI (x1)))] := hl
  have hsh := (gd_some hsh).2
  refine e_aload_n (B := B) (x := x0) hx hb dX13_parent_0 rfl (hl.at 0 rfl) ?_
  refine lv_iload_n hx hb dX13_parent_1 rfl (hl.at 1 rfl) ?_
  refine lv_iconst (v := iI (0)) hx hb dX13_parent_2 rfl ?_
  refine e_aload_n (B := B) (x := x0) hx hb dX13_parent_3 rfl (hl.at 0 rfl) ?_
  obtain ⟨v4, h4, hsh⟩ := Option.bind_eq_some_iff.mp hsh
  refine e_getI (k := 26) hx hb hts in_X13 hown hp h4 rfl (by decide) (by decide) rfl (hts _ kf13_60) rfl dX13_parent_4 ?_
  refine lv_iconst (v := iI (1)) hx hb dX13_parent_7 rfl ?_
  refine e_isub hx hb dX13_parent_8 ?_
  obtain ⟨⟨v9, S9⟩, h9, hsh⟩ := Option.bind_eq_some_iff.mp hsh
  have hsh : _ = _ := hsh
  try dsimp only at hsh
  refine e_callS (nL := 2) (mc := 0) (ms := 0) (As := [.int (iI (x1)), .int (iI (0)), .int (iI ((v4 - 1)))]) (rest := [e_rv B (x0)]) hx hb hml hown hts hp hS hl.size (c13_isIn l D cA B S S9 (x1) (0) ((v4 - 1)) v9 h9) rfl rfl kd13_isIn (kl13_198) ks13_isIn ki13 kh13_isIn ⟨Nat.le_of_ble_eq_true rfl, Nat.le_of_ble_eq_true rfl⟩ rfl (by simp [e_rv_cat, e_int_cat]) ⟨Nat.le_refl _, Nat.le_refl _⟩ dX13_parent_9 rfl (fun H locs hp hS => ?_)
  refine e_if_eq (tgt := 19) hx hb dX13_parent_12 (by decide) (fun c12 => ?_) (fun c12 => ?_)
  · rw [if_pos c12] at hsh
    refine lv_iconst (v := iI (1)) hx hb dX13_parent_19 rfl ?_
    exact w13_parent_b20 E hp hS (hl.sub [0, 1] rfl) hsh
  · rw [if_neg c12] at hsh
    refine lv_iconst (v := iI (0)) hx hb dX13_parent_15 rfl ?_
    refine lv_goto (tgt := 20) hx hb dX13_parent_16 (by decide) ?_
    exact w13_parent_b20 E hp hS (hl.sub [0, 1] rfl) hsh
theorem ok13_failures {S : HP} {x0 : Int} {r : Int × HP} (h : s13_failures S x0 = some r) : 0 ≤ x0 ∧ x0.toNat < e_n S ∧ e_g S x0.toNat = 13 := (gd_some h).1
set_option maxRecDepth 100000 in
set_option maxHeartbeats 4000000 in
theorem c13_failures (l : Launch) (D : va_G) (cA : Nat → ClassId) (B : Nat) (S S' : HP) (x0 : Int) (r : Int) (hsh : s13_failures S x0 = some (r, S')) : Met l yX13_failures (e_wu yX13_failures cX13_failures 1 (some .int)) ({ frames := 0, cells := 0, slots := 0, locals := 0 } : Room) (va_Pc [e_rv B (x0)] (fun U => e_PU D cA B S U)) (e_Qi D cA B r S') 0 0 (e_A B) := by
  refine Met.ofW (cc := cX13_failures) (maxL := 1) (ret := (some .int)) (by decide +kernel) rfl ?_
  intro p e s m args below meth c s₁ Bd hml hv
  obtain ⟨rfl, hp⟩ := hv
  have hp : e_Pic D cA B S s s.heap := hp
  have hx := Bd.exec
  have hb := Bd.bytes
  have hrt := Bd.returns
  have hlk := Bd.notSynchronized
  have hown : s.vm.findClass RX13 = some m.cls := findClass_of_methodNamed Bd.named
  have hts : ∀ w ∈ e_tb, w.before ([e_rv B (x0)] : List Value).toArray s = true := fun w h => atoms_spec (ws := (e_wu yX13_failures cX13_failures 1 (some .int))) Bd.pre w (List.mem_cons_of_mem _ h)
  have E : e_En p s m ([e_rv B (x0)] : List Value).toArray meth c cX13_failures RX13 1 (some .int) := ⟨hx, hb, hml, hown, hts, hlk, hrt⟩
  have hS : va_S (e_A B) s.heap s.heap [] := va_S.rf
  have hl := e_entry (vs := [e_rv B (x0)]) (n := 1) (Nat.le_of_ble_eq_true rfl) (e_cc (e_rv_cat _ _) e_cn)
  rw [lg_entry_eq]
  generalize (lg_sl [e_rv B (x0)] ++ List.replicate (1 - (lg_sl [e_rv B (x0)]).length) Slot.unset).toArray = ls at hl ⊢
  generalize ([e_rv B (x0)] : List Value).toArray = args at hts E ⊢
  have hl : e_lo ls 1 [(0, e_rv B (x0))] := hl
  have hsh := (gd_some hsh).2
  refine e_aload_n (B := B) (x := x0) hx hb dX13_failures_0 rfl (hl.at 0 rfl) ?_
  refine lv_iconst (v := iI (0)) hx hb dX13_failures_1 rfl ?_
  obtain ⟨S2, h2, hsh⟩ := Option.bind_eq_some_iff.mp hsh
  refine e_putI (k := 125) hx hb hts in_X13 tyX13 tyX13_ok nmX13 hown hp hS h2 rfl (by decide) (by decide) rfl (hts _ kf13_195) rfl rfl (by decide +kernel) dX13_failures_2 (fun H locs hp hS => ?_)
  refine e_aload_n (B := B) (x := x0) hx hb dX13_failures_5 rfl (hl.at 0 rfl) ?_
  obtain ⟨v6, h6, hsh⟩ := Option.bind_eq_some_iff.mp hsh
  refine e_getI (k := 33) hx hb hts in_X13 hown hp h6 rfl (by decide) (by decide) rfl (hts _ kf13_684) rfl dX13_failures_6 ?_
  cases hsh
  exact e_iret hx hb hrt hlk hp hS dX13_failures_9
theorem ok13_taken {S : HP} {x0 : Int} {r : Int × HP} (h : s13_taken S x0 = some r) : 0 ≤ x0 ∧ x0.toNat < e_n S ∧ e_g S x0.toNat = 13 := (gd_some h).1
set_option maxRecDepth 100000 in
set_option maxHeartbeats 4000000 in
theorem c13_taken (l : Launch) (D : va_G) (cA : Nat → ClassId) (B : Nat) (S S' : HP) (x0 : Int) (r : Int) (hsh : s13_taken S x0 = some (r, S')) : Met l yX13_taken (e_wu yX13_taken cX13_taken 1 (some .int)) ({ frames := 0, cells := 0, slots := 0, locals := 0 } : Room) (va_Pc [e_rv B (x0)] (fun U => e_PU D cA B S U)) (e_Qi D cA B r S') 0 0 (e_A B) := by
  refine Met.ofW (cc := cX13_taken) (maxL := 1) (ret := (some .int)) (by decide +kernel) rfl ?_
  intro p e s m args below meth c s₁ Bd hml hv
  obtain ⟨rfl, hp⟩ := hv
  have hp : e_Pic D cA B S s s.heap := hp
  have hx := Bd.exec
  have hb := Bd.bytes
  have hrt := Bd.returns
  have hlk := Bd.notSynchronized
  have hown : s.vm.findClass RX13 = some m.cls := findClass_of_methodNamed Bd.named
  have hts : ∀ w ∈ e_tb, w.before ([e_rv B (x0)] : List Value).toArray s = true := fun w h => atoms_spec (ws := (e_wu yX13_taken cX13_taken 1 (some .int))) Bd.pre w (List.mem_cons_of_mem _ h)
  have E : e_En p s m ([e_rv B (x0)] : List Value).toArray meth c cX13_taken RX13 1 (some .int) := ⟨hx, hb, hml, hown, hts, hlk, hrt⟩
  have hS : va_S (e_A B) s.heap s.heap [] := va_S.rf
  have hl := e_entry (vs := [e_rv B (x0)]) (n := 1) (Nat.le_of_ble_eq_true rfl) (e_cc (e_rv_cat _ _) e_cn)
  rw [lg_entry_eq]
  generalize (lg_sl [e_rv B (x0)] ++ List.replicate (1 - (lg_sl [e_rv B (x0)]).length) Slot.unset).toArray = ls at hl ⊢
  generalize ([e_rv B (x0)] : List Value).toArray = args at hts E ⊢
  have hl : e_lo ls 1 [(0, e_rv B (x0))] := hl
  have hsh := (gd_some hsh).2
  refine e_aload_n (B := B) (x := x0) hx hb dX13_taken_0 rfl (hl.at 0 rfl) ?_
  refine lv_iconst (v := iI (0)) hx hb dX13_taken_1 rfl ?_
  obtain ⟨S2, h2, hsh⟩ := Option.bind_eq_some_iff.mp hsh
  refine e_putI (k := 125) hx hb hts in_X13 tyX13 tyX13_ok nmX13 hown hp hS h2 rfl (by decide) (by decide) rfl (hts _ kf13_195) rfl rfl (by decide +kernel) dX13_taken_2 (fun H locs hp hS => ?_)
  refine e_aload_n (B := B) (x := x0) hx hb dX13_taken_5 rfl (hl.at 0 rfl) ?_
  obtain ⟨v6, h6, hsh⟩ := Option.bind_eq_some_iff.mp hsh
  refine e_getI (k := 34) hx hb hts in_X13 hown hp h6 rfl (by decide) (by decide) rfl (hts _ kf13_989) rfl dX13_taken_6 ?_
  cases hsh
  exact e_iret hx hb hrt hlk hp hS dX13_taken_9
theorem ok13_agrees {S : HP} {x0 : Int} {r : Int × HP} (h : s13_agrees S x0 = some r) : 0 ≤ x0 ∧ x0.toNat < e_n S ∧ e_g S x0.toNat = 13 := (gd_some h).1
set_option maxRecDepth 100000 in
set_option maxHeartbeats 4000000 in
theorem c13_agrees (l : Launch) (D : va_G) (cA : Nat → ClassId) (B : Nat) (S S' : HP) (x0 : Int) (r : Int) (hsh : s13_agrees S x0 = some (r, S')) : Met l yX13_agrees (e_wu yX13_agrees cX13_agrees 1 (some .boolean)) ({ frames := 0, cells := 0, slots := 0, locals := 0 } : Room) (va_Pc [e_rv B (x0)] (fun U => e_PU D cA B S U)) (e_Qi D cA B r S') 0 0 (e_A B) := by
  refine Met.ofW (cc := cX13_agrees) (maxL := 1) (ret := (some .boolean)) (by decide +kernel) rfl ?_
  intro p e s m args below meth c s₁ Bd hml hv
  obtain ⟨rfl, hp⟩ := hv
  have hp : e_Pic D cA B S s s.heap := hp
  have hx := Bd.exec
  have hb := Bd.bytes
  have hrt := Bd.returns
  have hlk := Bd.notSynchronized
  have hown : s.vm.findClass RX13 = some m.cls := findClass_of_methodNamed Bd.named
  have hts : ∀ w ∈ e_tb, w.before ([e_rv B (x0)] : List Value).toArray s = true := fun w h => atoms_spec (ws := (e_wu yX13_agrees cX13_agrees 1 (some .boolean))) Bd.pre w (List.mem_cons_of_mem _ h)
  have E : e_En p s m ([e_rv B (x0)] : List Value).toArray meth c cX13_agrees RX13 1 (some .boolean) := ⟨hx, hb, hml, hown, hts, hlk, hrt⟩
  have hS : va_S (e_A B) s.heap s.heap [] := va_S.rf
  have hl := e_entry (vs := [e_rv B (x0)]) (n := 1) (Nat.le_of_ble_eq_true rfl) (e_cc (e_rv_cat _ _) e_cn)
  rw [lg_entry_eq]
  generalize (lg_sl [e_rv B (x0)] ++ List.replicate (1 - (lg_sl [e_rv B (x0)]).length) Slot.unset).toArray = ls at hl ⊢
  generalize ([e_rv B (x0)] : List Value).toArray = args at hts E ⊢
  have hl : e_lo ls 1 [(0, e_rv B (x0))] := hl
  have hsh := (gd_some hsh).2
  refine e_aload_n (B := B) (x := x0) hx hb dX13_agrees_0 rfl (hl.at 0 rfl) ?_
  refine lv_iconst (v := iI (0)) hx hb dX13_agrees_1 rfl ?_
  obtain ⟨S2, h2, hsh⟩ := Option.bind_eq_some_iff.mp hsh
  refine e_putI (k := 125) hx hb hts in_X13 tyX13 tyX13_ok nmX13 hown hp hS h2 rfl (by decide) (by decide) rfl (hts _ kf13_195) rfl rfl (by decide +kernel) dX13_agrees_2 (fun H locs hp hS => ?_)
  refine lv_iconst (v := iI (1)) hx hb dX13_agrees_5 rfl ?_
  obtain ⟨hz, hz1, hz2⟩ := zR_some hsh
  rw [← hz1, ← hz2]
  exact e_zret hx hb hrt hlk hp hS hz dX13_agrees_6
theorem ok13_linesIn {S : HP} {x0 : Int} {x1 : Int} {x2 : Int} {r : HP} (h : s13_linesIn S x0 x1 x2 = some r) : 0 ≤ x0 ∧ x0.toNat < e_n S ∧ e_g S x0.toNat = 13 := (gd_some h).1
set_option maxRecDepth 100000 in
set_option maxHeartbeats 4000000 in
theorem w13_linesIn_l182 {p : Program} {l : Launch} {e : Env} {s : State} {m : MethodId} {args : Array Value} {below : List Frame} {meth : Method} {c : Code} {D : va_G} {cA : Nat → ClassId} {B : Nat} {res : HP} (E : e_En p s m args meth c cX13_linesIn RX13 6 none) : ∀ (f : Nat) {ls : Array Slot} {H : Heap} {locs : List Loc} {S : HP} {x0 : Int} {x1 : Int} {x2 : Int} {x3 : Int} (hp : e_Pic D cA B S s H) (hS : va_S (e_A B) s.heap H locs) (hl : e_lo ls 6 [(0, e_rv B (x0)), (1, .int (iI (x1))), (2, .int (iI (x2))), (3, .int (iI (x3)))]) (hsh : s13_linesIn_l182 f S x0 x1 x2 x3 = some res), W p l e ({ frames := 1, cells := 0, slots := 0, locals := 24 } : Room) s m args below meth c H locs 0 0 (MQ below (e_Qv D cA B res) args s 0 0 (e_A B)) (F0 m 182 ls []) := by
  obtain ⟨hx, hb, hml, hown, hts, hlk, hrt⟩ := id E
  intro f
  induction f with
  | zero => intro ls H locs S x0 x1 x2 x3 hp hS hl hsh; cases hsh
  | succ f ih =>
    intro ls H locs S x0 x1 x2 x3 hp hS hl hsh
    have hk182 : ∀ {ls : Array Slot} {H : Heap} {locs : List Loc} {S : HP} {x0 : Int} {x1 : Int} {x2 : Int} {x3 : Int} (hp : e_Pic D cA B S s H) (hS : va_S (e_A B) s.heap H locs) (hl : e_lo ls 6 [(0, e_rv B (x0)), (1, .int (iI (x1))), (2, .int (iI (x2))), (3, .int (iI (x3)))]) (hsh : (s13_linesIn_l182 f) S x0 x1 x2 x3 = some res), W p l e ({ frames := 1, cells := 0, slots := 0, locals := 24 } : Room) s m args below meth c H locs 0 0 (MQ below (e_Qv D cA B res) args s 0 0 (e_A B)) (F0 m 182 ls []) := ih
    generalize hkk : s13_linesIn_l182 f = k182 at hk182
    rw [s13_linesIn_l182] at hsh
    rw [hkk] at hsh
    try dsimp only at hsh
    refine lv_iload_n hx hb dX13_linesIn_182 rfl (hl.at 3 rfl) ?_
    refine lv_sipush (v := iI (1968)) hx hb dX13_linesIn_183 (by decide +kernel) ?_
    refine e_icmp_ge (tgt := 212) hx hb dX13_linesIn_186 (by decide) (fun c186 => ?_) (fun c186 => ?_)
    · rw [if_pos c186] at hsh
      cases hsh
      exact e_vret hx hb hrt hlk hp hS dX13_linesIn_212
    · rw [if_neg c186] at hsh
      refine e_aload_n (B := B) (x := x0) hx hb dX13_linesIn_189 rfl (hl.at 0 rfl) ?_
      obtain ⟨v190, h190, hsh⟩ := Option.bind_eq_some_iff.mp hsh
      refine e_getR (k := 99) hx hb hts in_X13 hown hp h190 rfl (by decide) (by decide) rfl (hts _ kf13_148) rfl dX13_linesIn_190 ?_
      refine lv_iload_n hx hb dX13_linesIn_193 rfl (hl.at 3 rfl) ?_
      refine e_aload_n (B := B) (x := x0) hx hb dX13_linesIn_194 rfl (hl.at 0 rfl) ?_
      obtain ⟨v195, h195, hsh⟩ := Option.bind_eq_some_iff.mp hsh
      refine e_getR (k := 99) hx hb hts in_X13 hown hp h195 rfl (by decide) (by decide) rfl (hts _ kf13_148) rfl dX13_linesIn_195 ?_
      refine lv_iload_n hx hb dX13_linesIn_198 rfl (hl.at 3 rfl) ?_
      obtain ⟨v199, h199, hsh⟩ := Option.bind_eq_some_iff.mp hsh
      refine e_iald hx hb hp h199 dX13_linesIn_199 ?_
      refine lv_iload_n hx hb dX13_linesIn_200 rfl (hl.at 1 rfl) ?_
      refine lv_iload_n hx hb dX13_linesIn_201 rfl (hl.at 2 rfl) ?_
      obtain ⟨⟨v202, S202⟩, h202, hsh⟩ := Option.bind_eq_some_iff.mp hsh
      have hsh : _ = _ := hsh
      try dsimp only at hsh
      refine e_callS (nL := 6) (mc := 0) (ms := 0) (As := [.int (iI (v199)), .int (iI (x1)), .int (iI (x2))]) (rest := [.int (iI (x3)), e_rv B (v190)]) hx hb hml hown hts hp hS hl.size (c13_behind l D cA B S S202 (v199) (x1) (x2) v202 h202) rfl rfl kd13_behind (kl13_230) ks13_behind ki13 kh13_behind ⟨Nat.le_of_ble_eq_true rfl, Nat.le_of_ble_eq_true rfl⟩ rfl (by simp [e_rv_cat, e_int_cat]) ⟨Nat.le_refl _, Nat.le_refl _⟩ dX13_linesIn_202 rfl (fun H locs hp hS => ?_)
      obtain ⟨S205, h205, hsh⟩ := Option.bind_eq_some_iff.mp hsh
      refine e_iast hx hb hp hS h205 dX13_linesIn_205 (fun H locs hp hS => ?_)
      refine e_iinc (n := 1) (x := x3) (lv' := [(3, .int (iI ((x3 + 1)))), (0, e_rv B (x0)), (1, .int (iI (x1))), (2, .int (iI (x2)))]) hx hb dX13_linesIn_206 hl (k := 3) rfl (by decide) rfl (fun ls hl => ?_)
      refine lv_goto (tgt := 182) hx hb dX13_linesIn_209 (by decide) ?_
      exact hk182 hp hS (hl.sub [1, 2, 3, 0] rfl) hsh
set_option maxRecDepth 100000 in
set_option maxHeartbeats 4000000 in
theorem w13_linesIn_l151 {p : Program} {l : Launch} {e : Env} {s : State} {m : MethodId} {args : Array Value} {below : List Frame} {meth : Method} {c : Code} {D : va_G} {cA : Nat → ClassId} {B : Nat} {res : HP} (E : e_En p s m args meth c cX13_linesIn RX13 6 none) : ∀ (f : Nat) {ls : Array Slot} {H : Heap} {locs : List Loc} {S : HP} {x0 : Int} {x1 : Int} {x2 : Int} {x3 : Int} (hp : e_Pic D cA B S s H) (hS : va_S (e_A B) s.heap H locs) (hl : e_lo ls 6 [(0, e_rv B (x0)), (1, .int (iI (x1))), (2, .int (iI (x2))), (3, .int (iI (x3)))]) (hsh : s13_linesIn_l151 f S x0 x1 x2 x3 = some res), W p l e ({ frames := 1, cells := 0, slots := 0, locals := 24 } : Room) s m args below meth c H locs 0 0 (MQ below (e_Qv D cA B res) args s 0 0 (e_A B)) (F0 m 151 ls []) := by
  obtain ⟨hx, hb, hml, hown, hts, hlk, hrt⟩ := id E
  intro f
  induction f with
  | zero => intro ls H locs S x0 x1 x2 x3 hp hS hl hsh; cases hsh
  | succ f ih =>
    intro ls H locs S x0 x1 x2 x3 hp hS hl hsh
    have hk151 : ∀ {ls : Array Slot} {H : Heap} {locs : List Loc} {S : HP} {x0 : Int} {x1 : Int} {x2 : Int} {x3 : Int} (hp : e_Pic D cA B S s H) (hS : va_S (e_A B) s.heap H locs) (hl : e_lo ls 6 [(0, e_rv B (x0)), (1, .int (iI (x1))), (2, .int (iI (x2))), (3, .int (iI (x3)))]) (hsh : (s13_linesIn_l151 f) S x0 x1 x2 x3 = some res), W p l e ({ frames := 1, cells := 0, slots := 0, locals := 24 } : Room) s m args below meth c H locs 0 0 (MQ below (e_Qv D cA B res) args s 0 0 (e_A B)) (F0 m 151 ls []) := ih
    generalize hkk : s13_linesIn_l151 f = k151 at hk151
    rw [s13_linesIn_l151] at hsh
    rw [hkk] at hsh
    try dsimp only at hsh
    refine lv_iload_n hx hb dX13_linesIn_151 rfl (hl.at 3 rfl) ?_
    refine lv_bipush (v := iI (12)) hx hb dX13_linesIn_152 (by decide +kernel) ?_
    refine e_icmp_ge (tgt := 180) hx hb dX13_linesIn_154 (by decide) (fun c154 => ?_) (fun c154 => ?_)
    · rw [if_pos c154] at hsh
      refine lv_iconst (v := iI (0)) hx hb dX13_linesIn_180 rfl ?_
      refine e_istore_n (lv' := [(3, .int (iI (0))), (0, e_rv B (x0)), (1, .int (iI (x1))), (2, .int (iI (x2)))]) hx hb dX13_linesIn_181 rfl hl (by decide) rfl (fun ls hl => ?_)
      exact w13_linesIn_l182 E 1000000 hp hS (hl.sub [1, 2, 3, 0] rfl) hsh
    · rw [if_neg c154] at hsh
      refine e_aload_n (B := B) (x := x0) hx hb dX13_linesIn_157 rfl (hl.at 0 rfl) ?_
      obtain ⟨v158, h158, hsh⟩ := Option.bind_eq_some_iff.mp hsh
      refine e_getR (k := 24) hx hb hts in_X13 hown hp h158 rfl (by decide) (by decide) rfl (hts _ kf13_54) rfl dX13_linesIn_158 ?_
      refine lv_iload_n hx hb dX13_linesIn_161 rfl (hl.at 3 rfl) ?_
      refine e_aload_n (B := B) (x := x0) hx hb dX13_linesIn_162 rfl (hl.at 0 rfl) ?_
      obtain ⟨v163, h163, hsh⟩ := Option.bind_eq_some_iff.mp hsh
      refine e_getR (k := 24) hx hb hts in_X13 hown hp h163 rfl (by decide) (by decide) rfl (hts _ kf13_54) rfl dX13_linesIn_163 ?_
      refine lv_iload_n hx hb dX13_linesIn_166 rfl (hl.at 3 rfl) ?_
      obtain ⟨v167, h167, hsh⟩ := Option.bind_eq_some_iff.mp hsh
      refine e_iald hx hb hp h167 dX13_linesIn_167 ?_
      refine lv_iload_n hx hb dX13_linesIn_168 rfl (hl.at 1 rfl) ?_
      refine lv_iload_n hx hb dX13_linesIn_169 rfl (hl.at 2 rfl) ?_
      obtain ⟨⟨v170, S170⟩, h170, hsh⟩ := Option.bind_eq_some_iff.mp hsh
      have hsh : _ = _ := hsh
      try dsimp only at hsh
      refine e_callS (nL := 6) (mc := 0) (ms := 0) (As := [.int (iI (v167)), .int (iI (x1)), .int (iI (x2))]) (rest := [.int (iI (x3)), e_rv B (v158)]) hx hb hml hown hts hp hS hl.size (c13_behind l D cA B S S170 (v167) (x1) (x2) v170 h170) rfl rfl kd13_behind (kl13_230) ks13_behind ki13 kh13_behind ⟨Nat.le_of_ble_eq_true rfl, Nat.le_of_ble_eq_true rfl⟩ rfl (by simp [e_rv_cat, e_int_cat]) ⟨Nat.le_refl _, Nat.le_refl _⟩ dX13_linesIn_170 rfl (fun H locs hp hS => ?_)
      obtain ⟨S173, h173, hsh⟩ := Option.bind_eq_some_iff.mp hsh
      refine e_iast hx hb hp hS h173 dX13_linesIn_173 (fun H locs hp hS => ?_)
      refine e_iinc (n := 1) (x := x3) (lv' := [(3, .int (iI ((x3 + 1)))), (0, e_rv B (x0)), (1, .int (iI (x1))), (2, .int (iI (x2)))]) hx hb dX13_linesIn_174 hl (k := 3) rfl (by decide) rfl (fun ls hl => ?_)
      refine lv_goto (tgt := 151) hx hb dX13_linesIn_177 (by decide) ?_
      exact hk151 hp hS (hl.sub [1, 2, 3, 0] rfl) hsh
set_option maxRecDepth 100000 in
set_option maxHeartbeats 4000000 in
theorem w13_linesIn_b149 {p : Program} {l : Launch} {e : Env} {s : State} {m : MethodId} {args : Array Value} {below : List Frame} {meth : Method} {c : Code} {D : va_G} {cA : Nat → ClassId} {B : Nat} {res : HP} (E : e_En p s m args meth c cX13_linesIn RX13 6 none) {ls : Array Slot} {H : Heap} {locs : List Loc} {S : HP} {x0 : Int} {x1 : Int} {x2 : Int} (hp : e_Pic D cA B S s H) (hS : va_S (e_A B) s.heap H locs) (hl : e_lo ls 6 [(0, e_rv B (x0)), (1, .int (iI (x1))), (2, .int (iI (x2)))]) (hsh : s13_linesIn_b149 S x0 x1 x2 = some res) : W p l e ({ frames := 1, cells := 0, slots := 0, locals := 24 } : Room) s m args below meth c H locs 0 0 (MQ below (e_Qv D cA B res) args s 0 0 (e_A B)) (F0 m 149 ls []) := by
  obtain ⟨hx, hb, hml, hown, hts, hlk, hrt⟩ := id E
  unfold s13_linesIn_b149 at hsh
  refine lv_iconst (v := iI (0)) hx hb dX13_linesIn_149 rfl ?_
  refine e_istore_n (lv' := [(3, .int (iI (0))), (0, e_rv B (x0)), (1, .int (iI (x1))), (2, .int (iI (x2)))]) hx hb dX13_linesIn_150 rfl hl (by decide) rfl (fun ls hl => ?_)
  exact w13_linesIn_l151 E 1000000 hp hS (hl.sub [1, 2, 3, 0] rfl) hsh
set_option maxRecDepth 100000 in
set_option maxHeartbeats 4000000 in
theorem w13_linesIn_b143 {p : Program} {l : Launch} {e : Env} {s : State} {m : MethodId} {args : Array Value} {below : List Frame} {meth : Method} {c : Code} {D : va_G} {cA : Nat → ClassId} {B : Nat} {res : HP} {k68 : HP → Int → Int → Int → Int → Option (HP)} (hk68 : ∀ {ls : Array Slot} {H : Heap} {locs : List Loc} {S : HP} {x0 : Int} {x1 : Int} {x2 : Int} {x3 : Int} (hp : e_Pic D cA B S s H) (hS : va_S (e_A B) s.heap H locs) (hl : e_lo ls 6 [(0, e_rv B (x0)), (1, .int (iI (x1))), (2, .int (iI (x2))), (3, .int (iI (x3)))]) (hsh : k68 S x0 x1 x2 x3 = some res), W p l e ({ frames := 1, cells := 0, slots := 0, locals := 24 } : Room) s m args below meth c H locs 0 0 (MQ below (e_Qv D cA B res) args s 0 0 (e_A B)) (F0 m 68 ls [])) (E : e_En p s m args meth c cX13_linesIn RX13 6 none) {ls : Array Slot} {H : Heap} {locs : List Loc} {S : HP} {x0 : Int} {x1 : Int} {x2 : Int} {x3 : Int} (hp : e_Pic D cA B S s H) (hS : va_S (e_A B) s.heap H locs) (hl : e_lo ls 6 [(0, e_rv B (x0)), (1, .int (iI (x1))), (2, .int (iI (x2))), (3, .int (iI (x3)))]) (hsh : s13_linesIn_b143 k68 S x0 x1 x2 x3 = some res) : W p l e ({ frames := 1, cells := 0, slots := 0, locals := 24 } : Room) s m args below meth c H locs 0 0 (MQ below (e_Qv D cA B res) args s 0 0 (e_A B)) (F0 m 143 ls []) := by
  obtain ⟨hx, hb, hml, hown, hts, hlk, hrt⟩ := id E
  unfold s13_linesIn_b143 at hsh
  refine e_iinc (n := (-1)) (x := x3) (lv' := [(3, .int (iI ((x3 + (-1))))), (0, e_rv B (x0)), (1, .int (iI (x1))), (2, .int (iI (x2)))]) hx hb dX13_linesIn_143 hl (k := 3) rfl (by decide) rfl (fun ls hl => ?_)
  refine lv_goto (tgt := 68) hx hb dX13_linesIn_146 (by decide) ?_
  exact hk68 hp hS (hl.sub [1, 2, 3, 0] rfl) hsh
set_option maxRecDepth 100000 in
set_option maxHeartbeats 4000000 in
theorem w13_linesIn_l68 {p : Program} {l : Launch} {e : Env} {s : State} {m : MethodId} {args : Array Value} {below : List Frame} {meth : Method} {c : Code} {D : va_G} {cA : Nat → ClassId} {B : Nat} {res : HP} (E : e_En p s m args meth c cX13_linesIn RX13 6 none) : ∀ (f : Nat) {ls : Array Slot} {H : Heap} {locs : List Loc} {S : HP} {x0 : Int} {x1 : Int} {x2 : Int} {x3 : Int} (hp : e_Pic D cA B S s H) (hS : va_S (e_A B) s.heap H locs) (hl : e_lo ls 6 [(0, e_rv B (x0)), (1, .int (iI (x1))), (2, .int (iI (x2))), (3, .int (iI (x3)))]) (hsh : s13_linesIn_l68 f S x0 x1 x2 x3 = some res), W p l e ({ frames := 1, cells := 0, slots := 0, locals := 24 } : Room) s m args below meth c H locs 0 0 (MQ below (e_Qv D cA B res) args s 0 0 (e_A B)) (F0 m 68 ls []) := by
  obtain ⟨hx, hb, hml, hown, hts, hlk, hrt⟩ := id E
  intro f
  induction f with
  | zero => intro ls H locs S x0 x1 x2 x3 hp hS hl hsh; cases hsh
  | succ f ih =>
    intro ls H locs S x0 x1 x2 x3 hp hS hl hsh
    have hk68 : ∀ {ls : Array Slot} {H : Heap} {locs : List Loc} {S : HP} {x0 : Int} {x1 : Int} {x2 : Int} {x3 : Int} (hp : e_Pic D cA B S s H) (hS : va_S (e_A B) s.heap H locs) (hl : e_lo ls 6 [(0, e_rv B (x0)), (1, .int (iI (x1))), (2, .int (iI (x2))), (3, .int (iI (x3)))]) (hsh : (s13_linesIn_l68 f) S x0 x1 x2 x3 = some res), W p l e ({ frames := 1, cells := 0, slots := 0, locals := 24 } : Room) s m args below meth c H locs 0 0 (MQ below (e_Qv D cA B res) args s 0 0 (e_A B)) (F0 m 68 ls []) := ih
    generalize hkk : s13_linesIn_l68 f = k68 at hk68
    rw [s13_linesIn_l68] at hsh
    rw [hkk] at hsh
    try dsimp only at hsh
    refine lv_iload_n hx hb dX13_linesIn_68 rfl (hl.at 3 rfl) ?_
    refine e_if_lt (tgt := 149) hx hb dX13_linesIn_69 (by decide) (fun c69 => ?_) (fun c69 => ?_)
    · rw [if_pos c69] at hsh
      exact w13_linesIn_b149 E hp hS (hl.sub [0, 1, 2] rfl) hsh
    · rw [if_neg c69] at hsh
      refine e_aload_n (B := B) (x := x0) hx hb dX13_linesIn_72 rfl (hl.at 0 rfl) ?_
      obtain ⟨v73, h73, hsh⟩ := Option.bind_eq_some_iff.mp hsh
      refine e_getI (k := 20) hx hb hts in_X13 hown hp h73 rfl (by decide) (by decide) rfl (hts _ kf13_237) rfl dX13_linesIn_73 ?_
      refine e_if_le (tgt := 149) hx hb dX13_linesIn_76 (by decide) (fun c76 => ?_) (fun c76 => ?_)
      · rw [if_pos c76] at hsh
        exact w13_linesIn_b149 E hp hS (hl.sub [0, 1, 2] rfl) hsh
      · rw [if_neg c76] at hsh
        refine e_aload_n (B := B) (x := x0) hx hb dX13_linesIn_79 rfl (hl.at 0 rfl) ?_
        obtain ⟨v80, h80, hsh⟩ := Option.bind_eq_some_iff.mp hsh
        refine e_getR (k := 21) hx hb hts in_X13 hown hp h80 rfl (by decide) (by decide) rfl (hts _ kf13_48) rfl dX13_linesIn_80 ?_
        refine lv_iload_n hx hb dX13_linesIn_83 rfl (hl.at 3 rfl) ?_
        obtain ⟨v84, h84, hsh⟩ := Option.bind_eq_some_iff.mp hsh
        refine e_iald hx hb hp h84 dX13_linesIn_84 ?_
        refine e_istore (lv' := [(4, .int (iI (v84))), (0, e_rv B (x0)), (1, .int (iI (x1))), (2, .int (iI (x2))), (3, .int (iI (x3)))]) hx hb dX13_linesIn_85 hl (by decide) rfl (fun ls hl => ?_)
        refine e_aload_n (B := B) (x := x0) hx hb dX13_linesIn_87 rfl (hl.at 1 rfl) ?_
        obtain ⟨v88, h88, hsh⟩ := Option.bind_eq_some_iff.mp hsh
        refine e_getR (k := 22) hx hb hts in_X13 hown hp h88 rfl (by decide) (by decide) rfl (hts _ kf13_51) rfl dX13_linesIn_88 ?_
        refine lv_iload_n hx hb dX13_linesIn_91 rfl (hl.at 4 rfl) ?_
        obtain ⟨v92, h92, hsh⟩ := Option.bind_eq_some_iff.mp hsh
        refine e_iald hx hb hp h92 dX13_linesIn_92 ?_
        refine e_istore (lv' := [(5, .int (iI (v92))), (4, .int (iI (v84))), (0, e_rv B (x0)), (1, .int (iI (x1))), (2, .int (iI (x2))), (3, .int (iI (x3)))]) hx hb dX13_linesIn_93 hl (by decide) rfl (fun ls hl => ?_)
        refine lv_iload hx hb dX13_linesIn_95 (hl.at 1 rfl) ?_
        refine lv_iload hx hb dX13_linesIn_97 (hl.at 0 rfl) ?_
        refine e_iadd hx hb dX13_linesIn_99 ?_
        refine e_if_le (tgt := 143) hx hb dX13_linesIn_100 (by decide) (fun c100 => ?_) (fun c100 => ?_)
        · rw [if_pos c100] at hsh
          exact w13_linesIn_b143 (hk68 := hk68) E hp hS (hl.sub [2, 3, 4, 5] rfl) hsh
        · rw [if_neg c100] at hsh
          refine e_aload_n (B := B) (x := x0) hx hb dX13_linesIn_103 rfl (hl.at 2 rfl) ?_
          obtain ⟨v104, h104, hsh⟩ := Option.bind_eq_some_iff.mp hsh
          refine e_getR (k := 21) hx hb hts in_X13 hown hp h104 rfl (by decide) (by decide) rfl (hts _ kf13_48) rfl dX13_linesIn_104 ?_
          refine lv_iload_n hx hb dX13_linesIn_107 rfl (hl.at 5 rfl) ?_
          refine lv_iconst (v := iI (0)) hx hb dX13_linesIn_108 rfl ?_
          obtain ⟨S109, h109, hsh⟩ := Option.bind_eq_some_iff.mp hsh
          refine e_iast hx hb hp hS h109 dX13_linesIn_109 (fun H locs hp hS => ?_)
          refine e_aload_n (B := B) (x := x0) hx hb dX13_linesIn_110 rfl (hl.at 2 rfl) ?_
          obtain ⟨v111, h111, hsh⟩ := Option.bind_eq_some_iff.mp hsh
          refine e_getR (k := 22) hx hb hts in_X13 hown hp h111 rfl (by decide) (by decide) rfl (hts _ kf13_51) rfl dX13_linesIn_111 ?_
          refine lv_iload_n hx hb dX13_linesIn_114 rfl (hl.at 5 rfl) ?_
          refine lv_iconst (v := iI (0)) hx hb dX13_linesIn_115 rfl ?_
          obtain ⟨S116, h116, hsh⟩ := Option.bind_eq_some_iff.mp hsh
          refine e_iast hx hb hp hS h116 dX13_linesIn_116 (fun H locs hp hS => ?_)
          refine e_aload_n (B := B) (x := x0) hx hb dX13_linesIn_117 rfl (hl.at 2 rfl) ?_
          refine lv_iload_n hx hb dX13_linesIn_118 rfl (hl.at 5 rfl) ?_
          refine lv_bipush (v := iI (40)) hx hb dX13_linesIn_119 (by decide +kernel) ?_
          obtain ⟨v121, h121, hsh⟩ := Option.bind_eq_some_iff.mp hsh
          refine e_idiv hx hb h121 dX13_linesIn_121 ?_
          refine lv_iload_n hx hb dX13_linesIn_122 rfl (hl.at 3 rfl) ?_
          refine lv_iload_n hx hb dX13_linesIn_123 rfl (hl.at 4 rfl) ?_
          obtain ⟨⟨v124, S124⟩, h124, hsh⟩ := Option.bind_eq_some_iff.mp hsh
          have hsh : _ = _ := hsh
          try dsimp only at hsh
          refine e_callS (nL := 6) (mc := 0) (ms := 0) (As := [.int (iI (v121)), .int (iI (x1)), .int (iI (x2))]) (rest := [e_rv B (x0)]) hx hb hml hown hts hp hS hl.size (c13_behind l D cA B S116 S124 (v121) (x1) (x2) v124 h124) rfl rfl kd13_behind (kl13_230) ks13_behind ki13 kh13_behind ⟨Nat.le_of_ble_eq_true rfl, Nat.le_of_ble_eq_true rfl⟩ rfl (by simp [e_rv_cat, e_int_cat]) ⟨Nat.le_refl _, Nat.le_refl _⟩ dX13_linesIn_124 rfl (fun H locs hp hS => ?_)
          refine lv_iload_n hx hb dX13_linesIn_127 rfl (hl.at 5 rfl) ?_
          refine lv_bipush (v := iI (40)) hx hb dX13_linesIn_128 (by decide +kernel) ?_
          obtain ⟨v130, h130, hsh⟩ := Option.bind_eq_some_iff.mp hsh
          refine e_irem hx hb h130 dX13_linesIn_130 ?_
          refine lv_iload_n hx hb dX13_linesIn_131 rfl (hl.at 3 rfl) ?_
          refine lv_iload_n hx hb dX13_linesIn_132 rfl (hl.at 4 rfl) ?_
          obtain ⟨⟨v133, S133⟩, h133, hsh⟩ := Option.bind_eq_some_iff.mp hsh
          have hsh : _ = _ := hsh
          try dsimp only at hsh
          refine e_callS (nL := 6) (mc := 0) (ms := 0) (As := [.int (iI (v130)), .int (iI (x1)), .int (iI (x2))]) (rest := [.int (iI (v124)), e_rv B (x0)]) hx hb hml hown hts hp hS hl.size (c13_behind l D cA B S124 S133 (v130) (x1) (x2) v133 h133) rfl rfl kd13_behind (kl13_230) ks13_behind ki13 kh13_behind ⟨Nat.le_of_ble_eq_true rfl, Nat.le_of_ble_eq_true rfl⟩ rfl (by simp [e_rv_cat, e_int_cat]) ⟨Nat.le_refl _, Nat.le_refl _⟩ dX13_linesIn_133 rfl (fun H locs hp hS => ?_)
          refine lv_iload hx hb dX13_linesIn_136 (hl.at 1 rfl) ?_
          refine lv_iload hx hb dX13_linesIn_138 (hl.at 0 rfl) ?_
          obtain ⟨S140, h140, hsh⟩ := Option.bind_eq_some_iff.mp hsh
          have ok140 := ok13_addsFolds h140
          refine e_callV (nL := 6) (mc := 0) (ms := 0) (T := TX13) (N := 126) (As := [.int (iI (v124)), .int (iI (v133)), .int (iI (v84)), .int (iI (v92))]) (rest := []) hx hb hml hown hts hp hS hl.size ok140.1 ok140.2.1 ok140.2.2 rfl (by decide) (c13_addsFolds l D cA B S133 S140 (x0) (v124) (v133) (v84) (v92) h140) rfl rfl kd13_addsFolds (kl13_240) ks13_addsFolds kv13_addsFolds ki13 kh13_addsFolds ⟨Nat.le_of_ble_eq_true rfl, Nat.le_of_ble_eq_true rfl⟩ rfl (by simp [e_rv_cat, e_int_cat]) ⟨Nat.le_refl _, Nat.le_refl _⟩ dX13_linesIn_140 rfl (fun H locs hp hS => ?_)
          exact w13_linesIn_b143 (hk68 := hk68) E hp hS (hl.sub [2, 3, 4, 5] rfl) hsh
set_option maxRecDepth 100000 in
set_option maxHeartbeats 4000000 in
theorem w13_linesIn_l33 {p : Program} {l : Launch} {e : Env} {s : State} {m : MethodId} {args : Array Value} {below : List Frame} {meth : Method} {c : Code} {D : va_G} {cA : Nat → ClassId} {B : Nat} {res : HP} (E : e_En p s m args meth c cX13_linesIn RX13 6 none) : ∀ (f : Nat) {ls : Array Slot} {H : Heap} {locs : List Loc} {S : HP} {x0 : Int} {x1 : Int} {x2 : Int} {x3 : Int} (hp : e_Pic D cA B S s H) (hS : va_S (e_A B) s.heap H locs) (hl : e_lo ls 6 [(0, e_rv B (x0)), (1, .int (iI (x1))), (2, .int (iI (x2))), (3, .int (iI (x3)))]) (hsh : s13_linesIn_l33 f S x0 x1 x2 x3 = some res), W p l e ({ frames := 1, cells := 0, slots := 0, locals := 24 } : Room) s m args below meth c H locs 0 0 (MQ below (e_Qv D cA B res) args s 0 0 (e_A B)) (F0 m 33 ls []) := by
  obtain ⟨hx, hb, hml, hown, hts, hlk, hrt⟩ := id E
  intro f
  induction f with
  | zero => intro ls H locs S x0 x1 x2 x3 hp hS hl hsh; cases hsh
  | succ f ih =>
    intro ls H locs S x0 x1 x2 x3 hp hS hl hsh
    have hk33 : ∀ {ls : Array Slot} {H : Heap} {locs : List Loc} {S : HP} {x0 : Int} {x1 : Int} {x2 : Int} {x3 : Int} (hp : e_Pic D cA B S s H) (hS : va_S (e_A B) s.heap H locs) (hl : e_lo ls 6 [(0, e_rv B (x0)), (1, .int (iI (x1))), (2, .int (iI (x2))), (3, .int (iI (x3)))]) (hsh : (s13_linesIn_l33 f) S x0 x1 x2 x3 = some res), W p l e ({ frames := 1, cells := 0, slots := 0, locals := 24 } : Room) s m args below meth c H locs 0 0 (MQ below (e_Qv D cA B res) args s 0 0 (e_A B)) (F0 m 33 ls []) := ih
    generalize hkk : s13_linesIn_l33 f = k33 at hk33
    rw [s13_linesIn_l33] at hsh
    rw [hkk] at hsh
    try dsimp only at hsh
    refine lv_iload_n hx hb dX13_linesIn_33 rfl (hl.at 3 rfl) ?_
    refine e_aload_n (B := B) (x := x0) hx hb dX13_linesIn_34 rfl (hl.at 0 rfl) ?_
    obtain ⟨v35, h35, hsh⟩ := Option.bind_eq_some_iff.mp hsh
    refine e_getI (k := 16) hx hb hts in_X13 hown hp h35 rfl (by decide) (by decide) rfl (hts _ kf13_234) rfl dX13_linesIn_35 ?_
    refine e_icmp_ge (tgt := 64) hx hb dX13_linesIn_38 (by decide) (fun c38 => ?_) (fun c38 => ?_)
    · rw [if_pos c38] at hsh
      refine lv_sipush (v := iI (1599)) hx hb dX13_linesIn_64 (by decide +kernel) ?_
      refine e_istore_n (lv' := [(3, .int (iI (1599))), (0, e_rv B (x0)), (1, .int (iI (x1))), (2, .int (iI (x2)))]) hx hb dX13_linesIn_67 rfl hl (by decide) rfl (fun ls hl => ?_)
      exact w13_linesIn_l68 E 1000000 hp hS (hl.sub [1, 2, 3, 0] rfl) hsh
    · rw [if_neg c38] at hsh
      refine e_aload_n (B := B) (x := x0) hx hb dX13_linesIn_41 rfl (hl.at 0 rfl) ?_
      obtain ⟨v42, h42, hsh⟩ := Option.bind_eq_some_iff.mp hsh
      refine e_getR (k := 17) hx hb hts in_X13 hown hp h42 rfl (by decide) (by decide) rfl (hts _ kf13_39) rfl dX13_linesIn_42 ?_
      refine lv_iload_n hx hb dX13_linesIn_45 rfl (hl.at 3 rfl) ?_
      refine e_aload_n (B := B) (x := x0) hx hb dX13_linesIn_46 rfl (hl.at 0 rfl) ?_
      obtain ⟨v47, h47, hsh⟩ := Option.bind_eq_some_iff.mp hsh
      refine e_getR (k := 17) hx hb hts in_X13 hown hp h47 rfl (by decide) (by decide) rfl (hts _ kf13_39) rfl dX13_linesIn_47 ?_
      refine lv_iload_n hx hb dX13_linesIn_50 rfl (hl.at 3 rfl) ?_
      obtain ⟨v51, h51, hsh⟩ := Option.bind_eq_some_iff.mp hsh
      refine e_iald hx hb hp h51 dX13_linesIn_51 ?_
      refine lv_iload_n hx hb dX13_linesIn_52 rfl (hl.at 1 rfl) ?_
      refine lv_iload_n hx hb dX13_linesIn_53 rfl (hl.at 2 rfl) ?_
      obtain ⟨⟨v54, S54⟩, h54, hsh⟩ := Option.bind_eq_some_iff.mp hsh
      have hsh : _ = _ := hsh
      try dsimp only at hsh
      refine e_callS (nL := 6) (mc := 0) (ms := 0) (As := [.int (iI (v51)), .int (iI (x1)), .int (iI (x2))]) (rest := [.int (iI (x3)), e_rv B (v42)]) hx hb hml hown hts hp hS hl.size (c13_behind l D cA B S S54 (v51) (x1) (x2) v54 h54) rfl rfl kd13_behind (kl13_230) ks13_behind ki13 kh13_behind ⟨Nat.le_of_ble_eq_true rfl, Nat.le_of_ble_eq_true rfl⟩ rfl (by simp [e_rv_cat, e_int_cat]) ⟨Nat.le_refl _, Nat.le_refl _⟩ dX13_linesIn_54 rfl (fun H locs hp hS => ?_)
      obtain ⟨S57, h57, hsh⟩ := Option.bind_eq_some_iff.mp hsh
      refine e_iast hx hb hp hS h57 dX13_linesIn_57 (fun H locs hp hS => ?_)
      refine e_iinc (n := 1) (x := x3) (lv' := [(3, .int (iI ((x3 + 1)))), (0, e_rv B (x0)), (1, .int (iI (x1))), (2, .int (iI (x2)))]) hx hb dX13_linesIn_58 hl (k := 3) rfl (by decide) rfl (fun ls hl => ?_)
      refine lv_goto (tgt := 33) hx hb dX13_linesIn_61 (by decide) ?_
      exact hk33 hp hS (hl.sub [1, 2, 3, 0] rfl) hsh
set_option maxRecDepth 100000 in
set_option maxHeartbeats 4000000 in
theorem w13_linesIn_l2 {p : Program} {l : Launch} {e : Env} {s : State} {m : MethodId} {args : Array Value} {below : List Frame} {meth : Method} {c : Code} {D : va_G} {cA : Nat → ClassId} {B : Nat} {res : HP} (E : e_En p s m args meth c cX13_linesIn RX13 6 none) : ∀ (f : Nat) {ls : Array Slot} {H : Heap} {locs : List Loc} {S : HP} {x0 : Int} {x1 : Int} {x2 : Int} {x3 : Int} (hp : e_Pic D cA B S s H) (hS : va_S (e_A B) s.heap H locs) (hl : e_lo ls 6 [(0, e_rv B (x0)), (1, .int (iI (x1))), (2, .int (iI (x2))), (3, .int (iI (x3)))]) (hsh : s13_linesIn_l2 f S x0 x1 x2 x3 = some res), W p l e ({ frames := 1, cells := 0, slots := 0, locals := 24 } : Room) s m args below meth c H locs 0 0 (MQ below (e_Qv D cA B res) args s 0 0 (e_A B)) (F0 m 2 ls []) := by
  obtain ⟨hx, hb, hml, hown, hts, hlk, hrt⟩ := id E
  intro f
  induction f with
  | zero => intro ls H locs S x0 x1 x2 x3 hp hS hl hsh; cases hsh
  | succ f ih =>
    intro ls H locs S x0 x1 x2 x3 hp hS hl hsh
    have hk2 : ∀ {ls : Array Slot} {H : Heap} {locs : List Loc} {S : HP} {x0 : Int} {x1 : Int} {x2 : Int} {x3 : Int} (hp : e_Pic D cA B S s H) (hS : va_S (e_A B) s.heap H locs) (hl : e_lo ls 6 [(0, e_rv B (x0)), (1, .int (iI (x1))), (2, .int (iI (x2))), (3, .int (iI (x3)))]) (hsh : (s13_linesIn_l2 f) S x0 x1 x2 x3 = some res), W p l e ({ frames := 1, cells := 0, slots := 0, locals := 24 } : Room) s m args below meth c H locs 0 0 (MQ below (e_Qv D cA B res) args s 0 0 (e_A B)) (F0 m 2 ls []) := ih
    generalize hkk : s13_linesIn_l2 f = k2 at hk2
    rw [s13_linesIn_l2] at hsh
    rw [hkk] at hsh
    try dsimp only at hsh
    refine lv_iload_n hx hb dX13_linesIn_2 rfl (hl.at 3 rfl) ?_
    refine lv_bipush (v := iI (26)) hx hb dX13_linesIn_3 (by decide +kernel) ?_
    refine e_icmp_ge (tgt := 31) hx hb dX13_linesIn_5 (by decide) (fun c5 => ?_) (fun c5 => ?_)
    · rw [if_pos c5] at hsh
      refine lv_iconst (v := iI (0)) hx hb dX13_linesIn_31 rfl ?_
      refine e_istore_n (lv' := [(3, .int (iI (0))), (0, e_rv B (x0)), (1, .int (iI (x1))), (2, .int (iI (x2)))]) hx hb dX13_linesIn_32 rfl hl (by decide) rfl (fun ls hl => ?_)
      exact w13_linesIn_l33 E 1000000 hp hS (hl.sub [1, 2, 3, 0] rfl) hsh
    · rw [if_neg c5] at hsh
      refine e_aload_n (B := B) (x := x0) hx hb dX13_linesIn_8 rfl (hl.at 0 rfl) ?_
      obtain ⟨v9, h9, hsh⟩ := Option.bind_eq_some_iff.mp hsh
      refine e_getR (k := 14) hx hb hts in_X13 hown hp h9 rfl (by decide) (by decide) rfl (hts _ kf13_33) rfl dX13_linesIn_9 ?_
      refine lv_iload_n hx hb dX13_linesIn_12 rfl (hl.at 3 rfl) ?_
      refine e_aload_n (B := B) (x := x0) hx hb dX13_linesIn_13 rfl (hl.at 0 rfl) ?_
      obtain ⟨v14, h14, hsh⟩ := Option.bind_eq_some_iff.mp hsh
      refine e_getR (k := 14) hx hb hts in_X13 hown hp h14 rfl (by decide) (by decide) rfl (hts _ kf13_33) rfl dX13_linesIn_14 ?_
      refine lv_iload_n hx hb dX13_linesIn_17 rfl (hl.at 3 rfl) ?_
      obtain ⟨v18, h18, hsh⟩ := Option.bind_eq_some_iff.mp hsh
      refine e_iald hx hb hp h18 dX13_linesIn_18 ?_
      refine lv_iload_n hx hb dX13_linesIn_19 rfl (hl.at 1 rfl) ?_
      refine lv_iload_n hx hb dX13_linesIn_20 rfl (hl.at 2 rfl) ?_
      obtain ⟨⟨v21, S21⟩, h21, hsh⟩ := Option.bind_eq_some_iff.mp hsh
      have hsh : _ = _ := hsh
      try dsimp only at hsh
      refine e_callS (nL := 6) (mc := 0) (ms := 0) (As := [.int (iI (v18)), .int (iI (x1)), .int (iI (x2))]) (rest := [.int (iI (x3)), e_rv B (v9)]) hx hb hml hown hts hp hS hl.size (c13_behind l D cA B S S21 (v18) (x1) (x2) v21 h21) rfl rfl kd13_behind (kl13_230) ks13_behind ki13 kh13_behind ⟨Nat.le_of_ble_eq_true rfl, Nat.le_of_ble_eq_true rfl⟩ rfl (by simp [e_rv_cat, e_int_cat]) ⟨Nat.le_refl _, Nat.le_refl _⟩ dX13_linesIn_21 rfl (fun H locs hp hS => ?_)
      obtain ⟨S24, h24, hsh⟩ := Option.bind_eq_some_iff.mp hsh
      refine e_iast hx hb hp hS h24 dX13_linesIn_24 (fun H locs hp hS => ?_)
      refine e_iinc (n := 1) (x := x3) (lv' := [(3, .int (iI ((x3 + 1)))), (0, e_rv B (x0)), (1, .int (iI (x1))), (2, .int (iI (x2)))]) hx hb dX13_linesIn_25 hl (k := 3) rfl (by decide) rfl (fun ls hl => ?_)
      refine lv_goto (tgt := 2) hx hb dX13_linesIn_28 (by decide) ?_
      exact hk2 hp hS (hl.sub [1, 2, 3, 0] rfl) hsh
set_option maxRecDepth 100000 in
set_option maxHeartbeats 4000000 in
theorem c13_linesIn (l : Launch) (D : va_G) (cA : Nat → ClassId) (B : Nat) (S S' : HP) (x0 : Int) (x1 : Int) (x2 : Int) (hsh : s13_linesIn S x0 x1 x2 = some S') : Met l yX13_linesIn (e_wu yX13_linesIn cX13_linesIn 6 none) ({ frames := 1, cells := 0, slots := 0, locals := 24 } : Room) (va_Pc [e_rv B (x0), .int (iI (x1)), .int (iI (x2))] (fun U => e_PU D cA B S U)) (e_Qv D cA B S') 0 0 (e_A B) := by
  refine Met.ofW (cc := cX13_linesIn) (maxL := 6) (ret := none) (by decide +kernel) rfl ?_
  intro p e s m args below meth c s₁ Bd hml hv
  obtain ⟨rfl, hp⟩ := hv
  have hp : e_Pic D cA B S s s.heap := hp
  have hx := Bd.exec
  have hb := Bd.bytes
  have hrt := Bd.returns
  have hlk := Bd.notSynchronized
  have hown : s.vm.findClass RX13 = some m.cls := findClass_of_methodNamed Bd.named
  have hts : ∀ w ∈ e_tb, w.before ([e_rv B (x0), .int (iI (x1)), .int (iI (x2))] : List Value).toArray s = true := fun w h => atoms_spec (ws := (e_wu yX13_linesIn cX13_linesIn 6 none)) Bd.pre w (List.mem_cons_of_mem _ h)
  have E : e_En p s m ([e_rv B (x0), .int (iI (x1)), .int (iI (x2))] : List Value).toArray meth c cX13_linesIn RX13 6 none := ⟨hx, hb, hml, hown, hts, hlk, hrt⟩
  have hS : va_S (e_A B) s.heap s.heap [] := va_S.rf
  have hl := e_entry (vs := [e_rv B (x0), .int (iI (x1)), .int (iI (x2))]) (n := 6) (Nat.le_of_ble_eq_true rfl) (e_cc (e_rv_cat _ _) (e_cc rfl (e_cc rfl e_cn)))
  rw [lg_entry_eq]
  generalize (lg_sl [e_rv B (x0), .int (iI (x1)), .int (iI (x2))] ++ List.replicate (6 - (lg_sl [e_rv B (x0), .int (iI (x1)), .int (iI (x2))]).length) Slot.unset).toArray = ls at hl ⊢
  generalize ([e_rv B (x0), .int (iI (x1)), .int (iI (x2))] : List Value).toArray = args at hts E ⊢
  have hl : e_lo ls 6 [(0, e_rv B (x0)), (1, .int (iI (x1))), (2, .int (iI (x2)))] := hl
  have hsh := (gd_some hsh).2
  refine lv_iconst (v := iI (0)) hx hb dX13_linesIn_0 rfl ?_
  refine e_istore_n (lv' := [(3, .int (iI (0))), (0, e_rv B (x0)), (1, .int (iI (x1))), (2, .int (iI (x2)))]) hx hb dX13_linesIn_1 rfl hl (by decide) rfl (fun ls hl => ?_)
  exact w13_linesIn_l2 E 1000000 hp hS (hl.sub [1, 2, 3, 0] rfl) hsh
theorem ok13_dropsCursors {S : HP} {x0 : Int} {r : HP} (h : s13_dropsCursors S x0 = some r) : 0 ≤ x0 ∧ x0.toNat < e_n S ∧ e_g S x0.toNat = 13 := (gd_some h).1
set_option maxRecDepth 100000 in
set_option maxHeartbeats 4000000 in
theorem w13_dropsCursors_b78 {p : Program} {l : Launch} {e : Env} {s : State} {m : MethodId} {args : Array Value} {below : List Frame} {meth : Method} {c : Code} {D : va_G} {cA : Nat → ClassId} {B : Nat} {res : HP} (E : e_En p s m args meth c cX13_dropsCursors RX13 3 none) {ls : Array Slot} {H : Heap} {locs : List Loc} {S : HP} {y0 : Int} {y1 : Int} (hp : e_Pic D cA B S s H) (hS : va_S (e_A B) s.heap H locs) (hl : e_lo ls 3 []) (hsh : s13_dropsCursors_b78 S y0 y1 = some res) : W p l e ({ frames := 1, cells := 0, slots := 0, locals := 20 } : Room) s m args below meth c H locs 0 0 (MQ below (e_Qv D cA B res) args s 0 0 (e_A B)) (F0 m 78 ls [.int (iI (y1)), e_rv B (y0)]) := by
  obtain ⟨hx, hb, hml, hown, hts, hlk, hrt⟩ := id E
  unfold s13_dropsCursors_b78 at hsh
  obtain ⟨S78, h78, hsh⟩ := Option.bind_eq_some_iff.mp hsh
  refine e_putI (k := 23) hx hb hts in_X13 tyX13 tyX13_ok nmX13 hown hp hS h78 rfl (by decide) (by decide) rfl (hts _ kf13_244) rfl rfl (by decide +kernel) dX13_dropsCursors_78 (fun H locs hp hS => ?_)
  cases hsh
  exact e_vret hx hb hrt hlk hp hS dX13_dropsCursors_81
set_option maxRecDepth 100000 in
set_option maxHeartbeats 4000000 in
theorem w13_dropsCursors_b62 {p : Program} {l : Launch} {e : Env} {s : State} {m : MethodId} {args : Array Value} {below : List Frame} {meth : Method} {c : Code} {D : va_G} {cA : Nat → ClassId} {B : Nat} {res : HP} (E : e_En p s m args meth c cX13_dropsCursors RX13 3 none) {ls : Array Slot} {H : Heap} {locs : List Loc} {S : HP} {x0 : Int} {x1 : Int} (hp : e_Pic D cA B S s H) (hS : va_S (e_A B) s.heap H locs) (hl : e_lo ls 3 [(0, e_rv B (x0)), (1, .int (iI (x1)))]) (hsh : s13_dropsCursors_b62 S x0 x1 = some res) : W p l e ({ frames := 1, cells := 0, slots := 0, locals := 20 } : Room) s m args below meth c H locs 0 0 (MQ below (e_Qv D cA B res) args s 0 0 (e_A B)) (F0 m 62 ls []) := by
  obtain ⟨hx, hb, hml, hown, hts, hlk, hrt⟩ := id E
  unfold s13_dropsCursors_b62 at hsh
  refine e_aload_n (B := B) (x := x0) hx hb dX13_dropsCursors_62 rfl (hl.at 0 rfl) ?_
  refine e_aload_n (B := B) (x := x0) hx hb dX13_dropsCursors_63 rfl (hl.at 0 rfl) ?_
  obtain ⟨⟨v64, S64⟩, h64, hsh⟩ := Option.bind_eq_some_iff.mp hsh
  have hsh : _ = _ := hsh
  try dsimp only at hsh
  have ok64 := ok13_isServing h64
  refine e_callI (nL := 3) (mc := 0) (ms := 0) (T := TX13) (N := 126) (As := []) (rest := [e_rv B (x0)]) hx hb hml hown hts hp hS hl.size ok64.1 ok64.2.1 ok64.2.2 rfl (by decide) (c13_isServing l D cA B S S64 (x0) v64 h64) rfl rfl kd13_isServing (kl13_247) ks13_isServing kv13_isServing ki13 kh13_isServing ⟨Nat.le_of_ble_eq_true rfl, Nat.le_of_ble_eq_true rfl⟩ rfl (by simp [e_rv_cat, e_int_cat]) ⟨Nat.le_refl _, Nat.le_refl _⟩ dX13_dropsCursors_64 rfl (fun H locs hp hS => ?_)
  refine e_if_eq (tgt := 77) hx hb dX13_dropsCursors_67 (by decide) (fun c67 => ?_) (fun c67 => ?_)
  · rw [if_pos c67] at hsh
    refine lv_iload_n hx hb dX13_dropsCursors_77 rfl (hl.at 1 rfl) ?_
    exact w13_dropsCursors_b78 E hp hS (hl.sub [] rfl) hsh
  · rw [if_neg c67] at hsh
    refine e_aload_n (B := B) (x := x0) hx hb dX13_dropsCursors_70 rfl (hl.at 0 rfl) ?_
    obtain ⟨v71, h71, hsh⟩ := Option.bind_eq_some_iff.mp hsh
    refine e_getI (k := 23) hx hb hts in_X13 hown hp h71 rfl (by decide) (by decide) rfl (hts _ kf13_244) rfl dX13_dropsCursors_71 ?_
    refine lv_goto (tgt := 78) hx hb dX13_dropsCursors_74 (by decide) ?_
    exact w13_dropsCursors_b78 E hp hS (hl.sub [] rfl) hsh
set_option maxRecDepth 100000 in
set_option maxHeartbeats 4000000 in
theorem w13_dropsCursors_b56 {p : Program} {l : Launch} {e : Env} {s : State} {m : MethodId} {args : Array Value} {below : List Frame} {meth : Method} {c : Code} {D : va_G} {cA : Nat → ClassId} {B : Nat} {res : HP} {k4 : HP → Int → Int → Int → Option (HP)} (hk4 : ∀ {ls : Array Slot} {H : Heap} {locs : List Loc} {S : HP} {x0 : Int} {x1 : Int} {x2 : Int} (hp : e_Pic D cA B S s H) (hS : va_S (e_A B) s.heap H locs) (hl : e_lo ls 3 [(0, e_rv B (x0)), (1, .int (iI (x1))), (2, .int (iI (x2)))]) (hsh : k4 S x0 x1 x2 = some res), W p l e ({ frames := 1, cells := 0, slots := 0, locals := 20 } : Room) s m args below meth c H locs 0 0 (MQ below (e_Qv D cA B res) args s 0 0 (e_A B)) (F0 m 4 ls [])) (E : e_En p s m args meth c cX13_dropsCursors RX13 3 none) {ls : Array Slot} {H : Heap} {locs : List Loc} {S : HP} {x0 : Int} {x1 : Int} {x2 : Int} (hp : e_Pic D cA B S s H) (hS : va_S (e_A B) s.heap H locs) (hl : e_lo ls 3 [(0, e_rv B (x0)), (1, .int (iI (x1))), (2, .int (iI (x2)))]) (hsh : s13_dropsCursors_b56 k4 S x0 x1 x2 = some res) : W p l e ({ frames := 1, cells := 0, slots := 0, locals := 20 } : Room) s m args below meth c H locs 0 0 (MQ below (e_Qv D cA B res) args s 0 0 (e_A B)) (F0 m 56 ls []) := by
  obtain ⟨hx, hb, hml, hown, hts, hlk, hrt⟩ := id E
  unfold s13_dropsCursors_b56 at hsh
  refine e_iinc (n := 1) (x := x2) (lv' := [(2, .int (iI ((x2 + 1)))), (0, e_rv B (x0)), (1, .int (iI (x1)))]) hx hb dX13_dropsCursors_56 hl (k := 2) rfl (by decide) rfl (fun ls hl => ?_)
  refine lv_goto (tgt := 4) hx hb dX13_dropsCursors_59 (by decide) ?_
  exact hk4 hp hS (hl.sub [1, 2, 0] rfl) hsh
set_option maxRecDepth 100000 in
set_option maxHeartbeats 4000000 in
theorem w13_dropsCursors_l4 {p : Program} {l : Launch} {e : Env} {s : State} {m : MethodId} {args : Array Value} {below : List Frame} {meth : Method} {c : Code} {D : va_G} {cA : Nat → ClassId} {B : Nat} {res : HP} (E : e_En p s m args meth c cX13_dropsCursors RX13 3 none) : ∀ (f : Nat) {ls : Array Slot} {H : Heap} {locs : List Loc} {S : HP} {x0 : Int} {x1 : Int} {x2 : Int} (hp : e_Pic D cA B S s H) (hS : va_S (e_A B) s.heap H locs) (hl : e_lo ls 3 [(0, e_rv B (x0)), (1, .int (iI (x1))), (2, .int (iI (x2)))]) (hsh : s13_dropsCursors_l4 f S x0 x1 x2 = some res), W p l e ({ frames := 1, cells := 0, slots := 0, locals := 20 } : Room) s m args below meth c H locs 0 0 (MQ below (e_Qv D cA B res) args s 0 0 (e_A B)) (F0 m 4 ls []) := by
  obtain ⟨hx, hb, hml, hown, hts, hlk, hrt⟩ := id E
  intro f
  induction f with
  | zero => intro ls H locs S x0 x1 x2 hp hS hl hsh; cases hsh
  | succ f ih =>
    intro ls H locs S x0 x1 x2 hp hS hl hsh
    have hk4 : ∀ {ls : Array Slot} {H : Heap} {locs : List Loc} {S : HP} {x0 : Int} {x1 : Int} {x2 : Int} (hp : e_Pic D cA B S s H) (hS : va_S (e_A B) s.heap H locs) (hl : e_lo ls 3 [(0, e_rv B (x0)), (1, .int (iI (x1))), (2, .int (iI (x2)))]) (hsh : (s13_dropsCursors_l4 f) S x0 x1 x2 = some res), W p l e ({ frames := 1, cells := 0, slots := 0, locals := 20 } : Room) s m args below meth c H locs 0 0 (MQ below (e_Qv D cA B res) args s 0 0 (e_A B)) (F0 m 4 ls []) := ih
    generalize hkk : s13_dropsCursors_l4 f = k4 at hk4
    rw [s13_dropsCursors_l4] at hsh
    rw [hkk] at hsh
    try dsimp only at hsh
    refine lv_iload_n hx hb dX13_dropsCursors_4 rfl (hl.at 2 rfl) ?_
    refine e_aload_n (B := B) (x := x0) hx hb dX13_dropsCursors_5 rfl (hl.at 0 rfl) ?_
    obtain ⟨v6, h6, hsh⟩ := Option.bind_eq_some_iff.mp hsh
    refine e_getI (k := 23) hx hb hts in_X13 hown hp h6 rfl (by decide) (by decide) rfl (hts _ kf13_244) rfl dX13_dropsCursors_6 ?_
    refine e_icmp_ge (tgt := 62) hx hb dX13_dropsCursors_9 (by decide) (fun c9 => ?_) (fun c9 => ?_)
    · rw [if_pos c9] at hsh
      exact w13_dropsCursors_b62 E hp hS (hl.sub [0, 1] rfl) hsh
    · rw [if_neg c9] at hsh
      refine e_aload_n (B := B) (x := x0) hx hb dX13_dropsCursors_12 rfl (hl.at 0 rfl) ?_
      obtain ⟨⟨v13, S13⟩, h13, hsh⟩ := Option.bind_eq_some_iff.mp hsh
      have hsh : _ = _ := hsh
      try dsimp only at hsh
      have ok13 := ok13_isServing h13
      refine e_callI (nL := 3) (mc := 0) (ms := 0) (T := TX13) (N := 126) (As := []) (rest := []) hx hb hml hown hts hp hS hl.size ok13.1 ok13.2.1 ok13.2.2 rfl (by decide) (c13_isServing l D cA B S S13 (x0) v13 h13) rfl rfl kd13_isServing (kl13_247) ks13_isServing kv13_isServing ki13 kh13_isServing ⟨Nat.le_of_ble_eq_true rfl, Nat.le_of_ble_eq_true rfl⟩ rfl (by simp [e_rv_cat, e_int_cat]) ⟨Nat.le_refl _, Nat.le_refl _⟩ dX13_dropsCursors_13 rfl (fun H locs hp hS => ?_)
      refine e_if_ne (tgt := 62) hx hb dX13_dropsCursors_16 (by decide) (fun c16 => ?_) (fun c16 => ?_)
      · rw [if_neg c16] at hsh
        exact w13_dropsCursors_b62 E hp hS (hl.sub [0, 1] rfl) hsh
      · rw [if_pos c16] at hsh
        refine e_aload_n (B := B) (x := x0) hx hb dX13_dropsCursors_19 rfl (hl.at 0 rfl) ?_
        obtain ⟨v20, h20, hsh⟩ := Option.bind_eq_some_iff.mp hsh
        refine e_getR (k := 24) hx hb hts in_X13 hown hp h20 rfl (by decide) (by decide) rfl (hts _ kf13_54) rfl dX13_dropsCursors_20 ?_
        refine lv_iload_n hx hb dX13_dropsCursors_23 rfl (hl.at 2 rfl) ?_
        obtain ⟨v24, h24, hsh⟩ := Option.bind_eq_some_iff.mp hsh
        refine e_iald hx hb hp h24 dX13_dropsCursors_24 ?_
        refine lv_iconst (v := iI (-1)) hx hb dX13_dropsCursors_25 rfl ?_
        refine e_icmp_eq (tgt := 56) hx hb dX13_dropsCursors_26 (by decide) (fun c26 => ?_) (fun c26 => ?_)
        · rw [if_pos c26] at hsh
          exact w13_dropsCursors_b56 (hk4 := hk4) E hp hS (hl.sub [0, 1, 2] rfl) hsh
        · rw [if_neg c26] at hsh
          refine e_aload_n (B := B) (x := x0) hx hb dX13_dropsCursors_29 rfl (hl.at 0 rfl) ?_
          obtain ⟨v30, h30, hsh⟩ := Option.bind_eq_some_iff.mp hsh
          refine e_getR (k := 24) hx hb hts in_X13 hown hp h30 rfl (by decide) (by decide) rfl (hts _ kf13_54) rfl dX13_dropsCursors_30 ?_
          refine lv_iload_n hx hb dX13_dropsCursors_33 rfl (hl.at 1 rfl) ?_
          refine e_aload_n (B := B) (x := x0) hx hb dX13_dropsCursors_34 rfl (hl.at 0 rfl) ?_
          obtain ⟨v35, h35, hsh⟩ := Option.bind_eq_some_iff.mp hsh
          refine e_getR (k := 24) hx hb hts in_X13 hown hp h35 rfl (by decide) (by decide) rfl (hts _ kf13_54) rfl dX13_dropsCursors_35 ?_
          refine lv_iload_n hx hb dX13_dropsCursors_38 rfl (hl.at 2 rfl) ?_
          obtain ⟨v39, h39, hsh⟩ := Option.bind_eq_some_iff.mp hsh
          refine e_iald hx hb hp h39 dX13_dropsCursors_39 ?_
          obtain ⟨S40, h40, hsh⟩ := Option.bind_eq_some_iff.mp hsh
          refine e_iast hx hb hp hS h40 dX13_dropsCursors_40 (fun H locs hp hS => ?_)
          refine e_aload_n (B := B) (x := x0) hx hb dX13_dropsCursors_41 rfl (hl.at 0 rfl) ?_
          obtain ⟨v42, h42, hsh⟩ := Option.bind_eq_some_iff.mp hsh
          refine e_getR (k := 25) hx hb hts in_X13 hown hp h42 rfl (by decide) (by decide) rfl (hts _ kf13_57) rfl dX13_dropsCursors_42 ?_
          refine lv_iload_n hx hb dX13_dropsCursors_45 rfl (hl.at 1 rfl) ?_
          refine e_aload_n (B := B) (x := x0) hx hb dX13_dropsCursors_46 rfl (hl.at 0 rfl) ?_
          obtain ⟨v47, h47, hsh⟩ := Option.bind_eq_some_iff.mp hsh
          refine e_getR (k := 25) hx hb hts in_X13 hown hp h47 rfl (by decide) (by decide) rfl (hts _ kf13_57) rfl dX13_dropsCursors_47 ?_
          refine lv_iload_n hx hb dX13_dropsCursors_50 rfl (hl.at 2 rfl) ?_
          obtain ⟨v51, h51, hsh⟩ := Option.bind_eq_some_iff.mp hsh
          refine e_iald hx hb hp h51 dX13_dropsCursors_51 ?_
          obtain ⟨S52, h52, hsh⟩ := Option.bind_eq_some_iff.mp hsh
          refine e_iast hx hb hp hS h52 dX13_dropsCursors_52 (fun H locs hp hS => ?_)
          refine e_iinc (n := 1) (x := x1) (lv' := [(1, .int (iI ((x1 + 1)))), (0, e_rv B (x0)), (2, .int (iI (x2)))]) hx hb dX13_dropsCursors_53 hl (k := 1) rfl (by decide) rfl (fun ls hl => ?_)
          exact w13_dropsCursors_b56 (hk4 := hk4) E hp hS (hl.sub [1, 0, 2] rfl) hsh
set_option maxRecDepth 100000 in
set_option maxHeartbeats 4000000 in
theorem c13_dropsCursors (l : Launch) (D : va_G) (cA : Nat → ClassId) (B : Nat) (S S' : HP) (x0 : Int) (hsh : s13_dropsCursors S x0 = some S') : Met l yX13_dropsCursors (e_wu yX13_dropsCursors cX13_dropsCursors 3 none) ({ frames := 1, cells := 0, slots := 0, locals := 20 } : Room) (va_Pc [e_rv B (x0)] (fun U => e_PU D cA B S U)) (e_Qv D cA B S') 0 0 (e_A B) := by
  refine Met.ofW (cc := cX13_dropsCursors) (maxL := 3) (ret := none) (by decide +kernel) rfl ?_
  intro p e s m args below meth c s₁ Bd hml hv
  obtain ⟨rfl, hp⟩ := hv
  have hp : e_Pic D cA B S s s.heap := hp
  have hx := Bd.exec
  have hb := Bd.bytes
  have hrt := Bd.returns
  have hlk := Bd.notSynchronized
  have hown : s.vm.findClass RX13 = some m.cls := findClass_of_methodNamed Bd.named
  have hts : ∀ w ∈ e_tb, w.before ([e_rv B (x0)] : List Value).toArray s = true := fun w h => atoms_spec (ws := (e_wu yX13_dropsCursors cX13_dropsCursors 3 none)) Bd.pre w (List.mem_cons_of_mem _ h)
  have E : e_En p s m ([e_rv B (x0)] : List Value).toArray meth c cX13_dropsCursors RX13 3 none := ⟨hx, hb, hml, hown, hts, hlk, hrt⟩
  have hS : va_S (e_A B) s.heap s.heap [] := va_S.rf
  have hl := e_entry (vs := [e_rv B (x0)]) (n := 3) (Nat.le_of_ble_eq_true rfl) (e_cc (e_rv_cat _ _) e_cn)
  rw [lg_entry_eq]
  generalize (lg_sl [e_rv B (x0)] ++ List.replicate (3 - (lg_sl [e_rv B (x0)]).length) Slot.unset).toArray = ls at hl ⊢
  generalize ([e_rv B (x0)] : List Value).toArray = args at hts E ⊢
  have hl : e_lo ls 3 [(0, e_rv B (x0))] := hl
  have hsh := (gd_some hsh).2
  refine lv_iconst (v := iI (0)) hx hb dX13_dropsCursors_0 rfl ?_
  refine e_istore_n (lv' := [(1, .int (iI (0))), (0, e_rv B (x0))]) hx hb dX13_dropsCursors_1 rfl hl (by decide) rfl (fun ls hl => ?_)
  refine lv_iconst (v := iI (0)) hx hb dX13_dropsCursors_2 rfl ?_
  refine e_istore_n (lv' := [(2, .int (iI (0))), (1, .int (iI (0))), (0, e_rv B (x0))]) hx hb dX13_dropsCursors_3 rfl hl (by decide) rfl (fun ls hl => ?_)
  exact w13_dropsCursors_l4 E 1000000 hp hS (hl.sub [2, 1, 0] rfl) hsh
theorem ok13_linesOut {S : HP} {x0 : Int} {x1 : Int} {x2 : Int} {r : HP} (h : s13_linesOut S x0 x1 x2 = some r) : 0 ≤ x0 ∧ x0.toNat < e_n S ∧ e_g S x0.toNat = 13 := (gd_some h).1
set_option maxRecDepth 100000 in
set_option maxHeartbeats 4000000 in
theorem w13_linesOut_l353 {p : Program} {l : Launch} {e : Env} {s : State} {m : MethodId} {args : Array Value} {below : List Frame} {meth : Method} {c : Code} {D : va_G} {cA : Nat → ClassId} {B : Nat} {res : HP} (E : e_En p s m args meth c cX13_linesOut RX13 9 none) : ∀ (f : Nat) {ls : Array Slot} {H : Heap} {locs : List Loc} {S : HP} {x0 : Int} {x1 : Int} {x2 : Int} {x4 : Int} (hp : e_Pic D cA B S s H) (hS : va_S (e_A B) s.heap H locs) (hl : e_lo ls 9 [(0, e_rv B (x0)), (1, .int (iI (x1))), (2, .int (iI (x2))), (4, .int (iI (x4)))]) (hsh : s13_linesOut_l353 f S x0 x1 x2 x4 = some res), W p l e ({ frames := 2, cells := 0, slots := 0, locals := 42 } : Room) s m args below meth c H locs 0 0 (MQ below (e_Qv D cA B res) args s 0 0 (e_A B)) (F0 m 353 ls []) := by
  obtain ⟨hx, hb, hml, hown, hts, hlk, hrt⟩ := id E
  intro f
  induction f with
  | zero => intro ls H locs S x0 x1 x2 x4 hp hS hl hsh; cases hsh
  | succ f ih =>
    intro ls H locs S x0 x1 x2 x4 hp hS hl hsh
    have hk353 : ∀ {ls : Array Slot} {H : Heap} {locs : List Loc} {S : HP} {x0 : Int} {x1 : Int} {x2 : Int} {x4 : Int} (hp : e_Pic D cA B S s H) (hS : va_S (e_A B) s.heap H locs) (hl : e_lo ls 9 [(0, e_rv B (x0)), (1, .int (iI (x1))), (2, .int (iI (x2))), (4, .int (iI (x4)))]) (hsh : (s13_linesOut_l353 f) S x0 x1 x2 x4 = some res), W p l e ({ frames := 2, cells := 0, slots := 0, locals := 42 } : Room) s m args below meth c H locs 0 0 (MQ below (e_Qv D cA B res) args s 0 0 (e_A B)) (F0 m 353 ls []) := ih
    generalize hkk : s13_linesOut_l353 f = k353 at hk353
    rw [s13_linesOut_l353] at hsh
    rw [hkk] at hsh
    try dsimp only at hsh
    refine lv_iload hx hb dX13_linesOut_353 (hl.at 3 rfl) ?_
    refine lv_sipush (v := iI (1968)) hx hb dX13_linesOut_355 (by decide +kernel) ?_
    refine e_icmp_ge (tgt := 386) hx hb dX13_linesOut_358 (by decide) (fun c358 => ?_) (fun c358 => ?_)
    · rw [if_pos c358] at hsh
      cases hsh
      exact e_vret hx hb hrt hlk hp hS dX13_linesOut_386
    · rw [if_neg c358] at hsh
      refine e_aload_n (B := B) (x := x0) hx hb dX13_linesOut_361 rfl (hl.at 0 rfl) ?_
      obtain ⟨v362, h362, hsh⟩ := Option.bind_eq_some_iff.mp hsh
      refine e_getR (k := 99) hx hb hts in_X13 hown hp h362 rfl (by decide) (by decide) rfl (hts _ kf13_148) rfl dX13_linesOut_362 ?_
      refine lv_iload hx hb dX13_linesOut_365 (hl.at 3 rfl) ?_
      refine e_aload_n (B := B) (x := x0) hx hb dX13_linesOut_367 rfl (hl.at 0 rfl) ?_
      obtain ⟨v368, h368, hsh⟩ := Option.bind_eq_some_iff.mp hsh
      refine e_getR (k := 99) hx hb hts in_X13 hown hp h368 rfl (by decide) (by decide) rfl (hts _ kf13_148) rfl dX13_linesOut_368 ?_
      refine lv_iload hx hb dX13_linesOut_371 (hl.at 3 rfl) ?_
      obtain ⟨v373, h373, hsh⟩ := Option.bind_eq_some_iff.mp hsh
      refine e_iald hx hb hp h373 dX13_linesOut_373 ?_
      refine lv_iload_n hx hb dX13_linesOut_374 rfl (hl.at 1 rfl) ?_
      refine lv_iload_n hx hb dX13_linesOut_375 rfl (hl.at 2 rfl) ?_
      obtain ⟨⟨v376, S376⟩, h376, hsh⟩ := Option.bind_eq_some_iff.mp hsh
      have hsh : _ = _ := hsh
      try dsimp only at hsh
      refine e_callS (nL := 9) (mc := 0) (ms := 0) (As := [.int (iI (v373)), .int (iI (x1)), .int (iI (x2))]) (rest := [.int (iI (x4)), e_rv B (v362)]) hx hb hml hown hts hp hS hl.size (c13_without l D cA B S S376 (v373) (x1) (x2) v376 h376) rfl rfl kd13_without (kl13_251) ks13_without ki13 kh13_without ⟨Nat.le_of_ble_eq_true rfl, Nat.le_of_ble_eq_true rfl⟩ rfl (by simp [e_rv_cat, e_int_cat]) ⟨Nat.le_refl _, Nat.le_refl _⟩ dX13_linesOut_376 rfl (fun H locs hp hS => ?_)
      obtain ⟨S379, h379, hsh⟩ := Option.bind_eq_some_iff.mp hsh
      refine e_iast hx hb hp hS h379 dX13_linesOut_379 (fun H locs hp hS => ?_)
      refine e_iinc (n := 1) (x := x4) (lv' := [(4, .int (iI ((x4 + 1)))), (0, e_rv B (x0)), (1, .int (iI (x1))), (2, .int (iI (x2)))]) hx hb dX13_linesOut_380 hl (k := 3) rfl (by decide) rfl (fun ls hl => ?_)
      refine lv_goto (tgt := 353) hx hb dX13_linesOut_383 (by decide) ?_
      exact hk353 hp hS (hl.sub [1, 2, 3, 0] rfl) hsh
set_option maxRecDepth 100000 in
set_option maxHeartbeats 4000000 in
theorem w13_linesOut_b349 {p : Program} {l : Launch} {e : Env} {s : State} {m : MethodId} {args : Array Value} {below : List Frame} {meth : Method} {c : Code} {D : va_G} {cA : Nat → ClassId} {B : Nat} {res : HP} (E : e_En p s m args meth c cX13_linesOut RX13 9 none) {ls : Array Slot} {H : Heap} {locs : List Loc} {S : HP} {x0 : Int} {x1 : Int} {x2 : Int} {y0 : Int} {y1 : Int} {y2 : Int} (hp : e_Pic D cA B S s H) (hS : va_S (e_A B) s.heap H locs) (hl : e_lo ls 9 [(0, e_rv B (x0)), (1, .int (iI (x1))), (2, .int (iI (x2)))]) (hsh : s13_linesOut_b349 S x0 x1 x2 y0 y1 y2 = some res) : W p l e ({ frames := 2, cells := 0, slots := 0, locals := 42 } : Room) s m args below meth c H locs 0 0 (MQ below (e_Qv D cA B res) args s 0 0 (e_A B)) (F0 m 349 ls [.int (iI (y2)), .int (iI (y1)), e_rv B (y0)]) := by
  obtain ⟨hx, hb, hml, hown, hts, hlk, hrt⟩ := id E
  unfold s13_linesOut_b349 at hsh
  obtain ⟨S349, h349, hsh⟩ := Option.bind_eq_some_iff.mp hsh
  refine e_iast hx hb hp hS h349 dX13_linesOut_349 (fun H locs hp hS => ?_)
  refine lv_iconst (v := iI (0)) hx hb dX13_linesOut_350 rfl ?_
  refine e_istore (lv' := [(4, .int (iI (0))), (0, e_rv B (x0)), (1, .int (iI (x1))), (2, .int (iI (x2)))]) hx hb dX13_linesOut_351 hl (by decide) rfl (fun ls hl => ?_)
  exact w13_linesOut_l353 E 1000000 hp hS (hl.sub [1, 2, 3, 0] rfl) hsh
set_option maxRecDepth 100000 in
set_option maxHeartbeats 4000000 in
theorem w13_linesOut_l263 {p : Program} {l : Launch} {e : Env} {s : State} {m : MethodId} {args : Array Value} {below : List Frame} {meth : Method} {c : Code} {D : va_G} {cA : Nat → ClassId} {B : Nat} {res : HP} (E : e_En p s m args meth c cX13_linesOut RX13 9 none) : ∀ (f : Nat) {ls : Array Slot} {H : Heap} {locs : List Loc} {S : HP} {x0 : Int} {x1 : Int} {x2 : Int} {x4 : Int} (hp : e_Pic D cA B S s H) (hS : va_S (e_A B) s.heap H locs) (hl : e_lo ls 9 [(0, e_rv B (x0)), (1, .int (iI (x1))), (2, .int (iI (x2))), (4, .int (iI (x4)))]) (hsh : s13_linesOut_l263 f S x0 x1 x2 x4 = some res), W p l e ({ frames := 2, cells := 0, slots := 0, locals := 42 } : Room) s m args below meth c H locs 0 0 (MQ below (e_Qv D cA B res) args s 0 0 (e_A B)) (F0 m 263 ls []) := by
  obtain ⟨hx, hb, hml, hown, hts, hlk, hrt⟩ := id E
  intro f
  induction f with
  | zero => intro ls H locs S x0 x1 x2 x4 hp hS hl hsh; cases hsh
  | succ f ih =>
    intro ls H locs S x0 x1 x2 x4 hp hS hl hsh
    have hk263 : ∀ {ls : Array Slot} {H : Heap} {locs : List Loc} {S : HP} {x0 : Int} {x1 : Int} {x2 : Int} {x4 : Int} (hp : e_Pic D cA B S s H) (hS : va_S (e_A B) s.heap H locs) (hl : e_lo ls 9 [(0, e_rv B (x0)), (1, .int (iI (x1))), (2, .int (iI (x2))), (4, .int (iI (x4)))]) (hsh : (s13_linesOut_l263 f) S x0 x1 x2 x4 = some res), W p l e ({ frames := 2, cells := 0, slots := 0, locals := 42 } : Room) s m args below meth c H locs 0 0 (MQ below (e_Qv D cA B res) args s 0 0 (e_A B)) (F0 m 263 ls []) := ih
    generalize hkk : s13_linesOut_l263 f = k263 at hk263
    rw [s13_linesOut_l263] at hsh
    rw [hkk] at hsh
    try dsimp only at hsh
    refine lv_iload hx hb dX13_linesOut_263 (hl.at 3 rfl) ?_
    refine lv_bipush (v := iI (11)) hx hb dX13_linesOut_265 (by decide +kernel) ?_
    refine e_icmp_ge (tgt := 295) hx hb dX13_linesOut_267 (by decide) (fun c267 => ?_) (fun c267 => ?_)
    · rw [if_pos c267] at hsh
      refine e_aload_n (B := B) (x := x0) hx hb dX13_linesOut_295 rfl (hl.at 0 rfl) ?_
      obtain ⟨S296, h296, hsh⟩ := Option.bind_eq_some_iff.mp hsh
      have ok296 := ok13_dropsCursors h296
      refine e_callV (nL := 9) (mc := 0) (ms := 0) (T := TX13) (N := 126) (As := []) (rest := []) hx hb hml hown hts hp hS hl.size ok296.1 ok296.2.1 ok296.2.2 rfl (by decide) (c13_dropsCursors l D cA B S S296 (x0) h296) rfl rfl kd13_dropsCursors (kl13_260) ks13_dropsCursors kv13_dropsCursors ki13 kh13_dropsCursors ⟨Nat.le_of_ble_eq_true rfl, Nat.le_of_ble_eq_true rfl⟩ rfl (by simp [e_rv_cat, e_int_cat]) ⟨Nat.le_refl _, Nat.le_refl _⟩ dX13_linesOut_296 rfl (fun H locs hp hS => ?_)
      refine e_aload_n (B := B) (x := x0) hx hb dX13_linesOut_299 rfl (hl.at 0 rfl) ?_
      obtain ⟨v300, h300, hsh⟩ := Option.bind_eq_some_iff.mp hsh
      refine e_getR (k := 24) hx hb hts in_X13 hown hp h300 rfl (by decide) (by decide) rfl (hts _ kf13_54) rfl dX13_linesOut_300 ?_
      refine lv_bipush (v := iI (11)) hx hb dX13_linesOut_303 (by decide +kernel) ?_
      refine e_aload_n (B := B) (x := x0) hx hb dX13_linesOut_305 rfl (hl.at 0 rfl) ?_
      obtain ⟨v306, h306, hsh⟩ := Option.bind_eq_some_iff.mp hsh
      refine e_getR (k := 24) hx hb hts in_X13 hown hp h306 rfl (by decide) (by decide) rfl (hts _ kf13_54) rfl dX13_linesOut_306 ?_
      refine lv_bipush (v := iI (11)) hx hb dX13_linesOut_309 (by decide +kernel) ?_
      obtain ⟨v311, h311, hsh⟩ := Option.bind_eq_some_iff.mp hsh
      refine e_iald hx hb hp h311 dX13_linesOut_311 ?_
      refine lv_iload_n hx hb dX13_linesOut_312 rfl (hl.at 1 rfl) ?_
      refine lv_iload_n hx hb dX13_linesOut_313 rfl (hl.at 2 rfl) ?_
      obtain ⟨⟨v314, S314⟩, h314, hsh⟩ := Option.bind_eq_some_iff.mp hsh
      have hsh : _ = _ := hsh
      try dsimp only at hsh
      refine e_callS (nL := 9) (mc := 0) (ms := 0) (As := [.int (iI (v311)), .int (iI (x1)), .int (iI (x2))]) (rest := [.int (iI (11)), e_rv B (v300)]) hx hb hml hown hts hp hS hl.size (c13_isIn l D cA B S296 S314 (v311) (x1) (x2) v314 h314) rfl rfl kd13_isIn (kl13_198) ks13_isIn ki13 kh13_isIn ⟨Nat.le_of_ble_eq_true rfl, Nat.le_of_ble_eq_true rfl⟩ rfl (by simp [e_rv_cat, e_int_cat]) ⟨Nat.le_refl _, Nat.le_refl _⟩ dX13_linesOut_314 rfl (fun H locs hp hS => ?_)
      refine e_if_eq (tgt := 337) hx hb dX13_linesOut_317 (by decide) (fun c317 => ?_) (fun c317 => ?_)
      · rw [if_pos c317] at hsh
        refine e_aload_n (B := B) (x := x0) hx hb dX13_linesOut_337 rfl (hl.at 0 rfl) ?_
        obtain ⟨v338, h338, hsh⟩ := Option.bind_eq_some_iff.mp hsh
        refine e_getR (k := 24) hx hb hts in_X13 hown hp h338 rfl (by decide) (by decide) rfl (hts _ kf13_54) rfl dX13_linesOut_338 ?_
        refine lv_bipush (v := iI (11)) hx hb dX13_linesOut_341 (by decide +kernel) ?_
        obtain ⟨v343, h343, hsh⟩ := Option.bind_eq_some_iff.mp hsh
        refine e_iald hx hb hp h343 dX13_linesOut_343 ?_
        refine lv_iload_n hx hb dX13_linesOut_344 rfl (hl.at 1 rfl) ?_
        refine lv_iload_n hx hb dX13_linesOut_345 rfl (hl.at 2 rfl) ?_
        obtain ⟨⟨v346, S346⟩, h346, hsh⟩ := Option.bind_eq_some_iff.mp hsh
        have hsh : _ = _ := hsh
        try dsimp only at hsh
        refine e_callS (nL := 9) (mc := 0) (ms := 0) (As := [.int (iI (v343)), .int (iI (x1)), .int (iI (x2))]) (rest := [.int (iI (11)), e_rv B (v300)]) hx hb hml hown hts hp hS hl.size (c13_without l D cA B S314 S346 (v343) (x1) (x2) v346 h346) rfl rfl kd13_without (kl13_251) ks13_without ki13 kh13_without ⟨Nat.le_of_ble_eq_true rfl, Nat.le_of_ble_eq_true rfl⟩ rfl (by simp [e_rv_cat, e_int_cat]) ⟨Nat.le_refl _, Nat.le_refl _⟩ dX13_linesOut_346 rfl (fun H locs hp hS => ?_)
        exact w13_linesOut_b349 E hp hS (hl.sub [0, 1, 2] rfl) hsh
      · rw [if_neg c317] at hsh
        refine lv_iconst (v := iI (0)) hx hb dX13_linesOut_320 rfl ?_
        refine lv_iload_n hx hb dX13_linesOut_321 rfl (hl.at 1 rfl) ?_
        refine e_aload_n (B := B) (x := x0) hx hb dX13_linesOut_322 rfl (hl.at 0 rfl) ?_
        obtain ⟨v323, h323, hsh⟩ := Option.bind_eq_some_iff.mp hsh
        refine e_getI (k := 2) hx hb hts in_X13 hown hp h323 rfl (by decide) (by decide) rfl (hts _ kf13_13) rfl dX13_linesOut_323 ?_
        refine lv_iconst (v := iI (1)) hx hb dX13_linesOut_326 rfl ?_
        refine e_isub hx hb dX13_linesOut_327 ?_
        obtain ⟨⟨v328, S328⟩, h328, hsh⟩ := Option.bind_eq_some_iff.mp hsh
        have hsh : _ = _ := hsh
        try dsimp only at hsh
        refine e_callS (nL := 9) (mc := 0) (ms := 0) (As := [.int (iI (x1)), .int (iI ((v323 - 1)))]) (rest := [.int (iI (0)), .int (iI (11)), e_rv B (v300)]) hx hb hml hown hts hp hS hl.size (c13_lesser l D cA B S314 S328 (x1) ((v323 - 1)) v328 h328) rfl rfl kd13_lesser (kl13_257) ks13_lesser ki13 kh13_lesser ⟨Nat.le_of_ble_eq_true rfl, Nat.le_of_ble_eq_true rfl⟩ rfl (by simp [e_rv_cat, e_int_cat]) ⟨Nat.le_refl _, Nat.le_refl _⟩ dX13_linesOut_328 rfl (fun H locs hp hS => ?_)
        obtain ⟨⟨v331, S331⟩, h331, hsh⟩ := Option.bind_eq_some_iff.mp hsh
        have hsh : _ = _ := hsh
        try dsimp only at hsh
        refine e_callS (nL := 9) (mc := 0) (ms := 0) (As := [.int (iI (0)), .int (iI (v328))]) (rest := [.int (iI (11)), e_rv B (v300)]) hx hb hml hown hts hp hS hl.size (c13_greater l D cA B S328 S331 (0) (v328) v331 h331) rfl rfl kd13_greater (kl13_210) ks13_greater ki13 kh13_greater ⟨Nat.le_of_ble_eq_true rfl, Nat.le_of_ble_eq_true rfl⟩ rfl (by simp [e_rv_cat, e_int_cat]) ⟨Nat.le_refl _, Nat.le_refl _⟩ dX13_linesOut_331 rfl (fun H locs hp hS => ?_)
        refine lv_goto (tgt := 349) hx hb dX13_linesOut_334 (by decide) ?_
        exact w13_linesOut_b349 E hp hS (hl.sub [0, 1, 2] rfl) hsh
    · rw [if_neg c267] at hsh
      refine e_aload_n (B := B) (x := x0) hx hb dX13_linesOut_270 rfl (hl.at 0 rfl) ?_
      obtain ⟨v271, h271, hsh⟩ := Option.bind_eq_some_iff.mp hsh
      refine e_getR (k := 24) hx hb hts in_X13 hown hp h271 rfl (by decide) (by decide) rfl (hts _ kf13_54) rfl dX13_linesOut_271 ?_
      refine lv_iload hx hb dX13_linesOut_274 (hl.at 3 rfl) ?_
      refine e_aload_n (B := B) (x := x0) hx hb dX13_linesOut_276 rfl (hl.at 0 rfl) ?_
      obtain ⟨v277, h277, hsh⟩ := Option.bind_eq_some_iff.mp hsh
      refine e_getR (k := 24) hx hb hts in_X13 hown hp h277 rfl (by decide) (by decide) rfl (hts _ kf13_54) rfl dX13_linesOut_277 ?_
      refine lv_iload hx hb dX13_linesOut_280 (hl.at 3 rfl) ?_
      obtain ⟨v282, h282, hsh⟩ := Option.bind_eq_some_iff.mp hsh
      refine e_iald hx hb hp h282 dX13_linesOut_282 ?_
      refine lv_iload_n hx hb dX13_linesOut_283 rfl (hl.at 1 rfl) ?_
      refine lv_iload_n hx hb dX13_linesOut_284 rfl (hl.at 2 rfl) ?_
      obtain ⟨⟨v285, S285⟩, h285, hsh⟩ := Option.bind_eq_some_iff.mp hsh
      have hsh : _ = _ := hsh
      try dsimp only at hsh
      refine e_callS (nL := 9) (mc := 0) (ms := 0) (As := [.int (iI (v282)), .int (iI (x1)), .int (iI (x2))]) (rest := [.int (iI (x4)), e_rv B (v271)]) hx hb hml hown hts hp hS hl.size (c13_without l D cA B S S285 (v282) (x1) (x2) v285 h285) rfl rfl kd13_without (kl13_251) ks13_without ki13 kh13_without ⟨Nat.le_of_ble_eq_true rfl, Nat.le_of_ble_eq_true rfl⟩ rfl (by simp [e_rv_cat, e_int_cat]) ⟨Nat.le_refl _, Nat.le_refl _⟩ dX13_linesOut_285 rfl (fun H locs hp hS => ?_)
      obtain ⟨S288, h288, hsh⟩ := Option.bind_eq_some_iff.mp hsh
      refine e_iast hx hb hp hS h288 dX13_linesOut_288 (fun H locs hp hS => ?_)
      refine e_iinc (n := 1) (x := x4) (lv' := [(4, .int (iI ((x4 + 1)))), (0, e_rv B (x0)), (1, .int (iI (x1))), (2, .int (iI (x2)))]) hx hb dX13_linesOut_289 hl (k := 3) rfl (by decide) rfl (fun ls hl => ?_)
      refine lv_goto (tgt := 263) hx hb dX13_linesOut_292 (by decide) ?_
      exact hk263 hp hS (hl.sub [1, 2, 3, 0] rfl) hsh
set_option maxRecDepth 100000 in
set_option maxHeartbeats 4000000 in
theorem w13_linesOut_b260 {p : Program} {l : Launch} {e : Env} {s : State} {m : MethodId} {args : Array Value} {below : List Frame} {meth : Method} {c : Code} {D : va_G} {cA : Nat → ClassId} {B : Nat} {res : HP} (E : e_En p s m args meth c cX13_linesOut RX13 9 none) {ls : Array Slot} {H : Heap} {locs : List Loc} {S : HP} {x0 : Int} {x1 : Int} {x2 : Int} (hp : e_Pic D cA B S s H) (hS : va_S (e_A B) s.heap H locs) (hl : e_lo ls 9 [(0, e_rv B (x0)), (1, .int (iI (x1))), (2, .int (iI (x2)))]) (hsh : s13_linesOut_b260 S x0 x1 x2 = some res) : W p l e ({ frames := 2, cells := 0, slots := 0, locals := 42 } : Room) s m args below meth c H locs 0 0 (MQ below (e_Qv D cA B res) args s 0 0 (e_A B)) (F0 m 260 ls []) := by
  obtain ⟨hx, hb, hml, hown, hts, hlk, hrt⟩ := id E
  unfold s13_linesOut_b260 at hsh
  refine lv_iconst (v := iI (0)) hx hb dX13_linesOut_260 rfl ?_
  refine e_istore (lv' := [(4, .int (iI (0))), (0, e_rv B (x0)), (1, .int (iI (x1))), (2, .int (iI (x2)))]) hx hb dX13_linesOut_261 hl (by decide) rfl (fun ls hl => ?_)
  exact w13_linesOut_l263 E 1000000 hp hS (hl.sub [1, 2, 3, 0] rfl) hsh
set_option maxRecDepth 100000 in
set_option maxHeartbeats 4000000 in
theorem w13_linesOut_b254 {p : Program} {l : Launch} {e : Env} {s : State} {m : MethodId} {args : Array Value} {below : List Frame} {meth : Method} {c : Code} {D : va_G} {cA : Nat → ClassId} {B : Nat} {res : HP} {k99 : HP → Int → Int → Int → Int → Int → Option (HP)} (hk99 : ∀ {ls : Array Slot} {H : Heap} {locs : List Loc} {S : HP} {x0 : Int} {x1 : Int} {x2 : Int} {x3 : Int} {x4 : Int} (hp : e_Pic D cA B S s H) (hS : va_S (e_A B) s.heap H locs) (hl : e_lo ls 9 [(0, e_rv B (x0)), (1, .int (iI (x1))), (2, .int (iI (x2))), (3, .int (iI (x3))), (4, .int (iI (x4)))]) (hsh : k99 S x0 x1 x2 x3 x4 = some res), W p l e ({ frames := 2, cells := 0, slots := 0, locals := 42 } : Room) s m args below meth c H locs 0 0 (MQ below (e_Qv D cA B res) args s 0 0 (e_A B)) (F0 m 99 ls [])) (E : e_En p s m args meth c cX13_linesOut RX13 9 none) {ls : Array Slot} {H : Heap} {locs : List Loc} {S : HP} {x0 : Int} {x1 : Int} {x2 : Int} {x3 : Int} {x4 : Int} (hp : e_Pic D cA B S s H) (hS : va_S (e_A B) s.heap H locs) (hl : e_lo ls 9 [(0, e_rv B (x0)), (1, .int (iI (x1))), (2, .int (iI (x2))), (3, .int (iI (x3))), (4, .int (iI (x4)))]) (hsh : s13_linesOut_b254 k99 S x0 x1 x2 x3 x4 = some res) : W p l e ({ frames := 2, cells := 0, slots := 0, locals := 42 } : Room) s m args below meth c H locs 0 0 (MQ below (e_Qv D cA B res) args s 0 0 (e_A B)) (F0 m 254 ls []) := by
  obtain ⟨hx, hb, hml, hown, hts, hlk, hrt⟩ := id E
  unfold s13_linesOut_b254 at hsh
  refine e_iinc (n := 1) (x := x4) (lv' := [(4, .int (iI ((x4 + 1)))), (0, e_rv B (x0)), (1, .int (iI (x1))), (2, .int (iI (x2))), (3, .int (iI (x3)))]) hx hb dX13_linesOut_254 hl (k := 4) rfl (by decide) rfl (fun ls hl => ?_)
  refine lv_goto (tgt := 99) hx hb dX13_linesOut_257 (by decide) ?_
  exact hk99 hp hS (hl.sub [1, 2, 3, 4, 0] rfl) hsh
set_option maxRecDepth 100000 in
set_option maxHeartbeats 4000000 in
theorem w13_linesOut_b240 {p : Program} {l : Launch} {e : Env} {s : State} {m : MethodId} {args : Array Value} {below : List Frame} {meth : Method} {c : Code} {D : va_G} {cA : Nat → ClassId} {B : Nat} {res : HP} {k99 : HP → Int → Int → Int → Int → Int → Option (HP)} (hk99 : ∀ {ls : Array Slot} {H : Heap} {locs : List Loc} {S : HP} {x0 : Int} {x1 : Int} {x2 : Int} {x3 : Int} {x4 : Int} (hp : e_Pic D cA B S s H) (hS : va_S (e_A B) s.heap H locs) (hl : e_lo ls 9 [(0, e_rv B (x0)), (1, .int (iI (x1))), (2, .int (iI (x2))), (3, .int (iI (x3))), (4, .int (iI (x4)))]) (hsh : k99 S x0 x1 x2 x3 x4 = some res), W p l e ({ frames := 2, cells := 0, slots := 0, locals := 42 } : Room) s m args below meth c H locs 0 0 (MQ below (e_Qv D cA B res) args s 0 0 (e_A B)) (F0 m 99 ls [])) (E : e_En p s m args meth c cX13_linesOut RX13 9 none) {ls : Array Slot} {H : Heap} {locs : List Loc} {S : HP} {x0 : Int} {x1 : Int} {x2 : Int} {x3 : Int} {x4 : Int} {x5 : Int} {x6 : Int} (hp : e_Pic D cA B S s H) (hS : va_S (e_A B) s.heap H locs) (hl : e_lo ls 9 [(0, e_rv B (x0)), (1, .int (iI (x1))), (2, .int (iI (x2))), (3, .int (iI (x3))), (4, .int (iI (x4))), (5, .int (iI (x5))), (6, .int (iI (x6)))]) (hsh : s13_linesOut_b240 k99 S x0 x1 x2 x3 x4 x5 x6 = some res) : W p l e ({ frames := 2, cells := 0, slots := 0, locals := 42 } : Room) s m args below meth c H locs 0 0 (MQ below (e_Qv D cA B res) args s 0 0 (e_A B)) (F0 m 240 ls []) := by
  obtain ⟨hx, hb, hml, hown, hts, hlk, hrt⟩ := id E
  unfold s13_linesOut_b240 at hsh
  refine e_aload_n (B := B) (x := x0) hx hb dX13_linesOut_240 rfl (hl.at 0 rfl) ?_
  refine lv_dup hx hb dX13_linesOut_241 (e_rv_cat _ _) ?_
  obtain ⟨v242, h242, hsh⟩ := Option.bind_eq_some_iff.mp hsh
  refine e_getI (k := 20) hx hb hts in_X13 hown hp h242 rfl (by decide) (by decide) rfl (hts _ kf13_237) rfl dX13_linesOut_242 ?_
  refine lv_iload hx hb dX13_linesOut_245 (hl.at 5 rfl) ?_
  refine lv_iload hx hb dX13_linesOut_247 (hl.at 6 rfl) ?_
  refine e_iadd hx hb dX13_linesOut_249 ?_
  refine e_isub hx hb dX13_linesOut_250 ?_
  obtain ⟨S251, h251, hsh⟩ := Option.bind_eq_some_iff.mp hsh
  refine e_putI (k := 20) hx hb hts in_X13 tyX13 tyX13_ok nmX13 hown hp hS h251 rfl (by decide) (by decide) rfl (hts _ kf13_237) rfl rfl (by decide +kernel) dX13_linesOut_251 (fun H locs hp hS => ?_)
  exact w13_linesOut_b254 (hk99 := hk99) E hp hS (hl.sub [0, 1, 2, 3, 4] rfl) hsh
set_option maxRecDepth 100000 in
set_option maxHeartbeats 4000000 in
theorem w13_linesOut_b192 {p : Program} {l : Launch} {e : Env} {s : State} {m : MethodId} {args : Array Value} {below : List Frame} {meth : Method} {c : Code} {D : va_G} {cA : Nat → ClassId} {B : Nat} {res : HP} {k99 : HP → Int → Int → Int → Int → Int → Option (HP)} (hk99 : ∀ {ls : Array Slot} {H : Heap} {locs : List Loc} {S : HP} {x0 : Int} {x1 : Int} {x2 : Int} {x3 : Int} {x4 : Int} (hp : e_Pic D cA B S s H) (hS : va_S (e_A B) s.heap H locs) (hl : e_lo ls 9 [(0, e_rv B (x0)), (1, .int (iI (x1))), (2, .int (iI (x2))), (3, .int (iI (x3))), (4, .int (iI (x4)))]) (hsh : k99 S x0 x1 x2 x3 x4 = some res), W p l e ({ frames := 2, cells := 0, slots := 0, locals := 42 } : Room) s m args below meth c H locs 0 0 (MQ below (e_Qv D cA B res) args s 0 0 (e_A B)) (F0 m 99 ls [])) (E : e_En p s m args meth c cX13_linesOut RX13 9 none) {ls : Array Slot} {H : Heap} {locs : List Loc} {S : HP} {x0 : Int} {x1 : Int} {x2 : Int} {x3 : Int} {x4 : Int} {x5 : Int} {x6 : Int} {x7 : Int} {y0 : Int} (hp : e_Pic D cA B S s H) (hS : va_S (e_A B) s.heap H locs) (hl : e_lo ls 9 [(0, e_rv B (x0)), (1, .int (iI (x1))), (2, .int (iI (x2))), (3, .int (iI (x3))), (4, .int (iI (x4))), (5, .int (iI (x5))), (6, .int (iI (x6))), (7, .int (iI (x7)))]) (hsh : s13_linesOut_b192 k99 S x0 x1 x2 x3 x4 x5 x6 x7 y0 = some res) : W p l e ({ frames := 2, cells := 0, slots := 0, locals := 42 } : Room) s m args below meth c H locs 0 0 (MQ below (e_Qv D cA B res) args s 0 0 (e_A B)) (F0 m 192 ls [.int (iI (y0))]) := by
  obtain ⟨hx, hb, hml, hown, hts, hlk, hrt⟩ := id E
  unfold s13_linesOut_b192 at hsh
  refine e_istore (lv' := [(8, .int (iI (y0))), (0, e_rv B (x0)), (1, .int (iI (x1))), (2, .int (iI (x2))), (3, .int (iI (x3))), (4, .int (iI (x4))), (5, .int (iI (x5))), (6, .int (iI (x6))), (7, .int (iI (x7)))]) hx hb dX13_linesOut_192 hl (by decide) rfl (fun ls hl => ?_)
  refine e_aload_n (B := B) (x := x0) hx hb dX13_linesOut_194 rfl (hl.at 1 rfl) ?_
  obtain ⟨v195, h195, hsh⟩ := Option.bind_eq_some_iff.mp hsh
  refine e_getR (k := 21) hx hb hts in_X13 hown hp h195 rfl (by decide) (by decide) rfl (hts _ kf13_48) rfl dX13_linesOut_195 ?_
  refine lv_iload hx hb dX13_linesOut_198 (hl.at 5 rfl) ?_
  refine lv_iconst (v := iI (0)) hx hb dX13_linesOut_200 rfl ?_
  obtain ⟨S201, h201, hsh⟩ := Option.bind_eq_some_iff.mp hsh
  refine e_iast hx hb hp hS h201 dX13_linesOut_201 (fun H locs hp hS => ?_)
  refine e_aload_n (B := B) (x := x0) hx hb dX13_linesOut_202 rfl (hl.at 1 rfl) ?_
  obtain ⟨v203, h203, hsh⟩ := Option.bind_eq_some_iff.mp hsh
  refine e_getR (k := 22) hx hb hts in_X13 hown hp h203 rfl (by decide) (by decide) rfl (hts _ kf13_51) rfl dX13_linesOut_203 ?_
  refine lv_iload hx hb dX13_linesOut_206 (hl.at 5 rfl) ?_
  refine lv_iconst (v := iI (0)) hx hb dX13_linesOut_208 rfl ?_
  obtain ⟨S209, h209, hsh⟩ := Option.bind_eq_some_iff.mp hsh
  refine e_iast hx hb hp hS h209 dX13_linesOut_209 (fun H locs hp hS => ?_)
  refine lv_iload hx hb dX13_linesOut_210 (hl.at 6 rfl) ?_
  refine lv_iload hx hb dX13_linesOut_212 (hl.at 7 rfl) ?_
  refine e_iadd hx hb dX13_linesOut_214 ?_
  refine e_if_le (tgt := 240) hx hb dX13_linesOut_215 (by decide) (fun c215 => ?_) (fun c215 => ?_)
  · rw [if_pos c215] at hsh
    exact w13_linesOut_b240 (hk99 := hk99) E hp hS (hl.sub [1, 2, 3, 4, 5, 6, 7] rfl) hsh
  · rw [if_neg c215] at hsh
    refine lv_iload hx hb dX13_linesOut_218 (hl.at 0 rfl) ?_
    refine lv_iload hx hb dX13_linesOut_220 (hl.at 8 rfl) ?_
    refine e_icmp_le (tgt := 240) hx hb dX13_linesOut_222 (by decide) (fun c222 => ?_) (fun c222 => ?_)
    · rw [if_pos c222] at hsh
      exact w13_linesOut_b240 (hk99 := hk99) E hp hS (hl.sub [1, 2, 3, 4, 5, 6, 7] rfl) hsh
    · rw [if_neg c222] at hsh
      refine e_aload_n (B := B) (x := x0) hx hb dX13_linesOut_225 rfl (hl.at 1 rfl) ?_
      refine lv_iload hx hb dX13_linesOut_226 (hl.at 8 rfl) ?_
      refine lv_iload hx hb dX13_linesOut_228 (hl.at 0 rfl) ?_
      refine lv_iload hx hb dX13_linesOut_230 (hl.at 6 rfl) ?_
      refine lv_iload hx hb dX13_linesOut_232 (hl.at 7 rfl) ?_
      obtain ⟨S234, h234, hsh⟩ := Option.bind_eq_some_iff.mp hsh
      have ok234 := ok13_addsFolds h234
      refine e_callV (nL := 9) (mc := 0) (ms := 0) (T := TX13) (N := 126) (As := [.int (iI (x7)), .int (iI (y0)), .int (iI (x5)), .int (iI (x6))]) (rest := []) hx hb hml hown hts hp hS hl.size ok234.1 ok234.2.1 ok234.2.2 rfl (by decide) (c13_addsFolds l D cA B S209 S234 (x0) (x7) (y0) (x5) (x6) h234) rfl rfl kd13_addsFolds (kl13_240) ks13_addsFolds kv13_addsFolds ki13 kh13_addsFolds ⟨Nat.le_of_ble_eq_true rfl, Nat.le_of_ble_eq_true rfl⟩ rfl (by simp [e_rv_cat, e_int_cat]) ⟨Nat.le_refl _, Nat.le_refl _⟩ dX13_linesOut_234 rfl (fun H locs hp hS => ?_)
      refine lv_goto (tgt := 254) hx hb dX13_linesOut_237 (by decide) ?_
      exact w13_linesOut_b254 (hk99 := hk99) E hp hS (hl.sub [1, 2, 3, 4, 5] rfl) hsh
set_option maxRecDepth 100000 in
set_option maxHeartbeats 4000000 in
theorem w13_linesOut_b160 {p : Program} {l : Launch} {e : Env} {s : State} {m : MethodId} {args : Array Value} {below : List Frame} {meth : Method} {c : Code} {D : va_G} {cA : Nat → ClassId} {B : Nat} {res : HP} {k99 : HP → Int → Int → Int → Int → Int → Option (HP)} (hk99 : ∀ {ls : Array Slot} {H : Heap} {locs : List Loc} {S : HP} {x0 : Int} {x1 : Int} {x2 : Int} {x3 : Int} {x4 : Int} (hp : e_Pic D cA B S s H) (hS : va_S (e_A B) s.heap H locs) (hl : e_lo ls 9 [(0, e_rv B (x0)), (1, .int (iI (x1))), (2, .int (iI (x2))), (3, .int (iI (x3))), (4, .int (iI (x4)))]) (hsh : k99 S x0 x1 x2 x3 x4 = some res), W p l e ({ frames := 2, cells := 0, slots := 0, locals := 42 } : Room) s m args below meth c H locs 0 0 (MQ below (e_Qv D cA B res) args s 0 0 (e_A B)) (F0 m 99 ls [])) (E : e_En p s m args meth c cX13_linesOut RX13 9 none) {ls : Array Slot} {H : Heap} {locs : List Loc} {S : HP} {x0 : Int} {x1 : Int} {x2 : Int} {x3 : Int} {x4 : Int} {x5 : Int} {x6 : Int} {y0 : Int} (hp : e_Pic D cA B S s H) (hS : va_S (e_A B) s.heap H locs) (hl : e_lo ls 9 [(0, e_rv B (x0)), (1, .int (iI (x1))), (2, .int (iI (x2))), (3, .int (iI (x3))), (4, .int (iI (x4))), (5, .int (iI (x5))), (6, .int (iI (x6)))]) (hsh : s13_linesOut_b160 k99 S x0 x1 x2 x3 x4 x5 x6 y0 = some res) : W p l e ({ frames := 2, cells := 0, slots := 0, locals := 42 } : Room) s m args below meth c H locs 0 0 (MQ below (e_Qv D cA B res) args s 0 0 (e_A B)) (F0 m 160 ls [.int (iI (y0))]) := by
  obtain ⟨hx, hb, hml, hown, hts, hlk, hrt⟩ := id E
  unfold s13_linesOut_b160 at hsh
  refine e_istore (lv' := [(7, .int (iI (y0))), (0, e_rv B (x0)), (1, .int (iI (x1))), (2, .int (iI (x2))), (3, .int (iI (x3))), (4, .int (iI (x4))), (5, .int (iI (x5))), (6, .int (iI (x6)))]) hx hb dX13_linesOut_160 hl (by decide) rfl (fun ls hl => ?_)
  refine lv_iload hx hb dX13_linesOut_162 (hl.at 5 rfl) ?_
  refine lv_bipush (v := iI (40)) hx hb dX13_linesOut_164 (by decide +kernel) ?_
  obtain ⟨v166, h166, hsh⟩ := Option.bind_eq_some_iff.mp hsh
  refine e_irem hx hb h166 dX13_linesOut_166 ?_
  refine lv_iload_n hx hb dX13_linesOut_167 rfl (hl.at 3 rfl) ?_
  refine e_icmp_le (tgt := 181) hx hb dX13_linesOut_168 (by decide) (fun c168 => ?_) (fun c168 => ?_)
  · rw [if_pos c168] at hsh
    refine lv_iload hx hb dX13_linesOut_181 (hl.at 5 rfl) ?_
    refine lv_bipush (v := iI (40)) hx hb dX13_linesOut_183 (by decide +kernel) ?_
    obtain ⟨v185, h185, hsh⟩ := Option.bind_eq_some_iff.mp hsh
    refine e_irem hx hb h185 dX13_linesOut_185 ?_
    refine lv_iload_n hx hb dX13_linesOut_186 rfl (hl.at 2 rfl) ?_
    refine lv_iconst (v := iI (1)) hx hb dX13_linesOut_187 rfl ?_
    refine e_isub hx hb dX13_linesOut_188 ?_
    obtain ⟨⟨v189, S189⟩, h189, hsh⟩ := Option.bind_eq_some_iff.mp hsh
    have hsh : _ = _ := hsh
    try dsimp only at hsh
    refine e_callS (nL := 9) (mc := 0) (ms := 0) (As := [.int (iI (v185)), .int (iI ((x1 - 1)))]) (rest := []) hx hb hml hown hts hp hS hl.size (c13_lesser l D cA B S S189 (v185) ((x1 - 1)) v189 h189) rfl rfl kd13_lesser (kl13_257) ks13_lesser ki13 kh13_lesser ⟨Nat.le_of_ble_eq_true rfl, Nat.le_of_ble_eq_true rfl⟩ rfl (by simp [e_rv_cat, e_int_cat]) ⟨Nat.le_refl _, Nat.le_refl _⟩ dX13_linesOut_189 rfl (fun H locs hp hS => ?_)
    exact w13_linesOut_b192 (hk99 := hk99) E hp hS (hl.sub [1, 2, 3, 4, 5, 6, 7, 0] rfl) hsh
  · rw [if_neg c168] at hsh
    refine lv_iload hx hb dX13_linesOut_171 (hl.at 5 rfl) ?_
    refine lv_bipush (v := iI (40)) hx hb dX13_linesOut_173 (by decide +kernel) ?_
    obtain ⟨v175, h175, hsh⟩ := Option.bind_eq_some_iff.mp hsh
    refine e_irem hx hb h175 dX13_linesOut_175 ?_
    refine lv_iload_n hx hb dX13_linesOut_176 rfl (hl.at 4 rfl) ?_
    refine e_isub hx hb dX13_linesOut_177 ?_
    refine lv_goto (tgt := 192) hx hb dX13_linesOut_178 (by decide) ?_
    exact w13_linesOut_b192 (hk99 := hk99) E hp hS (hl.sub [1, 2, 3, 4, 5, 6, 7, 0] rfl) hsh
set_option maxRecDepth 100000 in
set_option maxHeartbeats 4000000 in
theorem w13_linesOut_l99 {p : Program} {l : Launch} {e : Env} {s : State} {m : MethodId} {args : Array Value} {below : List Frame} {meth : Method} {c : Code} {D : va_G} {cA : Nat → ClassId} {B : Nat} {res : HP} (E : e_En p s m args meth c cX13_linesOut RX13 9 none) : ∀ (f : Nat) {ls : Array Slot} {H : Heap} {locs : List Loc} {S : HP} {x0 : Int} {x1 : Int} {x2 : Int} {x3 : Int} {x4 : Int} (hp : e_Pic D cA B S s H) (hS : va_S (e_A B) s.heap H locs) (hl : e_lo ls 9 [(0, e_rv B (x0)), (1, .int (iI (x1))), (2, .int (iI (x2))), (3, .int (iI (x3))), (4, .int (iI (x4)))]) (hsh : s13_linesOut_l99 f S x0 x1 x2 x3 x4 = some res), W p l e ({ frames := 2, cells := 0, slots := 0, locals := 42 } : Room) s m args below meth c H locs 0 0 (MQ below (e_Qv D cA B res) args s 0 0 (e_A B)) (F0 m 99 ls []) := by
  obtain ⟨hx, hb, hml, hown, hts, hlk, hrt⟩ := id E
  intro f
  induction f with
  | zero => intro ls H locs S x0 x1 x2 x3 x4 hp hS hl hsh; cases hsh
  | succ f ih =>
    intro ls H locs S x0 x1 x2 x3 x4 hp hS hl hsh
    have hk99 : ∀ {ls : Array Slot} {H : Heap} {locs : List Loc} {S : HP} {x0 : Int} {x1 : Int} {x2 : Int} {x3 : Int} {x4 : Int} (hp : e_Pic D cA B S s H) (hS : va_S (e_A B) s.heap H locs) (hl : e_lo ls 9 [(0, e_rv B (x0)), (1, .int (iI (x1))), (2, .int (iI (x2))), (3, .int (iI (x3))), (4, .int (iI (x4)))]) (hsh : (s13_linesOut_l99 f) S x0 x1 x2 x3 x4 = some res), W p l e ({ frames := 2, cells := 0, slots := 0, locals := 42 } : Room) s m args below meth c H locs 0 0 (MQ below (e_Qv D cA B res) args s 0 0 (e_A B)) (F0 m 99 ls []) := ih
    generalize hkk : s13_linesOut_l99 f = k99 at hk99
    rw [s13_linesOut_l99] at hsh
    rw [hkk] at hsh
    try dsimp only at hsh
    refine lv_iload hx hb dX13_linesOut_99 (hl.at 4 rfl) ?_
    refine lv_sipush (v := iI (1600)) hx hb dX13_linesOut_101 (by decide +kernel) ?_
    refine e_icmp_ge (tgt := 260) hx hb dX13_linesOut_104 (by decide) (fun c104 => ?_) (fun c104 => ?_)
    · rw [if_pos c104] at hsh
      exact w13_linesOut_b260 E hp hS (hl.sub [0, 1, 2] rfl) hsh
    · rw [if_neg c104] at hsh
      refine e_aload_n (B := B) (x := x0) hx hb dX13_linesOut_107 rfl (hl.at 0 rfl) ?_
      obtain ⟨v108, h108, hsh⟩ := Option.bind_eq_some_iff.mp hsh
      refine e_getI (k := 20) hx hb hts in_X13 hown hp h108 rfl (by decide) (by decide) rfl (hts _ kf13_237) rfl dX13_linesOut_108 ?_
      refine e_if_le (tgt := 260) hx hb dX13_linesOut_111 (by decide) (fun c111 => ?_) (fun c111 => ?_)
      · rw [if_pos c111] at hsh
        exact w13_linesOut_b260 E hp hS (hl.sub [0, 1, 2] rfl) hsh
      · rw [if_neg c111] at hsh
        refine e_aload_n (B := B) (x := x0) hx hb dX13_linesOut_114 rfl (hl.at 0 rfl) ?_
        obtain ⟨v115, h115, hsh⟩ := Option.bind_eq_some_iff.mp hsh
        refine e_getR (k := 21) hx hb hts in_X13 hown hp h115 rfl (by decide) (by decide) rfl (hts _ kf13_48) rfl dX13_linesOut_115 ?_
        refine lv_iload hx hb dX13_linesOut_118 (hl.at 4 rfl) ?_
        obtain ⟨v120, h120, hsh⟩ := Option.bind_eq_some_iff.mp hsh
        refine e_iald hx hb hp h120 dX13_linesOut_120 ?_
        refine e_istore (lv' := [(5, .int (iI (v120))), (0, e_rv B (x0)), (1, .int (iI (x1))), (2, .int (iI (x2))), (3, .int (iI (x3))), (4, .int (iI (x4)))]) hx hb dX13_linesOut_121 hl (by decide) rfl (fun ls hl => ?_)
        refine e_aload_n (B := B) (x := x0) hx hb dX13_linesOut_123 rfl (hl.at 1 rfl) ?_
        obtain ⟨v124, h124, hsh⟩ := Option.bind_eq_some_iff.mp hsh
        refine e_getR (k := 22) hx hb hts in_X13 hown hp h124 rfl (by decide) (by decide) rfl (hts _ kf13_51) rfl dX13_linesOut_124 ?_
        refine lv_iload hx hb dX13_linesOut_127 (hl.at 5 rfl) ?_
        obtain ⟨v129, h129, hsh⟩ := Option.bind_eq_some_iff.mp hsh
        refine e_iald hx hb hp h129 dX13_linesOut_129 ?_
        refine e_istore (lv' := [(6, .int (iI (v129))), (5, .int (iI (v120))), (0, e_rv B (x0)), (1, .int (iI (x1))), (2, .int (iI (x2))), (3, .int (iI (x3))), (4, .int (iI (x4)))]) hx hb dX13_linesOut_130 hl (by decide) rfl (fun ls hl => ?_)
        refine lv_iload hx hb dX13_linesOut_132 (hl.at 6 rfl) ?_
        refine lv_bipush (v := iI (40)) hx hb dX13_linesOut_134 (by decide +kernel) ?_
        obtain ⟨v136, h136, hsh⟩ := Option.bind_eq_some_iff.mp hsh
        refine e_idiv hx hb h136 dX13_linesOut_136 ?_
        refine lv_iload_n hx hb dX13_linesOut_137 rfl (hl.at 4 rfl) ?_
        refine e_icmp_le (tgt := 151) hx hb dX13_linesOut_138 (by decide) (fun c138 => ?_) (fun c138 => ?_)
        · rw [if_pos c138] at hsh
          refine lv_iload hx hb dX13_linesOut_151 (hl.at 6 rfl) ?_
          refine lv_bipush (v := iI (40)) hx hb dX13_linesOut_153 (by decide +kernel) ?_
          obtain ⟨v155, h155, hsh⟩ := Option.bind_eq_some_iff.mp hsh
          refine e_idiv hx hb h155 dX13_linesOut_155 ?_
          refine lv_iload_n hx hb dX13_linesOut_156 rfl (hl.at 3 rfl) ?_
          obtain ⟨⟨v157, S157⟩, h157, hsh⟩ := Option.bind_eq_some_iff.mp hsh
          have hsh : _ = _ := hsh
          try dsimp only at hsh
          refine e_callS (nL := 9) (mc := 0) (ms := 0) (As := [.int (iI (v155)), .int (iI (x1))]) (rest := []) hx hb hml hown hts hp hS hl.size (c13_lesser l D cA B S S157 (v155) (x1) v157 h157) rfl rfl kd13_lesser (kl13_257) ks13_lesser ki13 kh13_lesser ⟨Nat.le_of_ble_eq_true rfl, Nat.le_of_ble_eq_true rfl⟩ rfl (by simp [e_rv_cat, e_int_cat]) ⟨Nat.le_refl _, Nat.le_refl _⟩ dX13_linesOut_157 rfl (fun H locs hp hS => ?_)
          exact w13_linesOut_b160 (hk99 := hk99) E hp hS (hl.sub [2, 3, 4, 5, 6, 1, 0] rfl) hsh
        · rw [if_neg c138] at hsh
          refine lv_iload hx hb dX13_linesOut_141 (hl.at 6 rfl) ?_
          refine lv_bipush (v := iI (40)) hx hb dX13_linesOut_143 (by decide +kernel) ?_
          obtain ⟨v145, h145, hsh⟩ := Option.bind_eq_some_iff.mp hsh
          refine e_idiv hx hb h145 dX13_linesOut_145 ?_
          refine lv_iload_n hx hb dX13_linesOut_146 rfl (hl.at 5 rfl) ?_
          refine e_isub hx hb dX13_linesOut_147 ?_
          refine lv_goto (tgt := 160) hx hb dX13_linesOut_148 (by decide) ?_
          exact w13_linesOut_b160 (hk99 := hk99) E hp hS (hl.sub [2, 3, 4, 5, 6, 1, 0] rfl) hsh
set_option maxRecDepth 100000 in
set_option maxHeartbeats 4000000 in
theorem w13_linesOut_b90 {p : Program} {l : Launch} {e : Env} {s : State} {m : MethodId} {args : Array Value} {below : List Frame} {meth : Method} {c : Code} {D : va_G} {cA : Nat → ClassId} {B : Nat} {res : HP} {k49 : HP → Int → Int → Int → Int → Int → Option (HP)} (hk49 : ∀ {ls : Array Slot} {H : Heap} {locs : List Loc} {S : HP} {x0 : Int} {x1 : Int} {x2 : Int} {x3 : Int} {x4 : Int} (hp : e_Pic D cA B S s H) (hS : va_S (e_A B) s.heap H locs) (hl : e_lo ls 9 [(0, e_rv B (x0)), (1, .int (iI (x1))), (2, .int (iI (x2))), (3, .int (iI (x3))), (4, .int (iI (x4)))]) (hsh : k49 S x0 x1 x2 x3 x4 = some res), W p l e ({ frames := 2, cells := 0, slots := 0, locals := 42 } : Room) s m args below meth c H locs 0 0 (MQ below (e_Qv D cA B res) args s 0 0 (e_A B)) (F0 m 49 ls [])) (E : e_En p s m args meth c cX13_linesOut RX13 9 none) {ls : Array Slot} {H : Heap} {locs : List Loc} {S : HP} {x0 : Int} {x1 : Int} {x2 : Int} {x3 : Int} {x4 : Int} (hp : e_Pic D cA B S s H) (hS : va_S (e_A B) s.heap H locs) (hl : e_lo ls 9 [(0, e_rv B (x0)), (1, .int (iI (x1))), (2, .int (iI (x2))), (3, .int (iI (x3))), (4, .int (iI (x4)))]) (hsh : s13_linesOut_b90 k49 S x0 x1 x2 x3 x4 = some res) : W p l e ({ frames := 2, cells := 0, slots := 0, locals := 42 } : Room) s m args below meth c H locs 0 0 (MQ below (e_Qv D cA B res) args s 0 0 (e_A B)) (F0 m 90 ls []) := by
  obtain ⟨hx, hb, hml, hown, hts, hlk, hrt⟩ := id E
  unfold s13_linesOut_b90 at hsh
  refine e_iinc (n := (-1)) (x := x4) (lv' := [(4, .int (iI ((x4 + (-1))))), (0, e_rv B (x0)), (1, .int (iI (x1))), (2, .int (iI (x2))), (3, .int (iI (x3)))]) hx hb dX13_linesOut_90 hl (k := 4) rfl (by decide) rfl (fun ls hl => ?_)
  refine lv_goto (tgt := 49) hx hb dX13_linesOut_93 (by decide) ?_
  exact hk49 hp hS (hl.sub [1, 2, 3, 4, 0] rfl) hsh
set_option maxRecDepth 100000 in
set_option maxHeartbeats 4000000 in
theorem w13_linesOut_l49 {p : Program} {l : Launch} {e : Env} {s : State} {m : MethodId} {args : Array Value} {below : List Frame} {meth : Method} {c : Code} {D : va_G} {cA : Nat → ClassId} {B : Nat} {res : HP} (E : e_En p s m args meth c cX13_linesOut RX13 9 none) : ∀ (f : Nat) {ls : Array Slot} {H : Heap} {locs : List Loc} {S : HP} {x0 : Int} {x1 : Int} {x2 : Int} {x3 : Int} {x4 : Int} (hp : e_Pic D cA B S s H) (hS : va_S (e_A B) s.heap H locs) (hl : e_lo ls 9 [(0, e_rv B (x0)), (1, .int (iI (x1))), (2, .int (iI (x2))), (3, .int (iI (x3))), (4, .int (iI (x4)))]) (hsh : s13_linesOut_l49 f S x0 x1 x2 x3 x4 = some res), W p l e ({ frames := 2, cells := 0, slots := 0, locals := 42 } : Room) s m args below meth c H locs 0 0 (MQ below (e_Qv D cA B res) args s 0 0 (e_A B)) (F0 m 49 ls []) := by
  obtain ⟨hx, hb, hml, hown, hts, hlk, hrt⟩ := id E
  intro f
  induction f with
  | zero => intro ls H locs S x0 x1 x2 x3 x4 hp hS hl hsh; cases hsh
  | succ f ih =>
    intro ls H locs S x0 x1 x2 x3 x4 hp hS hl hsh
    have hk49 : ∀ {ls : Array Slot} {H : Heap} {locs : List Loc} {S : HP} {x0 : Int} {x1 : Int} {x2 : Int} {x3 : Int} {x4 : Int} (hp : e_Pic D cA B S s H) (hS : va_S (e_A B) s.heap H locs) (hl : e_lo ls 9 [(0, e_rv B (x0)), (1, .int (iI (x1))), (2, .int (iI (x2))), (3, .int (iI (x3))), (4, .int (iI (x4)))]) (hsh : (s13_linesOut_l49 f) S x0 x1 x2 x3 x4 = some res), W p l e ({ frames := 2, cells := 0, slots := 0, locals := 42 } : Room) s m args below meth c H locs 0 0 (MQ below (e_Qv D cA B res) args s 0 0 (e_A B)) (F0 m 49 ls []) := ih
    generalize hkk : s13_linesOut_l49 f = k49 at hk49
    rw [s13_linesOut_l49] at hsh
    rw [hkk] at hsh
    try dsimp only at hsh
    refine lv_iload hx hb dX13_linesOut_49 (hl.at 4 rfl) ?_
    refine e_if_lt (tgt := 96) hx hb dX13_linesOut_51 (by decide) (fun c51 => ?_) (fun c51 => ?_)
    · rw [if_pos c51] at hsh
      refine lv_iconst (v := iI (0)) hx hb dX13_linesOut_96 rfl ?_
      refine e_istore (lv' := [(4, .int (iI (0))), (0, e_rv B (x0)), (1, .int (iI (x1))), (2, .int (iI (x2))), (3, .int (iI (x3)))]) hx hb dX13_linesOut_97 hl (by decide) rfl (fun ls hl => ?_)
      exact w13_linesOut_l99 E 1000000 hp hS (hl.sub [1, 2, 3, 4, 0] rfl) hsh
    · rw [if_neg c51] at hsh
      refine e_aload_n (B := B) (x := x0) hx hb dX13_linesOut_54 rfl (hl.at 0 rfl) ?_
      obtain ⟨v55, h55, hsh⟩ := Option.bind_eq_some_iff.mp hsh
      refine e_getR (k := 17) hx hb hts in_X13 hown hp h55 rfl (by decide) (by decide) rfl (hts _ kf13_39) rfl dX13_linesOut_55 ?_
      refine lv_iload hx hb dX13_linesOut_58 (hl.at 4 rfl) ?_
      refine e_aload_n (B := B) (x := x0) hx hb dX13_linesOut_60 rfl (hl.at 0 rfl) ?_
      obtain ⟨v61, h61, hsh⟩ := Option.bind_eq_some_iff.mp hsh
      refine e_getR (k := 17) hx hb hts in_X13 hown hp h61 rfl (by decide) (by decide) rfl (hts _ kf13_39) rfl dX13_linesOut_61 ?_
      refine lv_iload hx hb dX13_linesOut_64 (hl.at 4 rfl) ?_
      obtain ⟨v66, h66, hsh⟩ := Option.bind_eq_some_iff.mp hsh
      refine e_iald hx hb hp h66 dX13_linesOut_66 ?_
      refine lv_iload_n hx hb dX13_linesOut_67 rfl (hl.at 1 rfl) ?_
      refine lv_iload_n hx hb dX13_linesOut_68 rfl (hl.at 2 rfl) ?_
      obtain ⟨⟨v69, S69⟩, h69, hsh⟩ := Option.bind_eq_some_iff.mp hsh
      have hsh : _ = _ := hsh
      try dsimp only at hsh
      refine e_callS (nL := 9) (mc := 0) (ms := 0) (As := [.int (iI (v66)), .int (iI (x1)), .int (iI (x2))]) (rest := [.int (iI (x4)), e_rv B (v55)]) hx hb hml hown hts hp hS hl.size (c13_without l D cA B S S69 (v66) (x1) (x2) v69 h69) rfl rfl kd13_without (kl13_251) ks13_without ki13 kh13_without ⟨Nat.le_of_ble_eq_true rfl, Nat.le_of_ble_eq_true rfl⟩ rfl (by simp [e_rv_cat, e_int_cat]) ⟨Nat.le_refl _, Nat.le_refl _⟩ dX13_linesOut_69 rfl (fun H locs hp hS => ?_)
      obtain ⟨S72, h72, hsh⟩ := Option.bind_eq_some_iff.mp hsh
      refine e_iast hx hb hp hS h72 dX13_linesOut_72 (fun H locs hp hS => ?_)
      refine e_aload_n (B := B) (x := x0) hx hb dX13_linesOut_73 rfl (hl.at 0 rfl) ?_
      obtain ⟨v74, h74, hsh⟩ := Option.bind_eq_some_iff.mp hsh
      refine e_getR (k := 17) hx hb hts in_X13 hown hp h74 rfl (by decide) (by decide) rfl (hts _ kf13_39) rfl dX13_linesOut_74 ?_
      refine lv_iload hx hb dX13_linesOut_77 (hl.at 4 rfl) ?_
      obtain ⟨v79, h79, hsh⟩ := Option.bind_eq_some_iff.mp hsh
      refine e_iald hx hb hp h79 dX13_linesOut_79 ?_
      refine lv_iconst (v := iI (-1)) hx hb dX13_linesOut_80 rfl ?_
      refine e_icmp_ne (tgt := 90) hx hb dX13_linesOut_81 (by decide) (fun c81 => ?_) (fun c81 => ?_)
      · rw [if_neg c81] at hsh
        exact w13_linesOut_b90 (hk49 := hk49) E hp hS (hl.sub [0, 1, 2, 3, 4] rfl) hsh
      · rw [if_pos c81] at hsh
        refine e_aload_n (B := B) (x := x0) hx hb dX13_linesOut_84 rfl (hl.at 0 rfl) ?_
        refine lv_iload hx hb dX13_linesOut_85 (hl.at 4 rfl) ?_
        obtain ⟨S87, h87, hsh⟩ := Option.bind_eq_some_iff.mp hsh
        have ok87 := ok13_dropsJump h87
        refine e_callV (nL := 9) (mc := 0) (ms := 0) (T := TX13) (N := 126) (As := [.int (iI (x4))]) (rest := []) hx hb hml hown hts hp hS hl.size ok87.1 ok87.2.1 ok87.2.2 rfl (by decide) (c13_dropsJump l D cA B S72 S87 (x0) (x4) h87) rfl rfl kd13_dropsJump (kl13_254) ks13_dropsJump kv13_dropsJump ki13 kh13_dropsJump ⟨Nat.le_of_ble_eq_true rfl, Nat.le_of_ble_eq_true rfl⟩ rfl (by simp [e_rv_cat, e_int_cat]) ⟨Nat.le_refl _, Nat.le_refl _⟩ dX13_linesOut_87 rfl (fun H locs hp hS => ?_)
        exact w13_linesOut_b90 (hk49 := hk49) E hp hS (hl.sub [0, 1, 2, 3, 4] rfl) hsh
set_option maxRecDepth 100000 in
set_option maxHeartbeats 4000000 in
theorem w13_linesOut_l9 {p : Program} {l : Launch} {e : Env} {s : State} {m : MethodId} {args : Array Value} {below : List Frame} {meth : Method} {c : Code} {D : va_G} {cA : Nat → ClassId} {B : Nat} {res : HP} (E : e_En p s m args meth c cX13_linesOut RX13 9 none) : ∀ (f : Nat) {ls : Array Slot} {H : Heap} {locs : List Loc} {S : HP} {x0 : Int} {x1 : Int} {x2 : Int} {x3 : Int} {x4 : Int} (hp : e_Pic D cA B S s H) (hS : va_S (e_A B) s.heap H locs) (hl : e_lo ls 9 [(0, e_rv B (x0)), (1, .int (iI (x1))), (2, .int (iI (x2))), (3, .int (iI (x3))), (4, .int (iI (x4)))]) (hsh : s13_linesOut_l9 f S x0 x1 x2 x3 x4 = some res), W p l e ({ frames := 2, cells := 0, slots := 0, locals := 42 } : Room) s m args below meth c H locs 0 0 (MQ below (e_Qv D cA B res) args s 0 0 (e_A B)) (F0 m 9 ls []) := by
  obtain ⟨hx, hb, hml, hown, hts, hlk, hrt⟩ := id E
  intro f
  induction f with
  | zero => intro ls H locs S x0 x1 x2 x3 x4 hp hS hl hsh; cases hsh
  | succ f ih =>
    intro ls H locs S x0 x1 x2 x3 x4 hp hS hl hsh
    have hk9 : ∀ {ls : Array Slot} {H : Heap} {locs : List Loc} {S : HP} {x0 : Int} {x1 : Int} {x2 : Int} {x3 : Int} {x4 : Int} (hp : e_Pic D cA B S s H) (hS : va_S (e_A B) s.heap H locs) (hl : e_lo ls 9 [(0, e_rv B (x0)), (1, .int (iI (x1))), (2, .int (iI (x2))), (3, .int (iI (x3))), (4, .int (iI (x4)))]) (hsh : (s13_linesOut_l9 f) S x0 x1 x2 x3 x4 = some res), W p l e ({ frames := 2, cells := 0, slots := 0, locals := 42 } : Room) s m args below meth c H locs 0 0 (MQ below (e_Qv D cA B res) args s 0 0 (e_A B)) (F0 m 9 ls []) := ih
    generalize hkk : s13_linesOut_l9 f = k9 at hk9
    rw [s13_linesOut_l9] at hsh
    rw [hkk] at hsh
    try dsimp only at hsh
    refine lv_iload hx hb dX13_linesOut_9 (hl.at 4 rfl) ?_
    refine lv_bipush (v := iI (26)) hx hb dX13_linesOut_11 (by decide +kernel) ?_
    refine e_icmp_ge (tgt := 41) hx hb dX13_linesOut_13 (by decide) (fun c13 => ?_) (fun c13 => ?_)
    · rw [if_pos c13] at hsh
      refine e_aload_n (B := B) (x := x0) hx hb dX13_linesOut_41 rfl (hl.at 0 rfl) ?_
      obtain ⟨v42, h42, hsh⟩ := Option.bind_eq_some_iff.mp hsh
      refine e_getI (k := 16) hx hb hts in_X13 hown hp h42 rfl (by decide) (by decide) rfl (hts _ kf13_234) rfl dX13_linesOut_42 ?_
      refine lv_iconst (v := iI (1)) hx hb dX13_linesOut_45 rfl ?_
      refine e_isub hx hb dX13_linesOut_46 ?_
      refine e_istore (lv' := [(4, .int (iI ((v42 - 1)))), (0, e_rv B (x0)), (1, .int (iI (x1))), (2, .int (iI (x2))), (3, .int (iI (x3)))]) hx hb dX13_linesOut_47 hl (by decide) rfl (fun ls hl => ?_)
      exact w13_linesOut_l49 E 1000000 hp hS (hl.sub [1, 2, 3, 4, 0] rfl) hsh
    · rw [if_neg c13] at hsh
      refine e_aload_n (B := B) (x := x0) hx hb dX13_linesOut_16 rfl (hl.at 0 rfl) ?_
      obtain ⟨v17, h17, hsh⟩ := Option.bind_eq_some_iff.mp hsh
      refine e_getR (k := 14) hx hb hts in_X13 hown hp h17 rfl (by decide) (by decide) rfl (hts _ kf13_33) rfl dX13_linesOut_17 ?_
      refine lv_iload hx hb dX13_linesOut_20 (hl.at 4 rfl) ?_
      refine e_aload_n (B := B) (x := x0) hx hb dX13_linesOut_22 rfl (hl.at 0 rfl) ?_
      obtain ⟨v23, h23, hsh⟩ := Option.bind_eq_some_iff.mp hsh
      refine e_getR (k := 14) hx hb hts in_X13 hown hp h23 rfl (by decide) (by decide) rfl (hts _ kf13_33) rfl dX13_linesOut_23 ?_
      refine lv_iload hx hb dX13_linesOut_26 (hl.at 4 rfl) ?_
      obtain ⟨v28, h28, hsh⟩ := Option.bind_eq_some_iff.mp hsh
      refine e_iald hx hb hp h28 dX13_linesOut_28 ?_
      refine lv_iload_n hx hb dX13_linesOut_29 rfl (hl.at 1 rfl) ?_
      refine lv_iload_n hx hb dX13_linesOut_30 rfl (hl.at 2 rfl) ?_
      obtain ⟨⟨v31, S31⟩, h31, hsh⟩ := Option.bind_eq_some_iff.mp hsh
      have hsh : _ = _ := hsh
      try dsimp only at hsh
      refine e_callS (nL := 9) (mc := 0) (ms := 0) (As := [.int (iI (v28)), .int (iI (x1)), .int (iI (x2))]) (rest := [.int (iI (x4)), e_rv B (v17)]) hx hb hml hown hts hp hS hl.size (c13_without l D cA B S S31 (v28) (x1) (x2) v31 h31) rfl rfl kd13_without (kl13_251) ks13_without ki13 kh13_without ⟨Nat.le_of_ble_eq_true rfl, Nat.le_of_ble_eq_true rfl⟩ rfl (by simp [e_rv_cat, e_int_cat]) ⟨Nat.le_refl _, Nat.le_refl _⟩ dX13_linesOut_31 rfl (fun H locs hp hS => ?_)
      obtain ⟨S34, h34, hsh⟩ := Option.bind_eq_some_iff.mp hsh
      refine e_iast hx hb hp hS h34 dX13_linesOut_34 (fun H locs hp hS => ?_)
      refine e_iinc (n := 1) (x := x4) (lv' := [(4, .int (iI ((x4 + 1)))), (0, e_rv B (x0)), (1, .int (iI (x1))), (2, .int (iI (x2))), (3, .int (iI (x3)))]) hx hb dX13_linesOut_35 hl (k := 4) rfl (by decide) rfl (fun ls hl => ?_)
      refine lv_goto (tgt := 9) hx hb dX13_linesOut_38 (by decide) ?_
      exact hk9 hp hS (hl.sub [1, 2, 3, 4, 0] rfl) hsh
set_option maxRecDepth 100000 in
set_option maxHeartbeats 4000000 in
theorem c13_linesOut (l : Launch) (D : va_G) (cA : Nat → ClassId) (B : Nat) (S S' : HP) (x0 : Int) (x1 : Int) (x2 : Int) (hsh : s13_linesOut S x0 x1 x2 = some S') : Met l yX13_linesOut (e_wu yX13_linesOut cX13_linesOut 9 none) ({ frames := 2, cells := 0, slots := 0, locals := 42 } : Room) (va_Pc [e_rv B (x0), .int (iI (x1)), .int (iI (x2))] (fun U => e_PU D cA B S U)) (e_Qv D cA B S') 0 0 (e_A B) := by
  refine Met.ofW (cc := cX13_linesOut) (maxL := 9) (ret := none) (by decide +kernel) rfl ?_
  intro p e s m args below meth c s₁ Bd hml hv
  obtain ⟨rfl, hp⟩ := hv
  have hp : e_Pic D cA B S s s.heap := hp
  have hx := Bd.exec
  have hb := Bd.bytes
  have hrt := Bd.returns
  have hlk := Bd.notSynchronized
  have hown : s.vm.findClass RX13 = some m.cls := findClass_of_methodNamed Bd.named
  have hts : ∀ w ∈ e_tb, w.before ([e_rv B (x0), .int (iI (x1)), .int (iI (x2))] : List Value).toArray s = true := fun w h => atoms_spec (ws := (e_wu yX13_linesOut cX13_linesOut 9 none)) Bd.pre w (List.mem_cons_of_mem _ h)
  have E : e_En p s m ([e_rv B (x0), .int (iI (x1)), .int (iI (x2))] : List Value).toArray meth c cX13_linesOut RX13 9 none := ⟨hx, hb, hml, hown, hts, hlk, hrt⟩
  have hS : va_S (e_A B) s.heap s.heap [] := va_S.rf
  have hl := e_entry (vs := [e_rv B (x0), .int (iI (x1)), .int (iI (x2))]) (n := 9) (Nat.le_of_ble_eq_true rfl) (e_cc (e_rv_cat _ _) (e_cc rfl (e_cc rfl e_cn)))
  rw [lg_entry_eq]
  generalize (lg_sl [e_rv B (x0), .int (iI (x1)), .int (iI (x2))] ++ List.replicate (9 - (lg_sl [e_rv B (x0), .int (iI (x1)), .int (iI (x2))]).length) Slot.unset).toArray = ls at hl ⊢
  generalize ([e_rv B (x0), .int (iI (x1)), .int (iI (x2))] : List Value).toArray = args at hts E ⊢
  have hl : e_lo ls 9 [(0, e_rv B (x0)), (1, .int (iI (x1))), (2, .int (iI (x2)))] := hl
  have hsh := (gd_some hsh).2
  refine lv_iload_n hx hb dX13_linesOut_0 rfl (hl.at 2 rfl) ?_
  refine lv_iload_n hx hb dX13_linesOut_1 rfl (hl.at 1 rfl) ?_
  refine e_isub hx hb dX13_linesOut_2 ?_
  refine lv_iconst (v := iI (1)) hx hb dX13_linesOut_3 rfl ?_
  refine e_iadd hx hb dX13_linesOut_4 ?_
  refine e_istore_n (lv' := [(3, .int (iI (((x2 - x1) + 1)))), (0, e_rv B (x0)), (1, .int (iI (x1))), (2, .int (iI (x2)))]) hx hb dX13_linesOut_5 rfl hl (by decide) rfl (fun ls hl => ?_)
  refine lv_iconst (v := iI (0)) hx hb dX13_linesOut_6 rfl ?_
  refine e_istore (lv' := [(4, .int (iI (0))), (3, .int (iI (((x2 - x1) + 1)))), (0, e_rv B (x0)), (1, .int (iI (x1))), (2, .int (iI (x2)))]) hx hb dX13_linesOut_7 hl (by decide) rfl (fun ls hl => ?_)
  exact w13_linesOut_l9 E 1000000 hp hS (hl.sub [2, 3, 4, 1, 0] rfl) hsh
theorem ok13_takesLines {S : HP} {x0 : Int} {x1 : Int} {x2 : Int} {r : HP} (h : s13_takesLines S x0 x1 x2 = some r) : 0 ≤ x0 ∧ x0.toNat < e_n S ∧ e_g S x0.toNat = 13 := (gd_some h).1
set_option maxRecDepth 100000 in
set_option maxHeartbeats 4000000 in
theorem w13_takesLines_b71 {p : Program} {l : Launch} {e : Env} {s : State} {m : MethodId} {args : Array Value} {below : List Frame} {meth : Method} {c : Code} {D : va_G} {cA : Nat → ClassId} {B : Nat} {res : HP} (E : e_En p s m args meth c cX13_takesLines RX13 5 none) {ls : Array Slot} {H : Heap} {locs : List Loc} {S : HP} (hp : e_Pic D cA B S s H) (hS : va_S (e_A B) s.heap H locs) (hl : e_lo ls 5 []) (hsh : s13_takesLines_b71 S  = some res) : W p l e ({ frames := 3, cells := 0, slots := 0, locals := 70 } : Room) s m args below meth c H locs 0 0 (MQ below (e_Qv D cA B res) args s 0 0 (e_A B)) (F0 m 71 ls []) := by
  obtain ⟨hx, hb, hml, hown, hts, hlk, hrt⟩ := id E
  unfold s13_takesLines_b71 at hsh
  cases hsh
  exact e_vret hx hb hrt hlk hp hS dX13_takesLines_71
set_option maxRecDepth 100000 in
set_option maxHeartbeats 4000000 in
theorem w13_takesLines_l11 {p : Program} {l : Launch} {e : Env} {s : State} {m : MethodId} {args : Array Value} {below : List Frame} {meth : Method} {c : Code} {D : va_G} {cA : Nat → ClassId} {B : Nat} {res : HP} (E : e_En p s m args meth c cX13_takesLines RX13 5 none) : ∀ (f : Nat) {ls : Array Slot} {H : Heap} {locs : List Loc} {S : HP} {x0 : Int} {x1 : Int} {x2 : Int} {x3 : Int} {x4 : Int} (hp : e_Pic D cA B S s H) (hS : va_S (e_A B) s.heap H locs) (hl : e_lo ls 5 [(0, e_rv B (x0)), (1, .int (iI (x1))), (2, .int (iI (x2))), (3, .int (iI (x3))), (4, .int (iI (x4)))]) (hsh : s13_takesLines_l11 f S x0 x1 x2 x3 x4 = some res), W p l e ({ frames := 3, cells := 0, slots := 0, locals := 70 } : Room) s m args below meth c H locs 0 0 (MQ below (e_Qv D cA B res) args s 0 0 (e_A B)) (F0 m 11 ls []) := by
  obtain ⟨hx, hb, hml, hown, hts, hlk, hrt⟩ := id E
  intro f
  induction f with
  | zero => intro ls H locs S x0 x1 x2 x3 x4 hp hS hl hsh; cases hsh
  | succ f ih =>
    intro ls H locs S x0 x1 x2 x3 x4 hp hS hl hsh
    have hk11 : ∀ {ls : Array Slot} {H : Heap} {locs : List Loc} {S : HP} {x0 : Int} {x1 : Int} {x2 : Int} {x3 : Int} {x4 : Int} (hp : e_Pic D cA B S s H) (hS : va_S (e_A B) s.heap H locs) (hl : e_lo ls 5 [(0, e_rv B (x0)), (1, .int (iI (x1))), (2, .int (iI (x2))), (3, .int (iI (x3))), (4, .int (iI (x4)))]) (hsh : (s13_takesLines_l11 f) S x0 x1 x2 x3 x4 = some res), W p l e ({ frames := 3, cells := 0, slots := 0, locals := 70 } : Room) s m args below meth c H locs 0 0 (MQ below (e_Qv D cA B res) args s 0 0 (e_A B)) (F0 m 11 ls []) := ih
    generalize hkk : s13_takesLines_l11 f = k11 at hk11
    rw [s13_takesLines_l11] at hsh
    rw [hkk] at hsh
    try dsimp only at hsh
    refine lv_iload hx hb dX13_takesLines_11 (hl.at 4 rfl) ?_
    refine e_aload_n (B := B) (x := x0) hx hb dX13_takesLines_13 rfl (hl.at 0 rfl) ?_
    obtain ⟨v14, h14, hsh⟩ := Option.bind_eq_some_iff.mp hsh
    refine e_getI (k := 2) hx hb hts in_X13 hown hp h14 rfl (by decide) (by decide) rfl (hts _ kf13_13) rfl dX13_takesLines_14 ?_
    refine e_icmp_ge (tgt := 36) hx hb dX13_takesLines_17 (by decide) (fun c17 => ?_) (fun c17 => ?_)
    · rw [if_pos c17] at hsh
      refine e_aload_n (B := B) (x := x0) hx hb dX13_takesLines_36 rfl (hl.at 0 rfl) ?_
      refine lv_dup hx hb dX13_takesLines_37 (e_rv_cat _ _) ?_
      obtain ⟨v38, h38, hsh⟩ := Option.bind_eq_some_iff.mp hsh
      refine e_getI (k := 2) hx hb hts in_X13 hown hp h38 rfl (by decide) (by decide) rfl (hts _ kf13_13) rfl dX13_takesLines_38 ?_
      refine lv_iload_n hx hb dX13_takesLines_41 rfl (hl.at 3 rfl) ?_
      refine e_isub hx hb dX13_takesLines_42 ?_
      obtain ⟨S43, h43, hsh⟩ := Option.bind_eq_some_iff.mp hsh
      refine e_putI (k := 2) hx hb hts in_X13 tyX13 tyX13_ok nmX13 hown hp hS h43 rfl (by decide) (by decide) rfl (hts _ kf13_13) rfl rfl (by decide +kernel) dX13_takesLines_43 (fun H locs hp hS => ?_)
      refine e_aload_n (B := B) (x := x0) hx hb dX13_takesLines_46 rfl (hl.at 0 rfl) ?_
      refine lv_iload_n hx hb dX13_takesLines_47 rfl (hl.at 1 rfl) ?_
      refine lv_iload_n hx hb dX13_takesLines_48 rfl (hl.at 2 rfl) ?_
      obtain ⟨S49, h49, hsh⟩ := Option.bind_eq_some_iff.mp hsh
      have ok49 := ok13_linesOut h49
      refine e_callV (nL := 5) (mc := 0) (ms := 0) (T := TX13) (N := 126) (As := [.int (iI (x1)), .int (iI (x2))]) (rest := []) hx hb hml hown hts hp hS hl.size ok49.1 ok49.2.1 ok49.2.2 rfl (by decide) (c13_linesOut l D cA B S43 S49 (x0) (x1) (x2) h49) rfl rfl kd13_linesOut (kl13_266) ks13_linesOut kv13_linesOut ki13 kh13_linesOut ⟨Nat.le_of_ble_eq_true rfl, Nat.le_of_ble_eq_true rfl⟩ rfl (by simp [e_rv_cat, e_int_cat]) ⟨Nat.le_refl _, Nat.le_refl _⟩ dX13_takesLines_49 rfl (fun H locs hp hS => ?_)
      refine e_aload_n (B := B) (x := x0) hx hb dX13_takesLines_52 rfl (hl.at 0 rfl) ?_
      obtain ⟨v53, h53, hsh⟩ := Option.bind_eq_some_iff.mp hsh
      refine e_getI (k := 2) hx hb hts in_X13 hown hp h53 rfl (by decide) (by decide) rfl (hts _ kf13_13) rfl dX13_takesLines_53 ?_
      refine e_if_ne (tgt := 71) hx hb dX13_takesLines_56 (by decide) (fun c56 => ?_) (fun c56 => ?_)
      · rw [if_neg c56] at hsh
        exact w13_takesLines_b71 E hp hS (hl.sub [] rfl) hsh
      · rw [if_pos c56] at hsh
        refine e_aload_n (B := B) (x := x0) hx hb dX13_takesLines_59 rfl (hl.at 0 rfl) ?_
        refine lv_iconst (v := iI (1)) hx hb dX13_takesLines_60 rfl ?_
        obtain ⟨S61, h61, hsh⟩ := Option.bind_eq_some_iff.mp hsh
        refine e_putI (k := 2) hx hb hts in_X13 tyX13 tyX13_ok nmX13 hown hp hS h61 rfl (by decide) (by decide) rfl (hts _ kf13_13) rfl rfl (by decide +kernel) dX13_takesLines_61 (fun H locs hp hS => ?_)
        refine e_aload_n (B := B) (x := x0) hx hb dX13_takesLines_64 rfl (hl.at 0 rfl) ?_
        obtain ⟨v65, h65, hsh⟩ := Option.bind_eq_some_iff.mp hsh
        refine e_getR (k := 3) hx hb hts in_X13 hown hp h65 rfl (by decide) (by decide) rfl (hts _ kf13_17) rfl dX13_takesLines_65 ?_
        refine lv_iconst (v := iI (0)) hx hb dX13_takesLines_68 rfl ?_
        refine lv_iconst (v := iI (0)) hx hb dX13_takesLines_69 rfl ?_
        obtain ⟨S70, h70, hsh⟩ := Option.bind_eq_some_iff.mp hsh
        refine e_iast hx hb hp hS h70 dX13_takesLines_70 (fun H locs hp hS => ?_)
        exact w13_takesLines_b71 E hp hS (hl.sub [] rfl) hsh
    · rw [if_neg c17] at hsh
      refine e_aload_n (B := B) (x := x0) hx hb dX13_takesLines_20 rfl (hl.at 0 rfl) ?_
      refine lv_iload hx hb dX13_takesLines_21 (hl.at 4 rfl) ?_
      refine lv_iload hx hb dX13_takesLines_23 (hl.at 4 rfl) ?_
      refine lv_iload_n hx hb dX13_takesLines_25 rfl (hl.at 3 rfl) ?_
      refine e_isub hx hb dX13_takesLines_26 ?_
      obtain ⟨S27, h27, hsh⟩ := Option.bind_eq_some_iff.mp hsh
      have ok27 := ok13_copiesLine h27
      refine e_callV (nL := 5) (mc := 0) (ms := 0) (T := TX13) (N := 126) (As := [.int (iI (x4)), .int (iI ((x4 - x3)))]) (rest := []) hx hb hml hown hts hp hS hl.size ok27.1 ok27.2.1 ok27.2.2 rfl (by decide) (c13_copiesLine l D cA B S S27 (x0) (x4) ((x4 - x3)) h27) rfl rfl kd13_copiesLine (kl13_263) ks13_copiesLine kv13_copiesLine ki13 kh13_copiesLine ⟨Nat.le_of_ble_eq_true rfl, Nat.le_of_ble_eq_true rfl⟩ rfl (by simp [e_rv_cat, e_int_cat]) ⟨Nat.le_refl _, Nat.le_refl _⟩ dX13_takesLines_27 rfl (fun H locs hp hS => ?_)
      refine e_iinc (n := 1) (x := x4) (lv' := [(4, .int (iI ((x4 + 1)))), (0, e_rv B (x0)), (1, .int (iI (x1))), (2, .int (iI (x2))), (3, .int (iI (x3)))]) hx hb dX13_takesLines_30 hl (k := 4) rfl (by decide) rfl (fun ls hl => ?_)
      refine lv_goto (tgt := 11) hx hb dX13_takesLines_33 (by decide) ?_
      exact hk11 hp hS (hl.sub [1, 2, 3, 4, 0] rfl) hsh
set_option maxRecDepth 100000 in
set_option maxHeartbeats 4000000 in
theorem c13_takesLines (l : Launch) (D : va_G) (cA : Nat → ClassId) (B : Nat) (S S' : HP) (x0 : Int) (x1 : Int) (x2 : Int) (hsh : s13_takesLines S x0 x1 x2 = some S') : Met l yX13_takesLines (e_wu yX13_takesLines cX13_takesLines 5 none) ({ frames := 3, cells := 0, slots := 0, locals := 70 } : Room) (va_Pc [e_rv B (x0), .int (iI (x1)), .int (iI (x2))] (fun U => e_PU D cA B S U)) (e_Qv D cA B S') 0 0 (e_A B) := by
  refine Met.ofW (cc := cX13_takesLines) (maxL := 5) (ret := none) (by decide +kernel) rfl ?_
  intro p e s m args below meth c s₁ Bd hml hv
  obtain ⟨rfl, hp⟩ := hv
  have hp : e_Pic D cA B S s s.heap := hp
  have hx := Bd.exec
  have hb := Bd.bytes
  have hrt := Bd.returns
  have hlk := Bd.notSynchronized
  have hown : s.vm.findClass RX13 = some m.cls := findClass_of_methodNamed Bd.named
  have hts : ∀ w ∈ e_tb, w.before ([e_rv B (x0), .int (iI (x1)), .int (iI (x2))] : List Value).toArray s = true := fun w h => atoms_spec (ws := (e_wu yX13_takesLines cX13_takesLines 5 none)) Bd.pre w (List.mem_cons_of_mem _ h)
  have E : e_En p s m ([e_rv B (x0), .int (iI (x1)), .int (iI (x2))] : List Value).toArray meth c cX13_takesLines RX13 5 none := ⟨hx, hb, hml, hown, hts, hlk, hrt⟩
  have hS : va_S (e_A B) s.heap s.heap [] := va_S.rf
  have hl := e_entry (vs := [e_rv B (x0), .int (iI (x1)), .int (iI (x2))]) (n := 5) (Nat.le_of_ble_eq_true rfl) (e_cc (e_rv_cat _ _) (e_cc rfl (e_cc rfl e_cn)))
  rw [lg_entry_eq]
  generalize (lg_sl [e_rv B (x0), .int (iI (x1)), .int (iI (x2))] ++ List.replicate (5 - (lg_sl [e_rv B (x0), .int (iI (x1)), .int (iI (x2))]).length) Slot.unset).toArray = ls at hl ⊢
  generalize ([e_rv B (x0), .int (iI (x1)), .int (iI (x2))] : List Value).toArray = args at hts E ⊢
  have hl : e_lo ls 5 [(0, e_rv B (x0)), (1, .int (iI (x1))), (2, .int (iI (x2)))] := hl
  have hsh := (gd_some hsh).2
  refine lv_iload_n hx hb dX13_takesLines_0 rfl (hl.at 2 rfl) ?_
  refine lv_iload_n hx hb dX13_takesLines_1 rfl (hl.at 1 rfl) ?_
  refine e_isub hx hb dX13_takesLines_2 ?_
  refine lv_iconst (v := iI (1)) hx hb dX13_takesLines_3 rfl ?_
  refine e_iadd hx hb dX13_takesLines_4 ?_
  refine e_istore_n (lv' := [(3, .int (iI (((x2 - x1) + 1)))), (0, e_rv B (x0)), (1, .int (iI (x1))), (2, .int (iI (x2)))]) hx hb dX13_takesLines_5 rfl hl (by decide) rfl (fun ls hl => ?_)
  refine lv_iload_n hx hb dX13_takesLines_6 rfl (hl.at 3 rfl) ?_
  refine lv_iconst (v := iI (1)) hx hb dX13_takesLines_7 rfl ?_
  refine e_iadd hx hb dX13_takesLines_8 ?_
  refine e_istore (lv' := [(4, .int (iI ((x2 + 1)))), (3, .int (iI (((x2 - x1) + 1)))), (0, e_rv B (x0)), (1, .int (iI (x1))), (2, .int (iI (x2)))]) hx hb dX13_takesLines_9 hl (by decide) rfl (fun ls hl => ?_)
  exact w13_takesLines_l11 E 1000000 hp hS (hl.sub [2, 3, 4, 1, 0] rfl) hsh
theorem ok13_putsLines {S : HP} {x0 : Int} {x1 : Int} {x2 : Int} {r : HP} (h : s13_putsLines S x0 x1 x2 = some r) : 0 ≤ x0 ∧ x0.toNat < e_n S ∧ e_g S x0.toNat = 13 := (gd_some h).1
set_option maxRecDepth 100000 in
set_option maxHeartbeats 4000000 in
theorem w13_putsLines_l28 {p : Program} {l : Launch} {e : Env} {s : State} {m : MethodId} {args : Array Value} {below : List Frame} {meth : Method} {c : Code} {D : va_G} {cA : Nat → ClassId} {B : Nat} {res : HP} (E : e_En p s m args meth c cX13_putsLines RX13 4 none) : ∀ (f : Nat) {ls : Array Slot} {H : Heap} {locs : List Loc} {S : HP} {x0 : Int} {x1 : Int} {x2 : Int} {x3 : Int} (hp : e_Pic D cA B S s H) (hS : va_S (e_A B) s.heap H locs) (hl : e_lo ls 4 [(0, e_rv B (x0)), (1, .int (iI (x1))), (2, .int (iI (x2))), (3, .int (iI (x3)))]) (hsh : s13_putsLines_l28 f S x0 x1 x2 x3 = some res), W p l e ({ frames := 2, cells := 0, slots := 0, locals := 49 } : Room) s m args below meth c H locs 0 0 (MQ below (e_Qv D cA B res) args s 0 0 (e_A B)) (F0 m 28 ls []) := by
  obtain ⟨hx, hb, hml, hown, hts, hlk, hrt⟩ := id E
  intro f
  induction f with
  | zero => intro ls H locs S x0 x1 x2 x3 hp hS hl hsh; cases hsh
  | succ f ih =>
    intro ls H locs S x0 x1 x2 x3 hp hS hl hsh
    have hk28 : ∀ {ls : Array Slot} {H : Heap} {locs : List Loc} {S : HP} {x0 : Int} {x1 : Int} {x2 : Int} {x3 : Int} (hp : e_Pic D cA B S s H) (hS : va_S (e_A B) s.heap H locs) (hl : e_lo ls 4 [(0, e_rv B (x0)), (1, .int (iI (x1))), (2, .int (iI (x2))), (3, .int (iI (x3)))]) (hsh : (s13_putsLines_l28 f) S x0 x1 x2 x3 = some res), W p l e ({ frames := 2, cells := 0, slots := 0, locals := 49 } : Room) s m args below meth c H locs 0 0 (MQ below (e_Qv D cA B res) args s 0 0 (e_A B)) (F0 m 28 ls []) := ih
    generalize hkk : s13_putsLines_l28 f = k28 at hk28
    rw [s13_putsLines_l28] at hsh
    rw [hkk] at hsh
    try dsimp only at hsh
    refine lv_iload_n hx hb dX13_putsLines_28 rfl (hl.at 3 rfl) ?_
    refine lv_iload_n hx hb dX13_putsLines_29 rfl (hl.at 1 rfl) ?_
    refine lv_iload_n hx hb dX13_putsLines_30 rfl (hl.at 2 rfl) ?_
    refine e_iadd hx hb dX13_putsLines_31 ?_
    refine e_icmp_ge (tgt := 48) hx hb dX13_putsLines_32 (by decide) (fun c32 => ?_) (fun c32 => ?_)
    · rw [if_pos c32] at hsh
      refine e_aload_n (B := B) (x := x0) hx hb dX13_putsLines_48 rfl (hl.at 0 rfl) ?_
      refine lv_dup hx hb dX13_putsLines_49 (e_rv_cat _ _) ?_
      obtain ⟨v50, h50, hsh⟩ := Option.bind_eq_some_iff.mp hsh
      refine e_getI (k := 2) hx hb hts in_X13 hown hp h50 rfl (by decide) (by decide) rfl (hts _ kf13_13) rfl dX13_putsLines_50 ?_
      refine lv_iload_n hx hb dX13_putsLines_53 rfl (hl.at 2 rfl) ?_
      refine e_iadd hx hb dX13_putsLines_54 ?_
      obtain ⟨S55, h55, hsh⟩ := Option.bind_eq_some_iff.mp hsh
      refine e_putI (k := 2) hx hb hts in_X13 tyX13 tyX13_ok nmX13 hown hp hS h55 rfl (by decide) (by decide) rfl (hts _ kf13_13) rfl rfl (by decide +kernel) dX13_putsLines_55 (fun H locs hp hS => ?_)
      refine e_aload_n (B := B) (x := x0) hx hb dX13_putsLines_58 rfl (hl.at 0 rfl) ?_
      refine lv_iload_n hx hb dX13_putsLines_59 rfl (hl.at 1 rfl) ?_
      refine lv_iload_n hx hb dX13_putsLines_60 rfl (hl.at 2 rfl) ?_
      obtain ⟨S61, h61, hsh⟩ := Option.bind_eq_some_iff.mp hsh
      have ok61 := ok13_linesIn h61
      refine e_callV (nL := 4) (mc := 0) (ms := 0) (T := TX13) (N := 126) (As := [.int (iI (x1)), .int (iI (x2))]) (rest := []) hx hb hml hown hts hp hS hl.size ok61.1 ok61.2.1 ok61.2.2 rfl (by decide) (c13_linesIn l D cA B S55 S61 (x0) (x1) (x2) h61) rfl rfl kd13_linesIn (kl13_269) ks13_linesIn kv13_linesIn ki13 kh13_linesIn ⟨Nat.le_of_ble_eq_true rfl, Nat.le_of_ble_eq_true rfl⟩ rfl (by simp [e_rv_cat, e_int_cat]) ⟨Nat.le_refl _, Nat.le_refl _⟩ dX13_putsLines_61 rfl (fun H locs hp hS => ?_)
      cases hsh
      exact e_vret hx hb hrt hlk hp hS dX13_putsLines_64
    · rw [if_neg c32] at hsh
      refine e_aload_n (B := B) (x := x0) hx hb dX13_putsLines_35 rfl (hl.at 0 rfl) ?_
      obtain ⟨v36, h36, hsh⟩ := Option.bind_eq_some_iff.mp hsh
      refine e_getR (k := 3) hx hb hts in_X13 hown hp h36 rfl (by decide) (by decide) rfl (hts _ kf13_17) rfl dX13_putsLines_36 ?_
      refine lv_iload_n hx hb dX13_putsLines_39 rfl (hl.at 3 rfl) ?_
      refine lv_iconst (v := iI (0)) hx hb dX13_putsLines_40 rfl ?_
      obtain ⟨S41, h41, hsh⟩ := Option.bind_eq_some_iff.mp hsh
      refine e_iast hx hb hp hS h41 dX13_putsLines_41 (fun H locs hp hS => ?_)
      refine e_iinc (n := 1) (x := x3) (lv' := [(3, .int (iI ((x3 + 1)))), (0, e_rv B (x0)), (1, .int (iI (x1))), (2, .int (iI (x2)))]) hx hb dX13_putsLines_42 hl (k := 3) rfl (by decide) rfl (fun ls hl => ?_)
      refine lv_goto (tgt := 28) hx hb dX13_putsLines_45 (by decide) ?_
      exact hk28 hp hS (hl.sub [1, 2, 3, 0] rfl) hsh
set_option maxRecDepth 100000 in
set_option maxHeartbeats 4000000 in
theorem w13_putsLines_l7 {p : Program} {l : Launch} {e : Env} {s : State} {m : MethodId} {args : Array Value} {below : List Frame} {meth : Method} {c : Code} {D : va_G} {cA : Nat → ClassId} {B : Nat} {res : HP} (E : e_En p s m args meth c cX13_putsLines RX13 4 none) : ∀ (f : Nat) {ls : Array Slot} {H : Heap} {locs : List Loc} {S : HP} {x0 : Int} {x1 : Int} {x2 : Int} {x3 : Int} (hp : e_Pic D cA B S s H) (hS : va_S (e_A B) s.heap H locs) (hl : e_lo ls 4 [(0, e_rv B (x0)), (1, .int (iI (x1))), (2, .int (iI (x2))), (3, .int (iI (x3)))]) (hsh : s13_putsLines_l7 f S x0 x1 x2 x3 = some res), W p l e ({ frames := 2, cells := 0, slots := 0, locals := 49 } : Room) s m args below meth c H locs 0 0 (MQ below (e_Qv D cA B res) args s 0 0 (e_A B)) (F0 m 7 ls []) := by
  obtain ⟨hx, hb, hml, hown, hts, hlk, hrt⟩ := id E
  intro f
  induction f with
  | zero => intro ls H locs S x0 x1 x2 x3 hp hS hl hsh; cases hsh
  | succ f ih =>
    intro ls H locs S x0 x1 x2 x3 hp hS hl hsh
    have hk7 : ∀ {ls : Array Slot} {H : Heap} {locs : List Loc} {S : HP} {x0 : Int} {x1 : Int} {x2 : Int} {x3 : Int} (hp : e_Pic D cA B S s H) (hS : va_S (e_A B) s.heap H locs) (hl : e_lo ls 4 [(0, e_rv B (x0)), (1, .int (iI (x1))), (2, .int (iI (x2))), (3, .int (iI (x3)))]) (hsh : (s13_putsLines_l7 f) S x0 x1 x2 x3 = some res), W p l e ({ frames := 2, cells := 0, slots := 0, locals := 49 } : Room) s m args below meth c H locs 0 0 (MQ below (e_Qv D cA B res) args s 0 0 (e_A B)) (F0 m 7 ls []) := ih
    generalize hkk : s13_putsLines_l7 f = k7 at hk7
    rw [s13_putsLines_l7] at hsh
    rw [hkk] at hsh
    try dsimp only at hsh
    refine lv_iload_n hx hb dX13_putsLines_7 rfl (hl.at 3 rfl) ?_
    refine lv_iload_n hx hb dX13_putsLines_8 rfl (hl.at 1 rfl) ?_
    refine e_icmp_lt (tgt := 26) hx hb dX13_putsLines_9 (by decide) (fun c9 => ?_) (fun c9 => ?_)
    · rw [if_pos c9] at hsh
      refine lv_iload_n hx hb dX13_putsLines_26 rfl (hl.at 1 rfl) ?_
      refine e_istore_n (lv' := [(3, .int (iI (x1))), (0, e_rv B (x0)), (1, .int (iI (x1))), (2, .int (iI (x2)))]) hx hb dX13_putsLines_27 rfl hl (by decide) rfl (fun ls hl => ?_)
      exact w13_putsLines_l28 E 1000000 hp hS (hl.sub [1, 2, 3, 0] rfl) hsh
    · rw [if_neg c9] at hsh
      refine e_aload_n (B := B) (x := x0) hx hb dX13_putsLines_12 rfl (hl.at 0 rfl) ?_
      refine lv_iload_n hx hb dX13_putsLines_13 rfl (hl.at 3 rfl) ?_
      refine lv_iload_n hx hb dX13_putsLines_14 rfl (hl.at 3 rfl) ?_
      refine lv_iload_n hx hb dX13_putsLines_15 rfl (hl.at 2 rfl) ?_
      refine e_iadd hx hb dX13_putsLines_16 ?_
      obtain ⟨S17, h17, hsh⟩ := Option.bind_eq_some_iff.mp hsh
      have ok17 := ok13_copiesLine h17
      refine e_callV (nL := 4) (mc := 0) (ms := 0) (T := TX13) (N := 126) (As := [.int (iI (x3)), .int (iI ((x3 + x2)))]) (rest := []) hx hb hml hown hts hp hS hl.size ok17.1 ok17.2.1 ok17.2.2 rfl (by decide) (c13_copiesLine l D cA B S S17 (x0) (x3) ((x3 + x2)) h17) rfl rfl kd13_copiesLine (kl13_263) ks13_copiesLine kv13_copiesLine ki13 kh13_copiesLine ⟨Nat.le_of_ble_eq_true rfl, Nat.le_of_ble_eq_true rfl⟩ rfl (by simp [e_rv_cat, e_int_cat]) ⟨Nat.le_refl _, Nat.le_refl _⟩ dX13_putsLines_17 rfl (fun H locs hp hS => ?_)
      refine e_iinc (n := (-1)) (x := x3) (lv' := [(3, .int (iI ((x3 + (-1))))), (0, e_rv B (x0)), (1, .int (iI (x1))), (2, .int (iI (x2)))]) hx hb dX13_putsLines_20 hl (k := 3) rfl (by decide) rfl (fun ls hl => ?_)
      refine lv_goto (tgt := 7) hx hb dX13_putsLines_23 (by decide) ?_
      exact hk7 hp hS (hl.sub [1, 2, 3, 0] rfl) hsh
set_option maxRecDepth 100000 in
set_option maxHeartbeats 4000000 in
theorem c13_putsLines (l : Launch) (D : va_G) (cA : Nat → ClassId) (B : Nat) (S S' : HP) (x0 : Int) (x1 : Int) (x2 : Int) (hsh : s13_putsLines S x0 x1 x2 = some S') : Met l yX13_putsLines (e_wu yX13_putsLines cX13_putsLines 4 none) ({ frames := 2, cells := 0, slots := 0, locals := 49 } : Room) (va_Pc [e_rv B (x0), .int (iI (x1)), .int (iI (x2))] (fun U => e_PU D cA B S U)) (e_Qv D cA B S') 0 0 (e_A B) := by
  refine Met.ofW (cc := cX13_putsLines) (maxL := 4) (ret := none) (by decide +kernel) rfl ?_
  intro p e s m args below meth c s₁ Bd hml hv
  obtain ⟨rfl, hp⟩ := hv
  have hp : e_Pic D cA B S s s.heap := hp
  have hx := Bd.exec
  have hb := Bd.bytes
  have hrt := Bd.returns
  have hlk := Bd.notSynchronized
  have hown : s.vm.findClass RX13 = some m.cls := findClass_of_methodNamed Bd.named
  have hts : ∀ w ∈ e_tb, w.before ([e_rv B (x0), .int (iI (x1)), .int (iI (x2))] : List Value).toArray s = true := fun w h => atoms_spec (ws := (e_wu yX13_putsLines cX13_putsLines 4 none)) Bd.pre w (List.mem_cons_of_mem _ h)
  have E : e_En p s m ([e_rv B (x0), .int (iI (x1)), .int (iI (x2))] : List Value).toArray meth c cX13_putsLines RX13 4 none := ⟨hx, hb, hml, hown, hts, hlk, hrt⟩
  have hS : va_S (e_A B) s.heap s.heap [] := va_S.rf
  have hl := e_entry (vs := [e_rv B (x0), .int (iI (x1)), .int (iI (x2))]) (n := 4) (Nat.le_of_ble_eq_true rfl) (e_cc (e_rv_cat _ _) (e_cc rfl (e_cc rfl e_cn)))
  rw [lg_entry_eq]
  generalize (lg_sl [e_rv B (x0), .int (iI (x1)), .int (iI (x2))] ++ List.replicate (4 - (lg_sl [e_rv B (x0), .int (iI (x1)), .int (iI (x2))]).length) Slot.unset).toArray = ls at hl ⊢
  generalize ([e_rv B (x0), .int (iI (x1)), .int (iI (x2))] : List Value).toArray = args at hts E ⊢
  have hl : e_lo ls 4 [(0, e_rv B (x0)), (1, .int (iI (x1))), (2, .int (iI (x2)))] := hl
  have hsh := (gd_some hsh).2
  refine e_aload_n (B := B) (x := x0) hx hb dX13_putsLines_0 rfl (hl.at 0 rfl) ?_
  obtain ⟨v1, h1, hsh⟩ := Option.bind_eq_some_iff.mp hsh
  refine e_getI (k := 2) hx hb hts in_X13 hown hp h1 rfl (by decide) (by decide) rfl (hts _ kf13_13) rfl dX13_putsLines_1 ?_
  refine lv_iconst (v := iI (1)) hx hb dX13_putsLines_4 rfl ?_
  refine e_isub hx hb dX13_putsLines_5 ?_
  refine e_istore_n (lv' := [(3, .int (iI ((v1 - 1)))), (0, e_rv B (x0)), (1, .int (iI (x1))), (2, .int (iI (x2)))]) hx hb dX13_putsLines_6 rfl hl (by decide) rfl (fun ls hl => ?_)
  exact w13_putsLines_l7 E 1000000 hp hS (hl.sub [1, 2, 3, 0] rfl) hsh
theorem ok13_takesSigns {S : HP} {x0 : Int} {x1 : Int} {x2 : Int} {x3 : Int} {x4 : Int} {r : HP} (h : s13_takesSigns S x0 x1 x2 x3 x4 = some r) : 0 ≤ x0 ∧ x0.toNat < e_n S ∧ e_g S x0.toNat = 13 := (gd_some h).1
set_option maxRecDepth 100000 in
set_option maxHeartbeats 4000000 in
theorem w13_takesSigns_b79 {p : Program} {l : Launch} {e : Env} {s : State} {m : MethodId} {args : Array Value} {below : List Frame} {meth : Method} {c : Code} {D : va_G} {cA : Nat → ClassId} {B : Nat} {res : HP} (E : e_En p s m args meth c cX13_takesSigns RX13 7 none) {ls : Array Slot} {H : Heap} {locs : List Loc} {S : HP} (hp : e_Pic D cA B S s H) (hS : va_S (e_A B) s.heap H locs) (hl : e_lo ls 7 []) (hsh : s13_takesSigns_b79 S  = some res) : W p l e ({ frames := 4, cells := 0, slots := 0, locals := 94 } : Room) s m args below meth c H locs 0 0 (MQ below (e_Qv D cA B res) args s 0 0 (e_A B)) (F0 m 79 ls []) := by
  obtain ⟨hx, hb, hml, hown, hts, hlk, hrt⟩ := id E
  unfold s13_takesSigns_b79 at hsh
  cases hsh
  exact e_vret hx hb hrt hlk hp hS dX13_takesSigns_79
set_option maxRecDepth 100000 in
set_option maxHeartbeats 4000000 in
theorem w13_takesSigns_l14 {p : Program} {l : Launch} {e : Env} {s : State} {m : MethodId} {args : Array Value} {below : List Frame} {meth : Method} {c : Code} {D : va_G} {cA : Nat → ClassId} {B : Nat} {res : HP} (E : e_En p s m args meth c cX13_takesSigns RX13 7 none) : ∀ (f : Nat) {ls : Array Slot} {H : Heap} {locs : List Loc} {S : HP} {x0 : Int} {x1 : Int} {x2 : Int} {x3 : Int} {x4 : Int} {x5 : Int} {x6 : Int} (hp : e_Pic D cA B S s H) (hS : va_S (e_A B) s.heap H locs) (hl : e_lo ls 7 [(0, e_rv B (x0)), (1, .int (iI (x1))), (2, .int (iI (x2))), (3, .int (iI (x3))), (4, .int (iI (x4))), (5, .int (iI (x5))), (6, .int (iI (x6)))]) (hsh : s13_takesSigns_l14 f S x0 x1 x2 x3 x4 x5 x6 = some res), W p l e ({ frames := 4, cells := 0, slots := 0, locals := 94 } : Room) s m args below meth c H locs 0 0 (MQ below (e_Qv D cA B res) args s 0 0 (e_A B)) (F0 m 14 ls []) := by
  obtain ⟨hx, hb, hml, hown, hts, hlk, hrt⟩ := id E
  intro f
  induction f with
  | zero => intro ls H locs S x0 x1 x2 x3 x4 x5 x6 hp hS hl hsh; cases hsh
  | succ f ih =>
    intro ls H locs S x0 x1 x2 x3 x4 x5 x6 hp hS hl hsh
    have hk14 : ∀ {ls : Array Slot} {H : Heap} {locs : List Loc} {S : HP} {x0 : Int} {x1 : Int} {x2 : Int} {x3 : Int} {x4 : Int} {x5 : Int} {x6 : Int} (hp : e_Pic D cA B S s H) (hS : va_S (e_A B) s.heap H locs) (hl : e_lo ls 7 [(0, e_rv B (x0)), (1, .int (iI (x1))), (2, .int (iI (x2))), (3, .int (iI (x3))), (4, .int (iI (x4))), (5, .int (iI (x5))), (6, .int (iI (x6)))]) (hsh : (s13_takesSigns_l14 f) S x0 x1 x2 x3 x4 x5 x6 = some res), W p l e ({ frames := 4, cells := 0, slots := 0, locals := 94 } : Room) s m args below meth c H locs 0 0 (MQ below (e_Qv D cA B res) args s 0 0 (e_A B)) (F0 m 14 ls []) := ih
    generalize hkk : s13_takesSigns_l14 f = k14 at hk14
    rw [s13_takesSigns_l14] at hsh
    rw [hkk] at hsh
    try dsimp only at hsh
    refine lv_iload hx hb dX13_takesSigns_14 (hl.at 6 rfl) ?_
    refine lv_iload hx hb dX13_takesSigns_16 (hl.at 5 rfl) ?_
    refine e_icmp_ge (tgt := 56) hx hb dX13_takesSigns_18 (by decide) (fun c18 => ?_) (fun c18 => ?_)
    · rw [if_pos c18] at hsh
      refine e_aload_n (B := B) (x := x0) hx hb dX13_takesSigns_56 rfl (hl.at 0 rfl) ?_
      obtain ⟨v57, h57, hsh⟩ := Option.bind_eq_some_iff.mp hsh
      refine e_getR (k := 3) hx hb hts in_X13 hown hp h57 rfl (by decide) (by decide) rfl (hts _ kf13_17) rfl dX13_takesSigns_57 ?_
      refine lv_iload_n hx hb dX13_takesSigns_60 rfl (hl.at 1 rfl) ?_
      refine lv_iload_n hx hb dX13_takesSigns_61 rfl (hl.at 2 rfl) ?_
      refine lv_iload hx hb dX13_takesSigns_62 (hl.at 5 rfl) ?_
      refine e_iadd hx hb dX13_takesSigns_64 ?_
      obtain ⟨S65, h65, hsh⟩ := Option.bind_eq_some_iff.mp hsh
      refine e_iast hx hb hp hS h65 dX13_takesSigns_65 (fun H locs hp hS => ?_)
      refine lv_iload_n hx hb dX13_takesSigns_66 rfl (hl.at 3 rfl) ?_
      refine lv_iload_n hx hb dX13_takesSigns_67 rfl (hl.at 1 rfl) ?_
      refine e_icmp_le (tgt := 79) hx hb dX13_takesSigns_68 (by decide) (fun c68 => ?_) (fun c68 => ?_)
      · rw [if_pos c68] at hsh
        exact w13_takesSigns_b79 E hp hS (hl.sub [] rfl) hsh
      · rw [if_neg c68] at hsh
        refine e_aload_n (B := B) (x := x0) hx hb dX13_takesSigns_71 rfl (hl.at 0 rfl) ?_
        refine lv_iload_n hx hb dX13_takesSigns_72 rfl (hl.at 1 rfl) ?_
        refine lv_iconst (v := iI (1)) hx hb dX13_takesSigns_73 rfl ?_
        refine e_iadd hx hb dX13_takesSigns_74 ?_
        refine lv_iload_n hx hb dX13_takesSigns_75 rfl (hl.at 3 rfl) ?_
        obtain ⟨S76, h76, hsh⟩ := Option.bind_eq_some_iff.mp hsh
        have ok76 := ok13_takesLines h76
        refine e_callV (nL := 7) (mc := 0) (ms := 0) (T := TX13) (N := 126) (As := [.int (iI ((x1 + 1))), .int (iI (x3))]) (rest := []) hx hb hml hown hts hp hS hl.size ok76.1 ok76.2.1 ok76.2.2 rfl (by decide) (c13_takesLines l D cA B S65 S76 (x0) ((x1 + 1)) (x3) h76) rfl rfl kd13_takesLines (kl13_272) ks13_takesLines kv13_takesLines ki13 kh13_takesLines ⟨Nat.le_of_ble_eq_true rfl, Nat.le_of_ble_eq_true rfl⟩ rfl (by simp [e_rv_cat, e_int_cat]) ⟨Nat.le_refl _, Nat.le_refl _⟩ dX13_takesSigns_76 rfl (fun H locs hp hS => ?_)
        exact w13_takesSigns_b79 E hp hS (hl.sub [] rfl) hsh
    · rw [if_neg c18] at hsh
      refine e_aload_n (B := B) (x := x0) hx hb dX13_takesSigns_21 rfl (hl.at 0 rfl) ?_
      obtain ⟨v22, h22, hsh⟩ := Option.bind_eq_some_iff.mp hsh
      refine e_getR (k := 4) hx hb hts in_X13 hown hp h22 rfl (by decide) (by decide) rfl (hts _ kf13_20) rfl dX13_takesSigns_22 ?_
      refine lv_bipush (v := iI (60)) hx hb dX13_takesSigns_25 (by decide +kernel) ?_
      refine lv_iload_n hx hb dX13_takesSigns_27 rfl (hl.at 1 rfl) ?_
      refine e_imul hx hb dX13_takesSigns_28 ?_
      refine lv_iload_n hx hb dX13_takesSigns_29 rfl (hl.at 2 rfl) ?_
      refine e_iadd hx hb dX13_takesSigns_30 ?_
      refine lv_iload hx hb dX13_takesSigns_31 (hl.at 6 rfl) ?_
      refine e_iadd hx hb dX13_takesSigns_33 ?_
      refine e_aload_n (B := B) (x := x0) hx hb dX13_takesSigns_34 rfl (hl.at 0 rfl) ?_
      obtain ⟨v35, h35, hsh⟩ := Option.bind_eq_some_iff.mp hsh
      refine e_getR (k := 4) hx hb hts in_X13 hown hp h35 rfl (by decide) (by decide) rfl (hts _ kf13_20) rfl dX13_takesSigns_35 ?_
      refine lv_bipush (v := iI (60)) hx hb dX13_takesSigns_38 (by decide +kernel) ?_
      refine lv_iload_n hx hb dX13_takesSigns_40 rfl (hl.at 3 rfl) ?_
      refine e_imul hx hb dX13_takesSigns_41 ?_
      refine lv_iload hx hb dX13_takesSigns_42 (hl.at 4 rfl) ?_
      refine e_iadd hx hb dX13_takesSigns_44 ?_
      refine lv_iload hx hb dX13_takesSigns_45 (hl.at 6 rfl) ?_
      refine e_iadd hx hb dX13_takesSigns_47 ?_
      obtain ⟨v48, h48, hsh⟩ := Option.bind_eq_some_iff.mp hsh
      refine e_iald hx hb hp h48 dX13_takesSigns_48 ?_
      obtain ⟨S49, h49, hsh⟩ := Option.bind_eq_some_iff.mp hsh
      refine e_iast hx hb hp hS h49 dX13_takesSigns_49 (fun H locs hp hS => ?_)
      refine e_iinc (n := 1) (x := x6) (lv' := [(6, .int (iI ((x6 + 1)))), (0, e_rv B (x0)), (1, .int (iI (x1))), (2, .int (iI (x2))), (3, .int (iI (x3))), (4, .int (iI (x4))), (5, .int (iI (x5)))]) hx hb dX13_takesSigns_50 hl (k := 6) rfl (by decide) rfl (fun ls hl => ?_)
      refine lv_goto (tgt := 14) hx hb dX13_takesSigns_53 (by decide) ?_
      exact hk14 hp hS (hl.sub [1, 2, 3, 4, 5, 6, 0] rfl) hsh
set_option maxRecDepth 100000 in
set_option maxHeartbeats 4000000 in
theorem c13_takesSigns (l : Launch) (D : va_G) (cA : Nat → ClassId) (B : Nat) (S S' : HP) (x0 : Int) (x1 : Int) (x2 : Int) (x3 : Int) (x4 : Int) (hsh : s13_takesSigns S x0 x1 x2 x3 x4 = some S') : Met l yX13_takesSigns (e_wu yX13_takesSigns cX13_takesSigns 7 none) ({ frames := 4, cells := 0, slots := 0, locals := 94 } : Room) (va_Pc [e_rv B (x0), .int (iI (x1)), .int (iI (x2)), .int (iI (x3)), .int (iI (x4))] (fun U => e_PU D cA B S U)) (e_Qv D cA B S') 0 0 (e_A B) := by
  refine Met.ofW (cc := cX13_takesSigns) (maxL := 7) (ret := none) (by decide +kernel) rfl ?_
  intro p e s m args below meth c s₁ Bd hml hv
  obtain ⟨rfl, hp⟩ := hv
  have hp : e_Pic D cA B S s s.heap := hp
  have hx := Bd.exec
  have hb := Bd.bytes
  have hrt := Bd.returns
  have hlk := Bd.notSynchronized
  have hown : s.vm.findClass RX13 = some m.cls := findClass_of_methodNamed Bd.named
  have hts : ∀ w ∈ e_tb, w.before ([e_rv B (x0), .int (iI (x1)), .int (iI (x2)), .int (iI (x3)), .int (iI (x4))] : List Value).toArray s = true := fun w h => atoms_spec (ws := (e_wu yX13_takesSigns cX13_takesSigns 7 none)) Bd.pre w (List.mem_cons_of_mem _ h)
  have E : e_En p s m ([e_rv B (x0), .int (iI (x1)), .int (iI (x2)), .int (iI (x3)), .int (iI (x4))] : List Value).toArray meth c cX13_takesSigns RX13 7 none := ⟨hx, hb, hml, hown, hts, hlk, hrt⟩
  have hS : va_S (e_A B) s.heap s.heap [] := va_S.rf
  have hl := e_entry (vs := [e_rv B (x0), .int (iI (x1)), .int (iI (x2)), .int (iI (x3)), .int (iI (x4))]) (n := 7) (Nat.le_of_ble_eq_true rfl) (e_cc (e_rv_cat _ _) (e_cc rfl (e_cc rfl (e_cc rfl (e_cc rfl e_cn)))))
  rw [lg_entry_eq]
  generalize (lg_sl [e_rv B (x0), .int (iI (x1)), .int (iI (x2)), .int (iI (x3)), .int (iI (x4))] ++ List.replicate (7 - (lg_sl [e_rv B (x0), .int (iI (x1)), .int (iI (x2)), .int (iI (x3)), .int (iI (x4))]).length) Slot.unset).toArray = ls at hl ⊢
  generalize ([e_rv B (x0), .int (iI (x1)), .int (iI (x2)), .int (iI (x3)), .int (iI (x4))] : List Value).toArray = args at hts E ⊢
  have hl : e_lo ls 7 [(0, e_rv B (x0)), (1, .int (iI (x1))), (2, .int (iI (x2))), (3, .int (iI (x3))), (4, .int (iI (x4)))] := hl
  have hsh := (gd_some hsh).2
  refine e_aload_n (B := B) (x := x0) hx hb dX13_takesSigns_0 rfl (hl.at 0 rfl) ?_
  obtain ⟨v1, h1, hsh⟩ := Option.bind_eq_some_iff.mp hsh
  refine e_getR (k := 3) hx hb hts in_X13 hown hp h1 rfl (by decide) (by decide) rfl (hts _ kf13_17) rfl dX13_takesSigns_1 ?_
  refine lv_iload_n hx hb dX13_takesSigns_4 rfl (hl.at 3 rfl) ?_
  obtain ⟨v5, h5, hsh⟩ := Option.bind_eq_some_iff.mp hsh
  refine e_iald hx hb hp h5 dX13_takesSigns_5 ?_
  refine lv_iload hx hb dX13_takesSigns_6 (hl.at 4 rfl) ?_
  refine e_isub hx hb dX13_takesSigns_8 ?_
  refine e_istore (lv' := [(5, .int (iI ((v5 - x4)))), (0, e_rv B (x0)), (1, .int (iI (x1))), (2, .int (iI (x2))), (3, .int (iI (x3))), (4, .int (iI (x4)))]) hx hb dX13_takesSigns_9 hl (by decide) rfl (fun ls hl => ?_)
  refine lv_iconst (v := iI (0)) hx hb dX13_takesSigns_11 rfl ?_
  refine e_istore (lv' := [(6, .int (iI (0))), (5, .int (iI ((v5 - x4)))), (0, e_rv B (x0)), (1, .int (iI (x1))), (2, .int (iI (x2))), (3, .int (iI (x3))), (4, .int (iI (x4)))]) hx hb dX13_takesSigns_12 hl (by decide) rfl (fun ls hl => ?_)
  exact w13_takesSigns_l14 E 1000000 hp hS (hl.sub [2, 3, 4, 5, 6, 1, 0] rfl) hsh
theorem ok13_putsSigns {S : HP} {x0 : Int} {x1 : Int} {x2 : Int} {x3 : Int} {r : HP} (h : s13_putsSigns S x0 x1 x2 x3 = some r) : 0 ≤ x0 ∧ x0.toNat < e_n S ∧ e_g S x0.toNat = 13 := (gd_some h).1
set_option maxRecDepth 100000 in
set_option maxHeartbeats 4000000 in
theorem w13_putsSigns_l157 {p : Program} {l : Launch} {e : Env} {s : State} {m : MethodId} {args : Array Value} {below : List Frame} {meth : Method} {c : Code} {D : va_G} {cA : Nat → ClassId} {B : Nat} {res : HP} (E : e_En p s m args meth c cX13_putsSigns RX13 9 none) : ∀ (f : Nat) {ls : Array Slot} {H : Heap} {locs : List Loc} {S : HP} {x0 : Int} {x5 : Int} {x6 : Int} {x7 : Int} {x8 : Int} (hp : e_Pic D cA B S s H) (hS : va_S (e_A B) s.heap H locs) (hl : e_lo ls 9 [(0, e_rv B (x0)), (5, .int (iI (x5))), (6, .int (iI (x6))), (7, .int (iI (x7))), (8, .int (iI (x8)))]) (hsh : s13_putsSigns_l157 f S x0 x5 x6 x7 x8 = some res), W p l e ({ frames := 3, cells := 0, slots := 0, locals := 72 } : Room) s m args below meth c H locs 0 0 (MQ below (e_Qv D cA B res) args s 0 0 (e_A B)) (F0 m 157 ls []) := by
  obtain ⟨hx, hb, hml, hown, hts, hlk, hrt⟩ := id E
  intro f
  induction f with
  | zero => intro ls H locs S x0 x5 x6 x7 x8 hp hS hl hsh; cases hsh
  | succ f ih =>
    intro ls H locs S x0 x5 x6 x7 x8 hp hS hl hsh
    have hk157 : ∀ {ls : Array Slot} {H : Heap} {locs : List Loc} {S : HP} {x0 : Int} {x5 : Int} {x6 : Int} {x7 : Int} {x8 : Int} (hp : e_Pic D cA B S s H) (hS : va_S (e_A B) s.heap H locs) (hl : e_lo ls 9 [(0, e_rv B (x0)), (5, .int (iI (x5))), (6, .int (iI (x6))), (7, .int (iI (x7))), (8, .int (iI (x8)))]) (hsh : (s13_putsSigns_l157 f) S x0 x5 x6 x7 x8 = some res), W p l e ({ frames := 3, cells := 0, slots := 0, locals := 72 } : Room) s m args below meth c H locs 0 0 (MQ below (e_Qv D cA B res) args s 0 0 (e_A B)) (F0 m 157 ls []) := ih
    generalize hkk : s13_putsSigns_l157 f = k157 at hk157
    rw [s13_putsSigns_l157] at hsh
    rw [hkk] at hsh
    try dsimp only at hsh
    refine lv_iload hx hb dX13_putsSigns_157 (hl.at 4 rfl) ?_
    refine lv_iload hx hb dX13_putsSigns_159 (hl.at 1 rfl) ?_
    refine e_icmp_ge (tgt := 193) hx hb dX13_putsSigns_161 (by decide) (fun c161 => ?_) (fun c161 => ?_)
    · rw [if_pos c161] at hsh
      refine e_aload_n (B := B) (x := x0) hx hb dX13_putsSigns_193 rfl (hl.at 0 rfl) ?_
      obtain ⟨v194, h194, hsh⟩ := Option.bind_eq_some_iff.mp hsh
      refine e_getR (k := 3) hx hb hts in_X13 hown hp h194 rfl (by decide) (by decide) rfl (hts _ kf13_17) rfl dX13_putsSigns_194 ?_
      refine lv_iload hx hb dX13_putsSigns_197 (hl.at 2 rfl) ?_
      refine lv_iload hx hb dX13_putsSigns_199 (hl.at 3 rfl) ?_
      refine lv_iload hx hb dX13_putsSigns_201 (hl.at 1 rfl) ?_
      refine e_iadd hx hb dX13_putsSigns_203 ?_
      obtain ⟨S204, h204, hsh⟩ := Option.bind_eq_some_iff.mp hsh
      refine e_iast hx hb hp hS h204 dX13_putsSigns_204 (fun H locs hp hS => ?_)
      cases hsh
      exact e_vret hx hb hrt hlk hp hS dX13_putsSigns_205
    · rw [if_neg c161] at hsh
      refine e_aload_n (B := B) (x := x0) hx hb dX13_putsSigns_164 rfl (hl.at 0 rfl) ?_
      obtain ⟨v165, h165, hsh⟩ := Option.bind_eq_some_iff.mp hsh
      refine e_getR (k := 4) hx hb hts in_X13 hown hp h165 rfl (by decide) (by decide) rfl (hts _ kf13_20) rfl dX13_putsSigns_165 ?_
      refine lv_bipush (v := iI (60)) hx hb dX13_putsSigns_168 (by decide +kernel) ?_
      refine lv_iload hx hb dX13_putsSigns_170 (hl.at 2 rfl) ?_
      refine e_imul hx hb dX13_putsSigns_172 ?_
      refine lv_iload hx hb dX13_putsSigns_173 (hl.at 3 rfl) ?_
      refine e_iadd hx hb dX13_putsSigns_175 ?_
      refine lv_iload hx hb dX13_putsSigns_176 (hl.at 4 rfl) ?_
      refine e_iadd hx hb dX13_putsSigns_178 ?_
      refine e_aload_n (B := B) (x := x0) hx hb dX13_putsSigns_179 rfl (hl.at 0 rfl) ?_
      obtain ⟨v180, h180, hsh⟩ := Option.bind_eq_some_iff.mp hsh
      refine e_getR (k := 43) hx hb hts in_X13 hown hp h180 rfl (by decide) (by decide) rfl (hts _ kf13_86) rfl dX13_putsSigns_180 ?_
      refine lv_iload hx hb dX13_putsSigns_183 (hl.at 4 rfl) ?_
      obtain ⟨v185, h185, hsh⟩ := Option.bind_eq_some_iff.mp hsh
      refine e_iald hx hb hp h185 dX13_putsSigns_185 ?_
      obtain ⟨S186, h186, hsh⟩ := Option.bind_eq_some_iff.mp hsh
      refine e_iast hx hb hp hS h186 dX13_putsSigns_186 (fun H locs hp hS => ?_)
      refine e_iinc (n := 1) (x := x8) (lv' := [(8, .int (iI ((x8 + 1)))), (0, e_rv B (x0)), (5, .int (iI (x5))), (6, .int (iI (x6))), (7, .int (iI (x7)))]) hx hb dX13_putsSigns_187 hl (k := 4) rfl (by decide) rfl (fun ls hl => ?_)
      refine lv_goto (tgt := 157) hx hb dX13_putsSigns_190 (by decide) ?_
      exact hk157 hp hS (hl.sub [1, 2, 3, 4, 0] rfl) hsh
set_option maxRecDepth 100000 in
set_option maxHeartbeats 4000000 in
theorem w13_putsSigns_b136 {p : Program} {l : Launch} {e : Env} {s : State} {m : MethodId} {args : Array Value} {below : List Frame} {meth : Method} {c : Code} {D : va_G} {cA : Nat → ClassId} {B : Nat} {res : HP} {k77 : HP → Int → Int → Int → Int → Int → Int → Option (HP)} (hk77 : ∀ {ls : Array Slot} {H : Heap} {locs : List Loc} {S : HP} {x0 : Int} {x3 : Int} {x5 : Int} {x6 : Int} {x7 : Int} {x8 : Int} (hp : e_Pic D cA B S s H) (hS : va_S (e_A B) s.heap H locs) (hl : e_lo ls 9 [(0, e_rv B (x0)), (3, .int (iI (x3))), (5, .int (iI (x5))), (6, .int (iI (x6))), (7, .int (iI (x7))), (8, .int (iI (x8)))]) (hsh : k77 S x0 x3 x5 x6 x7 x8 = some res), W p l e ({ frames := 3, cells := 0, slots := 0, locals := 72 } : Room) s m args below meth c H locs 0 0 (MQ below (e_Qv D cA B res) args s 0 0 (e_A B)) (F0 m 77 ls [])) (E : e_En p s m args meth c cX13_putsSigns RX13 9 none) {ls : Array Slot} {H : Heap} {locs : List Loc} {S : HP} {x0 : Int} {x3 : Int} {x5 : Int} {x6 : Int} {x7 : Int} {x8 : Int} (hp : e_Pic D cA B S s H) (hS : va_S (e_A B) s.heap H locs) (hl : e_lo ls 9 [(0, e_rv B (x0)), (3, .int (iI (x3))), (5, .int (iI (x5))), (6, .int (iI (x6))), (7, .int (iI (x7))), (8, .int (iI (x8)))]) (hsh : s13_putsSigns_b136 k77 S x0 x3 x5 x6 x7 x8 = some res) : W p l e ({ frames := 3, cells := 0, slots := 0, locals := 72 } : Room) s m args below meth c H locs 0 0 (MQ below (e_Qv D cA B res) args s 0 0 (e_A B)) (F0 m 136 ls []) := by
  obtain ⟨hx, hb, hml, hown, hts, hlk, hrt⟩ := id E
  unfold s13_putsSigns_b136 at hsh
  refine e_iinc (n := 1) (x := x8) (lv' := [(8, .int (iI ((x8 + 1)))), (0, e_rv B (x0)), (3, .int (iI (x3))), (5, .int (iI (x5))), (6, .int (iI (x6))), (7, .int (iI (x7)))]) hx hb dX13_putsSigns_136 hl (k := 5) rfl (by decide) rfl (fun ls hl => ?_)
  refine lv_goto (tgt := 77) hx hb dX13_putsSigns_139 (by decide) ?_
  exact hk77 hp hS (hl.sub [1, 2, 3, 4, 5, 0] rfl) hsh
set_option maxRecDepth 100000 in
set_option maxHeartbeats 4000000 in
theorem w13_putsSigns_l77 {p : Program} {l : Launch} {e : Env} {s : State} {m : MethodId} {args : Array Value} {below : List Frame} {meth : Method} {c : Code} {D : va_G} {cA : Nat → ClassId} {B : Nat} {res : HP} (E : e_En p s m args meth c cX13_putsSigns RX13 9 none) : ∀ (f : Nat) {ls : Array Slot} {H : Heap} {locs : List Loc} {S : HP} {x0 : Int} {x3 : Int} {x5 : Int} {x6 : Int} {x7 : Int} {x8 : Int} (hp : e_Pic D cA B S s H) (hS : va_S (e_A B) s.heap H locs) (hl : e_lo ls 9 [(0, e_rv B (x0)), (3, .int (iI (x3))), (5, .int (iI (x5))), (6, .int (iI (x6))), (7, .int (iI (x7))), (8, .int (iI (x8)))]) (hsh : s13_putsSigns_l77 f S x0 x3 x5 x6 x7 x8 = some res), W p l e ({ frames := 3, cells := 0, slots := 0, locals := 72 } : Room) s m args below meth c H locs 0 0 (MQ below (e_Qv D cA B res) args s 0 0 (e_A B)) (F0 m 77 ls []) := by
  obtain ⟨hx, hb, hml, hown, hts, hlk, hrt⟩ := id E
  intro f
  induction f with
  | zero => intro ls H locs S x0 x3 x5 x6 x7 x8 hp hS hl hsh; cases hsh
  | succ f ih =>
    intro ls H locs S x0 x3 x5 x6 x7 x8 hp hS hl hsh
    have hk77 : ∀ {ls : Array Slot} {H : Heap} {locs : List Loc} {S : HP} {x0 : Int} {x3 : Int} {x5 : Int} {x6 : Int} {x7 : Int} {x8 : Int} (hp : e_Pic D cA B S s H) (hS : va_S (e_A B) s.heap H locs) (hl : e_lo ls 9 [(0, e_rv B (x0)), (3, .int (iI (x3))), (5, .int (iI (x5))), (6, .int (iI (x6))), (7, .int (iI (x7))), (8, .int (iI (x8)))]) (hsh : (s13_putsSigns_l77 f) S x0 x3 x5 x6 x7 x8 = some res), W p l e ({ frames := 3, cells := 0, slots := 0, locals := 72 } : Room) s m args below meth c H locs 0 0 (MQ below (e_Qv D cA B res) args s 0 0 (e_A B)) (F0 m 77 ls []) := ih
    generalize hkk : s13_putsSigns_l77 f = k77 at hk77
    rw [s13_putsSigns_l77] at hsh
    rw [hkk] at hsh
    try dsimp only at hsh
    refine lv_iload hx hb dX13_putsSigns_77 (hl.at 5 rfl) ?_
    refine lv_iload_n hx hb dX13_putsSigns_79 rfl (hl.at 1 rfl) ?_
    refine e_icmp_ge (tgt := 142) hx hb dX13_putsSigns_80 (by decide) (fun c80 => ?_) (fun c80 => ?_)
    · rw [if_pos c80] at hsh
      refine e_aload_n (B := B) (x := x0) hx hb dX13_putsSigns_142 rfl (hl.at 0 rfl) ?_
      refine lv_iload hx hb dX13_putsSigns_143 (hl.at 3 rfl) ?_
      obtain ⟨S145, h145, hsh⟩ := Option.bind_eq_some_iff.mp hsh
      refine e_putI (k := 44) hx hb hts in_X13 tyX13 tyX13_ok nmX13 hown hp hS h145 rfl (by decide) (by decide) rfl (hts _ kf13_281) rfl rfl (by decide +kernel) dX13_putsSigns_145 (fun H locs hp hS => ?_)
      refine e_aload_n (B := B) (x := x0) hx hb dX13_putsSigns_148 rfl (hl.at 0 rfl) ?_
      refine lv_iload hx hb dX13_putsSigns_149 (hl.at 4 rfl) ?_
      obtain ⟨S151, h151, hsh⟩ := Option.bind_eq_some_iff.mp hsh
      refine e_putI (k := 45) hx hb hts in_X13 tyX13 tyX13_ok nmX13 hown hp hS h151 rfl (by decide) (by decide) rfl (hts _ kf13_284) rfl rfl (by decide +kernel) dX13_putsSigns_151 (fun H locs hp hS => ?_)
      refine lv_iconst (v := iI (0)) hx hb dX13_putsSigns_154 rfl ?_
      refine e_istore (lv' := [(8, .int (iI (0))), (0, e_rv B (x0)), (3, .int (iI (x3))), (5, .int (iI (x5))), (6, .int (iI (x6))), (7, .int (iI (x7)))]) hx hb dX13_putsSigns_155 hl (by decide) rfl (fun ls hl => ?_)
      exact w13_putsSigns_l157 E 1000000 hp hS (hl.sub [1, 3, 4, 5, 0] rfl) hsh
    · rw [if_neg c80] at hsh
      refine e_aload_n (B := B) (x := x0) hx hb dX13_putsSigns_83 rfl (hl.at 0 rfl) ?_
      obtain ⟨v84, h84, hsh⟩ := Option.bind_eq_some_iff.mp hsh
      refine e_getR (k := 42) hx hb hts in_X13 hown hp h84 rfl (by decide) (by decide) rfl (hts _ kf13_83) rfl dX13_putsSigns_84 ?_
      refine lv_iload hx hb dX13_putsSigns_87 (hl.at 5 rfl) ?_
      obtain ⟨v89, h89, hsh⟩ := Option.bind_eq_some_iff.mp hsh
      refine e_iald hx hb hp h89 dX13_putsSigns_89 ?_
      refine lv_bipush (v := iI (10)) hx hb dX13_putsSigns_90 (by decide +kernel) ?_
      refine e_icmp_ne (tgt := 113) hx hb dX13_putsSigns_92 (by decide) (fun c92 => ?_) (fun c92 => ?_)
      · rw [if_neg c92] at hsh
        refine e_aload_n (B := B) (x := x0) hx hb dX13_putsSigns_113 rfl (hl.at 0 rfl) ?_
        obtain ⟨v114, h114, hsh⟩ := Option.bind_eq_some_iff.mp hsh
        refine e_getR (k := 4) hx hb hts in_X13 hown hp h114 rfl (by decide) (by decide) rfl (hts _ kf13_20) rfl dX13_putsSigns_114 ?_
        refine lv_bipush (v := iI (60)) hx hb dX13_putsSigns_117 (by decide +kernel) ?_
        refine lv_iload hx hb dX13_putsSigns_119 (hl.at 3 rfl) ?_
        refine e_imul hx hb dX13_putsSigns_121 ?_
        refine lv_iload hx hb dX13_putsSigns_122 (hl.at 4 rfl) ?_
        refine e_iadd hx hb dX13_putsSigns_124 ?_
        refine e_aload_n (B := B) (x := x0) hx hb dX13_putsSigns_125 rfl (hl.at 0 rfl) ?_
        obtain ⟨v126, h126, hsh⟩ := Option.bind_eq_some_iff.mp hsh
        refine e_getR (k := 42) hx hb hts in_X13 hown hp h126 rfl (by decide) (by decide) rfl (hts _ kf13_83) rfl dX13_putsSigns_126 ?_
        refine lv_iload hx hb dX13_putsSigns_129 (hl.at 5 rfl) ?_
        obtain ⟨v131, h131, hsh⟩ := Option.bind_eq_some_iff.mp hsh
        refine e_iald hx hb hp h131 dX13_putsSigns_131 ?_
        obtain ⟨S132, h132, hsh⟩ := Option.bind_eq_some_iff.mp hsh
        refine e_iast hx hb hp hS h132 dX13_putsSigns_132 (fun H locs hp hS => ?_)
        refine e_iinc (n := 1) (x := x7) (lv' := [(7, .int (iI ((x7 + 1)))), (0, e_rv B (x0)), (3, .int (iI (x3))), (5, .int (iI (x5))), (6, .int (iI (x6))), (8, .int (iI (x8)))]) hx hb dX13_putsSigns_133 hl (k := 4) rfl (by decide) rfl (fun ls hl => ?_)
        exact w13_putsSigns_b136 (hk77 := hk77) E hp hS (hl.sub [1, 2, 3, 4, 0, 5] rfl) hsh
      · rw [if_pos c92] at hsh
        refine e_aload_n (B := B) (x := x0) hx hb dX13_putsSigns_95 rfl (hl.at 0 rfl) ?_
        obtain ⟨v96, h96, hsh⟩ := Option.bind_eq_some_iff.mp hsh
        refine e_getR (k := 3) hx hb hts in_X13 hown hp h96 rfl (by decide) (by decide) rfl (hts _ kf13_17) rfl dX13_putsSigns_96 ?_
        refine lv_iload hx hb dX13_putsSigns_99 (hl.at 3 rfl) ?_
        refine lv_iload hx hb dX13_putsSigns_101 (hl.at 4 rfl) ?_
        obtain ⟨S103, h103, hsh⟩ := Option.bind_eq_some_iff.mp hsh
        refine e_iast hx hb hp hS h103 dX13_putsSigns_103 (fun H locs hp hS => ?_)
        refine e_iinc (n := 1) (x := x6) (lv' := [(6, .int (iI ((x6 + 1)))), (0, e_rv B (x0)), (3, .int (iI (x3))), (5, .int (iI (x5))), (7, .int (iI (x7))), (8, .int (iI (x8)))]) hx hb dX13_putsSigns_104 hl (k := 3) rfl (by decide) rfl (fun ls hl => ?_)
        refine lv_iconst (v := iI (0)) hx hb dX13_putsSigns_107 rfl ?_
        refine e_istore (lv' := [(7, .int (iI (0))), (6, .int (iI ((x6 + 1)))), (0, e_rv B (x0)), (3, .int (iI (x3))), (5, .int (iI (x5))), (8, .int (iI (x8)))]) hx hb dX13_putsSigns_108 hl (by decide) rfl (fun ls hl => ?_)
        refine lv_goto (tgt := 136) hx hb dX13_putsSigns_110 (by decide) ?_
        exact w13_putsSigns_b136 (hk77 := hk77) E hp hS (hl.sub [2, 3, 4, 1, 0, 5] rfl) hsh
set_option maxRecDepth 100000 in
set_option maxHeartbeats 4000000 in
theorem w13_putsSigns_b68 {p : Program} {l : Launch} {e : Env} {s : State} {m : MethodId} {args : Array Value} {below : List Frame} {meth : Method} {c : Code} {D : va_G} {cA : Nat → ClassId} {B : Nat} {res : HP} (E : e_En p s m args meth c cX13_putsSigns RX13 9 none) {ls : Array Slot} {H : Heap} {locs : List Loc} {S : HP} {x0 : Int} {x1 : Int} {x2 : Int} {x3 : Int} {x5 : Int} (hp : e_Pic D cA B S s H) (hS : va_S (e_A B) s.heap H locs) (hl : e_lo ls 9 [(0, e_rv B (x0)), (1, .int (iI (x1))), (2, .int (iI (x2))), (3, .int (iI (x3))), (5, .int (iI (x5)))]) (hsh : s13_putsSigns_b68 S x0 x1 x2 x3 x5 = some res) : W p l e ({ frames := 3, cells := 0, slots := 0, locals := 72 } : Room) s m args below meth c H locs 0 0 (MQ below (e_Qv D cA B res) args s 0 0 (e_A B)) (F0 m 68 ls []) := by
  obtain ⟨hx, hb, hml, hown, hts, hlk, hrt⟩ := id E
  unfold s13_putsSigns_b68 at hsh
  refine lv_iload_n hx hb dX13_putsSigns_68 rfl (hl.at 1 rfl) ?_
  refine e_istore (lv' := [(6, .int (iI (x1))), (0, e_rv B (x0)), (1, .int (iI (x1))), (2, .int (iI (x2))), (3, .int (iI (x3))), (5, .int (iI (x5)))]) hx hb dX13_putsSigns_69 hl (by decide) rfl (fun ls hl => ?_)
  refine lv_iload_n hx hb dX13_putsSigns_71 rfl (hl.at 3 rfl) ?_
  refine e_istore (lv' := [(7, .int (iI (x2))), (6, .int (iI (x1))), (0, e_rv B (x0)), (1, .int (iI (x1))), (2, .int (iI (x2))), (3, .int (iI (x3))), (5, .int (iI (x5)))]) hx hb dX13_putsSigns_72 hl (by decide) rfl (fun ls hl => ?_)
  refine lv_iconst (v := iI (0)) hx hb dX13_putsSigns_74 rfl ?_
  refine e_istore (lv' := [(8, .int (iI (0))), (7, .int (iI (x2))), (6, .int (iI (x1))), (0, e_rv B (x0)), (1, .int (iI (x1))), (2, .int (iI (x2))), (3, .int (iI (x3))), (5, .int (iI (x5)))]) hx hb dX13_putsSigns_75 hl (by decide) rfl (fun ls hl => ?_)
  exact w13_putsSigns_l77 E 1000000 hp hS (hl.sub [3, 6, 7, 2, 1, 0] rfl) hsh
set_option maxRecDepth 100000 in
set_option maxHeartbeats 4000000 in
theorem w13_putsSigns_l20 {p : Program} {l : Launch} {e : Env} {s : State} {m : MethodId} {args : Array Value} {below : List Frame} {meth : Method} {c : Code} {D : va_G} {cA : Nat → ClassId} {B : Nat} {res : HP} (E : e_En p s m args meth c cX13_putsSigns RX13 9 none) : ∀ (f : Nat) {ls : Array Slot} {H : Heap} {locs : List Loc} {S : HP} {x0 : Int} {x1 : Int} {x2 : Int} {x3 : Int} {x4 : Int} {x5 : Int} {x6 : Int} (hp : e_Pic D cA B S s H) (hS : va_S (e_A B) s.heap H locs) (hl : e_lo ls 9 [(0, e_rv B (x0)), (1, .int (iI (x1))), (2, .int (iI (x2))), (3, .int (iI (x3))), (4, .int (iI (x4))), (5, .int (iI (x5))), (6, .int (iI (x6)))]) (hsh : s13_putsSigns_l20 f S x0 x1 x2 x3 x4 x5 x6 = some res), W p l e ({ frames := 3, cells := 0, slots := 0, locals := 72 } : Room) s m args below meth c H locs 0 0 (MQ below (e_Qv D cA B res) args s 0 0 (e_A B)) (F0 m 20 ls []) := by
  obtain ⟨hx, hb, hml, hown, hts, hlk, hrt⟩ := id E
  intro f
  induction f with
  | zero => intro ls H locs S x0 x1 x2 x3 x4 x5 x6 hp hS hl hsh; cases hsh
  | succ f ih =>
    intro ls H locs S x0 x1 x2 x3 x4 x5 x6 hp hS hl hsh
    have hk20 : ∀ {ls : Array Slot} {H : Heap} {locs : List Loc} {S : HP} {x0 : Int} {x1 : Int} {x2 : Int} {x3 : Int} {x4 : Int} {x5 : Int} {x6 : Int} (hp : e_Pic D cA B S s H) (hS : va_S (e_A B) s.heap H locs) (hl : e_lo ls 9 [(0, e_rv B (x0)), (1, .int (iI (x1))), (2, .int (iI (x2))), (3, .int (iI (x3))), (4, .int (iI (x4))), (5, .int (iI (x5))), (6, .int (iI (x6)))]) (hsh : (s13_putsSigns_l20 f) S x0 x1 x2 x3 x4 x5 x6 = some res), W p l e ({ frames := 3, cells := 0, slots := 0, locals := 72 } : Room) s m args below meth c H locs 0 0 (MQ below (e_Qv D cA B res) args s 0 0 (e_A B)) (F0 m 20 ls []) := ih
    generalize hkk : s13_putsSigns_l20 f = k20 at hk20
    rw [s13_putsSigns_l20] at hsh
    rw [hkk] at hsh
    try dsimp only at hsh
    refine lv_iload hx hb dX13_putsSigns_20 (hl.at 6 rfl) ?_
    refine lv_iload hx hb dX13_putsSigns_22 (hl.at 5 rfl) ?_
    refine e_icmp_ge (tgt := 54) hx hb dX13_putsSigns_24 (by decide) (fun c24 => ?_) (fun c24 => ?_)
    · rw [if_pos c24] at hsh
      refine lv_iload hx hb dX13_putsSigns_54 (hl.at 4 rfl) ?_
      refine e_if_le (tgt := 68) hx hb dX13_putsSigns_56 (by decide) (fun c56 => ?_) (fun c56 => ?_)
      · rw [if_pos c56] at hsh
        exact w13_putsSigns_b68 E hp hS (hl.sub [0, 1, 2, 3, 5] rfl) hsh
      · rw [if_neg c56] at hsh
        refine e_aload_n (B := B) (x := x0) hx hb dX13_putsSigns_59 rfl (hl.at 0 rfl) ?_
        refine lv_iload_n hx hb dX13_putsSigns_60 rfl (hl.at 1 rfl) ?_
        refine lv_iconst (v := iI (1)) hx hb dX13_putsSigns_61 rfl ?_
        refine e_iadd hx hb dX13_putsSigns_62 ?_
        refine lv_iload hx hb dX13_putsSigns_63 (hl.at 4 rfl) ?_
        obtain ⟨S65, h65, hsh⟩ := Option.bind_eq_some_iff.mp hsh
        have ok65 := ok13_putsLines h65
        refine e_callV (nL := 9) (mc := 0) (ms := 0) (T := TX13) (N := 126) (As := [.int (iI ((x1 + 1))), .int (iI (x4))]) (rest := []) hx hb hml hown hts hp hS hl.size ok65.1 ok65.2.1 ok65.2.2 rfl (by decide) (c13_putsLines l D cA B S S65 (x0) ((x1 + 1)) (x4) h65) rfl rfl kd13_putsLines (kl13_278) ks13_putsLines kv13_putsLines ki13 kh13_putsLines ⟨Nat.le_of_ble_eq_true rfl, Nat.le_of_ble_eq_true rfl⟩ rfl (by simp [e_rv_cat, e_int_cat]) ⟨Nat.le_refl _, Nat.le_refl _⟩ dX13_putsSigns_65 rfl (fun H locs hp hS => ?_)
        exact w13_putsSigns_b68 E hp hS (hl.sub [0, 1, 2, 3, 5] rfl) hsh
    · rw [if_neg c24] at hsh
      refine e_aload_n (B := B) (x := x0) hx hb dX13_putsSigns_27 rfl (hl.at 0 rfl) ?_
      obtain ⟨v28, h28, hsh⟩ := Option.bind_eq_some_iff.mp hsh
      refine e_getR (k := 43) hx hb hts in_X13 hown hp h28 rfl (by decide) (by decide) rfl (hts _ kf13_86) rfl dX13_putsSigns_28 ?_
      refine lv_iload hx hb dX13_putsSigns_31 (hl.at 6 rfl) ?_
      refine e_aload_n (B := B) (x := x0) hx hb dX13_putsSigns_33 rfl (hl.at 0 rfl) ?_
      obtain ⟨v34, h34, hsh⟩ := Option.bind_eq_some_iff.mp hsh
      refine e_getR (k := 4) hx hb hts in_X13 hown hp h34 rfl (by decide) (by decide) rfl (hts _ kf13_20) rfl dX13_putsSigns_34 ?_
      refine lv_bipush (v := iI (60)) hx hb dX13_putsSigns_37 (by decide +kernel) ?_
      refine lv_iload_n hx hb dX13_putsSigns_39 rfl (hl.at 1 rfl) ?_
      refine e_imul hx hb dX13_putsSigns_40 ?_
      refine lv_iload_n hx hb dX13_putsSigns_41 rfl (hl.at 2 rfl) ?_
      refine e_iadd hx hb dX13_putsSigns_42 ?_
      refine lv_iload hx hb dX13_putsSigns_43 (hl.at 6 rfl) ?_
      refine e_iadd hx hb dX13_putsSigns_45 ?_
      obtain ⟨v46, h46, hsh⟩ := Option.bind_eq_some_iff.mp hsh
      refine e_iald hx hb hp h46 dX13_putsSigns_46 ?_
      obtain ⟨S47, h47, hsh⟩ := Option.bind_eq_some_iff.mp hsh
      refine e_iast hx hb hp hS h47 dX13_putsSigns_47 (fun H locs hp hS => ?_)
      refine e_iinc (n := 1) (x := x6) (lv' := [(6, .int (iI ((x6 + 1)))), (0, e_rv B (x0)), (1, .int (iI (x1))), (2, .int (iI (x2))), (3, .int (iI (x3))), (4, .int (iI (x4))), (5, .int (iI (x5)))]) hx hb dX13_putsSigns_48 hl (k := 6) rfl (by decide) rfl (fun ls hl => ?_)
      refine lv_goto (tgt := 20) hx hb dX13_putsSigns_51 (by decide) ?_
      exact hk20 hp hS (hl.sub [1, 2, 3, 4, 5, 6, 0] rfl) hsh
set_option maxRecDepth 100000 in
set_option maxHeartbeats 4000000 in
theorem c13_putsSigns (l : Launch) (D : va_G) (cA : Nat → ClassId) (B : Nat) (S S' : HP) (x0 : Int) (x1 : Int) (x2 : Int) (x3 : Int) (hsh : s13_putsSigns S x0 x1 x2 x3 = some S') : Met l yX13_putsSigns (e_wu yX13_putsSigns cX13_putsSigns 9 none) ({ frames := 3, cells := 0, slots := 0, locals := 72 } : Room) (va_Pc [e_rv B (x0), .int (iI (x1)), .int (iI (x2)), .int (iI (x3))] (fun U => e_PU D cA B S U)) (e_Qv D cA B S') 0 0 (e_A B) := by
  refine Met.ofW (cc := cX13_putsSigns) (maxL := 9) (ret := none) (by decide +kernel) rfl ?_
  intro p e s m args below meth c s₁ Bd hml hv
  obtain ⟨rfl, hp⟩ := hv
  have hp : e_Pic D cA B S s s.heap := hp
  have hx := Bd.exec
  have hb := Bd.bytes
  have hrt := Bd.returns
  have hlk := Bd.notSynchronized
  have hown : s.vm.findClass RX13 = some m.cls := findClass_of_methodNamed Bd.named
  have hts : ∀ w ∈ e_tb, w.before ([e_rv B (x0), .int (iI (x1)), .int (iI (x2)), .int (iI (x3))] : List Value).toArray s = true := fun w h => atoms_spec (ws := (e_wu yX13_putsSigns cX13_putsSigns 9 none)) Bd.pre w (List.mem_cons_of_mem _ h)
  have E : e_En p s m ([e_rv B (x0), .int (iI (x1)), .int (iI (x2)), .int (iI (x3))] : List Value).toArray meth c cX13_putsSigns RX13 9 none := ⟨hx, hb, hml, hown, hts, hlk, hrt⟩
  have hS : va_S (e_A B) s.heap s.heap [] := va_S.rf
  have hl := e_entry (vs := [e_rv B (x0), .int (iI (x1)), .int (iI (x2)), .int (iI (x3))]) (n := 9) (Nat.le_of_ble_eq_true rfl) (e_cc (e_rv_cat _ _) (e_cc rfl (e_cc rfl (e_cc rfl e_cn))))
  rw [lg_entry_eq]
  generalize (lg_sl [e_rv B (x0), .int (iI (x1)), .int (iI (x2)), .int (iI (x3))] ++ List.replicate (9 - (lg_sl [e_rv B (x0), .int (iI (x1)), .int (iI (x2)), .int (iI (x3))]).length) Slot.unset).toArray = ls at hl ⊢
  generalize ([e_rv B (x0), .int (iI (x1)), .int (iI (x2)), .int (iI (x3))] : List Value).toArray = args at hts E ⊢
  have hl : e_lo ls 9 [(0, e_rv B (x0)), (1, .int (iI (x1))), (2, .int (iI (x2))), (3, .int (iI (x3)))] := hl
  have hsh := (gd_some hsh).2
  refine e_aload_n (B := B) (x := x0) hx hb dX13_putsSigns_0 rfl (hl.at 0 rfl) ?_
  refine lv_iload_n hx hb dX13_putsSigns_1 rfl (hl.at 3 rfl) ?_
  obtain ⟨⟨v2, S2⟩, h2, hsh⟩ := Option.bind_eq_some_iff.mp hsh
  have hsh : _ = _ := hsh
  try dsimp only at hsh
  have ok2 := ok13_endsIn h2
  refine e_callI (nL := 9) (mc := 0) (ms := 0) (T := TX13) (N := 126) (As := [.int (iI (x3))]) (rest := []) hx hb hml hown hts hp hS hl.size ok2.1 ok2.2.1 ok2.2.2 rfl (by decide) (c13_endsIn l D cA B S S2 (x0) (x3) v2 h2) rfl rfl kd13_endsIn (kl13_275) ks13_endsIn kv13_endsIn ki13 kh13_endsIn ⟨Nat.le_of_ble_eq_true rfl, Nat.le_of_ble_eq_true rfl⟩ rfl (by simp [e_rv_cat, e_int_cat]) ⟨Nat.le_refl _, Nat.le_refl _⟩ dX13_putsSigns_2 rfl (fun H locs hp hS => ?_)
  refine e_istore (lv' := [(4, .int (iI (v2))), (0, e_rv B (x0)), (1, .int (iI (x1))), (2, .int (iI (x2))), (3, .int (iI (x3)))]) hx hb dX13_putsSigns_5 hl (by decide) rfl (fun ls hl => ?_)
  refine e_aload_n (B := B) (x := x0) hx hb dX13_putsSigns_7 rfl (hl.at 1 rfl) ?_
  obtain ⟨v8, h8, hsh⟩ := Option.bind_eq_some_iff.mp hsh
  refine e_getR (k := 3) hx hb hts in_X13 hown hp h8 rfl (by decide) (by decide) rfl (hts _ kf13_17) rfl dX13_putsSigns_8 ?_
  refine lv_iload_n hx hb dX13_putsSigns_11 rfl (hl.at 2 rfl) ?_
  obtain ⟨v12, h12, hsh⟩ := Option.bind_eq_some_iff.mp hsh
  refine e_iald hx hb hp h12 dX13_putsSigns_12 ?_
  refine lv_iload_n hx hb dX13_putsSigns_13 rfl (hl.at 3 rfl) ?_
  refine e_isub hx hb dX13_putsSigns_14 ?_
  refine e_istore (lv' := [(5, .int (iI ((v12 - x2)))), (4, .int (iI (v2))), (0, e_rv B (x0)), (1, .int (iI (x1))), (2, .int (iI (x2))), (3, .int (iI (x3)))]) hx hb dX13_putsSigns_15 hl (by decide) rfl (fun ls hl => ?_)
  refine lv_iconst (v := iI (0)) hx hb dX13_putsSigns_17 rfl ?_
  refine e_istore (lv' := [(6, .int (iI (0))), (5, .int (iI ((v12 - x2)))), (4, .int (iI (v2))), (0, e_rv B (x0)), (1, .int (iI (x1))), (2, .int (iI (x2))), (3, .int (iI (x3)))]) hx hb dX13_putsSigns_18 hl (by decide) rfl (fun ls hl => ?_)
  exact w13_putsSigns_l20 E 1000000 hp hS (hl.sub [3, 4, 5, 6, 2, 1, 0] rfl) hsh
theorem ok13_takesSpan {S : HP} {x0 : Int} {x1 : Int} {r : HP} (h : s13_takesSpan S x0 x1 = some r) : 0 ≤ x0 ∧ x0.toNat < e_n S ∧ e_g S x0.toNat = 13 := (gd_some h).1
set_option maxRecDepth 100000 in
set_option maxHeartbeats 4000000 in
theorem w13_takesSpan_b142 {p : Program} {l : Launch} {e : Env} {s : State} {m : MethodId} {args : Array Value} {below : List Frame} {meth : Method} {c : Code} {D : va_G} {cA : Nat → ClassId} {B : Nat} {res : HP} (E : e_En p s m args meth c cX13_takesSpan RX13 3 none) {ls : Array Slot} {H : Heap} {locs : List Loc} {S : HP} (hp : e_Pic D cA B S s H) (hS : va_S (e_A B) s.heap H locs) (hl : e_lo ls 3 []) (hsh : s13_takesSpan_b142 S  = some res) : W p l e ({ frames := 5, cells := 0, slots := 0, locals := 120 } : Room) s m args below meth c H locs 0 0 (MQ below (e_Qv D cA B res) args s 0 0 (e_A B)) (F0 m 142 ls []) := by
  obtain ⟨hx, hb, hml, hown, hts, hlk, hrt⟩ := id E
  unfold s13_takesSpan_b142 at hsh
  cases hsh
  exact e_vret hx hb hrt hlk hp hS dX13_takesSpan_142
set_option maxRecDepth 100000 in
set_option maxHeartbeats 4000000 in
theorem w13_takesSpan_b132 {p : Program} {l : Launch} {e : Env} {s : State} {m : MethodId} {args : Array Value} {below : List Frame} {meth : Method} {c : Code} {D : va_G} {cA : Nat → ClassId} {B : Nat} {res : HP} (E : e_En p s m args meth c cX13_takesSpan RX13 3 none) {ls : Array Slot} {H : Heap} {locs : List Loc} {S : HP} {x0 : Int} (hp : e_Pic D cA B S s H) (hS : va_S (e_A B) s.heap H locs) (hl : e_lo ls 3 [(0, e_rv B (x0))]) (hsh : s13_takesSpan_b132 S x0 = some res) : W p l e ({ frames := 5, cells := 0, slots := 0, locals := 120 } : Room) s m args below meth c H locs 0 0 (MQ below (e_Qv D cA B res) args s 0 0 (e_A B)) (F0 m 132 ls []) := by
  obtain ⟨hx, hb, hml, hown, hts, hlk, hrt⟩ := id E
  unfold s13_takesSpan_b132 at hsh
  refine e_aload_n (B := B) (x := x0) hx hb dX13_takesSpan_132 rfl (hl.at 0 rfl) ?_
  obtain ⟨v133, h133, hsh⟩ := Option.bind_eq_some_iff.mp hsh
  refine e_getR (k := 3) hx hb hts in_X13 hown hp h133 rfl (by decide) (by decide) rfl (hts _ kf13_17) rfl dX13_takesSpan_133 ?_
  refine e_aload_n (B := B) (x := x0) hx hb dX13_takesSpan_136 rfl (hl.at 0 rfl) ?_
  obtain ⟨v137, h137, hsh⟩ := Option.bind_eq_some_iff.mp hsh
  refine e_getI (k := 36) hx hb hts in_X13 hown hp h137 rfl (by decide) (by decide) rfl (hts _ kf13_398) rfl dX13_takesSpan_137 ?_
  refine lv_iconst (v := iI (0)) hx hb dX13_takesSpan_140 rfl ?_
  obtain ⟨S141, h141, hsh⟩ := Option.bind_eq_some_iff.mp hsh
  refine e_iast hx hb hp hS h141 dX13_takesSpan_141 (fun H locs hp hS => ?_)
  exact w13_takesSpan_b142 E hp hS (hl.sub [] rfl) hsh
set_option maxRecDepth 100000 in
set_option maxHeartbeats 4000000 in
theorem w13_takesSpan_b79 {p : Program} {l : Launch} {e : Env} {s : State} {m : MethodId} {args : Array Value} {below : List Frame} {meth : Method} {c : Code} {D : va_G} {cA : Nat → ClassId} {B : Nat} {res : HP} {k44 : HP → Int → Int → Option (HP)} (hk44 : ∀ {ls : Array Slot} {H : Heap} {locs : List Loc} {S : HP} {x0 : Int} {x2 : Int} (hp : e_Pic D cA B S s H) (hS : va_S (e_A B) s.heap H locs) (hl : e_lo ls 3 [(0, e_rv B (x0)), (2, .int (iI (x2)))]) (hsh : k44 S x0 x2 = some res), W p l e ({ frames := 5, cells := 0, slots := 0, locals := 120 } : Room) s m args below meth c H locs 0 0 (MQ below (e_Qv D cA B res) args s 0 0 (e_A B)) (F0 m 44 ls [])) (E : e_En p s m args meth c cX13_takesSpan RX13 3 none) {ls : Array Slot} {H : Heap} {locs : List Loc} {S : HP} {x0 : Int} {x2 : Int} (hp : e_Pic D cA B S s H) (hS : va_S (e_A B) s.heap H locs) (hl : e_lo ls 3 [(0, e_rv B (x0)), (2, .int (iI (x2)))]) (hsh : s13_takesSpan_b79 k44 S x0 x2 = some res) : W p l e ({ frames := 5, cells := 0, slots := 0, locals := 120 } : Room) s m args below meth c H locs 0 0 (MQ below (e_Qv D cA B res) args s 0 0 (e_A B)) (F0 m 79 ls []) := by
  obtain ⟨hx, hb, hml, hown, hts, hlk, hrt⟩ := id E
  unfold s13_takesSpan_b79 at hsh
  refine e_iinc (n := 1) (x := x2) (lv' := [(2, .int (iI ((x2 + 1)))), (0, e_rv B (x0))]) hx hb dX13_takesSpan_79 hl (k := 1) rfl (by decide) rfl (fun ls hl => ?_)
  refine lv_goto (tgt := 44) hx hb dX13_takesSpan_82 (by decide) ?_
  exact hk44 hp hS (hl.sub [1, 0] rfl) hsh
set_option maxRecDepth 100000 in
set_option maxHeartbeats 4000000 in
theorem w13_takesSpan_l44 {p : Program} {l : Launch} {e : Env} {s : State} {m : MethodId} {args : Array Value} {below : List Frame} {meth : Method} {c : Code} {D : va_G} {cA : Nat → ClassId} {B : Nat} {res : HP} (E : e_En p s m args meth c cX13_takesSpan RX13 3 none) : ∀ (f : Nat) {ls : Array Slot} {H : Heap} {locs : List Loc} {S : HP} {x0 : Int} {x2 : Int} (hp : e_Pic D cA B S s H) (hS : va_S (e_A B) s.heap H locs) (hl : e_lo ls 3 [(0, e_rv B (x0)), (2, .int (iI (x2)))]) (hsh : s13_takesSpan_l44 f S x0 x2 = some res), W p l e ({ frames := 5, cells := 0, slots := 0, locals := 120 } : Room) s m args below meth c H locs 0 0 (MQ below (e_Qv D cA B res) args s 0 0 (e_A B)) (F0 m 44 ls []) := by
  obtain ⟨hx, hb, hml, hown, hts, hlk, hrt⟩ := id E
  intro f
  induction f with
  | zero => intro ls H locs S x0 x2 hp hS hl hsh; cases hsh
  | succ f ih =>
    intro ls H locs S x0 x2 hp hS hl hsh
    have hk44 : ∀ {ls : Array Slot} {H : Heap} {locs : List Loc} {S : HP} {x0 : Int} {x2 : Int} (hp : e_Pic D cA B S s H) (hS : va_S (e_A B) s.heap H locs) (hl : e_lo ls 3 [(0, e_rv B (x0)), (2, .int (iI (x2)))]) (hsh : (s13_takesSpan_l44 f) S x0 x2 = some res), W p l e ({ frames := 5, cells := 0, slots := 0, locals := 120 } : Room) s m args below meth c H locs 0 0 (MQ below (e_Qv D cA B res) args s 0 0 (e_A B)) (F0 m 44 ls []) := ih
    generalize hkk : s13_takesSpan_l44 f = k44 at hk44
    rw [s13_takesSpan_l44] at hsh
    rw [hkk] at hsh
    try dsimp only at hsh
    refine lv_iload_n hx hb dX13_takesSpan_44 rfl (hl.at 1 rfl) ?_
    refine e_aload_n (B := B) (x := x0) hx hb dX13_takesSpan_45 rfl (hl.at 0 rfl) ?_
    obtain ⟨v46, h46, hsh⟩ := Option.bind_eq_some_iff.mp hsh
    refine e_getI (k := 38) hx hb hts in_X13 hown hp h46 rfl (by decide) (by decide) rfl (hts _ kf13_404) rfl dX13_takesSpan_46 ?_
    refine e_icmp_gt (tgt := 85) hx hb dX13_takesSpan_49 (by decide) (fun c49 => ?_) (fun c49 => ?_)
    · rw [if_pos c49] at hsh
      refine lv_goto (tgt := 142) hx hb dX13_takesSpan_85 (by decide) ?_
      exact w13_takesSpan_b142 E hp hS (hl.sub [] rfl) hsh
    · rw [if_neg c49] at hsh
      refine e_aload_n (B := B) (x := x0) hx hb dX13_takesSpan_52 rfl (hl.at 0 rfl) ?_
      refine lv_iload_n hx hb dX13_takesSpan_53 rfl (hl.at 1 rfl) ?_
      obtain ⟨⟨v54, S54⟩, h54, hsh⟩ := Option.bind_eq_some_iff.mp hsh
      have hsh : _ = _ := hsh
      try dsimp only at hsh
      have ok54 := ok13_segmentEnd h54
      refine e_callI (nL := 3) (mc := 0) (ms := 0) (T := TX13) (N := 126) (As := [.int (iI (x2))]) (rest := []) hx hb hml hown hts hp hS hl.size ok54.1 ok54.2.1 ok54.2.2 rfl (by decide) (c13_segmentEnd l D cA B S S54 (x0) (x2) v54 h54) rfl rfl kd13_segmentEnd (kl13_448) ks13_segmentEnd kv13_segmentEnd ki13 kh13_segmentEnd ⟨Nat.le_of_ble_eq_true rfl, Nat.le_of_ble_eq_true rfl⟩ rfl (by simp [e_rv_cat, e_int_cat]) ⟨Nat.le_refl _, Nat.le_refl _⟩ dX13_takesSpan_54 rfl (fun H locs hp hS => ?_)
      refine e_aload_n (B := B) (x := x0) hx hb dX13_takesSpan_57 rfl (hl.at 0 rfl) ?_
      obtain ⟨v58, h58, hsh⟩ := Option.bind_eq_some_iff.mp hsh
      refine e_getI (k := 37) hx hb hts in_X13 hown hp h58 rfl (by decide) (by decide) rfl (hts _ kf13_401) rfl dX13_takesSpan_58 ?_
      refine e_icmp_le (tgt := 79) hx hb dX13_takesSpan_61 (by decide) (fun c61 => ?_) (fun c61 => ?_)
      · rw [if_pos c61] at hsh
        exact w13_takesSpan_b79 (hk44 := hk44) E hp hS (hl.sub [0, 1] rfl) hsh
      · rw [if_neg c61] at hsh
        refine e_aload_n (B := B) (x := x0) hx hb dX13_takesSpan_64 rfl (hl.at 0 rfl) ?_
        refine lv_iload_n hx hb dX13_takesSpan_65 rfl (hl.at 1 rfl) ?_
        refine e_aload_n (B := B) (x := x0) hx hb dX13_takesSpan_66 rfl (hl.at 0 rfl) ?_
        obtain ⟨v67, h67, hsh⟩ := Option.bind_eq_some_iff.mp hsh
        refine e_getI (k := 37) hx hb hts in_X13 hown hp h67 rfl (by decide) (by decide) rfl (hts _ kf13_401) rfl dX13_takesSpan_67 ?_
        refine lv_iload_n hx hb dX13_takesSpan_70 rfl (hl.at 1 rfl) ?_
        refine e_aload_n (B := B) (x := x0) hx hb dX13_takesSpan_71 rfl (hl.at 0 rfl) ?_
        refine lv_iload_n hx hb dX13_takesSpan_72 rfl (hl.at 1 rfl) ?_
        obtain ⟨⟨v73, S73⟩, h73, hsh⟩ := Option.bind_eq_some_iff.mp hsh
        have hsh : _ = _ := hsh
        try dsimp only at hsh
        have ok73 := ok13_segmentEnd h73
        refine e_callI (nL := 3) (mc := 0) (ms := 0) (T := TX13) (N := 126) (As := [.int (iI (x2))]) (rest := [.int (iI (x2)), .int (iI (v67)), .int (iI (x2)), e_rv B (x0)]) hx hb hml hown hts hp hS hl.size ok73.1 ok73.2.1 ok73.2.2 rfl (by decide) (c13_segmentEnd l D cA B S54 S73 (x0) (x2) v73 h73) rfl rfl kd13_segmentEnd (kl13_448) ks13_segmentEnd kv13_segmentEnd ki13 kh13_segmentEnd ⟨Nat.le_of_ble_eq_true rfl, Nat.le_of_ble_eq_true rfl⟩ rfl (by simp [e_rv_cat, e_int_cat]) ⟨Nat.le_refl _, Nat.le_refl _⟩ dX13_takesSpan_73 rfl (fun H locs hp hS => ?_)
        obtain ⟨S76, h76, hsh⟩ := Option.bind_eq_some_iff.mp hsh
        have ok76 := ok13_takesSigns h76
        refine e_callV (nL := 3) (mc := 0) (ms := 0) (T := TX13) (N := 126) (As := [.int (iI (x2)), .int (iI (v67)), .int (iI (x2)), .int (iI (v73))]) (rest := []) hx hb hml hown hts hp hS hl.size ok76.1 ok76.2.1 ok76.2.2 rfl (by decide) (c13_takesSigns l D cA B S73 S76 (x0) (x2) (v67) (x2) (v73) h76) rfl rfl kd13_takesSigns (kl13_484) ks13_takesSigns kv13_takesSigns ki13 kh13_takesSigns ⟨Nat.le_of_ble_eq_true rfl, Nat.le_of_ble_eq_true rfl⟩ rfl (by simp [e_rv_cat, e_int_cat]) ⟨Nat.le_refl _, Nat.le_refl _⟩ dX13_takesSpan_76 rfl (fun H locs hp hS => ?_)
        exact w13_takesSpan_b79 (hk44 := hk44) E hp hS (hl.sub [0, 1] rfl) hsh
set_option maxRecDepth 100000 in
set_option maxHeartbeats 4000000 in
theorem c13_takesSpan (l : Launch) (D : va_G) (cA : Nat → ClassId) (B : Nat) (S S' : HP) (x0 : Int) (x1 : Int) (hsh : s13_takesSpan S x0 x1 = some S') : Met l yX13_takesSpan (e_wu yX13_takesSpan cX13_takesSpan 3 none) ({ frames := 5, cells := 0, slots := 0, locals := 120 } : Room) (va_Pc [e_rv B (x0), .int (iI (x1))] (fun U => e_PU D cA B S U)) (e_Qv D cA B S') 0 0 (e_A B) := by
  refine Met.ofW (cc := cX13_takesSpan) (maxL := 3) (ret := none) (by decide +kernel) rfl ?_
  intro p e s m args below meth c s₁ Bd hml hv
  obtain ⟨rfl, hp⟩ := hv
  have hp : e_Pic D cA B S s s.heap := hp
  have hx := Bd.exec
  have hb := Bd.bytes
  have hrt := Bd.returns
  have hlk := Bd.notSynchronized
  have hown : s.vm.findClass RX13 = some m.cls := findClass_of_methodNamed Bd.named
  have hts : ∀ w ∈ e_tb, w.before ([e_rv B (x0), .int (iI (x1))] : List Value).toArray s = true := fun w h => atoms_spec (ws := (e_wu yX13_takesSpan cX13_takesSpan 3 none)) Bd.pre w (List.mem_cons_of_mem _ h)
  have E : e_En p s m ([e_rv B (x0), .int (iI (x1))] : List Value).toArray meth c cX13_takesSpan RX13 3 none := ⟨hx, hb, hml, hown, hts, hlk, hrt⟩
  have hS : va_S (e_A B) s.heap s.heap [] := va_S.rf
  have hl := e_entry (vs := [e_rv B (x0), .int (iI (x1))]) (n := 3) (Nat.le_of_ble_eq_true rfl) (e_cc (e_rv_cat _ _) (e_cc rfl e_cn))
  rw [lg_entry_eq]
  generalize (lg_sl [e_rv B (x0), .int (iI (x1))] ++ List.replicate (3 - (lg_sl [e_rv B (x0), .int (iI (x1))]).length) Slot.unset).toArray = ls at hl ⊢
  generalize ([e_rv B (x0), .int (iI (x1))] : List Value).toArray = args at hts E ⊢
  have hl : e_lo ls 3 [(0, e_rv B (x0)), (1, .int (iI (x1)))] := hl
  have hsh := (gd_some hsh).2
  refine e_aload_n (B := B) (x := x0) hx hb dX13_takesSpan_0 rfl (hl.at 0 rfl) ?_
  obtain ⟨v1, h1, hsh⟩ := Option.bind_eq_some_iff.mp hsh
  refine e_getI (k := 35) hx hb hts in_X13 hown hp h1 rfl (by decide) (by decide) rfl (hts _ kf13_395) rfl dX13_takesSpan_1 ?_
  refine lv_iconst (v := iI (1)) hx hb dX13_takesSpan_4 rfl ?_
  refine e_icmp_ne (tgt := 31) hx hb dX13_takesSpan_5 (by decide) (fun c5 => ?_) (fun c5 => ?_)
  · rw [if_neg c5] at hsh
    refine e_aload_n (B := B) (x := x0) hx hb dX13_takesSpan_31 rfl (hl.at 0 rfl) ?_
    obtain ⟨v32, h32, hsh⟩ := Option.bind_eq_some_iff.mp hsh
    refine e_getI (k := 35) hx hb hts in_X13 hown hp h32 rfl (by decide) (by decide) rfl (hts _ kf13_395) rfl dX13_takesSpan_32 ?_
    refine lv_iconst (v := iI (3)) hx hb dX13_takesSpan_35 rfl ?_
    refine e_icmp_ne (tgt := 88) hx hb dX13_takesSpan_36 (by decide) (fun c36 => ?_) (fun c36 => ?_)
    · rw [if_neg c36] at hsh
      refine lv_iload_n hx hb dX13_takesSpan_88 rfl (hl.at 1 rfl) ?_
      refine e_if_ne (tgt := 107) hx hb dX13_takesSpan_89 (by decide) (fun c89 => ?_) (fun c89 => ?_)
      · rw [if_neg c89] at hsh
        refine e_aload_n (B := B) (x := x0) hx hb dX13_takesSpan_107 rfl (hl.at 0 rfl) ?_
        obtain ⟨v108, h108, hsh⟩ := Option.bind_eq_some_iff.mp hsh
        refine e_getI (k := 38) hx hb hts in_X13 hown hp h108 rfl (by decide) (by decide) rfl (hts _ kf13_404) rfl dX13_takesSpan_108 ?_
        refine e_aload_n (B := B) (x := x0) hx hb dX13_takesSpan_111 rfl (hl.at 0 rfl) ?_
        obtain ⟨v112, h112, hsh⟩ := Option.bind_eq_some_iff.mp hsh
        refine e_getI (k := 36) hx hb hts in_X13 hown hp h112 rfl (by decide) (by decide) rfl (hts _ kf13_398) rfl dX13_takesSpan_112 ?_
        refine e_icmp_le (tgt := 132) hx hb dX13_takesSpan_115 (by decide) (fun c115 => ?_) (fun c115 => ?_)
        · rw [if_pos c115] at hsh
          exact w13_takesSpan_b132 E hp hS (hl.sub [0] rfl) hsh
        · rw [if_neg c115] at hsh
          refine e_aload_n (B := B) (x := x0) hx hb dX13_takesSpan_118 rfl (hl.at 0 rfl) ?_
          refine e_aload_n (B := B) (x := x0) hx hb dX13_takesSpan_119 rfl (hl.at 0 rfl) ?_
          obtain ⟨v120, h120, hsh⟩ := Option.bind_eq_some_iff.mp hsh
          refine e_getI (k := 36) hx hb hts in_X13 hown hp h120 rfl (by decide) (by decide) rfl (hts _ kf13_398) rfl dX13_takesSpan_120 ?_
          refine lv_iconst (v := iI (1)) hx hb dX13_takesSpan_123 rfl ?_
          refine e_iadd hx hb dX13_takesSpan_124 ?_
          refine e_aload_n (B := B) (x := x0) hx hb dX13_takesSpan_125 rfl (hl.at 0 rfl) ?_
          obtain ⟨v126, h126, hsh⟩ := Option.bind_eq_some_iff.mp hsh
          refine e_getI (k := 38) hx hb hts in_X13 hown hp h126 rfl (by decide) (by decide) rfl (hts _ kf13_404) rfl dX13_takesSpan_126 ?_
          obtain ⟨S129, h129, hsh⟩ := Option.bind_eq_some_iff.mp hsh
          have ok129 := ok13_takesLines h129
          refine e_callV (nL := 3) (mc := 0) (ms := 0) (T := TX13) (N := 126) (As := [.int (iI ((v120 + 1))), .int (iI (v126))]) (rest := []) hx hb hml hown hts hp hS hl.size ok129.1 ok129.2.1 ok129.2.2 rfl (by decide) (c13_takesLines l D cA B S S129 (x0) ((v120 + 1)) (v126) h129) rfl rfl kd13_takesLines (kl13_272) ks13_takesLines kv13_takesLines ki13 kh13_takesLines ⟨Nat.le_of_ble_eq_true rfl, Nat.le_of_ble_eq_true rfl⟩ rfl (by simp [e_rv_cat, e_int_cat]) ⟨Nat.le_refl _, Nat.le_refl _⟩ dX13_takesSpan_129 rfl (fun H locs hp hS => ?_)
          exact w13_takesSpan_b132 E hp hS (hl.sub [0] rfl) hsh
      · rw [if_pos c89] at hsh
        refine e_aload_n (B := B) (x := x0) hx hb dX13_takesSpan_92 rfl (hl.at 0 rfl) ?_
        refine e_aload_n (B := B) (x := x0) hx hb dX13_takesSpan_93 rfl (hl.at 0 rfl) ?_
        obtain ⟨v94, h94, hsh⟩ := Option.bind_eq_some_iff.mp hsh
        refine e_getI (k := 36) hx hb hts in_X13 hown hp h94 rfl (by decide) (by decide) rfl (hts _ kf13_398) rfl dX13_takesSpan_94 ?_
        refine e_aload_n (B := B) (x := x0) hx hb dX13_takesSpan_97 rfl (hl.at 0 rfl) ?_
        obtain ⟨v98, h98, hsh⟩ := Option.bind_eq_some_iff.mp hsh
        refine e_getI (k := 38) hx hb hts in_X13 hown hp h98 rfl (by decide) (by decide) rfl (hts _ kf13_404) rfl dX13_takesSpan_98 ?_
        obtain ⟨S101, h101, hsh⟩ := Option.bind_eq_some_iff.mp hsh
        have ok101 := ok13_takesLines h101
        refine e_callV (nL := 3) (mc := 0) (ms := 0) (T := TX13) (N := 126) (As := [.int (iI (v94)), .int (iI (v98))]) (rest := []) hx hb hml hown hts hp hS hl.size ok101.1 ok101.2.1 ok101.2.2 rfl (by decide) (c13_takesLines l D cA B S S101 (x0) (v94) (v98) h101) rfl rfl kd13_takesLines (kl13_272) ks13_takesLines kv13_takesLines ki13 kh13_takesLines ⟨Nat.le_of_ble_eq_true rfl, Nat.le_of_ble_eq_true rfl⟩ rfl (by simp [e_rv_cat, e_int_cat]) ⟨Nat.le_refl _, Nat.le_refl _⟩ dX13_takesSpan_101 rfl (fun H locs hp hS => ?_)
        refine lv_goto (tgt := 142) hx hb dX13_takesSpan_104 (by decide) ?_
        exact w13_takesSpan_b142 E hp hS (hl.sub [] rfl) hsh
    · rw [if_pos c36] at hsh
      refine e_aload_n (B := B) (x := x0) hx hb dX13_takesSpan_39 rfl (hl.at 0 rfl) ?_
      obtain ⟨v40, h40, hsh⟩ := Option.bind_eq_some_iff.mp hsh
      refine e_getI (k := 36) hx hb hts in_X13 hown hp h40 rfl (by decide) (by decide) rfl (hts _ kf13_398) rfl dX13_takesSpan_40 ?_
      refine e_istore_n (lv' := [(2, .int (iI (v40))), (0, e_rv B (x0)), (1, .int (iI (x1)))]) hx hb dX13_takesSpan_43 rfl hl (by decide) rfl (fun ls hl => ?_)
      exact w13_takesSpan_l44 E 1000000 hp hS (hl.sub [1, 0] rfl) hsh
  · rw [if_pos c5] at hsh
    refine e_aload_n (B := B) (x := x0) hx hb dX13_takesSpan_8 rfl (hl.at 0 rfl) ?_
    refine e_aload_n (B := B) (x := x0) hx hb dX13_takesSpan_9 rfl (hl.at 0 rfl) ?_
    obtain ⟨v10, h10, hsh⟩ := Option.bind_eq_some_iff.mp hsh
    refine e_getI (k := 36) hx hb hts in_X13 hown hp h10 rfl (by decide) (by decide) rfl (hts _ kf13_398) rfl dX13_takesSpan_10 ?_
    refine e_aload_n (B := B) (x := x0) hx hb dX13_takesSpan_13 rfl (hl.at 0 rfl) ?_
    obtain ⟨v14, h14, hsh⟩ := Option.bind_eq_some_iff.mp hsh
    refine e_getI (k := 37) hx hb hts in_X13 hown hp h14 rfl (by decide) (by decide) rfl (hts _ kf13_401) rfl dX13_takesSpan_14 ?_
    refine e_aload_n (B := B) (x := x0) hx hb dX13_takesSpan_17 rfl (hl.at 0 rfl) ?_
    obtain ⟨v18, h18, hsh⟩ := Option.bind_eq_some_iff.mp hsh
    refine e_getI (k := 38) hx hb hts in_X13 hown hp h18 rfl (by decide) (by decide) rfl (hts _ kf13_404) rfl dX13_takesSpan_18 ?_
    refine e_aload_n (B := B) (x := x0) hx hb dX13_takesSpan_21 rfl (hl.at 0 rfl) ?_
    obtain ⟨v22, h22, hsh⟩ := Option.bind_eq_some_iff.mp hsh
    refine e_getI (k := 39) hx hb hts in_X13 hown hp h22 rfl (by decide) (by decide) rfl (hts _ kf13_407) rfl dX13_takesSpan_22 ?_
    obtain ⟨S25, h25, hsh⟩ := Option.bind_eq_some_iff.mp hsh
    have ok25 := ok13_takesSigns h25
    refine e_callV (nL := 3) (mc := 0) (ms := 0) (T := TX13) (N := 126) (As := [.int (iI (v10)), .int (iI (v14)), .int (iI (v18)), .int (iI (v22))]) (rest := []) hx hb hml hown hts hp hS hl.size ok25.1 ok25.2.1 ok25.2.2 rfl (by decide) (c13_takesSigns l D cA B S S25 (x0) (v10) (v14) (v18) (v22) h25) rfl rfl kd13_takesSigns (kl13_484) ks13_takesSigns kv13_takesSigns ki13 kh13_takesSigns ⟨Nat.le_of_ble_eq_true rfl, Nat.le_of_ble_eq_true rfl⟩ rfl (by simp [e_rv_cat, e_int_cat]) ⟨Nat.le_refl _, Nat.le_refl _⟩ dX13_takesSpan_25 rfl (fun H locs hp hS => ?_)
    refine lv_goto (tgt := 142) hx hb dX13_takesSpan_28 (by decide) ?_
    exact w13_takesSpan_b142 E hp hS (hl.sub [] rfl) hsh
theorem ok13_deletes {S : HP} {x0 : Int} {x1 : Int} {x2 : Int} {r : Int × HP} (h : s13_deletes S x0 x1 x2 = some r) : 0 ≤ x0 ∧ x0.toNat < e_n S ∧ e_g S x0.toNat = 13 := (gd_some h).1
set_option maxRecDepth 100000 in
set_option maxHeartbeats 4000000 in
theorem w13_deletes_b19 {p : Program} {l : Launch} {e : Env} {s : State} {m : MethodId} {args : Array Value} {below : List Frame} {meth : Method} {c : Code} {D : va_G} {cA : Nat → ClassId} {B : Nat} {res : Int × HP} (E : e_En p s m args meth c cX13_deletes RX13 3 (some .boolean)) {ls : Array Slot} {H : Heap} {locs : List Loc} {S : HP} (hp : e_Pic D cA B S s H) (hS : va_S (e_A B) s.heap H locs) (hl : e_lo ls 3 []) (hsh : s13_deletes_b19 S  = some res) : W p l e ({ frames := 6, cells := 0, slots := 0, locals := 142 } : Room) s m args below meth c H locs 0 0 (MQ below (e_Qi D cA B res.1 res.2) args s 0 0 (e_A B)) (F0 m 19 ls []) := by
  obtain ⟨hx, hb, hml, hown, hts, hlk, hrt⟩ := id E
  unfold s13_deletes_b19 at hsh
  refine lv_iconst (v := iI (0)) hx hb dX13_deletes_19 rfl ?_
  obtain ⟨hz, hz1, hz2⟩ := zR_some hsh
  rw [← hz1, ← hz2]
  exact e_zret hx hb hrt hlk hp hS hz dX13_deletes_20
set_option maxRecDepth 100000 in
set_option maxHeartbeats 4000000 in
theorem w13_deletes_b90 {p : Program} {l : Launch} {e : Env} {s : State} {m : MethodId} {args : Array Value} {below : List Frame} {meth : Method} {c : Code} {D : va_G} {cA : Nat → ClassId} {B : Nat} {res : Int × HP} (E : e_En p s m args meth c cX13_deletes RX13 3 (some .boolean)) {ls : Array Slot} {H : Heap} {locs : List Loc} {S : HP} (hp : e_Pic D cA B S s H) (hS : va_S (e_A B) s.heap H locs) (hl : e_lo ls 3 []) (hsh : s13_deletes_b90 S  = some res) : W p l e ({ frames := 6, cells := 0, slots := 0, locals := 142 } : Room) s m args below meth c H locs 0 0 (MQ below (e_Qi D cA B res.1 res.2) args s 0 0 (e_A B)) (F0 m 90 ls []) := by
  obtain ⟨hx, hb, hml, hown, hts, hlk, hrt⟩ := id E
  unfold s13_deletes_b90 at hsh
  refine lv_iconst (v := iI (1)) hx hb dX13_deletes_90 rfl ?_
  obtain ⟨hz, hz1, hz2⟩ := zR_some hsh
  rw [← hz1, ← hz2]
  exact e_zret hx hb hrt hlk hp hS hz dX13_deletes_91
set_option maxRecDepth 100000 in
set_option maxHeartbeats 4000000 in
theorem c13_deletes (l : Launch) (D : va_G) (cA : Nat → ClassId) (B : Nat) (S S' : HP) (x0 : Int) (x1 : Int) (x2 : Int) (r : Int) (hsh : s13_deletes S x0 x1 x2 = some (r, S')) : Met l yX13_deletes (e_wu yX13_deletes cX13_deletes 3 (some .boolean)) ({ frames := 6, cells := 0, slots := 0, locals := 142 } : Room) (va_Pc [e_rv B (x0), .int (iI (x1)), .int (iI (x2))] (fun U => e_PU D cA B S U)) (e_Qi D cA B r S') 0 0 (e_A B) := by
  refine Met.ofW (cc := cX13_deletes) (maxL := 3) (ret := (some .boolean)) (by decide +kernel) rfl ?_
  intro p e s m args below meth c s₁ Bd hml hv
  obtain ⟨rfl, hp⟩ := hv
  have hp : e_Pic D cA B S s s.heap := hp
  have hx := Bd.exec
  have hb := Bd.bytes
  have hrt := Bd.returns
  have hlk := Bd.notSynchronized
  have hown : s.vm.findClass RX13 = some m.cls := findClass_of_methodNamed Bd.named
  have hts : ∀ w ∈ e_tb, w.before ([e_rv B (x0), .int (iI (x1)), .int (iI (x2))] : List Value).toArray s = true := fun w h => atoms_spec (ws := (e_wu yX13_deletes cX13_deletes 3 (some .boolean))) Bd.pre w (List.mem_cons_of_mem _ h)
  have E : e_En p s m ([e_rv B (x0), .int (iI (x1)), .int (iI (x2))] : List Value).toArray meth c cX13_deletes RX13 3 (some .boolean) := ⟨hx, hb, hml, hown, hts, hlk, hrt⟩
  have hS : va_S (e_A B) s.heap s.heap [] := va_S.rf
  have hl := e_entry (vs := [e_rv B (x0), .int (iI (x1)), .int (iI (x2))]) (n := 3) (Nat.le_of_ble_eq_true rfl) (e_cc (e_rv_cat _ _) (e_cc rfl (e_cc rfl e_cn)))
  rw [lg_entry_eq]
  generalize (lg_sl [e_rv B (x0), .int (iI (x1)), .int (iI (x2))] ++ List.replicate (3 - (lg_sl [e_rv B (x0), .int (iI (x1)), .int (iI (x2))]).length) Slot.unset).toArray = ls at hl ⊢
  generalize ([e_rv B (x0), .int (iI (x1)), .int (iI (x2))] : List Value).toArray = args at hts E ⊢
  have hl : e_lo ls 3 [(0, e_rv B (x0)), (1, .int (iI (x1))), (2, .int (iI (x2)))] := hl
  have hsh := (gd_some hsh).2
  refine e_aload_n (B := B) (x := x0) hx hb dX13_deletes_0 rfl (hl.at 0 rfl) ?_
  obtain ⟨S1, h1, hsh⟩ := Option.bind_eq_some_iff.mp hsh
  have ok1 := ok13_copiesSpan h1
  refine e_callV (nL := 3) (mc := 0) (ms := 0) (T := TX13) (N := 126) (As := []) (rest := []) hx hb hml hown hts hp hS hl.size ok1.1 ok1.2.1 ok1.2.2 rfl (by decide) (c13_copiesSpan l D cA B S S1 (x0) h1) rfl rfl kd13_copiesSpan (kl13_487) ks13_copiesSpan kv13_copiesSpan ki13 kh13_copiesSpan ⟨Nat.le_of_ble_eq_true rfl, Nat.le_of_ble_eq_true rfl⟩ rfl (by simp [e_rv_cat, e_int_cat]) ⟨Nat.le_refl _, Nat.le_refl _⟩ dX13_deletes_1 rfl (fun H locs hp hS => ?_)
  refine e_aload_n (B := B) (x := x0) hx hb dX13_deletes_4 rfl (hl.at 0 rfl) ?_
  obtain ⟨⟨v5, S5⟩, h5, hsh⟩ := Option.bind_eq_some_iff.mp hsh
  have hsh : _ = _ := hsh
  try dsimp only at hsh
  have ok5 := ok13_fitsTaken h5
  refine e_callI (nL := 3) (mc := 0) (ms := 0) (T := TX13) (N := 126) (As := []) (rest := []) hx hb hml hown hts hp hS hl.size ok5.1 ok5.2.1 ok5.2.2 rfl (by decide) (c13_fitsTaken l D cA B S1 S5 (x0) v5 h5) rfl rfl kd13_fitsTaken (kl13_490) ks13_fitsTaken kv13_fitsTaken ki13 kh13_fitsTaken ⟨Nat.le_of_ble_eq_true rfl, Nat.le_of_ble_eq_true rfl⟩ rfl (by simp [e_rv_cat, e_int_cat]) ⟨Nat.le_refl _, Nat.le_refl _⟩ dX13_deletes_5 rfl (fun H locs hp hS => ?_)
  refine e_if_eq (tgt := 19) hx hb dX13_deletes_8 (by decide) (fun c8 => ?_) (fun c8 => ?_)
  · rw [if_pos c8] at hsh
    exact w13_deletes_b19 E hp hS (hl.sub [] rfl) hsh
  · rw [if_neg c8] at hsh
    refine e_aload_n (B := B) (x := x0) hx hb dX13_deletes_11 rfl (hl.at 0 rfl) ?_
    refine lv_iload_n hx hb dX13_deletes_12 rfl (hl.at 1 rfl) ?_
    obtain ⟨⟨v13, S13⟩, h13, hsh⟩ := Option.bind_eq_some_iff.mp hsh
    have hsh : _ = _ := hsh
    try dsimp only at hsh
    have ok13 := ok13_fitsRegister h13
    refine e_callI (nL := 3) (mc := 0) (ms := 0) (T := TX13) (N := 126) (As := [.int (iI (x1))]) (rest := []) hx hb hml hown hts hp hS hl.size ok13.1 ok13.2.1 ok13.2.2 rfl (by decide) (c13_fitsRegister l D cA B S5 S13 (x0) (x1) v13 h13) rfl rfl kd13_fitsRegister (kl13_493) ks13_fitsRegister kv13_fitsRegister ki13 kh13_fitsRegister ⟨Nat.le_of_ble_eq_true rfl, Nat.le_of_ble_eq_true rfl⟩ rfl (by simp [e_rv_cat, e_int_cat]) ⟨Nat.le_refl _, Nat.le_refl _⟩ dX13_deletes_13 rfl (fun H locs hp hS => ?_)
    refine e_if_ne (tgt := 21) hx hb dX13_deletes_16 (by decide) (fun c16 => ?_) (fun c16 => ?_)
    · rw [if_neg c16] at hsh
      refine e_aload_n (B := B) (x := x0) hx hb dX13_deletes_21 rfl (hl.at 0 rfl) ?_
      refine lv_iload_n hx hb dX13_deletes_22 rfl (hl.at 1 rfl) ?_
      refine lv_iconst (v := iI (0)) hx hb dX13_deletes_23 rfl ?_
      obtain ⟨S24, h24, hsh⟩ := Option.bind_eq_some_iff.mp hsh
      have ok24 := ok13_writes h24
      refine e_callV (nL := 3) (mc := 0) (ms := 0) (T := TX13) (N := 126) (As := [.int (iI (x1)), .int (iI (0))]) (rest := []) hx hb hml hown hts hp hS hl.size ok24.1 ok24.2.1 ok24.2.2 rfl (by decide) (c13_writes l D cA B S13 S24 (x0) (x1) (0) h24) rfl rfl kd13_writes (kl13_496) ks13_writes kv13_writes ki13 kh13_writes ⟨Nat.le_of_ble_eq_true rfl, Nat.le_of_ble_eq_true rfl⟩ rfl (by simp [e_rv_cat, e_int_cat]) ⟨Nat.le_refl _, Nat.le_refl _⟩ dX13_deletes_24 rfl (fun H locs hp hS => ?_)
      refine e_aload_n (B := B) (x := x0) hx hb dX13_deletes_27 rfl (hl.at 0 rfl) ?_
      refine lv_iload_n hx hb dX13_deletes_28 rfl (hl.at 2 rfl) ?_
      obtain ⟨S29, h29, hsh⟩ := Option.bind_eq_some_iff.mp hsh
      have ok29 := ok13_takesSpan h29
      refine e_callV (nL := 3) (mc := 0) (ms := 0) (T := TX13) (N := 126) (As := [.int (iI (x2))]) (rest := []) hx hb hml hown hts hp hS hl.size ok29.1 ok29.2.1 ok29.2.2 rfl (by decide) (c13_takesSpan l D cA B S24 S29 (x0) (x2) h29) rfl rfl kd13_takesSpan (kl13_500) ks13_takesSpan kv13_takesSpan ki13 kh13_takesSpan ⟨Nat.le_of_ble_eq_true rfl, Nat.le_of_ble_eq_true rfl⟩ rfl (by simp [e_rv_cat, e_int_cat]) ⟨Nat.le_refl _, Nat.le_refl _⟩ dX13_deletes_29 rfl (fun H locs hp hS => ?_)
      refine lv_iload_n hx hb dX13_deletes_32 rfl (hl.at 2 rfl) ?_
      refine e_if_eq (tgt := 50) hx hb dX13_deletes_33 (by decide) (fun c33 => ?_) (fun c33 => ?_)
      · rw [if_pos c33] at hsh
        refine e_aload_n (B := B) (x := x0) hx hb dX13_deletes_50 rfl (hl.at 0 rfl) ?_
        obtain ⟨v51, h51, hsh⟩ := Option.bind_eq_some_iff.mp hsh
        refine e_getI (k := 35) hx hb hts in_X13 hown hp h51 rfl (by decide) (by decide) rfl (hts _ kf13_395) rfl dX13_deletes_51 ?_
        refine lv_iconst (v := iI (2)) hx hb dX13_deletes_54 rfl ?_
        refine e_icmp_ne (tgt := 78) hx hb dX13_deletes_55 (by decide) (fun c55 => ?_) (fun c55 => ?_)
        · rw [if_neg c55] at hsh
          refine e_aload_n (B := B) (x := x0) hx hb dX13_deletes_78 rfl (hl.at 0 rfl) ?_
          refine e_aload_n (B := B) (x := x0) hx hb dX13_deletes_79 rfl (hl.at 0 rfl) ?_
          obtain ⟨v80, h80, hsh⟩ := Option.bind_eq_some_iff.mp hsh
          refine e_getI (k := 36) hx hb hts in_X13 hown hp h80 rfl (by decide) (by decide) rfl (hts _ kf13_398) rfl dX13_deletes_80 ?_
          refine e_aload_n (B := B) (x := x0) hx hb dX13_deletes_83 rfl (hl.at 0 rfl) ?_
          obtain ⟨v84, h84, hsh⟩ := Option.bind_eq_some_iff.mp hsh
          refine e_getI (k := 37) hx hb hts in_X13 hown hp h84 rfl (by decide) (by decide) rfl (hts _ kf13_401) rfl dX13_deletes_84 ?_
          obtain ⟨S87, h87, hsh⟩ := Option.bind_eq_some_iff.mp hsh
          have ok87 := ok13_goesNear h87
          refine e_callV (nL := 3) (mc := 0) (ms := 0) (T := TX13) (N := 126) (As := [.int (iI (v80)), .int (iI (v84))]) (rest := []) hx hb hml hown hts hp hS hl.size ok87.1 ok87.2.1 ok87.2.2 rfl (by decide) (c13_goesNear l D cA B S29 S87 (x0) (v80) (v84) h87) rfl rfl kd13_goesNear (kl13_510) ks13_goesNear kv13_goesNear ki13 kh13_goesNear ⟨Nat.le_of_ble_eq_true rfl, Nat.le_of_ble_eq_true rfl⟩ rfl (by simp [e_rv_cat, e_int_cat]) ⟨Nat.le_refl _, Nat.le_refl _⟩ dX13_deletes_87 rfl (fun H locs hp hS => ?_)
          exact w13_deletes_b90 E hp hS (hl.sub [] rfl) hsh
        · rw [if_pos c55] at hsh
          refine e_aload_n (B := B) (x := x0) hx hb dX13_deletes_58 rfl (hl.at 0 rfl) ?_
          refine e_aload_n (B := B) (x := x0) hx hb dX13_deletes_59 rfl (hl.at 0 rfl) ?_
          obtain ⟨v60, h60, hsh⟩ := Option.bind_eq_some_iff.mp hsh
          refine e_getI (k := 36) hx hb hts in_X13 hown hp h60 rfl (by decide) (by decide) rfl (hts _ kf13_398) rfl dX13_deletes_60 ?_
          refine e_aload_n (B := B) (x := x0) hx hb dX13_deletes_63 rfl (hl.at 0 rfl) ?_
          obtain ⟨v64, h64, hsh⟩ := Option.bind_eq_some_iff.mp hsh
          refine e_getI (k := 2) hx hb hts in_X13 hown hp h64 rfl (by decide) (by decide) rfl (hts _ kf13_13) rfl dX13_deletes_64 ?_
          refine lv_iconst (v := iI (1)) hx hb dX13_deletes_67 rfl ?_
          refine e_isub hx hb dX13_deletes_68 ?_
          obtain ⟨⟨v69, S69⟩, h69, hsh⟩ := Option.bind_eq_some_iff.mp hsh
          have hsh : _ = _ := hsh
          try dsimp only at hsh
          refine e_callS (nL := 3) (mc := 0) (ms := 0) (As := [.int (iI (v60)), .int (iI ((v64 - 1)))]) (rest := [e_rv B (x0)]) hx hb hml hown hts hp hS hl.size (c13_lesser l D cA B S29 S69 (v60) ((v64 - 1)) v69 h69) rfl rfl kd13_lesser (kl13_257) ks13_lesser ki13 kh13_lesser ⟨Nat.le_of_ble_eq_true rfl, Nat.le_of_ble_eq_true rfl⟩ rfl (by simp [e_rv_cat, e_int_cat]) ⟨Nat.le_refl _, Nat.le_refl _⟩ dX13_deletes_69 rfl (fun H locs hp hS => ?_)
          obtain ⟨S72, h72, hsh⟩ := Option.bind_eq_some_iff.mp hsh
          have ok72 := ok13_goesTo h72
          refine e_callV (nL := 3) (mc := 0) (ms := 0) (T := TX13) (N := 126) (As := [.int (iI (v69))]) (rest := []) hx hb hml hown hts hp hS hl.size ok72.1 ok72.2.1 ok72.2.2 rfl (by decide) (c13_goesTo l D cA B S69 S72 (x0) (v69) h72) rfl rfl kd13_goesTo (kl13_507) ks13_goesTo kv13_goesTo ki13 kh13_goesTo ⟨Nat.le_of_ble_eq_true rfl, Nat.le_of_ble_eq_true rfl⟩ rfl (by simp [e_rv_cat, e_int_cat]) ⟨Nat.le_refl _, Nat.le_refl _⟩ dX13_deletes_72 rfl (fun H locs hp hS => ?_)
          refine lv_goto (tgt := 90) hx hb dX13_deletes_75 (by decide) ?_
          exact w13_deletes_b90 E hp hS (hl.sub [] rfl) hsh
      · rw [if_neg c33] at hsh
        refine e_aload_n (B := B) (x := x0) hx hb dX13_deletes_36 rfl (hl.at 0 rfl) ?_
        refine e_aload_n (B := B) (x := x0) hx hb dX13_deletes_37 rfl (hl.at 0 rfl) ?_
        obtain ⟨v38, h38, hsh⟩ := Option.bind_eq_some_iff.mp hsh
        refine e_getI (k := 36) hx hb hts in_X13 hown hp h38 rfl (by decide) (by decide) rfl (hts _ kf13_398) rfl dX13_deletes_38 ?_
        refine e_aload_n (B := B) (x := x0) hx hb dX13_deletes_41 rfl (hl.at 0 rfl) ?_
        obtain ⟨v42, h42, hsh⟩ := Option.bind_eq_some_iff.mp hsh
        refine e_getI (k := 37) hx hb hts in_X13 hown hp h42 rfl (by decide) (by decide) rfl (hts _ kf13_401) rfl dX13_deletes_42 ?_
        refine lv_iconst (v := iI (1)) hx hb dX13_deletes_45 rfl ?_
        obtain ⟨⟨v46, S46⟩, h46, hsh⟩ := Option.bind_eq_some_iff.mp hsh
        have hsh : _ = _ := hsh
        try dsimp only at hsh
        have ok46 := ok13_inserts h46
        refine e_callI (nL := 3) (mc := 0) (ms := 0) (T := TX13) (N := 126) (As := [.int (iI (v38)), .int (iI (v42)), .int (iI (1))]) (rest := []) hx hb hml hown hts hp hS hl.size ok46.1 ok46.2.1 ok46.2.2 rfl (by decide) (c13_inserts l D cA B S29 S46 (x0) (v38) (v42) (1) v46 h46) rfl rfl kd13_inserts (kl13_504) ks13_inserts kv13_inserts ki13 kh13_inserts ⟨Nat.le_of_ble_eq_true rfl, Nat.le_of_ble_eq_true rfl⟩ rfl (by simp [e_rv_cat, e_int_cat]) ⟨Nat.le_refl _, Nat.le_refl _⟩ dX13_deletes_46 rfl (fun H locs hp hS => ?_)
        obtain ⟨hz, hz1, hz2⟩ := zR_some hsh
        rw [← hz1, ← hz2]
        exact e_zret hx hb hrt hlk hp hS hz dX13_deletes_49
    · rw [if_pos c16] at hsh
      exact w13_deletes_b19 E hp hS (hl.sub [] rfl) hsh
theorem ok13_shifts {S : HP} {x0 : Int} {x1 : Int} {r : Int × HP} (h : s13_shifts S x0 x1 = some r) : 0 ≤ x0 ∧ x0.toNat < e_n S ∧ e_g S x0.toNat = 13 := (gd_some h).1
set_option maxRecDepth 100000 in
set_option maxHeartbeats 4000000 in
theorem w13_shifts_b130 {p : Program} {l : Launch} {e : Env} {s : State} {m : MethodId} {args : Array Value} {below : List Frame} {meth : Method} {c : Code} {D : va_G} {cA : Nat → ClassId} {B : Nat} {res : Int × HP} {k41 : HP → Int → Int → Int → Option (Int × HP)} (hk41 : ∀ {ls : Array Slot} {H : Heap} {locs : List Loc} {S : HP} {x0 : Int} {x1 : Int} {x2 : Int} (hp : e_Pic D cA B S s H) (hS : va_S (e_A B) s.heap H locs) (hl : e_lo ls 4 [(0, e_rv B (x0)), (1, .int (iI (x1))), (2, .int (iI (x2)))]) (hsh : k41 S x0 x1 x2 = some res), W p l e ({ frames := 5, cells := 0, slots := 0, locals := 120 } : Room) s m args below meth c H locs 0 0 (MQ below (e_Qi D cA B res.1 res.2) args s 0 0 (e_A B)) (F0 m 41 ls [])) (E : e_En p s m args meth c cX13_shifts RX13 4 (some .boolean)) {ls : Array Slot} {H : Heap} {locs : List Loc} {S : HP} {x0 : Int} {x1 : Int} {x2 : Int} (hp : e_Pic D cA B S s H) (hS : va_S (e_A B) s.heap H locs) (hl : e_lo ls 4 [(0, e_rv B (x0)), (1, .int (iI (x1))), (2, .int (iI (x2)))]) (hsh : s13_shifts_b130 k41 S x0 x1 x2 = some res) : W p l e ({ frames := 5, cells := 0, slots := 0, locals := 120 } : Room) s m args below meth c H locs 0 0 (MQ below (e_Qi D cA B res.1 res.2) args s 0 0 (e_A B)) (F0 m 130 ls []) := by
  obtain ⟨hx, hb, hml, hown, hts, hlk, hrt⟩ := id E
  unfold s13_shifts_b130 at hsh
  refine e_iinc (n := 1) (x := x2) (lv' := [(2, .int (iI ((x2 + 1)))), (0, e_rv B (x0)), (1, .int (iI (x1)))]) hx hb dX13_shifts_130 hl (k := 2) rfl (by decide) rfl (fun ls hl => ?_)
  refine lv_goto (tgt := 41) hx hb dX13_shifts_133 (by decide) ?_
  exact hk41 hp hS (hl.sub [1, 2, 0] rfl) hsh
set_option maxRecDepth 100000 in
set_option maxHeartbeats 4000000 in
theorem w13_shifts_b83 {p : Program} {l : Launch} {e : Env} {s : State} {m : MethodId} {args : Array Value} {below : List Frame} {meth : Method} {c : Code} {D : va_G} {cA : Nat → ClassId} {B : Nat} {res : Int × HP} {k41 : HP → Int → Int → Int → Option (Int × HP)} (hk41 : ∀ {ls : Array Slot} {H : Heap} {locs : List Loc} {S : HP} {x0 : Int} {x1 : Int} {x2 : Int} (hp : e_Pic D cA B S s H) (hS : va_S (e_A B) s.heap H locs) (hl : e_lo ls 4 [(0, e_rv B (x0)), (1, .int (iI (x1))), (2, .int (iI (x2)))]) (hsh : k41 S x0 x1 x2 = some res), W p l e ({ frames := 5, cells := 0, slots := 0, locals := 120 } : Room) s m args below meth c H locs 0 0 (MQ below (e_Qi D cA B res.1 res.2) args s 0 0 (e_A B)) (F0 m 41 ls [])) (E : e_En p s m args meth c cX13_shifts RX13 4 (some .boolean)) {ls : Array Slot} {H : Heap} {locs : List Loc} {S : HP} {x0 : Int} {x1 : Int} {x2 : Int} {x3 : Int} (hp : e_Pic D cA B S s H) (hS : va_S (e_A B) s.heap H locs) (hl : e_lo ls 4 [(0, e_rv B (x0)), (1, .int (iI (x1))), (2, .int (iI (x2))), (3, .int (iI (x3)))]) (hsh : s13_shifts_b83 k41 S x0 x1 x2 x3 = some res) : W p l e ({ frames := 5, cells := 0, slots := 0, locals := 120 } : Room) s m args below meth c H locs 0 0 (MQ below (e_Qi D cA B res.1 res.2) args s 0 0 (e_A B)) (F0 m 83 ls []) := by
  obtain ⟨hx, hb, hml, hown, hts, hlk, hrt⟩ := id E
  unfold s13_shifts_b83 at hsh
  refine lv_iload_n hx hb dX13_shifts_83 rfl (hl.at 1 rfl) ?_
  refine e_if_ne (tgt := 98) hx hb dX13_shifts_84 (by decide) (fun c84 => ?_) (fun c84 => ?_)
  · rw [if_neg c84] at hsh
    refine e_aload_n (B := B) (x := x0) hx hb dX13_shifts_98 rfl (hl.at 0 rfl) ?_
    obtain ⟨v99, h99, hsh⟩ := Option.bind_eq_some_iff.mp hsh
    refine e_getR (k := 3) hx hb hts in_X13 hown hp h99 rfl (by decide) (by decide) rfl (hts _ kf13_17) rfl dX13_shifts_99 ?_
    refine lv_iload_n hx hb dX13_shifts_102 rfl (hl.at 2 rfl) ?_
    obtain ⟨v103, h103, hsh⟩ := Option.bind_eq_some_iff.mp hsh
    refine e_iald hx hb hp h103 dX13_shifts_103 ?_
    refine e_if_le (tgt := 130) hx hb dX13_shifts_104 (by decide) (fun c104 => ?_) (fun c104 => ?_)
    · rw [if_pos c104] at hsh
      exact w13_shifts_b130 (hk41 := hk41) E hp hS (hl.sub [0, 1, 2] rfl) hsh
    · rw [if_neg c104] at hsh
      refine e_aload_n (B := B) (x := x0) hx hb dX13_shifts_107 rfl (hl.at 0 rfl) ?_
      obtain ⟨v108, h108, hsh⟩ := Option.bind_eq_some_iff.mp hsh
      refine e_getR (k := 42) hx hb hts in_X13 hown hp h108 rfl (by decide) (by decide) rfl (hts _ kf13_83) rfl dX13_shifts_108 ?_
      refine lv_iconst (v := iI (0)) hx hb dX13_shifts_111 rfl ?_
      refine lv_bipush (v := iI (32)) hx hb dX13_shifts_112 (by decide +kernel) ?_
      obtain ⟨S114, h114, hsh⟩ := Option.bind_eq_some_iff.mp hsh
      refine e_iast hx hb hp hS h114 dX13_shifts_114 (fun H locs hp hS => ?_)
      refine e_aload_n (B := B) (x := x0) hx hb dX13_shifts_115 rfl (hl.at 0 rfl) ?_
      obtain ⟨v116, h116, hsh⟩ := Option.bind_eq_some_iff.mp hsh
      refine e_getR (k := 42) hx hb hts in_X13 hown hp h116 rfl (by decide) (by decide) rfl (hts _ kf13_83) rfl dX13_shifts_116 ?_
      refine lv_iconst (v := iI (1)) hx hb dX13_shifts_119 rfl ?_
      refine lv_bipush (v := iI (32)) hx hb dX13_shifts_120 (by decide +kernel) ?_
      obtain ⟨S122, h122, hsh⟩ := Option.bind_eq_some_iff.mp hsh
      refine e_iast hx hb hp hS h122 dX13_shifts_122 (fun H locs hp hS => ?_)
      refine e_aload_n (B := B) (x := x0) hx hb dX13_shifts_123 rfl (hl.at 0 rfl) ?_
      refine lv_iload_n hx hb dX13_shifts_124 rfl (hl.at 2 rfl) ?_
      refine lv_iconst (v := iI (0)) hx hb dX13_shifts_125 rfl ?_
      refine lv_iconst (v := iI (2)) hx hb dX13_shifts_126 rfl ?_
      obtain ⟨S127, h127, hsh⟩ := Option.bind_eq_some_iff.mp hsh
      have ok127 := ok13_putsSigns h127
      refine e_callV (nL := 4) (mc := 0) (ms := 0) (T := TX13) (N := 126) (As := [.int (iI (x2)), .int (iI (0)), .int (iI (2))]) (rest := []) hx hb hml hown hts hp hS hl.size ok127.1 ok127.2.1 ok127.2.2 rfl (by decide) (c13_putsSigns l D cA B S122 S127 (x0) (x2) (0) (2) h127) rfl rfl kd13_putsSigns (kl13_513) ks13_putsSigns kv13_putsSigns ki13 kh13_putsSigns ⟨Nat.le_of_ble_eq_true rfl, Nat.le_of_ble_eq_true rfl⟩ rfl (by simp [e_rv_cat, e_int_cat]) ⟨Nat.le_refl _, Nat.le_refl _⟩ dX13_shifts_127 rfl (fun H locs hp hS => ?_)
      exact w13_shifts_b130 (hk41 := hk41) E hp hS (hl.sub [0, 1, 2] rfl) hsh
  · rw [if_pos c84] at hsh
    refine e_aload_n (B := B) (x := x0) hx hb dX13_shifts_87 rfl (hl.at 0 rfl) ?_
    refine lv_iload_n hx hb dX13_shifts_88 rfl (hl.at 2 rfl) ?_
    refine lv_iconst (v := iI (0)) hx hb dX13_shifts_89 rfl ?_
    refine lv_iload_n hx hb dX13_shifts_90 rfl (hl.at 2 rfl) ?_
    refine lv_iload_n hx hb dX13_shifts_91 rfl (hl.at 3 rfl) ?_
    obtain ⟨S92, h92, hsh⟩ := Option.bind_eq_some_iff.mp hsh
    have ok92 := ok13_takesSigns h92
    refine e_callV (nL := 4) (mc := 0) (ms := 0) (T := TX13) (N := 126) (As := [.int (iI (x2)), .int (iI (0)), .int (iI (x2)), .int (iI (x3))]) (rest := []) hx hb hml hown hts hp hS hl.size ok92.1 ok92.2.1 ok92.2.2 rfl (by decide) (c13_takesSigns l D cA B S S92 (x0) (x2) (0) (x2) (x3) h92) rfl rfl kd13_takesSigns (kl13_484) ks13_takesSigns kv13_takesSigns ki13 kh13_takesSigns ⟨Nat.le_of_ble_eq_true rfl, Nat.le_of_ble_eq_true rfl⟩ rfl (by simp [e_rv_cat, e_int_cat]) ⟨Nat.le_refl _, Nat.le_refl _⟩ dX13_shifts_92 rfl (fun H locs hp hS => ?_)
    refine lv_goto (tgt := 130) hx hb dX13_shifts_95 (by decide) ?_
    exact w13_shifts_b130 (hk41 := hk41) E hp hS (hl.sub [0, 1, 2] rfl) hsh
set_option maxRecDepth 100000 in
set_option maxHeartbeats 4000000 in
theorem w13_shifts_l51 {p : Program} {l : Launch} {e : Env} {s : State} {m : MethodId} {args : Array Value} {below : List Frame} {meth : Method} {c : Code} {D : va_G} {cA : Nat → ClassId} {B : Nat} {res : Int × HP} {k41 : HP → Int → Int → Int → Option (Int × HP)} (hk41 : ∀ {ls : Array Slot} {H : Heap} {locs : List Loc} {S : HP} {x0 : Int} {x1 : Int} {x2 : Int} (hp : e_Pic D cA B S s H) (hS : va_S (e_A B) s.heap H locs) (hl : e_lo ls 4 [(0, e_rv B (x0)), (1, .int (iI (x1))), (2, .int (iI (x2)))]) (hsh : k41 S x0 x1 x2 = some res), W p l e ({ frames := 5, cells := 0, slots := 0, locals := 120 } : Room) s m args below meth c H locs 0 0 (MQ below (e_Qi D cA B res.1 res.2) args s 0 0 (e_A B)) (F0 m 41 ls [])) (E : e_En p s m args meth c cX13_shifts RX13 4 (some .boolean)) : ∀ (f : Nat) {ls : Array Slot} {H : Heap} {locs : List Loc} {S : HP} {x0 : Int} {x1 : Int} {x2 : Int} {x3 : Int} (hp : e_Pic D cA B S s H) (hS : va_S (e_A B) s.heap H locs) (hl : e_lo ls 4 [(0, e_rv B (x0)), (1, .int (iI (x1))), (2, .int (iI (x2))), (3, .int (iI (x3)))]) (hsh : s13_shifts_l51 k41 f S x0 x1 x2 x3 = some res), W p l e ({ frames := 5, cells := 0, slots := 0, locals := 120 } : Room) s m args below meth c H locs 0 0 (MQ below (e_Qi D cA B res.1 res.2) args s 0 0 (e_A B)) (F0 m 51 ls []) := by
  obtain ⟨hx, hb, hml, hown, hts, hlk, hrt⟩ := id E
  intro f
  induction f with
  | zero => intro ls H locs S x0 x1 x2 x3 hp hS hl hsh; cases hsh
  | succ f ih =>
    intro ls H locs S x0 x1 x2 x3 hp hS hl hsh
    have hk51 : ∀ {ls : Array Slot} {H : Heap} {locs : List Loc} {S : HP} {x0 : Int} {x1 : Int} {x2 : Int} {x3 : Int} (hp : e_Pic D cA B S s H) (hS : va_S (e_A B) s.heap H locs) (hl : e_lo ls 4 [(0, e_rv B (x0)), (1, .int (iI (x1))), (2, .int (iI (x2))), (3, .int (iI (x3)))]) (hsh : (s13_shifts_l51 k41 f) S x0 x1 x2 x3 = some res), W p l e ({ frames := 5, cells := 0, slots := 0, locals := 120 } : Room) s m args below meth c H locs 0 0 (MQ below (e_Qi D cA B res.1 res.2) args s 0 0 (e_A B)) (F0 m 51 ls []) := ih
    generalize hkk : s13_shifts_l51 k41 f = k51 at hk51
    rw [s13_shifts_l51] at hsh
    rw [hkk] at hsh
    try dsimp only at hsh
    refine lv_iload_n hx hb dX13_shifts_51 rfl (hl.at 3 rfl) ?_
    refine lv_iconst (v := iI (2)) hx hb dX13_shifts_52 rfl ?_
    refine e_icmp_ge (tgt := 83) hx hb dX13_shifts_53 (by decide) (fun c53 => ?_) (fun c53 => ?_)
    · rw [if_pos c53] at hsh
      exact w13_shifts_b83 (hk41 := hk41) E hp hS (hl.sub [0, 1, 2, 3] rfl) hsh
    · rw [if_neg c53] at hsh
      refine lv_iload_n hx hb dX13_shifts_56 rfl (hl.at 3 rfl) ?_
      refine e_aload_n (B := B) (x := x0) hx hb dX13_shifts_57 rfl (hl.at 0 rfl) ?_
      obtain ⟨v58, h58, hsh⟩ := Option.bind_eq_some_iff.mp hsh
      refine e_getR (k := 3) hx hb hts in_X13 hown hp h58 rfl (by decide) (by decide) rfl (hts _ kf13_17) rfl dX13_shifts_58 ?_
      refine lv_iload_n hx hb dX13_shifts_61 rfl (hl.at 2 rfl) ?_
      obtain ⟨v62, h62, hsh⟩ := Option.bind_eq_some_iff.mp hsh
      refine e_iald hx hb hp h62 dX13_shifts_62 ?_
      refine e_icmp_ge (tgt := 83) hx hb dX13_shifts_63 (by decide) (fun c63 => ?_) (fun c63 => ?_)
      · rw [if_pos c63] at hsh
        exact w13_shifts_b83 (hk41 := hk41) E hp hS (hl.sub [0, 1, 2, 3] rfl) hsh
      · rw [if_neg c63] at hsh
        refine e_aload_n (B := B) (x := x0) hx hb dX13_shifts_66 rfl (hl.at 0 rfl) ?_
        refine lv_iload_n hx hb dX13_shifts_67 rfl (hl.at 2 rfl) ?_
        refine lv_iload_n hx hb dX13_shifts_68 rfl (hl.at 3 rfl) ?_
        obtain ⟨⟨v69, S69⟩, h69, hsh⟩ := Option.bind_eq_some_iff.mp hsh
        have hsh : _ = _ := hsh
        try dsimp only at hsh
        have ok69 := ok13_at h69
        refine e_callI (nL := 4) (mc := 0) (ms := 0) (T := TX13) (N := 126) (As := [.int (iI (x2)), .int (iI (x3))]) (rest := []) hx hb hml hown hts hp hS hl.size ok69.1 ok69.2.1 ok69.2.2 rfl (by decide) (c13_at l D cA B S S69 (x0) (x2) (x3) v69 h69) rfl rfl kd13_at (kl13_206) ks13_at kv13_at ki13 kh13_at ⟨Nat.le_of_ble_eq_true rfl, Nat.le_of_ble_eq_true rfl⟩ rfl (by simp [e_rv_cat, e_int_cat]) ⟨Nat.le_refl _, Nat.le_refl _⟩ dX13_shifts_69 rfl (fun H locs hp hS => ?_)
        refine lv_bipush (v := iI (32)) hx hb dX13_shifts_72 (by decide +kernel) ?_
        refine e_icmp_ne (tgt := 83) hx hb dX13_shifts_74 (by decide) (fun c74 => ?_) (fun c74 => ?_)
        · rw [if_neg c74] at hsh
          exact w13_shifts_b83 (hk41 := hk41) E hp hS (hl.sub [0, 1, 2, 3] rfl) hsh
        · rw [if_pos c74] at hsh
          refine e_iinc (n := 1) (x := x3) (lv' := [(3, .int (iI ((x3 + 1)))), (0, e_rv B (x0)), (1, .int (iI (x1))), (2, .int (iI (x2)))]) hx hb dX13_shifts_77 hl (k := 3) rfl (by decide) rfl (fun ls hl => ?_)
          refine lv_goto (tgt := 51) hx hb dX13_shifts_80 (by decide) ?_
          exact hk51 hp hS (hl.sub [1, 2, 3, 0] rfl) hsh
set_option maxRecDepth 100000 in
set_option maxHeartbeats 4000000 in
theorem w13_shifts_l41 {p : Program} {l : Launch} {e : Env} {s : State} {m : MethodId} {args : Array Value} {below : List Frame} {meth : Method} {c : Code} {D : va_G} {cA : Nat → ClassId} {B : Nat} {res : Int × HP} (E : e_En p s m args meth c cX13_shifts RX13 4 (some .boolean)) : ∀ (f : Nat) {ls : Array Slot} {H : Heap} {locs : List Loc} {S : HP} {x0 : Int} {x1 : Int} {x2 : Int} (hp : e_Pic D cA B S s H) (hS : va_S (e_A B) s.heap H locs) (hl : e_lo ls 4 [(0, e_rv B (x0)), (1, .int (iI (x1))), (2, .int (iI (x2)))]) (hsh : s13_shifts_l41 f S x0 x1 x2 = some res), W p l e ({ frames := 5, cells := 0, slots := 0, locals := 120 } : Room) s m args below meth c H locs 0 0 (MQ below (e_Qi D cA B res.1 res.2) args s 0 0 (e_A B)) (F0 m 41 ls []) := by
  obtain ⟨hx, hb, hml, hown, hts, hlk, hrt⟩ := id E
  intro f
  induction f with
  | zero => intro ls H locs S x0 x1 x2 hp hS hl hsh; cases hsh
  | succ f ih =>
    intro ls H locs S x0 x1 x2 hp hS hl hsh
    have hk41 : ∀ {ls : Array Slot} {H : Heap} {locs : List Loc} {S : HP} {x0 : Int} {x1 : Int} {x2 : Int} (hp : e_Pic D cA B S s H) (hS : va_S (e_A B) s.heap H locs) (hl : e_lo ls 4 [(0, e_rv B (x0)), (1, .int (iI (x1))), (2, .int (iI (x2)))]) (hsh : (s13_shifts_l41 f) S x0 x1 x2 = some res), W p l e ({ frames := 5, cells := 0, slots := 0, locals := 120 } : Room) s m args below meth c H locs 0 0 (MQ below (e_Qi D cA B res.1 res.2) args s 0 0 (e_A B)) (F0 m 41 ls []) := ih
    generalize hkk : s13_shifts_l41 f = k41 at hk41
    rw [s13_shifts_l41] at hsh
    rw [hkk] at hsh
    try dsimp only at hsh
    refine lv_iload_n hx hb dX13_shifts_41 rfl (hl.at 2 rfl) ?_
    refine e_aload_n (B := B) (x := x0) hx hb dX13_shifts_42 rfl (hl.at 0 rfl) ?_
    obtain ⟨v43, h43, hsh⟩ := Option.bind_eq_some_iff.mp hsh
    refine e_getI (k := 38) hx hb hts in_X13 hown hp h43 rfl (by decide) (by decide) rfl (hts _ kf13_404) rfl dX13_shifts_43 ?_
    refine e_icmp_gt (tgt := 136) hx hb dX13_shifts_46 (by decide) (fun c46 => ?_) (fun c46 => ?_)
    · rw [if_pos c46] at hsh
      refine e_aload_n (B := B) (x := x0) hx hb dX13_shifts_136 rfl (hl.at 0 rfl) ?_
      refine e_aload_n (B := B) (x := x0) hx hb dX13_shifts_137 rfl (hl.at 0 rfl) ?_
      obtain ⟨v138, h138, hsh⟩ := Option.bind_eq_some_iff.mp hsh
      refine e_getI (k := 36) hx hb hts in_X13 hown hp h138 rfl (by decide) (by decide) rfl (hts _ kf13_398) rfl dX13_shifts_138 ?_
      obtain ⟨S141, h141, hsh⟩ := Option.bind_eq_some_iff.mp hsh
      have ok141 := ok13_goesTo h141
      refine e_callV (nL := 4) (mc := 0) (ms := 0) (T := TX13) (N := 126) (As := [.int (iI (v138))]) (rest := []) hx hb hml hown hts hp hS hl.size ok141.1 ok141.2.1 ok141.2.2 rfl (by decide) (c13_goesTo l D cA B S S141 (x0) (v138) h141) rfl rfl kd13_goesTo (kl13_507) ks13_goesTo kv13_goesTo ki13 kh13_goesTo ⟨Nat.le_of_ble_eq_true rfl, Nat.le_of_ble_eq_true rfl⟩ rfl (by simp [e_rv_cat, e_int_cat]) ⟨Nat.le_refl _, Nat.le_refl _⟩ dX13_shifts_141 rfl (fun H locs hp hS => ?_)
      refine lv_iconst (v := iI (1)) hx hb dX13_shifts_144 rfl ?_
      obtain ⟨hz, hz1, hz2⟩ := zR_some hsh
      rw [← hz1, ← hz2]
      exact e_zret hx hb hrt hlk hp hS hz dX13_shifts_145
    · rw [if_neg c46] at hsh
      refine lv_iconst (v := iI (0)) hx hb dX13_shifts_49 rfl ?_
      refine e_istore_n (lv' := [(3, .int (iI (0))), (0, e_rv B (x0)), (1, .int (iI (x1))), (2, .int (iI (x2)))]) hx hb dX13_shifts_50 rfl hl (by decide) rfl (fun ls hl => ?_)
      exact w13_shifts_l51 (hk41 := hk41) E 1000000 hp hS (hl.sub [1, 2, 3, 0] rfl) hsh
set_option maxRecDepth 100000 in
set_option maxHeartbeats 4000000 in
theorem w13_shifts_b30 {p : Program} {l : Launch} {e : Env} {s : State} {m : MethodId} {args : Array Value} {below : List Frame} {meth : Method} {c : Code} {D : va_G} {cA : Nat → ClassId} {B : Nat} {res : Int × HP} {k5 : HP → Int → Int → Int → Option (Int × HP)} (hk5 : ∀ {ls : Array Slot} {H : Heap} {locs : List Loc} {S : HP} {x0 : Int} {x1 : Int} {x2 : Int} (hp : e_Pic D cA B S s H) (hS : va_S (e_A B) s.heap H locs) (hl : e_lo ls 4 [(0, e_rv B (x0)), (1, .int (iI (x1))), (2, .int (iI (x2)))]) (hsh : k5 S x0 x1 x2 = some res), W p l e ({ frames := 5, cells := 0, slots := 0, locals := 120 } : Room) s m args below meth c H locs 0 0 (MQ below (e_Qi D cA B res.1 res.2) args s 0 0 (e_A B)) (F0 m 5 ls [])) (E : e_En p s m args meth c cX13_shifts RX13 4 (some .boolean)) {ls : Array Slot} {H : Heap} {locs : List Loc} {S : HP} {x0 : Int} {x1 : Int} {x2 : Int} (hp : e_Pic D cA B S s H) (hS : va_S (e_A B) s.heap H locs) (hl : e_lo ls 4 [(0, e_rv B (x0)), (1, .int (iI (x1))), (2, .int (iI (x2)))]) (hsh : s13_shifts_b30 k5 S x0 x1 x2 = some res) : W p l e ({ frames := 5, cells := 0, slots := 0, locals := 120 } : Room) s m args below meth c H locs 0 0 (MQ below (e_Qi D cA B res.1 res.2) args s 0 0 (e_A B)) (F0 m 30 ls []) := by
  obtain ⟨hx, hb, hml, hown, hts, hlk, hrt⟩ := id E
  unfold s13_shifts_b30 at hsh
  refine e_iinc (n := 1) (x := x2) (lv' := [(2, .int (iI ((x2 + 1)))), (0, e_rv B (x0)), (1, .int (iI (x1)))]) hx hb dX13_shifts_30 hl (k := 2) rfl (by decide) rfl (fun ls hl => ?_)
  refine lv_goto (tgt := 5) hx hb dX13_shifts_33 (by decide) ?_
  exact hk5 hp hS (hl.sub [1, 2, 0] rfl) hsh
set_option maxRecDepth 100000 in
set_option maxHeartbeats 4000000 in
theorem w13_shifts_l5 {p : Program} {l : Launch} {e : Env} {s : State} {m : MethodId} {args : Array Value} {below : List Frame} {meth : Method} {c : Code} {D : va_G} {cA : Nat → ClassId} {B : Nat} {res : Int × HP} (E : e_En p s m args meth c cX13_shifts RX13 4 (some .boolean)) : ∀ (f : Nat) {ls : Array Slot} {H : Heap} {locs : List Loc} {S : HP} {x0 : Int} {x1 : Int} {x2 : Int} (hp : e_Pic D cA B S s H) (hS : va_S (e_A B) s.heap H locs) (hl : e_lo ls 4 [(0, e_rv B (x0)), (1, .int (iI (x1))), (2, .int (iI (x2)))]) (hsh : s13_shifts_l5 f S x0 x1 x2 = some res), W p l e ({ frames := 5, cells := 0, slots := 0, locals := 120 } : Room) s m args below meth c H locs 0 0 (MQ below (e_Qi D cA B res.1 res.2) args s 0 0 (e_A B)) (F0 m 5 ls []) := by
  obtain ⟨hx, hb, hml, hown, hts, hlk, hrt⟩ := id E
  intro f
  induction f with
  | zero => intro ls H locs S x0 x1 x2 hp hS hl hsh; cases hsh
  | succ f ih =>
    intro ls H locs S x0 x1 x2 hp hS hl hsh
    have hk5 : ∀ {ls : Array Slot} {H : Heap} {locs : List Loc} {S : HP} {x0 : Int} {x1 : Int} {x2 : Int} (hp : e_Pic D cA B S s H) (hS : va_S (e_A B) s.heap H locs) (hl : e_lo ls 4 [(0, e_rv B (x0)), (1, .int (iI (x1))), (2, .int (iI (x2)))]) (hsh : (s13_shifts_l5 f) S x0 x1 x2 = some res), W p l e ({ frames := 5, cells := 0, slots := 0, locals := 120 } : Room) s m args below meth c H locs 0 0 (MQ below (e_Qi D cA B res.1 res.2) args s 0 0 (e_A B)) (F0 m 5 ls []) := ih
    generalize hkk : s13_shifts_l5 f = k5 at hk5
    rw [s13_shifts_l5] at hsh
    rw [hkk] at hsh
    try dsimp only at hsh
    refine lv_iload_n hx hb dX13_shifts_5 rfl (hl.at 2 rfl) ?_
    refine e_aload_n (B := B) (x := x0) hx hb dX13_shifts_6 rfl (hl.at 0 rfl) ?_
    obtain ⟨v7, h7, hsh⟩ := Option.bind_eq_some_iff.mp hsh
    refine e_getI (k := 38) hx hb hts in_X13 hown hp h7 rfl (by decide) (by decide) rfl (hts _ kf13_404) rfl dX13_shifts_7 ?_
    refine e_icmp_gt (tgt := 36) hx hb dX13_shifts_10 (by decide) (fun c10 => ?_) (fun c10 => ?_)
    · rw [if_pos c10] at hsh
      refine e_aload_n (B := B) (x := x0) hx hb dX13_shifts_36 rfl (hl.at 0 rfl) ?_
      obtain ⟨v37, h37, hsh⟩ := Option.bind_eq_some_iff.mp hsh
      refine e_getI (k := 36) hx hb hts in_X13 hown hp h37 rfl (by decide) (by decide) rfl (hts _ kf13_398) rfl dX13_shifts_37 ?_
      refine e_istore_n (lv' := [(2, .int (iI (v37))), (0, e_rv B (x0)), (1, .int (iI (x1)))]) hx hb dX13_shifts_40 rfl hl (by decide) rfl (fun ls hl => ?_)
      exact w13_shifts_l41 E 1000000 hp hS (hl.sub [1, 2, 0] rfl) hsh
    · rw [if_neg c10] at hsh
      refine lv_iload_n hx hb dX13_shifts_13 rfl (hl.at 1 rfl) ?_
      refine e_if_eq (tgt := 30) hx hb dX13_shifts_14 (by decide) (fun c14 => ?_) (fun c14 => ?_)
      · rw [if_pos c14] at hsh
        exact w13_shifts_b30 (hk5 := hk5) E hp hS (hl.sub [0, 1, 2] rfl) hsh
      · rw [if_neg c14] at hsh
        refine e_aload_n (B := B) (x := x0) hx hb dX13_shifts_17 rfl (hl.at 0 rfl) ?_
        obtain ⟨v18, h18, hsh⟩ := Option.bind_eq_some_iff.mp hsh
        refine e_getR (k := 3) hx hb hts in_X13 hown hp h18 rfl (by decide) (by decide) rfl (hts _ kf13_17) rfl dX13_shifts_18 ?_
        refine lv_iload_n hx hb dX13_shifts_21 rfl (hl.at 2 rfl) ?_
        obtain ⟨v22, h22, hsh⟩ := Option.bind_eq_some_iff.mp hsh
        refine e_iald hx hb hp h22 dX13_shifts_22 ?_
        refine lv_bipush (v := iI (58)) hx hb dX13_shifts_23 (by decide +kernel) ?_
        refine e_icmp_le (tgt := 30) hx hb dX13_shifts_25 (by decide) (fun c25 => ?_) (fun c25 => ?_)
        · rw [if_pos c25] at hsh
          exact w13_shifts_b30 (hk5 := hk5) E hp hS (hl.sub [0, 1, 2] rfl) hsh
        · rw [if_neg c25] at hsh
          refine lv_iconst (v := iI (0)) hx hb dX13_shifts_28 rfl ?_
          obtain ⟨hz, hz1, hz2⟩ := zR_some hsh
          rw [← hz1, ← hz2]
          exact e_zret hx hb hrt hlk hp hS hz dX13_shifts_29
set_option maxRecDepth 100000 in
set_option maxHeartbeats 4000000 in
theorem c13_shifts (l : Launch) (D : va_G) (cA : Nat → ClassId) (B : Nat) (S S' : HP) (x0 : Int) (x1 : Int) (r : Int) (hsh : s13_shifts S x0 x1 = some (r, S')) : Met l yX13_shifts (e_wu yX13_shifts cX13_shifts 4 (some .boolean)) ({ frames := 5, cells := 0, slots := 0, locals := 120 } : Room) (va_Pc [e_rv B (x0), .int (iI (x1))] (fun U => e_PU D cA B S U)) (e_Qi D cA B r S') 0 0 (e_A B) := by
  refine Met.ofW (cc := cX13_shifts) (maxL := 4) (ret := (some .boolean)) (by decide +kernel) rfl ?_
  intro p e s m args below meth c s₁ Bd hml hv
  obtain ⟨rfl, hp⟩ := hv
  have hp : e_Pic D cA B S s s.heap := hp
  have hx := Bd.exec
  have hb := Bd.bytes
  have hrt := Bd.returns
  have hlk := Bd.notSynchronized
  have hown : s.vm.findClass RX13 = some m.cls := findClass_of_methodNamed Bd.named
  have hts : ∀ w ∈ e_tb, w.before ([e_rv B (x0), .int (iI (x1))] : List Value).toArray s = true := fun w h => atoms_spec (ws := (e_wu yX13_shifts cX13_shifts 4 (some .boolean))) Bd.pre w (List.mem_cons_of_mem _ h)
  have E : e_En p s m ([e_rv B (x0), .int (iI (x1))] : List Value).toArray meth c cX13_shifts RX13 4 (some .boolean) := ⟨hx, hb, hml, hown, hts, hlk, hrt⟩
  have hS : va_S (e_A B) s.heap s.heap [] := va_S.rf
  have hl := e_entry (vs := [e_rv B (x0), .int (iI (x1))]) (n := 4) (Nat.le_of_ble_eq_true rfl) (e_cc (e_rv_cat _ _) (e_cc rfl e_cn))
  rw [lg_entry_eq]
  generalize (lg_sl [e_rv B (x0), .int (iI (x1))] ++ List.replicate (4 - (lg_sl [e_rv B (x0), .int (iI (x1))]).length) Slot.unset).toArray = ls at hl ⊢
  generalize ([e_rv B (x0), .int (iI (x1))] : List Value).toArray = args at hts E ⊢
  have hl : e_lo ls 4 [(0, e_rv B (x0)), (1, .int (iI (x1)))] := hl
  have hsh := (gd_some hsh).2
  refine e_aload_n (B := B) (x := x0) hx hb dX13_shifts_0 rfl (hl.at 0 rfl) ?_
  obtain ⟨v1, h1, hsh⟩ := Option.bind_eq_some_iff.mp hsh
  refine e_getI (k := 36) hx hb hts in_X13 hown hp h1 rfl (by decide) (by decide) rfl (hts _ kf13_398) rfl dX13_shifts_1 ?_
  refine e_istore_n (lv' := [(2, .int (iI (v1))), (0, e_rv B (x0)), (1, .int (iI (x1)))]) hx hb dX13_shifts_4 rfl hl (by decide) rfl (fun ls hl => ?_)
  exact w13_shifts_l5 E 1000000 hp hS (hl.sub [1, 2, 0] rfl) hsh
theorem ok13_operates {S : HP} {x0 : Int} {x1 : Int} {x2 : Int} {r : Int × HP} (h : s13_operates S x0 x1 x2 = some r) : 0 ≤ x0 ∧ x0.toNat < e_n S ∧ e_g S x0.toNat = 13 := (gd_some h).1
set_option maxRecDepth 100000 in
set_option maxHeartbeats 4000000 in
theorem w13_operates_b95 {p : Program} {l : Launch} {e : Env} {s : State} {m : MethodId} {args : Array Value} {below : List Frame} {meth : Method} {c : Code} {D : va_G} {cA : Nat → ClassId} {B : Nat} {res : Int × HP} (E : e_En p s m args meth c cX13_operates RX13 3 (some .boolean)) {ls : Array Slot} {H : Heap} {locs : List Loc} {S : HP} {y0 : Int} {y1 : Int} (hp : e_Pic D cA B S s H) (hS : va_S (e_A B) s.heap H locs) (hl : e_lo ls 3 []) (hsh : s13_operates_b95 S y0 y1 = some res) : W p l e ({ frames := 7, cells := 0, slots := 0, locals := 164 } : Room) s m args below meth c H locs 0 0 (MQ below (e_Qi D cA B res.1 res.2) args s 0 0 (e_A B)) (F0 m 95 ls [.int (iI (y1)), e_rv B (y0)]) := by
  obtain ⟨hx, hb, hml, hown, hts, hlk, hrt⟩ := id E
  unfold s13_operates_b95 at hsh
  obtain ⟨⟨v95, S95⟩, h95, hsh⟩ := Option.bind_eq_some_iff.mp hsh
  have hsh : _ = _ := hsh
  try dsimp only at hsh
  have ok95 := ok13_shifts h95
  refine e_callI (nL := 3) (mc := 0) (ms := 0) (T := TX13) (N := 126) (As := [.int (iI (y1))]) (rest := []) hx hb hml hown hts hp hS hl.size ok95.1 ok95.2.1 ok95.2.2 rfl (by decide) (c13_shifts l D cA B S S95 (y0) (y1) v95 h95) rfl rfl kd13_shifts (kl13_532) ks13_shifts kv13_shifts ki13 kh13_shifts ⟨Nat.le_of_ble_eq_true rfl, Nat.le_of_ble_eq_true rfl⟩ rfl (by simp [e_rv_cat, e_int_cat]) ⟨Nat.le_refl _, Nat.le_refl _⟩ dX13_operates_95 rfl (fun H locs hp hS => ?_)
  obtain ⟨hz, hz1, hz2⟩ := zR_some hsh
  rw [← hz1, ← hz2]
  exact e_zret hx hb hrt hlk hp hS hz dX13_operates_98
set_option maxRecDepth 100000 in
set_option maxHeartbeats 4000000 in
theorem w13_operates_b73 {p : Program} {l : Launch} {e : Env} {s : State} {m : MethodId} {args : Array Value} {below : List Frame} {meth : Method} {c : Code} {D : va_G} {cA : Nat → ClassId} {B : Nat} {res : Int × HP} (E : e_En p s m args meth c cX13_operates RX13 3 (some .boolean)) {ls : Array Slot} {H : Heap} {locs : List Loc} {S : HP} {y0 : Int} {y1 : Int} {y2 : Int} (hp : e_Pic D cA B S s H) (hS : va_S (e_A B) s.heap H locs) (hl : e_lo ls 3 []) (hsh : s13_operates_b73 S y0 y1 y2 = some res) : W p l e ({ frames := 7, cells := 0, slots := 0, locals := 164 } : Room) s m args below meth c H locs 0 0 (MQ below (e_Qi D cA B res.1 res.2) args s 0 0 (e_A B)) (F0 m 73 ls [.int (iI (y2)), .int (iI (y1)), e_rv B (y0)]) := by
  obtain ⟨hx, hb, hml, hown, hts, hlk, hrt⟩ := id E
  unfold s13_operates_b73 at hsh
  obtain ⟨⟨v73, S73⟩, h73, hsh⟩ := Option.bind_eq_some_iff.mp hsh
  have hsh : _ = _ := hsh
  try dsimp only at hsh
  have ok73 := ok13_deletes h73
  refine e_callI (nL := 3) (mc := 0) (ms := 0) (T := TX13) (N := 126) (As := [.int (iI (y1)), .int (iI (y2))]) (rest := []) hx hb hml hown hts hp hS hl.size ok73.1 ok73.2.1 ok73.2.2 rfl (by decide) (c13_deletes l D cA B S S73 (y0) (y1) (y2) v73 h73) rfl rfl kd13_deletes (kl13_526) ks13_deletes kv13_deletes ki13 kh13_deletes ⟨Nat.le_of_ble_eq_true rfl, Nat.le_of_ble_eq_true rfl⟩ rfl (by simp [e_rv_cat, e_int_cat]) ⟨Nat.le_refl _, Nat.le_refl _⟩ dX13_operates_73 rfl (fun H locs hp hS => ?_)
  obtain ⟨hz, hz1, hz2⟩ := zR_some hsh
  rw [← hz1, ← hz2]
  exact e_zret hx hb hrt hlk hp hS hz dX13_operates_76
set_option maxRecDepth 100000 in
set_option maxHeartbeats 4000000 in
theorem c13_operates (l : Launch) (D : va_G) (cA : Nat → ClassId) (B : Nat) (S S' : HP) (x0 : Int) (x1 : Int) (x2 : Int) (r : Int) (hsh : s13_operates S x0 x1 x2 = some (r, S')) : Met l yX13_operates (e_wu yX13_operates cX13_operates 3 (some .boolean)) ({ frames := 7, cells := 0, slots := 0, locals := 164 } : Room) (va_Pc [e_rv B (x0), .int (iI (x1)), .int (iI (x2))] (fun U => e_PU D cA B S U)) (e_Qi D cA B r S') 0 0 (e_A B) := by
  refine Met.ofW (cc := cX13_operates) (maxL := 3) (ret := (some .boolean)) (by decide +kernel) rfl ?_
  intro p e s m args below meth c s₁ Bd hml hv
  obtain ⟨rfl, hp⟩ := hv
  have hp : e_Pic D cA B S s s.heap := hp
  have hx := Bd.exec
  have hb := Bd.bytes
  have hrt := Bd.returns
  have hlk := Bd.notSynchronized
  have hown : s.vm.findClass RX13 = some m.cls := findClass_of_methodNamed Bd.named
  have hts : ∀ w ∈ e_tb, w.before ([e_rv B (x0), .int (iI (x1)), .int (iI (x2))] : List Value).toArray s = true := fun w h => atoms_spec (ws := (e_wu yX13_operates cX13_operates 3 (some .boolean))) Bd.pre w (List.mem_cons_of_mem _ h)
  have E : e_En p s m ([e_rv B (x0), .int (iI (x1)), .int (iI (x2))] : List Value).toArray meth c cX13_operates RX13 3 (some .boolean) := ⟨hx, hb, hml, hown, hts, hlk, hrt⟩
  have hS : va_S (e_A B) s.heap s.heap [] := va_S.rf
  have hl := e_entry (vs := [e_rv B (x0), .int (iI (x1)), .int (iI (x2))]) (n := 3) (Nat.le_of_ble_eq_true rfl) (e_cc (e_rv_cat _ _) (e_cc rfl (e_cc rfl e_cn)))
  rw [lg_entry_eq]
  generalize (lg_sl [e_rv B (x0), .int (iI (x1)), .int (iI (x2))] ++ List.replicate (3 - (lg_sl [e_rv B (x0), .int (iI (x1)), .int (iI (x2))]).length) Slot.unset).toArray = ls at hl ⊢
  generalize ([e_rv B (x0), .int (iI (x1)), .int (iI (x2))] : List Value).toArray = args at hts E ⊢
  have hl : e_lo ls 3 [(0, e_rv B (x0)), (1, .int (iI (x1))), (2, .int (iI (x2)))] := hl
  have hsh := (gd_some hsh).2
  refine lv_iload_n hx hb dX13_operates_0 rfl (hl.at 1 rfl) ?_
  by_cases c1_0 : iW (x1) = 60
  · rw [if_pos c1_0] at hsh
    refine lv_lookup (off := 82) (tgt := 83) hx hb dX13_operates_1 (by decide +kernel) (e_off_h c1_0.symm) (by decide) ?_
    refine e_aload_n (B := B) (x := x0) hx hb dX13_operates_83 rfl (hl.at 0 rfl) ?_
    refine lv_iload_n hx hb dX13_operates_84 rfl (hl.at 1 rfl) ?_
    refine lv_bipush (v := iI (62)) hx hb dX13_operates_85 (by decide +kernel) ?_
    refine e_icmp_ne (tgt := 94) hx hb dX13_operates_87 (by decide) (fun c87 => ?_) (fun c87 => ?_)
    · rw [if_neg c87] at hsh
      refine lv_iconst (v := iI (0)) hx hb dX13_operates_94 rfl ?_
      exact w13_operates_b95 E hp hS (hl.sub [] rfl) hsh
    · rw [if_pos c87] at hsh
      refine lv_iconst (v := iI (1)) hx hb dX13_operates_90 rfl ?_
      refine lv_goto (tgt := 95) hx hb dX13_operates_91 (by decide) ?_
      exact w13_operates_b95 E hp hS (hl.sub [] rfl) hsh
  · rw [if_neg c1_0] at hsh
    by_cases c1_1 : iW (x1) = 62
    · rw [if_pos c1_1] at hsh
      refine lv_lookup (off := 82) (tgt := 83) hx hb dX13_operates_1 (by decide +kernel) (e_off_s (fun q => c1_0 q.symm) (e_off_h c1_1.symm)) (by decide) ?_
      refine e_aload_n (B := B) (x := x0) hx hb dX13_operates_83 rfl (hl.at 0 rfl) ?_
      refine lv_iload_n hx hb dX13_operates_84 rfl (hl.at 1 rfl) ?_
      refine lv_bipush (v := iI (62)) hx hb dX13_operates_85 (by decide +kernel) ?_
      refine e_icmp_ne (tgt := 94) hx hb dX13_operates_87 (by decide) (fun c87 => ?_) (fun c87 => ?_)
      · rw [if_neg c87] at hsh
        refine lv_iconst (v := iI (0)) hx hb dX13_operates_94 rfl ?_
        exact w13_operates_b95 E hp hS (hl.sub [] rfl) hsh
      · rw [if_pos c87] at hsh
        refine lv_iconst (v := iI (1)) hx hb dX13_operates_90 rfl ?_
        refine lv_goto (tgt := 95) hx hb dX13_operates_91 (by decide) ?_
        exact w13_operates_b95 E hp hS (hl.sub [] rfl) hsh
    · rw [if_neg c1_1] at hsh
      by_cases c1_2 : iW (x1) = 99
      · rw [if_pos c1_2] at hsh
        refine lv_lookup (off := 59) (tgt := 60) hx hb dX13_operates_1 (by decide +kernel) (e_off_s (fun q => c1_0 q.symm) (e_off_s (fun q => c1_1 q.symm) (e_off_h c1_2.symm))) (by decide) ?_
        refine e_aload_n (B := B) (x := x0) hx hb dX13_operates_60 rfl (hl.at 0 rfl) ?_
        refine lv_iload_n hx hb dX13_operates_61 rfl (hl.at 2 rfl) ?_
        refine lv_iload_n hx hb dX13_operates_62 rfl (hl.at 1 rfl) ?_
        refine lv_bipush (v := iI (99)) hx hb dX13_operates_63 (by decide +kernel) ?_
        refine e_icmp_ne (tgt := 72) hx hb dX13_operates_65 (by decide) (fun c65 => ?_) (fun c65 => ?_)
        · rw [if_neg c65] at hsh
          refine lv_iconst (v := iI (0)) hx hb dX13_operates_72 rfl ?_
          exact w13_operates_b73 E hp hS (hl.sub [] rfl) hsh
        · rw [if_pos c65] at hsh
          refine lv_iconst (v := iI (1)) hx hb dX13_operates_68 rfl ?_
          refine lv_goto (tgt := 73) hx hb dX13_operates_69 (by decide) ?_
          exact w13_operates_b73 E hp hS (hl.sub [] rfl) hsh
      · rw [if_neg c1_2] at hsh
        by_cases c1_3 : iW (x1) = 100
        · rw [if_pos c1_3] at hsh
          refine lv_lookup (off := 59) (tgt := 60) hx hb dX13_operates_1 (by decide +kernel) (e_off_s (fun q => c1_0 q.symm) (e_off_s (fun q => c1_1 q.symm) (e_off_s (fun q => c1_2 q.symm) (e_off_h c1_3.symm)))) (by decide) ?_
          refine e_aload_n (B := B) (x := x0) hx hb dX13_operates_60 rfl (hl.at 0 rfl) ?_
          refine lv_iload_n hx hb dX13_operates_61 rfl (hl.at 2 rfl) ?_
          refine lv_iload_n hx hb dX13_operates_62 rfl (hl.at 1 rfl) ?_
          refine lv_bipush (v := iI (99)) hx hb dX13_operates_63 (by decide +kernel) ?_
          refine e_icmp_ne (tgt := 72) hx hb dX13_operates_65 (by decide) (fun c65 => ?_) (fun c65 => ?_)
          · rw [if_neg c65] at hsh
            refine lv_iconst (v := iI (0)) hx hb dX13_operates_72 rfl ?_
            exact w13_operates_b73 E hp hS (hl.sub [] rfl) hsh
          · rw [if_pos c65] at hsh
            refine lv_iconst (v := iI (1)) hx hb dX13_operates_68 rfl ?_
            refine lv_goto (tgt := 73) hx hb dX13_operates_69 (by decide) ?_
            exact w13_operates_b73 E hp hS (hl.sub [] rfl) hsh
        · rw [if_neg c1_3] at hsh
          by_cases c1_4 : iW (x1) = 121
          · rw [if_pos c1_4] at hsh
            refine lv_lookup (off := 76) (tgt := 77) hx hb dX13_operates_1 (by decide +kernel) (e_off_s (fun q => c1_0 q.symm) (e_off_s (fun q => c1_1 q.symm) (e_off_s (fun q => c1_2 q.symm) (e_off_s (fun q => c1_3 q.symm) (e_off_h c1_4.symm))))) (by decide) ?_
            refine e_aload_n (B := B) (x := x0) hx hb dX13_operates_77 rfl (hl.at 0 rfl) ?_
            refine lv_iload_n hx hb dX13_operates_78 rfl (hl.at 2 rfl) ?_
            obtain ⟨⟨v79, S79⟩, h79, hsh⟩ := Option.bind_eq_some_iff.mp hsh
            have hsh : _ = _ := hsh
            try dsimp only at hsh
            have ok79 := ok13_yanks h79
            refine e_callI (nL := 3) (mc := 0) (ms := 0) (T := TX13) (N := 126) (As := [.int (iI (x2))]) (rest := []) hx hb hml hown hts hp hS hl.size ok79.1 ok79.2.1 ok79.2.2 rfl (by decide) (c13_yanks l D cA B S S79 (x0) (x2) v79 h79) rfl rfl kd13_yanks (kl13_529) ks13_yanks kv13_yanks ki13 kh13_yanks ⟨Nat.le_of_ble_eq_true rfl, Nat.le_of_ble_eq_true rfl⟩ rfl (by simp [e_rv_cat, e_int_cat]) ⟨Nat.le_refl _, Nat.le_refl _⟩ dX13_operates_79 rfl (fun H locs hp hS => ?_)
            obtain ⟨hz, hz1, hz2⟩ := zR_some hsh
            rw [← hz1, ← hz2]
            exact e_zret hx hb hrt hlk hp hS hz dX13_operates_82
          · rw [if_neg c1_4] at hsh
            by_cases c1_5 : iW (x1) = 382
            · rw [if_pos c1_5] at hsh
              refine lv_lookup (off := 98) (tgt := 99) hx hb dX13_operates_1 (by decide +kernel) (e_off_s (fun q => c1_0 q.symm) (e_off_s (fun q => c1_1 q.symm) (e_off_s (fun q => c1_2 q.symm) (e_off_s (fun q => c1_3 q.symm) (e_off_s (fun q => c1_4 q.symm) (e_off_h c1_5.symm)))))) (by decide) ?_
              refine e_aload_n (B := B) (x := x0) hx hb dX13_operates_99 rfl (hl.at 0 rfl) ?_
              obtain ⟨⟨v100, S100⟩, h100, hsh⟩ := Option.bind_eq_some_iff.mp hsh
              have hsh : _ = _ := hsh
              try dsimp only at hsh
              have ok100 := ok13_turnsSpan h100
              refine e_callI (nL := 3) (mc := 0) (ms := 0) (T := TX13) (N := 126) (As := []) (rest := []) hx hb hml hown hts hp hS hl.size ok100.1 ok100.2.1 ok100.2.2 rfl (by decide) (c13_turnsSpan l D cA B S S100 (x0) v100 h100) rfl rfl kd13_turnsSpan (kl13_535) ks13_turnsSpan kv13_turnsSpan ki13 kh13_turnsSpan ⟨Nat.le_of_ble_eq_true rfl, Nat.le_of_ble_eq_true rfl⟩ rfl (by simp [e_rv_cat, e_int_cat]) ⟨Nat.le_refl _, Nat.le_refl _⟩ dX13_operates_100 rfl (fun H locs hp hS => ?_)
              obtain ⟨hz, hz1, hz2⟩ := zR_some hsh
              rw [← hz1, ← hz2]
              exact e_zret hx hb hrt hlk hp hS hz dX13_operates_103
            · rw [if_neg c1_5] at hsh
              refine lv_lookup (off := 103) (tgt := 104) hx hb dX13_operates_1 (by decide +kernel) (e_off_s (fun q => c1_0 q.symm) (e_off_s (fun q => c1_1 q.symm) (e_off_s (fun q => c1_2 q.symm) (e_off_s (fun q => c1_3 q.symm) (e_off_s (fun q => c1_4 q.symm) (e_off_s (fun q => c1_5 q.symm) rfl)))))) (by decide) ?_
              refine e_aload_n (B := B) (x := x0) hx hb dX13_operates_104 rfl (hl.at 0 rfl) ?_
              obtain ⟨⟨v105, S105⟩, h105, hsh⟩ := Option.bind_eq_some_iff.mp hsh
              have hsh : _ = _ := hsh
              try dsimp only at hsh
              have ok105 := ok13_makesFold h105
              refine e_callI (nL := 3) (mc := 0) (ms := 0) (T := TX13) (N := 126) (As := []) (rest := []) hx hb hml hown hts hp hS hl.size ok105.1 ok105.2.1 ok105.2.2 rfl (by decide) (c13_makesFold l D cA B S S105 (x0) v105 h105) rfl rfl kd13_makesFold (kl13_538) ks13_makesFold kv13_makesFold ki13 kh13_makesFold ⟨Nat.le_of_ble_eq_true rfl, Nat.le_of_ble_eq_true rfl⟩ rfl (by simp [e_rv_cat, e_int_cat]) ⟨Nat.le_refl _, Nat.le_refl _⟩ dX13_operates_105 rfl (fun H locs hp hS => ?_)
              obtain ⟨hz, hz1, hz2⟩ := zR_some hsh
              rw [← hz1, ← hz2]
              exact e_zret hx hb hrt hlk hp hS hz dX13_operates_108
theorem ok13_operatesMotion {S : HP} {x0 : Int} {x1 : Int} {x2 : Int} {x3 : Int} {x4 : Int} {x5 : Int} {x6 : Int} {r : Int × HP} (h : s13_operatesMotion S x0 x1 x2 x3 x4 x5 x6 = some r) : 0 ≤ x0 ∧ x0.toNat < e_n S ∧ e_g S x0.toNat = 13 := (gd_some h).1
set_option maxRecDepth 100000 in
set_option maxHeartbeats 4000000 in
theorem w13_operatesMotion_b37 {p : Program} {l : Launch} {e : Env} {s : State} {m : MethodId} {args : Array Value} {below : List Frame} {meth : Method} {c : Code} {D : va_G} {cA : Nat → ClassId} {B : Nat} {res : Int × HP} (E : e_En p s m args meth c cX13_operatesMotion RX13 7 (some .boolean)) {ls : Array Slot} {H : Heap} {locs : List Loc} {S : HP} {y0 : Int} (hp : e_Pic D cA B S s H) (hS : va_S (e_A B) s.heap H locs) (hl : e_lo ls 7 []) (hsh : s13_operatesMotion_b37 S y0 = some res) : W p l e ({ frames := 8, cells := 0, slots := 0, locals := 186 } : Room) s m args below meth c H locs 0 0 (MQ below (e_Qi D cA B res.1 res.2) args s 0 0 (e_A B)) (F0 m 37 ls [.int (iI (y0))]) := by
  obtain ⟨hx, hb, hml, hown, hts, hlk, hrt⟩ := id E
  unfold s13_operatesMotion_b37 at hsh
  obtain ⟨hz, hz1, hz2⟩ := zR_some hsh
  rw [← hz1, ← hz2]
  exact e_zret hx hb hrt hlk hp hS hz dX13_operatesMotion_37
set_option maxRecDepth 100000 in
set_option maxHeartbeats 4000000 in
theorem w13_operatesMotion_b36 {p : Program} {l : Launch} {e : Env} {s : State} {m : MethodId} {args : Array Value} {below : List Frame} {meth : Method} {c : Code} {D : va_G} {cA : Nat → ClassId} {B : Nat} {res : Int × HP} (E : e_En p s m args meth c cX13_operatesMotion RX13 7 (some .boolean)) {ls : Array Slot} {H : Heap} {locs : List Loc} {S : HP} (hp : e_Pic D cA B S s H) (hS : va_S (e_A B) s.heap H locs) (hl : e_lo ls 7 []) (hsh : s13_operatesMotion_b36 S  = some res) : W p l e ({ frames := 8, cells := 0, slots := 0, locals := 186 } : Room) s m args below meth c H locs 0 0 (MQ below (e_Qi D cA B res.1 res.2) args s 0 0 (e_A B)) (F0 m 36 ls []) := by
  obtain ⟨hx, hb, hml, hown, hts, hlk, hrt⟩ := id E
  unfold s13_operatesMotion_b36 at hsh
  refine lv_iconst (v := iI (0)) hx hb dX13_operatesMotion_36 rfl ?_
  exact w13_operatesMotion_b37 E hp hS (hl.sub [] rfl) hsh
set_option maxRecDepth 100000 in
set_option maxHeartbeats 4000000 in
theorem c13_operatesMotion (l : Launch) (D : va_G) (cA : Nat → ClassId) (B : Nat) (S S' : HP) (x0 : Int) (x1 : Int) (x2 : Int) (x3 : Int) (x4 : Int) (x5 : Int) (x6 : Int) (r : Int) (hsh : s13_operatesMotion S x0 x1 x2 x3 x4 x5 x6 = some (r, S')) : Met l yX13_operatesMotion (e_wu yX13_operatesMotion cX13_operatesMotion 7 (some .boolean)) ({ frames := 8, cells := 0, slots := 0, locals := 186 } : Room) (va_Pc [e_rv B (x0), .int (iI (x1)), .int (iI (x2)), .int (iI (x3)), .int (iI (x4)), .int (iI (x5)), .int (iI (x6))] (fun U => e_PU D cA B S U)) (e_Qi D cA B r S') 0 0 (e_A B) := by
  refine Met.ofW (cc := cX13_operatesMotion) (maxL := 7) (ret := (some .boolean)) (by decide +kernel) rfl ?_
  intro p e s m args below meth c s₁ Bd hml hv
  obtain ⟨rfl, hp⟩ := hv
  have hp : e_Pic D cA B S s s.heap := hp
  have hx := Bd.exec
  have hb := Bd.bytes
  have hrt := Bd.returns
  have hlk := Bd.notSynchronized
  have hown : s.vm.findClass RX13 = some m.cls := findClass_of_methodNamed Bd.named
  have hts : ∀ w ∈ e_tb, w.before ([e_rv B (x0), .int (iI (x1)), .int (iI (x2)), .int (iI (x3)), .int (iI (x4)), .int (iI (x5)), .int (iI (x6))] : List Value).toArray s = true := fun w h => atoms_spec (ws := (e_wu yX13_operatesMotion cX13_operatesMotion 7 (some .boolean))) Bd.pre w (List.mem_cons_of_mem _ h)
  have E : e_En p s m ([e_rv B (x0), .int (iI (x1)), .int (iI (x2)), .int (iI (x3)), .int (iI (x4)), .int (iI (x5)), .int (iI (x6))] : List Value).toArray meth c cX13_operatesMotion RX13 7 (some .boolean) := ⟨hx, hb, hml, hown, hts, hlk, hrt⟩
  have hS : va_S (e_A B) s.heap s.heap [] := va_S.rf
  have hl := e_entry (vs := [e_rv B (x0), .int (iI (x1)), .int (iI (x2)), .int (iI (x3)), .int (iI (x4)), .int (iI (x5)), .int (iI (x6))]) (n := 7) (Nat.le_of_ble_eq_true rfl) (e_cc (e_rv_cat _ _) (e_cc rfl (e_cc rfl (e_cc rfl (e_cc rfl (e_cc rfl (e_cc rfl e_cn)))))))
  rw [lg_entry_eq]
  generalize (lg_sl [e_rv B (x0), .int (iI (x1)), .int (iI (x2)), .int (iI (x3)), .int (iI (x4)), .int (iI (x5)), .int (iI (x6))] ++ List.replicate (7 - (lg_sl [e_rv B (x0), .int (iI (x1)), .int (iI (x2)), .int (iI (x3)), .int (iI (x4)), .int (iI (x5)), .int (iI (x6))]).length) Slot.unset).toArray = ls at hl ⊢
  generalize ([e_rv B (x0), .int (iI (x1)), .int (iI (x2)), .int (iI (x3)), .int (iI (x4)), .int (iI (x5)), .int (iI (x6))] : List Value).toArray = args at hts E ⊢
  have hl : e_lo ls 7 [(0, e_rv B (x0)), (1, .int (iI (x1))), (2, .int (iI (x2))), (3, .int (iI (x3))), (4, .int (iI (x4))), (5, .int (iI (x5))), (6, .int (iI (x6)))] := hl
  have hsh := (gd_some hsh).2
  refine e_aload_n (B := B) (x := x0) hx hb dX13_operatesMotion_0 rfl (hl.at 0 rfl) ?_
  refine lv_iload_n hx hb dX13_operatesMotion_1 rfl (hl.at 3 rfl) ?_
  refine lv_iload hx hb dX13_operatesMotion_2 (hl.at 4 rfl) ?_
  refine lv_iload hx hb dX13_operatesMotion_4 (hl.at 5 rfl) ?_
  refine lv_iload hx hb dX13_operatesMotion_6 (hl.at 6 rfl) ?_
  refine lv_iconst (v := iI (1)) hx hb dX13_operatesMotion_8 rfl ?_
  obtain ⟨⟨v9, S9⟩, h9, hsh⟩ := Option.bind_eq_some_iff.mp hsh
  have hsh : _ = _ := hsh
  try dsimp only at hsh
  have ok9 := ok13_moves h9
  refine e_callI (nL := 7) (mc := 0) (ms := 0) (T := TX13) (N := 126) (As := [.int (iI (x3)), .int (iI (x4)), .int (iI (x5)), .int (iI (x6)), .int (iI (1))]) (rest := []) hx hb hml hown hts hp hS hl.size ok9.1 ok9.2.1 ok9.2.2 rfl (by decide) (c13_moves l D cA B S S9 (x0) (x3) (x4) (x5) (x6) (1) v9 h9) rfl rfl kd13_moves (kl13_541) ks13_moves kv13_moves ki13 kh13_moves ⟨Nat.le_of_ble_eq_true rfl, Nat.le_of_ble_eq_true rfl⟩ rfl (by simp [e_rv_cat, e_int_cat]) ⟨Nat.le_refl _, Nat.le_refl _⟩ dX13_operatesMotion_9 rfl (fun H locs hp hS => ?_)
  refine e_if_eq (tgt := 36) hx hb dX13_operatesMotion_12 (by decide) (fun c12 => ?_) (fun c12 => ?_)
  · rw [if_pos c12] at hsh
    exact w13_operatesMotion_b36 E hp hS (hl.sub [] rfl) hsh
  · rw [if_neg c12] at hsh
    refine e_aload_n (B := B) (x := x0) hx hb dX13_operatesMotion_15 rfl (hl.at 0 rfl) ?_
    refine lv_iload_n hx hb dX13_operatesMotion_16 rfl (hl.at 3 rfl) ?_
    obtain ⟨⟨v17, S17⟩, h17, hsh⟩ := Option.bind_eq_some_iff.mp hsh
    have hsh : _ = _ := hsh
    try dsimp only at hsh
    have ok17 := ok13_spansMotion h17
    refine e_callI (nL := 7) (mc := 0) (ms := 0) (T := TX13) (N := 126) (As := [.int (iI (x3))]) (rest := []) hx hb hml hown hts hp hS hl.size ok17.1 ok17.2.1 ok17.2.2 rfl (by decide) (c13_spansMotion l D cA B S9 S17 (x0) (x3) v17 h17) rfl rfl kd13_spansMotion (kl13_545) ks13_spansMotion kv13_spansMotion ki13 kh13_spansMotion ⟨Nat.le_of_ble_eq_true rfl, Nat.le_of_ble_eq_true rfl⟩ rfl (by simp [e_rv_cat, e_int_cat]) ⟨Nat.le_refl _, Nat.le_refl _⟩ dX13_operatesMotion_17 rfl (fun H locs hp hS => ?_)
    refine e_if_eq (tgt := 36) hx hb dX13_operatesMotion_20 (by decide) (fun c20 => ?_) (fun c20 => ?_)
    · rw [if_pos c20] at hsh
      exact w13_operatesMotion_b36 E hp hS (hl.sub [] rfl) hsh
    · rw [if_neg c20] at hsh
      refine e_aload_n (B := B) (x := x0) hx hb dX13_operatesMotion_23 rfl (hl.at 0 rfl) ?_
      refine lv_iload_n hx hb dX13_operatesMotion_24 rfl (hl.at 1 rfl) ?_
      refine lv_iload_n hx hb dX13_operatesMotion_25 rfl (hl.at 2 rfl) ?_
      obtain ⟨⟨v26, S26⟩, h26, hsh⟩ := Option.bind_eq_some_iff.mp hsh
      have hsh : _ = _ := hsh
      try dsimp only at hsh
      have ok26 := ok13_operates h26
      refine e_callI (nL := 7) (mc := 0) (ms := 0) (T := TX13) (N := 126) (As := [.int (iI (x1)), .int (iI (x2))]) (rest := []) hx hb hml hown hts hp hS hl.size ok26.1 ok26.2.1 ok26.2.2 rfl (by decide) (c13_operates l D cA B S17 S26 (x0) (x1) (x2) v26 h26) rfl rfl kd13_operates (kl13_548) ks13_operates kv13_operates ki13 kh13_operates ⟨Nat.le_of_ble_eq_true rfl, Nat.le_of_ble_eq_true rfl⟩ rfl (by simp [e_rv_cat, e_int_cat]) ⟨Nat.le_refl _, Nat.le_refl _⟩ dX13_operatesMotion_26 rfl (fun H locs hp hS => ?_)
      refine e_if_eq (tgt := 36) hx hb dX13_operatesMotion_29 (by decide) (fun c29 => ?_) (fun c29 => ?_)
      · rw [if_pos c29] at hsh
        exact w13_operatesMotion_b36 E hp hS (hl.sub [] rfl) hsh
      · rw [if_neg c29] at hsh
        refine lv_iconst (v := iI (1)) hx hb dX13_operatesMotion_32 rfl ?_
        refine lv_goto (tgt := 37) hx hb dX13_operatesMotion_33 (by decide) ?_
        exact w13_operatesMotion_b37 E hp hS (hl.sub [] rfl) hsh
theorem ok13_operatesObject {S : HP} {x0 : Int} {x1 : Int} {x2 : Int} {x3 : Int} {x4 : Int} {x5 : Int} {r : Int × HP} (h : s13_operatesObject S x0 x1 x2 x3 x4 x5 = some r) : 0 ≤ x0 ∧ x0.toNat < e_n S ∧ e_g S x0.toNat = 13 := (gd_some h).1
set_option maxRecDepth 100000 in
set_option maxHeartbeats 4000000 in
theorem w13_operatesObject_b48 {p : Program} {l : Launch} {e : Env} {s : State} {m : MethodId} {args : Array Value} {below : List Frame} {meth : Method} {c : Code} {D : va_G} {cA : Nat → ClassId} {B : Nat} {res : Int × HP} (E : e_En p s m args meth c cX13_operatesObject RX13 6 (some .boolean)) {ls : Array Slot} {H : Heap} {locs : List Loc} {S : HP} {y0 : Int} (hp : e_Pic D cA B S s H) (hS : va_S (e_A B) s.heap H locs) (hl : e_lo ls 6 []) (hsh : s13_operatesObject_b48 S y0 = some res) : W p l e ({ frames := 8, cells := 0, slots := 0, locals := 186 } : Room) s m args below meth c H locs 0 0 (MQ below (e_Qi D cA B res.1 res.2) args s 0 0 (e_A B)) (F0 m 48 ls [.int (iI (y0))]) := by
  obtain ⟨hx, hb, hml, hown, hts, hlk, hrt⟩ := id E
  unfold s13_operatesObject_b48 at hsh
  obtain ⟨hz, hz1, hz2⟩ := zR_some hsh
  rw [← hz1, ← hz2]
  exact e_zret hx hb hrt hlk hp hS hz dX13_operatesObject_48
set_option maxRecDepth 100000 in
set_option maxHeartbeats 4000000 in
theorem w13_operatesObject_b47 {p : Program} {l : Launch} {e : Env} {s : State} {m : MethodId} {args : Array Value} {below : List Frame} {meth : Method} {c : Code} {D : va_G} {cA : Nat → ClassId} {B : Nat} {res : Int × HP} (E : e_En p s m args meth c cX13_operatesObject RX13 6 (some .boolean)) {ls : Array Slot} {H : Heap} {locs : List Loc} {S : HP} (hp : e_Pic D cA B S s H) (hS : va_S (e_A B) s.heap H locs) (hl : e_lo ls 6 []) (hsh : s13_operatesObject_b47 S  = some res) : W p l e ({ frames := 8, cells := 0, slots := 0, locals := 186 } : Room) s m args below meth c H locs 0 0 (MQ below (e_Qi D cA B res.1 res.2) args s 0 0 (e_A B)) (F0 m 47 ls []) := by
  obtain ⟨hx, hb, hml, hown, hts, hlk, hrt⟩ := id E
  unfold s13_operatesObject_b47 at hsh
  refine lv_iconst (v := iI (0)) hx hb dX13_operatesObject_47 rfl ?_
  exact w13_operatesObject_b48 E hp hS (hl.sub [] rfl) hsh
set_option maxRecDepth 100000 in
set_option maxHeartbeats 4000000 in
theorem c13_operatesObject (l : Launch) (D : va_G) (cA : Nat → ClassId) (B : Nat) (S S' : HP) (x0 : Int) (x1 : Int) (x2 : Int) (x3 : Int) (x4 : Int) (x5 : Int) (r : Int) (hsh : s13_operatesObject S x0 x1 x2 x3 x4 x5 = some (r, S')) : Met l yX13_operatesObject (e_wu yX13_operatesObject cX13_operatesObject 6 (some .boolean)) ({ frames := 8, cells := 0, slots := 0, locals := 186 } : Room) (va_Pc [e_rv B (x0), .int (iI (x1)), .int (iI (x2)), .int (iI (x3)), .int (iI (x4)), .int (iI (x5))] (fun U => e_PU D cA B S U)) (e_Qi D cA B r S') 0 0 (e_A B) := by
  refine Met.ofW (cc := cX13_operatesObject) (maxL := 6) (ret := (some .boolean)) (by decide +kernel) rfl ?_
  intro p e s m args below meth c s₁ Bd hml hv
  obtain ⟨rfl, hp⟩ := hv
  have hp : e_Pic D cA B S s s.heap := hp
  have hx := Bd.exec
  have hb := Bd.bytes
  have hrt := Bd.returns
  have hlk := Bd.notSynchronized
  have hown : s.vm.findClass RX13 = some m.cls := findClass_of_methodNamed Bd.named
  have hts : ∀ w ∈ e_tb, w.before ([e_rv B (x0), .int (iI (x1)), .int (iI (x2)), .int (iI (x3)), .int (iI (x4)), .int (iI (x5))] : List Value).toArray s = true := fun w h => atoms_spec (ws := (e_wu yX13_operatesObject cX13_operatesObject 6 (some .boolean))) Bd.pre w (List.mem_cons_of_mem _ h)
  have E : e_En p s m ([e_rv B (x0), .int (iI (x1)), .int (iI (x2)), .int (iI (x3)), .int (iI (x4)), .int (iI (x5))] : List Value).toArray meth c cX13_operatesObject RX13 6 (some .boolean) := ⟨hx, hb, hml, hown, hts, hlk, hrt⟩
  have hS : va_S (e_A B) s.heap s.heap [] := va_S.rf
  have hl := e_entry (vs := [e_rv B (x0), .int (iI (x1)), .int (iI (x2)), .int (iI (x3)), .int (iI (x4)), .int (iI (x5))]) (n := 6) (Nat.le_of_ble_eq_true rfl) (e_cc (e_rv_cat _ _) (e_cc rfl (e_cc rfl (e_cc rfl (e_cc rfl (e_cc rfl e_cn))))))
  rw [lg_entry_eq]
  generalize (lg_sl [e_rv B (x0), .int (iI (x1)), .int (iI (x2)), .int (iI (x3)), .int (iI (x4)), .int (iI (x5))] ++ List.replicate (6 - (lg_sl [e_rv B (x0), .int (iI (x1)), .int (iI (x2)), .int (iI (x3)), .int (iI (x4)), .int (iI (x5))]).length) Slot.unset).toArray = ls at hl ⊢
  generalize ([e_rv B (x0), .int (iI (x1)), .int (iI (x2)), .int (iI (x3)), .int (iI (x4)), .int (iI (x5))] : List Value).toArray = args at hts E ⊢
  have hl : e_lo ls 6 [(0, e_rv B (x0)), (1, .int (iI (x1))), (2, .int (iI (x2))), (3, .int (iI (x3))), (4, .int (iI (x4))), (5, .int (iI (x5)))] := hl
  have hsh := (gd_some hsh).2
  refine e_aload_n (B := B) (x := x0) hx hb dX13_operatesObject_0 rfl (hl.at 0 rfl) ?_
  refine lv_iload_n hx hb dX13_operatesObject_1 rfl (hl.at 3 rfl) ?_
  refine lv_iload hx hb dX13_operatesObject_2 (hl.at 4 rfl) ?_
  refine lv_iload hx hb dX13_operatesObject_4 (hl.at 5 rfl) ?_
  obtain ⟨⟨v6, S6⟩, h6, hsh⟩ := Option.bind_eq_some_iff.mp hsh
  have hsh : _ = _ := hsh
  try dsimp only at hsh
  have ok6 := ok13_spansObject h6
  refine e_callI (nL := 6) (mc := 0) (ms := 0) (T := TX13) (N := 126) (As := [.int (iI (x3)), .int (iI (x4)), .int (iI (x5))]) (rest := []) hx hb hml hown hts hp hS hl.size ok6.1 ok6.2.1 ok6.2.2 rfl (by decide) (c13_spansObject l D cA B S S6 (x0) (x3) (x4) (x5) v6 h6) rfl rfl kd13_spansObject (kl13_551) ks13_spansObject kv13_spansObject ki13 kh13_spansObject ⟨Nat.le_of_ble_eq_true rfl, Nat.le_of_ble_eq_true rfl⟩ rfl (by simp [e_rv_cat, e_int_cat]) ⟨Nat.le_refl _, Nat.le_refl _⟩ dX13_operatesObject_6 rfl (fun H locs hp hS => ?_)
  refine e_if_ne (tgt := 14) hx hb dX13_operatesObject_9 (by decide) (fun c9 => ?_) (fun c9 => ?_)
  · rw [if_neg c9] at hsh
    refine e_aload_n (B := B) (x := x0) hx hb dX13_operatesObject_14 rfl (hl.at 0 rfl) ?_
    obtain ⟨⟨v15, S15⟩, h15, hsh⟩ := Option.bind_eq_some_iff.mp hsh
    have hsh : _ = _ := hsh
    try dsimp only at hsh
    have ok15 := ok13_isSomething h15
    refine e_callI (nL := 6) (mc := 0) (ms := 0) (T := TX13) (N := 126) (As := []) (rest := []) hx hb hml hown hts hp hS hl.size ok15.1 ok15.2.1 ok15.2.2 rfl (by decide) (c13_isSomething l D cA B S6 S15 (x0) v15 h15) rfl rfl kd13_isSomething (kl13_417) ks13_isSomething kv13_isSomething ki13 kh13_isSomething ⟨Nat.le_of_ble_eq_true rfl, Nat.le_of_ble_eq_true rfl⟩ rfl (by simp [e_rv_cat, e_int_cat]) ⟨Nat.le_refl _, Nat.le_refl _⟩ dX13_operatesObject_15 rfl (fun H locs hp hS => ?_)
    refine e_if_ne (tgt := 49) hx hb dX13_operatesObject_18 (by decide) (fun c18 => ?_) (fun c18 => ?_)
    · rw [if_neg c18] at hsh
      refine e_aload_n (B := B) (x := x0) hx hb dX13_operatesObject_49 rfl (hl.at 0 rfl) ?_
      refine lv_iload_n hx hb dX13_operatesObject_50 rfl (hl.at 1 rfl) ?_
      refine lv_iload_n hx hb dX13_operatesObject_51 rfl (hl.at 2 rfl) ?_
      obtain ⟨⟨v52, S52⟩, h52, hsh⟩ := Option.bind_eq_some_iff.mp hsh
      have hsh : _ = _ := hsh
      try dsimp only at hsh
      have ok52 := ok13_operates h52
      refine e_callI (nL := 6) (mc := 0) (ms := 0) (T := TX13) (N := 126) (As := [.int (iI (x1)), .int (iI (x2))]) (rest := []) hx hb hml hown hts hp hS hl.size ok52.1 ok52.2.1 ok52.2.2 rfl (by decide) (c13_operates l D cA B S15 S52 (x0) (x1) (x2) v52 h52) rfl rfl kd13_operates (kl13_548) ks13_operates kv13_operates ki13 kh13_operates ⟨Nat.le_of_ble_eq_true rfl, Nat.le_of_ble_eq_true rfl⟩ rfl (by simp [e_rv_cat, e_int_cat]) ⟨Nat.le_refl _, Nat.le_refl _⟩ dX13_operatesObject_52 rfl (fun H locs hp hS => ?_)
      obtain ⟨hz, hz1, hz2⟩ := zR_some hsh
      rw [← hz1, ← hz2]
      exact e_zret hx hb hrt hlk hp hS hz dX13_operatesObject_55
    · rw [if_pos c18] at hsh
      refine lv_iload_n hx hb dX13_operatesObject_21 rfl (hl.at 1 rfl) ?_
      refine lv_bipush (v := iI (99)) hx hb dX13_operatesObject_22 (by decide +kernel) ?_
      refine e_icmp_ne (tgt := 47) hx hb dX13_operatesObject_24 (by decide) (fun c24 => ?_) (fun c24 => ?_)
      · rw [if_neg c24] at hsh
        exact w13_operatesObject_b47 E hp hS (hl.sub [] rfl) hsh
      · rw [if_pos c24] at hsh
        refine e_aload_n (B := B) (x := x0) hx hb dX13_operatesObject_27 rfl (hl.at 0 rfl) ?_
        refine e_aload_n (B := B) (x := x0) hx hb dX13_operatesObject_28 rfl (hl.at 0 rfl) ?_
        obtain ⟨v29, h29, hsh⟩ := Option.bind_eq_some_iff.mp hsh
        refine e_getI (k := 36) hx hb hts in_X13 hown hp h29 rfl (by decide) (by decide) rfl (hts _ kf13_398) rfl dX13_operatesObject_29 ?_
        refine e_aload_n (B := B) (x := x0) hx hb dX13_operatesObject_32 rfl (hl.at 0 rfl) ?_
        obtain ⟨v33, h33, hsh⟩ := Option.bind_eq_some_iff.mp hsh
        refine e_getI (k := 37) hx hb hts in_X13 hown hp h33 rfl (by decide) (by decide) rfl (hts _ kf13_401) rfl dX13_operatesObject_33 ?_
        refine lv_iconst (v := iI (1)) hx hb dX13_operatesObject_36 rfl ?_
        obtain ⟨⟨v37, S37⟩, h37, hsh⟩ := Option.bind_eq_some_iff.mp hsh
        have hsh : _ = _ := hsh
        try dsimp only at hsh
        have ok37 := ok13_inserts h37
        refine e_callI (nL := 6) (mc := 0) (ms := 0) (T := TX13) (N := 126) (As := [.int (iI (v29)), .int (iI (v33)), .int (iI (1))]) (rest := []) hx hb hml hown hts hp hS hl.size ok37.1 ok37.2.1 ok37.2.2 rfl (by decide) (c13_inserts l D cA B S15 S37 (x0) (v29) (v33) (1) v37 h37) rfl rfl kd13_inserts (kl13_504) ks13_inserts kv13_inserts ki13 kh13_inserts ⟨Nat.le_of_ble_eq_true rfl, Nat.le_of_ble_eq_true rfl⟩ rfl (by simp [e_rv_cat, e_int_cat]) ⟨Nat.le_refl _, Nat.le_refl _⟩ dX13_operatesObject_37 rfl (fun H locs hp hS => ?_)
        refine e_if_eq (tgt := 47) hx hb dX13_operatesObject_40 (by decide) (fun c40 => ?_) (fun c40 => ?_)
        · rw [if_pos c40] at hsh
          exact w13_operatesObject_b47 E hp hS (hl.sub [] rfl) hsh
        · rw [if_neg c40] at hsh
          refine lv_iconst (v := iI (1)) hx hb dX13_operatesObject_43 rfl ?_
          refine lv_goto (tgt := 48) hx hb dX13_operatesObject_44 (by decide) ?_
          exact w13_operatesObject_b48 E hp hS (hl.sub [] rfl) hsh
  · rw [if_pos c9] at hsh
    refine lv_iconst (v := iI (0)) hx hb dX13_operatesObject_12 rfl ?_
    obtain ⟨hz, hz1, hz2⟩ := zR_some hsh
    rw [← hz1, ← hz2]
    exact e_zret hx hb hrt hlk hp hS hz dX13_operatesObject_13
theorem ok13_joins {S : HP} {x0 : Int} {x1 : Int} {x2 : Int} {r : Int × HP} (h : s13_joins S x0 x1 x2 = some r) : 0 ≤ x0 ∧ x0.toNat < e_n S ∧ e_g S x0.toNat = 13 := (gd_some h).1
set_option maxRecDepth 100000 in
set_option maxHeartbeats 4000000 in
theorem w13_joins_l218 {p : Program} {l : Launch} {e : Env} {s : State} {m : MethodId} {args : Array Value} {below : List Frame} {meth : Method} {c : Code} {D : va_G} {cA : Nat → ClassId} {B : Nat} {res : Int × HP} {k123 : HP → Int → Int → Int → Int → Int → Option (Int × HP)} (hk123 : ∀ {ls : Array Slot} {H : Heap} {locs : List Loc} {S : HP} {x0 : Int} {x1 : Int} {x2 : Int} {x4 : Int} {x5 : Int} (hp : e_Pic D cA B S s H) (hS : va_S (e_A B) s.heap H locs) (hl : e_lo ls 8 [(0, e_rv B (x0)), (1, .int (iI (x1))), (2, .int (iI (x2))), (4, .int (iI (x4))), (5, .int (iI (x5)))]) (hsh : k123 S x0 x1 x2 x4 x5 = some res), W p l e ({ frames := 4, cells := 0, slots := 0, locals := 94 } : Room) s m args below meth c H locs 0 0 (MQ below (e_Qi D cA B res.1 res.2) args s 0 0 (e_A B)) (F0 m 123 ls [])) (E : e_En p s m args meth c cX13_joins RX13 8 (some .boolean)) : ∀ (f : Nat) {ls : Array Slot} {H : Heap} {locs : List Loc} {S : HP} {x0 : Int} {x1 : Int} {x2 : Int} {x4 : Int} {x5 : Int} {x7 : Int} (hp : e_Pic D cA B S s H) (hS : va_S (e_A B) s.heap H locs) (hl : e_lo ls 8 [(0, e_rv B (x0)), (1, .int (iI (x1))), (2, .int (iI (x2))), (4, .int (iI (x4))), (5, .int (iI (x5))), (7, .int (iI (x7)))]) (hsh : s13_joins_l218 k123 f S x0 x1 x2 x4 x5 x7 = some res), W p l e ({ frames := 4, cells := 0, slots := 0, locals := 94 } : Room) s m args below meth c H locs 0 0 (MQ below (e_Qi D cA B res.1 res.2) args s 0 0 (e_A B)) (F0 m 218 ls []) := by
  obtain ⟨hx, hb, hml, hown, hts, hlk, hrt⟩ := id E
  intro f
  induction f with
  | zero => intro ls H locs S x0 x1 x2 x4 x5 x7 hp hS hl hsh; cases hsh
  | succ f ih =>
    intro ls H locs S x0 x1 x2 x4 x5 x7 hp hS hl hsh
    have hk218 : ∀ {ls : Array Slot} {H : Heap} {locs : List Loc} {S : HP} {x0 : Int} {x1 : Int} {x2 : Int} {x4 : Int} {x5 : Int} {x7 : Int} (hp : e_Pic D cA B S s H) (hS : va_S (e_A B) s.heap H locs) (hl : e_lo ls 8 [(0, e_rv B (x0)), (1, .int (iI (x1))), (2, .int (iI (x2))), (4, .int (iI (x4))), (5, .int (iI (x5))), (7, .int (iI (x7)))]) (hsh : (s13_joins_l218 k123 f) S x0 x1 x2 x4 x5 x7 = some res), W p l e ({ frames := 4, cells := 0, slots := 0, locals := 94 } : Room) s m args below meth c H locs 0 0 (MQ below (e_Qi D cA B res.1 res.2) args s 0 0 (e_A B)) (F0 m 218 ls []) := ih
    generalize hkk : s13_joins_l218 k123 f = k218 at hk218
    rw [s13_joins_l218] at hsh
    rw [hkk] at hsh
    try dsimp only at hsh
    refine lv_iload hx hb dX13_joins_218 (hl.at 5 rfl) ?_
    refine e_aload_n (B := B) (x := x0) hx hb dX13_joins_220 rfl (hl.at 0 rfl) ?_
    obtain ⟨v221, h221, hsh⟩ := Option.bind_eq_some_iff.mp hsh
    refine e_getR (k := 3) hx hb hts in_X13 hown hp h221 rfl (by decide) (by decide) rfl (hts _ kf13_17) rfl dX13_joins_221 ?_
    refine lv_iload hx hb dX13_joins_224 (hl.at 4 rfl) ?_
    obtain ⟨v226, h226, hsh⟩ := Option.bind_eq_some_iff.mp hsh
    refine e_iald hx hb hp h226 dX13_joins_226 ?_
    refine e_icmp_ge (tgt := 270) hx hb dX13_joins_227 (by decide) (fun c227 => ?_) (fun c227 => ?_)
    · rw [if_pos c227] at hsh
      refine e_iinc (n := 1) (x := x5) (lv' := [(5, .int (iI ((x5 + 1)))), (0, e_rv B (x0)), (1, .int (iI (x1))), (2, .int (iI (x2))), (4, .int (iI (x4))), (7, .int (iI (x7)))]) hx hb dX13_joins_270 hl (k := 4) rfl (by decide) rfl (fun ls hl => ?_)
      refine lv_goto (tgt := 123) hx hb dX13_joins_273 (by decide) ?_
      exact hk123 hp hS (hl.sub [1, 2, 3, 4, 0] rfl) hsh
    · rw [if_neg c227] at hsh
      refine e_aload_n (B := B) (x := x0) hx hb dX13_joins_230 rfl (hl.at 0 rfl) ?_
      obtain ⟨v231, h231, hsh⟩ := Option.bind_eq_some_iff.mp hsh
      refine e_getR (k := 4) hx hb hts in_X13 hown hp h231 rfl (by decide) (by decide) rfl (hts _ kf13_20) rfl dX13_joins_231 ?_
      refine lv_bipush (v := iI (60)) hx hb dX13_joins_234 (by decide +kernel) ?_
      refine lv_iload_n hx hb dX13_joins_236 rfl (hl.at 1 rfl) ?_
      refine e_imul hx hb dX13_joins_237 ?_
      refine e_aload_n (B := B) (x := x0) hx hb dX13_joins_238 rfl (hl.at 0 rfl) ?_
      obtain ⟨v239, h239, hsh⟩ := Option.bind_eq_some_iff.mp hsh
      refine e_getR (k := 3) hx hb hts in_X13 hown hp h239 rfl (by decide) (by decide) rfl (hts _ kf13_17) rfl dX13_joins_239 ?_
      refine lv_iload_n hx hb dX13_joins_242 rfl (hl.at 1 rfl) ?_
      obtain ⟨v243, h243, hsh⟩ := Option.bind_eq_some_iff.mp hsh
      refine e_iald hx hb hp h243 dX13_joins_243 ?_
      refine e_iadd hx hb dX13_joins_244 ?_
      refine e_aload_n (B := B) (x := x0) hx hb dX13_joins_245 rfl (hl.at 0 rfl) ?_
      refine lv_iload hx hb dX13_joins_246 (hl.at 4 rfl) ?_
      refine lv_iload hx hb dX13_joins_248 (hl.at 5 rfl) ?_
      obtain ⟨⟨v250, S250⟩, h250, hsh⟩ := Option.bind_eq_some_iff.mp hsh
      have hsh : _ = _ := hsh
      try dsimp only at hsh
      have ok250 := ok13_at h250
      refine e_callI (nL := 8) (mc := 0) (ms := 0) (T := TX13) (N := 126) (As := [.int (iI (x5)), .int (iI (x7))]) (rest := [.int (iI (((60 * x1) + v243))), e_rv B (v231)]) hx hb hml hown hts hp hS hl.size ok250.1 ok250.2.1 ok250.2.2 rfl (by decide) (c13_at l D cA B S S250 (x0) (x5) (x7) v250 h250) rfl rfl kd13_at (kl13_206) ks13_at kv13_at ki13 kh13_at ⟨Nat.le_of_ble_eq_true rfl, Nat.le_of_ble_eq_true rfl⟩ rfl (by simp [e_rv_cat, e_int_cat]) ⟨Nat.le_refl _, Nat.le_refl _⟩ dX13_joins_250 rfl (fun H locs hp hS => ?_)
      obtain ⟨S253, h253, hsh⟩ := Option.bind_eq_some_iff.mp hsh
      refine e_iast hx hb hp hS h253 dX13_joins_253 (fun H locs hp hS => ?_)
      refine e_aload_n (B := B) (x := x0) hx hb dX13_joins_254 rfl (hl.at 0 rfl) ?_
      obtain ⟨v255, h255, hsh⟩ := Option.bind_eq_some_iff.mp hsh
      refine e_getR (k := 3) hx hb hts in_X13 hown hp h255 rfl (by decide) (by decide) rfl (hts _ kf13_17) rfl dX13_joins_255 ?_
      refine lv_iload_n hx hb dX13_joins_258 rfl (hl.at 1 rfl) ?_
      refine lv_dup2_11 hx hb dX13_joins_259 rfl (e_rv_cat _ _) ?_
      obtain ⟨v260, h260, hsh⟩ := Option.bind_eq_some_iff.mp hsh
      refine e_iald hx hb hp h260 dX13_joins_260 ?_
      refine lv_iconst (v := iI (1)) hx hb dX13_joins_261 rfl ?_
      refine e_iadd hx hb dX13_joins_262 ?_
      obtain ⟨S263, h263, hsh⟩ := Option.bind_eq_some_iff.mp hsh
      refine e_iast hx hb hp hS h263 dX13_joins_263 (fun H locs hp hS => ?_)
      refine e_iinc (n := 1) (x := x7) (lv' := [(7, .int (iI ((x7 + 1)))), (0, e_rv B (x0)), (1, .int (iI (x1))), (2, .int (iI (x2))), (4, .int (iI (x4))), (5, .int (iI (x5)))]) hx hb dX13_joins_264 hl (k := 5) rfl (by decide) rfl (fun ls hl => ?_)
      refine lv_goto (tgt := 218) hx hb dX13_joins_267 (by decide) ?_
      exact hk218 hp hS (hl.sub [1, 2, 3, 4, 5, 0] rfl) hsh
set_option maxRecDepth 100000 in
set_option maxHeartbeats 4000000 in
theorem w13_joins_b214 {p : Program} {l : Launch} {e : Env} {s : State} {m : MethodId} {args : Array Value} {below : List Frame} {meth : Method} {c : Code} {D : va_G} {cA : Nat → ClassId} {B : Nat} {res : Int × HP} {k123 : HP → Int → Int → Int → Int → Int → Option (Int × HP)} (hk123 : ∀ {ls : Array Slot} {H : Heap} {locs : List Loc} {S : HP} {x0 : Int} {x1 : Int} {x2 : Int} {x4 : Int} {x5 : Int} (hp : e_Pic D cA B S s H) (hS : va_S (e_A B) s.heap H locs) (hl : e_lo ls 8 [(0, e_rv B (x0)), (1, .int (iI (x1))), (2, .int (iI (x2))), (4, .int (iI (x4))), (5, .int (iI (x5)))]) (hsh : k123 S x0 x1 x2 x4 x5 = some res), W p l e ({ frames := 4, cells := 0, slots := 0, locals := 94 } : Room) s m args below meth c H locs 0 0 (MQ below (e_Qi D cA B res.1 res.2) args s 0 0 (e_A B)) (F0 m 123 ls [])) (E : e_En p s m args meth c cX13_joins RX13 8 (some .boolean)) {ls : Array Slot} {H : Heap} {locs : List Loc} {S : HP} {x0 : Int} {x1 : Int} {x2 : Int} {x4 : Int} {x5 : Int} {x6 : Int} (hp : e_Pic D cA B S s H) (hS : va_S (e_A B) s.heap H locs) (hl : e_lo ls 8 [(0, e_rv B (x0)), (1, .int (iI (x1))), (2, .int (iI (x2))), (4, .int (iI (x4))), (5, .int (iI (x5))), (6, .int (iI (x6)))]) (hsh : s13_joins_b214 k123 S x0 x1 x2 x4 x5 x6 = some res) : W p l e ({ frames := 4, cells := 0, slots := 0, locals := 94 } : Room) s m args below meth c H locs 0 0 (MQ below (e_Qi D cA B res.1 res.2) args s 0 0 (e_A B)) (F0 m 214 ls []) := by
  obtain ⟨hx, hb, hml, hown, hts, hlk, hrt⟩ := id E
  unfold s13_joins_b214 at hsh
  refine lv_iload hx hb dX13_joins_214 (hl.at 5 rfl) ?_
  refine e_istore (lv' := [(7, .int (iI (x6))), (0, e_rv B (x0)), (1, .int (iI (x1))), (2, .int (iI (x2))), (4, .int (iI (x4))), (5, .int (iI (x5))), (6, .int (iI (x6)))]) hx hb dX13_joins_216 hl (by decide) rfl (fun ls hl => ?_)
  exact w13_joins_l218 (hk123 := hk123) E 1000000 hp hS (hl.sub [1, 2, 3, 4, 5, 0] rfl) hsh
set_option maxRecDepth 100000 in
set_option maxHeartbeats 4000000 in
theorem w13_joins_b165 {p : Program} {l : Launch} {e : Env} {s : State} {m : MethodId} {args : Array Value} {below : List Frame} {meth : Method} {c : Code} {D : va_G} {cA : Nat → ClassId} {B : Nat} {res : Int × HP} {k123 : HP → Int → Int → Int → Int → Int → Option (Int × HP)} (hk123 : ∀ {ls : Array Slot} {H : Heap} {locs : List Loc} {S : HP} {x0 : Int} {x1 : Int} {x2 : Int} {x4 : Int} {x5 : Int} (hp : e_Pic D cA B S s H) (hS : va_S (e_A B) s.heap H locs) (hl : e_lo ls 8 [(0, e_rv B (x0)), (1, .int (iI (x1))), (2, .int (iI (x2))), (4, .int (iI (x4))), (5, .int (iI (x5)))]) (hsh : k123 S x0 x1 x2 x4 x5 = some res), W p l e ({ frames := 4, cells := 0, slots := 0, locals := 94 } : Room) s m args below meth c H locs 0 0 (MQ below (e_Qi D cA B res.1 res.2) args s 0 0 (e_A B)) (F0 m 123 ls [])) (E : e_En p s m args meth c cX13_joins RX13 8 (some .boolean)) {ls : Array Slot} {H : Heap} {locs : List Loc} {S : HP} {x0 : Int} {x1 : Int} {x2 : Int} {x4 : Int} {x5 : Int} {x6 : Int} (hp : e_Pic D cA B S s H) (hS : va_S (e_A B) s.heap H locs) (hl : e_lo ls 8 [(0, e_rv B (x0)), (1, .int (iI (x1))), (2, .int (iI (x2))), (4, .int (iI (x4))), (5, .int (iI (x5))), (6, .int (iI (x6)))]) (hsh : s13_joins_b165 k123 S x0 x1 x2 x4 x5 x6 = some res) : W p l e ({ frames := 4, cells := 0, slots := 0, locals := 94 } : Room) s m args below meth c H locs 0 0 (MQ below (e_Qi D cA B res.1 res.2) args s 0 0 (e_A B)) (F0 m 165 ls []) := by
  obtain ⟨hx, hb, hml, hown, hts, hlk, hrt⟩ := id E
  unfold s13_joins_b165 at hsh
  refine e_aload_n (B := B) (x := x0) hx hb dX13_joins_165 rfl (hl.at 0 rfl) ?_
  obtain ⟨v166, h166, hsh⟩ := Option.bind_eq_some_iff.mp hsh
  refine e_getR (k := 3) hx hb hts in_X13 hown hp h166 rfl (by decide) (by decide) rfl (hts _ kf13_17) rfl dX13_joins_166 ?_
  refine lv_iload_n hx hb dX13_joins_169 rfl (hl.at 1 rfl) ?_
  obtain ⟨v170, h170, hsh⟩ := Option.bind_eq_some_iff.mp hsh
  refine e_iald hx hb hp h170 dX13_joins_170 ?_
  refine e_if_le (tgt := 214) hx hb dX13_joins_171 (by decide) (fun c171 => ?_) (fun c171 => ?_)
  · rw [if_pos c171] at hsh
    exact w13_joins_b214 (hk123 := hk123) E hp hS (hl.sub [0, 1, 2, 3, 4, 5] rfl) hsh
  · rw [if_neg c171] at hsh
    refine e_aload_n (B := B) (x := x0) hx hb dX13_joins_174 rfl (hl.at 0 rfl) ?_
    obtain ⟨v175, h175, hsh⟩ := Option.bind_eq_some_iff.mp hsh
    refine e_getR (k := 3) hx hb hts in_X13 hown hp h175 rfl (by decide) (by decide) rfl (hts _ kf13_17) rfl dX13_joins_175 ?_
    refine lv_iload hx hb dX13_joins_178 (hl.at 4 rfl) ?_
    obtain ⟨v180, h180, hsh⟩ := Option.bind_eq_some_iff.mp hsh
    refine e_iald hx hb hp h180 dX13_joins_180 ?_
    refine lv_iload hx hb dX13_joins_181 (hl.at 5 rfl) ?_
    refine e_icmp_le (tgt := 214) hx hb dX13_joins_183 (by decide) (fun c183 => ?_) (fun c183 => ?_)
    · rw [if_pos c183] at hsh
      exact w13_joins_b214 (hk123 := hk123) E hp hS (hl.sub [0, 1, 2, 3, 4, 5] rfl) hsh
    · rw [if_neg c183] at hsh
      refine e_aload_n (B := B) (x := x0) hx hb dX13_joins_186 rfl (hl.at 0 rfl) ?_
      obtain ⟨v187, h187, hsh⟩ := Option.bind_eq_some_iff.mp hsh
      refine e_getR (k := 4) hx hb hts in_X13 hown hp h187 rfl (by decide) (by decide) rfl (hts _ kf13_20) rfl dX13_joins_187 ?_
      refine lv_bipush (v := iI (60)) hx hb dX13_joins_190 (by decide +kernel) ?_
      refine lv_iload_n hx hb dX13_joins_192 rfl (hl.at 1 rfl) ?_
      refine e_imul hx hb dX13_joins_193 ?_
      refine e_aload_n (B := B) (x := x0) hx hb dX13_joins_194 rfl (hl.at 0 rfl) ?_
      obtain ⟨v195, h195, hsh⟩ := Option.bind_eq_some_iff.mp hsh
      refine e_getR (k := 3) hx hb hts in_X13 hown hp h195 rfl (by decide) (by decide) rfl (hts _ kf13_17) rfl dX13_joins_195 ?_
      refine lv_iload_n hx hb dX13_joins_198 rfl (hl.at 1 rfl) ?_
      obtain ⟨v199, h199, hsh⟩ := Option.bind_eq_some_iff.mp hsh
      refine e_iald hx hb hp h199 dX13_joins_199 ?_
      refine e_iadd hx hb dX13_joins_200 ?_
      refine lv_bipush (v := iI (32)) hx hb dX13_joins_201 (by decide +kernel) ?_
      obtain ⟨S203, h203, hsh⟩ := Option.bind_eq_some_iff.mp hsh
      refine e_iast hx hb hp hS h203 dX13_joins_203 (fun H locs hp hS => ?_)
      refine e_aload_n (B := B) (x := x0) hx hb dX13_joins_204 rfl (hl.at 0 rfl) ?_
      obtain ⟨v205, h205, hsh⟩ := Option.bind_eq_some_iff.mp hsh
      refine e_getR (k := 3) hx hb hts in_X13 hown hp h205 rfl (by decide) (by decide) rfl (hts _ kf13_17) rfl dX13_joins_205 ?_
      refine lv_iload_n hx hb dX13_joins_208 rfl (hl.at 1 rfl) ?_
      refine lv_dup2_11 hx hb dX13_joins_209 rfl (e_rv_cat _ _) ?_
      obtain ⟨v210, h210, hsh⟩ := Option.bind_eq_some_iff.mp hsh
      refine e_iald hx hb hp h210 dX13_joins_210 ?_
      refine lv_iconst (v := iI (1)) hx hb dX13_joins_211 rfl ?_
      refine e_iadd hx hb dX13_joins_212 ?_
      obtain ⟨S213, h213, hsh⟩ := Option.bind_eq_some_iff.mp hsh
      refine e_iast hx hb hp hS h213 dX13_joins_213 (fun H locs hp hS => ?_)
      exact w13_joins_b214 (hk123 := hk123) E hp hS (hl.sub [0, 1, 2, 3, 4, 5] rfl) hsh
set_option maxRecDepth 100000 in
set_option maxHeartbeats 4000000 in
theorem w13_joins_l134 {p : Program} {l : Launch} {e : Env} {s : State} {m : MethodId} {args : Array Value} {below : List Frame} {meth : Method} {c : Code} {D : va_G} {cA : Nat → ClassId} {B : Nat} {res : Int × HP} {k123 : HP → Int → Int → Int → Int → Int → Option (Int × HP)} (hk123 : ∀ {ls : Array Slot} {H : Heap} {locs : List Loc} {S : HP} {x0 : Int} {x1 : Int} {x2 : Int} {x4 : Int} {x5 : Int} (hp : e_Pic D cA B S s H) (hS : va_S (e_A B) s.heap H locs) (hl : e_lo ls 8 [(0, e_rv B (x0)), (1, .int (iI (x1))), (2, .int (iI (x2))), (4, .int (iI (x4))), (5, .int (iI (x5)))]) (hsh : k123 S x0 x1 x2 x4 x5 = some res), W p l e ({ frames := 4, cells := 0, slots := 0, locals := 94 } : Room) s m args below meth c H locs 0 0 (MQ below (e_Qi D cA B res.1 res.2) args s 0 0 (e_A B)) (F0 m 123 ls [])) (E : e_En p s m args meth c cX13_joins RX13 8 (some .boolean)) : ∀ (f : Nat) {ls : Array Slot} {H : Heap} {locs : List Loc} {S : HP} {x0 : Int} {x1 : Int} {x2 : Int} {x4 : Int} {x5 : Int} {x6 : Int} (hp : e_Pic D cA B S s H) (hS : va_S (e_A B) s.heap H locs) (hl : e_lo ls 8 [(0, e_rv B (x0)), (1, .int (iI (x1))), (2, .int (iI (x2))), (4, .int (iI (x4))), (5, .int (iI (x5))), (6, .int (iI (x6)))]) (hsh : s13_joins_l134 k123 f S x0 x1 x2 x4 x5 x6 = some res), W p l e ({ frames := 4, cells := 0, slots := 0, locals := 94 } : Room) s m args below meth c H locs 0 0 (MQ below (e_Qi D cA B res.1 res.2) args s 0 0 (e_A B)) (F0 m 134 ls []) := by
  obtain ⟨hx, hb, hml, hown, hts, hlk, hrt⟩ := id E
  intro f
  induction f with
  | zero => intro ls H locs S x0 x1 x2 x4 x5 x6 hp hS hl hsh; cases hsh
  | succ f ih =>
    intro ls H locs S x0 x1 x2 x4 x5 x6 hp hS hl hsh
    have hk134 : ∀ {ls : Array Slot} {H : Heap} {locs : List Loc} {S : HP} {x0 : Int} {x1 : Int} {x2 : Int} {x4 : Int} {x5 : Int} {x6 : Int} (hp : e_Pic D cA B S s H) (hS : va_S (e_A B) s.heap H locs) (hl : e_lo ls 8 [(0, e_rv B (x0)), (1, .int (iI (x1))), (2, .int (iI (x2))), (4, .int (iI (x4))), (5, .int (iI (x5))), (6, .int (iI (x6)))]) (hsh : (s13_joins_l134 k123 f) S x0 x1 x2 x4 x5 x6 = some res), W p l e ({ frames := 4, cells := 0, slots := 0, locals := 94 } : Room) s m args below meth c H locs 0 0 (MQ below (e_Qi D cA B res.1 res.2) args s 0 0 (e_A B)) (F0 m 134 ls []) := ih
    generalize hkk : s13_joins_l134 k123 f = k134 at hk134
    rw [s13_joins_l134] at hsh
    rw [hkk] at hsh
    try dsimp only at hsh
    refine lv_iload hx hb dX13_joins_134 (hl.at 5 rfl) ?_
    refine e_aload_n (B := B) (x := x0) hx hb dX13_joins_136 rfl (hl.at 0 rfl) ?_
    obtain ⟨v137, h137, hsh⟩ := Option.bind_eq_some_iff.mp hsh
    refine e_getR (k := 3) hx hb hts in_X13 hown hp h137 rfl (by decide) (by decide) rfl (hts _ kf13_17) rfl dX13_joins_137 ?_
    refine lv_iload hx hb dX13_joins_140 (hl.at 4 rfl) ?_
    obtain ⟨v142, h142, hsh⟩ := Option.bind_eq_some_iff.mp hsh
    refine e_iald hx hb hp h142 dX13_joins_142 ?_
    refine e_icmp_ge (tgt := 165) hx hb dX13_joins_143 (by decide) (fun c143 => ?_) (fun c143 => ?_)
    · rw [if_pos c143] at hsh
      exact w13_joins_b165 (hk123 := hk123) E hp hS (hl.sub [0, 1, 2, 3, 4, 5] rfl) hsh
    · rw [if_neg c143] at hsh
      refine e_aload_n (B := B) (x := x0) hx hb dX13_joins_146 rfl (hl.at 0 rfl) ?_
      refine lv_iload hx hb dX13_joins_147 (hl.at 4 rfl) ?_
      refine lv_iload hx hb dX13_joins_149 (hl.at 5 rfl) ?_
      obtain ⟨⟨v151, S151⟩, h151, hsh⟩ := Option.bind_eq_some_iff.mp hsh
      have hsh : _ = _ := hsh
      try dsimp only at hsh
      have ok151 := ok13_at h151
      refine e_callI (nL := 8) (mc := 0) (ms := 0) (T := TX13) (N := 126) (As := [.int (iI (x5)), .int (iI (x6))]) (rest := []) hx hb hml hown hts hp hS hl.size ok151.1 ok151.2.1 ok151.2.2 rfl (by decide) (c13_at l D cA B S S151 (x0) (x5) (x6) v151 h151) rfl rfl kd13_at (kl13_206) ks13_at kv13_at ki13 kh13_at ⟨Nat.le_of_ble_eq_true rfl, Nat.le_of_ble_eq_true rfl⟩ rfl (by simp [e_rv_cat, e_int_cat]) ⟨Nat.le_refl _, Nat.le_refl _⟩ dX13_joins_151 rfl (fun H locs hp hS => ?_)
      refine lv_bipush (v := iI (32)) hx hb dX13_joins_154 (by decide +kernel) ?_
      refine e_icmp_ne (tgt := 165) hx hb dX13_joins_156 (by decide) (fun c156 => ?_) (fun c156 => ?_)
      · rw [if_neg c156] at hsh
        exact w13_joins_b165 (hk123 := hk123) E hp hS (hl.sub [0, 1, 2, 3, 4, 5] rfl) hsh
      · rw [if_pos c156] at hsh
        refine e_iinc (n := 1) (x := x6) (lv' := [(6, .int (iI ((x6 + 1)))), (0, e_rv B (x0)), (1, .int (iI (x1))), (2, .int (iI (x2))), (4, .int (iI (x4))), (5, .int (iI (x5)))]) hx hb dX13_joins_159 hl (k := 5) rfl (by decide) rfl (fun ls hl => ?_)
        refine lv_goto (tgt := 134) hx hb dX13_joins_162 (by decide) ?_
        exact hk134 hp hS (hl.sub [1, 2, 3, 4, 5, 0] rfl) hsh
set_option maxRecDepth 100000 in
set_option maxHeartbeats 4000000 in
theorem w13_joins_l123 {p : Program} {l : Launch} {e : Env} {s : State} {m : MethodId} {args : Array Value} {below : List Frame} {meth : Method} {c : Code} {D : va_G} {cA : Nat → ClassId} {B : Nat} {res : Int × HP} (E : e_En p s m args meth c cX13_joins RX13 8 (some .boolean)) : ∀ (f : Nat) {ls : Array Slot} {H : Heap} {locs : List Loc} {S : HP} {x0 : Int} {x1 : Int} {x2 : Int} {x4 : Int} {x5 : Int} (hp : e_Pic D cA B S s H) (hS : va_S (e_A B) s.heap H locs) (hl : e_lo ls 8 [(0, e_rv B (x0)), (1, .int (iI (x1))), (2, .int (iI (x2))), (4, .int (iI (x4))), (5, .int (iI (x5)))]) (hsh : s13_joins_l123 f S x0 x1 x2 x4 x5 = some res), W p l e ({ frames := 4, cells := 0, slots := 0, locals := 94 } : Room) s m args below meth c H locs 0 0 (MQ below (e_Qi D cA B res.1 res.2) args s 0 0 (e_A B)) (F0 m 123 ls []) := by
  obtain ⟨hx, hb, hml, hown, hts, hlk, hrt⟩ := id E
  intro f
  induction f with
  | zero => intro ls H locs S x0 x1 x2 x4 x5 hp hS hl hsh; cases hsh
  | succ f ih =>
    intro ls H locs S x0 x1 x2 x4 x5 hp hS hl hsh
    have hk123 : ∀ {ls : Array Slot} {H : Heap} {locs : List Loc} {S : HP} {x0 : Int} {x1 : Int} {x2 : Int} {x4 : Int} {x5 : Int} (hp : e_Pic D cA B S s H) (hS : va_S (e_A B) s.heap H locs) (hl : e_lo ls 8 [(0, e_rv B (x0)), (1, .int (iI (x1))), (2, .int (iI (x2))), (4, .int (iI (x4))), (5, .int (iI (x5)))]) (hsh : (s13_joins_l123 f) S x0 x1 x2 x4 x5 = some res), W p l e ({ frames := 4, cells := 0, slots := 0, locals := 94 } : Room) s m args below meth c H locs 0 0 (MQ below (e_Qi D cA B res.1 res.2) args s 0 0 (e_A B)) (F0 m 123 ls []) := ih
    generalize hkk : s13_joins_l123 f = k123 at hk123
    rw [s13_joins_l123] at hsh
    rw [hkk] at hsh
    try dsimp only at hsh
    refine lv_iload hx hb dX13_joins_123 (hl.at 4 rfl) ?_
    refine lv_iload_n hx hb dX13_joins_125 rfl (hl.at 1 rfl) ?_
    refine lv_iload_n hx hb dX13_joins_126 rfl (hl.at 2 rfl) ?_
    refine e_iadd hx hb dX13_joins_127 ?_
    refine e_icmp_ge (tgt := 276) hx hb dX13_joins_128 (by decide) (fun c128 => ?_) (fun c128 => ?_)
    · rw [if_pos c128] at hsh
      refine e_aload_n (B := B) (x := x0) hx hb dX13_joins_276 rfl (hl.at 0 rfl) ?_
      refine lv_iload_n hx hb dX13_joins_277 rfl (hl.at 1 rfl) ?_
      refine lv_iconst (v := iI (1)) hx hb dX13_joins_278 rfl ?_
      refine e_iadd hx hb dX13_joins_279 ?_
      refine lv_iload_n hx hb dX13_joins_280 rfl (hl.at 1 rfl) ?_
      refine lv_iload_n hx hb dX13_joins_281 rfl (hl.at 2 rfl) ?_
      refine e_iadd hx hb dX13_joins_282 ?_
      refine lv_iconst (v := iI (1)) hx hb dX13_joins_283 rfl ?_
      refine e_isub hx hb dX13_joins_284 ?_
      obtain ⟨S285, h285, hsh⟩ := Option.bind_eq_some_iff.mp hsh
      have ok285 := ok13_takesLines h285
      refine e_callV (nL := 8) (mc := 0) (ms := 0) (T := TX13) (N := 126) (As := [.int (iI ((x1 + 1))), .int (iI (((x1 + x2) - 1)))]) (rest := []) hx hb hml hown hts hp hS hl.size ok285.1 ok285.2.1 ok285.2.2 rfl (by decide) (c13_takesLines l D cA B S S285 (x0) ((x1 + 1)) (((x1 + x2) - 1)) h285) rfl rfl kd13_takesLines (kl13_272) ks13_takesLines kv13_takesLines ki13 kh13_takesLines ⟨Nat.le_of_ble_eq_true rfl, Nat.le_of_ble_eq_true rfl⟩ rfl (by simp [e_rv_cat, e_int_cat]) ⟨Nat.le_refl _, Nat.le_refl _⟩ dX13_joins_285 rfl (fun H locs hp hS => ?_)
      refine e_aload_n (B := B) (x := x0) hx hb dX13_joins_288 rfl (hl.at 0 rfl) ?_
      refine lv_iload_n hx hb dX13_joins_289 rfl (hl.at 1 rfl) ?_
      refine lv_iload hx hb dX13_joins_290 (hl.at 3 rfl) ?_
      obtain ⟨S292, h292, hsh⟩ := Option.bind_eq_some_iff.mp hsh
      have ok292 := ok13_goesNear h292
      refine e_callV (nL := 8) (mc := 0) (ms := 0) (T := TX13) (N := 126) (As := [.int (iI (x1)), .int (iI (x4))]) (rest := []) hx hb hml hown hts hp hS hl.size ok292.1 ok292.2.1 ok292.2.2 rfl (by decide) (c13_goesNear l D cA B S285 S292 (x0) (x1) (x4) h292) rfl rfl kd13_goesNear (kl13_510) ks13_goesNear kv13_goesNear ki13 kh13_goesNear ⟨Nat.le_of_ble_eq_true rfl, Nat.le_of_ble_eq_true rfl⟩ rfl (by simp [e_rv_cat, e_int_cat]) ⟨Nat.le_refl _, Nat.le_refl _⟩ dX13_joins_292 rfl (fun H locs hp hS => ?_)
      refine lv_iconst (v := iI (1)) hx hb dX13_joins_295 rfl ?_
      obtain ⟨hz, hz1, hz2⟩ := zR_some hsh
      rw [← hz1, ← hz2]
      exact e_zret hx hb hrt hlk hp hS hz dX13_joins_296
    · rw [if_neg c128] at hsh
      refine lv_iconst (v := iI (0)) hx hb dX13_joins_131 rfl ?_
      refine e_istore (lv' := [(6, .int (iI (0))), (0, e_rv B (x0)), (1, .int (iI (x1))), (2, .int (iI (x2))), (4, .int (iI (x4))), (5, .int (iI (x5)))]) hx hb dX13_joins_132 hl (by decide) rfl (fun ls hl => ?_)
      exact w13_joins_l134 (hk123 := hk123) E 1000000 hp hS (hl.sub [1, 2, 3, 4, 5, 0] rfl) hsh
set_option maxRecDepth 100000 in
set_option maxHeartbeats 4000000 in
theorem w13_joins_b101 {p : Program} {l : Launch} {e : Env} {s : State} {m : MethodId} {args : Array Value} {below : List Frame} {meth : Method} {c : Code} {D : va_G} {cA : Nat → ClassId} {B : Nat} {res : Int × HP} {k27 : HP → Int → Int → Int → Int → Int → Int → Option (Int × HP)} (hk27 : ∀ {ls : Array Slot} {H : Heap} {locs : List Loc} {S : HP} {x0 : Int} {x1 : Int} {x2 : Int} {x3 : Int} {x4 : Int} {x5 : Int} (hp : e_Pic D cA B S s H) (hS : va_S (e_A B) s.heap H locs) (hl : e_lo ls 8 [(0, e_rv B (x0)), (1, .int (iI (x1))), (2, .int (iI (x2))), (3, .int (iI (x3))), (4, .int (iI (x4))), (5, .int (iI (x5)))]) (hsh : k27 S x0 x1 x2 x3 x4 x5 = some res), W p l e ({ frames := 4, cells := 0, slots := 0, locals := 94 } : Room) s m args below meth c H locs 0 0 (MQ below (e_Qi D cA B res.1 res.2) args s 0 0 (e_A B)) (F0 m 27 ls [])) (E : e_En p s m args meth c cX13_joins RX13 8 (some .boolean)) {ls : Array Slot} {H : Heap} {locs : List Loc} {S : HP} {x0 : Int} {x1 : Int} {x2 : Int} {x4 : Int} {x5 : Int} {y0 : Int} {y1 : Int} {y2 : Int} (hp : e_Pic D cA B S s H) (hS : va_S (e_A B) s.heap H locs) (hl : e_lo ls 8 [(0, e_rv B (x0)), (1, .int (iI (x1))), (2, .int (iI (x2))), (4, .int (iI (x4))), (5, .int (iI (x5)))]) (hsh : s13_joins_b101 k27 S x0 x1 x2 x4 x5 y0 y1 y2 = some res) : W p l e ({ frames := 4, cells := 0, slots := 0, locals := 94 } : Room) s m args below meth c H locs 0 0 (MQ below (e_Qi D cA B res.1 res.2) args s 0 0 (e_A B)) (F0 m 101 ls [.int (iI (y2)), .int (iI (y1)), .int (iI (y0))]) := by
  obtain ⟨hx, hb, hml, hown, hts, hlk, hrt⟩ := id E
  unfold s13_joins_b101 at hsh
  refine e_iadd hx hb dX13_joins_101 ?_
  refine e_iadd hx hb dX13_joins_102 ?_
  refine e_istore_n (lv' := [(3, .int (iI ((y0 + (y1 + y2))))), (0, e_rv B (x0)), (1, .int (iI (x1))), (2, .int (iI (x2))), (4, .int (iI (x4))), (5, .int (iI (x5)))]) hx hb dX13_joins_103 rfl hl (by decide) rfl (fun ls hl => ?_)
  refine e_iinc (n := 1) (x := x5) (lv' := [(5, .int (iI ((x5 + 1)))), (3, .int (iI ((y0 + (y1 + y2))))), (0, e_rv B (x0)), (1, .int (iI (x1))), (2, .int (iI (x2))), (4, .int (iI (x4)))]) hx hb dX13_joins_104 hl (k := 5) rfl (by decide) rfl (fun ls hl => ?_)
  refine lv_goto (tgt := 27) hx hb dX13_joins_107 (by decide) ?_
  exact hk27 hp hS (hl.sub [2, 3, 4, 1, 5, 0] rfl) hsh
set_option maxRecDepth 100000 in
set_option maxHeartbeats 4000000 in
theorem w13_joins_b100 {p : Program} {l : Launch} {e : Env} {s : State} {m : MethodId} {args : Array Value} {below : List Frame} {meth : Method} {c : Code} {D : va_G} {cA : Nat → ClassId} {B : Nat} {res : Int × HP} {k27 : HP → Int → Int → Int → Int → Int → Int → Option (Int × HP)} (hk27 : ∀ {ls : Array Slot} {H : Heap} {locs : List Loc} {S : HP} {x0 : Int} {x1 : Int} {x2 : Int} {x3 : Int} {x4 : Int} {x5 : Int} (hp : e_Pic D cA B S s H) (hS : va_S (e_A B) s.heap H locs) (hl : e_lo ls 8 [(0, e_rv B (x0)), (1, .int (iI (x1))), (2, .int (iI (x2))), (3, .int (iI (x3))), (4, .int (iI (x4))), (5, .int (iI (x5)))]) (hsh : k27 S x0 x1 x2 x3 x4 x5 = some res), W p l e ({ frames := 4, cells := 0, slots := 0, locals := 94 } : Room) s m args below meth c H locs 0 0 (MQ below (e_Qi D cA B res.1 res.2) args s 0 0 (e_A B)) (F0 m 27 ls [])) (E : e_En p s m args meth c cX13_joins RX13 8 (some .boolean)) {ls : Array Slot} {H : Heap} {locs : List Loc} {S : HP} {x0 : Int} {x1 : Int} {x2 : Int} {x4 : Int} {x5 : Int} {y0 : Int} {y1 : Int} (hp : e_Pic D cA B S s H) (hS : va_S (e_A B) s.heap H locs) (hl : e_lo ls 8 [(0, e_rv B (x0)), (1, .int (iI (x1))), (2, .int (iI (x2))), (4, .int (iI (x4))), (5, .int (iI (x5)))]) (hsh : s13_joins_b100 k27 S x0 x1 x2 x4 x5 y0 y1 = some res) : W p l e ({ frames := 4, cells := 0, slots := 0, locals := 94 } : Room) s m args below meth c H locs 0 0 (MQ below (e_Qi D cA B res.1 res.2) args s 0 0 (e_A B)) (F0 m 100 ls [.int (iI (y1)), .int (iI (y0))]) := by
  obtain ⟨hx, hb, hml, hown, hts, hlk, hrt⟩ := id E
  unfold s13_joins_b100 at hsh
  refine lv_iconst (v := iI (0)) hx hb dX13_joins_100 rfl ?_
  exact w13_joins_b101 (hk27 := hk27) E hp hS (hl.sub [0, 1, 2, 3, 4] rfl) hsh
set_option maxRecDepth 100000 in
set_option maxHeartbeats 4000000 in
theorem w13_joins_b69 {p : Program} {l : Launch} {e : Env} {s : State} {m : MethodId} {args : Array Value} {below : List Frame} {meth : Method} {c : Code} {D : va_G} {cA : Nat → ClassId} {B : Nat} {res : Int × HP} {k27 : HP → Int → Int → Int → Int → Int → Int → Option (Int × HP)} (hk27 : ∀ {ls : Array Slot} {H : Heap} {locs : List Loc} {S : HP} {x0 : Int} {x1 : Int} {x2 : Int} {x3 : Int} {x4 : Int} {x5 : Int} (hp : e_Pic D cA B S s H) (hS : va_S (e_A B) s.heap H locs) (hl : e_lo ls 8 [(0, e_rv B (x0)), (1, .int (iI (x1))), (2, .int (iI (x2))), (3, .int (iI (x3))), (4, .int (iI (x4))), (5, .int (iI (x5)))]) (hsh : k27 S x0 x1 x2 x3 x4 x5 = some res), W p l e ({ frames := 4, cells := 0, slots := 0, locals := 94 } : Room) s m args below meth c H locs 0 0 (MQ below (e_Qi D cA B res.1 res.2) args s 0 0 (e_A B)) (F0 m 27 ls [])) (E : e_En p s m args meth c cX13_joins RX13 8 (some .boolean)) {ls : Array Slot} {H : Heap} {locs : List Loc} {S : HP} {x0 : Int} {x1 : Int} {x2 : Int} {x3 : Int} {x5 : Int} {x6 : Int} (hp : e_Pic D cA B S s H) (hS : va_S (e_A B) s.heap H locs) (hl : e_lo ls 8 [(0, e_rv B (x0)), (1, .int (iI (x1))), (2, .int (iI (x2))), (3, .int (iI (x3))), (5, .int (iI (x5))), (6, .int (iI (x6)))]) (hsh : s13_joins_b69 k27 S x0 x1 x2 x3 x5 x6 = some res) : W p l e ({ frames := 4, cells := 0, slots := 0, locals := 94 } : Room) s m args below meth c H locs 0 0 (MQ below (e_Qi D cA B res.1 res.2) args s 0 0 (e_A B)) (F0 m 69 ls []) := by
  obtain ⟨hx, hb, hml, hown, hts, hlk, hrt⟩ := id E
  unfold s13_joins_b69 at hsh
  refine e_aload_n (B := B) (x := x0) hx hb dX13_joins_69 rfl (hl.at 0 rfl) ?_
  obtain ⟨v70, h70, hsh⟩ := Option.bind_eq_some_iff.mp hsh
  refine e_getR (k := 3) hx hb hts in_X13 hown hp h70 rfl (by decide) (by decide) rfl (hts _ kf13_17) rfl dX13_joins_70 ?_
  refine lv_iload hx hb dX13_joins_73 (hl.at 4 rfl) ?_
  obtain ⟨v75, h75, hsh⟩ := Option.bind_eq_some_iff.mp hsh
  refine e_iald hx hb hp h75 dX13_joins_75 ?_
  refine lv_iload hx hb dX13_joins_76 (hl.at 5 rfl) ?_
  refine e_isub hx hb dX13_joins_78 ?_
  refine e_istore (lv' := [(7, .int (iI ((v75 - x6)))), (0, e_rv B (x0)), (1, .int (iI (x1))), (2, .int (iI (x2))), (3, .int (iI (x3))), (5, .int (iI (x5))), (6, .int (iI (x6)))]) hx hb dX13_joins_79 hl (by decide) rfl (fun ls hl => ?_)
  refine lv_iload_n hx hb dX13_joins_81 rfl (hl.at 4 rfl) ?_
  refine e_istore (lv' := [(4, .int (iI (x3))), (7, .int (iI ((v75 - x6)))), (0, e_rv B (x0)), (1, .int (iI (x1))), (2, .int (iI (x2))), (3, .int (iI (x3))), (5, .int (iI (x5))), (6, .int (iI (x6)))]) hx hb dX13_joins_82 hl (by decide) rfl (fun ls hl => ?_)
  refine lv_iload_n hx hb dX13_joins_84 rfl (hl.at 5 rfl) ?_
  refine lv_iload hx hb dX13_joins_85 (hl.at 1 rfl) ?_
  refine lv_iload_n hx hb dX13_joins_87 rfl (hl.at 5 rfl) ?_
  refine e_if_le (tgt := 100) hx hb dX13_joins_88 (by decide) (fun c88 => ?_) (fun c88 => ?_)
  · rw [if_pos c88] at hsh
    exact w13_joins_b100 (hk27 := hk27) E hp hS (hl.sub [2, 3, 4, 0, 6] rfl) hsh
  · rw [if_neg c88] at hsh
    refine lv_iload hx hb dX13_joins_91 (hl.at 1 rfl) ?_
    refine e_if_le (tgt := 100) hx hb dX13_joins_93 (by decide) (fun c93 => ?_) (fun c93 => ?_)
    · rw [if_pos c93] at hsh
      exact w13_joins_b100 (hk27 := hk27) E hp hS (hl.sub [2, 3, 4, 0, 6] rfl) hsh
    · rw [if_neg c93] at hsh
      refine lv_iconst (v := iI (1)) hx hb dX13_joins_96 rfl ?_
      refine lv_goto (tgt := 101) hx hb dX13_joins_97 (by decide) ?_
      exact w13_joins_b101 (hk27 := hk27) E hp hS (hl.sub [2, 3, 4, 0, 6] rfl) hsh
set_option maxRecDepth 100000 in
set_option maxHeartbeats 4000000 in
theorem w13_joins_l38 {p : Program} {l : Launch} {e : Env} {s : State} {m : MethodId} {args : Array Value} {below : List Frame} {meth : Method} {c : Code} {D : va_G} {cA : Nat → ClassId} {B : Nat} {res : Int × HP} {k27 : HP → Int → Int → Int → Int → Int → Int → Option (Int × HP)} (hk27 : ∀ {ls : Array Slot} {H : Heap} {locs : List Loc} {S : HP} {x0 : Int} {x1 : Int} {x2 : Int} {x3 : Int} {x4 : Int} {x5 : Int} (hp : e_Pic D cA B S s H) (hS : va_S (e_A B) s.heap H locs) (hl : e_lo ls 8 [(0, e_rv B (x0)), (1, .int (iI (x1))), (2, .int (iI (x2))), (3, .int (iI (x3))), (4, .int (iI (x4))), (5, .int (iI (x5)))]) (hsh : k27 S x0 x1 x2 x3 x4 x5 = some res), W p l e ({ frames := 4, cells := 0, slots := 0, locals := 94 } : Room) s m args below meth c H locs 0 0 (MQ below (e_Qi D cA B res.1 res.2) args s 0 0 (e_A B)) (F0 m 27 ls [])) (E : e_En p s m args meth c cX13_joins RX13 8 (some .boolean)) : ∀ (f : Nat) {ls : Array Slot} {H : Heap} {locs : List Loc} {S : HP} {x0 : Int} {x1 : Int} {x2 : Int} {x3 : Int} {x5 : Int} {x6 : Int} (hp : e_Pic D cA B S s H) (hS : va_S (e_A B) s.heap H locs) (hl : e_lo ls 8 [(0, e_rv B (x0)), (1, .int (iI (x1))), (2, .int (iI (x2))), (3, .int (iI (x3))), (5, .int (iI (x5))), (6, .int (iI (x6)))]) (hsh : s13_joins_l38 k27 f S x0 x1 x2 x3 x5 x6 = some res), W p l e ({ frames := 4, cells := 0, slots := 0, locals := 94 } : Room) s m args below meth c H locs 0 0 (MQ below (e_Qi D cA B res.1 res.2) args s 0 0 (e_A B)) (F0 m 38 ls []) := by
  obtain ⟨hx, hb, hml, hown, hts, hlk, hrt⟩ := id E
  intro f
  induction f with
  | zero => intro ls H locs S x0 x1 x2 x3 x5 x6 hp hS hl hsh; cases hsh
  | succ f ih =>
    intro ls H locs S x0 x1 x2 x3 x5 x6 hp hS hl hsh
    have hk38 : ∀ {ls : Array Slot} {H : Heap} {locs : List Loc} {S : HP} {x0 : Int} {x1 : Int} {x2 : Int} {x3 : Int} {x5 : Int} {x6 : Int} (hp : e_Pic D cA B S s H) (hS : va_S (e_A B) s.heap H locs) (hl : e_lo ls 8 [(0, e_rv B (x0)), (1, .int (iI (x1))), (2, .int (iI (x2))), (3, .int (iI (x3))), (5, .int (iI (x5))), (6, .int (iI (x6)))]) (hsh : (s13_joins_l38 k27 f) S x0 x1 x2 x3 x5 x6 = some res), W p l e ({ frames := 4, cells := 0, slots := 0, locals := 94 } : Room) s m args below meth c H locs 0 0 (MQ below (e_Qi D cA B res.1 res.2) args s 0 0 (e_A B)) (F0 m 38 ls []) := ih
    generalize hkk : s13_joins_l38 k27 f = k38 at hk38
    rw [s13_joins_l38] at hsh
    rw [hkk] at hsh
    try dsimp only at hsh
    refine lv_iload hx hb dX13_joins_38 (hl.at 5 rfl) ?_
    refine e_aload_n (B := B) (x := x0) hx hb dX13_joins_40 rfl (hl.at 0 rfl) ?_
    obtain ⟨v41, h41, hsh⟩ := Option.bind_eq_some_iff.mp hsh
    refine e_getR (k := 3) hx hb hts in_X13 hown hp h41 rfl (by decide) (by decide) rfl (hts _ kf13_17) rfl dX13_joins_41 ?_
    refine lv_iload hx hb dX13_joins_44 (hl.at 4 rfl) ?_
    obtain ⟨v46, h46, hsh⟩ := Option.bind_eq_some_iff.mp hsh
    refine e_iald hx hb hp h46 dX13_joins_46 ?_
    refine e_icmp_ge (tgt := 69) hx hb dX13_joins_47 (by decide) (fun c47 => ?_) (fun c47 => ?_)
    · rw [if_pos c47] at hsh
      exact w13_joins_b69 (hk27 := hk27) E hp hS (hl.sub [0, 1, 2, 3, 4, 5] rfl) hsh
    · rw [if_neg c47] at hsh
      refine e_aload_n (B := B) (x := x0) hx hb dX13_joins_50 rfl (hl.at 0 rfl) ?_
      refine lv_iload hx hb dX13_joins_51 (hl.at 4 rfl) ?_
      refine lv_iload hx hb dX13_joins_53 (hl.at 5 rfl) ?_
      obtain ⟨⟨v55, S55⟩, h55, hsh⟩ := Option.bind_eq_some_iff.mp hsh
      have hsh : _ = _ := hsh
      try dsimp only at hsh
      have ok55 := ok13_at h55
      refine e_callI (nL := 8) (mc := 0) (ms := 0) (T := TX13) (N := 126) (As := [.int (iI (x5)), .int (iI (x6))]) (rest := []) hx hb hml hown hts hp hS hl.size ok55.1 ok55.2.1 ok55.2.2 rfl (by decide) (c13_at l D cA B S S55 (x0) (x5) (x6) v55 h55) rfl rfl kd13_at (kl13_206) ks13_at kv13_at ki13 kh13_at ⟨Nat.le_of_ble_eq_true rfl, Nat.le_of_ble_eq_true rfl⟩ rfl (by simp [e_rv_cat, e_int_cat]) ⟨Nat.le_refl _, Nat.le_refl _⟩ dX13_joins_55 rfl (fun H locs hp hS => ?_)
      refine lv_bipush (v := iI (32)) hx hb dX13_joins_58 (by decide +kernel) ?_
      refine e_icmp_ne (tgt := 69) hx hb dX13_joins_60 (by decide) (fun c60 => ?_) (fun c60 => ?_)
      · rw [if_neg c60] at hsh
        exact w13_joins_b69 (hk27 := hk27) E hp hS (hl.sub [0, 1, 2, 3, 4, 5] rfl) hsh
      · rw [if_pos c60] at hsh
        refine e_iinc (n := 1) (x := x6) (lv' := [(6, .int (iI ((x6 + 1)))), (0, e_rv B (x0)), (1, .int (iI (x1))), (2, .int (iI (x2))), (3, .int (iI (x3))), (5, .int (iI (x5)))]) hx hb dX13_joins_63 hl (k := 5) rfl (by decide) rfl (fun ls hl => ?_)
        refine lv_goto (tgt := 38) hx hb dX13_joins_66 (by decide) ?_
        exact hk38 hp hS (hl.sub [1, 2, 3, 4, 5, 0] rfl) hsh
set_option maxRecDepth 100000 in
set_option maxHeartbeats 4000000 in
theorem w13_joins_l27 {p : Program} {l : Launch} {e : Env} {s : State} {m : MethodId} {args : Array Value} {below : List Frame} {meth : Method} {c : Code} {D : va_G} {cA : Nat → ClassId} {B : Nat} {res : Int × HP} (E : e_En p s m args meth c cX13_joins RX13 8 (some .boolean)) : ∀ (f : Nat) {ls : Array Slot} {H : Heap} {locs : List Loc} {S : HP} {x0 : Int} {x1 : Int} {x2 : Int} {x3 : Int} {x4 : Int} {x5 : Int} (hp : e_Pic D cA B S s H) (hS : va_S (e_A B) s.heap H locs) (hl : e_lo ls 8 [(0, e_rv B (x0)), (1, .int (iI (x1))), (2, .int (iI (x2))), (3, .int (iI (x3))), (4, .int (iI (x4))), (5, .int (iI (x5)))]) (hsh : s13_joins_l27 f S x0 x1 x2 x3 x4 x5 = some res), W p l e ({ frames := 4, cells := 0, slots := 0, locals := 94 } : Room) s m args below meth c H locs 0 0 (MQ below (e_Qi D cA B res.1 res.2) args s 0 0 (e_A B)) (F0 m 27 ls []) := by
  obtain ⟨hx, hb, hml, hown, hts, hlk, hrt⟩ := id E
  intro f
  induction f with
  | zero => intro ls H locs S x0 x1 x2 x3 x4 x5 hp hS hl hsh; cases hsh
  | succ f ih =>
    intro ls H locs S x0 x1 x2 x3 x4 x5 hp hS hl hsh
    have hk27 : ∀ {ls : Array Slot} {H : Heap} {locs : List Loc} {S : HP} {x0 : Int} {x1 : Int} {x2 : Int} {x3 : Int} {x4 : Int} {x5 : Int} (hp : e_Pic D cA B S s H) (hS : va_S (e_A B) s.heap H locs) (hl : e_lo ls 8 [(0, e_rv B (x0)), (1, .int (iI (x1))), (2, .int (iI (x2))), (3, .int (iI (x3))), (4, .int (iI (x4))), (5, .int (iI (x5)))]) (hsh : (s13_joins_l27 f) S x0 x1 x2 x3 x4 x5 = some res), W p l e ({ frames := 4, cells := 0, slots := 0, locals := 94 } : Room) s m args below meth c H locs 0 0 (MQ below (e_Qi D cA B res.1 res.2) args s 0 0 (e_A B)) (F0 m 27 ls []) := ih
    generalize hkk : s13_joins_l27 f = k27 at hk27
    rw [s13_joins_l27] at hsh
    rw [hkk] at hsh
    try dsimp only at hsh
    refine lv_iload hx hb dX13_joins_27 (hl.at 5 rfl) ?_
    refine lv_iload_n hx hb dX13_joins_29 rfl (hl.at 1 rfl) ?_
    refine lv_iload_n hx hb dX13_joins_30 rfl (hl.at 2 rfl) ?_
    refine e_iadd hx hb dX13_joins_31 ?_
    refine e_icmp_ge (tgt := 110) hx hb dX13_joins_32 (by decide) (fun c32 => ?_) (fun c32 => ?_)
    · rw [if_pos c32] at hsh
      refine lv_iload_n hx hb dX13_joins_110 rfl (hl.at 3 rfl) ?_
      refine lv_bipush (v := iI (60)) hx hb dX13_joins_111 (by decide +kernel) ?_
      refine e_icmp_le (tgt := 118) hx hb dX13_joins_113 (by decide) (fun c113 => ?_) (fun c113 => ?_)
      · rw [if_pos c113] at hsh
        refine lv_iload_n hx hb dX13_joins_118 rfl (hl.at 1 rfl) ?_
        refine lv_iconst (v := iI (1)) hx hb dX13_joins_119 rfl ?_
        refine e_iadd hx hb dX13_joins_120 ?_
        refine e_istore (lv' := [(5, .int (iI ((x1 + 1)))), (0, e_rv B (x0)), (1, .int (iI (x1))), (2, .int (iI (x2))), (3, .int (iI (x3))), (4, .int (iI (x4)))]) hx hb dX13_joins_121 hl (by decide) rfl (fun ls hl => ?_)
        exact w13_joins_l123 E 1000000 hp hS (hl.sub [1, 2, 3, 5, 0] rfl) hsh
      · rw [if_neg c113] at hsh
        refine lv_iconst (v := iI (0)) hx hb dX13_joins_116 rfl ?_
        obtain ⟨hz, hz1, hz2⟩ := zR_some hsh
        rw [← hz1, ← hz2]
        exact e_zret hx hb hrt hlk hp hS hz dX13_joins_117
    · rw [if_neg c32] at hsh
      refine lv_iconst (v := iI (0)) hx hb dX13_joins_35 rfl ?_
      refine e_istore (lv' := [(6, .int (iI (0))), (0, e_rv B (x0)), (1, .int (iI (x1))), (2, .int (iI (x2))), (3, .int (iI (x3))), (4, .int (iI (x4))), (5, .int (iI (x5)))]) hx hb dX13_joins_36 hl (by decide) rfl (fun ls hl => ?_)
      exact w13_joins_l38 (hk27 := hk27) E 1000000 hp hS (hl.sub [1, 2, 3, 4, 6, 0] rfl) hsh
set_option maxRecDepth 100000 in
set_option maxHeartbeats 4000000 in
theorem c13_joins (l : Launch) (D : va_G) (cA : Nat → ClassId) (B : Nat) (S S' : HP) (x0 : Int) (x1 : Int) (x2 : Int) (r : Int) (hsh : s13_joins S x0 x1 x2 = some (r, S')) : Met l yX13_joins (e_wu yX13_joins cX13_joins 8 (some .boolean)) ({ frames := 4, cells := 0, slots := 0, locals := 94 } : Room) (va_Pc [e_rv B (x0), .int (iI (x1)), .int (iI (x2))] (fun U => e_PU D cA B S U)) (e_Qi D cA B r S') 0 0 (e_A B) := by
  refine Met.ofW (cc := cX13_joins) (maxL := 8) (ret := (some .boolean)) (by decide +kernel) rfl ?_
  intro p e s m args below meth c s₁ Bd hml hv
  obtain ⟨rfl, hp⟩ := hv
  have hp : e_Pic D cA B S s s.heap := hp
  have hx := Bd.exec
  have hb := Bd.bytes
  have hrt := Bd.returns
  have hlk := Bd.notSynchronized
  have hown : s.vm.findClass RX13 = some m.cls := findClass_of_methodNamed Bd.named
  have hts : ∀ w ∈ e_tb, w.before ([e_rv B (x0), .int (iI (x1)), .int (iI (x2))] : List Value).toArray s = true := fun w h => atoms_spec (ws := (e_wu yX13_joins cX13_joins 8 (some .boolean))) Bd.pre w (List.mem_cons_of_mem _ h)
  have E : e_En p s m ([e_rv B (x0), .int (iI (x1)), .int (iI (x2))] : List Value).toArray meth c cX13_joins RX13 8 (some .boolean) := ⟨hx, hb, hml, hown, hts, hlk, hrt⟩
  have hS : va_S (e_A B) s.heap s.heap [] := va_S.rf
  have hl := e_entry (vs := [e_rv B (x0), .int (iI (x1)), .int (iI (x2))]) (n := 8) (Nat.le_of_ble_eq_true rfl) (e_cc (e_rv_cat _ _) (e_cc rfl (e_cc rfl e_cn)))
  rw [lg_entry_eq]
  generalize (lg_sl [e_rv B (x0), .int (iI (x1)), .int (iI (x2))] ++ List.replicate (8 - (lg_sl [e_rv B (x0), .int (iI (x1)), .int (iI (x2))]).length) Slot.unset).toArray = ls at hl ⊢
  generalize ([e_rv B (x0), .int (iI (x1)), .int (iI (x2))] : List Value).toArray = args at hts E ⊢
  have hl : e_lo ls 8 [(0, e_rv B (x0)), (1, .int (iI (x1))), (2, .int (iI (x2)))] := hl
  have hsh := (gd_some hsh).2
  refine lv_iload_n hx hb dX13_joins_0 rfl (hl.at 1 rfl) ?_
  refine lv_iload_n hx hb dX13_joins_1 rfl (hl.at 2 rfl) ?_
  refine e_iadd hx hb dX13_joins_2 ?_
  refine e_aload_n (B := B) (x := x0) hx hb dX13_joins_3 rfl (hl.at 0 rfl) ?_
  obtain ⟨v4, h4, hsh⟩ := Option.bind_eq_some_iff.mp hsh
  refine e_getI (k := 2) hx hb hts in_X13 hown hp h4 rfl (by decide) (by decide) rfl (hts _ kf13_13) rfl dX13_joins_4 ?_
  refine e_icmp_le (tgt := 12) hx hb dX13_joins_7 (by decide) (fun c7 => ?_) (fun c7 => ?_)
  · rw [if_pos c7] at hsh
    refine e_aload_n (B := B) (x := x0) hx hb dX13_joins_12 rfl (hl.at 0 rfl) ?_
    obtain ⟨v13, h13, hsh⟩ := Option.bind_eq_some_iff.mp hsh
    refine e_getR (k := 3) hx hb hts in_X13 hown hp h13 rfl (by decide) (by decide) rfl (hts _ kf13_17) rfl dX13_joins_13 ?_
    refine lv_iload_n hx hb dX13_joins_16 rfl (hl.at 1 rfl) ?_
    obtain ⟨v17, h17, hsh⟩ := Option.bind_eq_some_iff.mp hsh
    refine e_iald hx hb hp h17 dX13_joins_17 ?_
    refine e_istore_n (lv' := [(3, .int (iI (v17))), (0, e_rv B (x0)), (1, .int (iI (x1))), (2, .int (iI (x2)))]) hx hb dX13_joins_18 rfl hl (by decide) rfl (fun ls hl => ?_)
    refine lv_iconst (v := iI (0)) hx hb dX13_joins_19 rfl ?_
    refine e_istore (lv' := [(4, .int (iI (0))), (3, .int (iI (v17))), (0, e_rv B (x0)), (1, .int (iI (x1))), (2, .int (iI (x2)))]) hx hb dX13_joins_20 hl (by decide) rfl (fun ls hl => ?_)
    refine lv_iload_n hx hb dX13_joins_22 rfl (hl.at 3 rfl) ?_
    refine lv_iconst (v := iI (1)) hx hb dX13_joins_23 rfl ?_
    refine e_iadd hx hb dX13_joins_24 ?_
    refine e_istore (lv' := [(5, .int (iI ((x1 + 1)))), (4, .int (iI (0))), (3, .int (iI (v17))), (0, e_rv B (x0)), (1, .int (iI (x1))), (2, .int (iI (x2)))]) hx hb dX13_joins_25 hl (by decide) rfl (fun ls hl => ?_)
    exact w13_joins_l27 E 1000000 hp hS (hl.sub [3, 4, 5, 2, 1, 0] rfl) hsh
  · rw [if_neg c7] at hsh
    refine lv_iconst (v := iI (0)) hx hb dX13_joins_10 rfl ?_
    obtain ⟨hz, hz1, hz2⟩ := zR_some hsh
    rw [← hz1, ← hz2]
    exact e_zret hx hb hrt hlk hp hS hz dX13_joins_11
theorem ok13_putsOfSigns {S : HP} {x0 : Int} {x1 : Int} {x2 : Int} {x3 : Int} {r : Int × HP} (h : s13_putsOfSigns S x0 x1 x2 x3 = some r) : 0 ≤ x0 ∧ x0.toNat < e_n S ∧ e_g S x0.toNat = 13 := (gd_some h).1
set_option maxRecDepth 100000 in
set_option maxHeartbeats 4000000 in
theorem w13_putsOfSigns_b28 {p : Program} {l : Launch} {e : Env} {s : State} {m : MethodId} {args : Array Value} {below : List Frame} {meth : Method} {c : Code} {D : va_G} {cA : Nat → ClassId} {B : Nat} {res : Int × HP} (E : e_En p s m args meth c cX13_putsOfSigns RX13 7 (some .boolean)) {ls : Array Slot} {H : Heap} {locs : List Loc} {S : HP} (hp : e_Pic D cA B S s H) (hS : va_S (e_A B) s.heap H locs) (hl : e_lo ls 7 []) (hsh : s13_putsOfSigns_b28 S  = some res) : W p l e ({ frames := 4, cells := 0, slots := 0, locals := 100 } : Room) s m args below meth c H locs 0 0 (MQ below (e_Qi D cA B res.1 res.2) args s 0 0 (e_A B)) (F0 m 28 ls []) := by
  obtain ⟨hx, hb, hml, hown, hts, hlk, hrt⟩ := id E
  unfold s13_putsOfSigns_b28 at hsh
  refine lv_iconst (v := iI (0)) hx hb dX13_putsOfSigns_28 rfl ?_
  obtain ⟨hz, hz1, hz2⟩ := zR_some hsh
  rw [← hz1, ← hz2]
  exact e_zret hx hb hrt hlk hp hS hz dX13_putsOfSigns_29
set_option maxRecDepth 100000 in
set_option maxHeartbeats 4000000 in
theorem w13_putsOfSigns_b71 {p : Program} {l : Launch} {e : Env} {s : State} {m : MethodId} {args : Array Value} {below : List Frame} {meth : Method} {c : Code} {D : va_G} {cA : Nat → ClassId} {B : Nat} {res : Int × HP} (E : e_En p s m args meth c cX13_putsOfSigns RX13 7 (some .boolean)) {ls : Array Slot} {H : Heap} {locs : List Loc} {S : HP} {y0 : Int} {y1 : Int} {y2 : Int} (hp : e_Pic D cA B S s H) (hS : va_S (e_A B) s.heap H locs) (hl : e_lo ls 7 []) (hsh : s13_putsOfSigns_b71 S y0 y1 y2 = some res) : W p l e ({ frames := 4, cells := 0, slots := 0, locals := 100 } : Room) s m args below meth c H locs 0 0 (MQ below (e_Qi D cA B res.1 res.2) args s 0 0 (e_A B)) (F0 m 71 ls [.int (iI (y2)), .int (iI (y1)), e_rv B (y0)]) := by
  obtain ⟨hx, hb, hml, hown, hts, hlk, hrt⟩ := id E
  unfold s13_putsOfSigns_b71 at hsh
  obtain ⟨S71, h71, hsh⟩ := Option.bind_eq_some_iff.mp hsh
  have ok71 := ok13_goesNear h71
  refine e_callV (nL := 7) (mc := 0) (ms := 0) (T := TX13) (N := 126) (As := [.int (iI (y1)), .int (iI (y2))]) (rest := []) hx hb hml hown hts hp hS hl.size ok71.1 ok71.2.1 ok71.2.2 rfl (by decide) (c13_goesNear l D cA B S S71 (y0) (y1) (y2) h71) rfl rfl kd13_goesNear (kl13_510) ks13_goesNear kv13_goesNear ki13 kh13_goesNear ⟨Nat.le_of_ble_eq_true rfl, Nat.le_of_ble_eq_true rfl⟩ rfl (by simp [e_rv_cat, e_int_cat]) ⟨Nat.le_refl _, Nat.le_refl _⟩ dX13_putsOfSigns_71 rfl (fun H locs hp hS => ?_)
  refine lv_iconst (v := iI (1)) hx hb dX13_putsOfSigns_74 rfl ?_
  obtain ⟨hz, hz1, hz2⟩ := zR_some hsh
  rw [← hz1, ← hz2]
  exact e_zret hx hb hrt hlk hp hS hz dX13_putsOfSigns_75
set_option maxRecDepth 100000 in
set_option maxHeartbeats 4000000 in
theorem c13_putsOfSigns (l : Launch) (D : va_G) (cA : Nat → ClassId) (B : Nat) (S S' : HP) (x0 : Int) (x1 : Int) (x2 : Int) (x3 : Int) (r : Int) (hsh : s13_putsOfSigns S x0 x1 x2 x3 = some (r, S')) : Met l yX13_putsOfSigns (e_wu yX13_putsOfSigns cX13_putsOfSigns 7 (some .boolean)) ({ frames := 4, cells := 0, slots := 0, locals := 100 } : Room) (va_Pc [e_rv B (x0), .int (iI (x1)), .int (iI (x2)), .int (iI (x3))] (fun U => e_PU D cA B S U)) (e_Qi D cA B r S') 0 0 (e_A B) := by
  refine Met.ofW (cc := cX13_putsOfSigns) (maxL := 7) (ret := (some .boolean)) (by decide +kernel) rfl ?_
  intro p e s m args below meth c s₁ Bd hml hv
  obtain ⟨rfl, hp⟩ := hv
  have hp : e_Pic D cA B S s s.heap := hp
  have hx := Bd.exec
  have hb := Bd.bytes
  have hrt := Bd.returns
  have hlk := Bd.notSynchronized
  have hown : s.vm.findClass RX13 = some m.cls := findClass_of_methodNamed Bd.named
  have hts : ∀ w ∈ e_tb, w.before ([e_rv B (x0), .int (iI (x1)), .int (iI (x2)), .int (iI (x3))] : List Value).toArray s = true := fun w h => atoms_spec (ws := (e_wu yX13_putsOfSigns cX13_putsOfSigns 7 (some .boolean))) Bd.pre w (List.mem_cons_of_mem _ h)
  have E : e_En p s m ([e_rv B (x0), .int (iI (x1)), .int (iI (x2)), .int (iI (x3))] : List Value).toArray meth c cX13_putsOfSigns RX13 7 (some .boolean) := ⟨hx, hb, hml, hown, hts, hlk, hrt⟩
  have hS : va_S (e_A B) s.heap s.heap [] := va_S.rf
  have hl := e_entry (vs := [e_rv B (x0), .int (iI (x1)), .int (iI (x2)), .int (iI (x3))]) (n := 7) (Nat.le_of_ble_eq_true rfl) (e_cc (e_rv_cat _ _) (e_cc rfl (e_cc rfl (e_cc rfl e_cn))))
  rw [lg_entry_eq]
  generalize (lg_sl [e_rv B (x0), .int (iI (x1)), .int (iI (x2)), .int (iI (x3))] ++ List.replicate (7 - (lg_sl [e_rv B (x0), .int (iI (x1)), .int (iI (x2)), .int (iI (x3))]).length) Slot.unset).toArray = ls at hl ⊢
  generalize ([e_rv B (x0), .int (iI (x1)), .int (iI (x2)), .int (iI (x3))] : List Value).toArray = args at hts E ⊢
  have hl : e_lo ls 7 [(0, e_rv B (x0)), (1, .int (iI (x1))), (2, .int (iI (x2))), (3, .int (iI (x3)))] := hl
  have hsh := (gd_some hsh).2
  refine e_aload_n (B := B) (x := x0) hx hb dX13_putsOfSigns_0 rfl (hl.at 0 rfl) ?_
  refine lv_iload_n hx hb dX13_putsOfSigns_1 rfl (hl.at 1 rfl) ?_
  refine lv_iload_n hx hb dX13_putsOfSigns_2 rfl (hl.at 2 rfl) ?_
  obtain ⟨⟨v3, S3⟩, h3, hsh⟩ := Option.bind_eq_some_iff.mp hsh
  have hsh : _ = _ := hsh
  try dsimp only at hsh
  have ok3 := ok13_repeats h3
  refine e_callI (nL := 7) (mc := 0) (ms := 0) (T := TX13) (N := 126) (As := [.int (iI (x1)), .int (iI (x2))]) (rest := []) hx hb hml hown hts hp hS hl.size ok3.1 ok3.2.1 ok3.2.2 rfl (by decide) (c13_repeats l D cA B S S3 (x0) (x1) (x2) v3 h3) rfl rfl kd13_repeats (kl13_554) ks13_repeats kv13_repeats ki13 kh13_repeats ⟨Nat.le_of_ble_eq_true rfl, Nat.le_of_ble_eq_true rfl⟩ rfl (by simp [e_rv_cat, e_int_cat]) ⟨Nat.le_refl _, Nat.le_refl _⟩ dX13_putsOfSigns_3 rfl (fun H locs hp hS => ?_)
  refine e_istore (lv' := [(4, .int (iI (v3))), (0, e_rv B (x0)), (1, .int (iI (x1))), (2, .int (iI (x2))), (3, .int (iI (x3)))]) hx hb dX13_putsOfSigns_6 hl (by decide) rfl (fun ls hl => ?_)
  refine lv_iload hx hb dX13_putsOfSigns_8 (hl.at 0 rfl) ?_
  refine lv_iconst (v := iI (-1)) hx hb dX13_putsOfSigns_10 rfl ?_
  refine e_icmp_eq (tgt := 28) hx hb dX13_putsOfSigns_11 (by decide) (fun c11 => ?_) (fun c11 => ?_)
  · rw [if_pos c11] at hsh
    exact w13_putsOfSigns_b28 E hp hS (hl.sub [] rfl) hsh
  · rw [if_neg c11] at hsh
    refine e_aload_n (B := B) (x := x0) hx hb dX13_putsOfSigns_14 rfl (hl.at 1 rfl) ?_
    refine e_aload_n (B := B) (x := x0) hx hb dX13_putsOfSigns_15 rfl (hl.at 1 rfl) ?_
    obtain ⟨v16, h16, hsh⟩ := Option.bind_eq_some_iff.mp hsh
    refine e_getI (k := 5) hx hb hts in_X13 hown hp h16 rfl (by decide) (by decide) rfl (hts _ kf13_213) rfl dX13_putsOfSigns_16 ?_
    refine lv_iload_n hx hb dX13_putsOfSigns_19 rfl (hl.at 4 rfl) ?_
    refine lv_iload hx hb dX13_putsOfSigns_20 (hl.at 0 rfl) ?_
    obtain ⟨⟨v22, S22⟩, h22, hsh⟩ := Option.bind_eq_some_iff.mp hsh
    have hsh : _ = _ := hsh
    try dsimp only at hsh
    have ok22 := ok13_fitsSigns h22
    refine e_callI (nL := 7) (mc := 0) (ms := 0) (T := TX13) (N := 126) (As := [.int (iI (v16)), .int (iI (x3)), .int (iI (v3))]) (rest := []) hx hb hml hown hts hp hS hl.size ok22.1 ok22.2.1 ok22.2.2 rfl (by decide) (c13_fitsSigns l D cA B S3 S22 (x0) (v16) (x3) (v3) v22 h22) rfl rfl kd13_fitsSigns (kl13_557) ks13_fitsSigns kv13_fitsSigns ki13 kh13_fitsSigns ⟨Nat.le_of_ble_eq_true rfl, Nat.le_of_ble_eq_true rfl⟩ rfl (by simp [e_rv_cat, e_int_cat]) ⟨Nat.le_refl _, Nat.le_refl _⟩ dX13_putsOfSigns_22 rfl (fun H locs hp hS => ?_)
    refine e_if_ne (tgt := 30) hx hb dX13_putsOfSigns_25 (by decide) (fun c25 => ?_) (fun c25 => ?_)
    · rw [if_neg c25] at hsh
      refine e_aload_n (B := B) (x := x0) hx hb dX13_putsOfSigns_30 rfl (hl.at 1 rfl) ?_
      obtain ⟨v31, h31, hsh⟩ := Option.bind_eq_some_iff.mp hsh
      refine e_getI (k := 5) hx hb hts in_X13 hown hp h31 rfl (by decide) (by decide) rfl (hts _ kf13_213) rfl dX13_putsOfSigns_31 ?_
      refine e_istore (lv' := [(5, .int (iI (v31))), (4, .int (iI (v3))), (0, e_rv B (x0)), (1, .int (iI (x1))), (2, .int (iI (x2))), (3, .int (iI (x3)))]) hx hb dX13_putsOfSigns_34 hl (by decide) rfl (fun ls hl => ?_)
      refine e_aload_n (B := B) (x := x0) hx hb dX13_putsOfSigns_36 rfl (hl.at 2 rfl) ?_
      refine lv_iload hx hb dX13_putsOfSigns_37 (hl.at 1 rfl) ?_
      obtain ⟨⟨v39, S39⟩, h39, hsh⟩ := Option.bind_eq_some_iff.mp hsh
      have hsh : _ = _ := hsh
      try dsimp only at hsh
      have ok39 := ok13_endsIn h39
      refine e_callI (nL := 7) (mc := 0) (ms := 0) (T := TX13) (N := 126) (As := [.int (iI (v3))]) (rest := []) hx hb hml hown hts hp hS hl.size ok39.1 ok39.2.1 ok39.2.2 rfl (by decide) (c13_endsIn l D cA B S22 S39 (x0) (v3) v39 h39) rfl rfl kd13_endsIn (kl13_275) ks13_endsIn kv13_endsIn ki13 kh13_endsIn ⟨Nat.le_of_ble_eq_true rfl, Nat.le_of_ble_eq_true rfl⟩ rfl (by simp [e_rv_cat, e_int_cat]) ⟨Nat.le_refl _, Nat.le_refl _⟩ dX13_putsOfSigns_39 rfl (fun H locs hp hS => ?_)
      refine e_istore (lv' := [(6, .int (iI (v39))), (5, .int (iI (v31))), (4, .int (iI (v3))), (0, e_rv B (x0)), (1, .int (iI (x1))), (2, .int (iI (x2))), (3, .int (iI (x3)))]) hx hb dX13_putsOfSigns_42 hl (by decide) rfl (fun ls hl => ?_)
      refine e_aload_n (B := B) (x := x0) hx hb dX13_putsOfSigns_44 rfl (hl.at 3 rfl) ?_
      refine lv_iload hx hb dX13_putsOfSigns_45 (hl.at 1 rfl) ?_
      refine lv_iload_n hx hb dX13_putsOfSigns_47 rfl (hl.at 6 rfl) ?_
      refine lv_iload hx hb dX13_putsOfSigns_48 (hl.at 2 rfl) ?_
      obtain ⟨S50, h50, hsh⟩ := Option.bind_eq_some_iff.mp hsh
      have ok50 := ok13_putsSigns h50
      refine e_callV (nL := 7) (mc := 0) (ms := 0) (T := TX13) (N := 126) (As := [.int (iI (v31)), .int (iI (x3)), .int (iI (v3))]) (rest := []) hx hb hml hown hts hp hS hl.size ok50.1 ok50.2.1 ok50.2.2 rfl (by decide) (c13_putsSigns l D cA B S39 S50 (x0) (v31) (x3) (v3) h50) rfl rfl kd13_putsSigns (kl13_513) ks13_putsSigns kv13_putsSigns ki13 kh13_putsSigns ⟨Nat.le_of_ble_eq_true rfl, Nat.le_of_ble_eq_true rfl⟩ rfl (by simp [e_rv_cat, e_int_cat]) ⟨Nat.le_refl _, Nat.le_refl _⟩ dX13_putsOfSigns_50 rfl (fun H locs hp hS => ?_)
      refine e_aload_n (B := B) (x := x0) hx hb dX13_putsOfSigns_53 rfl (hl.at 3 rfl) ?_
      refine lv_iload hx hb dX13_putsOfSigns_54 (hl.at 1 rfl) ?_
      refine lv_iload hx hb dX13_putsOfSigns_56 (hl.at 0 rfl) ?_
      refine e_if_le (tgt := 65) hx hb dX13_putsOfSigns_58 (by decide) (fun c58 => ?_) (fun c58 => ?_)
      · rw [if_pos c58] at hsh
        refine lv_iload_n hx hb dX13_putsOfSigns_65 rfl (hl.at 6 rfl) ?_
        refine lv_iload hx hb dX13_putsOfSigns_66 (hl.at 2 rfl) ?_
        refine e_iadd hx hb dX13_putsOfSigns_68 ?_
        refine lv_iconst (v := iI (1)) hx hb dX13_putsOfSigns_69 rfl ?_
        refine e_isub hx hb dX13_putsOfSigns_70 ?_
        exact w13_putsOfSigns_b71 E hp hS (hl.sub [] rfl) hsh
      · rw [if_neg c58] at hsh
        refine lv_iload_n hx hb dX13_putsOfSigns_61 rfl (hl.at 6 rfl) ?_
        refine lv_goto (tgt := 71) hx hb dX13_putsOfSigns_62 (by decide) ?_
        exact w13_putsOfSigns_b71 E hp hS (hl.sub [] rfl) hsh
    · rw [if_pos c25] at hsh
      exact w13_putsOfSigns_b28 E hp hS (hl.sub [] rfl) hsh
theorem ok13_putsOfLines {S : HP} {x0 : Int} {x1 : Int} {x2 : Int} {x3 : Int} {r : Int × HP} (h : s13_putsOfLines S x0 x1 x2 x3 = some r) : 0 ≤ x0 ∧ x0.toNat < e_n S ∧ e_g S x0.toNat = 13 := (gd_some h).1
set_option maxRecDepth 100000 in
set_option maxHeartbeats 4000000 in
theorem w13_putsOfLines_b207 {p : Program} {l : Launch} {e : Env} {s : State} {m : MethodId} {args : Array Value} {below : List Frame} {meth : Method} {c : Code} {D : va_G} {cA : Nat → ClassId} {B : Nat} {res : Int × HP} {k146 : HP → Int → Int → Int → Int → Int → Option (Int × HP)} (hk146 : ∀ {ls : Array Slot} {H : Heap} {locs : List Loc} {S : HP} {x0 : Int} {x3 : Int} {x4 : Int} {x5 : Int} {x7 : Int} (hp : e_Pic D cA B S s H) (hS : va_S (e_A B) s.heap H locs) (hl : e_lo ls 8 [(0, e_rv B (x0)), (3, .int (iI (x3))), (4, .int (iI (x4))), (5, .int (iI (x5))), (7, .int (iI (x7)))]) (hsh : k146 S x0 x3 x4 x5 x7 = some res), W p l e ({ frames := 3, cells := 0, slots := 0, locals := 72 } : Room) s m args below meth c H locs 0 0 (MQ below (e_Qi D cA B res.1 res.2) args s 0 0 (e_A B)) (F0 m 146 ls [])) (E : e_En p s m args meth c cX13_putsOfLines RX13 8 (some .boolean)) {ls : Array Slot} {H : Heap} {locs : List Loc} {S : HP} {x0 : Int} {x3 : Int} {x4 : Int} {x5 : Int} {x7 : Int} (hp : e_Pic D cA B S s H) (hS : va_S (e_A B) s.heap H locs) (hl : e_lo ls 8 [(0, e_rv B (x0)), (3, .int (iI (x3))), (4, .int (iI (x4))), (5, .int (iI (x5))), (7, .int (iI (x7)))]) (hsh : s13_putsOfLines_b207 k146 S x0 x3 x4 x5 x7 = some res) : W p l e ({ frames := 3, cells := 0, slots := 0, locals := 72 } : Room) s m args below meth c H locs 0 0 (MQ below (e_Qi D cA B res.1 res.2) args s 0 0 (e_A B)) (F0 m 207 ls []) := by
  obtain ⟨hx, hb, hml, hown, hts, hlk, hrt⟩ := id E
  unfold s13_putsOfLines_b207 at hsh
  refine e_iinc (n := 1) (x := x7) (lv' := [(7, .int (iI ((x7 + 1)))), (0, e_rv B (x0)), (3, .int (iI (x3))), (4, .int (iI (x4))), (5, .int (iI (x5)))]) hx hb dX13_putsOfLines_207 hl (k := 4) rfl (by decide) rfl (fun ls hl => ?_)
  refine lv_goto (tgt := 146) hx hb dX13_putsOfLines_210 (by decide) ?_
  exact hk146 hp hS (hl.sub [1, 2, 3, 4, 0] rfl) hsh
set_option maxRecDepth 100000 in
set_option maxHeartbeats 4000000 in
theorem w13_putsOfLines_l146 {p : Program} {l : Launch} {e : Env} {s : State} {m : MethodId} {args : Array Value} {below : List Frame} {meth : Method} {c : Code} {D : va_G} {cA : Nat → ClassId} {B : Nat} {res : Int × HP} (E : e_En p s m args meth c cX13_putsOfLines RX13 8 (some .boolean)) : ∀ (f : Nat) {ls : Array Slot} {H : Heap} {locs : List Loc} {S : HP} {x0 : Int} {x3 : Int} {x4 : Int} {x5 : Int} {x7 : Int} (hp : e_Pic D cA B S s H) (hS : va_S (e_A B) s.heap H locs) (hl : e_lo ls 8 [(0, e_rv B (x0)), (3, .int (iI (x3))), (4, .int (iI (x4))), (5, .int (iI (x5))), (7, .int (iI (x7)))]) (hsh : s13_putsOfLines_l146 f S x0 x3 x4 x5 x7 = some res), W p l e ({ frames := 3, cells := 0, slots := 0, locals := 72 } : Room) s m args below meth c H locs 0 0 (MQ below (e_Qi D cA B res.1 res.2) args s 0 0 (e_A B)) (F0 m 146 ls []) := by
  obtain ⟨hx, hb, hml, hown, hts, hlk, hrt⟩ := id E
  intro f
  induction f with
  | zero => intro ls H locs S x0 x3 x4 x5 x7 hp hS hl hsh; cases hsh
  | succ f ih =>
    intro ls H locs S x0 x3 x4 x5 x7 hp hS hl hsh
    have hk146 : ∀ {ls : Array Slot} {H : Heap} {locs : List Loc} {S : HP} {x0 : Int} {x3 : Int} {x4 : Int} {x5 : Int} {x7 : Int} (hp : e_Pic D cA B S s H) (hS : va_S (e_A B) s.heap H locs) (hl : e_lo ls 8 [(0, e_rv B (x0)), (3, .int (iI (x3))), (4, .int (iI (x4))), (5, .int (iI (x5))), (7, .int (iI (x7)))]) (hsh : (s13_putsOfLines_l146 f) S x0 x3 x4 x5 x7 = some res), W p l e ({ frames := 3, cells := 0, slots := 0, locals := 72 } : Room) s m args below meth c H locs 0 0 (MQ below (e_Qi D cA B res.1 res.2) args s 0 0 (e_A B)) (F0 m 146 ls []) := ih
    generalize hkk : s13_putsOfLines_l146 f = k146 at hk146
    rw [s13_putsOfLines_l146] at hsh
    rw [hkk] at hsh
    try dsimp only at hsh
    refine lv_iload hx hb dX13_putsOfLines_146 (hl.at 4 rfl) ?_
    refine lv_iload hx hb dX13_putsOfLines_148 (hl.at 2 rfl) ?_
    refine e_icmp_ge (tgt := 213) hx hb dX13_putsOfLines_150 (by decide) (fun c150 => ?_) (fun c150 => ?_)
    · rw [if_pos c150] at hsh
      refine e_aload_n (B := B) (x := x0) hx hb dX13_putsOfLines_213 rfl (hl.at 0 rfl) ?_
      refine lv_iload_n hx hb dX13_putsOfLines_214 rfl (hl.at 1 rfl) ?_
      obtain ⟨S215, h215, hsh⟩ := Option.bind_eq_some_iff.mp hsh
      have ok215 := ok13_goesTo h215
      refine e_callV (nL := 8) (mc := 0) (ms := 0) (T := TX13) (N := 126) (As := [.int (iI (x3))]) (rest := []) hx hb hml hown hts hp hS hl.size ok215.1 ok215.2.1 ok215.2.2 rfl (by decide) (c13_goesTo l D cA B S S215 (x0) (x3) h215) rfl rfl kd13_goesTo (kl13_507) ks13_goesTo kv13_goesTo ki13 kh13_goesTo ⟨Nat.le_of_ble_eq_true rfl, Nat.le_of_ble_eq_true rfl⟩ rfl (by simp [e_rv_cat, e_int_cat]) ⟨Nat.le_refl _, Nat.le_refl _⟩ dX13_putsOfLines_215 rfl (fun H locs hp hS => ?_)
      refine lv_iconst (v := iI (1)) hx hb dX13_putsOfLines_218 rfl ?_
      obtain ⟨hz, hz1, hz2⟩ := zR_some hsh
      rw [← hz1, ← hz2]
      exact e_zret hx hb hrt hlk hp hS hz dX13_putsOfLines_219
    · rw [if_neg c150] at hsh
      refine e_aload_n (B := B) (x := x0) hx hb dX13_putsOfLines_153 rfl (hl.at 0 rfl) ?_
      obtain ⟨v154, h154, hsh⟩ := Option.bind_eq_some_iff.mp hsh
      refine e_getR (k := 42) hx hb hts in_X13 hown hp h154 rfl (by decide) (by decide) rfl (hts _ kf13_83) rfl dX13_putsOfLines_154 ?_
      refine lv_iload hx hb dX13_putsOfLines_157 (hl.at 4 rfl) ?_
      obtain ⟨v159, h159, hsh⟩ := Option.bind_eq_some_iff.mp hsh
      refine e_iald hx hb hp h159 dX13_putsOfLines_159 ?_
      refine lv_bipush (v := iI (10)) hx hb dX13_putsOfLines_160 (by decide +kernel) ?_
      refine e_icmp_ne (tgt := 171) hx hb dX13_putsOfLines_162 (by decide) (fun c162 => ?_) (fun c162 => ?_)
      · rw [if_neg c162] at hsh
        refine e_aload_n (B := B) (x := x0) hx hb dX13_putsOfLines_171 rfl (hl.at 0 rfl) ?_
        obtain ⟨v172, h172, hsh⟩ := Option.bind_eq_some_iff.mp hsh
        refine e_getR (k := 4) hx hb hts in_X13 hown hp h172 rfl (by decide) (by decide) rfl (hts _ kf13_20) rfl dX13_putsOfLines_172 ?_
        refine lv_bipush (v := iI (60)) hx hb dX13_putsOfLines_175 (by decide +kernel) ?_
        refine lv_iload hx hb dX13_putsOfLines_177 (hl.at 3 rfl) ?_
        refine e_imul hx hb dX13_putsOfLines_179 ?_
        refine e_aload_n (B := B) (x := x0) hx hb dX13_putsOfLines_180 rfl (hl.at 0 rfl) ?_
        obtain ⟨v181, h181, hsh⟩ := Option.bind_eq_some_iff.mp hsh
        refine e_getR (k := 3) hx hb hts in_X13 hown hp h181 rfl (by decide) (by decide) rfl (hts _ kf13_17) rfl dX13_putsOfLines_181 ?_
        refine lv_iload hx hb dX13_putsOfLines_184 (hl.at 3 rfl) ?_
        obtain ⟨v186, h186, hsh⟩ := Option.bind_eq_some_iff.mp hsh
        refine e_iald hx hb hp h186 dX13_putsOfLines_186 ?_
        refine e_iadd hx hb dX13_putsOfLines_187 ?_
        refine e_aload_n (B := B) (x := x0) hx hb dX13_putsOfLines_188 rfl (hl.at 0 rfl) ?_
        obtain ⟨v189, h189, hsh⟩ := Option.bind_eq_some_iff.mp hsh
        refine e_getR (k := 42) hx hb hts in_X13 hown hp h189 rfl (by decide) (by decide) rfl (hts _ kf13_83) rfl dX13_putsOfLines_189 ?_
        refine lv_iload hx hb dX13_putsOfLines_192 (hl.at 4 rfl) ?_
        obtain ⟨v194, h194, hsh⟩ := Option.bind_eq_some_iff.mp hsh
        refine e_iald hx hb hp h194 dX13_putsOfLines_194 ?_
        obtain ⟨S195, h195, hsh⟩ := Option.bind_eq_some_iff.mp hsh
        refine e_iast hx hb hp hS h195 dX13_putsOfLines_195 (fun H locs hp hS => ?_)
        refine e_aload_n (B := B) (x := x0) hx hb dX13_putsOfLines_196 rfl (hl.at 0 rfl) ?_
        obtain ⟨v197, h197, hsh⟩ := Option.bind_eq_some_iff.mp hsh
        refine e_getR (k := 3) hx hb hts in_X13 hown hp h197 rfl (by decide) (by decide) rfl (hts _ kf13_17) rfl dX13_putsOfLines_197 ?_
        refine lv_iload hx hb dX13_putsOfLines_200 (hl.at 3 rfl) ?_
        refine lv_dup2_11 hx hb dX13_putsOfLines_202 rfl (e_rv_cat _ _) ?_
        obtain ⟨v203, h203, hsh⟩ := Option.bind_eq_some_iff.mp hsh
        refine e_iald hx hb hp h203 dX13_putsOfLines_203 ?_
        refine lv_iconst (v := iI (1)) hx hb dX13_putsOfLines_204 rfl ?_
        refine e_iadd hx hb dX13_putsOfLines_205 ?_
        obtain ⟨S206, h206, hsh⟩ := Option.bind_eq_some_iff.mp hsh
        refine e_iast hx hb hp hS h206 dX13_putsOfLines_206 (fun H locs hp hS => ?_)
        exact w13_putsOfLines_b207 (hk146 := hk146) E hp hS (hl.sub [0, 1, 2, 3, 4] rfl) hsh
      · rw [if_pos c162] at hsh
        refine e_iinc (n := 1) (x := x5) (lv' := [(5, .int (iI ((x5 + 1)))), (0, e_rv B (x0)), (3, .int (iI (x3))), (4, .int (iI (x4))), (7, .int (iI (x7)))]) hx hb dX13_putsOfLines_165 hl (k := 3) rfl (by decide) rfl (fun ls hl => ?_)
        refine lv_goto (tgt := 207) hx hb dX13_putsOfLines_168 (by decide) ?_
        exact w13_putsOfLines_b207 (hk146 := hk146) E hp hS (hl.sub [1, 2, 3, 0, 4] rfl) hsh
set_option maxRecDepth 100000 in
set_option maxHeartbeats 4000000 in
theorem w13_putsOfLines_b122 {p : Program} {l : Launch} {e : Env} {s : State} {m : MethodId} {args : Array Value} {below : List Frame} {meth : Method} {c : Code} {D : va_G} {cA : Nat → ClassId} {B : Nat} {res : Int × HP} (E : e_En p s m args meth c cX13_putsOfLines RX13 8 (some .boolean)) {ls : Array Slot} {H : Heap} {locs : List Loc} {S : HP} {x0 : Int} {x3 : Int} {x4 : Int} {x6 : Int} (hp : e_Pic D cA B S s H) (hS : va_S (e_A B) s.heap H locs) (hl : e_lo ls 8 [(0, e_rv B (x0)), (3, .int (iI (x3))), (4, .int (iI (x4))), (6, .int (iI (x6)))]) (hsh : s13_putsOfLines_b122 S x0 x3 x4 x6 = some res) : W p l e ({ frames := 3, cells := 0, slots := 0, locals := 72 } : Room) s m args below meth c H locs 0 0 (MQ below (e_Qi D cA B res.1 res.2) args s 0 0 (e_A B)) (F0 m 122 ls []) := by
  obtain ⟨hx, hb, hml, hown, hts, hlk, hrt⟩ := id E
  unfold s13_putsOfLines_b122 at hsh
  refine lv_iload hx hb dX13_putsOfLines_122 (hl.at 3 rfl) ?_
  refine e_if_ne (tgt := 129) hx hb dX13_putsOfLines_124 (by decide) (fun c124 => ?_) (fun c124 => ?_)
  · rw [if_neg c124] at hsh
    refine e_aload_n (B := B) (x := x0) hx hb dX13_putsOfLines_129 rfl (hl.at 0 rfl) ?_
    refine lv_iload_n hx hb dX13_putsOfLines_130 rfl (hl.at 1 rfl) ?_
    refine e_aload_n (B := B) (x := x0) hx hb dX13_putsOfLines_131 rfl (hl.at 0 rfl) ?_
    refine lv_iload hx hb dX13_putsOfLines_132 (hl.at 2 rfl) ?_
    obtain ⟨⟨v134, S134⟩, h134, hsh⟩ := Option.bind_eq_some_iff.mp hsh
    have hsh : _ = _ := hsh
    try dsimp only at hsh
    have ok134 := ok13_endsIn h134
    refine e_callI (nL := 8) (mc := 0) (ms := 0) (T := TX13) (N := 126) (As := [.int (iI (x4))]) (rest := [.int (iI (x3)), e_rv B (x0)]) hx hb hml hown hts hp hS hl.size ok134.1 ok134.2.1 ok134.2.2 rfl (by decide) (c13_endsIn l D cA B S S134 (x0) (x4) v134 h134) rfl rfl kd13_endsIn (kl13_275) ks13_endsIn kv13_endsIn ki13 kh13_endsIn ⟨Nat.le_of_ble_eq_true rfl, Nat.le_of_ble_eq_true rfl⟩ rfl (by simp [e_rv_cat, e_int_cat]) ⟨Nat.le_refl _, Nat.le_refl _⟩ dX13_putsOfLines_134 rfl (fun H locs hp hS => ?_)
    obtain ⟨S137, h137, hsh⟩ := Option.bind_eq_some_iff.mp hsh
    have ok137 := ok13_putsLines h137
    refine e_callV (nL := 8) (mc := 0) (ms := 0) (T := TX13) (N := 126) (As := [.int (iI (x3)), .int (iI (v134))]) (rest := []) hx hb hml hown hts hp hS hl.size ok137.1 ok137.2.1 ok137.2.2 rfl (by decide) (c13_putsLines l D cA B S134 S137 (x0) (x3) (v134) h137) rfl rfl kd13_putsLines (kl13_278) ks13_putsLines kv13_putsLines ki13 kh13_putsLines ⟨Nat.le_of_ble_eq_true rfl, Nat.le_of_ble_eq_true rfl⟩ rfl (by simp [e_rv_cat, e_int_cat]) ⟨Nat.le_refl _, Nat.le_refl _⟩ dX13_putsOfLines_137 rfl (fun H locs hp hS => ?_)
    refine lv_iload_n hx hb dX13_putsOfLines_140 rfl (hl.at 1 rfl) ?_
    refine e_istore (lv' := [(5, .int (iI (x3))), (0, e_rv B (x0)), (3, .int (iI (x3))), (4, .int (iI (x4))), (6, .int (iI (x6)))]) hx hb dX13_putsOfLines_141 hl (by decide) rfl (fun ls hl => ?_)
    refine lv_iconst (v := iI (0)) hx hb dX13_putsOfLines_143 rfl ?_
    refine e_istore (lv' := [(7, .int (iI (0))), (5, .int (iI (x3))), (0, e_rv B (x0)), (3, .int (iI (x3))), (4, .int (iI (x4))), (6, .int (iI (x6)))]) hx hb dX13_putsOfLines_144 hl (by decide) rfl (fun ls hl => ?_)
    exact w13_putsOfLines_l146 E 1000000 hp hS (hl.sub [2, 3, 4, 1, 0] rfl) hsh
  · rw [if_pos c124] at hsh
    refine lv_iconst (v := iI (0)) hx hb dX13_putsOfLines_127 rfl ?_
    obtain ⟨hz, hz1, hz2⟩ := zR_some hsh
    rw [← hz1, ← hz2]
    exact e_zret hx hb hrt hlk hp hS hz dX13_putsOfLines_128
set_option maxRecDepth 100000 in
set_option maxHeartbeats 4000000 in
theorem w13_putsOfLines_b114 {p : Program} {l : Launch} {e : Env} {s : State} {m : MethodId} {args : Array Value} {below : List Frame} {meth : Method} {c : Code} {D : va_G} {cA : Nat → ClassId} {B : Nat} {res : Int × HP} {k43 : HP → Int → Int → Int → Int → Int → Int → Option (Int × HP)} (hk43 : ∀ {ls : Array Slot} {H : Heap} {locs : List Loc} {S : HP} {x0 : Int} {x3 : Int} {x4 : Int} {x5 : Int} {x6 : Int} {x7 : Int} (hp : e_Pic D cA B S s H) (hS : va_S (e_A B) s.heap H locs) (hl : e_lo ls 8 [(0, e_rv B (x0)), (3, .int (iI (x3))), (4, .int (iI (x4))), (5, .int (iI (x5))), (6, .int (iI (x6))), (7, .int (iI (x7)))]) (hsh : k43 S x0 x3 x4 x5 x6 x7 = some res), W p l e ({ frames := 3, cells := 0, slots := 0, locals := 72 } : Room) s m args below meth c H locs 0 0 (MQ below (e_Qi D cA B res.1 res.2) args s 0 0 (e_A B)) (F0 m 43 ls [])) (E : e_En p s m args meth c cX13_putsOfLines RX13 8 (some .boolean)) {ls : Array Slot} {H : Heap} {locs : List Loc} {S : HP} {x0 : Int} {x3 : Int} {x4 : Int} {x5 : Int} {x7 : Int} {y0 : Int} (hp : e_Pic D cA B S s H) (hS : va_S (e_A B) s.heap H locs) (hl : e_lo ls 8 [(0, e_rv B (x0)), (3, .int (iI (x3))), (4, .int (iI (x4))), (5, .int (iI (x5))), (7, .int (iI (x7)))]) (hsh : s13_putsOfLines_b114 k43 S x0 x3 x4 x5 x7 y0 = some res) : W p l e ({ frames := 3, cells := 0, slots := 0, locals := 72 } : Room) s m args below meth c H locs 0 0 (MQ below (e_Qi D cA B res.1 res.2) args s 0 0 (e_A B)) (F0 m 114 ls [.int (iI (y0))]) := by
  obtain ⟨hx, hb, hml, hown, hts, hlk, hrt⟩ := id E
  unfold s13_putsOfLines_b114 at hsh
  refine e_istore (lv' := [(6, .int (iI (y0))), (0, e_rv B (x0)), (3, .int (iI (x3))), (4, .int (iI (x4))), (5, .int (iI (x5))), (7, .int (iI (x7)))]) hx hb dX13_putsOfLines_114 hl (by decide) rfl (fun ls hl => ?_)
  refine e_iinc (n := 1) (x := x7) (lv' := [(7, .int (iI ((x7 + 1)))), (6, .int (iI (y0))), (0, e_rv B (x0)), (3, .int (iI (x3))), (4, .int (iI (x4))), (5, .int (iI (x5)))]) hx hb dX13_putsOfLines_116 hl (k := 5) rfl (by decide) rfl (fun ls hl => ?_)
  refine lv_goto (tgt := 43) hx hb dX13_putsOfLines_119 (by decide) ?_
  exact hk43 hp hS (hl.sub [2, 3, 4, 5, 1, 0] rfl) hsh
set_option maxRecDepth 100000 in
set_option maxHeartbeats 4000000 in
theorem w13_putsOfLines_b113 {p : Program} {l : Launch} {e : Env} {s : State} {m : MethodId} {args : Array Value} {below : List Frame} {meth : Method} {c : Code} {D : va_G} {cA : Nat → ClassId} {B : Nat} {res : Int × HP} {k43 : HP → Int → Int → Int → Int → Int → Int → Option (Int × HP)} (hk43 : ∀ {ls : Array Slot} {H : Heap} {locs : List Loc} {S : HP} {x0 : Int} {x3 : Int} {x4 : Int} {x5 : Int} {x6 : Int} {x7 : Int} (hp : e_Pic D cA B S s H) (hS : va_S (e_A B) s.heap H locs) (hl : e_lo ls 8 [(0, e_rv B (x0)), (3, .int (iI (x3))), (4, .int (iI (x4))), (5, .int (iI (x5))), (6, .int (iI (x6))), (7, .int (iI (x7)))]) (hsh : k43 S x0 x3 x4 x5 x6 x7 = some res), W p l e ({ frames := 3, cells := 0, slots := 0, locals := 72 } : Room) s m args below meth c H locs 0 0 (MQ below (e_Qi D cA B res.1 res.2) args s 0 0 (e_A B)) (F0 m 43 ls [])) (E : e_En p s m args meth c cX13_putsOfLines RX13 8 (some .boolean)) {ls : Array Slot} {H : Heap} {locs : List Loc} {S : HP} {x0 : Int} {x3 : Int} {x4 : Int} {x5 : Int} {x7 : Int} (hp : e_Pic D cA B S s H) (hS : va_S (e_A B) s.heap H locs) (hl : e_lo ls 8 [(0, e_rv B (x0)), (3, .int (iI (x3))), (4, .int (iI (x4))), (5, .int (iI (x5))), (7, .int (iI (x7)))]) (hsh : s13_putsOfLines_b113 k43 S x0 x3 x4 x5 x7 = some res) : W p l e ({ frames := 3, cells := 0, slots := 0, locals := 72 } : Room) s m args below meth c H locs 0 0 (MQ below (e_Qi D cA B res.1 res.2) args s 0 0 (e_A B)) (F0 m 113 ls []) := by
  obtain ⟨hx, hb, hml, hown, hts, hlk, hrt⟩ := id E
  unfold s13_putsOfLines_b113 at hsh
  refine lv_iconst (v := iI (0)) hx hb dX13_putsOfLines_113 rfl ?_
  exact w13_putsOfLines_b114 (hk43 := hk43) E hp hS (hl.sub [0, 1, 2, 3, 4] rfl) hsh
set_option maxRecDepth 100000 in
set_option maxHeartbeats 4000000 in
theorem w13_putsOfLines_b109 {p : Program} {l : Launch} {e : Env} {s : State} {m : MethodId} {args : Array Value} {below : List Frame} {meth : Method} {c : Code} {D : va_G} {cA : Nat → ClassId} {B : Nat} {res : Int × HP} {k43 : HP → Int → Int → Int → Int → Int → Int → Option (Int × HP)} (hk43 : ∀ {ls : Array Slot} {H : Heap} {locs : List Loc} {S : HP} {x0 : Int} {x3 : Int} {x4 : Int} {x5 : Int} {x6 : Int} {x7 : Int} (hp : e_Pic D cA B S s H) (hS : va_S (e_A B) s.heap H locs) (hl : e_lo ls 8 [(0, e_rv B (x0)), (3, .int (iI (x3))), (4, .int (iI (x4))), (5, .int (iI (x5))), (6, .int (iI (x6))), (7, .int (iI (x7)))]) (hsh : k43 S x0 x3 x4 x5 x6 x7 = some res), W p l e ({ frames := 3, cells := 0, slots := 0, locals := 72 } : Room) s m args below meth c H locs 0 0 (MQ below (e_Qi D cA B res.1 res.2) args s 0 0 (e_A B)) (F0 m 43 ls [])) (E : e_En p s m args meth c cX13_putsOfLines RX13 8 (some .boolean)) {ls : Array Slot} {H : Heap} {locs : List Loc} {S : HP} {x0 : Int} {x3 : Int} {x4 : Int} {x5 : Int} {x7 : Int} (hp : e_Pic D cA B S s H) (hS : va_S (e_A B) s.heap H locs) (hl : e_lo ls 8 [(0, e_rv B (x0)), (3, .int (iI (x3))), (4, .int (iI (x4))), (5, .int (iI (x5))), (7, .int (iI (x7)))]) (hsh : s13_putsOfLines_b109 k43 S x0 x3 x4 x5 x7 = some res) : W p l e ({ frames := 3, cells := 0, slots := 0, locals := 72 } : Room) s m args below meth c H locs 0 0 (MQ below (e_Qi D cA B res.1 res.2) args s 0 0 (e_A B)) (F0 m 109 ls []) := by
  obtain ⟨hx, hb, hml, hown, hts, hlk, hrt⟩ := id E
  unfold s13_putsOfLines_b109 at hsh
  refine lv_iconst (v := iI (1)) hx hb dX13_putsOfLines_109 rfl ?_
  refine lv_goto (tgt := 114) hx hb dX13_putsOfLines_110 (by decide) ?_
  exact w13_putsOfLines_b114 (hk43 := hk43) E hp hS (hl.sub [0, 1, 2, 3, 4] rfl) hsh
set_option maxRecDepth 100000 in
set_option maxHeartbeats 4000000 in
theorem w13_putsOfLines_b75 {p : Program} {l : Launch} {e : Env} {s : State} {m : MethodId} {args : Array Value} {below : List Frame} {meth : Method} {c : Code} {D : va_G} {cA : Nat → ClassId} {B : Nat} {res : Int × HP} {k43 : HP → Int → Int → Int → Int → Int → Int → Option (Int × HP)} (hk43 : ∀ {ls : Array Slot} {H : Heap} {locs : List Loc} {S : HP} {x0 : Int} {x3 : Int} {x4 : Int} {x5 : Int} {x6 : Int} {x7 : Int} (hp : e_Pic D cA B S s H) (hS : va_S (e_A B) s.heap H locs) (hl : e_lo ls 8 [(0, e_rv B (x0)), (3, .int (iI (x3))), (4, .int (iI (x4))), (5, .int (iI (x5))), (6, .int (iI (x6))), (7, .int (iI (x7)))]) (hsh : k43 S x0 x3 x4 x5 x6 x7 = some res), W p l e ({ frames := 3, cells := 0, slots := 0, locals := 72 } : Room) s m args below meth c H locs 0 0 (MQ below (e_Qi D cA B res.1 res.2) args s 0 0 (e_A B)) (F0 m 43 ls [])) (E : e_En p s m args meth c cX13_putsOfLines RX13 8 (some .boolean)) {ls : Array Slot} {H : Heap} {locs : List Loc} {S : HP} {x0 : Int} {x3 : Int} {x4 : Int} {x7 : Int} {y0 : Int} (hp : e_Pic D cA B S s H) (hS : va_S (e_A B) s.heap H locs) (hl : e_lo ls 8 [(0, e_rv B (x0)), (3, .int (iI (x3))), (4, .int (iI (x4))), (7, .int (iI (x7)))]) (hsh : s13_putsOfLines_b75 k43 S x0 x3 x4 x7 y0 = some res) : W p l e ({ frames := 3, cells := 0, slots := 0, locals := 72 } : Room) s m args below meth c H locs 0 0 (MQ below (e_Qi D cA B res.1 res.2) args s 0 0 (e_A B)) (F0 m 75 ls [.int (iI (y0))]) := by
  obtain ⟨hx, hb, hml, hown, hts, hlk, hrt⟩ := id E
  unfold s13_putsOfLines_b75 at hsh
  refine e_istore (lv' := [(5, .int (iI (y0))), (0, e_rv B (x0)), (3, .int (iI (x3))), (4, .int (iI (x4))), (7, .int (iI (x7)))]) hx hb dX13_putsOfLines_75 hl (by decide) rfl (fun ls hl => ?_)
  refine lv_iload hx hb dX13_putsOfLines_77 (hl.at 0 rfl) ?_
  refine lv_bipush (v := iI (60)) hx hb dX13_putsOfLines_79 (by decide +kernel) ?_
  refine e_icmp_gt (tgt := 113) hx hb dX13_putsOfLines_81 (by decide) (fun c81 => ?_) (fun c81 => ?_)
  · rw [if_pos c81] at hsh
    exact w13_putsOfLines_b113 (hk43 := hk43) E hp hS (hl.sub [1, 2, 3, 0, 4] rfl) hsh
  · rw [if_neg c81] at hsh
    refine e_aload_n (B := B) (x := x0) hx hb dX13_putsOfLines_84 rfl (hl.at 1 rfl) ?_
    obtain ⟨v85, h85, hsh⟩ := Option.bind_eq_some_iff.mp hsh
    refine e_getR (k := 42) hx hb hts in_X13 hown hp h85 rfl (by decide) (by decide) rfl (hts _ kf13_83) rfl dX13_putsOfLines_85 ?_
    refine lv_iload hx hb dX13_putsOfLines_88 (hl.at 4 rfl) ?_
    obtain ⟨v90, h90, hsh⟩ := Option.bind_eq_some_iff.mp hsh
    refine e_iald hx hb hp h90 dX13_putsOfLines_90 ?_
    refine lv_bipush (v := iI (10)) hx hb dX13_putsOfLines_91 (by decide +kernel) ?_
    refine e_icmp_eq (tgt := 109) hx hb dX13_putsOfLines_93 (by decide) (fun c93 => ?_) (fun c93 => ?_)
    · rw [if_pos c93] at hsh
      exact w13_putsOfLines_b109 (hk43 := hk43) E hp hS (hl.sub [1, 2, 3, 0, 4] rfl) hsh
    · rw [if_neg c93] at hsh
      refine e_aload_n (B := B) (x := x0) hx hb dX13_putsOfLines_96 rfl (hl.at 1 rfl) ?_
      obtain ⟨v97, h97, hsh⟩ := Option.bind_eq_some_iff.mp hsh
      refine e_getR (k := 42) hx hb hts in_X13 hown hp h97 rfl (by decide) (by decide) rfl (hts _ kf13_83) rfl dX13_putsOfLines_97 ?_
      refine lv_iload hx hb dX13_putsOfLines_100 (hl.at 4 rfl) ?_
      obtain ⟨v102, h102, hsh⟩ := Option.bind_eq_some_iff.mp hsh
      refine e_iald hx hb hp h102 dX13_putsOfLines_102 ?_
      obtain ⟨⟨v103, S103⟩, h103, hsh⟩ := Option.bind_eq_some_iff.mp hsh
      have hsh : _ = _ := hsh
      try dsimp only at hsh
      refine e_callS (nL := 8) (mc := 0) (ms := 0) (As := [.int (iI (v102))]) (rest := []) hx hb hml hown hts hp hS hl.size (c13_isSign l D cA B S S103 (v102) v103 h103) rfl rfl kd13_isSign (kl13_202) ks13_isSign ki13 kh13_isSign ⟨Nat.le_of_ble_eq_true rfl, Nat.le_of_ble_eq_true rfl⟩ rfl (by simp [e_rv_cat, e_int_cat]) ⟨Nat.le_refl _, Nat.le_refl _⟩ dX13_putsOfLines_103 rfl (fun H locs hp hS => ?_)
      refine e_if_eq (tgt := 113) hx hb dX13_putsOfLines_106 (by decide) (fun c106 => ?_) (fun c106 => ?_)
      · rw [if_pos c106] at hsh
        exact w13_putsOfLines_b113 (hk43 := hk43) E hp hS (hl.sub [1, 2, 3, 0, 4] rfl) hsh
      · rw [if_neg c106] at hsh
        exact w13_putsOfLines_b109 (hk43 := hk43) E hp hS (hl.sub [1, 2, 3, 0, 4] rfl) hsh
set_option maxRecDepth 100000 in
set_option maxHeartbeats 4000000 in
theorem w13_putsOfLines_l43 {p : Program} {l : Launch} {e : Env} {s : State} {m : MethodId} {args : Array Value} {below : List Frame} {meth : Method} {c : Code} {D : va_G} {cA : Nat → ClassId} {B : Nat} {res : Int × HP} (E : e_En p s m args meth c cX13_putsOfLines RX13 8 (some .boolean)) : ∀ (f : Nat) {ls : Array Slot} {H : Heap} {locs : List Loc} {S : HP} {x0 : Int} {x3 : Int} {x4 : Int} {x5 : Int} {x6 : Int} {x7 : Int} (hp : e_Pic D cA B S s H) (hS : va_S (e_A B) s.heap H locs) (hl : e_lo ls 8 [(0, e_rv B (x0)), (3, .int (iI (x3))), (4, .int (iI (x4))), (5, .int (iI (x5))), (6, .int (iI (x6))), (7, .int (iI (x7)))]) (hsh : s13_putsOfLines_l43 f S x0 x3 x4 x5 x6 x7 = some res), W p l e ({ frames := 3, cells := 0, slots := 0, locals := 72 } : Room) s m args below meth c H locs 0 0 (MQ below (e_Qi D cA B res.1 res.2) args s 0 0 (e_A B)) (F0 m 43 ls []) := by
  obtain ⟨hx, hb, hml, hown, hts, hlk, hrt⟩ := id E
  intro f
  induction f with
  | zero => intro ls H locs S x0 x3 x4 x5 x6 x7 hp hS hl hsh; cases hsh
  | succ f ih =>
    intro ls H locs S x0 x3 x4 x5 x6 x7 hp hS hl hsh
    have hk43 : ∀ {ls : Array Slot} {H : Heap} {locs : List Loc} {S : HP} {x0 : Int} {x3 : Int} {x4 : Int} {x5 : Int} {x6 : Int} {x7 : Int} (hp : e_Pic D cA B S s H) (hS : va_S (e_A B) s.heap H locs) (hl : e_lo ls 8 [(0, e_rv B (x0)), (3, .int (iI (x3))), (4, .int (iI (x4))), (5, .int (iI (x5))), (6, .int (iI (x6))), (7, .int (iI (x7)))]) (hsh : (s13_putsOfLines_l43 f) S x0 x3 x4 x5 x6 x7 = some res), W p l e ({ frames := 3, cells := 0, slots := 0, locals := 72 } : Room) s m args below meth c H locs 0 0 (MQ below (e_Qi D cA B res.1 res.2) args s 0 0 (e_A B)) (F0 m 43 ls []) := ih
    generalize hkk : s13_putsOfLines_l43 f = k43 at hk43
    rw [s13_putsOfLines_l43] at hsh
    rw [hkk] at hsh
    try dsimp only at hsh
    refine lv_iload hx hb dX13_putsOfLines_43 (hl.at 5 rfl) ?_
    refine lv_iload hx hb dX13_putsOfLines_45 (hl.at 2 rfl) ?_
    refine e_icmp_ge (tgt := 122) hx hb dX13_putsOfLines_47 (by decide) (fun c47 => ?_) (fun c47 => ?_)
    · rw [if_pos c47] at hsh
      exact w13_putsOfLines_b122 E hp hS (hl.sub [0, 1, 2, 4] rfl) hsh
    · rw [if_neg c47] at hsh
      refine lv_iload hx hb dX13_putsOfLines_50 (hl.at 4 rfl) ?_
      refine e_if_eq (tgt := 122) hx hb dX13_putsOfLines_52 (by decide) (fun c52 => ?_) (fun c52 => ?_)
      · rw [if_pos c52] at hsh
        exact w13_putsOfLines_b122 E hp hS (hl.sub [0, 1, 2, 4] rfl) hsh
      · rw [if_neg c52] at hsh
        refine e_aload_n (B := B) (x := x0) hx hb dX13_putsOfLines_55 rfl (hl.at 0 rfl) ?_
        obtain ⟨v56, h56, hsh⟩ := Option.bind_eq_some_iff.mp hsh
        refine e_getR (k := 42) hx hb hts in_X13 hown hp h56 rfl (by decide) (by decide) rfl (hts _ kf13_83) rfl dX13_putsOfLines_56 ?_
        refine lv_iload hx hb dX13_putsOfLines_59 (hl.at 5 rfl) ?_
        obtain ⟨v61, h61, hsh⟩ := Option.bind_eq_some_iff.mp hsh
        refine e_iald hx hb hp h61 dX13_putsOfLines_61 ?_
        refine lv_bipush (v := iI (10)) hx hb dX13_putsOfLines_62 (by decide +kernel) ?_
        refine e_icmp_ne (tgt := 71) hx hb dX13_putsOfLines_64 (by decide) (fun c64 => ?_) (fun c64 => ?_)
        · rw [if_neg c64] at hsh
          refine lv_iload hx hb dX13_putsOfLines_71 (hl.at 3 rfl) ?_
          refine lv_iconst (v := iI (1)) hx hb dX13_putsOfLines_73 rfl ?_
          refine e_iadd hx hb dX13_putsOfLines_74 ?_
          exact w13_putsOfLines_b75 (hk43 := hk43) E hp hS (hl.sub [0, 1, 2, 5] rfl) hsh
        · rw [if_pos c64] at hsh
          refine lv_iconst (v := iI (0)) hx hb dX13_putsOfLines_67 rfl ?_
          refine lv_goto (tgt := 75) hx hb dX13_putsOfLines_68 (by decide) ?_
          exact w13_putsOfLines_b75 (hk43 := hk43) E hp hS (hl.sub [0, 1, 2, 5] rfl) hsh
set_option maxRecDepth 100000 in
set_option maxHeartbeats 4000000 in
theorem w13_putsOfLines_b38 {p : Program} {l : Launch} {e : Env} {s : State} {m : MethodId} {args : Array Value} {below : List Frame} {meth : Method} {c : Code} {D : va_G} {cA : Nat → ClassId} {B : Nat} {res : Int × HP} (E : e_En p s m args meth c cX13_putsOfLines RX13 8 (some .boolean)) {ls : Array Slot} {H : Heap} {locs : List Loc} {S : HP} {x0 : Int} {x3 : Int} {x4 : Int} {x5 : Int} {y0 : Int} (hp : e_Pic D cA B S s H) (hS : va_S (e_A B) s.heap H locs) (hl : e_lo ls 8 [(0, e_rv B (x0)), (3, .int (iI (x3))), (4, .int (iI (x4))), (5, .int (iI (x5)))]) (hsh : s13_putsOfLines_b38 S x0 x3 x4 x5 y0 = some res) : W p l e ({ frames := 3, cells := 0, slots := 0, locals := 72 } : Room) s m args below meth c H locs 0 0 (MQ below (e_Qi D cA B res.1 res.2) args s 0 0 (e_A B)) (F0 m 38 ls [.int (iI (y0))]) := by
  obtain ⟨hx, hb, hml, hown, hts, hlk, hrt⟩ := id E
  unfold s13_putsOfLines_b38 at hsh
  refine e_istore (lv' := [(6, .int (iI (y0))), (0, e_rv B (x0)), (3, .int (iI (x3))), (4, .int (iI (x4))), (5, .int (iI (x5)))]) hx hb dX13_putsOfLines_38 hl (by decide) rfl (fun ls hl => ?_)
  refine lv_iconst (v := iI (0)) hx hb dX13_putsOfLines_40 rfl ?_
  refine e_istore (lv' := [(7, .int (iI (0))), (6, .int (iI (y0))), (0, e_rv B (x0)), (3, .int (iI (x3))), (4, .int (iI (x4))), (5, .int (iI (x5)))]) hx hb dX13_putsOfLines_41 hl (by decide) rfl (fun ls hl => ?_)
  exact w13_putsOfLines_l43 E 1000000 hp hS (hl.sub [2, 3, 4, 5, 1, 0] rfl) hsh
set_option maxRecDepth 100000 in
set_option maxHeartbeats 4000000 in
theorem w13_putsOfLines_b37 {p : Program} {l : Launch} {e : Env} {s : State} {m : MethodId} {args : Array Value} {below : List Frame} {meth : Method} {c : Code} {D : va_G} {cA : Nat → ClassId} {B : Nat} {res : Int × HP} (E : e_En p s m args meth c cX13_putsOfLines RX13 8 (some .boolean)) {ls : Array Slot} {H : Heap} {locs : List Loc} {S : HP} {x0 : Int} {x3 : Int} {x4 : Int} {x5 : Int} (hp : e_Pic D cA B S s H) (hS : va_S (e_A B) s.heap H locs) (hl : e_lo ls 8 [(0, e_rv B (x0)), (3, .int (iI (x3))), (4, .int (iI (x4))), (5, .int (iI (x5)))]) (hsh : s13_putsOfLines_b37 S x0 x3 x4 x5 = some res) : W p l e ({ frames := 3, cells := 0, slots := 0, locals := 72 } : Room) s m args below meth c H locs 0 0 (MQ below (e_Qi D cA B res.1 res.2) args s 0 0 (e_A B)) (F0 m 37 ls []) := by
  obtain ⟨hx, hb, hml, hown, hts, hlk, hrt⟩ := id E
  unfold s13_putsOfLines_b37 at hsh
  refine lv_iconst (v := iI (0)) hx hb dX13_putsOfLines_37 rfl ?_
  exact w13_putsOfLines_b38 E hp hS (hl.sub [0, 1, 2, 3] rfl) hsh
set_option maxRecDepth 100000 in
set_option maxHeartbeats 4000000 in
theorem c13_putsOfLines (l : Launch) (D : va_G) (cA : Nat → ClassId) (B : Nat) (S S' : HP) (x0 : Int) (x1 : Int) (x2 : Int) (x3 : Int) (r : Int) (hsh : s13_putsOfLines S x0 x1 x2 x3 = some (r, S')) : Met l yX13_putsOfLines (e_wu yX13_putsOfLines cX13_putsOfLines 8 (some .boolean)) ({ frames := 3, cells := 0, slots := 0, locals := 72 } : Room) (va_Pc [e_rv B (x0), .int (iI (x1)), .int (iI (x2)), .int (iI (x3))] (fun U => e_PU D cA B S U)) (e_Qi D cA B r S') 0 0 (e_A B) := by
  refine Met.ofW (cc := cX13_putsOfLines) (maxL := 8) (ret := (some .boolean)) (by decide +kernel) rfl ?_
  intro p e s m args below meth c s₁ Bd hml hv
  obtain ⟨rfl, hp⟩ := hv
  have hp : e_Pic D cA B S s s.heap := hp
  have hx := Bd.exec
  have hb := Bd.bytes
  have hrt := Bd.returns
  have hlk := Bd.notSynchronized
  have hown : s.vm.findClass RX13 = some m.cls := findClass_of_methodNamed Bd.named
  have hts : ∀ w ∈ e_tb, w.before ([e_rv B (x0), .int (iI (x1)), .int (iI (x2)), .int (iI (x3))] : List Value).toArray s = true := fun w h => atoms_spec (ws := (e_wu yX13_putsOfLines cX13_putsOfLines 8 (some .boolean))) Bd.pre w (List.mem_cons_of_mem _ h)
  have E : e_En p s m ([e_rv B (x0), .int (iI (x1)), .int (iI (x2)), .int (iI (x3))] : List Value).toArray meth c cX13_putsOfLines RX13 8 (some .boolean) := ⟨hx, hb, hml, hown, hts, hlk, hrt⟩
  have hS : va_S (e_A B) s.heap s.heap [] := va_S.rf
  have hl := e_entry (vs := [e_rv B (x0), .int (iI (x1)), .int (iI (x2)), .int (iI (x3))]) (n := 8) (Nat.le_of_ble_eq_true rfl) (e_cc (e_rv_cat _ _) (e_cc rfl (e_cc rfl (e_cc rfl e_cn))))
  rw [lg_entry_eq]
  generalize (lg_sl [e_rv B (x0), .int (iI (x1)), .int (iI (x2)), .int (iI (x3))] ++ List.replicate (8 - (lg_sl [e_rv B (x0), .int (iI (x1)), .int (iI (x2)), .int (iI (x3))]).length) Slot.unset).toArray = ls at hl ⊢
  generalize ([e_rv B (x0), .int (iI (x1)), .int (iI (x2)), .int (iI (x3))] : List Value).toArray = args at hts E ⊢
  have hl : e_lo ls 8 [(0, e_rv B (x0)), (1, .int (iI (x1))), (2, .int (iI (x2))), (3, .int (iI (x3)))] := hl
  have hsh := (gd_some hsh).2
  refine e_aload_n (B := B) (x := x0) hx hb dX13_putsOfLines_0 rfl (hl.at 0 rfl) ?_
  refine lv_iload_n hx hb dX13_putsOfLines_1 rfl (hl.at 1 rfl) ?_
  refine lv_iload_n hx hb dX13_putsOfLines_2 rfl (hl.at 2 rfl) ?_
  obtain ⟨⟨v3, S3⟩, h3, hsh⟩ := Option.bind_eq_some_iff.mp hsh
  have hsh : _ = _ := hsh
  try dsimp only at hsh
  have ok3 := ok13_repeats h3
  refine e_callI (nL := 8) (mc := 0) (ms := 0) (T := TX13) (N := 126) (As := [.int (iI (x1)), .int (iI (x2))]) (rest := []) hx hb hml hown hts hp hS hl.size ok3.1 ok3.2.1 ok3.2.2 rfl (by decide) (c13_repeats l D cA B S S3 (x0) (x1) (x2) v3 h3) rfl rfl kd13_repeats (kl13_554) ks13_repeats kv13_repeats ki13 kh13_repeats ⟨Nat.le_of_ble_eq_true rfl, Nat.le_of_ble_eq_true rfl⟩ rfl (by simp [e_rv_cat, e_int_cat]) ⟨Nat.le_refl _, Nat.le_refl _⟩ dX13_putsOfLines_3 rfl (fun H locs hp hS => ?_)
  refine e_istore (lv' := [(4, .int (iI (v3))), (0, e_rv B (x0)), (1, .int (iI (x1))), (2, .int (iI (x2))), (3, .int (iI (x3)))]) hx hb dX13_putsOfLines_6 hl (by decide) rfl (fun ls hl => ?_)
  refine lv_iconst (v := iI (0)) hx hb dX13_putsOfLines_8 rfl ?_
  refine e_istore (lv' := [(5, .int (iI (0))), (4, .int (iI (v3))), (0, e_rv B (x0)), (1, .int (iI (x1))), (2, .int (iI (x2))), (3, .int (iI (x3)))]) hx hb dX13_putsOfLines_9 hl (by decide) rfl (fun ls hl => ?_)
  refine lv_iload hx hb dX13_putsOfLines_11 (hl.at 1 rfl) ?_
  refine lv_iconst (v := iI (-1)) hx hb dX13_putsOfLines_13 rfl ?_
  refine e_icmp_eq (tgt := 37) hx hb dX13_putsOfLines_14 (by decide) (fun c14 => ?_) (fun c14 => ?_)
  · rw [if_pos c14] at hsh
    exact w13_putsOfLines_b37 E hp hS (hl.sub [2, 5, 1, 0] rfl) hsh
  · rw [if_neg c14] at hsh
    refine e_aload_n (B := B) (x := x0) hx hb dX13_putsOfLines_17 rfl (hl.at 2 rfl) ?_
    obtain ⟨v18, h18, hsh⟩ := Option.bind_eq_some_iff.mp hsh
    refine e_getI (k := 2) hx hb hts in_X13 hown hp h18 rfl (by decide) (by decide) rfl (hts _ kf13_13) rfl dX13_putsOfLines_18 ?_
    refine e_aload_n (B := B) (x := x0) hx hb dX13_putsOfLines_21 rfl (hl.at 2 rfl) ?_
    refine lv_iload hx hb dX13_putsOfLines_22 (hl.at 1 rfl) ?_
    obtain ⟨⟨v24, S24⟩, h24, hsh⟩ := Option.bind_eq_some_iff.mp hsh
    have hsh : _ = _ := hsh
    try dsimp only at hsh
    have ok24 := ok13_endsIn h24
    refine e_callI (nL := 8) (mc := 0) (ms := 0) (T := TX13) (N := 126) (As := [.int (iI (v3))]) (rest := [.int (iI (v18))]) hx hb hml hown hts hp hS hl.size ok24.1 ok24.2.1 ok24.2.2 rfl (by decide) (c13_endsIn l D cA B S3 S24 (x0) (v3) v24 h24) rfl rfl kd13_endsIn (kl13_275) ks13_endsIn kv13_endsIn ki13 kh13_endsIn ⟨Nat.le_of_ble_eq_true rfl, Nat.le_of_ble_eq_true rfl⟩ rfl (by simp [e_rv_cat, e_int_cat]) ⟨Nat.le_refl _, Nat.le_refl _⟩ dX13_putsOfLines_24 rfl (fun H locs hp hS => ?_)
    refine e_iadd hx hb dX13_putsOfLines_27 ?_
    refine lv_bipush (v := iI (40)) hx hb dX13_putsOfLines_28 (by decide +kernel) ?_
    refine e_icmp_gt (tgt := 37) hx hb dX13_putsOfLines_30 (by decide) (fun c30 => ?_) (fun c30 => ?_)
    · rw [if_pos c30] at hsh
      exact w13_putsOfLines_b37 E hp hS (hl.sub [2, 5, 1, 0] rfl) hsh
    · rw [if_neg c30] at hsh
      refine lv_iconst (v := iI (1)) hx hb dX13_putsOfLines_33 rfl ?_
      refine lv_goto (tgt := 38) hx hb dX13_putsOfLines_34 (by decide) ?_
      exact w13_putsOfLines_b38 E hp hS (hl.sub [2, 5, 1, 0] rfl) hsh
theorem ok13_putsOfRows {S : HP} {x0 : Int} {x1 : Int} {x2 : Int} {x3 : Int} {r : Int × HP} (h : s13_putsOfRows S x0 x1 x2 x3 = some r) : 0 ≤ x0 ∧ x0.toNat < e_n S ∧ e_g S x0.toNat = 13 := (gd_some h).1
set_option maxRecDepth 100000 in
set_option maxHeartbeats 4000000 in
theorem w13_putsOfRows_b365 {p : Program} {l : Launch} {e : Env} {s : State} {m : MethodId} {args : Array Value} {below : List Frame} {meth : Method} {c : Code} {D : va_G} {cA : Nat → ClassId} {B : Nat} {res : Int × HP} {k238 : HP → Int → Int → Int → Int → Int → Int → Int → Option (Int × HP)} (hk238 : ∀ {ls : Array Slot} {H : Heap} {locs : List Loc} {S : HP} {x0 : Int} {x2 : Int} {x3 : Int} {x4 : Int} {x6 : Int} {x8 : Int} {x9 : Int} (hp : e_Pic D cA B S s H) (hS : va_S (e_A B) s.heap H locs) (hl : e_lo ls 12 [(0, e_rv B (x0)), (2, .int (iI (x2))), (3, .int (iI (x3))), (4, .int (iI (x4))), (6, .int (iI (x6))), (8, .int (iI (x8))), (9, .int (iI (x9)))]) (hsh : k238 S x0 x2 x3 x4 x6 x8 x9 = some res), W p l e ({ frames := 4, cells := 0, slots := 0, locals := 100 } : Room) s m args below meth c H locs 0 0 (MQ below (e_Qi D cA B res.1 res.2) args s 0 0 (e_A B)) (F0 m 238 ls [])) {k322 : HP → Int → Int → Int → Int → Int → Int → Int → Int → Int → Option (Int × HP)} (hk322 : ∀ {ls : Array Slot} {H : Heap} {locs : List Loc} {S : HP} {x0 : Int} {x2 : Int} {x3 : Int} {x4 : Int} {x6 : Int} {x8 : Int} {x9 : Int} {x10 : Int} {x11 : Int} (hp : e_Pic D cA B S s H) (hS : va_S (e_A B) s.heap H locs) (hl : e_lo ls 12 [(0, e_rv B (x0)), (2, .int (iI (x2))), (3, .int (iI (x3))), (4, .int (iI (x4))), (6, .int (iI (x6))), (8, .int (iI (x8))), (9, .int (iI (x9))), (10, .int (iI (x10))), (11, .int (iI (x11)))]) (hsh : k322 S x0 x2 x3 x4 x6 x8 x9 x10 x11 = some res), W p l e ({ frames := 4, cells := 0, slots := 0, locals := 100 } : Room) s m args below meth c H locs 0 0 (MQ below (e_Qi D cA B res.1 res.2) args s 0 0 (e_A B)) (F0 m 322 ls [])) (E : e_En p s m args meth c cX13_putsOfRows RX13 12 (some .boolean)) {ls : Array Slot} {H : Heap} {locs : List Loc} {S : HP} {x0 : Int} {x2 : Int} {x3 : Int} {x4 : Int} {x6 : Int} {x8 : Int} {x9 : Int} {x10 : Int} {x11 : Int} {y0 : Int} {y1 : Int} {y2 : Int} (hp : e_Pic D cA B S s H) (hS : va_S (e_A B) s.heap H locs) (hl : e_lo ls 12 [(0, e_rv B (x0)), (2, .int (iI (x2))), (3, .int (iI (x3))), (4, .int (iI (x4))), (6, .int (iI (x6))), (8, .int (iI (x8))), (9, .int (iI (x9))), (10, .int (iI (x10))), (11, .int (iI (x11)))]) (hsh : s13_putsOfRows_b365 k238 k322 S x0 x2 x3 x4 x6 x8 x9 x10 x11 y0 y1 y2 = some res) : W p l e ({ frames := 4, cells := 0, slots := 0, locals := 100 } : Room) s m args below meth c H locs 0 0 (MQ below (e_Qi D cA B res.1 res.2) args s 0 0 (e_A B)) (F0 m 365 ls [.int (iI (y2)), .int (iI (y1)), e_rv B (y0)]) := by
  obtain ⟨hx, hb, hml, hown, hts, hlk, hrt⟩ := id E
  unfold s13_putsOfRows_b365 at hsh
  obtain ⟨S365, h365, hsh⟩ := Option.bind_eq_some_iff.mp hsh
  refine e_iast hx hb hp hS h365 dX13_putsOfRows_365 (fun H locs hp hS => ?_)
  refine e_iinc (n := 1) (x := x11) (lv' := [(11, .int (iI ((x11 + 1)))), (0, e_rv B (x0)), (2, .int (iI (x2))), (3, .int (iI (x3))), (4, .int (iI (x4))), (6, .int (iI (x6))), (8, .int (iI (x8))), (9, .int (iI (x9))), (10, .int (iI (x10)))]) hx hb dX13_putsOfRows_366 hl (k := 8) rfl (by decide) rfl (fun ls hl => ?_)
  refine lv_goto (tgt := 322) hx hb dX13_putsOfRows_369 (by decide) ?_
  exact hk322 hp hS (hl.sub [1, 2, 3, 4, 5, 6, 7, 8, 0] rfl) hsh
set_option maxRecDepth 100000 in
set_option maxHeartbeats 4000000 in
theorem w13_putsOfRows_l322 {p : Program} {l : Launch} {e : Env} {s : State} {m : MethodId} {args : Array Value} {below : List Frame} {meth : Method} {c : Code} {D : va_G} {cA : Nat → ClassId} {B : Nat} {res : Int × HP} {k238 : HP → Int → Int → Int → Int → Int → Int → Int → Option (Int × HP)} (hk238 : ∀ {ls : Array Slot} {H : Heap} {locs : List Loc} {S : HP} {x0 : Int} {x2 : Int} {x3 : Int} {x4 : Int} {x6 : Int} {x8 : Int} {x9 : Int} (hp : e_Pic D cA B S s H) (hS : va_S (e_A B) s.heap H locs) (hl : e_lo ls 12 [(0, e_rv B (x0)), (2, .int (iI (x2))), (3, .int (iI (x3))), (4, .int (iI (x4))), (6, .int (iI (x6))), (8, .int (iI (x8))), (9, .int (iI (x9)))]) (hsh : k238 S x0 x2 x3 x4 x6 x8 x9 = some res), W p l e ({ frames := 4, cells := 0, slots := 0, locals := 100 } : Room) s m args below meth c H locs 0 0 (MQ below (e_Qi D cA B res.1 res.2) args s 0 0 (e_A B)) (F0 m 238 ls [])) (E : e_En p s m args meth c cX13_putsOfRows RX13 12 (some .boolean)) : ∀ (f : Nat) {ls : Array Slot} {H : Heap} {locs : List Loc} {S : HP} {x0 : Int} {x2 : Int} {x3 : Int} {x4 : Int} {x6 : Int} {x8 : Int} {x9 : Int} {x10 : Int} {x11 : Int} (hp : e_Pic D cA B S s H) (hS : va_S (e_A B) s.heap H locs) (hl : e_lo ls 12 [(0, e_rv B (x0)), (2, .int (iI (x2))), (3, .int (iI (x3))), (4, .int (iI (x4))), (6, .int (iI (x6))), (8, .int (iI (x8))), (9, .int (iI (x9))), (10, .int (iI (x10))), (11, .int (iI (x11)))]) (hsh : s13_putsOfRows_l322 k238 f S x0 x2 x3 x4 x6 x8 x9 x10 x11 = some res), W p l e ({ frames := 4, cells := 0, slots := 0, locals := 100 } : Room) s m args below meth c H locs 0 0 (MQ below (e_Qi D cA B res.1 res.2) args s 0 0 (e_A B)) (F0 m 322 ls []) := by
  obtain ⟨hx, hb, hml, hown, hts, hlk, hrt⟩ := id E
  intro f
  induction f with
  | zero => intro ls H locs S x0 x2 x3 x4 x6 x8 x9 x10 x11 hp hS hl hsh; cases hsh
  | succ f ih =>
    intro ls H locs S x0 x2 x3 x4 x6 x8 x9 x10 x11 hp hS hl hsh
    have hk322 : ∀ {ls : Array Slot} {H : Heap} {locs : List Loc} {S : HP} {x0 : Int} {x2 : Int} {x3 : Int} {x4 : Int} {x6 : Int} {x8 : Int} {x9 : Int} {x10 : Int} {x11 : Int} (hp : e_Pic D cA B S s H) (hS : va_S (e_A B) s.heap H locs) (hl : e_lo ls 12 [(0, e_rv B (x0)), (2, .int (iI (x2))), (3, .int (iI (x3))), (4, .int (iI (x4))), (6, .int (iI (x6))), (8, .int (iI (x8))), (9, .int (iI (x9))), (10, .int (iI (x10))), (11, .int (iI (x11)))]) (hsh : (s13_putsOfRows_l322 k238 f) S x0 x2 x3 x4 x6 x8 x9 x10 x11 = some res), W p l e ({ frames := 4, cells := 0, slots := 0, locals := 100 } : Room) s m args below meth c H locs 0 0 (MQ below (e_Qi D cA B res.1 res.2) args s 0 0 (e_A B)) (F0 m 322 ls []) := ih
    generalize hkk : s13_putsOfRows_l322 k238 f = k322 at hk322
    rw [s13_putsOfRows_l322] at hsh
    rw [hkk] at hsh
    try dsimp only at hsh
    refine lv_iload hx hb dX13_putsOfRows_322 (hl.at 8 rfl) ?_
    refine lv_iload_n hx hb dX13_putsOfRows_324 rfl (hl.at 1 rfl) ?_
    refine lv_iload hx hb dX13_putsOfRows_325 (hl.at 4 rfl) ?_
    refine e_imul hx hb dX13_putsOfRows_327 ?_
    refine e_icmp_ge (tgt := 372) hx hb dX13_putsOfRows_328 (by decide) (fun c328 => ?_) (fun c328 => ?_)
    · rw [if_pos c328] at hsh
      refine e_aload_n (B := B) (x := x0) hx hb dX13_putsOfRows_372 rfl (hl.at 0 rfl) ?_
      refine lv_iload hx hb dX13_putsOfRows_373 (hl.at 6 rfl) ?_
      refine lv_iload_n hx hb dX13_putsOfRows_375 rfl (hl.at 2 rfl) ?_
      refine lv_iload_n hx hb dX13_putsOfRows_376 rfl (hl.at 1 rfl) ?_
      refine lv_iload hx hb dX13_putsOfRows_377 (hl.at 4 rfl) ?_
      refine e_imul hx hb dX13_putsOfRows_379 ?_
      obtain ⟨S380, h380, hsh⟩ := Option.bind_eq_some_iff.mp hsh
      have ok380 := ok13_putsSigns h380
      refine e_callV (nL := 12) (mc := 0) (ms := 0) (T := TX13) (N := 126) (As := [.int (iI (x9)), .int (iI (x3)), .int (iI ((x2 * x6)))]) (rest := []) hx hb hml hown hts hp hS hl.size ok380.1 ok380.2.1 ok380.2.2 rfl (by decide) (c13_putsSigns l D cA B S S380 (x0) (x9) (x3) ((x2 * x6)) h380) rfl rfl kd13_putsSigns (kl13_513) ks13_putsSigns kv13_putsSigns ki13 kh13_putsSigns ⟨Nat.le_of_ble_eq_true rfl, Nat.le_of_ble_eq_true rfl⟩ rfl (by simp [e_rv_cat, e_int_cat]) ⟨Nat.le_refl _, Nat.le_refl _⟩ dX13_putsOfRows_380 rfl (fun H locs hp hS => ?_)
      refine lv_iload hx hb dX13_putsOfRows_383 (hl.at 5 rfl) ?_
      refine lv_iload hx hb dX13_putsOfRows_385 (hl.at 7 rfl) ?_
      refine lv_iconst (v := iI (1)) hx hb dX13_putsOfRows_387 rfl ?_
      refine e_iadd hx hb dX13_putsOfRows_388 ?_
      refine e_iadd hx hb dX13_putsOfRows_389 ?_
      refine e_istore (lv' := [(8, .int (iI ((x8 + (x10 + 1))))), (0, e_rv B (x0)), (2, .int (iI (x2))), (3, .int (iI (x3))), (4, .int (iI (x4))), (6, .int (iI (x6))), (9, .int (iI (x9))), (10, .int (iI (x10))), (11, .int (iI (x11)))]) hx hb dX13_putsOfRows_390 hl (by decide) rfl (fun ls hl => ?_)
      refine e_iinc (n := 1) (x := x9) (lv' := [(9, .int (iI ((x9 + 1)))), (8, .int (iI ((x8 + (x10 + 1))))), (0, e_rv B (x0)), (2, .int (iI (x2))), (3, .int (iI (x3))), (4, .int (iI (x4))), (6, .int (iI (x6))), (10, .int (iI (x10))), (11, .int (iI (x11)))]) hx hb dX13_putsOfRows_392 hl (k := 6) rfl (by decide) rfl (fun ls hl => ?_)
      refine lv_goto (tgt := 238) hx hb dX13_putsOfRows_395 (by decide) ?_
      exact hk238 hp hS (hl.sub [2, 3, 4, 5, 6, 1, 0] rfl) hsh
    · rw [if_neg c328] at hsh
      refine e_aload_n (B := B) (x := x0) hx hb dX13_putsOfRows_331 rfl (hl.at 0 rfl) ?_
      obtain ⟨v332, h332, hsh⟩ := Option.bind_eq_some_iff.mp hsh
      refine e_getR (k := 42) hx hb hts in_X13 hown hp h332 rfl (by decide) (by decide) rfl (hts _ kf13_83) rfl dX13_putsOfRows_332 ?_
      refine lv_iload hx hb dX13_putsOfRows_335 (hl.at 8 rfl) ?_
      refine lv_iload hx hb dX13_putsOfRows_337 (hl.at 8 rfl) ?_
      refine lv_iload hx hb dX13_putsOfRows_339 (hl.at 4 rfl) ?_
      obtain ⟨v341, h341, hsh⟩ := Option.bind_eq_some_iff.mp hsh
      refine e_irem hx hb h341 dX13_putsOfRows_341 ?_
      refine lv_iload hx hb dX13_putsOfRows_342 (hl.at 7 rfl) ?_
      refine e_icmp_ge (tgt := 363) hx hb dX13_putsOfRows_344 (by decide) (fun c344 => ?_) (fun c344 => ?_)
      · rw [if_pos c344] at hsh
        refine lv_bipush (v := iI (32)) hx hb dX13_putsOfRows_363 (by decide +kernel) ?_
        exact w13_putsOfRows_b365 (hk238 := hk238) (hk322 := hk322) E hp hS (hl.sub [0, 1, 2, 3, 4, 5, 6, 7, 8] rfl) hsh
      · rw [if_neg c344] at hsh
        refine e_aload_n (B := B) (x := x0) hx hb dX13_putsOfRows_347 rfl (hl.at 0 rfl) ?_
        obtain ⟨v348, h348, hsh⟩ := Option.bind_eq_some_iff.mp hsh
        refine e_getR (k := 13) hx hb hts in_X13 hown hp h348 rfl (by decide) (by decide) rfl (hts _ kf13_30) rfl dX13_putsOfRows_348 ?_
        refine lv_iload hx hb dX13_putsOfRows_351 (hl.at 5 rfl) ?_
        refine lv_iload hx hb dX13_putsOfRows_353 (hl.at 8 rfl) ?_
        refine lv_iload hx hb dX13_putsOfRows_355 (hl.at 4 rfl) ?_
        obtain ⟨v357, h357, hsh⟩ := Option.bind_eq_some_iff.mp hsh
        refine e_irem hx hb h357 dX13_putsOfRows_357 ?_
        refine e_iadd hx hb dX13_putsOfRows_358 ?_
        obtain ⟨v359, h359, hsh⟩ := Option.bind_eq_some_iff.mp hsh
        refine e_iald hx hb hp h359 dX13_putsOfRows_359 ?_
        refine lv_goto (tgt := 365) hx hb dX13_putsOfRows_360 (by decide) ?_
        exact w13_putsOfRows_b365 (hk238 := hk238) (hk322 := hk322) E hp hS (hl.sub [0, 1, 2, 3, 4, 5, 6, 7, 8] rfl) hsh
set_option maxRecDepth 100000 in
set_option maxHeartbeats 4000000 in
theorem w13_putsOfRows_l298 {p : Program} {l : Launch} {e : Env} {s : State} {m : MethodId} {args : Array Value} {below : List Frame} {meth : Method} {c : Code} {D : va_G} {cA : Nat → ClassId} {B : Nat} {res : Int × HP} {k238 : HP → Int → Int → Int → Int → Int → Int → Int → Option (Int × HP)} (hk238 : ∀ {ls : Array Slot} {H : Heap} {locs : List Loc} {S : HP} {x0 : Int} {x2 : Int} {x3 : Int} {x4 : Int} {x6 : Int} {x8 : Int} {x9 : Int} (hp : e_Pic D cA B S s H) (hS : va_S (e_A B) s.heap H locs) (hl : e_lo ls 12 [(0, e_rv B (x0)), (2, .int (iI (x2))), (3, .int (iI (x3))), (4, .int (iI (x4))), (6, .int (iI (x6))), (8, .int (iI (x8))), (9, .int (iI (x9)))]) (hsh : k238 S x0 x2 x3 x4 x6 x8 x9 = some res), W p l e ({ frames := 4, cells := 0, slots := 0, locals := 100 } : Room) s m args below meth c H locs 0 0 (MQ below (e_Qi D cA B res.1 res.2) args s 0 0 (e_A B)) (F0 m 238 ls [])) (E : e_En p s m args meth c cX13_putsOfRows RX13 12 (some .boolean)) : ∀ (f : Nat) {ls : Array Slot} {H : Heap} {locs : List Loc} {S : HP} {x0 : Int} {x2 : Int} {x3 : Int} {x4 : Int} {x6 : Int} {x8 : Int} {x9 : Int} {x10 : Int} (hp : e_Pic D cA B S s H) (hS : va_S (e_A B) s.heap H locs) (hl : e_lo ls 12 [(0, e_rv B (x0)), (2, .int (iI (x2))), (3, .int (iI (x3))), (4, .int (iI (x4))), (6, .int (iI (x6))), (8, .int (iI (x8))), (9, .int (iI (x9))), (10, .int (iI (x10)))]) (hsh : s13_putsOfRows_l298 k238 f S x0 x2 x3 x4 x6 x8 x9 x10 = some res), W p l e ({ frames := 4, cells := 0, slots := 0, locals := 100 } : Room) s m args below meth c H locs 0 0 (MQ below (e_Qi D cA B res.1 res.2) args s 0 0 (e_A B)) (F0 m 298 ls []) := by
  obtain ⟨hx, hb, hml, hown, hts, hlk, hrt⟩ := id E
  intro f
  induction f with
  | zero => intro ls H locs S x0 x2 x3 x4 x6 x8 x9 x10 hp hS hl hsh; cases hsh
  | succ f ih =>
    intro ls H locs S x0 x2 x3 x4 x6 x8 x9 x10 hp hS hl hsh
    have hk298 : ∀ {ls : Array Slot} {H : Heap} {locs : List Loc} {S : HP} {x0 : Int} {x2 : Int} {x3 : Int} {x4 : Int} {x6 : Int} {x8 : Int} {x9 : Int} {x10 : Int} (hp : e_Pic D cA B S s H) (hS : va_S (e_A B) s.heap H locs) (hl : e_lo ls 12 [(0, e_rv B (x0)), (2, .int (iI (x2))), (3, .int (iI (x3))), (4, .int (iI (x4))), (6, .int (iI (x6))), (8, .int (iI (x8))), (9, .int (iI (x9))), (10, .int (iI (x10)))]) (hsh : (s13_putsOfRows_l298 k238 f) S x0 x2 x3 x4 x6 x8 x9 x10 = some res), W p l e ({ frames := 4, cells := 0, slots := 0, locals := 100 } : Room) s m args below meth c H locs 0 0 (MQ below (e_Qi D cA B res.1 res.2) args s 0 0 (e_A B)) (F0 m 298 ls []) := ih
    generalize hkk : s13_putsOfRows_l298 k238 f = k298 at hk298
    rw [s13_putsOfRows_l298] at hsh
    rw [hkk] at hsh
    try dsimp only at hsh
    refine e_aload_n (B := B) (x := x0) hx hb dX13_putsOfRows_298 rfl (hl.at 0 rfl) ?_
    obtain ⟨v299, h299, hsh⟩ := Option.bind_eq_some_iff.mp hsh
    refine e_getR (k := 13) hx hb hts in_X13 hown hp h299 rfl (by decide) (by decide) rfl (hts _ kf13_30) rfl dX13_putsOfRows_299 ?_
    refine lv_iload hx hb dX13_putsOfRows_302 (hl.at 5 rfl) ?_
    refine lv_iload hx hb dX13_putsOfRows_304 (hl.at 7 rfl) ?_
    refine e_iadd hx hb dX13_putsOfRows_306 ?_
    obtain ⟨v307, h307, hsh⟩ := Option.bind_eq_some_iff.mp hsh
    refine e_iald hx hb hp h307 dX13_putsOfRows_307 ?_
    refine lv_bipush (v := iI (10)) hx hb dX13_putsOfRows_308 (by decide +kernel) ?_
    refine e_icmp_eq (tgt := 319) hx hb dX13_putsOfRows_310 (by decide) (fun c310 => ?_) (fun c310 => ?_)
    · rw [if_pos c310] at hsh
      refine lv_iconst (v := iI (0)) hx hb dX13_putsOfRows_319 rfl ?_
      refine e_istore (lv' := [(11, .int (iI (0))), (0, e_rv B (x0)), (2, .int (iI (x2))), (3, .int (iI (x3))), (4, .int (iI (x4))), (6, .int (iI (x6))), (8, .int (iI (x8))), (9, .int (iI (x9))), (10, .int (iI (x10)))]) hx hb dX13_putsOfRows_320 hl (by decide) rfl (fun ls hl => ?_)
      exact w13_putsOfRows_l322 (hk238 := hk238) E 1000000 hp hS (hl.sub [1, 2, 3, 4, 5, 6, 7, 8, 0] rfl) hsh
    · rw [if_neg c310] at hsh
      refine e_iinc (n := 1) (x := x10) (lv' := [(10, .int (iI ((x10 + 1)))), (0, e_rv B (x0)), (2, .int (iI (x2))), (3, .int (iI (x3))), (4, .int (iI (x4))), (6, .int (iI (x6))), (8, .int (iI (x8))), (9, .int (iI (x9)))]) hx hb dX13_putsOfRows_313 hl (k := 7) rfl (by decide) rfl (fun ls hl => ?_)
      refine lv_goto (tgt := 298) hx hb dX13_putsOfRows_316 (by decide) ?_
      exact hk298 hp hS (hl.sub [1, 2, 3, 4, 5, 6, 7, 0] rfl) hsh
set_option maxRecDepth 100000 in
set_option maxHeartbeats 4000000 in
theorem w13_putsOfRows_l250 {p : Program} {l : Launch} {e : Env} {s : State} {m : MethodId} {args : Array Value} {below : List Frame} {meth : Method} {c : Code} {D : va_G} {cA : Nat → ClassId} {B : Nat} {res : Int × HP} {k238 : HP → Int → Int → Int → Int → Int → Int → Int → Option (Int × HP)} (hk238 : ∀ {ls : Array Slot} {H : Heap} {locs : List Loc} {S : HP} {x0 : Int} {x2 : Int} {x3 : Int} {x4 : Int} {x6 : Int} {x8 : Int} {x9 : Int} (hp : e_Pic D cA B S s H) (hS : va_S (e_A B) s.heap H locs) (hl : e_lo ls 12 [(0, e_rv B (x0)), (2, .int (iI (x2))), (3, .int (iI (x3))), (4, .int (iI (x4))), (6, .int (iI (x6))), (8, .int (iI (x8))), (9, .int (iI (x9)))]) (hsh : k238 S x0 x2 x3 x4 x6 x8 x9 = some res), W p l e ({ frames := 4, cells := 0, slots := 0, locals := 100 } : Room) s m args below meth c H locs 0 0 (MQ below (e_Qi D cA B res.1 res.2) args s 0 0 (e_A B)) (F0 m 238 ls [])) (E : e_En p s m args meth c cX13_putsOfRows RX13 12 (some .boolean)) : ∀ (f : Nat) {ls : Array Slot} {H : Heap} {locs : List Loc} {S : HP} {x0 : Int} {x2 : Int} {x3 : Int} {x4 : Int} {x6 : Int} {x8 : Int} {x9 : Int} (hp : e_Pic D cA B S s H) (hS : va_S (e_A B) s.heap H locs) (hl : e_lo ls 12 [(0, e_rv B (x0)), (2, .int (iI (x2))), (3, .int (iI (x3))), (4, .int (iI (x4))), (6, .int (iI (x6))), (8, .int (iI (x8))), (9, .int (iI (x9)))]) (hsh : s13_putsOfRows_l250 k238 f S x0 x2 x3 x4 x6 x8 x9 = some res), W p l e ({ frames := 4, cells := 0, slots := 0, locals := 100 } : Room) s m args below meth c H locs 0 0 (MQ below (e_Qi D cA B res.1 res.2) args s 0 0 (e_A B)) (F0 m 250 ls []) := by
  obtain ⟨hx, hb, hml, hown, hts, hlk, hrt⟩ := id E
  intro f
  induction f with
  | zero => intro ls H locs S x0 x2 x3 x4 x6 x8 x9 hp hS hl hsh; cases hsh
  | succ f ih =>
    intro ls H locs S x0 x2 x3 x4 x6 x8 x9 hp hS hl hsh
    have hk250 : ∀ {ls : Array Slot} {H : Heap} {locs : List Loc} {S : HP} {x0 : Int} {x2 : Int} {x3 : Int} {x4 : Int} {x6 : Int} {x8 : Int} {x9 : Int} (hp : e_Pic D cA B S s H) (hS : va_S (e_A B) s.heap H locs) (hl : e_lo ls 12 [(0, e_rv B (x0)), (2, .int (iI (x2))), (3, .int (iI (x3))), (4, .int (iI (x4))), (6, .int (iI (x6))), (8, .int (iI (x8))), (9, .int (iI (x9)))]) (hsh : (s13_putsOfRows_l250 k238 f) S x0 x2 x3 x4 x6 x8 x9 = some res), W p l e ({ frames := 4, cells := 0, slots := 0, locals := 100 } : Room) s m args below meth c H locs 0 0 (MQ below (e_Qi D cA B res.1 res.2) args s 0 0 (e_A B)) (F0 m 250 ls []) := ih
    generalize hkk : s13_putsOfRows_l250 k238 f = k250 at hk250
    rw [s13_putsOfRows_l250] at hsh
    rw [hkk] at hsh
    try dsimp only at hsh
    refine e_aload_n (B := B) (x := x0) hx hb dX13_putsOfRows_250 rfl (hl.at 0 rfl) ?_
    obtain ⟨v251, h251, hsh⟩ := Option.bind_eq_some_iff.mp hsh
    refine e_getR (k := 3) hx hb hts in_X13 hown hp h251 rfl (by decide) (by decide) rfl (hts _ kf13_17) rfl dX13_putsOfRows_251 ?_
    refine lv_iload hx hb dX13_putsOfRows_254 (hl.at 6 rfl) ?_
    obtain ⟨v256, h256, hsh⟩ := Option.bind_eq_some_iff.mp hsh
    refine e_iald hx hb hp h256 dX13_putsOfRows_256 ?_
    refine lv_iload_n hx hb dX13_putsOfRows_257 rfl (hl.at 2 rfl) ?_
    refine e_icmp_ge (tgt := 295) hx hb dX13_putsOfRows_258 (by decide) (fun c258 => ?_) (fun c258 => ?_)
    · rw [if_pos c258] at hsh
      refine lv_iconst (v := iI (0)) hx hb dX13_putsOfRows_295 rfl ?_
      refine e_istore (lv' := [(10, .int (iI (0))), (0, e_rv B (x0)), (2, .int (iI (x2))), (3, .int (iI (x3))), (4, .int (iI (x4))), (6, .int (iI (x6))), (8, .int (iI (x8))), (9, .int (iI (x9)))]) hx hb dX13_putsOfRows_296 hl (by decide) rfl (fun ls hl => ?_)
      exact w13_putsOfRows_l298 (hk238 := hk238) E 1000000 hp hS (hl.sub [1, 2, 3, 4, 5, 6, 7, 0] rfl) hsh
    · rw [if_neg c258] at hsh
      refine e_aload_n (B := B) (x := x0) hx hb dX13_putsOfRows_261 rfl (hl.at 0 rfl) ?_
      obtain ⟨v262, h262, hsh⟩ := Option.bind_eq_some_iff.mp hsh
      refine e_getR (k := 4) hx hb hts in_X13 hown hp h262 rfl (by decide) (by decide) rfl (hts _ kf13_20) rfl dX13_putsOfRows_262 ?_
      refine lv_bipush (v := iI (60)) hx hb dX13_putsOfRows_265 (by decide +kernel) ?_
      refine lv_iload hx hb dX13_putsOfRows_267 (hl.at 6 rfl) ?_
      refine e_imul hx hb dX13_putsOfRows_269 ?_
      refine e_aload_n (B := B) (x := x0) hx hb dX13_putsOfRows_270 rfl (hl.at 0 rfl) ?_
      obtain ⟨v271, h271, hsh⟩ := Option.bind_eq_some_iff.mp hsh
      refine e_getR (k := 3) hx hb hts in_X13 hown hp h271 rfl (by decide) (by decide) rfl (hts _ kf13_17) rfl dX13_putsOfRows_271 ?_
      refine lv_iload hx hb dX13_putsOfRows_274 (hl.at 6 rfl) ?_
      obtain ⟨v276, h276, hsh⟩ := Option.bind_eq_some_iff.mp hsh
      refine e_iald hx hb hp h276 dX13_putsOfRows_276 ?_
      refine e_iadd hx hb dX13_putsOfRows_277 ?_
      refine lv_bipush (v := iI (32)) hx hb dX13_putsOfRows_278 (by decide +kernel) ?_
      obtain ⟨S280, h280, hsh⟩ := Option.bind_eq_some_iff.mp hsh
      refine e_iast hx hb hp hS h280 dX13_putsOfRows_280 (fun H locs hp hS => ?_)
      refine e_aload_n (B := B) (x := x0) hx hb dX13_putsOfRows_281 rfl (hl.at 0 rfl) ?_
      obtain ⟨v282, h282, hsh⟩ := Option.bind_eq_some_iff.mp hsh
      refine e_getR (k := 3) hx hb hts in_X13 hown hp h282 rfl (by decide) (by decide) rfl (hts _ kf13_17) rfl dX13_putsOfRows_282 ?_
      refine lv_iload hx hb dX13_putsOfRows_285 (hl.at 6 rfl) ?_
      refine lv_dup2_11 hx hb dX13_putsOfRows_287 rfl (e_rv_cat _ _) ?_
      obtain ⟨v288, h288, hsh⟩ := Option.bind_eq_some_iff.mp hsh
      refine e_iald hx hb hp h288 dX13_putsOfRows_288 ?_
      refine lv_iconst (v := iI (1)) hx hb dX13_putsOfRows_289 rfl ?_
      refine e_iadd hx hb dX13_putsOfRows_290 ?_
      obtain ⟨S291, h291, hsh⟩ := Option.bind_eq_some_iff.mp hsh
      refine e_iast hx hb hp hS h291 dX13_putsOfRows_291 (fun H locs hp hS => ?_)
      refine lv_goto (tgt := 250) hx hb dX13_putsOfRows_292 (by decide) ?_
      exact hk250 hp hS (hl.sub [0, 1, 2, 3, 4, 5, 6] rfl) hsh
set_option maxRecDepth 100000 in
set_option maxHeartbeats 4000000 in
theorem w13_putsOfRows_l238 {p : Program} {l : Launch} {e : Env} {s : State} {m : MethodId} {args : Array Value} {below : List Frame} {meth : Method} {c : Code} {D : va_G} {cA : Nat → ClassId} {B : Nat} {res : Int × HP} (E : e_En p s m args meth c cX13_putsOfRows RX13 12 (some .boolean)) : ∀ (f : Nat) {ls : Array Slot} {H : Heap} {locs : List Loc} {S : HP} {x0 : Int} {x2 : Int} {x3 : Int} {x4 : Int} {x6 : Int} {x8 : Int} {x9 : Int} (hp : e_Pic D cA B S s H) (hS : va_S (e_A B) s.heap H locs) (hl : e_lo ls 12 [(0, e_rv B (x0)), (2, .int (iI (x2))), (3, .int (iI (x3))), (4, .int (iI (x4))), (6, .int (iI (x6))), (8, .int (iI (x8))), (9, .int (iI (x9)))]) (hsh : s13_putsOfRows_l238 f S x0 x2 x3 x4 x6 x8 x9 = some res), W p l e ({ frames := 4, cells := 0, slots := 0, locals := 100 } : Room) s m args below meth c H locs 0 0 (MQ below (e_Qi D cA B res.1 res.2) args s 0 0 (e_A B)) (F0 m 238 ls []) := by
  obtain ⟨hx, hb, hml, hown, hts, hlk, hrt⟩ := id E
  intro f
  induction f with
  | zero => intro ls H locs S x0 x2 x3 x4 x6 x8 x9 hp hS hl hsh; cases hsh
  | succ f ih =>
    intro ls H locs S x0 x2 x3 x4 x6 x8 x9 hp hS hl hsh
    have hk238 : ∀ {ls : Array Slot} {H : Heap} {locs : List Loc} {S : HP} {x0 : Int} {x2 : Int} {x3 : Int} {x4 : Int} {x6 : Int} {x8 : Int} {x9 : Int} (hp : e_Pic D cA B S s H) (hS : va_S (e_A B) s.heap H locs) (hl : e_lo ls 12 [(0, e_rv B (x0)), (2, .int (iI (x2))), (3, .int (iI (x3))), (4, .int (iI (x4))), (6, .int (iI (x6))), (8, .int (iI (x8))), (9, .int (iI (x9)))]) (hsh : (s13_putsOfRows_l238 f) S x0 x2 x3 x4 x6 x8 x9 = some res), W p l e ({ frames := 4, cells := 0, slots := 0, locals := 100 } : Room) s m args below meth c H locs 0 0 (MQ below (e_Qi D cA B res.1 res.2) args s 0 0 (e_A B)) (F0 m 238 ls []) := ih
    generalize hkk : s13_putsOfRows_l238 f = k238 at hk238
    rw [s13_putsOfRows_l238] at hsh
    rw [hkk] at hsh
    try dsimp only at hsh
    refine lv_iload hx hb dX13_putsOfRows_238 (hl.at 6 rfl) ?_
    refine e_aload_n (B := B) (x := x0) hx hb dX13_putsOfRows_240 rfl (hl.at 0 rfl) ?_
    obtain ⟨v241, h241, hsh⟩ := Option.bind_eq_some_iff.mp hsh
    refine e_getI (k := 5) hx hb hts in_X13 hown hp h241 rfl (by decide) (by decide) rfl (hts _ kf13_213) rfl dX13_putsOfRows_241 ?_
    refine lv_iload hx hb dX13_putsOfRows_244 (hl.at 3 rfl) ?_
    refine e_iadd hx hb dX13_putsOfRows_246 ?_
    refine e_icmp_ge (tgt := 398) hx hb dX13_putsOfRows_247 (by decide) (fun c247 => ?_) (fun c247 => ?_)
    · rw [if_pos c247] at hsh
      refine e_aload_n (B := B) (x := x0) hx hb dX13_putsOfRows_398 rfl (hl.at 0 rfl) ?_
      refine e_aload_n (B := B) (x := x0) hx hb dX13_putsOfRows_399 rfl (hl.at 0 rfl) ?_
      obtain ⟨v400, h400, hsh⟩ := Option.bind_eq_some_iff.mp hsh
      refine e_getI (k := 5) hx hb hts in_X13 hown hp h400 rfl (by decide) (by decide) rfl (hts _ kf13_213) rfl dX13_putsOfRows_400 ?_
      refine lv_iload_n hx hb dX13_putsOfRows_403 rfl (hl.at 2 rfl) ?_
      obtain ⟨S404, h404, hsh⟩ := Option.bind_eq_some_iff.mp hsh
      have ok404 := ok13_goesNear h404
      refine e_callV (nL := 12) (mc := 0) (ms := 0) (T := TX13) (N := 126) (As := [.int (iI (v400)), .int (iI (x3))]) (rest := []) hx hb hml hown hts hp hS hl.size ok404.1 ok404.2.1 ok404.2.2 rfl (by decide) (c13_goesNear l D cA B S S404 (x0) (v400) (x3) h404) rfl rfl kd13_goesNear (kl13_510) ks13_goesNear kv13_goesNear ki13 kh13_goesNear ⟨Nat.le_of_ble_eq_true rfl, Nat.le_of_ble_eq_true rfl⟩ rfl (by simp [e_rv_cat, e_int_cat]) ⟨Nat.le_refl _, Nat.le_refl _⟩ dX13_putsOfRows_404 rfl (fun H locs hp hS => ?_)
      refine lv_iconst (v := iI (1)) hx hb dX13_putsOfRows_407 rfl ?_
      obtain ⟨hz, hz1, hz2⟩ := zR_some hsh
      rw [← hz1, ← hz2]
      exact e_zret hx hb hrt hlk hp hS hz dX13_putsOfRows_408
    · rw [if_neg c247] at hsh
      exact w13_putsOfRows_l250 (hk238 := hk238) E 1000000 hp hS (hl.sub [0, 1, 2, 3, 4, 5, 6] rfl) hsh
set_option maxRecDepth 100000 in
set_option maxHeartbeats 4000000 in
theorem w13_putsOfRows_b225 {p : Program} {l : Launch} {e : Env} {s : State} {m : MethodId} {args : Array Value} {below : List Frame} {meth : Method} {c : Code} {D : va_G} {cA : Nat → ClassId} {B : Nat} {res : Int × HP} (E : e_En p s m args meth c cX13_putsOfRows RX13 12 (some .boolean)) {ls : Array Slot} {H : Heap} {locs : List Loc} {S : HP} {x0 : Int} {x1 : Int} {x2 : Int} {x3 : Int} {x4 : Int} {x6 : Int} (hp : e_Pic D cA B S s H) (hS : va_S (e_A B) s.heap H locs) (hl : e_lo ls 12 [(0, e_rv B (x0)), (1, .int (iI (x1))), (2, .int (iI (x2))), (3, .int (iI (x3))), (4, .int (iI (x4))), (6, .int (iI (x6)))]) (hsh : s13_putsOfRows_b225 S x0 x1 x2 x3 x4 x6 = some res) : W p l e ({ frames := 4, cells := 0, slots := 0, locals := 100 } : Room) s m args below meth c H locs 0 0 (MQ below (e_Qi D cA B res.1 res.2) args s 0 0 (e_A B)) (F0 m 225 ls []) := by
  obtain ⟨hx, hb, hml, hown, hts, hlk, hrt⟩ := id E
  unfold s13_putsOfRows_b225 at hsh
  refine lv_sipush (v := iI (3000)) hx hb dX13_putsOfRows_225 (by decide +kernel) ?_
  refine lv_iload_n hx hb dX13_putsOfRows_228 rfl (hl.at 1 rfl) ?_
  refine e_imul hx hb dX13_putsOfRows_229 ?_
  refine e_istore (lv' := [(8, .int (iI ((3000 * x1)))), (0, e_rv B (x0)), (1, .int (iI (x1))), (2, .int (iI (x2))), (3, .int (iI (x3))), (4, .int (iI (x4))), (6, .int (iI (x6)))]) hx hb dX13_putsOfRows_230 hl (by decide) rfl (fun ls hl => ?_)
  refine e_aload_n (B := B) (x := x0) hx hb dX13_putsOfRows_232 rfl (hl.at 1 rfl) ?_
  obtain ⟨v233, h233, hsh⟩ := Option.bind_eq_some_iff.mp hsh
  refine e_getI (k := 5) hx hb hts in_X13 hown hp h233 rfl (by decide) (by decide) rfl (hts _ kf13_213) rfl dX13_putsOfRows_233 ?_
  refine e_istore (lv' := [(9, .int (iI (v233))), (8, .int (iI ((3000 * x1)))), (0, e_rv B (x0)), (1, .int (iI (x1))), (2, .int (iI (x2))), (3, .int (iI (x3))), (4, .int (iI (x4))), (6, .int (iI (x6)))]) hx hb dX13_putsOfRows_236 hl (by decide) rfl (fun ls hl => ?_)
  exact w13_putsOfRows_l238 E 1000000 hp hS (hl.sub [2, 4, 5, 6, 7, 1, 0] rfl) hsh
set_option maxRecDepth 100000 in
set_option maxHeartbeats 4000000 in
theorem w13_putsOfRows_b184 {p : Program} {l : Launch} {e : Env} {s : State} {m : MethodId} {args : Array Value} {below : List Frame} {meth : Method} {c : Code} {D : va_G} {cA : Nat → ClassId} {B : Nat} {res : Int × HP} (E : e_En p s m args meth c cX13_putsOfRows RX13 12 (some .boolean)) {ls : Array Slot} {H : Heap} {locs : List Loc} {S : HP} {x0 : Int} {x1 : Int} {x2 : Int} {x3 : Int} {x4 : Int} {x6 : Int} {x7 : Int} (hp : e_Pic D cA B S s H) (hS : va_S (e_A B) s.heap H locs) (hl : e_lo ls 12 [(0, e_rv B (x0)), (1, .int (iI (x1))), (2, .int (iI (x2))), (3, .int (iI (x3))), (4, .int (iI (x4))), (6, .int (iI (x6))), (7, .int (iI (x7)))]) (hsh : s13_putsOfRows_b184 S x0 x1 x2 x3 x4 x6 x7 = some res) : W p l e ({ frames := 4, cells := 0, slots := 0, locals := 100 } : Room) s m args below meth c H locs 0 0 (MQ below (e_Qi D cA B res.1 res.2) args s 0 0 (e_A B)) (F0 m 184 ls []) := by
  obtain ⟨hx, hb, hml, hown, hts, hlk, hrt⟩ := id E
  unfold s13_putsOfRows_b184 at hsh
  refine lv_iload hx hb dX13_putsOfRows_184 (hl.at 6 rfl) ?_
  refine e_if_ne (tgt := 191) hx hb dX13_putsOfRows_186 (by decide) (fun c186 => ?_) (fun c186 => ?_)
  · rw [if_neg c186] at hsh
    refine e_aload_n (B := B) (x := x0) hx hb dX13_putsOfRows_191 rfl (hl.at 0 rfl) ?_
    obtain ⟨v192, h192, hsh⟩ := Option.bind_eq_some_iff.mp hsh
    refine e_getI (k := 5) hx hb hts in_X13 hown hp h192 rfl (by decide) (by decide) rfl (hts _ kf13_213) rfl dX13_putsOfRows_192 ?_
    refine lv_iload hx hb dX13_putsOfRows_195 (hl.at 4 rfl) ?_
    refine e_iadd hx hb dX13_putsOfRows_197 ?_
    refine e_aload_n (B := B) (x := x0) hx hb dX13_putsOfRows_198 rfl (hl.at 0 rfl) ?_
    obtain ⟨v199, h199, hsh⟩ := Option.bind_eq_some_iff.mp hsh
    refine e_getI (k := 2) hx hb hts in_X13 hown hp h199 rfl (by decide) (by decide) rfl (hts _ kf13_13) rfl dX13_putsOfRows_199 ?_
    refine e_icmp_le (tgt := 225) hx hb dX13_putsOfRows_202 (by decide) (fun c202 => ?_) (fun c202 => ?_)
    · rw [if_pos c202] at hsh
      exact w13_putsOfRows_b225 E hp hS (hl.sub [0, 1, 2, 3, 4, 5] rfl) hsh
    · rw [if_neg c202] at hsh
      refine e_aload_n (B := B) (x := x0) hx hb dX13_putsOfRows_205 rfl (hl.at 0 rfl) ?_
      refine e_aload_n (B := B) (x := x0) hx hb dX13_putsOfRows_206 rfl (hl.at 0 rfl) ?_
      obtain ⟨v207, h207, hsh⟩ := Option.bind_eq_some_iff.mp hsh
      refine e_getI (k := 2) hx hb hts in_X13 hown hp h207 rfl (by decide) (by decide) rfl (hts _ kf13_13) rfl dX13_putsOfRows_207 ?_
      refine e_aload_n (B := B) (x := x0) hx hb dX13_putsOfRows_210 rfl (hl.at 0 rfl) ?_
      obtain ⟨v211, h211, hsh⟩ := Option.bind_eq_some_iff.mp hsh
      refine e_getI (k := 5) hx hb hts in_X13 hown hp h211 rfl (by decide) (by decide) rfl (hts _ kf13_213) rfl dX13_putsOfRows_211 ?_
      refine lv_iload hx hb dX13_putsOfRows_214 (hl.at 4 rfl) ?_
      refine e_iadd hx hb dX13_putsOfRows_216 ?_
      refine e_aload_n (B := B) (x := x0) hx hb dX13_putsOfRows_217 rfl (hl.at 0 rfl) ?_
      obtain ⟨v218, h218, hsh⟩ := Option.bind_eq_some_iff.mp hsh
      refine e_getI (k := 2) hx hb hts in_X13 hown hp h218 rfl (by decide) (by decide) rfl (hts _ kf13_13) rfl dX13_putsOfRows_218 ?_
      refine e_isub hx hb dX13_putsOfRows_221 ?_
      obtain ⟨S222, h222, hsh⟩ := Option.bind_eq_some_iff.mp hsh
      have ok222 := ok13_putsLines h222
      refine e_callV (nL := 12) (mc := 0) (ms := 0) (T := TX13) (N := 126) (As := [.int (iI (v207)), .int (iI (((v211 + x4) - v218)))]) (rest := []) hx hb hml hown hts hp hS hl.size ok222.1 ok222.2.1 ok222.2.2 rfl (by decide) (c13_putsLines l D cA B S S222 (x0) (v207) (((v211 + x4) - v218)) h222) rfl rfl kd13_putsLines (kl13_278) ks13_putsLines kv13_putsLines ki13 kh13_putsLines ⟨Nat.le_of_ble_eq_true rfl, Nat.le_of_ble_eq_true rfl⟩ rfl (by simp [e_rv_cat, e_int_cat]) ⟨Nat.le_refl _, Nat.le_refl _⟩ dX13_putsOfRows_222 rfl (fun H locs hp hS => ?_)
      exact w13_putsOfRows_b225 E hp hS (hl.sub [0, 1, 2, 3, 4, 5] rfl) hsh
  · rw [if_pos c186] at hsh
    refine lv_iconst (v := iI (0)) hx hb dX13_putsOfRows_189 rfl ?_
    obtain ⟨hz, hz1, hz2⟩ := zR_some hsh
    rw [← hz1, ← hz2]
    exact e_zret hx hb hrt hlk hp hS hz dX13_putsOfRows_190
set_option maxRecDepth 100000 in
set_option maxHeartbeats 4000000 in
theorem w13_putsOfRows_b176 {p : Program} {l : Launch} {e : Env} {s : State} {m : MethodId} {args : Array Value} {below : List Frame} {meth : Method} {c : Code} {D : va_G} {cA : Nat → ClassId} {B : Nat} {res : Int × HP} {k115 : HP → Int → Int → Int → Int → Int → Int → Int → Int → Option (Int × HP)} (hk115 : ∀ {ls : Array Slot} {H : Heap} {locs : List Loc} {S : HP} {x0 : Int} {x1 : Int} {x2 : Int} {x3 : Int} {x4 : Int} {x6 : Int} {x7 : Int} {x8 : Int} (hp : e_Pic D cA B S s H) (hS : va_S (e_A B) s.heap H locs) (hl : e_lo ls 12 [(0, e_rv B (x0)), (1, .int (iI (x1))), (2, .int (iI (x2))), (3, .int (iI (x3))), (4, .int (iI (x4))), (6, .int (iI (x6))), (7, .int (iI (x7))), (8, .int (iI (x8)))]) (hsh : k115 S x0 x1 x2 x3 x4 x6 x7 x8 = some res), W p l e ({ frames := 4, cells := 0, slots := 0, locals := 100 } : Room) s m args below meth c H locs 0 0 (MQ below (e_Qi D cA B res.1 res.2) args s 0 0 (e_A B)) (F0 m 115 ls [])) (E : e_En p s m args meth c cX13_putsOfRows RX13 12 (some .boolean)) {ls : Array Slot} {H : Heap} {locs : List Loc} {S : HP} {x0 : Int} {x1 : Int} {x2 : Int} {x3 : Int} {x4 : Int} {x6 : Int} {x8 : Int} {y0 : Int} (hp : e_Pic D cA B S s H) (hS : va_S (e_A B) s.heap H locs) (hl : e_lo ls 12 [(0, e_rv B (x0)), (1, .int (iI (x1))), (2, .int (iI (x2))), (3, .int (iI (x3))), (4, .int (iI (x4))), (6, .int (iI (x6))), (8, .int (iI (x8)))]) (hsh : s13_putsOfRows_b176 k115 S x0 x1 x2 x3 x4 x6 x8 y0 = some res) : W p l e ({ frames := 4, cells := 0, slots := 0, locals := 100 } : Room) s m args below meth c H locs 0 0 (MQ below (e_Qi D cA B res.1 res.2) args s 0 0 (e_A B)) (F0 m 176 ls [.int (iI (y0))]) := by
  obtain ⟨hx, hb, hml, hown, hts, hlk, hrt⟩ := id E
  unfold s13_putsOfRows_b176 at hsh
  refine e_istore (lv' := [(7, .int (iI (y0))), (0, e_rv B (x0)), (1, .int (iI (x1))), (2, .int (iI (x2))), (3, .int (iI (x3))), (4, .int (iI (x4))), (6, .int (iI (x6))), (8, .int (iI (x8)))]) hx hb dX13_putsOfRows_176 hl (by decide) rfl (fun ls hl => ?_)
  refine e_iinc (n := 1) (x := x8) (lv' := [(8, .int (iI ((x8 + 1)))), (7, .int (iI (y0))), (0, e_rv B (x0)), (1, .int (iI (x1))), (2, .int (iI (x2))), (3, .int (iI (x3))), (4, .int (iI (x4))), (6, .int (iI (x6)))]) hx hb dX13_putsOfRows_178 hl (k := 7) rfl (by decide) rfl (fun ls hl => ?_)
  refine lv_goto (tgt := 115) hx hb dX13_putsOfRows_181 (by decide) ?_
  exact hk115 hp hS (hl.sub [2, 3, 4, 5, 6, 7, 1, 0] rfl) hsh
set_option maxRecDepth 100000 in
set_option maxHeartbeats 4000000 in
theorem w13_putsOfRows_b157 {p : Program} {l : Launch} {e : Env} {s : State} {m : MethodId} {args : Array Value} {below : List Frame} {meth : Method} {c : Code} {D : va_G} {cA : Nat → ClassId} {B : Nat} {res : Int × HP} {k115 : HP → Int → Int → Int → Int → Int → Int → Int → Int → Option (Int × HP)} (hk115 : ∀ {ls : Array Slot} {H : Heap} {locs : List Loc} {S : HP} {x0 : Int} {x1 : Int} {x2 : Int} {x3 : Int} {x4 : Int} {x6 : Int} {x7 : Int} {x8 : Int} (hp : e_Pic D cA B S s H) (hS : va_S (e_A B) s.heap H locs) (hl : e_lo ls 12 [(0, e_rv B (x0)), (1, .int (iI (x1))), (2, .int (iI (x2))), (3, .int (iI (x3))), (4, .int (iI (x4))), (6, .int (iI (x6))), (7, .int (iI (x7))), (8, .int (iI (x8)))]) (hsh : k115 S x0 x1 x2 x3 x4 x6 x7 x8 = some res), W p l e ({ frames := 4, cells := 0, slots := 0, locals := 100 } : Room) s m args below meth c H locs 0 0 (MQ below (e_Qi D cA B res.1 res.2) args s 0 0 (e_A B)) (F0 m 115 ls [])) (E : e_En p s m args meth c cX13_putsOfRows RX13 12 (some .boolean)) {ls : Array Slot} {H : Heap} {locs : List Loc} {S : HP} {x0 : Int} {x1 : Int} {x2 : Int} {x3 : Int} {x4 : Int} {x6 : Int} {x8 : Int} {y0 : Int} (hp : e_Pic D cA B S s H) (hS : va_S (e_A B) s.heap H locs) (hl : e_lo ls 12 [(0, e_rv B (x0)), (1, .int (iI (x1))), (2, .int (iI (x2))), (3, .int (iI (x3))), (4, .int (iI (x4))), (6, .int (iI (x6))), (8, .int (iI (x8)))]) (hsh : s13_putsOfRows_b157 k115 S x0 x1 x2 x3 x4 x6 x8 y0 = some res) : W p l e ({ frames := 4, cells := 0, slots := 0, locals := 100 } : Room) s m args below meth c H locs 0 0 (MQ below (e_Qi D cA B res.1 res.2) args s 0 0 (e_A B)) (F0 m 157 ls [.int (iI (y0))]) := by
  obtain ⟨hx, hb, hml, hown, hts, hlk, hrt⟩ := id E
  unfold s13_putsOfRows_b157 at hsh
  refine lv_iload_n hx hb dX13_putsOfRows_157 rfl (hl.at 3 rfl) ?_
  obtain ⟨⟨v158, S158⟩, h158, hsh⟩ := Option.bind_eq_some_iff.mp hsh
  have hsh : _ = _ := hsh
  try dsimp only at hsh
  refine e_callS (nL := 12) (mc := 0) (ms := 0) (As := [.int (iI (y0)), .int (iI (x3))]) (rest := []) hx hb hml hown hts hp hS hl.size (c13_greater l D cA B S S158 (y0) (x3) v158 h158) rfl rfl kd13_greater (kl13_210) ks13_greater ki13 kh13_greater ⟨Nat.le_of_ble_eq_true rfl, Nat.le_of_ble_eq_true rfl⟩ rfl (by simp [e_rv_cat, e_int_cat]) ⟨Nat.le_refl _, Nat.le_refl _⟩ dX13_putsOfRows_158 rfl (fun H locs hp hS => ?_)
  refine lv_iload_n hx hb dX13_putsOfRows_161 rfl (hl.at 2 rfl) ?_
  refine lv_iload hx hb dX13_putsOfRows_162 (hl.at 5 rfl) ?_
  refine e_imul hx hb dX13_putsOfRows_164 ?_
  refine e_iadd hx hb dX13_putsOfRows_165 ?_
  refine lv_bipush (v := iI (60)) hx hb dX13_putsOfRows_166 (by decide +kernel) ?_
  refine e_icmp_gt (tgt := 175) hx hb dX13_putsOfRows_168 (by decide) (fun c168 => ?_) (fun c168 => ?_)
  · rw [if_pos c168] at hsh
    refine lv_iconst (v := iI (0)) hx hb dX13_putsOfRows_175 rfl ?_
    exact w13_putsOfRows_b176 (hk115 := hk115) E hp hS (hl.sub [0, 1, 2, 3, 4, 5, 6] rfl) hsh
  · rw [if_neg c168] at hsh
    refine lv_iconst (v := iI (1)) hx hb dX13_putsOfRows_171 rfl ?_
    refine lv_goto (tgt := 176) hx hb dX13_putsOfRows_172 (by decide) ?_
    exact w13_putsOfRows_b176 (hk115 := hk115) E hp hS (hl.sub [0, 1, 2, 3, 4, 5, 6] rfl) hsh
set_option maxRecDepth 100000 in
set_option maxHeartbeats 4000000 in
theorem w13_putsOfRows_l115 {p : Program} {l : Launch} {e : Env} {s : State} {m : MethodId} {args : Array Value} {below : List Frame} {meth : Method} {c : Code} {D : va_G} {cA : Nat → ClassId} {B : Nat} {res : Int × HP} (E : e_En p s m args meth c cX13_putsOfRows RX13 12 (some .boolean)) : ∀ (f : Nat) {ls : Array Slot} {H : Heap} {locs : List Loc} {S : HP} {x0 : Int} {x1 : Int} {x2 : Int} {x3 : Int} {x4 : Int} {x6 : Int} {x7 : Int} {x8 : Int} (hp : e_Pic D cA B S s H) (hS : va_S (e_A B) s.heap H locs) (hl : e_lo ls 12 [(0, e_rv B (x0)), (1, .int (iI (x1))), (2, .int (iI (x2))), (3, .int (iI (x3))), (4, .int (iI (x4))), (6, .int (iI (x6))), (7, .int (iI (x7))), (8, .int (iI (x8)))]) (hsh : s13_putsOfRows_l115 f S x0 x1 x2 x3 x4 x6 x7 x8 = some res), W p l e ({ frames := 4, cells := 0, slots := 0, locals := 100 } : Room) s m args below meth c H locs 0 0 (MQ below (e_Qi D cA B res.1 res.2) args s 0 0 (e_A B)) (F0 m 115 ls []) := by
  obtain ⟨hx, hb, hml, hown, hts, hlk, hrt⟩ := id E
  intro f
  induction f with
  | zero => intro ls H locs S x0 x1 x2 x3 x4 x6 x7 x8 hp hS hl hsh; cases hsh
  | succ f ih =>
    intro ls H locs S x0 x1 x2 x3 x4 x6 x7 x8 hp hS hl hsh
    have hk115 : ∀ {ls : Array Slot} {H : Heap} {locs : List Loc} {S : HP} {x0 : Int} {x1 : Int} {x2 : Int} {x3 : Int} {x4 : Int} {x6 : Int} {x7 : Int} {x8 : Int} (hp : e_Pic D cA B S s H) (hS : va_S (e_A B) s.heap H locs) (hl : e_lo ls 12 [(0, e_rv B (x0)), (1, .int (iI (x1))), (2, .int (iI (x2))), (3, .int (iI (x3))), (4, .int (iI (x4))), (6, .int (iI (x6))), (7, .int (iI (x7))), (8, .int (iI (x8)))]) (hsh : (s13_putsOfRows_l115 f) S x0 x1 x2 x3 x4 x6 x7 x8 = some res), W p l e ({ frames := 4, cells := 0, slots := 0, locals := 100 } : Room) s m args below meth c H locs 0 0 (MQ below (e_Qi D cA B res.1 res.2) args s 0 0 (e_A B)) (F0 m 115 ls []) := ih
    generalize hkk : s13_putsOfRows_l115 f = k115 at hk115
    rw [s13_putsOfRows_l115] at hsh
    rw [hkk] at hsh
    try dsimp only at hsh
    refine lv_iload hx hb dX13_putsOfRows_115 (hl.at 7 rfl) ?_
    refine lv_iload hx hb dX13_putsOfRows_117 (hl.at 4 rfl) ?_
    refine e_icmp_ge (tgt := 184) hx hb dX13_putsOfRows_119 (by decide) (fun c119 => ?_) (fun c119 => ?_)
    · rw [if_pos c119] at hsh
      exact w13_putsOfRows_b184 E hp hS (hl.sub [0, 1, 2, 3, 4, 5, 6] rfl) hsh
    · rw [if_neg c119] at hsh
      refine lv_iload hx hb dX13_putsOfRows_122 (hl.at 6 rfl) ?_
      refine e_if_eq (tgt := 184) hx hb dX13_putsOfRows_124 (by decide) (fun c124 => ?_) (fun c124 => ?_)
      · rw [if_pos c124] at hsh
        exact w13_putsOfRows_b184 E hp hS (hl.sub [0, 1, 2, 3, 4, 5, 6] rfl) hsh
      · rw [if_neg c124] at hsh
        refine e_aload_n (B := B) (x := x0) hx hb dX13_putsOfRows_127 rfl (hl.at 0 rfl) ?_
        obtain ⟨v128, h128, hsh⟩ := Option.bind_eq_some_iff.mp hsh
        refine e_getI (k := 5) hx hb hts in_X13 hown hp h128 rfl (by decide) (by decide) rfl (hts _ kf13_213) rfl dX13_putsOfRows_128 ?_
        refine lv_iload hx hb dX13_putsOfRows_131 (hl.at 7 rfl) ?_
        refine e_iadd hx hb dX13_putsOfRows_133 ?_
        refine e_aload_n (B := B) (x := x0) hx hb dX13_putsOfRows_134 rfl (hl.at 0 rfl) ?_
        obtain ⟨v135, h135, hsh⟩ := Option.bind_eq_some_iff.mp hsh
        refine e_getI (k := 2) hx hb hts in_X13 hown hp h135 rfl (by decide) (by decide) rfl (hts _ kf13_13) rfl dX13_putsOfRows_135 ?_
        refine e_icmp_ge (tgt := 156) hx hb dX13_putsOfRows_138 (by decide) (fun c138 => ?_) (fun c138 => ?_)
        · rw [if_pos c138] at hsh
          refine lv_iconst (v := iI (0)) hx hb dX13_putsOfRows_156 rfl ?_
          exact w13_putsOfRows_b157 (hk115 := hk115) E hp hS (hl.sub [0, 1, 2, 3, 4, 5, 7] rfl) hsh
        · rw [if_neg c138] at hsh
          refine e_aload_n (B := B) (x := x0) hx hb dX13_putsOfRows_141 rfl (hl.at 0 rfl) ?_
          obtain ⟨v142, h142, hsh⟩ := Option.bind_eq_some_iff.mp hsh
          refine e_getR (k := 3) hx hb hts in_X13 hown hp h142 rfl (by decide) (by decide) rfl (hts _ kf13_17) rfl dX13_putsOfRows_142 ?_
          refine e_aload_n (B := B) (x := x0) hx hb dX13_putsOfRows_145 rfl (hl.at 0 rfl) ?_
          obtain ⟨v146, h146, hsh⟩ := Option.bind_eq_some_iff.mp hsh
          refine e_getI (k := 5) hx hb hts in_X13 hown hp h146 rfl (by decide) (by decide) rfl (hts _ kf13_213) rfl dX13_putsOfRows_146 ?_
          refine lv_iload hx hb dX13_putsOfRows_149 (hl.at 7 rfl) ?_
          refine e_iadd hx hb dX13_putsOfRows_151 ?_
          obtain ⟨v152, h152, hsh⟩ := Option.bind_eq_some_iff.mp hsh
          refine e_iald hx hb hp h152 dX13_putsOfRows_152 ?_
          refine lv_goto (tgt := 157) hx hb dX13_putsOfRows_153 (by decide) ?_
          exact w13_putsOfRows_b157 (hk115 := hk115) E hp hS (hl.sub [0, 1, 2, 3, 4, 5, 7] rfl) hsh
set_option maxRecDepth 100000 in
set_option maxHeartbeats 4000000 in
theorem w13_putsOfRows_b110 {p : Program} {l : Launch} {e : Env} {s : State} {m : MethodId} {args : Array Value} {below : List Frame} {meth : Method} {c : Code} {D : va_G} {cA : Nat → ClassId} {B : Nat} {res : Int × HP} (E : e_En p s m args meth c cX13_putsOfRows RX13 12 (some .boolean)) {ls : Array Slot} {H : Heap} {locs : List Loc} {S : HP} {x0 : Int} {x1 : Int} {x2 : Int} {x3 : Int} {x4 : Int} {x6 : Int} {y0 : Int} (hp : e_Pic D cA B S s H) (hS : va_S (e_A B) s.heap H locs) (hl : e_lo ls 12 [(0, e_rv B (x0)), (1, .int (iI (x1))), (2, .int (iI (x2))), (3, .int (iI (x3))), (4, .int (iI (x4))), (6, .int (iI (x6)))]) (hsh : s13_putsOfRows_b110 S x0 x1 x2 x3 x4 x6 y0 = some res) : W p l e ({ frames := 4, cells := 0, slots := 0, locals := 100 } : Room) s m args below meth c H locs 0 0 (MQ below (e_Qi D cA B res.1 res.2) args s 0 0 (e_A B)) (F0 m 110 ls [.int (iI (y0))]) := by
  obtain ⟨hx, hb, hml, hown, hts, hlk, hrt⟩ := id E
  unfold s13_putsOfRows_b110 at hsh
  refine e_istore (lv' := [(7, .int (iI (y0))), (0, e_rv B (x0)), (1, .int (iI (x1))), (2, .int (iI (x2))), (3, .int (iI (x3))), (4, .int (iI (x4))), (6, .int (iI (x6)))]) hx hb dX13_putsOfRows_110 hl (by decide) rfl (fun ls hl => ?_)
  refine lv_iconst (v := iI (0)) hx hb dX13_putsOfRows_112 rfl ?_
  refine e_istore (lv' := [(8, .int (iI (0))), (7, .int (iI (y0))), (0, e_rv B (x0)), (1, .int (iI (x1))), (2, .int (iI (x2))), (3, .int (iI (x3))), (4, .int (iI (x4))), (6, .int (iI (x6)))]) hx hb dX13_putsOfRows_113 hl (by decide) rfl (fun ls hl => ?_)
  exact w13_putsOfRows_l115 E 1000000 hp hS (hl.sub [2, 3, 4, 5, 6, 7, 1, 0] rfl) hsh
set_option maxRecDepth 100000 in
set_option maxHeartbeats 4000000 in
theorem w13_putsOfRows_b76 {p : Program} {l : Launch} {e : Env} {s : State} {m : MethodId} {args : Array Value} {below : List Frame} {meth : Method} {c : Code} {D : va_G} {cA : Nat → ClassId} {B : Nat} {res : Int × HP} {k12 : HP → Int → Int → Int → Int → Int → Int → Int → Int → Option (Int × HP)} (hk12 : ∀ {ls : Array Slot} {H : Heap} {locs : List Loc} {S : HP} {x0 : Int} {x1 : Int} {x2 : Int} {x3 : Int} {x4 : Int} {x5 : Int} {x6 : Int} {x7 : Int} (hp : e_Pic D cA B S s H) (hS : va_S (e_A B) s.heap H locs) (hl : e_lo ls 12 [(0, e_rv B (x0)), (1, .int (iI (x1))), (2, .int (iI (x2))), (3, .int (iI (x3))), (4, .int (iI (x4))), (5, .int (iI (x5))), (6, .int (iI (x6))), (7, .int (iI (x7)))]) (hsh : k12 S x0 x1 x2 x3 x4 x5 x6 x7 = some res), W p l e ({ frames := 4, cells := 0, slots := 0, locals := 100 } : Room) s m args below meth c H locs 0 0 (MQ below (e_Qi D cA B res.1 res.2) args s 0 0 (e_A B)) (F0 m 12 ls [])) (E : e_En p s m args meth c cX13_putsOfRows RX13 12 (some .boolean)) {ls : Array Slot} {H : Heap} {locs : List Loc} {S : HP} {x0 : Int} {x1 : Int} {x2 : Int} {x3 : Int} {x4 : Int} {x6 : Int} {x7 : Int} {y0 : Int} (hp : e_Pic D cA B S s H) (hS : va_S (e_A B) s.heap H locs) (hl : e_lo ls 12 [(0, e_rv B (x0)), (1, .int (iI (x1))), (2, .int (iI (x2))), (3, .int (iI (x3))), (4, .int (iI (x4))), (6, .int (iI (x6))), (7, .int (iI (x7)))]) (hsh : s13_putsOfRows_b76 k12 S x0 x1 x2 x3 x4 x6 x7 y0 = some res) : W p l e ({ frames := 4, cells := 0, slots := 0, locals := 100 } : Room) s m args below meth c H locs 0 0 (MQ below (e_Qi D cA B res.1 res.2) args s 0 0 (e_A B)) (F0 m 76 ls [.int (iI (y0))]) := by
  obtain ⟨hx, hb, hml, hown, hts, hlk, hrt⟩ := id E
  unfold s13_putsOfRows_b76 at hsh
  refine e_istore (lv' := [(5, .int (iI (y0))), (0, e_rv B (x0)), (1, .int (iI (x1))), (2, .int (iI (x2))), (3, .int (iI (x3))), (4, .int (iI (x4))), (6, .int (iI (x6))), (7, .int (iI (x7)))]) hx hb dX13_putsOfRows_76 hl (by decide) rfl (fun ls hl => ?_)
  refine lv_iload hx hb dX13_putsOfRows_78 (hl.at 6 rfl) ?_
  refine lv_iload hx hb dX13_putsOfRows_80 (hl.at 0 rfl) ?_
  obtain ⟨⟨v82, S82⟩, h82, hsh⟩ := Option.bind_eq_some_iff.mp hsh
  have hsh : _ = _ := hsh
  try dsimp only at hsh
  refine e_callS (nL := 12) (mc := 0) (ms := 0) (As := [.int (iI (x6)), .int (iI (y0))]) (rest := []) hx hb hml hown hts hp hS hl.size (c13_greater l D cA B S S82 (x6) (y0) v82 h82) rfl rfl kd13_greater (kl13_210) ks13_greater ki13 kh13_greater ⟨Nat.le_of_ble_eq_true rfl, Nat.le_of_ble_eq_true rfl⟩ rfl (by simp [e_rv_cat, e_int_cat]) ⟨Nat.le_refl _, Nat.le_refl _⟩ dX13_putsOfRows_82 rfl (fun H locs hp hS => ?_)
  refine e_istore (lv' := [(6, .int (iI (v82))), (5, .int (iI (y0))), (0, e_rv B (x0)), (1, .int (iI (x1))), (2, .int (iI (x2))), (3, .int (iI (x3))), (4, .int (iI (x4))), (7, .int (iI (x7)))]) hx hb dX13_putsOfRows_85 hl (by decide) rfl (fun ls hl => ?_)
  refine e_iinc (n := 1) (x := x7) (lv' := [(7, .int (iI ((x7 + 1)))), (6, .int (iI (v82))), (5, .int (iI (y0))), (0, e_rv B (x0)), (1, .int (iI (x1))), (2, .int (iI (x2))), (3, .int (iI (x3))), (4, .int (iI (x4)))]) hx hb dX13_putsOfRows_87 hl (k := 7) rfl (by decide) rfl (fun ls hl => ?_)
  refine lv_goto (tgt := 12) hx hb dX13_putsOfRows_90 (by decide) ?_
  exact hk12 hp hS (hl.sub [3, 4, 5, 6, 7, 2, 1, 0] rfl) hsh
set_option maxRecDepth 100000 in
set_option maxHeartbeats 4000000 in
theorem w13_putsOfRows_b60 {p : Program} {l : Launch} {e : Env} {s : State} {m : MethodId} {args : Array Value} {below : List Frame} {meth : Method} {c : Code} {D : va_G} {cA : Nat → ClassId} {B : Nat} {res : Int × HP} {k12 : HP → Int → Int → Int → Int → Int → Int → Int → Int → Option (Int × HP)} (hk12 : ∀ {ls : Array Slot} {H : Heap} {locs : List Loc} {S : HP} {x0 : Int} {x1 : Int} {x2 : Int} {x3 : Int} {x4 : Int} {x5 : Int} {x6 : Int} {x7 : Int} (hp : e_Pic D cA B S s H) (hS : va_S (e_A B) s.heap H locs) (hl : e_lo ls 12 [(0, e_rv B (x0)), (1, .int (iI (x1))), (2, .int (iI (x2))), (3, .int (iI (x3))), (4, .int (iI (x4))), (5, .int (iI (x5))), (6, .int (iI (x6))), (7, .int (iI (x7)))]) (hsh : k12 S x0 x1 x2 x3 x4 x5 x6 x7 = some res), W p l e ({ frames := 4, cells := 0, slots := 0, locals := 100 } : Room) s m args below meth c H locs 0 0 (MQ below (e_Qi D cA B res.1 res.2) args s 0 0 (e_A B)) (F0 m 12 ls [])) (E : e_En p s m args meth c cX13_putsOfRows RX13 12 (some .boolean)) {ls : Array Slot} {H : Heap} {locs : List Loc} {S : HP} {x0 : Int} {x1 : Int} {x2 : Int} {x3 : Int} {x5 : Int} {x6 : Int} {x7 : Int} {x8 : Int} {y0 : Int} {y1 : Int} (hp : e_Pic D cA B S s H) (hS : va_S (e_A B) s.heap H locs) (hl : e_lo ls 12 [(0, e_rv B (x0)), (1, .int (iI (x1))), (2, .int (iI (x2))), (3, .int (iI (x3))), (5, .int (iI (x5))), (6, .int (iI (x6))), (7, .int (iI (x7))), (8, .int (iI (x8)))]) (hsh : s13_putsOfRows_b60 k12 S x0 x1 x2 x3 x5 x6 x7 x8 y0 y1 = some res) : W p l e ({ frames := 4, cells := 0, slots := 0, locals := 100 } : Room) s m args below meth c H locs 0 0 (MQ below (e_Qi D cA B res.1 res.2) args s 0 0 (e_A B)) (F0 m 60 ls [.int (iI (y1)), .int (iI (y0))]) := by
  obtain ⟨hx, hb, hml, hown, hts, hlk, hrt⟩ := id E
  unfold s13_putsOfRows_b60 at hsh
  refine e_iadd hx hb dX13_putsOfRows_60 ?_
  refine e_istore (lv' := [(4, .int (iI ((y0 + y1)))), (0, e_rv B (x0)), (1, .int (iI (x1))), (2, .int (iI (x2))), (3, .int (iI (x3))), (5, .int (iI (x5))), (6, .int (iI (x6))), (7, .int (iI (x7))), (8, .int (iI (x8)))]) hx hb dX13_putsOfRows_61 hl (by decide) rfl (fun ls hl => ?_)
  refine lv_iload hx hb dX13_putsOfRows_63 (hl.at 8 rfl) ?_
  refine e_if_eq (tgt := 72) hx hb dX13_putsOfRows_65 (by decide) (fun c65 => ?_) (fun c65 => ?_)
  · rw [if_pos c65] at hsh
    refine lv_iload hx hb dX13_putsOfRows_72 (hl.at 5 rfl) ?_
    refine lv_iconst (v := iI (1)) hx hb dX13_putsOfRows_74 rfl ?_
    refine e_iadd hx hb dX13_putsOfRows_75 ?_
    exact w13_putsOfRows_b76 (hk12 := hk12) E hp hS (hl.sub [1, 2, 3, 4, 0, 6, 7] rfl) hsh
  · rw [if_neg c65] at hsh
    refine lv_iconst (v := iI (0)) hx hb dX13_putsOfRows_68 rfl ?_
    refine lv_goto (tgt := 76) hx hb dX13_putsOfRows_69 (by decide) ?_
    exact w13_putsOfRows_b76 (hk12 := hk12) E hp hS (hl.sub [1, 2, 3, 4, 0, 6, 7] rfl) hsh
set_option maxRecDepth 100000 in
set_option maxHeartbeats 4000000 in
theorem w13_putsOfRows_b46 {p : Program} {l : Launch} {e : Env} {s : State} {m : MethodId} {args : Array Value} {below : List Frame} {meth : Method} {c : Code} {D : va_G} {cA : Nat → ClassId} {B : Nat} {res : Int × HP} {k12 : HP → Int → Int → Int → Int → Int → Int → Int → Int → Option (Int × HP)} (hk12 : ∀ {ls : Array Slot} {H : Heap} {locs : List Loc} {S : HP} {x0 : Int} {x1 : Int} {x2 : Int} {x3 : Int} {x4 : Int} {x5 : Int} {x6 : Int} {x7 : Int} (hp : e_Pic D cA B S s H) (hS : va_S (e_A B) s.heap H locs) (hl : e_lo ls 12 [(0, e_rv B (x0)), (1, .int (iI (x1))), (2, .int (iI (x2))), (3, .int (iI (x3))), (4, .int (iI (x4))), (5, .int (iI (x5))), (6, .int (iI (x6))), (7, .int (iI (x7)))]) (hsh : k12 S x0 x1 x2 x3 x4 x5 x6 x7 = some res), W p l e ({ frames := 4, cells := 0, slots := 0, locals := 100 } : Room) s m args below meth c H locs 0 0 (MQ below (e_Qi D cA B res.1 res.2) args s 0 0 (e_A B)) (F0 m 12 ls [])) (E : e_En p s m args meth c cX13_putsOfRows RX13 12 (some .boolean)) {ls : Array Slot} {H : Heap} {locs : List Loc} {S : HP} {x0 : Int} {x1 : Int} {x2 : Int} {x3 : Int} {x4 : Int} {x5 : Int} {x6 : Int} {x7 : Int} {y0 : Int} (hp : e_Pic D cA B S s H) (hS : va_S (e_A B) s.heap H locs) (hl : e_lo ls 12 [(0, e_rv B (x0)), (1, .int (iI (x1))), (2, .int (iI (x2))), (3, .int (iI (x3))), (4, .int (iI (x4))), (5, .int (iI (x5))), (6, .int (iI (x6))), (7, .int (iI (x7)))]) (hsh : s13_putsOfRows_b46 k12 S x0 x1 x2 x3 x4 x5 x6 x7 y0 = some res) : W p l e ({ frames := 4, cells := 0, slots := 0, locals := 100 } : Room) s m args below meth c H locs 0 0 (MQ below (e_Qi D cA B res.1 res.2) args s 0 0 (e_A B)) (F0 m 46 ls [.int (iI (y0))]) := by
  obtain ⟨hx, hb, hml, hown, hts, hlk, hrt⟩ := id E
  unfold s13_putsOfRows_b46 at hsh
  refine e_istore (lv' := [(8, .int (iI (y0))), (0, e_rv B (x0)), (1, .int (iI (x1))), (2, .int (iI (x2))), (3, .int (iI (x3))), (4, .int (iI (x4))), (5, .int (iI (x5))), (6, .int (iI (x6))), (7, .int (iI (x7)))]) hx hb dX13_putsOfRows_46 hl (by decide) rfl (fun ls hl => ?_)
  refine lv_iload hx hb dX13_putsOfRows_48 (hl.at 5 rfl) ?_
  refine lv_iload hx hb dX13_putsOfRows_50 (hl.at 0 rfl) ?_
  refine e_if_eq (tgt := 59) hx hb dX13_putsOfRows_52 (by decide) (fun c52 => ?_) (fun c52 => ?_)
  · rw [if_pos c52] at hsh
    refine lv_iconst (v := iI (0)) hx hb dX13_putsOfRows_59 rfl ?_
    exact w13_putsOfRows_b60 (hk12 := hk12) E hp hS (hl.sub [1, 2, 3, 4, 6, 7, 8, 0] rfl) hsh
  · rw [if_neg c52] at hsh
    refine lv_iconst (v := iI (1)) hx hb dX13_putsOfRows_55 rfl ?_
    refine lv_goto (tgt := 60) hx hb dX13_putsOfRows_56 (by decide) ?_
    exact w13_putsOfRows_b60 (hk12 := hk12) E hp hS (hl.sub [1, 2, 3, 4, 6, 7, 8, 0] rfl) hsh
set_option maxRecDepth 100000 in
set_option maxHeartbeats 4000000 in
theorem w13_putsOfRows_l12 {p : Program} {l : Launch} {e : Env} {s : State} {m : MethodId} {args : Array Value} {below : List Frame} {meth : Method} {c : Code} {D : va_G} {cA : Nat → ClassId} {B : Nat} {res : Int × HP} (E : e_En p s m args meth c cX13_putsOfRows RX13 12 (some .boolean)) : ∀ (f : Nat) {ls : Array Slot} {H : Heap} {locs : List Loc} {S : HP} {x0 : Int} {x1 : Int} {x2 : Int} {x3 : Int} {x4 : Int} {x5 : Int} {x6 : Int} {x7 : Int} (hp : e_Pic D cA B S s H) (hS : va_S (e_A B) s.heap H locs) (hl : e_lo ls 12 [(0, e_rv B (x0)), (1, .int (iI (x1))), (2, .int (iI (x2))), (3, .int (iI (x3))), (4, .int (iI (x4))), (5, .int (iI (x5))), (6, .int (iI (x6))), (7, .int (iI (x7)))]) (hsh : s13_putsOfRows_l12 f S x0 x1 x2 x3 x4 x5 x6 x7 = some res), W p l e ({ frames := 4, cells := 0, slots := 0, locals := 100 } : Room) s m args below meth c H locs 0 0 (MQ below (e_Qi D cA B res.1 res.2) args s 0 0 (e_A B)) (F0 m 12 ls []) := by
  obtain ⟨hx, hb, hml, hown, hts, hlk, hrt⟩ := id E
  intro f
  induction f with
  | zero => intro ls H locs S x0 x1 x2 x3 x4 x5 x6 x7 hp hS hl hsh; cases hsh
  | succ f ih =>
    intro ls H locs S x0 x1 x2 x3 x4 x5 x6 x7 hp hS hl hsh
    have hk12 : ∀ {ls : Array Slot} {H : Heap} {locs : List Loc} {S : HP} {x0 : Int} {x1 : Int} {x2 : Int} {x3 : Int} {x4 : Int} {x5 : Int} {x6 : Int} {x7 : Int} (hp : e_Pic D cA B S s H) (hS : va_S (e_A B) s.heap H locs) (hl : e_lo ls 12 [(0, e_rv B (x0)), (1, .int (iI (x1))), (2, .int (iI (x2))), (3, .int (iI (x3))), (4, .int (iI (x4))), (5, .int (iI (x5))), (6, .int (iI (x6))), (7, .int (iI (x7)))]) (hsh : (s13_putsOfRows_l12 f) S x0 x1 x2 x3 x4 x5 x6 x7 = some res), W p l e ({ frames := 4, cells := 0, slots := 0, locals := 100 } : Room) s m args below meth c H locs 0 0 (MQ below (e_Qi D cA B res.1 res.2) args s 0 0 (e_A B)) (F0 m 12 ls []) := ih
    generalize hkk : s13_putsOfRows_l12 f = k12 at hk12
    rw [s13_putsOfRows_l12] at hsh
    rw [hkk] at hsh
    try dsimp only at hsh
    refine lv_iload hx hb dX13_putsOfRows_12 (hl.at 7 rfl) ?_
    refine e_aload_n (B := B) (x := x0) hx hb dX13_putsOfRows_14 rfl (hl.at 0 rfl) ?_
    obtain ⟨v15, h15, hsh⟩ := Option.bind_eq_some_iff.mp hsh
    refine e_getR (k := 12) hx hb hts in_X13 hown hp h15 rfl (by decide) (by decide) rfl (hts _ kf13_26) rfl dX13_putsOfRows_15 ?_
    refine lv_iload_n hx hb dX13_putsOfRows_18 rfl (hl.at 1 rfl) ?_
    obtain ⟨v19, h19, hsh⟩ := Option.bind_eq_some_iff.mp hsh
    refine e_iald hx hb hp h19 dX13_putsOfRows_19 ?_
    refine e_icmp_ge (tgt := 93) hx hb dX13_putsOfRows_20 (by decide) (fun c20 => ?_) (fun c20 => ?_)
    · rw [if_pos c20] at hsh
      refine e_aload_n (B := B) (x := x0) hx hb dX13_putsOfRows_93 rfl (hl.at 0 rfl) ?_
      obtain ⟨v94, h94, hsh⟩ := Option.bind_eq_some_iff.mp hsh
      refine e_getI (k := 5) hx hb hts in_X13 hown hp h94 rfl (by decide) (by decide) rfl (hts _ kf13_213) rfl dX13_putsOfRows_94 ?_
      refine lv_iload hx hb dX13_putsOfRows_97 (hl.at 4 rfl) ?_
      refine e_iadd hx hb dX13_putsOfRows_99 ?_
      refine lv_bipush (v := iI (40)) hx hb dX13_putsOfRows_100 (by decide +kernel) ?_
      refine e_icmp_gt (tgt := 109) hx hb dX13_putsOfRows_102 (by decide) (fun c102 => ?_) (fun c102 => ?_)
      · rw [if_pos c102] at hsh
        refine lv_iconst (v := iI (0)) hx hb dX13_putsOfRows_109 rfl ?_
        exact w13_putsOfRows_b110 E hp hS (hl.sub [0, 1, 2, 3, 4, 6] rfl) hsh
      · rw [if_neg c102] at hsh
        refine lv_iconst (v := iI (1)) hx hb dX13_putsOfRows_105 rfl ?_
        refine lv_goto (tgt := 110) hx hb dX13_putsOfRows_106 (by decide) ?_
        exact w13_putsOfRows_b110 E hp hS (hl.sub [0, 1, 2, 3, 4, 6] rfl) hsh
    · rw [if_neg c20] at hsh
      refine e_aload_n (B := B) (x := x0) hx hb dX13_putsOfRows_23 rfl (hl.at 0 rfl) ?_
      obtain ⟨v24, h24, hsh⟩ := Option.bind_eq_some_iff.mp hsh
      refine e_getR (k := 13) hx hb hts in_X13 hown hp h24 rfl (by decide) (by decide) rfl (hts _ kf13_30) rfl dX13_putsOfRows_24 ?_
      refine lv_sipush (v := iI (3000)) hx hb dX13_putsOfRows_27 (by decide +kernel) ?_
      refine lv_iload_n hx hb dX13_putsOfRows_30 rfl (hl.at 1 rfl) ?_
      refine e_imul hx hb dX13_putsOfRows_31 ?_
      refine lv_iload hx hb dX13_putsOfRows_32 (hl.at 7 rfl) ?_
      refine e_iadd hx hb dX13_putsOfRows_34 ?_
      obtain ⟨v35, h35, hsh⟩ := Option.bind_eq_some_iff.mp hsh
      refine e_iald hx hb hp h35 dX13_putsOfRows_35 ?_
      refine lv_bipush (v := iI (10)) hx hb dX13_putsOfRows_36 (by decide +kernel) ?_
      refine e_icmp_ne (tgt := 45) hx hb dX13_putsOfRows_38 (by decide) (fun c38 => ?_) (fun c38 => ?_)
      · rw [if_neg c38] at hsh
        refine lv_iconst (v := iI (0)) hx hb dX13_putsOfRows_45 rfl ?_
        exact w13_putsOfRows_b46 (hk12 := hk12) E hp hS (hl.sub [0, 1, 2, 3, 4, 5, 6, 7] rfl) hsh
      · rw [if_pos c38] at hsh
        refine lv_iconst (v := iI (1)) hx hb dX13_putsOfRows_41 rfl ?_
        refine lv_goto (tgt := 46) hx hb dX13_putsOfRows_42 (by decide) ?_
        exact w13_putsOfRows_b46 (hk12 := hk12) E hp hS (hl.sub [0, 1, 2, 3, 4, 5, 6, 7] rfl) hsh
set_option maxRecDepth 100000 in
set_option maxHeartbeats 4000000 in
theorem c13_putsOfRows (l : Launch) (D : va_G) (cA : Nat → ClassId) (B : Nat) (S S' : HP) (x0 : Int) (x1 : Int) (x2 : Int) (x3 : Int) (r : Int) (hsh : s13_putsOfRows S x0 x1 x2 x3 = some (r, S')) : Met l yX13_putsOfRows (e_wu yX13_putsOfRows cX13_putsOfRows 12 (some .boolean)) ({ frames := 4, cells := 0, slots := 0, locals := 100 } : Room) (va_Pc [e_rv B (x0), .int (iI (x1)), .int (iI (x2)), .int (iI (x3))] (fun U => e_PU D cA B S U)) (e_Qi D cA B r S') 0 0 (e_A B) := by
  refine Met.ofW (cc := cX13_putsOfRows) (maxL := 12) (ret := (some .boolean)) (by decide +kernel) rfl ?_
  intro p e s m args below meth c s₁ Bd hml hv
  obtain ⟨rfl, hp⟩ := hv
  have hp : e_Pic D cA B S s s.heap := hp
  have hx := Bd.exec
  have hb := Bd.bytes
  have hrt := Bd.returns
  have hlk := Bd.notSynchronized
  have hown : s.vm.findClass RX13 = some m.cls := findClass_of_methodNamed Bd.named
  have hts : ∀ w ∈ e_tb, w.before ([e_rv B (x0), .int (iI (x1)), .int (iI (x2)), .int (iI (x3))] : List Value).toArray s = true := fun w h => atoms_spec (ws := (e_wu yX13_putsOfRows cX13_putsOfRows 12 (some .boolean))) Bd.pre w (List.mem_cons_of_mem _ h)
  have E : e_En p s m ([e_rv B (x0), .int (iI (x1)), .int (iI (x2)), .int (iI (x3))] : List Value).toArray meth c cX13_putsOfRows RX13 12 (some .boolean) := ⟨hx, hb, hml, hown, hts, hlk, hrt⟩
  have hS : va_S (e_A B) s.heap s.heap [] := va_S.rf
  have hl := e_entry (vs := [e_rv B (x0), .int (iI (x1)), .int (iI (x2)), .int (iI (x3))]) (n := 12) (Nat.le_of_ble_eq_true rfl) (e_cc (e_rv_cat _ _) (e_cc rfl (e_cc rfl (e_cc rfl e_cn))))
  rw [lg_entry_eq]
  generalize (lg_sl [e_rv B (x0), .int (iI (x1)), .int (iI (x2)), .int (iI (x3))] ++ List.replicate (12 - (lg_sl [e_rv B (x0), .int (iI (x1)), .int (iI (x2)), .int (iI (x3))]).length) Slot.unset).toArray = ls at hl ⊢
  generalize ([e_rv B (x0), .int (iI (x1)), .int (iI (x2)), .int (iI (x3))] : List Value).toArray = args at hts E ⊢
  have hl : e_lo ls 12 [(0, e_rv B (x0)), (1, .int (iI (x1))), (2, .int (iI (x2))), (3, .int (iI (x3)))] := hl
  have hsh := (gd_some hsh).2
  refine lv_iconst (v := iI (0)) hx hb dX13_putsOfRows_0 rfl ?_
  refine e_istore (lv' := [(4, .int (iI (0))), (0, e_rv B (x0)), (1, .int (iI (x1))), (2, .int (iI (x2))), (3, .int (iI (x3)))]) hx hb dX13_putsOfRows_1 hl (by decide) rfl (fun ls hl => ?_)
  refine lv_iconst (v := iI (0)) hx hb dX13_putsOfRows_3 rfl ?_
  refine e_istore (lv' := [(5, .int (iI (0))), (4, .int (iI (0))), (0, e_rv B (x0)), (1, .int (iI (x1))), (2, .int (iI (x2))), (3, .int (iI (x3)))]) hx hb dX13_putsOfRows_4 hl (by decide) rfl (fun ls hl => ?_)
  refine lv_iconst (v := iI (0)) hx hb dX13_putsOfRows_6 rfl ?_
  refine e_istore (lv' := [(6, .int (iI (0))), (5, .int (iI (0))), (4, .int (iI (0))), (0, e_rv B (x0)), (1, .int (iI (x1))), (2, .int (iI (x2))), (3, .int (iI (x3)))]) hx hb dX13_putsOfRows_7 hl (by decide) rfl (fun ls hl => ?_)
  refine lv_iconst (v := iI (0)) hx hb dX13_putsOfRows_9 rfl ?_
  refine e_istore (lv' := [(7, .int (iI (0))), (6, .int (iI (0))), (5, .int (iI (0))), (4, .int (iI (0))), (0, e_rv B (x0)), (1, .int (iI (x1))), (2, .int (iI (x2))), (3, .int (iI (x3)))]) hx hb dX13_putsOfRows_10 hl (by decide) rfl (fun ls hl => ?_)
  exact w13_putsOfRows_l12 E 1000000 hp hS (hl.sub [4, 5, 6, 7, 3, 2, 1, 0] rfl) hsh
theorem ok13_pastes {S : HP} {x0 : Int} {x1 : Int} {x2 : Int} {x3 : Int} {r : Int × HP} (h : s13_pastes S x0 x1 x2 x3 = some r) : 0 ≤ x0 ∧ x0.toNat < e_n S ∧ e_g S x0.toNat = 13 := (gd_some h).1
set_option maxRecDepth 100000 in
set_option maxHeartbeats 4000000 in
theorem w13_pastes_b63 {p : Program} {l : Launch} {e : Env} {s : State} {m : MethodId} {args : Array Value} {below : List Frame} {meth : Method} {c : Code} {D : va_G} {cA : Nat → ClassId} {B : Nat} {res : Int × HP} (E : e_En p s m args meth c cX13_pastes RX13 6 (some .boolean)) {ls : Array Slot} {H : Heap} {locs : List Loc} {S : HP} (hp : e_Pic D cA B S s H) (hS : va_S (e_A B) s.heap H locs) (hl : e_lo ls 6 []) (hsh : s13_pastes_b63 S  = some res) : W p l e ({ frames := 5, cells := 0, slots := 0, locals := 131 } : Room) s m args below meth c H locs 0 0 (MQ below (e_Qi D cA B res.1 res.2) args s 0 0 (e_A B)) (F0 m 63 ls []) := by
  obtain ⟨hx, hb, hml, hown, hts, hlk, hrt⟩ := id E
  unfold s13_pastes_b63 at hsh
  refine lv_iconst (v := iI (0)) hx hb dX13_pastes_63 rfl ?_
  obtain ⟨hz, hz1, hz2⟩ := zR_some hsh
  rw [← hz1, ← hz2]
  exact e_zret hx hb hrt hlk hp hS hz dX13_pastes_64
set_option maxRecDepth 100000 in
set_option maxHeartbeats 4000000 in
theorem w13_pastes_b141 {p : Program} {l : Launch} {e : Env} {s : State} {m : MethodId} {args : Array Value} {below : List Frame} {meth : Method} {c : Code} {D : va_G} {cA : Nat → ClassId} {B : Nat} {res : Int × HP} (E : e_En p s m args meth c cX13_pastes RX13 6 (some .boolean)) {ls : Array Slot} {H : Heap} {locs : List Loc} {S : HP} {y0 : Int} (hp : e_Pic D cA B S s H) (hS : va_S (e_A B) s.heap H locs) (hl : e_lo ls 6 []) (hsh : s13_pastes_b141 S y0 = some res) : W p l e ({ frames := 5, cells := 0, slots := 0, locals := 131 } : Room) s m args below meth c H locs 0 0 (MQ below (e_Qi D cA B res.1 res.2) args s 0 0 (e_A B)) (F0 m 141 ls [.int (iI (y0))]) := by
  obtain ⟨hx, hb, hml, hown, hts, hlk, hrt⟩ := id E
  unfold s13_pastes_b141 at hsh
  obtain ⟨hz, hz1, hz2⟩ := zR_some hsh
  rw [← hz1, ← hz2]
  exact e_zret hx hb hrt hlk hp hS hz dX13_pastes_141
set_option maxRecDepth 100000 in
set_option maxHeartbeats 4000000 in
theorem w13_pastes_b105 {p : Program} {l : Launch} {e : Env} {s : State} {m : MethodId} {args : Array Value} {below : List Frame} {meth : Method} {c : Code} {D : va_G} {cA : Nat → ClassId} {B : Nat} {res : Int × HP} (E : e_En p s m args meth c cX13_pastes RX13 6 (some .boolean)) {ls : Array Slot} {H : Heap} {locs : List Loc} {S : HP} {y0 : Int} {y1 : Int} {y2 : Int} {y3 : Int} (hp : e_Pic D cA B S s H) (hS : va_S (e_A B) s.heap H locs) (hl : e_lo ls 6 []) (hsh : s13_pastes_b105 S y0 y1 y2 y3 = some res) : W p l e ({ frames := 5, cells := 0, slots := 0, locals := 131 } : Room) s m args below meth c H locs 0 0 (MQ below (e_Qi D cA B res.1 res.2) args s 0 0 (e_A B)) (F0 m 105 ls [.int (iI (y3)), .int (iI (y2)), .int (iI (y1)), e_rv B (y0)]) := by
  obtain ⟨hx, hb, hml, hown, hts, hlk, hrt⟩ := id E
  unfold s13_pastes_b105 at hsh
  obtain ⟨⟨v105, S105⟩, h105, hsh⟩ := Option.bind_eq_some_iff.mp hsh
  have hsh : _ = _ := hsh
  try dsimp only at hsh
  have ok105 := ok13_putsOfLines h105
  refine e_callI (nL := 6) (mc := 0) (ms := 0) (T := TX13) (N := 126) (As := [.int (iI (y1)), .int (iI (y2)), .int (iI (y3))]) (rest := []) hx hb hml hown hts hp hS hl.size ok105.1 ok105.2.1 ok105.2.2 rfl (by decide) (c13_putsOfLines l D cA B S S105 (y0) (y1) (y2) (y3) v105 h105) rfl rfl kd13_putsOfLines (kl13_560) ks13_putsOfLines kv13_putsOfLines ki13 kh13_putsOfLines ⟨Nat.le_of_ble_eq_true rfl, Nat.le_of_ble_eq_true rfl⟩ rfl (by simp [e_rv_cat, e_int_cat]) ⟨Nat.le_refl _, Nat.le_refl _⟩ dX13_pastes_105 rfl (fun H locs hp hS => ?_)
  obtain ⟨hz, hz1, hz2⟩ := zR_some hsh
  rw [← hz1, ← hz2]
  exact e_zret hx hb hrt hlk hp hS hz dX13_pastes_108
set_option maxRecDepth 100000 in
set_option maxHeartbeats 4000000 in
theorem w13_pastes_b44 {p : Program} {l : Launch} {e : Env} {s : State} {m : MethodId} {args : Array Value} {below : List Frame} {meth : Method} {c : Code} {D : va_G} {cA : Nat → ClassId} {B : Nat} {res : Int × HP} (E : e_En p s m args meth c cX13_pastes RX13 6 (some .boolean)) {ls : Array Slot} {H : Heap} {locs : List Loc} {S : HP} {x0 : Int} {x2 : Int} {x3 : Int} {x4 : Int} {y0 : Int} (hp : e_Pic D cA B S s H) (hS : va_S (e_A B) s.heap H locs) (hl : e_lo ls 6 [(0, e_rv B (x0)), (2, .int (iI (x2))), (3, .int (iI (x3))), (4, .int (iI (x4)))]) (hsh : s13_pastes_b44 S x0 x2 x3 x4 y0 = some res) : W p l e ({ frames := 5, cells := 0, slots := 0, locals := 131 } : Room) s m args below meth c H locs 0 0 (MQ below (e_Qi D cA B res.1 res.2) args s 0 0 (e_A B)) (F0 m 44 ls [.int (iI (y0))]) := by
  obtain ⟨hx, hb, hml, hown, hts, hlk, hrt⟩ := id E
  unfold s13_pastes_b44 at hsh
  refine e_istore (lv' := [(5, .int (iI (y0))), (0, e_rv B (x0)), (2, .int (iI (x2))), (3, .int (iI (x3))), (4, .int (iI (x4)))]) hx hb dX13_pastes_44 hl (by decide) rfl (fun ls hl => ?_)
  refine lv_iload hx hb dX13_pastes_46 (hl.at 4 rfl) ?_
  refine lv_bipush (v := iI (38)) hx hb dX13_pastes_48 (by decide +kernel) ?_
  refine e_icmp_eq (tgt := 63) hx hb dX13_pastes_50 (by decide) (fun c50 => ?_) (fun c50 => ?_)
  · rw [if_pos c50] at hsh
    exact w13_pastes_b63 E hp hS (hl.sub [] rfl) hsh
  · rw [if_neg c50] at hsh
    refine e_aload_n (B := B) (x := x0) hx hb dX13_pastes_53 rfl (hl.at 1 rfl) ?_
    obtain ⟨v54, h54, hsh⟩ := Option.bind_eq_some_iff.mp hsh
    refine e_getR (k := 11) hx hb hts in_X13 hown hp h54 rfl (by decide) (by decide) rfl (hts _ kf13_23) rfl dX13_pastes_54 ?_
    refine lv_iload hx hb dX13_pastes_57 (hl.at 4 rfl) ?_
    obtain ⟨v59, h59, hsh⟩ := Option.bind_eq_some_iff.mp hsh
    refine e_iald hx hb hp h59 dX13_pastes_59 ?_
    refine e_if_ne (tgt := 65) hx hb dX13_pastes_60 (by decide) (fun c60 => ?_) (fun c60 => ?_)
    · rw [if_neg c60] at hsh
      refine e_aload_n (B := B) (x := x0) hx hb dX13_pastes_65 rfl (hl.at 1 rfl) ?_
      obtain ⟨v66, h66, hsh⟩ := Option.bind_eq_some_iff.mp hsh
      refine e_getR (k := 11) hx hb hts in_X13 hown hp h66 rfl (by decide) (by decide) rfl (hts _ kf13_23) rfl dX13_pastes_66 ?_
      refine lv_iload hx hb dX13_pastes_69 (hl.at 4 rfl) ?_
      obtain ⟨v71, h71, hsh⟩ := Option.bind_eq_some_iff.mp hsh
      refine e_iald hx hb hp h71 dX13_pastes_71 ?_
      refine lv_iconst (v := iI (2)) hx hb dX13_pastes_72 rfl ?_
      refine e_icmp_ne (tgt := 109) hx hb dX13_pastes_73 (by decide) (fun c73 => ?_) (fun c73 => ?_)
      · rw [if_neg c73] at hsh
        refine e_aload_n (B := B) (x := x0) hx hb dX13_pastes_109 rfl (hl.at 1 rfl) ?_
        obtain ⟨v110, h110, hsh⟩ := Option.bind_eq_some_iff.mp hsh
        refine e_getR (k := 11) hx hb hts in_X13 hown hp h110 rfl (by decide) (by decide) rfl (hts _ kf13_23) rfl dX13_pastes_110 ?_
        refine lv_iload hx hb dX13_pastes_113 (hl.at 4 rfl) ?_
        obtain ⟨v115, h115, hsh⟩ := Option.bind_eq_some_iff.mp hsh
        refine e_iald hx hb hp h115 dX13_pastes_115 ?_
        refine lv_iconst (v := iI (1)) hx hb dX13_pastes_116 rfl ?_
        refine e_icmp_ne (tgt := 132) hx hb dX13_pastes_117 (by decide) (fun c117 => ?_) (fun c117 => ?_)
        · rw [if_neg c117] at hsh
          refine e_aload_n (B := B) (x := x0) hx hb dX13_pastes_132 rfl (hl.at 1 rfl) ?_
          refine lv_iload hx hb dX13_pastes_133 (hl.at 4 rfl) ?_
          refine lv_iload_n hx hb dX13_pastes_135 rfl (hl.at 2 rfl) ?_
          refine lv_iload hx hb dX13_pastes_136 (hl.at 0 rfl) ?_
          obtain ⟨⟨v138, S138⟩, h138, hsh⟩ := Option.bind_eq_some_iff.mp hsh
          have hsh : _ = _ := hsh
          try dsimp only at hsh
          have ok138 := ok13_putsOfRows h138
          refine e_callI (nL := 6) (mc := 0) (ms := 0) (T := TX13) (N := 126) (As := [.int (iI (x4)), .int (iI (x2)), .int (iI (y0))]) (rest := []) hx hb hml hown hts hp hS hl.size ok138.1 ok138.2.1 ok138.2.2 rfl (by decide) (c13_putsOfRows l D cA B S S138 (x0) (x4) (x2) (y0) v138 h138) rfl rfl kd13_putsOfRows (kl13_566) ks13_putsOfRows kv13_putsOfRows ki13 kh13_putsOfRows ⟨Nat.le_of_ble_eq_true rfl, Nat.le_of_ble_eq_true rfl⟩ rfl (by simp [e_rv_cat, e_int_cat]) ⟨Nat.le_refl _, Nat.le_refl _⟩ dX13_pastes_138 rfl (fun H locs hp hS => ?_)
          exact w13_pastes_b141 E hp hS (hl.sub [] rfl) hsh
        · rw [if_pos c117] at hsh
          refine e_aload_n (B := B) (x := x0) hx hb dX13_pastes_120 rfl (hl.at 1 rfl) ?_
          refine lv_iload hx hb dX13_pastes_121 (hl.at 4 rfl) ?_
          refine lv_iload_n hx hb dX13_pastes_123 rfl (hl.at 2 rfl) ?_
          refine lv_iload hx hb dX13_pastes_124 (hl.at 0 rfl) ?_
          obtain ⟨⟨v126, S126⟩, h126, hsh⟩ := Option.bind_eq_some_iff.mp hsh
          have hsh : _ = _ := hsh
          try dsimp only at hsh
          have ok126 := ok13_putsOfSigns h126
          refine e_callI (nL := 6) (mc := 0) (ms := 0) (T := TX13) (N := 126) (As := [.int (iI (x4)), .int (iI (x2)), .int (iI (y0))]) (rest := []) hx hb hml hown hts hp hS hl.size ok126.1 ok126.2.1 ok126.2.2 rfl (by decide) (c13_putsOfSigns l D cA B S S126 (x0) (x4) (x2) (y0) v126 h126) rfl rfl kd13_putsOfSigns (kl13_563) ks13_putsOfSigns kv13_putsOfSigns ki13 kh13_putsOfSigns ⟨Nat.le_of_ble_eq_true rfl, Nat.le_of_ble_eq_true rfl⟩ rfl (by simp [e_rv_cat, e_int_cat]) ⟨Nat.le_refl _, Nat.le_refl _⟩ dX13_pastes_126 rfl (fun H locs hp hS => ?_)
          refine lv_goto (tgt := 141) hx hb dX13_pastes_129 (by decide) ?_
          exact w13_pastes_b141 E hp hS (hl.sub [] rfl) hsh
      · rw [if_pos c73] at hsh
        refine e_aload_n (B := B) (x := x0) hx hb dX13_pastes_76 rfl (hl.at 1 rfl) ?_
        refine lv_iload hx hb dX13_pastes_77 (hl.at 4 rfl) ?_
        refine lv_iload_n hx hb dX13_pastes_79 rfl (hl.at 2 rfl) ?_
        refine lv_iload_n hx hb dX13_pastes_80 rfl (hl.at 3 rfl) ?_
        refine e_if_eq (tgt := 95) hx hb dX13_pastes_81 (by decide) (fun c81 => ?_) (fun c81 => ?_)
        · rw [if_pos c81] at hsh
          refine e_aload_n (B := B) (x := x0) hx hb dX13_pastes_95 rfl (hl.at 1 rfl) ?_
          refine e_aload_n (B := B) (x := x0) hx hb dX13_pastes_96 rfl (hl.at 1 rfl) ?_
          obtain ⟨v97, h97, hsh⟩ := Option.bind_eq_some_iff.mp hsh
          refine e_getI (k := 5) hx hb hts in_X13 hown hp h97 rfl (by decide) (by decide) rfl (hts _ kf13_213) rfl dX13_pastes_97 ?_
          obtain ⟨⟨v100, S100⟩, h100, hsh⟩ := Option.bind_eq_some_iff.mp hsh
          have hsh : _ = _ := hsh
          try dsimp only at hsh
          have ok100 := ok13_lastSeen h100
          refine e_callI (nL := 6) (mc := 0) (ms := 0) (T := TX13) (N := 126) (As := [.int (iI (v97))]) (rest := [.int (iI (x2)), .int (iI (x4)), e_rv B (x0)]) hx hb hml hown hts hp hS hl.size ok100.1 ok100.2.1 ok100.2.2 rfl (by decide) (c13_lastSeen l D cA B S S100 (x0) (v97) v100 h100) rfl rfl kd13_lastSeen (kl13_343) ks13_lastSeen kv13_lastSeen ki13 kh13_lastSeen ⟨Nat.le_of_ble_eq_true rfl, Nat.le_of_ble_eq_true rfl⟩ rfl (by simp [e_rv_cat, e_int_cat]) ⟨Nat.le_refl _, Nat.le_refl _⟩ dX13_pastes_100 rfl (fun H locs hp hS => ?_)
          refine lv_iconst (v := iI (1)) hx hb dX13_pastes_103 rfl ?_
          refine e_iadd hx hb dX13_pastes_104 ?_
          exact w13_pastes_b105 E hp hS (hl.sub [] rfl) hsh
        · rw [if_neg c81] at hsh
          refine e_aload_n (B := B) (x := x0) hx hb dX13_pastes_84 rfl (hl.at 1 rfl) ?_
          refine e_aload_n (B := B) (x := x0) hx hb dX13_pastes_85 rfl (hl.at 1 rfl) ?_
          obtain ⟨v86, h86, hsh⟩ := Option.bind_eq_some_iff.mp hsh
          refine e_getI (k := 5) hx hb hts in_X13 hown hp h86 rfl (by decide) (by decide) rfl (hts _ kf13_213) rfl dX13_pastes_86 ?_
          obtain ⟨⟨v89, S89⟩, h89, hsh⟩ := Option.bind_eq_some_iff.mp hsh
          have hsh : _ = _ := hsh
          try dsimp only at hsh
          have ok89 := ok13_firstSeen h89
          refine e_callI (nL := 6) (mc := 0) (ms := 0) (T := TX13) (N := 126) (As := [.int (iI (v86))]) (rest := [.int (iI (x2)), .int (iI (x4)), e_rv B (x0)]) hx hb hml hown hts hp hS hl.size ok89.1 ok89.2.1 ok89.2.2 rfl (by decide) (c13_firstSeen l D cA B S S89 (x0) (v86) v89 h89) rfl rfl kd13_firstSeen (kl13_346) ks13_firstSeen kv13_firstSeen ki13 kh13_firstSeen ⟨Nat.le_of_ble_eq_true rfl, Nat.le_of_ble_eq_true rfl⟩ rfl (by simp [e_rv_cat, e_int_cat]) ⟨Nat.le_refl _, Nat.le_refl _⟩ dX13_pastes_89 rfl (fun H locs hp hS => ?_)
          refine lv_goto (tgt := 105) hx hb dX13_pastes_92 (by decide) ?_
          exact w13_pastes_b105 E hp hS (hl.sub [] rfl) hsh
    · rw [if_pos c60] at hsh
      exact w13_pastes_b63 E hp hS (hl.sub [] rfl) hsh
set_option maxRecDepth 100000 in
set_option maxHeartbeats 4000000 in
theorem w13_pastes_b31 {p : Program} {l : Launch} {e : Env} {s : State} {m : MethodId} {args : Array Value} {below : List Frame} {meth : Method} {c : Code} {D : va_G} {cA : Nat → ClassId} {B : Nat} {res : Int × HP} (E : e_En p s m args meth c cX13_pastes RX13 6 (some .boolean)) {ls : Array Slot} {H : Heap} {locs : List Loc} {S : HP} {x0 : Int} {x2 : Int} {x3 : Int} {x4 : Int} (hp : e_Pic D cA B S s H) (hS : va_S (e_A B) s.heap H locs) (hl : e_lo ls 6 [(0, e_rv B (x0)), (2, .int (iI (x2))), (3, .int (iI (x3))), (4, .int (iI (x4)))]) (hsh : s13_pastes_b31 S x0 x2 x3 x4 = some res) : W p l e ({ frames := 5, cells := 0, slots := 0, locals := 131 } : Room) s m args below meth c H locs 0 0 (MQ below (e_Qi D cA B res.1 res.2) args s 0 0 (e_A B)) (F0 m 31 ls []) := by
  obtain ⟨hx, hb, hml, hown, hts, hlk, hrt⟩ := id E
  unfold s13_pastes_b31 at hsh
  refine e_aload_n (B := B) (x := x0) hx hb dX13_pastes_31 rfl (hl.at 0 rfl) ?_
  obtain ⟨v32, h32, hsh⟩ := Option.bind_eq_some_iff.mp hsh
  refine e_getI (k := 6) hx hb hts in_X13 hown hp h32 rfl (by decide) (by decide) rfl (hts _ kf13_216) rfl dX13_pastes_32 ?_
  refine lv_goto (tgt := 44) hx hb dX13_pastes_35 (by decide) ?_
  exact w13_pastes_b44 E hp hS (hl.sub [0, 1, 2, 3] rfl) hsh
set_option maxRecDepth 100000 in
set_option maxHeartbeats 4000000 in
theorem w13_pastes_b13 {p : Program} {l : Launch} {e : Env} {s : State} {m : MethodId} {args : Array Value} {below : List Frame} {meth : Method} {c : Code} {D : va_G} {cA : Nat → ClassId} {B : Nat} {res : Int × HP} (E : e_En p s m args meth c cX13_pastes RX13 6 (some .boolean)) {ls : Array Slot} {H : Heap} {locs : List Loc} {S : HP} {x0 : Int} {x2 : Int} {x3 : Int} {y0 : Int} (hp : e_Pic D cA B S s H) (hS : va_S (e_A B) s.heap H locs) (hl : e_lo ls 6 [(0, e_rv B (x0)), (2, .int (iI (x2))), (3, .int (iI (x3)))]) (hsh : s13_pastes_b13 S x0 x2 x3 y0 = some res) : W p l e ({ frames := 5, cells := 0, slots := 0, locals := 131 } : Room) s m args below meth c H locs 0 0 (MQ below (e_Qi D cA B res.1 res.2) args s 0 0 (e_A B)) (F0 m 13 ls [.int (iI (y0))]) := by
  obtain ⟨hx, hb, hml, hown, hts, hlk, hrt⟩ := id E
  unfold s13_pastes_b13 at hsh
  refine e_istore (lv' := [(4, .int (iI (y0))), (0, e_rv B (x0)), (2, .int (iI (x2))), (3, .int (iI (x3)))]) hx hb dX13_pastes_13 hl (by decide) rfl (fun ls hl => ?_)
  refine lv_iload_n hx hb dX13_pastes_15 rfl (hl.at 3 rfl) ?_
  refine e_if_ne (tgt := 31) hx hb dX13_pastes_16 (by decide) (fun c16 => ?_) (fun c16 => ?_)
  · rw [if_neg c16] at hsh
    exact w13_pastes_b31 E hp hS (hl.sub [1, 2, 3, 0] rfl) hsh
  · rw [if_pos c16] at hsh
    refine e_aload_n (B := B) (x := x0) hx hb dX13_pastes_19 rfl (hl.at 1 rfl) ?_
    obtain ⟨v20, h20, hsh⟩ := Option.bind_eq_some_iff.mp hsh
    refine e_getR (k := 3) hx hb hts in_X13 hown hp h20 rfl (by decide) (by decide) rfl (hts _ kf13_17) rfl dX13_pastes_20 ?_
    refine e_aload_n (B := B) (x := x0) hx hb dX13_pastes_23 rfl (hl.at 1 rfl) ?_
    obtain ⟨v24, h24, hsh⟩ := Option.bind_eq_some_iff.mp hsh
    refine e_getI (k := 5) hx hb hts in_X13 hown hp h24 rfl (by decide) (by decide) rfl (hts _ kf13_213) rfl dX13_pastes_24 ?_
    obtain ⟨v27, h27, hsh⟩ := Option.bind_eq_some_iff.mp hsh
    refine e_iald hx hb hp h27 dX13_pastes_27 ?_
    refine e_if_ne (tgt := 38) hx hb dX13_pastes_28 (by decide) (fun c28 => ?_) (fun c28 => ?_)
    · rw [if_neg c28] at hsh
      refine e_aload_n (B := B) (x := x0) hx hb dX13_pastes_38 rfl (hl.at 1 rfl) ?_
      obtain ⟨v39, h39, hsh⟩ := Option.bind_eq_some_iff.mp hsh
      refine e_getI (k := 6) hx hb hts in_X13 hown hp h39 rfl (by decide) (by decide) rfl (hts _ kf13_216) rfl dX13_pastes_39 ?_
      refine lv_iconst (v := iI (1)) hx hb dX13_pastes_42 rfl ?_
      refine e_iadd hx hb dX13_pastes_43 ?_
      exact w13_pastes_b44 E hp hS (hl.sub [1, 2, 3, 0] rfl) hsh
    · rw [if_pos c28] at hsh
      exact w13_pastes_b31 E hp hS (hl.sub [1, 2, 3, 0] rfl) hsh
set_option maxRecDepth 100000 in
set_option maxHeartbeats 4000000 in
theorem c13_pastes (l : Launch) (D : va_G) (cA : Nat → ClassId) (B : Nat) (S S' : HP) (x0 : Int) (x1 : Int) (x2 : Int) (x3 : Int) (r : Int) (hsh : s13_pastes S x0 x1 x2 x3 = some (r, S')) : Met l yX13_pastes (e_wu yX13_pastes cX13_pastes 6 (some .boolean)) ({ frames := 5, cells := 0, slots := 0, locals := 131 } : Room) (va_Pc [e_rv B (x0), .int (iI (x1)), .int (iI (x2)), .int (iI (x3))] (fun U => e_PU D cA B S U)) (e_Qi D cA B r S') 0 0 (e_A B) := by
  refine Met.ofW (cc := cX13_pastes) (maxL := 6) (ret := (some .boolean)) (by decide +kernel) rfl ?_
  intro p e s m args below meth c s₁ Bd hml hv
  obtain ⟨rfl, hp⟩ := hv
  have hp : e_Pic D cA B S s s.heap := hp
  have hx := Bd.exec
  have hb := Bd.bytes
  have hrt := Bd.returns
  have hlk := Bd.notSynchronized
  have hown : s.vm.findClass RX13 = some m.cls := findClass_of_methodNamed Bd.named
  have hts : ∀ w ∈ e_tb, w.before ([e_rv B (x0), .int (iI (x1)), .int (iI (x2)), .int (iI (x3))] : List Value).toArray s = true := fun w h => atoms_spec (ws := (e_wu yX13_pastes cX13_pastes 6 (some .boolean))) Bd.pre w (List.mem_cons_of_mem _ h)
  have E : e_En p s m ([e_rv B (x0), .int (iI (x1)), .int (iI (x2)), .int (iI (x3))] : List Value).toArray meth c cX13_pastes RX13 6 (some .boolean) := ⟨hx, hb, hml, hown, hts, hlk, hrt⟩
  have hS : va_S (e_A B) s.heap s.heap [] := va_S.rf
  have hl := e_entry (vs := [e_rv B (x0), .int (iI (x1)), .int (iI (x2)), .int (iI (x3))]) (n := 6) (Nat.le_of_ble_eq_true rfl) (e_cc (e_rv_cat _ _) (e_cc rfl (e_cc rfl (e_cc rfl e_cn))))
  rw [lg_entry_eq]
  generalize (lg_sl [e_rv B (x0), .int (iI (x1)), .int (iI (x2)), .int (iI (x3))] ++ List.replicate (6 - (lg_sl [e_rv B (x0), .int (iI (x1)), .int (iI (x2)), .int (iI (x3))]).length) Slot.unset).toArray = ls at hl ⊢
  generalize ([e_rv B (x0), .int (iI (x1)), .int (iI (x2)), .int (iI (x3))] : List Value).toArray = args at hts E ⊢
  have hl : e_lo ls 6 [(0, e_rv B (x0)), (1, .int (iI (x1))), (2, .int (iI (x2))), (3, .int (iI (x3)))] := hl
  have hsh := (gd_some hsh).2
  refine lv_iload_n hx hb dX13_pastes_0 rfl (hl.at 1 rfl) ?_
  refine e_if_ne (tgt := 9) hx hb dX13_pastes_1 (by decide) (fun c1 => ?_) (fun c1 => ?_)
  · rw [if_neg c1] at hsh
    refine lv_iload_n hx hb dX13_pastes_9 rfl (hl.at 1 rfl) ?_
    obtain ⟨⟨v10, S10⟩, h10, hsh⟩ := Option.bind_eq_some_iff.mp hsh
    have hsh : _ = _ := hsh
    try dsimp only at hsh
    refine e_callS (nL := 6) (mc := 0) (ms := 0) (As := [.int (iI (x1))]) (rest := []) hx hb hml hown hts hp hS hl.size (c13_registerOf l D cA B S S10 (x1) v10 h10) rfl rfl kd13_registerOf (kl13_457) ks13_registerOf ki13 kh13_registerOf ⟨Nat.le_of_ble_eq_true rfl, Nat.le_of_ble_eq_true rfl⟩ rfl (by simp [e_rv_cat, e_int_cat]) ⟨Nat.le_refl _, Nat.le_refl _⟩ dX13_pastes_10 rfl (fun H locs hp hS => ?_)
    exact w13_pastes_b13 E hp hS (hl.sub [0, 2, 3] rfl) hsh
  · rw [if_pos c1] at hsh
    refine lv_bipush (v := iI (37)) hx hb dX13_pastes_4 (by decide +kernel) ?_
    refine lv_goto (tgt := 13) hx hb dX13_pastes_6 (by decide) ?_
    exact w13_pastes_b13 E hp hS (hl.sub [0, 2, 3] rfl) hsh
theorem ok13_beginsInsertion {S : HP} {x0 : Int} {x1 : Int} {x2 : Int} {r : Int × HP} (h : s13_beginsInsertion S x0 x1 x2 = some r) : 0 ≤ x0 ∧ x0.toNat < e_n S ∧ e_g S x0.toNat = 13 := (gd_some h).1
set_option maxRecDepth 100000 in
set_option maxHeartbeats 4000000 in
theorem w13_beginsInsertion_b190 {p : Program} {l : Launch} {e : Env} {s : State} {m : MethodId} {args : Array Value} {below : List Frame} {meth : Method} {c : Code} {D : va_G} {cA : Nat → ClassId} {B : Nat} {res : Int × HP} (E : e_En p s m args meth c cX13_beginsInsertion RX13 5 (some .boolean)) {ls : Array Slot} {H : Heap} {locs : List Loc} {S : HP} {x0 : Int} {y0 : Int} (hp : e_Pic D cA B S s H) (hS : va_S (e_A B) s.heap H locs) (hl : e_lo ls 5 [(0, e_rv B (x0))]) (hsh : s13_beginsInsertion_b190 S x0 y0 = some res) : W p l e ({ frames := 3, cells := 0, slots := 0, locals := 72 } : Room) s m args below meth c H locs 0 0 (MQ below (e_Qi D cA B res.1 res.2) args s 0 0 (e_A B)) (F0 m 190 ls [.int (iI (y0))]) := by
  obtain ⟨hx, hb, hml, hown, hts, hlk, hrt⟩ := id E
  unfold s13_beginsInsertion_b190 at hsh
  refine e_istore (lv' := [(4, .int (iI (y0))), (0, e_rv B (x0))]) hx hb dX13_beginsInsertion_190 hl (by decide) rfl (fun ls hl => ?_)
  refine e_aload_n (B := B) (x := x0) hx hb dX13_beginsInsertion_192 rfl (hl.at 1 rfl) ?_
  refine lv_iload hx hb dX13_beginsInsertion_193 (hl.at 0 rfl) ?_
  refine lv_iconst (v := iI (1)) hx hb dX13_beginsInsertion_195 rfl ?_
  obtain ⟨S196, h196, hsh⟩ := Option.bind_eq_some_iff.mp hsh
  have ok196 := ok13_putsLines h196
  refine e_callV (nL := 5) (mc := 0) (ms := 0) (T := TX13) (N := 126) (As := [.int (iI (y0)), .int (iI (1))]) (rest := []) hx hb hml hown hts hp hS hl.size ok196.1 ok196.2.1 ok196.2.2 rfl (by decide) (c13_putsLines l D cA B S S196 (x0) (y0) (1) h196) rfl rfl kd13_putsLines (kl13_278) ks13_putsLines kv13_putsLines ki13 kh13_putsLines ⟨Nat.le_of_ble_eq_true rfl, Nat.le_of_ble_eq_true rfl⟩ rfl (by simp [e_rv_cat, e_int_cat]) ⟨Nat.le_refl _, Nat.le_refl _⟩ dX13_beginsInsertion_196 rfl (fun H locs hp hS => ?_)
  refine e_aload_n (B := B) (x := x0) hx hb dX13_beginsInsertion_199 rfl (hl.at 1 rfl) ?_
  refine lv_iload hx hb dX13_beginsInsertion_200 (hl.at 0 rfl) ?_
  refine lv_iconst (v := iI (0)) hx hb dX13_beginsInsertion_202 rfl ?_
  refine lv_iconst (v := iI (1)) hx hb dX13_beginsInsertion_203 rfl ?_
  obtain ⟨⟨v204, S204⟩, h204, hsh⟩ := Option.bind_eq_some_iff.mp hsh
  have hsh : _ = _ := hsh
  try dsimp only at hsh
  have ok204 := ok13_inserts h204
  refine e_callI (nL := 5) (mc := 0) (ms := 0) (T := TX13) (N := 126) (As := [.int (iI (y0)), .int (iI (0)), .int (iI (1))]) (rest := []) hx hb hml hown hts hp hS hl.size ok204.1 ok204.2.1 ok204.2.2 rfl (by decide) (c13_inserts l D cA B S196 S204 (x0) (y0) (0) (1) v204 h204) rfl rfl kd13_inserts (kl13_504) ks13_inserts kv13_inserts ki13 kh13_inserts ⟨Nat.le_of_ble_eq_true rfl, Nat.le_of_ble_eq_true rfl⟩ rfl (by simp [e_rv_cat, e_int_cat]) ⟨Nat.le_refl _, Nat.le_refl _⟩ dX13_beginsInsertion_204 rfl (fun H locs hp hS => ?_)
  obtain ⟨hz, hz1, hz2⟩ := zR_some hsh
  rw [← hz1, ← hz2]
  exact e_zret hx hb hrt hlk hp hS hz dX13_beginsInsertion_207
set_option maxRecDepth 100000 in
set_option maxHeartbeats 4000000 in
theorem w13_beginsInsertion_b35 {p : Program} {l : Launch} {e : Env} {s : State} {m : MethodId} {args : Array Value} {below : List Frame} {meth : Method} {c : Code} {D : va_G} {cA : Nat → ClassId} {B : Nat} {res : Int × HP} (E : e_En p s m args meth c cX13_beginsInsertion RX13 5 (some .boolean)) {ls : Array Slot} {H : Heap} {locs : List Loc} {S : HP} {x0 : Int} {x1 : Int} {x2 : Int} {x3 : Int} (hp : e_Pic D cA B S s H) (hS : va_S (e_A B) s.heap H locs) (hl : e_lo ls 5 [(0, e_rv B (x0)), (1, .int (iI (x1))), (2, .int (iI (x2))), (3, .int (iI (x3)))]) (hsh : s13_beginsInsertion_b35 S x0 x1 x2 x3 = some res) : W p l e ({ frames := 3, cells := 0, slots := 0, locals := 72 } : Room) s m args below meth c H locs 0 0 (MQ below (e_Qi D cA B res.1 res.2) args s 0 0 (e_A B)) (F0 m 35 ls []) := by
  obtain ⟨hx, hb, hml, hown, hts, hlk, hrt⟩ := id E
  unfold s13_beginsInsertion_b35 at hsh
  refine lv_iload_n hx hb dX13_beginsInsertion_35 rfl (hl.at 1 rfl) ?_
  by_cases c36_0 : iW (x1) = 65
  · rw [if_pos c36_0] at hsh
    refine lv_lookup (off := 97) (tgt := 133) hx hb dX13_beginsInsertion_36 (by decide +kernel) (e_off_h c36_0.symm) (by decide) ?_
    refine e_aload_n (B := B) (x := x0) hx hb dX13_beginsInsertion_133 rfl (hl.at 0 rfl) ?_
    refine e_aload_n (B := B) (x := x0) hx hb dX13_beginsInsertion_134 rfl (hl.at 0 rfl) ?_
    obtain ⟨v135, h135, hsh⟩ := Option.bind_eq_some_iff.mp hsh
    refine e_getI (k := 5) hx hb hts in_X13 hown hp h135 rfl (by decide) (by decide) rfl (hts _ kf13_213) rfl dX13_beginsInsertion_135 ?_
    refine e_aload_n (B := B) (x := x0) hx hb dX13_beginsInsertion_138 rfl (hl.at 0 rfl) ?_
    obtain ⟨v139, h139, hsh⟩ := Option.bind_eq_some_iff.mp hsh
    refine e_getR (k := 3) hx hb hts in_X13 hown hp h139 rfl (by decide) (by decide) rfl (hts _ kf13_17) rfl dX13_beginsInsertion_139 ?_
    refine e_aload_n (B := B) (x := x0) hx hb dX13_beginsInsertion_142 rfl (hl.at 0 rfl) ?_
    obtain ⟨v143, h143, hsh⟩ := Option.bind_eq_some_iff.mp hsh
    refine e_getI (k := 5) hx hb hts in_X13 hown hp h143 rfl (by decide) (by decide) rfl (hts _ kf13_213) rfl dX13_beginsInsertion_143 ?_
    obtain ⟨v146, h146, hsh⟩ := Option.bind_eq_some_iff.mp hsh
    refine e_iald hx hb hp h146 dX13_beginsInsertion_146 ?_
    refine lv_iload_n hx hb dX13_beginsInsertion_147 rfl (hl.at 2 rfl) ?_
    obtain ⟨⟨v148, S148⟩, h148, hsh⟩ := Option.bind_eq_some_iff.mp hsh
    have hsh : _ = _ := hsh
    try dsimp only at hsh
    have ok148 := ok13_inserts h148
    refine e_callI (nL := 5) (mc := 0) (ms := 0) (T := TX13) (N := 126) (As := [.int (iI (v135)), .int (iI (v146)), .int (iI (x2))]) (rest := []) hx hb hml hown hts hp hS hl.size ok148.1 ok148.2.1 ok148.2.2 rfl (by decide) (c13_inserts l D cA B S S148 (x0) (v135) (v146) (x2) v148 h148) rfl rfl kd13_inserts (kl13_504) ks13_inserts kv13_inserts ki13 kh13_inserts ⟨Nat.le_of_ble_eq_true rfl, Nat.le_of_ble_eq_true rfl⟩ rfl (by simp [e_rv_cat, e_int_cat]) ⟨Nat.le_refl _, Nat.le_refl _⟩ dX13_beginsInsertion_148 rfl (fun H locs hp hS => ?_)
    obtain ⟨hz, hz1, hz2⟩ := zR_some hsh
    rw [← hz1, ← hz2]
    exact e_zret hx hb hrt hlk hp hS hz dX13_beginsInsertion_151
  · rw [if_neg c36_0] at hsh
    by_cases c36_1 : iW (x1) = 73
    · rw [if_pos c36_1] at hsh
      refine lv_lookup (off := 86) (tgt := 122) hx hb dX13_beginsInsertion_36 (by decide +kernel) (e_off_s (fun q => c36_0 q.symm) (e_off_h c36_1.symm)) (by decide) ?_
      refine e_aload_n (B := B) (x := x0) hx hb dX13_beginsInsertion_122 rfl (hl.at 0 rfl) ?_
      refine e_aload_n (B := B) (x := x0) hx hb dX13_beginsInsertion_123 rfl (hl.at 0 rfl) ?_
      obtain ⟨v124, h124, hsh⟩ := Option.bind_eq_some_iff.mp hsh
      refine e_getI (k := 5) hx hb hts in_X13 hown hp h124 rfl (by decide) (by decide) rfl (hts _ kf13_213) rfl dX13_beginsInsertion_124 ?_
      refine lv_iload_n hx hb dX13_beginsInsertion_127 rfl (hl.at 3 rfl) ?_
      refine lv_iload_n hx hb dX13_beginsInsertion_128 rfl (hl.at 2 rfl) ?_
      obtain ⟨⟨v129, S129⟩, h129, hsh⟩ := Option.bind_eq_some_iff.mp hsh
      have hsh : _ = _ := hsh
      try dsimp only at hsh
      have ok129 := ok13_inserts h129
      refine e_callI (nL := 5) (mc := 0) (ms := 0) (T := TX13) (N := 126) (As := [.int (iI (v124)), .int (iI (x3)), .int (iI (x2))]) (rest := []) hx hb hml hown hts hp hS hl.size ok129.1 ok129.2.1 ok129.2.2 rfl (by decide) (c13_inserts l D cA B S S129 (x0) (v124) (x3) (x2) v129 h129) rfl rfl kd13_inserts (kl13_504) ks13_inserts kv13_inserts ki13 kh13_inserts ⟨Nat.le_of_ble_eq_true rfl, Nat.le_of_ble_eq_true rfl⟩ rfl (by simp [e_rv_cat, e_int_cat]) ⟨Nat.le_refl _, Nat.le_refl _⟩ dX13_beginsInsertion_129 rfl (fun H locs hp hS => ?_)
      obtain ⟨hz, hz1, hz2⟩ := zR_some hsh
      rw [← hz1, ← hz2]
      exact e_zret hx hb hrt hlk hp hS hz dX13_beginsInsertion_132
    · rw [if_neg c36_1] at hsh
      by_cases c36_2 : iW (x1) = 97
      · rw [if_pos c36_2] at hsh
        refine lv_lookup (off := 58) (tgt := 94) hx hb dX13_beginsInsertion_36 (by decide +kernel) (e_off_s (fun q => c36_0 q.symm) (e_off_s (fun q => c36_1 q.symm) (e_off_h c36_2.symm))) (by decide) ?_
        refine e_aload_n (B := B) (x := x0) hx hb dX13_beginsInsertion_94 rfl (hl.at 0 rfl) ?_
        refine e_aload_n (B := B) (x := x0) hx hb dX13_beginsInsertion_95 rfl (hl.at 0 rfl) ?_
        obtain ⟨v96, h96, hsh⟩ := Option.bind_eq_some_iff.mp hsh
        refine e_getI (k := 5) hx hb hts in_X13 hown hp h96 rfl (by decide) (by decide) rfl (hts _ kf13_213) rfl dX13_beginsInsertion_96 ?_
        refine e_aload_n (B := B) (x := x0) hx hb dX13_beginsInsertion_99 rfl (hl.at 0 rfl) ?_
        obtain ⟨v100, h100, hsh⟩ := Option.bind_eq_some_iff.mp hsh
        refine e_getI (k := 6) hx hb hts in_X13 hown hp h100 rfl (by decide) (by decide) rfl (hts _ kf13_216) rfl dX13_beginsInsertion_100 ?_
        refine lv_iconst (v := iI (1)) hx hb dX13_beginsInsertion_103 rfl ?_
        refine e_iadd hx hb dX13_beginsInsertion_104 ?_
        refine e_aload_n (B := B) (x := x0) hx hb dX13_beginsInsertion_105 rfl (hl.at 0 rfl) ?_
        obtain ⟨v106, h106, hsh⟩ := Option.bind_eq_some_iff.mp hsh
        refine e_getR (k := 3) hx hb hts in_X13 hown hp h106 rfl (by decide) (by decide) rfl (hts _ kf13_17) rfl dX13_beginsInsertion_106 ?_
        refine e_aload_n (B := B) (x := x0) hx hb dX13_beginsInsertion_109 rfl (hl.at 0 rfl) ?_
        obtain ⟨v110, h110, hsh⟩ := Option.bind_eq_some_iff.mp hsh
        refine e_getI (k := 5) hx hb hts in_X13 hown hp h110 rfl (by decide) (by decide) rfl (hts _ kf13_213) rfl dX13_beginsInsertion_110 ?_
        obtain ⟨v113, h113, hsh⟩ := Option.bind_eq_some_iff.mp hsh
        refine e_iald hx hb hp h113 dX13_beginsInsertion_113 ?_
        obtain ⟨⟨v114, S114⟩, h114, hsh⟩ := Option.bind_eq_some_iff.mp hsh
        have hsh : _ = _ := hsh
        try dsimp only at hsh
        refine e_callS (nL := 5) (mc := 0) (ms := 0) (As := [.int (iI ((v100 + 1))), .int (iI (v113))]) (rest := [.int (iI (v96)), e_rv B (x0)]) hx hb hml hown hts hp hS hl.size (c13_lesser l D cA B S S114 ((v100 + 1)) (v113) v114 h114) rfl rfl kd13_lesser (kl13_257) ks13_lesser ki13 kh13_lesser ⟨Nat.le_of_ble_eq_true rfl, Nat.le_of_ble_eq_true rfl⟩ rfl (by simp [e_rv_cat, e_int_cat]) ⟨Nat.le_refl _, Nat.le_refl _⟩ dX13_beginsInsertion_114 rfl (fun H locs hp hS => ?_)
        refine lv_iload_n hx hb dX13_beginsInsertion_117 rfl (hl.at 2 rfl) ?_
        obtain ⟨⟨v118, S118⟩, h118, hsh⟩ := Option.bind_eq_some_iff.mp hsh
        have hsh : _ = _ := hsh
        try dsimp only at hsh
        have ok118 := ok13_inserts h118
        refine e_callI (nL := 5) (mc := 0) (ms := 0) (T := TX13) (N := 126) (As := [.int (iI (v96)), .int (iI (v114)), .int (iI (x2))]) (rest := []) hx hb hml hown hts hp hS hl.size ok118.1 ok118.2.1 ok118.2.2 rfl (by decide) (c13_inserts l D cA B S114 S118 (x0) (v96) (v114) (x2) v118 h118) rfl rfl kd13_inserts (kl13_504) ks13_inserts kv13_inserts ki13 kh13_inserts ⟨Nat.le_of_ble_eq_true rfl, Nat.le_of_ble_eq_true rfl⟩ rfl (by simp [e_rv_cat, e_int_cat]) ⟨Nat.le_refl _, Nat.le_refl _⟩ dX13_beginsInsertion_118 rfl (fun H locs hp hS => ?_)
        obtain ⟨hz, hz1, hz2⟩ := zR_some hsh
        rw [← hz1, ← hz2]
        exact e_zret hx hb hrt hlk hp hS hz dX13_beginsInsertion_121
      · rw [if_neg c36_2] at hsh
        by_cases c36_3 : iW (x1) = 105
        · rw [if_pos c36_3] at hsh
          refine lv_lookup (off := 44) (tgt := 80) hx hb dX13_beginsInsertion_36 (by decide +kernel) (e_off_s (fun q => c36_0 q.symm) (e_off_s (fun q => c36_1 q.symm) (e_off_s (fun q => c36_2 q.symm) (e_off_h c36_3.symm)))) (by decide) ?_
          refine e_aload_n (B := B) (x := x0) hx hb dX13_beginsInsertion_80 rfl (hl.at 0 rfl) ?_
          refine e_aload_n (B := B) (x := x0) hx hb dX13_beginsInsertion_81 rfl (hl.at 0 rfl) ?_
          obtain ⟨v82, h82, hsh⟩ := Option.bind_eq_some_iff.mp hsh
          refine e_getI (k := 5) hx hb hts in_X13 hown hp h82 rfl (by decide) (by decide) rfl (hts _ kf13_213) rfl dX13_beginsInsertion_82 ?_
          refine e_aload_n (B := B) (x := x0) hx hb dX13_beginsInsertion_85 rfl (hl.at 0 rfl) ?_
          obtain ⟨v86, h86, hsh⟩ := Option.bind_eq_some_iff.mp hsh
          refine e_getI (k := 6) hx hb hts in_X13 hown hp h86 rfl (by decide) (by decide) rfl (hts _ kf13_216) rfl dX13_beginsInsertion_86 ?_
          refine lv_iload_n hx hb dX13_beginsInsertion_89 rfl (hl.at 2 rfl) ?_
          obtain ⟨⟨v90, S90⟩, h90, hsh⟩ := Option.bind_eq_some_iff.mp hsh
          have hsh : _ = _ := hsh
          try dsimp only at hsh
          have ok90 := ok13_inserts h90
          refine e_callI (nL := 5) (mc := 0) (ms := 0) (T := TX13) (N := 126) (As := [.int (iI (v82)), .int (iI (v86)), .int (iI (x2))]) (rest := []) hx hb hml hown hts hp hS hl.size ok90.1 ok90.2.1 ok90.2.2 rfl (by decide) (c13_inserts l D cA B S S90 (x0) (v82) (v86) (x2) v90 h90) rfl rfl kd13_inserts (kl13_504) ks13_inserts kv13_inserts ki13 kh13_inserts ⟨Nat.le_of_ble_eq_true rfl, Nat.le_of_ble_eq_true rfl⟩ rfl (by simp [e_rv_cat, e_int_cat]) ⟨Nat.le_refl _, Nat.le_refl _⟩ dX13_beginsInsertion_90 rfl (fun H locs hp hS => ?_)
          obtain ⟨hz, hz1, hz2⟩ := zR_some hsh
          rw [← hz1, ← hz2]
          exact e_zret hx hb hrt hlk hp hS hz dX13_beginsInsertion_93
        · rw [if_neg c36_3] at hsh
          refine lv_lookup (off := 116) (tgt := 152) hx hb dX13_beginsInsertion_36 (by decide +kernel) (e_off_s (fun q => c36_0 q.symm) (e_off_s (fun q => c36_1 q.symm) (e_off_s (fun q => c36_2 q.symm) (e_off_s (fun q => c36_3 q.symm) rfl)))) (by decide) ?_
          refine e_aload_n (B := B) (x := x0) hx hb dX13_beginsInsertion_152 rfl (hl.at 0 rfl) ?_
          obtain ⟨v153, h153, hsh⟩ := Option.bind_eq_some_iff.mp hsh
          refine e_getI (k := 2) hx hb hts in_X13 hown hp h153 rfl (by decide) (by decide) rfl (hts _ kf13_13) rfl dX13_beginsInsertion_153 ?_
          refine lv_bipush (v := iI (40)) hx hb dX13_beginsInsertion_156 (by decide +kernel) ?_
          refine e_icmp_ne (tgt := 163) hx hb dX13_beginsInsertion_158 (by decide) (fun c158 => ?_) (fun c158 => ?_)
          · rw [if_neg c158] at hsh
            refine lv_iload_n hx hb dX13_beginsInsertion_163 rfl (hl.at 1 rfl) ?_
            refine lv_bipush (v := iI (111)) hx hb dX13_beginsInsertion_164 (by decide +kernel) ?_
            refine e_icmp_ne (tgt := 182) hx hb dX13_beginsInsertion_166 (by decide) (fun c166 => ?_) (fun c166 => ?_)
            · rw [if_neg c166] at hsh
              refine e_aload_n (B := B) (x := x0) hx hb dX13_beginsInsertion_182 rfl (hl.at 0 rfl) ?_
              refine e_aload_n (B := B) (x := x0) hx hb dX13_beginsInsertion_183 rfl (hl.at 0 rfl) ?_
              obtain ⟨v184, h184, hsh⟩ := Option.bind_eq_some_iff.mp hsh
              refine e_getI (k := 5) hx hb hts in_X13 hown hp h184 rfl (by decide) (by decide) rfl (hts _ kf13_213) rfl dX13_beginsInsertion_184 ?_
              obtain ⟨⟨v187, S187⟩, h187, hsh⟩ := Option.bind_eq_some_iff.mp hsh
              have hsh : _ = _ := hsh
              try dsimp only at hsh
              have ok187 := ok13_firstSeen h187
              refine e_callI (nL := 5) (mc := 0) (ms := 0) (T := TX13) (N := 126) (As := [.int (iI (v184))]) (rest := []) hx hb hml hown hts hp hS hl.size ok187.1 ok187.2.1 ok187.2.2 rfl (by decide) (c13_firstSeen l D cA B S S187 (x0) (v184) v187 h187) rfl rfl kd13_firstSeen (kl13_346) ks13_firstSeen kv13_firstSeen ki13 kh13_firstSeen ⟨Nat.le_of_ble_eq_true rfl, Nat.le_of_ble_eq_true rfl⟩ rfl (by simp [e_rv_cat, e_int_cat]) ⟨Nat.le_refl _, Nat.le_refl _⟩ dX13_beginsInsertion_187 rfl (fun H locs hp hS => ?_)
              exact w13_beginsInsertion_b190 E hp hS (hl.sub [0] rfl) hsh
            · rw [if_pos c166] at hsh
              refine e_aload_n (B := B) (x := x0) hx hb dX13_beginsInsertion_169 rfl (hl.at 0 rfl) ?_
              refine e_aload_n (B := B) (x := x0) hx hb dX13_beginsInsertion_170 rfl (hl.at 0 rfl) ?_
              obtain ⟨v171, h171, hsh⟩ := Option.bind_eq_some_iff.mp hsh
              refine e_getI (k := 5) hx hb hts in_X13 hown hp h171 rfl (by decide) (by decide) rfl (hts _ kf13_213) rfl dX13_beginsInsertion_171 ?_
              obtain ⟨⟨v174, S174⟩, h174, hsh⟩ := Option.bind_eq_some_iff.mp hsh
              have hsh : _ = _ := hsh
              try dsimp only at hsh
              have ok174 := ok13_lastSeen h174
              refine e_callI (nL := 5) (mc := 0) (ms := 0) (T := TX13) (N := 126) (As := [.int (iI (v171))]) (rest := []) hx hb hml hown hts hp hS hl.size ok174.1 ok174.2.1 ok174.2.2 rfl (by decide) (c13_lastSeen l D cA B S S174 (x0) (v171) v174 h174) rfl rfl kd13_lastSeen (kl13_343) ks13_lastSeen kv13_lastSeen ki13 kh13_lastSeen ⟨Nat.le_of_ble_eq_true rfl, Nat.le_of_ble_eq_true rfl⟩ rfl (by simp [e_rv_cat, e_int_cat]) ⟨Nat.le_refl _, Nat.le_refl _⟩ dX13_beginsInsertion_174 rfl (fun H locs hp hS => ?_)
              refine lv_iconst (v := iI (1)) hx hb dX13_beginsInsertion_177 rfl ?_
              refine e_iadd hx hb dX13_beginsInsertion_178 ?_
              refine lv_goto (tgt := 190) hx hb dX13_beginsInsertion_179 (by decide) ?_
              exact w13_beginsInsertion_b190 E hp hS (hl.sub [0] rfl) hsh
          · rw [if_pos c158] at hsh
            refine lv_iconst (v := iI (0)) hx hb dX13_beginsInsertion_161 rfl ?_
            obtain ⟨hz, hz1, hz2⟩ := zR_some hsh
            rw [← hz1, ← hz2]
            exact e_zret hx hb hrt hlk hp hS hz dX13_beginsInsertion_162
set_option maxRecDepth 100000 in
set_option maxHeartbeats 4000000 in
theorem w13_beginsInsertion_l2 {p : Program} {l : Launch} {e : Env} {s : State} {m : MethodId} {args : Array Value} {below : List Frame} {meth : Method} {c : Code} {D : va_G} {cA : Nat → ClassId} {B : Nat} {res : Int × HP} (E : e_En p s m args meth c cX13_beginsInsertion RX13 5 (some .boolean)) : ∀ (f : Nat) {ls : Array Slot} {H : Heap} {locs : List Loc} {S : HP} {x0 : Int} {x1 : Int} {x2 : Int} {x3 : Int} (hp : e_Pic D cA B S s H) (hS : va_S (e_A B) s.heap H locs) (hl : e_lo ls 5 [(0, e_rv B (x0)), (1, .int (iI (x1))), (2, .int (iI (x2))), (3, .int (iI (x3)))]) (hsh : s13_beginsInsertion_l2 f S x0 x1 x2 x3 = some res), W p l e ({ frames := 3, cells := 0, slots := 0, locals := 72 } : Room) s m args below meth c H locs 0 0 (MQ below (e_Qi D cA B res.1 res.2) args s 0 0 (e_A B)) (F0 m 2 ls []) := by
  obtain ⟨hx, hb, hml, hown, hts, hlk, hrt⟩ := id E
  intro f
  induction f with
  | zero => intro ls H locs S x0 x1 x2 x3 hp hS hl hsh; cases hsh
  | succ f ih =>
    intro ls H locs S x0 x1 x2 x3 hp hS hl hsh
    have hk2 : ∀ {ls : Array Slot} {H : Heap} {locs : List Loc} {S : HP} {x0 : Int} {x1 : Int} {x2 : Int} {x3 : Int} (hp : e_Pic D cA B S s H) (hS : va_S (e_A B) s.heap H locs) (hl : e_lo ls 5 [(0, e_rv B (x0)), (1, .int (iI (x1))), (2, .int (iI (x2))), (3, .int (iI (x3)))]) (hsh : (s13_beginsInsertion_l2 f) S x0 x1 x2 x3 = some res), W p l e ({ frames := 3, cells := 0, slots := 0, locals := 72 } : Room) s m args below meth c H locs 0 0 (MQ below (e_Qi D cA B res.1 res.2) args s 0 0 (e_A B)) (F0 m 2 ls []) := ih
    generalize hkk : s13_beginsInsertion_l2 f = k2 at hk2
    rw [s13_beginsInsertion_l2] at hsh
    rw [hkk] at hsh
    try dsimp only at hsh
    refine lv_iload_n hx hb dX13_beginsInsertion_2 rfl (hl.at 3 rfl) ?_
    refine e_aload_n (B := B) (x := x0) hx hb dX13_beginsInsertion_3 rfl (hl.at 0 rfl) ?_
    obtain ⟨v4, h4, hsh⟩ := Option.bind_eq_some_iff.mp hsh
    refine e_getR (k := 3) hx hb hts in_X13 hown hp h4 rfl (by decide) (by decide) rfl (hts _ kf13_17) rfl dX13_beginsInsertion_4 ?_
    refine e_aload_n (B := B) (x := x0) hx hb dX13_beginsInsertion_7 rfl (hl.at 0 rfl) ?_
    obtain ⟨v8, h8, hsh⟩ := Option.bind_eq_some_iff.mp hsh
    refine e_getI (k := 5) hx hb hts in_X13 hown hp h8 rfl (by decide) (by decide) rfl (hts _ kf13_213) rfl dX13_beginsInsertion_8 ?_
    obtain ⟨v11, h11, hsh⟩ := Option.bind_eq_some_iff.mp hsh
    refine e_iald hx hb hp h11 dX13_beginsInsertion_11 ?_
    refine e_icmp_ge (tgt := 35) hx hb dX13_beginsInsertion_12 (by decide) (fun c12 => ?_) (fun c12 => ?_)
    · rw [if_pos c12] at hsh
      exact w13_beginsInsertion_b35 E hp hS (hl.sub [0, 1, 2, 3] rfl) hsh
    · rw [if_neg c12] at hsh
      refine e_aload_n (B := B) (x := x0) hx hb dX13_beginsInsertion_15 rfl (hl.at 0 rfl) ?_
      refine e_aload_n (B := B) (x := x0) hx hb dX13_beginsInsertion_16 rfl (hl.at 0 rfl) ?_
      obtain ⟨v17, h17, hsh⟩ := Option.bind_eq_some_iff.mp hsh
      refine e_getI (k := 5) hx hb hts in_X13 hown hp h17 rfl (by decide) (by decide) rfl (hts _ kf13_213) rfl dX13_beginsInsertion_17 ?_
      refine lv_iload_n hx hb dX13_beginsInsertion_20 rfl (hl.at 3 rfl) ?_
      obtain ⟨⟨v21, S21⟩, h21, hsh⟩ := Option.bind_eq_some_iff.mp hsh
      have hsh : _ = _ := hsh
      try dsimp only at hsh
      have ok21 := ok13_at h21
      refine e_callI (nL := 5) (mc := 0) (ms := 0) (T := TX13) (N := 126) (As := [.int (iI (v17)), .int (iI (x3))]) (rest := []) hx hb hml hown hts hp hS hl.size ok21.1 ok21.2.1 ok21.2.2 rfl (by decide) (c13_at l D cA B S S21 (x0) (v17) (x3) v21 h21) rfl rfl kd13_at (kl13_206) ks13_at kv13_at ki13 kh13_at ⟨Nat.le_of_ble_eq_true rfl, Nat.le_of_ble_eq_true rfl⟩ rfl (by simp [e_rv_cat, e_int_cat]) ⟨Nat.le_refl _, Nat.le_refl _⟩ dX13_beginsInsertion_21 rfl (fun H locs hp hS => ?_)
      refine lv_bipush (v := iI (32)) hx hb dX13_beginsInsertion_24 (by decide +kernel) ?_
      refine e_icmp_ne (tgt := 35) hx hb dX13_beginsInsertion_26 (by decide) (fun c26 => ?_) (fun c26 => ?_)
      · rw [if_neg c26] at hsh
        exact w13_beginsInsertion_b35 E hp hS (hl.sub [0, 1, 2, 3] rfl) hsh
      · rw [if_pos c26] at hsh
        refine e_iinc (n := 1) (x := x3) (lv' := [(3, .int (iI ((x3 + 1)))), (0, e_rv B (x0)), (1, .int (iI (x1))), (2, .int (iI (x2)))]) hx hb dX13_beginsInsertion_29 hl (k := 3) rfl (by decide) rfl (fun ls hl => ?_)
        refine lv_goto (tgt := 2) hx hb dX13_beginsInsertion_32 (by decide) ?_
        exact hk2 hp hS (hl.sub [1, 2, 3, 0] rfl) hsh
set_option maxRecDepth 100000 in
set_option maxHeartbeats 4000000 in
theorem c13_beginsInsertion (l : Launch) (D : va_G) (cA : Nat → ClassId) (B : Nat) (S S' : HP) (x0 : Int) (x1 : Int) (x2 : Int) (r : Int) (hsh : s13_beginsInsertion S x0 x1 x2 = some (r, S')) : Met l yX13_beginsInsertion (e_wu yX13_beginsInsertion cX13_beginsInsertion 5 (some .boolean)) ({ frames := 3, cells := 0, slots := 0, locals := 72 } : Room) (va_Pc [e_rv B (x0), .int (iI (x1)), .int (iI (x2))] (fun U => e_PU D cA B S U)) (e_Qi D cA B r S') 0 0 (e_A B) := by
  refine Met.ofW (cc := cX13_beginsInsertion) (maxL := 5) (ret := (some .boolean)) (by decide +kernel) rfl ?_
  intro p e s m args below meth c s₁ Bd hml hv
  obtain ⟨rfl, hp⟩ := hv
  have hp : e_Pic D cA B S s s.heap := hp
  have hx := Bd.exec
  have hb := Bd.bytes
  have hrt := Bd.returns
  have hlk := Bd.notSynchronized
  have hown : s.vm.findClass RX13 = some m.cls := findClass_of_methodNamed Bd.named
  have hts : ∀ w ∈ e_tb, w.before ([e_rv B (x0), .int (iI (x1)), .int (iI (x2))] : List Value).toArray s = true := fun w h => atoms_spec (ws := (e_wu yX13_beginsInsertion cX13_beginsInsertion 5 (some .boolean))) Bd.pre w (List.mem_cons_of_mem _ h)
  have E : e_En p s m ([e_rv B (x0), .int (iI (x1)), .int (iI (x2))] : List Value).toArray meth c cX13_beginsInsertion RX13 5 (some .boolean) := ⟨hx, hb, hml, hown, hts, hlk, hrt⟩
  have hS : va_S (e_A B) s.heap s.heap [] := va_S.rf
  have hl := e_entry (vs := [e_rv B (x0), .int (iI (x1)), .int (iI (x2))]) (n := 5) (Nat.le_of_ble_eq_true rfl) (e_cc (e_rv_cat _ _) (e_cc rfl (e_cc rfl e_cn)))
  rw [lg_entry_eq]
  generalize (lg_sl [e_rv B (x0), .int (iI (x1)), .int (iI (x2))] ++ List.replicate (5 - (lg_sl [e_rv B (x0), .int (iI (x1)), .int (iI (x2))]).length) Slot.unset).toArray = ls at hl ⊢
  generalize ([e_rv B (x0), .int (iI (x1)), .int (iI (x2))] : List Value).toArray = args at hts E ⊢
  have hl : e_lo ls 5 [(0, e_rv B (x0)), (1, .int (iI (x1))), (2, .int (iI (x2)))] := hl
  have hsh := (gd_some hsh).2
  refine lv_iconst (v := iI (0)) hx hb dX13_beginsInsertion_0 rfl ?_
  refine e_istore_n (lv' := [(3, .int (iI (0))), (0, e_rv B (x0)), (1, .int (iI (x1))), (2, .int (iI (x2)))]) hx hb dX13_beginsInsertion_1 rfl hl (by decide) rfl (fun ls hl => ?_)
  exact w13_beginsInsertion_l2 E 1000000 hp hS (hl.sub [1, 2, 3, 0] rfl) hsh
theorem ok13_isState {S : HP} {x0 : Int} {x1 : Int} {r : Int × HP} (h : s13_isState S x0 x1 = some r) : 0 ≤ x0 ∧ x0.toNat < e_n S ∧ e_g S x0.toNat = 13 := (gd_some h).1
set_option maxRecDepth 100000 in
set_option maxHeartbeats 4000000 in
theorem w13_isState_b46 {p : Program} {l : Launch} {e : Env} {s : State} {m : MethodId} {args : Array Value} {below : List Frame} {meth : Method} {c : Code} {D : va_G} {cA : Nat → ClassId} {B : Nat} {res : Int × HP} (E : e_En p s m args meth c cX13_isState RX13 4 (some .boolean)) {ls : Array Slot} {H : Heap} {locs : List Loc} {S : HP} {x2 : Int} (hp : e_Pic D cA B S s H) (hS : va_S (e_A B) s.heap H locs) (hl : e_lo ls 4 [(2, .int (iI (x2)))]) (hsh : s13_isState_b46 S x2 = some res) : W p l e ({ frames := 2, cells := 0, slots := 0, locals := 46 } : Room) s m args below meth c H locs 0 0 (MQ below (e_Qi D cA B res.1 res.2) args s 0 0 (e_A B)) (F0 m 46 ls []) := by
  obtain ⟨hx, hb, hml, hown, hts, hlk, hrt⟩ := id E
  unfold s13_isState_b46 at hsh
  refine lv_iload_n hx hb dX13_isState_46 rfl (hl.at 0 rfl) ?_
  obtain ⟨hz, hz1, hz2⟩ := zR_some hsh
  rw [← hz1, ← hz2]
  exact e_zret hx hb hrt hlk hp hS hz dX13_isState_47
set_option maxRecDepth 100000 in
set_option maxHeartbeats 4000000 in
theorem w13_isState_l21 {p : Program} {l : Launch} {e : Env} {s : State} {m : MethodId} {args : Array Value} {below : List Frame} {meth : Method} {c : Code} {D : va_G} {cA : Nat → ClassId} {B : Nat} {res : Int × HP} (E : e_En p s m args meth c cX13_isState RX13 4 (some .boolean)) : ∀ (f : Nat) {ls : Array Slot} {H : Heap} {locs : List Loc} {S : HP} {x0 : Int} {x1 : Int} {x2 : Int} {x3 : Int} (hp : e_Pic D cA B S s H) (hS : va_S (e_A B) s.heap H locs) (hl : e_lo ls 4 [(0, e_rv B (x0)), (1, .int (iI (x1))), (2, .int (iI (x2))), (3, .int (iI (x3)))]) (hsh : s13_isState_l21 f S x0 x1 x2 x3 = some res), W p l e ({ frames := 2, cells := 0, slots := 0, locals := 46 } : Room) s m args below meth c H locs 0 0 (MQ below (e_Qi D cA B res.1 res.2) args s 0 0 (e_A B)) (F0 m 21 ls []) := by
  obtain ⟨hx, hb, hml, hown, hts, hlk, hrt⟩ := id E
  intro f
  induction f with
  | zero => intro ls H locs S x0 x1 x2 x3 hp hS hl hsh; cases hsh
  | succ f ih =>
    intro ls H locs S x0 x1 x2 x3 hp hS hl hsh
    have hk21 : ∀ {ls : Array Slot} {H : Heap} {locs : List Loc} {S : HP} {x0 : Int} {x1 : Int} {x2 : Int} {x3 : Int} (hp : e_Pic D cA B S s H) (hS : va_S (e_A B) s.heap H locs) (hl : e_lo ls 4 [(0, e_rv B (x0)), (1, .int (iI (x1))), (2, .int (iI (x2))), (3, .int (iI (x3)))]) (hsh : (s13_isState_l21 f) S x0 x1 x2 x3 = some res), W p l e ({ frames := 2, cells := 0, slots := 0, locals := 46 } : Room) s m args below meth c H locs 0 0 (MQ below (e_Qi D cA B res.1 res.2) args s 0 0 (e_A B)) (F0 m 21 ls []) := ih
    generalize hkk : s13_isState_l21 f = k21 at hk21
    rw [s13_isState_l21] at hsh
    rw [hkk] at hsh
    try dsimp only at hsh
    refine lv_iload_n hx hb dX13_isState_21 rfl (hl.at 3 rfl) ?_
    refine e_aload_n (B := B) (x := x0) hx hb dX13_isState_22 rfl (hl.at 0 rfl) ?_
    obtain ⟨v23, h23, hsh⟩ := Option.bind_eq_some_iff.mp hsh
    refine e_getI (k := 2) hx hb hts in_X13 hown hp h23 rfl (by decide) (by decide) rfl (hts _ kf13_13) rfl dX13_isState_23 ?_
    refine e_icmp_ge (tgt := 46) hx hb dX13_isState_26 (by decide) (fun c26 => ?_) (fun c26 => ?_)
    · rw [if_pos c26] at hsh
      exact w13_isState_b46 E hp hS (hl.sub [2] rfl) hsh
    · rw [if_neg c26] at hsh
      refine lv_iload_n hx hb dX13_isState_29 rfl (hl.at 2 rfl) ?_
      refine e_if_eq (tgt := 46) hx hb dX13_isState_30 (by decide) (fun c30 => ?_) (fun c30 => ?_)
      · rw [if_pos c30] at hsh
        exact w13_isState_b46 E hp hS (hl.sub [2] rfl) hsh
      · rw [if_neg c30] at hsh
        refine e_aload_n (B := B) (x := x0) hx hb dX13_isState_33 rfl (hl.at 0 rfl) ?_
        refine lv_iload_n hx hb dX13_isState_34 rfl (hl.at 1 rfl) ?_
        refine lv_iload_n hx hb dX13_isState_35 rfl (hl.at 3 rfl) ?_
        obtain ⟨⟨v36, S36⟩, h36, hsh⟩ := Option.bind_eq_some_iff.mp hsh
        have hsh : _ = _ := hsh
        try dsimp only at hsh
        have ok36 := ok13_isSameLine h36
        refine e_callI (nL := 4) (mc := 0) (ms := 0) (T := TX13) (N := 126) (As := [.int (iI (x1)), .int (iI (x3))]) (rest := []) hx hb hml hown hts hp hS hl.size ok36.1 ok36.2.1 ok36.2.2 rfl (by decide) (c13_isSameLine l D cA B S S36 (x0) (x1) (x3) v36 h36) rfl rfl kd13_isSameLine (kl13_569) ks13_isSameLine kv13_isSameLine ki13 kh13_isSameLine ⟨Nat.le_of_ble_eq_true rfl, Nat.le_of_ble_eq_true rfl⟩ rfl (by simp [e_rv_cat, e_int_cat]) ⟨Nat.le_refl _, Nat.le_refl _⟩ dX13_isState_36 rfl (fun H locs hp hS => ?_)
        refine e_istore_n (lv' := [(2, .int (iI (v36))), (0, e_rv B (x0)), (1, .int (iI (x1))), (3, .int (iI (x3)))]) hx hb dX13_isState_39 rfl hl (by decide) rfl (fun ls hl => ?_)
        refine e_iinc (n := 1) (x := x3) (lv' := [(3, .int (iI ((x3 + 1)))), (2, .int (iI (v36))), (0, e_rv B (x0)), (1, .int (iI (x1)))]) hx hb dX13_isState_40 hl (k := 3) rfl (by decide) rfl (fun ls hl => ?_)
        refine lv_goto (tgt := 21) hx hb dX13_isState_43 (by decide) ?_
        exact hk21 hp hS (hl.sub [2, 3, 1, 0] rfl) hsh
set_option maxRecDepth 100000 in
set_option maxHeartbeats 4000000 in
theorem w13_isState_b18 {p : Program} {l : Launch} {e : Env} {s : State} {m : MethodId} {args : Array Value} {below : List Frame} {meth : Method} {c : Code} {D : va_G} {cA : Nat → ClassId} {B : Nat} {res : Int × HP} (E : e_En p s m args meth c cX13_isState RX13 4 (some .boolean)) {ls : Array Slot} {H : Heap} {locs : List Loc} {S : HP} {x0 : Int} {x1 : Int} {y0 : Int} (hp : e_Pic D cA B S s H) (hS : va_S (e_A B) s.heap H locs) (hl : e_lo ls 4 [(0, e_rv B (x0)), (1, .int (iI (x1)))]) (hsh : s13_isState_b18 S x0 x1 y0 = some res) : W p l e ({ frames := 2, cells := 0, slots := 0, locals := 46 } : Room) s m args below meth c H locs 0 0 (MQ below (e_Qi D cA B res.1 res.2) args s 0 0 (e_A B)) (F0 m 18 ls [.int (iI (y0))]) := by
  obtain ⟨hx, hb, hml, hown, hts, hlk, hrt⟩ := id E
  unfold s13_isState_b18 at hsh
  refine e_istore_n (lv' := [(2, .int (iI (y0))), (0, e_rv B (x0)), (1, .int (iI (x1)))]) hx hb dX13_isState_18 rfl hl (by decide) rfl (fun ls hl => ?_)
  refine lv_iconst (v := iI (0)) hx hb dX13_isState_19 rfl ?_
  refine e_istore_n (lv' := [(3, .int (iI (0))), (2, .int (iI (y0))), (0, e_rv B (x0)), (1, .int (iI (x1)))]) hx hb dX13_isState_20 rfl hl (by decide) rfl (fun ls hl => ?_)
  exact w13_isState_l21 E 1000000 hp hS (hl.sub [2, 3, 1, 0] rfl) hsh
set_option maxRecDepth 100000 in
set_option maxHeartbeats 4000000 in
theorem c13_isState (l : Launch) (D : va_G) (cA : Nat → ClassId) (B : Nat) (S S' : HP) (x0 : Int) (x1 : Int) (r : Int) (hsh : s13_isState S x0 x1 = some (r, S')) : Met l yX13_isState (e_wu yX13_isState cX13_isState 4 (some .boolean)) ({ frames := 2, cells := 0, slots := 0, locals := 46 } : Room) (va_Pc [e_rv B (x0), .int (iI (x1))] (fun U => e_PU D cA B S U)) (e_Qi D cA B r S') 0 0 (e_A B) := by
  refine Met.ofW (cc := cX13_isState) (maxL := 4) (ret := (some .boolean)) (by decide +kernel) rfl ?_
  intro p e s m args below meth c s₁ Bd hml hv
  obtain ⟨rfl, hp⟩ := hv
  have hp : e_Pic D cA B S s s.heap := hp
  have hx := Bd.exec
  have hb := Bd.bytes
  have hrt := Bd.returns
  have hlk := Bd.notSynchronized
  have hown : s.vm.findClass RX13 = some m.cls := findClass_of_methodNamed Bd.named
  have hts : ∀ w ∈ e_tb, w.before ([e_rv B (x0), .int (iI (x1))] : List Value).toArray s = true := fun w h => atoms_spec (ws := (e_wu yX13_isState cX13_isState 4 (some .boolean))) Bd.pre w (List.mem_cons_of_mem _ h)
  have E : e_En p s m ([e_rv B (x0), .int (iI (x1))] : List Value).toArray meth c cX13_isState RX13 4 (some .boolean) := ⟨hx, hb, hml, hown, hts, hlk, hrt⟩
  have hS : va_S (e_A B) s.heap s.heap [] := va_S.rf
  have hl := e_entry (vs := [e_rv B (x0), .int (iI (x1))]) (n := 4) (Nat.le_of_ble_eq_true rfl) (e_cc (e_rv_cat _ _) (e_cc rfl e_cn))
  rw [lg_entry_eq]
  generalize (lg_sl [e_rv B (x0), .int (iI (x1))] ++ List.replicate (4 - (lg_sl [e_rv B (x0), .int (iI (x1))]).length) Slot.unset).toArray = ls at hl ⊢
  generalize ([e_rv B (x0), .int (iI (x1))] : List Value).toArray = args at hts E ⊢
  have hl : e_lo ls 4 [(0, e_rv B (x0)), (1, .int (iI (x1)))] := hl
  have hsh := (gd_some hsh).2
  refine e_aload_n (B := B) (x := x0) hx hb dX13_isState_0 rfl (hl.at 0 rfl) ?_
  obtain ⟨v1, h1, hsh⟩ := Option.bind_eq_some_iff.mp hsh
  refine e_getR (k := 28) hx hb hts in_X13 hown hp h1 rfl (by decide) (by decide) rfl (hts _ kf13_63) rfl dX13_isState_1 ?_
  refine lv_iload_n hx hb dX13_isState_4 rfl (hl.at 1 rfl) ?_
  obtain ⟨v5, h5, hsh⟩ := Option.bind_eq_some_iff.mp hsh
  refine e_iald hx hb hp h5 dX13_isState_5 ?_
  refine e_aload_n (B := B) (x := x0) hx hb dX13_isState_6 rfl (hl.at 0 rfl) ?_
  obtain ⟨v7, h7, hsh⟩ := Option.bind_eq_some_iff.mp hsh
  refine e_getI (k := 2) hx hb hts in_X13 hown hp h7 rfl (by decide) (by decide) rfl (hts _ kf13_13) rfl dX13_isState_7 ?_
  refine e_icmp_ne (tgt := 17) hx hb dX13_isState_10 (by decide) (fun c10 => ?_) (fun c10 => ?_)
  · rw [if_neg c10] at hsh
    refine lv_iconst (v := iI (0)) hx hb dX13_isState_17 rfl ?_
    exact w13_isState_b18 E hp hS (hl.sub [0, 1] rfl) hsh
  · rw [if_pos c10] at hsh
    refine lv_iconst (v := iI (1)) hx hb dX13_isState_13 rfl ?_
    refine lv_goto (tgt := 18) hx hb dX13_isState_14 (by decide) ?_
    exact w13_isState_b18 E hp hS (hl.sub [0, 1] rfl) hsh
theorem ok13_keepsState {S : HP} {x0 : Int} {r : HP} (h : s13_keepsState S x0 = some r) : 0 ≤ x0 ∧ x0.toNat < e_n S ∧ e_g S x0.toNat = 13 := (gd_some h).1
set_option maxRecDepth 100000 in
set_option maxHeartbeats 4000000 in
theorem w13_keepsState_b57 {p : Program} {l : Launch} {e : Env} {s : State} {m : MethodId} {args : Array Value} {below : List Frame} {meth : Method} {c : Code} {D : va_G} {cA : Nat → ClassId} {B : Nat} {res : HP} (E : e_En p s m args meth c cX13_keepsState RX13 3 none) {ls : Array Slot} {H : Heap} {locs : List Loc} {S : HP} {x0 : Int} {x2 : Int} {y0 : Int} {y1 : Int} {y2 : Int} (hp : e_Pic D cA B S s H) (hS : va_S (e_A B) s.heap H locs) (hl : e_lo ls 3 [(0, e_rv B (x0)), (2, .int (iI (x2)))]) (hsh : s13_keepsState_b57 S x0 x2 y0 y1 y2 = some res) : W p l e ({ frames := 3, cells := 0, slots := 0, locals := 69 } : Room) s m args below meth c H locs 0 0 (MQ below (e_Qv D cA B res) args s 0 0 (e_A B)) (F0 m 57 ls [.int (iI (y2)), .int (iI (y1)), e_rv B (y0)]) := by
  obtain ⟨hx, hb, hml, hown, hts, hlk, hrt⟩ := id E
  unfold s13_keepsState_b57 at hsh
  obtain ⟨S57, h57, hsh⟩ := Option.bind_eq_some_iff.mp hsh
  refine e_iast hx hb hp hS h57 dX13_keepsState_57 (fun H locs hp hS => ?_)
  refine e_aload_n (B := B) (x := x0) hx hb dX13_keepsState_58 rfl (hl.at 0 rfl) ?_
  refine lv_iload_n hx hb dX13_keepsState_59 rfl (hl.at 1 rfl) ?_
  obtain ⟨S60, h60, hsh⟩ := Option.bind_eq_some_iff.mp hsh
  refine e_putI (k := 27) hx hb hts in_X13 tyX13 tyX13_ok nmX13 hown hp hS h60 rfl (by decide) (by decide) rfl (hts _ kf13_572) rfl rfl (by decide +kernel) dX13_keepsState_60 (fun H locs hp hS => ?_)
  refine e_aload_n (B := B) (x := x0) hx hb dX13_keepsState_63 rfl (hl.at 0 rfl) ?_
  refine lv_iload_n hx hb dX13_keepsState_64 rfl (hl.at 1 rfl) ?_
  refine lv_iconst (v := iI (1)) hx hb dX13_keepsState_65 rfl ?_
  refine e_iadd hx hb dX13_keepsState_66 ?_
  obtain ⟨S67, h67, hsh⟩ := Option.bind_eq_some_iff.mp hsh
  refine e_putI (k := 26) hx hb hts in_X13 tyX13 tyX13_ok nmX13 hown hp hS h67 rfl (by decide) (by decide) rfl (hts _ kf13_60) rfl rfl (by decide +kernel) dX13_keepsState_67 (fun H locs hp hS => ?_)
  refine e_aload_n (B := B) (x := x0) hx hb dX13_keepsState_70 rfl (hl.at 0 rfl) ?_
  refine lv_iload_n hx hb dX13_keepsState_71 rfl (hl.at 1 rfl) ?_
  obtain ⟨S72, h72, hsh⟩ := Option.bind_eq_some_iff.mp hsh
  have ok72 := ok13_copiesState h72
  refine e_callV (nL := 3) (mc := 0) (ms := 0) (T := TX13) (N := 126) (As := [.int (iI (x2))]) (rest := []) hx hb hml hown hts hp hS hl.size ok72.1 ok72.2.1 ok72.2.2 rfl (by decide) (c13_copiesState l D cA B S67 S72 (x0) (x2) h72) rfl rfl kd13_copiesState (kl13_191) ks13_copiesState kv13_copiesState ki13 kh13_copiesState ⟨Nat.le_of_ble_eq_true rfl, Nat.le_of_ble_eq_true rfl⟩ rfl (by simp [e_rv_cat, e_int_cat]) ⟨Nat.le_refl _, Nat.le_refl _⟩ dX13_keepsState_72 rfl (fun H locs hp hS => ?_)
  cases hsh
  exact e_vret hx hb hrt hlk hp hS dX13_keepsState_75
set_option maxRecDepth 100000 in
set_option maxHeartbeats 4000000 in
theorem w13_keepsState_b39 {p : Program} {l : Launch} {e : Env} {s : State} {m : MethodId} {args : Array Value} {below : List Frame} {meth : Method} {c : Code} {D : va_G} {cA : Nat → ClassId} {B : Nat} {res : HP} (E : e_En p s m args meth c cX13_keepsState RX13 3 none) {ls : Array Slot} {H : Heap} {locs : List Loc} {S : HP} {x0 : Int} {x1 : Int} {y0 : Int} (hp : e_Pic D cA B S s H) (hS : va_S (e_A B) s.heap H locs) (hl : e_lo ls 3 [(0, e_rv B (x0)), (1, .int (iI (x1)))]) (hsh : s13_keepsState_b39 S x0 x1 y0 = some res) : W p l e ({ frames := 3, cells := 0, slots := 0, locals := 69 } : Room) s m args below meth c H locs 0 0 (MQ below (e_Qv D cA B res) args s 0 0 (e_A B)) (F0 m 39 ls [.int (iI (y0))]) := by
  obtain ⟨hx, hb, hml, hown, hts, hlk, hrt⟩ := id E
  unfold s13_keepsState_b39 at hsh
  refine e_istore_n (lv' := [(2, .int (iI (y0))), (0, e_rv B (x0)), (1, .int (iI (x1)))]) hx hb dX13_keepsState_39 rfl hl (by decide) rfl (fun ls hl => ?_)
  refine e_aload_n (B := B) (x := x0) hx hb dX13_keepsState_40 rfl (hl.at 1 rfl) ?_
  obtain ⟨v41, h41, hsh⟩ := Option.bind_eq_some_iff.mp hsh
  refine e_getR (k := 31) hx hb hts in_X13 hown hp h41 rfl (by decide) (by decide) rfl (hts _ kf13_73) rfl dX13_keepsState_41 ?_
  refine lv_iload_n hx hb dX13_keepsState_44 rfl (hl.at 0 rfl) ?_
  refine lv_iload_n hx hb dX13_keepsState_45 rfl (hl.at 2 rfl) ?_
  refine e_if_eq (tgt := 53) hx hb dX13_keepsState_46 (by decide) (fun c46 => ?_) (fun c46 => ?_)
  · rw [if_pos c46] at hsh
    refine e_aload_n (B := B) (x := x0) hx hb dX13_keepsState_53 rfl (hl.at 1 rfl) ?_
    obtain ⟨v54, h54, hsh⟩ := Option.bind_eq_some_iff.mp hsh
    refine e_getI (k := 27) hx hb hts in_X13 hown hp h54 rfl (by decide) (by decide) rfl (hts _ kf13_572) rfl dX13_keepsState_54 ?_
    exact w13_keepsState_b57 E hp hS (hl.sub [1, 0] rfl) hsh
  · rw [if_neg c46] at hsh
    refine lv_iconst (v := iI (-1)) hx hb dX13_keepsState_49 rfl ?_
    refine lv_goto (tgt := 57) hx hb dX13_keepsState_50 (by decide) ?_
    exact w13_keepsState_b57 E hp hS (hl.sub [1, 0] rfl) hsh
set_option maxRecDepth 100000 in
set_option maxHeartbeats 4000000 in
theorem w13_keepsState_b26 {p : Program} {l : Launch} {e : Env} {s : State} {m : MethodId} {args : Array Value} {below : List Frame} {meth : Method} {c : Code} {D : va_G} {cA : Nat → ClassId} {B : Nat} {res : HP} (E : e_En p s m args meth c cX13_keepsState RX13 3 none) {ls : Array Slot} {H : Heap} {locs : List Loc} {S : HP} {x0 : Int} {y0 : Int} (hp : e_Pic D cA B S s H) (hS : va_S (e_A B) s.heap H locs) (hl : e_lo ls 3 [(0, e_rv B (x0))]) (hsh : s13_keepsState_b26 S x0 y0 = some res) : W p l e ({ frames := 3, cells := 0, slots := 0, locals := 69 } : Room) s m args below meth c H locs 0 0 (MQ below (e_Qv D cA B res) args s 0 0 (e_A B)) (F0 m 26 ls [.int (iI (y0))]) := by
  obtain ⟨hx, hb, hml, hown, hts, hlk, hrt⟩ := id E
  unfold s13_keepsState_b26 at hsh
  refine e_istore_n (lv' := [(1, .int (iI (y0))), (0, e_rv B (x0))]) hx hb dX13_keepsState_26 rfl hl (by decide) rfl (fun ls hl => ?_)
  refine lv_iload_n hx hb dX13_keepsState_27 rfl (hl.at 0 rfl) ?_
  refine e_if_eq (tgt := 35) hx hb dX13_keepsState_28 (by decide) (fun c28 => ?_) (fun c28 => ?_)
  · rw [if_pos c28] at hsh
    refine e_aload_n (B := B) (x := x0) hx hb dX13_keepsState_35 rfl (hl.at 1 rfl) ?_
    obtain ⟨v36, h36, hsh⟩ := Option.bind_eq_some_iff.mp hsh
    refine e_getI (k := 26) hx hb hts in_X13 hown hp h36 rfl (by decide) (by decide) rfl (hts _ kf13_60) rfl dX13_keepsState_36 ?_
    exact w13_keepsState_b39 E hp hS (hl.sub [1, 0] rfl) hsh
  · rw [if_neg c28] at hsh
    refine lv_iconst (v := iI (0)) hx hb dX13_keepsState_31 rfl ?_
    refine lv_goto (tgt := 39) hx hb dX13_keepsState_32 (by decide) ?_
    exact w13_keepsState_b39 E hp hS (hl.sub [1, 0] rfl) hsh
set_option maxRecDepth 100000 in
set_option maxHeartbeats 4000000 in
theorem c13_keepsState (l : Launch) (D : va_G) (cA : Nat → ClassId) (B : Nat) (S S' : HP) (x0 : Int) (hsh : s13_keepsState S x0 = some S') : Met l yX13_keepsState (e_wu yX13_keepsState cX13_keepsState 3 none) ({ frames := 3, cells := 0, slots := 0, locals := 69 } : Room) (va_Pc [e_rv B (x0)] (fun U => e_PU D cA B S U)) (e_Qv D cA B S') 0 0 (e_A B) := by
  refine Met.ofW (cc := cX13_keepsState) (maxL := 3) (ret := none) (by decide +kernel) rfl ?_
  intro p e s m args below meth c s₁ Bd hml hv
  obtain ⟨rfl, hp⟩ := hv
  have hp : e_Pic D cA B S s s.heap := hp
  have hx := Bd.exec
  have hb := Bd.bytes
  have hrt := Bd.returns
  have hlk := Bd.notSynchronized
  have hown : s.vm.findClass RX13 = some m.cls := findClass_of_methodNamed Bd.named
  have hts : ∀ w ∈ e_tb, w.before ([e_rv B (x0)] : List Value).toArray s = true := fun w h => atoms_spec (ws := (e_wu yX13_keepsState cX13_keepsState 3 none)) Bd.pre w (List.mem_cons_of_mem _ h)
  have E : e_En p s m ([e_rv B (x0)] : List Value).toArray meth c cX13_keepsState RX13 3 none := ⟨hx, hb, hml, hown, hts, hlk, hrt⟩
  have hS : va_S (e_A B) s.heap s.heap [] := va_S.rf
  have hl := e_entry (vs := [e_rv B (x0)]) (n := 3) (Nat.le_of_ble_eq_true rfl) (e_cc (e_rv_cat _ _) e_cn)
  rw [lg_entry_eq]
  generalize (lg_sl [e_rv B (x0)] ++ List.replicate (3 - (lg_sl [e_rv B (x0)]).length) Slot.unset).toArray = ls at hl ⊢
  generalize ([e_rv B (x0)] : List Value).toArray = args at hts E ⊢
  have hl : e_lo ls 3 [(0, e_rv B (x0))] := hl
  have hsh := (gd_some hsh).2
  refine e_aload_n (B := B) (x := x0) hx hb dX13_keepsState_0 rfl (hl.at 0 rfl) ?_
  refine e_aload_n (B := B) (x := x0) hx hb dX13_keepsState_1 rfl (hl.at 0 rfl) ?_
  obtain ⟨v2, h2, hsh⟩ := Option.bind_eq_some_iff.mp hsh
  refine e_getI (k := 27) hx hb hts in_X13 hown hp h2 rfl (by decide) (by decide) rfl (hts _ kf13_572) rfl dX13_keepsState_2 ?_
  obtain ⟨⟨v5, S5⟩, h5, hsh⟩ := Option.bind_eq_some_iff.mp hsh
  have hsh : _ = _ := hsh
  try dsimp only at hsh
  have ok5 := ok13_isState h5
  refine e_callI (nL := 3) (mc := 0) (ms := 0) (T := TX13) (N := 126) (As := [.int (iI (v2))]) (rest := []) hx hb hml hown hts hp hS hl.size ok5.1 ok5.2.1 ok5.2.2 rfl (by decide) (c13_isState l D cA B S S5 (x0) (v2) v5 h5) rfl rfl kd13_isState (kl13_575) ks13_isState kv13_isState ki13 kh13_isState ⟨Nat.le_of_ble_eq_true rfl, Nat.le_of_ble_eq_true rfl⟩ rfl (by simp [e_rv_cat, e_int_cat]) ⟨Nat.le_refl _, Nat.le_refl _⟩ dX13_keepsState_5 rfl (fun H locs hp hS => ?_)
  refine e_if_eq (tgt := 12) hx hb dX13_keepsState_8 (by decide) (fun c8 => ?_) (fun c8 => ?_)
  · rw [if_pos c8] at hsh
    refine e_aload_n (B := B) (x := x0) hx hb dX13_keepsState_12 rfl (hl.at 0 rfl) ?_
    obtain ⟨v13, h13, hsh⟩ := Option.bind_eq_some_iff.mp hsh
    refine e_getI (k := 26) hx hb hts in_X13 hown hp h13 rfl (by decide) (by decide) rfl (hts _ kf13_60) rfl dX13_keepsState_13 ?_
    refine lv_bipush (v := iI (99)) hx hb dX13_keepsState_16 (by decide +kernel) ?_
    refine e_icmp_ne (tgt := 25) hx hb dX13_keepsState_18 (by decide) (fun c18 => ?_) (fun c18 => ?_)
    · rw [if_neg c18] at hsh
      refine lv_iconst (v := iI (0)) hx hb dX13_keepsState_25 rfl ?_
      exact w13_keepsState_b26 E hp hS (hl.sub [0] rfl) hsh
    · rw [if_pos c18] at hsh
      refine lv_iconst (v := iI (1)) hx hb dX13_keepsState_21 rfl ?_
      refine lv_goto (tgt := 26) hx hb dX13_keepsState_22 (by decide) ?_
      exact w13_keepsState_b26 E hp hS (hl.sub [0] rfl) hsh
  · rw [if_neg c8] at hsh
    cases hsh
    exact e_vret hx hb hrt hlk hp hS dX13_keepsState_11
theorem ok13_goesState {S : HP} {x0 : Int} {x1 : Int} {r : HP} (h : s13_goesState S x0 x1 = some r) : 0 ≤ x0 ∧ x0.toNat < e_n S ∧ e_g S x0.toNat = 13 := (gd_some h).1
set_option maxRecDepth 100000 in
set_option maxHeartbeats 4000000 in
theorem w13_goesState_b236 {p : Program} {l : Launch} {e : Env} {s : State} {m : MethodId} {args : Array Value} {below : List Frame} {meth : Method} {c : Code} {D : va_G} {cA : Nat → ClassId} {B : Nat} {res : HP} (E : e_En p s m args meth c cX13_goesState RX13 6 none) {ls : Array Slot} {H : Heap} {locs : List Loc} {S : HP} (hp : e_Pic D cA B S s H) (hS : va_S (e_A B) s.heap H locs) (hl : e_lo ls 6 []) (hsh : s13_goesState_b236 S  = some res) : W p l e ({ frames := 3, cells := 0, slots := 0, locals := 70 } : Room) s m args below meth c H locs 0 0 (MQ below (e_Qv D cA B res) args s 0 0 (e_A B)) (F0 m 236 ls []) := by
  obtain ⟨hx, hb, hml, hown, hts, hlk, hrt⟩ := id E
  unfold s13_goesState_b236 at hsh
  cases hsh
  exact e_vret hx hb hrt hlk hp hS dX13_goesState_236
set_option maxRecDepth 100000 in
set_option maxHeartbeats 4000000 in
theorem w13_goesState_l133 {p : Program} {l : Launch} {e : Env} {s : State} {m : MethodId} {args : Array Value} {below : List Frame} {meth : Method} {c : Code} {D : va_G} {cA : Nat → ClassId} {B : Nat} {res : HP} {k102 : HP → Int → Int → Int → Int → Option (HP)} (hk102 : ∀ {ls : Array Slot} {H : Heap} {locs : List Loc} {S : HP} {x0 : Int} {x1 : Int} {x2 : Int} {x4 : Int} (hp : e_Pic D cA B S s H) (hS : va_S (e_A B) s.heap H locs) (hl : e_lo ls 6 [(0, e_rv B (x0)), (1, .int (iI (x1))), (2, .int (iI (x2))), (4, .int (iI (x4)))]) (hsh : k102 S x0 x1 x2 x4 = some res), W p l e ({ frames := 3, cells := 0, slots := 0, locals := 70 } : Room) s m args below meth c H locs 0 0 (MQ below (e_Qv D cA B res) args s 0 0 (e_A B)) (F0 m 102 ls [])) (E : e_En p s m args meth c cX13_goesState RX13 6 none) : ∀ (f : Nat) {ls : Array Slot} {H : Heap} {locs : List Loc} {S : HP} {x0 : Int} {x1 : Int} {x2 : Int} {x4 : Int} {x5 : Int} (hp : e_Pic D cA B S s H) (hS : va_S (e_A B) s.heap H locs) (hl : e_lo ls 6 [(0, e_rv B (x0)), (1, .int (iI (x1))), (2, .int (iI (x2))), (4, .int (iI (x4))), (5, .int (iI (x5)))]) (hsh : s13_goesState_l133 k102 f S x0 x1 x2 x4 x5 = some res), W p l e ({ frames := 3, cells := 0, slots := 0, locals := 70 } : Room) s m args below meth c H locs 0 0 (MQ below (e_Qv D cA B res) args s 0 0 (e_A B)) (F0 m 133 ls []) := by
  obtain ⟨hx, hb, hml, hown, hts, hlk, hrt⟩ := id E
  intro f
  induction f with
  | zero => intro ls H locs S x0 x1 x2 x4 x5 hp hS hl hsh; cases hsh
  | succ f ih =>
    intro ls H locs S x0 x1 x2 x4 x5 hp hS hl hsh
    have hk133 : ∀ {ls : Array Slot} {H : Heap} {locs : List Loc} {S : HP} {x0 : Int} {x1 : Int} {x2 : Int} {x4 : Int} {x5 : Int} (hp : e_Pic D cA B S s H) (hS : va_S (e_A B) s.heap H locs) (hl : e_lo ls 6 [(0, e_rv B (x0)), (1, .int (iI (x1))), (2, .int (iI (x2))), (4, .int (iI (x4))), (5, .int (iI (x5)))]) (hsh : (s13_goesState_l133 k102 f) S x0 x1 x2 x4 x5 = some res), W p l e ({ frames := 3, cells := 0, slots := 0, locals := 70 } : Room) s m args below meth c H locs 0 0 (MQ below (e_Qv D cA B res) args s 0 0 (e_A B)) (F0 m 133 ls []) := ih
    generalize hkk : s13_goesState_l133 k102 f = k133 at hk133
    rw [s13_goesState_l133] at hsh
    rw [hkk] at hsh
    try dsimp only at hsh
    refine lv_iload hx hb dX13_goesState_133 (hl.at 4 rfl) ?_
    refine e_aload_n (B := B) (x := x0) hx hb dX13_goesState_135 rfl (hl.at 0 rfl) ?_
    obtain ⟨v136, h136, hsh⟩ := Option.bind_eq_some_iff.mp hsh
    refine e_getR (k := 3) hx hb hts in_X13 hown hp h136 rfl (by decide) (by decide) rfl (hts _ kf13_17) rfl dX13_goesState_136 ?_
    refine lv_iload hx hb dX13_goesState_139 (hl.at 3 rfl) ?_
    obtain ⟨v141, h141, hsh⟩ := Option.bind_eq_some_iff.mp hsh
    refine e_iald hx hb hp h141 dX13_goesState_141 ?_
    refine e_icmp_ge (tgt := 182) hx hb dX13_goesState_142 (by decide) (fun c142 => ?_) (fun c142 => ?_)
    · rw [if_pos c142] at hsh
      refine e_iinc (n := 1) (x := x4) (lv' := [(4, .int (iI ((x4 + 1)))), (0, e_rv B (x0)), (1, .int (iI (x1))), (2, .int (iI (x2))), (5, .int (iI (x5)))]) hx hb dX13_goesState_182 hl (k := 3) rfl (by decide) rfl (fun ls hl => ?_)
      refine lv_goto (tgt := 102) hx hb dX13_goesState_185 (by decide) ?_
      exact hk102 hp hS (hl.sub [1, 2, 3, 0] rfl) hsh
    · rw [if_neg c142] at hsh
      refine e_aload_n (B := B) (x := x0) hx hb dX13_goesState_145 rfl (hl.at 0 rfl) ?_
      obtain ⟨v146, h146, hsh⟩ := Option.bind_eq_some_iff.mp hsh
      refine e_getR (k := 4) hx hb hts in_X13 hown hp h146 rfl (by decide) (by decide) rfl (hts _ kf13_20) rfl dX13_goesState_146 ?_
      refine lv_bipush (v := iI (60)) hx hb dX13_goesState_149 (by decide +kernel) ?_
      refine lv_iload hx hb dX13_goesState_151 (hl.at 3 rfl) ?_
      refine e_imul hx hb dX13_goesState_153 ?_
      refine lv_iload hx hb dX13_goesState_154 (hl.at 4 rfl) ?_
      refine e_iadd hx hb dX13_goesState_156 ?_
      refine e_aload_n (B := B) (x := x0) hx hb dX13_goesState_157 rfl (hl.at 0 rfl) ?_
      obtain ⟨v158, h158, hsh⟩ := Option.bind_eq_some_iff.mp hsh
      refine e_getR (k := 30) hx hb hts in_X13 hown hp h158 rfl (by decide) (by decide) rfl (hts _ kf13_70) rfl dX13_goesState_158 ?_
      refine lv_bipush (v := iI (60)) hx hb dX13_goesState_161 (by decide +kernel) ?_
      refine lv_bipush (v := iI (40)) hx hb dX13_goesState_163 (by decide +kernel) ?_
      refine lv_iload_n hx hb dX13_goesState_165 rfl (hl.at 1 rfl) ?_
      refine e_imul hx hb dX13_goesState_166 ?_
      refine lv_iload hx hb dX13_goesState_167 (hl.at 3 rfl) ?_
      refine e_iadd hx hb dX13_goesState_169 ?_
      refine e_imul hx hb dX13_goesState_170 ?_
      refine lv_iload hx hb dX13_goesState_171 (hl.at 4 rfl) ?_
      refine e_iadd hx hb dX13_goesState_173 ?_
      obtain ⟨v174, h174, hsh⟩ := Option.bind_eq_some_iff.mp hsh
      refine e_iald hx hb hp h174 dX13_goesState_174 ?_
      obtain ⟨S175, h175, hsh⟩ := Option.bind_eq_some_iff.mp hsh
      refine e_iast hx hb hp hS h175 dX13_goesState_175 (fun H locs hp hS => ?_)
      refine e_iinc (n := 1) (x := x5) (lv' := [(5, .int (iI ((x5 + 1)))), (0, e_rv B (x0)), (1, .int (iI (x1))), (2, .int (iI (x2))), (4, .int (iI (x4)))]) hx hb dX13_goesState_176 hl (k := 4) rfl (by decide) rfl (fun ls hl => ?_)
      refine lv_goto (tgt := 133) hx hb dX13_goesState_179 (by decide) ?_
      exact hk133 hp hS (hl.sub [1, 2, 3, 4, 0] rfl) hsh
set_option maxRecDepth 100000 in
set_option maxHeartbeats 4000000 in
theorem w13_goesState_l102 {p : Program} {l : Launch} {e : Env} {s : State} {m : MethodId} {args : Array Value} {below : List Frame} {meth : Method} {c : Code} {D : va_G} {cA : Nat → ClassId} {B : Nat} {res : HP} (E : e_En p s m args meth c cX13_goesState RX13 6 none) : ∀ (f : Nat) {ls : Array Slot} {H : Heap} {locs : List Loc} {S : HP} {x0 : Int} {x1 : Int} {x2 : Int} {x4 : Int} (hp : e_Pic D cA B S s H) (hS : va_S (e_A B) s.heap H locs) (hl : e_lo ls 6 [(0, e_rv B (x0)), (1, .int (iI (x1))), (2, .int (iI (x2))), (4, .int (iI (x4)))]) (hsh : s13_goesState_l102 f S x0 x1 x2 x4 = some res), W p l e ({ frames := 3, cells := 0, slots := 0, locals := 70 } : Room) s m args below meth c H locs 0 0 (MQ below (e_Qv D cA B res) args s 0 0 (e_A B)) (F0 m 102 ls []) := by
  obtain ⟨hx, hb, hml, hown, hts, hlk, hrt⟩ := id E
  intro f
  induction f with
  | zero => intro ls H locs S x0 x1 x2 x4 hp hS hl hsh; cases hsh
  | succ f ih =>
    intro ls H locs S x0 x1 x2 x4 hp hS hl hsh
    have hk102 : ∀ {ls : Array Slot} {H : Heap} {locs : List Loc} {S : HP} {x0 : Int} {x1 : Int} {x2 : Int} {x4 : Int} (hp : e_Pic D cA B S s H) (hS : va_S (e_A B) s.heap H locs) (hl : e_lo ls 6 [(0, e_rv B (x0)), (1, .int (iI (x1))), (2, .int (iI (x2))), (4, .int (iI (x4)))]) (hsh : (s13_goesState_l102 f) S x0 x1 x2 x4 = some res), W p l e ({ frames := 3, cells := 0, slots := 0, locals := 70 } : Room) s m args below meth c H locs 0 0 (MQ below (e_Qv D cA B res) args s 0 0 (e_A B)) (F0 m 102 ls []) := ih
    generalize hkk : s13_goesState_l102 f = k102 at hk102
    rw [s13_goesState_l102] at hsh
    rw [hkk] at hsh
    try dsimp only at hsh
    refine lv_iload hx hb dX13_goesState_102 (hl.at 3 rfl) ?_
    refine e_aload_n (B := B) (x := x0) hx hb dX13_goesState_104 rfl (hl.at 0 rfl) ?_
    obtain ⟨v105, h105, hsh⟩ := Option.bind_eq_some_iff.mp hsh
    refine e_getI (k := 2) hx hb hts in_X13 hown hp h105 rfl (by decide) (by decide) rfl (hts _ kf13_13) rfl dX13_goesState_105 ?_
    refine e_icmp_ge (tgt := 188) hx hb dX13_goesState_108 (by decide) (fun c108 => ?_) (fun c108 => ?_)
    · rw [if_pos c108] at hsh
      refine e_aload_n (B := B) (x := x0) hx hb dX13_goesState_188 rfl (hl.at 0 rfl) ?_
      refine lv_iload_n hx hb dX13_goesState_189 rfl (hl.at 1 rfl) ?_
      obtain ⟨S190, h190, hsh⟩ := Option.bind_eq_some_iff.mp hsh
      refine e_putI (k := 27) hx hb hts in_X13 tyX13 tyX13_ok nmX13 hown hp hS h190 rfl (by decide) (by decide) rfl (hts _ kf13_572) rfl rfl (by decide +kernel) dX13_goesState_190 (fun H locs hp hS => ?_)
      refine lv_iload_n hx hb dX13_goesState_193 rfl (hl.at 2 rfl) ?_
      refine lv_iconst (v := iI (-1)) hx hb dX13_goesState_194 rfl ?_
      refine e_icmp_ne (tgt := 222) hx hb dX13_goesState_195 (by decide) (fun c195 => ?_) (fun c195 => ?_)
      · rw [if_neg c195] at hsh
        refine e_aload_n (B := B) (x := x0) hx hb dX13_goesState_222 rfl (hl.at 0 rfl) ?_
        refine lv_iload_n hx hb dX13_goesState_223 rfl (hl.at 2 rfl) ?_
        refine e_aload_n (B := B) (x := x0) hx hb dX13_goesState_224 rfl (hl.at 0 rfl) ?_
        obtain ⟨v225, h225, hsh⟩ := Option.bind_eq_some_iff.mp hsh
        refine e_getI (k := 2) hx hb hts in_X13 hown hp h225 rfl (by decide) (by decide) rfl (hts _ kf13_13) rfl dX13_goesState_225 ?_
        refine lv_iconst (v := iI (1)) hx hb dX13_goesState_228 rfl ?_
        refine e_isub hx hb dX13_goesState_229 ?_
        obtain ⟨⟨v230, S230⟩, h230, hsh⟩ := Option.bind_eq_some_iff.mp hsh
        have hsh : _ = _ := hsh
        try dsimp only at hsh
        refine e_callS (nL := 6) (mc := 0) (ms := 0) (As := [.int (iI (x2)), .int (iI ((v225 - 1)))]) (rest := [e_rv B (x0)]) hx hb hml hown hts hp hS hl.size (c13_lesser l D cA B S190 S230 (x2) ((v225 - 1)) v230 h230) rfl rfl kd13_lesser (kl13_257) ks13_lesser ki13 kh13_lesser ⟨Nat.le_of_ble_eq_true rfl, Nat.le_of_ble_eq_true rfl⟩ rfl (by simp [e_rv_cat, e_int_cat]) ⟨Nat.le_refl _, Nat.le_refl _⟩ dX13_goesState_230 rfl (fun H locs hp hS => ?_)
        obtain ⟨S233, h233, hsh⟩ := Option.bind_eq_some_iff.mp hsh
        have ok233 := ok13_goesTo h233
        refine e_callV (nL := 6) (mc := 0) (ms := 0) (T := TX13) (N := 126) (As := [.int (iI (v230))]) (rest := []) hx hb hml hown hts hp hS hl.size ok233.1 ok233.2.1 ok233.2.2 rfl (by decide) (c13_goesTo l D cA B S230 S233 (x0) (v230) h233) rfl rfl kd13_goesTo (kl13_507) ks13_goesTo kv13_goesTo ki13 kh13_goesTo ⟨Nat.le_of_ble_eq_true rfl, Nat.le_of_ble_eq_true rfl⟩ rfl (by simp [e_rv_cat, e_int_cat]) ⟨Nat.le_refl _, Nat.le_refl _⟩ dX13_goesState_233 rfl (fun H locs hp hS => ?_)
        exact w13_goesState_b236 E hp hS (hl.sub [] rfl) hsh
      · rw [if_pos c195] at hsh
        refine e_aload_n (B := B) (x := x0) hx hb dX13_goesState_198 rfl (hl.at 0 rfl) ?_
        refine e_aload_n (B := B) (x := x0) hx hb dX13_goesState_199 rfl (hl.at 0 rfl) ?_
        obtain ⟨v200, h200, hsh⟩ := Option.bind_eq_some_iff.mp hsh
        refine e_getI (k := 5) hx hb hts in_X13 hown hp h200 rfl (by decide) (by decide) rfl (hts _ kf13_213) rfl dX13_goesState_200 ?_
        refine e_aload_n (B := B) (x := x0) hx hb dX13_goesState_203 rfl (hl.at 0 rfl) ?_
        obtain ⟨v204, h204, hsh⟩ := Option.bind_eq_some_iff.mp hsh
        refine e_getI (k := 2) hx hb hts in_X13 hown hp h204 rfl (by decide) (by decide) rfl (hts _ kf13_13) rfl dX13_goesState_204 ?_
        refine lv_iconst (v := iI (1)) hx hb dX13_goesState_207 rfl ?_
        refine e_isub hx hb dX13_goesState_208 ?_
        obtain ⟨⟨v209, S209⟩, h209, hsh⟩ := Option.bind_eq_some_iff.mp hsh
        have hsh : _ = _ := hsh
        try dsimp only at hsh
        refine e_callS (nL := 6) (mc := 0) (ms := 0) (As := [.int (iI (v200)), .int (iI ((v204 - 1)))]) (rest := [e_rv B (x0)]) hx hb hml hown hts hp hS hl.size (c13_lesser l D cA B S190 S209 (v200) ((v204 - 1)) v209 h209) rfl rfl kd13_lesser (kl13_257) ks13_lesser ki13 kh13_lesser ⟨Nat.le_of_ble_eq_true rfl, Nat.le_of_ble_eq_true rfl⟩ rfl (by simp [e_rv_cat, e_int_cat]) ⟨Nat.le_refl _, Nat.le_refl _⟩ dX13_goesState_209 rfl (fun H locs hp hS => ?_)
        refine e_aload_n (B := B) (x := x0) hx hb dX13_goesState_212 rfl (hl.at 0 rfl) ?_
        obtain ⟨v213, h213, hsh⟩ := Option.bind_eq_some_iff.mp hsh
        refine e_getI (k := 6) hx hb hts in_X13 hown hp h213 rfl (by decide) (by decide) rfl (hts _ kf13_216) rfl dX13_goesState_213 ?_
        obtain ⟨S216, h216, hsh⟩ := Option.bind_eq_some_iff.mp hsh
        have ok216 := ok13_goesNear h216
        refine e_callV (nL := 6) (mc := 0) (ms := 0) (T := TX13) (N := 126) (As := [.int (iI (v209)), .int (iI (v213))]) (rest := []) hx hb hml hown hts hp hS hl.size ok216.1 ok216.2.1 ok216.2.2 rfl (by decide) (c13_goesNear l D cA B S209 S216 (x0) (v209) (v213) h216) rfl rfl kd13_goesNear (kl13_510) ks13_goesNear kv13_goesNear ki13 kh13_goesNear ⟨Nat.le_of_ble_eq_true rfl, Nat.le_of_ble_eq_true rfl⟩ rfl (by simp [e_rv_cat, e_int_cat]) ⟨Nat.le_refl _, Nat.le_refl _⟩ dX13_goesState_216 rfl (fun H locs hp hS => ?_)
        refine lv_goto (tgt := 236) hx hb dX13_goesState_219 (by decide) ?_
        exact w13_goesState_b236 E hp hS (hl.sub [] rfl) hsh
    · rw [if_neg c108] at hsh
      refine e_aload_n (B := B) (x := x0) hx hb dX13_goesState_111 rfl (hl.at 0 rfl) ?_
      obtain ⟨v112, h112, hsh⟩ := Option.bind_eq_some_iff.mp hsh
      refine e_getR (k := 3) hx hb hts in_X13 hown hp h112 rfl (by decide) (by decide) rfl (hts _ kf13_17) rfl dX13_goesState_112 ?_
      refine lv_iload hx hb dX13_goesState_115 (hl.at 3 rfl) ?_
      refine e_aload_n (B := B) (x := x0) hx hb dX13_goesState_117 rfl (hl.at 0 rfl) ?_
      obtain ⟨v118, h118, hsh⟩ := Option.bind_eq_some_iff.mp hsh
      refine e_getR (k := 29) hx hb hts in_X13 hown hp h118 rfl (by decide) (by decide) rfl (hts _ kf13_66) rfl dX13_goesState_118 ?_
      refine lv_bipush (v := iI (40)) hx hb dX13_goesState_121 (by decide +kernel) ?_
      refine lv_iload_n hx hb dX13_goesState_123 rfl (hl.at 1 rfl) ?_
      refine e_imul hx hb dX13_goesState_124 ?_
      refine lv_iload hx hb dX13_goesState_125 (hl.at 3 rfl) ?_
      refine e_iadd hx hb dX13_goesState_127 ?_
      obtain ⟨v128, h128, hsh⟩ := Option.bind_eq_some_iff.mp hsh
      refine e_iald hx hb hp h128 dX13_goesState_128 ?_
      obtain ⟨S129, h129, hsh⟩ := Option.bind_eq_some_iff.mp hsh
      refine e_iast hx hb hp hS h129 dX13_goesState_129 (fun H locs hp hS => ?_)
      refine lv_iconst (v := iI (0)) hx hb dX13_goesState_130 rfl ?_
      refine e_istore (lv' := [(5, .int (iI (0))), (0, e_rv B (x0)), (1, .int (iI (x1))), (2, .int (iI (x2))), (4, .int (iI (x4)))]) hx hb dX13_goesState_131 hl (by decide) rfl (fun ls hl => ?_)
      exact w13_goesState_l133 (hk102 := hk102) E 1000000 hp hS (hl.sub [1, 2, 3, 4, 0] rfl) hsh
set_option maxRecDepth 100000 in
set_option maxHeartbeats 4000000 in
theorem w13_goesState_b94 {p : Program} {l : Launch} {e : Env} {s : State} {m : MethodId} {args : Array Value} {below : List Frame} {meth : Method} {c : Code} {D : va_G} {cA : Nat → ClassId} {B : Nat} {res : HP} (E : e_En p s m args meth c cX13_goesState RX13 6 none) {ls : Array Slot} {H : Heap} {locs : List Loc} {S : HP} {x0 : Int} {x1 : Int} {x2 : Int} {x3 : Int} (hp : e_Pic D cA B S s H) (hS : va_S (e_A B) s.heap H locs) (hl : e_lo ls 6 [(0, e_rv B (x0)), (1, .int (iI (x1))), (2, .int (iI (x2))), (3, .int (iI (x3)))]) (hsh : s13_goesState_b94 S x0 x1 x2 x3 = some res) : W p l e ({ frames := 3, cells := 0, slots := 0, locals := 70 } : Room) s m args below meth c H locs 0 0 (MQ below (e_Qv D cA B res) args s 0 0 (e_A B)) (F0 m 94 ls []) := by
  obtain ⟨hx, hb, hml, hown, hts, hlk, hrt⟩ := id E
  unfold s13_goesState_b94 at hsh
  refine e_aload_n (B := B) (x := x0) hx hb dX13_goesState_94 rfl (hl.at 0 rfl) ?_
  refine lv_iload_n hx hb dX13_goesState_95 rfl (hl.at 3 rfl) ?_
  obtain ⟨S96, h96, hsh⟩ := Option.bind_eq_some_iff.mp hsh
  refine e_putI (k := 2) hx hb hts in_X13 tyX13 tyX13_ok nmX13 hown hp hS h96 rfl (by decide) (by decide) rfl (hts _ kf13_13) rfl rfl (by decide +kernel) dX13_goesState_96 (fun H locs hp hS => ?_)
  refine lv_iconst (v := iI (0)) hx hb dX13_goesState_99 rfl ?_
  refine e_istore (lv' := [(4, .int (iI (0))), (0, e_rv B (x0)), (1, .int (iI (x1))), (2, .int (iI (x2))), (3, .int (iI (x3)))]) hx hb dX13_goesState_100 hl (by decide) rfl (fun ls hl => ?_)
  exact w13_goesState_l102 E 1000000 hp hS (hl.sub [1, 2, 3, 0] rfl) hsh
set_option maxRecDepth 100000 in
set_option maxHeartbeats 4000000 in
theorem w13_goesState_b74 {p : Program} {l : Launch} {e : Env} {s : State} {m : MethodId} {args : Array Value} {below : List Frame} {meth : Method} {c : Code} {D : va_G} {cA : Nat → ClassId} {B : Nat} {res : HP} (E : e_En p s m args meth c cX13_goesState RX13 6 none) {ls : Array Slot} {H : Heap} {locs : List Loc} {S : HP} {x0 : Int} {x1 : Int} {x3 : Int} {y0 : Int} (hp : e_Pic D cA B S s H) (hS : va_S (e_A B) s.heap H locs) (hl : e_lo ls 6 [(0, e_rv B (x0)), (1, .int (iI (x1))), (3, .int (iI (x3)))]) (hsh : s13_goesState_b74 S x0 x1 x3 y0 = some res) : W p l e ({ frames := 3, cells := 0, slots := 0, locals := 70 } : Room) s m args below meth c H locs 0 0 (MQ below (e_Qv D cA B res) args s 0 0 (e_A B)) (F0 m 74 ls [.int (iI (y0))]) := by
  obtain ⟨hx, hb, hml, hown, hts, hlk, hrt⟩ := id E
  unfold s13_goesState_b74 at hsh
  refine e_istore_n (lv' := [(2, .int (iI (y0))), (0, e_rv B (x0)), (1, .int (iI (x1))), (3, .int (iI (x3)))]) hx hb dX13_goesState_74 rfl hl (by decide) rfl (fun ls hl => ?_)
  refine lv_iload_n hx hb dX13_goesState_75 rfl (hl.at 3 rfl) ?_
  refine e_aload_n (B := B) (x := x0) hx hb dX13_goesState_76 rfl (hl.at 1 rfl) ?_
  obtain ⟨v77, h77, hsh⟩ := Option.bind_eq_some_iff.mp hsh
  refine e_getI (k := 2) hx hb hts in_X13 hown hp h77 rfl (by decide) (by decide) rfl (hts _ kf13_13) rfl dX13_goesState_77 ?_
  refine e_icmp_ge (tgt := 94) hx hb dX13_goesState_80 (by decide) (fun c80 => ?_) (fun c80 => ?_)
  · rw [if_pos c80] at hsh
    exact w13_goesState_b94 E hp hS (hl.sub [1, 2, 0, 3] rfl) hsh
  · rw [if_neg c80] at hsh
    refine e_aload_n (B := B) (x := x0) hx hb dX13_goesState_83 rfl (hl.at 1 rfl) ?_
    refine lv_iload_n hx hb dX13_goesState_84 rfl (hl.at 3 rfl) ?_
    refine e_aload_n (B := B) (x := x0) hx hb dX13_goesState_85 rfl (hl.at 1 rfl) ?_
    obtain ⟨v86, h86, hsh⟩ := Option.bind_eq_some_iff.mp hsh
    refine e_getI (k := 2) hx hb hts in_X13 hown hp h86 rfl (by decide) (by decide) rfl (hts _ kf13_13) rfl dX13_goesState_86 ?_
    refine lv_iconst (v := iI (1)) hx hb dX13_goesState_89 rfl ?_
    refine e_isub hx hb dX13_goesState_90 ?_
    obtain ⟨S91, h91, hsh⟩ := Option.bind_eq_some_iff.mp hsh
    have ok91 := ok13_linesOut h91
    refine e_callV (nL := 6) (mc := 0) (ms := 0) (T := TX13) (N := 126) (As := [.int (iI (x3)), .int (iI ((v86 - 1)))]) (rest := []) hx hb hml hown hts hp hS hl.size ok91.1 ok91.2.1 ok91.2.2 rfl (by decide) (c13_linesOut l D cA B S S91 (x0) (x3) ((v86 - 1)) h91) rfl rfl kd13_linesOut (kl13_266) ks13_linesOut kv13_linesOut ki13 kh13_linesOut ⟨Nat.le_of_ble_eq_true rfl, Nat.le_of_ble_eq_true rfl⟩ rfl (by simp [e_rv_cat, e_int_cat]) ⟨Nat.le_refl _, Nat.le_refl _⟩ dX13_goesState_91 rfl (fun H locs hp hS => ?_)
    exact w13_goesState_b94 E hp hS (hl.sub [1, 2, 0, 3] rfl) hsh
set_option maxRecDepth 100000 in
set_option maxHeartbeats 4000000 in
theorem w13_goesState_b73 {p : Program} {l : Launch} {e : Env} {s : State} {m : MethodId} {args : Array Value} {below : List Frame} {meth : Method} {c : Code} {D : va_G} {cA : Nat → ClassId} {B : Nat} {res : HP} (E : e_En p s m args meth c cX13_goesState RX13 6 none) {ls : Array Slot} {H : Heap} {locs : List Loc} {S : HP} {x0 : Int} {x1 : Int} {x2 : Int} {x3 : Int} (hp : e_Pic D cA B S s H) (hS : va_S (e_A B) s.heap H locs) (hl : e_lo ls 6 [(0, e_rv B (x0)), (1, .int (iI (x1))), (2, .int (iI (x2))), (3, .int (iI (x3)))]) (hsh : s13_goesState_b73 S x0 x1 x2 x3 = some res) : W p l e ({ frames := 3, cells := 0, slots := 0, locals := 70 } : Room) s m args below meth c H locs 0 0 (MQ below (e_Qv D cA B res) args s 0 0 (e_A B)) (F0 m 73 ls []) := by
  obtain ⟨hx, hb, hml, hown, hts, hlk, hrt⟩ := id E
  unfold s13_goesState_b73 at hsh
  refine lv_iload_n hx hb dX13_goesState_73 rfl (hl.at 2 rfl) ?_
  exact w13_goesState_b74 E hp hS (hl.sub [0, 1, 3] rfl) hsh
set_option maxRecDepth 100000 in
set_option maxHeartbeats 4000000 in
theorem w13_goesState_b42 {p : Program} {l : Launch} {e : Env} {s : State} {m : MethodId} {args : Array Value} {below : List Frame} {meth : Method} {c : Code} {D : va_G} {cA : Nat → ClassId} {B : Nat} {res : HP} {k21 : HP → Int → Int → Int → Int → Int → Option (HP)} (hk21 : ∀ {ls : Array Slot} {H : Heap} {locs : List Loc} {S : HP} {x0 : Int} {x1 : Int} {x2 : Int} {x3 : Int} {x4 : Int} (hp : e_Pic D cA B S s H) (hS : va_S (e_A B) s.heap H locs) (hl : e_lo ls 6 [(0, e_rv B (x0)), (1, .int (iI (x1))), (2, .int (iI (x2))), (3, .int (iI (x3))), (4, .int (iI (x4)))]) (hsh : k21 S x0 x1 x2 x3 x4 = some res), W p l e ({ frames := 3, cells := 0, slots := 0, locals := 70 } : Room) s m args below meth c H locs 0 0 (MQ below (e_Qv D cA B res) args s 0 0 (e_A B)) (F0 m 21 ls [])) (E : e_En p s m args meth c cX13_goesState RX13 6 none) {ls : Array Slot} {H : Heap} {locs : List Loc} {S : HP} {x0 : Int} {x1 : Int} {x3 : Int} {x4 : Int} {y0 : Int} (hp : e_Pic D cA B S s H) (hS : va_S (e_A B) s.heap H locs) (hl : e_lo ls 6 [(0, e_rv B (x0)), (1, .int (iI (x1))), (3, .int (iI (x3))), (4, .int (iI (x4)))]) (hsh : s13_goesState_b42 k21 S x0 x1 x3 x4 y0 = some res) : W p l e ({ frames := 3, cells := 0, slots := 0, locals := 70 } : Room) s m args below meth c H locs 0 0 (MQ below (e_Qv D cA B res) args s 0 0 (e_A B)) (F0 m 42 ls [.int (iI (y0))]) := by
  obtain ⟨hx, hb, hml, hown, hts, hlk, hrt⟩ := id E
  unfold s13_goesState_b42 at hsh
  refine e_istore_n (lv' := [(2, .int (iI (y0))), (0, e_rv B (x0)), (1, .int (iI (x1))), (3, .int (iI (x3))), (4, .int (iI (x4)))]) hx hb dX13_goesState_42 rfl hl (by decide) rfl (fun ls hl => ?_)
  refine e_iinc (n := (-1)) (x := x4) (lv' := [(4, .int (iI ((x4 + (-1))))), (2, .int (iI (y0))), (0, e_rv B (x0)), (1, .int (iI (x1))), (3, .int (iI (x3)))]) hx hb dX13_goesState_43 hl (k := 4) rfl (by decide) rfl (fun ls hl => ?_)
  refine lv_goto (tgt := 21) hx hb dX13_goesState_46 (by decide) ?_
  exact hk21 hp hS (hl.sub [2, 3, 1, 4, 0] rfl) hsh
set_option maxRecDepth 100000 in
set_option maxHeartbeats 4000000 in
theorem w13_goesState_l21 {p : Program} {l : Launch} {e : Env} {s : State} {m : MethodId} {args : Array Value} {below : List Frame} {meth : Method} {c : Code} {D : va_G} {cA : Nat → ClassId} {B : Nat} {res : HP} (E : e_En p s m args meth c cX13_goesState RX13 6 none) : ∀ (f : Nat) {ls : Array Slot} {H : Heap} {locs : List Loc} {S : HP} {x0 : Int} {x1 : Int} {x2 : Int} {x3 : Int} {x4 : Int} (hp : e_Pic D cA B S s H) (hS : va_S (e_A B) s.heap H locs) (hl : e_lo ls 6 [(0, e_rv B (x0)), (1, .int (iI (x1))), (2, .int (iI (x2))), (3, .int (iI (x3))), (4, .int (iI (x4)))]) (hsh : s13_goesState_l21 f S x0 x1 x2 x3 x4 = some res), W p l e ({ frames := 3, cells := 0, slots := 0, locals := 70 } : Room) s m args below meth c H locs 0 0 (MQ below (e_Qv D cA B res) args s 0 0 (e_A B)) (F0 m 21 ls []) := by
  obtain ⟨hx, hb, hml, hown, hts, hlk, hrt⟩ := id E
  intro f
  induction f with
  | zero => intro ls H locs S x0 x1 x2 x3 x4 hp hS hl hsh; cases hsh
  | succ f ih =>
    intro ls H locs S x0 x1 x2 x3 x4 hp hS hl hsh
    have hk21 : ∀ {ls : Array Slot} {H : Heap} {locs : List Loc} {S : HP} {x0 : Int} {x1 : Int} {x2 : Int} {x3 : Int} {x4 : Int} (hp : e_Pic D cA B S s H) (hS : va_S (e_A B) s.heap H locs) (hl : e_lo ls 6 [(0, e_rv B (x0)), (1, .int (iI (x1))), (2, .int (iI (x2))), (3, .int (iI (x3))), (4, .int (iI (x4)))]) (hsh : (s13_goesState_l21 f) S x0 x1 x2 x3 x4 = some res), W p l e ({ frames := 3, cells := 0, slots := 0, locals := 70 } : Room) s m args below meth c H locs 0 0 (MQ below (e_Qv D cA B res) args s 0 0 (e_A B)) (F0 m 21 ls []) := ih
    generalize hkk : s13_goesState_l21 f = k21 at hk21
    rw [s13_goesState_l21] at hsh
    rw [hkk] at hsh
    try dsimp only at hsh
    refine lv_iload hx hb dX13_goesState_21 (hl.at 4 rfl) ?_
    refine e_if_lt (tgt := 49) hx hb dX13_goesState_23 (by decide) (fun c23 => ?_) (fun c23 => ?_)
    · rw [if_pos c23] at hsh
      refine lv_iload_n hx hb dX13_goesState_49 rfl (hl.at 2 rfl) ?_
      refine lv_iconst (v := iI (-1)) hx hb dX13_goesState_50 rfl ?_
      refine e_icmp_ne (tgt := 73) hx hb dX13_goesState_51 (by decide) (fun c51 => ?_) (fun c51 => ?_)
      · rw [if_neg c51] at hsh
        exact w13_goesState_b73 E hp hS (hl.sub [0, 1, 2, 3] rfl) hsh
      · rw [if_pos c51] at hsh
        refine lv_iload_n hx hb dX13_goesState_54 rfl (hl.at 3 rfl) ?_
        refine e_aload_n (B := B) (x := x0) hx hb dX13_goesState_55 rfl (hl.at 0 rfl) ?_
        obtain ⟨v56, h56, hsh⟩ := Option.bind_eq_some_iff.mp hsh
        refine e_getI (k := 2) hx hb hts in_X13 hown hp h56 rfl (by decide) (by decide) rfl (hts _ kf13_13) rfl dX13_goesState_56 ?_
        refine e_icmp_eq (tgt := 73) hx hb dX13_goesState_59 (by decide) (fun c59 => ?_) (fun c59 => ?_)
        · rw [if_pos c59] at hsh
          exact w13_goesState_b73 E hp hS (hl.sub [0, 1, 2, 3] rfl) hsh
        · rw [if_neg c59] at hsh
          refine e_aload_n (B := B) (x := x0) hx hb dX13_goesState_62 rfl (hl.at 0 rfl) ?_
          obtain ⟨v63, h63, hsh⟩ := Option.bind_eq_some_iff.mp hsh
          refine e_getI (k := 2) hx hb hts in_X13 hown hp h63 rfl (by decide) (by decide) rfl (hts _ kf13_13) rfl dX13_goesState_63 ?_
          refine lv_iload_n hx hb dX13_goesState_66 rfl (hl.at 3 rfl) ?_
          obtain ⟨⟨v67, S67⟩, h67, hsh⟩ := Option.bind_eq_some_iff.mp hsh
          have hsh : _ = _ := hsh
          try dsimp only at hsh
          refine e_callS (nL := 6) (mc := 0) (ms := 0) (As := [.int (iI (v63)), .int (iI (x3))]) (rest := []) hx hb hml hown hts hp hS hl.size (c13_lesser l D cA B S S67 (v63) (x3) v67 h67) rfl rfl kd13_lesser (kl13_257) ks13_lesser ki13 kh13_lesser ⟨Nat.le_of_ble_eq_true rfl, Nat.le_of_ble_eq_true rfl⟩ rfl (by simp [e_rv_cat, e_int_cat]) ⟨Nat.le_refl _, Nat.le_refl _⟩ dX13_goesState_67 rfl (fun H locs hp hS => ?_)
          refine lv_goto (tgt := 74) hx hb dX13_goesState_70 (by decide) ?_
          exact w13_goesState_b74 E hp hS (hl.sub [0, 1, 3] rfl) hsh
    · rw [if_neg c23] at hsh
      refine e_aload_n (B := B) (x := x0) hx hb dX13_goesState_26 rfl (hl.at 0 rfl) ?_
      refine lv_iload_n hx hb dX13_goesState_27 rfl (hl.at 1 rfl) ?_
      refine lv_iload hx hb dX13_goesState_28 (hl.at 4 rfl) ?_
      obtain ⟨⟨v30, S30⟩, h30, hsh⟩ := Option.bind_eq_some_iff.mp hsh
      have hsh : _ = _ := hsh
      try dsimp only at hsh
      have ok30 := ok13_isSameLine h30
      refine e_callI (nL := 6) (mc := 0) (ms := 0) (T := TX13) (N := 126) (As := [.int (iI (x1)), .int (iI (x4))]) (rest := []) hx hb hml hown hts hp hS hl.size ok30.1 ok30.2.1 ok30.2.2 rfl (by decide) (c13_isSameLine l D cA B S S30 (x0) (x1) (x4) v30 h30) rfl rfl kd13_isSameLine (kl13_569) ks13_isSameLine kv13_isSameLine ki13 kh13_isSameLine ⟨Nat.le_of_ble_eq_true rfl, Nat.le_of_ble_eq_true rfl⟩ rfl (by simp [e_rv_cat, e_int_cat]) ⟨Nat.le_refl _, Nat.le_refl _⟩ dX13_goesState_30 rfl (fun H locs hp hS => ?_)
      refine e_if_eq (tgt := 40) hx hb dX13_goesState_33 (by decide) (fun c33 => ?_) (fun c33 => ?_)
      · rw [if_pos c33] at hsh
        refine lv_iload hx hb dX13_goesState_40 (hl.at 4 rfl) ?_
        exact w13_goesState_b42 (hk21 := hk21) E hp hS (hl.sub [0, 1, 3, 4] rfl) hsh
      · rw [if_neg c33] at hsh
        refine lv_iload_n hx hb dX13_goesState_36 rfl (hl.at 2 rfl) ?_
        refine lv_goto (tgt := 42) hx hb dX13_goesState_37 (by decide) ?_
        exact w13_goesState_b42 (hk21 := hk21) E hp hS (hl.sub [0, 1, 3, 4] rfl) hsh
set_option maxRecDepth 100000 in
set_option maxHeartbeats 4000000 in
theorem c13_goesState (l : Launch) (D : va_G) (cA : Nat → ClassId) (B : Nat) (S S' : HP) (x0 : Int) (x1 : Int) (hsh : s13_goesState S x0 x1 = some S') : Met l yX13_goesState (e_wu yX13_goesState cX13_goesState 6 none) ({ frames := 3, cells := 0, slots := 0, locals := 70 } : Room) (va_Pc [e_rv B (x0), .int (iI (x1))] (fun U => e_PU D cA B S U)) (e_Qv D cA B S') 0 0 (e_A B) := by
  refine Met.ofW (cc := cX13_goesState) (maxL := 6) (ret := none) (by decide +kernel) rfl ?_
  intro p e s m args below meth c s₁ Bd hml hv
  obtain ⟨rfl, hp⟩ := hv
  have hp : e_Pic D cA B S s s.heap := hp
  have hx := Bd.exec
  have hb := Bd.bytes
  have hrt := Bd.returns
  have hlk := Bd.notSynchronized
  have hown : s.vm.findClass RX13 = some m.cls := findClass_of_methodNamed Bd.named
  have hts : ∀ w ∈ e_tb, w.before ([e_rv B (x0), .int (iI (x1))] : List Value).toArray s = true := fun w h => atoms_spec (ws := (e_wu yX13_goesState cX13_goesState 6 none)) Bd.pre w (List.mem_cons_of_mem _ h)
  have E : e_En p s m ([e_rv B (x0), .int (iI (x1))] : List Value).toArray meth c cX13_goesState RX13 6 none := ⟨hx, hb, hml, hown, hts, hlk, hrt⟩
  have hS : va_S (e_A B) s.heap s.heap [] := va_S.rf
  have hl := e_entry (vs := [e_rv B (x0), .int (iI (x1))]) (n := 6) (Nat.le_of_ble_eq_true rfl) (e_cc (e_rv_cat _ _) (e_cc rfl e_cn))
  rw [lg_entry_eq]
  generalize (lg_sl [e_rv B (x0), .int (iI (x1))] ++ List.replicate (6 - (lg_sl [e_rv B (x0), .int (iI (x1))]).length) Slot.unset).toArray = ls at hl ⊢
  generalize ([e_rv B (x0), .int (iI (x1))] : List Value).toArray = args at hts E ⊢
  have hl : e_lo ls 6 [(0, e_rv B (x0)), (1, .int (iI (x1)))] := hl
  have hsh := (gd_some hsh).2
  refine lv_iconst (v := iI (-1)) hx hb dX13_goesState_0 rfl ?_
  refine e_istore_n (lv' := [(2, .int (iI ((-1)))), (0, e_rv B (x0)), (1, .int (iI (x1)))]) hx hb dX13_goesState_1 rfl hl (by decide) rfl (fun ls hl => ?_)
  refine e_aload_n (B := B) (x := x0) hx hb dX13_goesState_2 rfl (hl.at 1 rfl) ?_
  obtain ⟨v3, h3, hsh⟩ := Option.bind_eq_some_iff.mp hsh
  refine e_getR (k := 28) hx hb hts in_X13 hown hp h3 rfl (by decide) (by decide) rfl (hts _ kf13_63) rfl dX13_goesState_3 ?_
  refine lv_iload_n hx hb dX13_goesState_6 rfl (hl.at 2 rfl) ?_
  obtain ⟨v7, h7, hsh⟩ := Option.bind_eq_some_iff.mp hsh
  refine e_iald hx hb hp h7 dX13_goesState_7 ?_
  refine e_istore_n (lv' := [(3, .int (iI (v7))), (2, .int (iI ((-1)))), (0, e_rv B (x0)), (1, .int (iI (x1)))]) hx hb dX13_goesState_8 rfl hl (by decide) rfl (fun ls hl => ?_)
  refine e_aload_n (B := B) (x := x0) hx hb dX13_goesState_9 rfl (hl.at 2 rfl) ?_
  obtain ⟨v10, h10, hsh⟩ := Option.bind_eq_some_iff.mp hsh
  refine e_getI (k := 2) hx hb hts in_X13 hown hp h10 rfl (by decide) (by decide) rfl (hts _ kf13_13) rfl dX13_goesState_10 ?_
  refine lv_iload_n hx hb dX13_goesState_13 rfl (hl.at 0 rfl) ?_
  obtain ⟨⟨v14, S14⟩, h14, hsh⟩ := Option.bind_eq_some_iff.mp hsh
  have hsh : _ = _ := hsh
  try dsimp only at hsh
  refine e_callS (nL := 6) (mc := 0) (ms := 0) (As := [.int (iI (v10)), .int (iI (v7))]) (rest := []) hx hb hml hown hts hp hS hl.size (c13_lesser l D cA B S S14 (v10) (v7) v14 h14) rfl rfl kd13_lesser (kl13_257) ks13_lesser ki13 kh13_lesser ⟨Nat.le_of_ble_eq_true rfl, Nat.le_of_ble_eq_true rfl⟩ rfl (by simp [e_rv_cat, e_int_cat]) ⟨Nat.le_refl _, Nat.le_refl _⟩ dX13_goesState_14 rfl (fun H locs hp hS => ?_)
  refine lv_iconst (v := iI (1)) hx hb dX13_goesState_17 rfl ?_
  refine e_isub hx hb dX13_goesState_18 ?_
  refine e_istore (lv' := [(4, .int (iI ((v14 - 1)))), (3, .int (iI (v7))), (2, .int (iI ((-1)))), (0, e_rv B (x0)), (1, .int (iI (x1)))]) hx hb dX13_goesState_19 hl (by decide) rfl (fun ls hl => ?_)
  exact w13_goesState_l21 E 1000000 hp hS (hl.sub [3, 4, 2, 1, 0] rfl) hsh
theorem ok13_goesStates {S : HP} {x0 : Int} {x1 : Int} {x2 : Int} {r : Int × HP} (h : s13_goesStates S x0 x1 x2 = some r) : 0 ≤ x0 ∧ x0.toNat < e_n S ∧ e_g S x0.toNat = 13 := (gd_some h).1
set_option maxRecDepth 100000 in
set_option maxHeartbeats 4000000 in
theorem w13_goesStates_b97 {p : Program} {l : Launch} {e : Env} {s : State} {m : MethodId} {args : Array Value} {below : List Frame} {meth : Method} {c : Code} {D : va_G} {cA : Nat → ClassId} {B : Nat} {res : Int × HP} (E : e_En p s m args meth c cX13_goesStates RX13 5 (some .boolean)) {ls : Array Slot} {H : Heap} {locs : List Loc} {S : HP} (hp : e_Pic D cA B S s H) (hS : va_S (e_A B) s.heap H locs) (hl : e_lo ls 5 []) (hsh : s13_goesStates_b97 S  = some res) : W p l e ({ frames := 4, cells := 0, slots := 0, locals := 95 } : Room) s m args below meth c H locs 0 0 (MQ below (e_Qi D cA B res.1 res.2) args s 0 0 (e_A B)) (F0 m 97 ls []) := by
  obtain ⟨hx, hb, hml, hown, hts, hlk, hrt⟩ := id E
  unfold s13_goesStates_b97 at hsh
  refine lv_iconst (v := iI (0)) hx hb dX13_goesStates_97 rfl ?_
  obtain ⟨hz, hz1, hz2⟩ := zR_some hsh
  rw [← hz1, ← hz2]
  exact e_zret hx hb hrt hlk hp hS hz dX13_goesStates_98
set_option maxRecDepth 100000 in
set_option maxHeartbeats 4000000 in
theorem w13_goesStates_b85 {p : Program} {l : Launch} {e : Env} {s : State} {m : MethodId} {args : Array Value} {below : List Frame} {meth : Method} {c : Code} {D : va_G} {cA : Nat → ClassId} {B : Nat} {res : Int × HP} (E : e_En p s m args meth c cX13_goesStates RX13 5 (some .boolean)) {ls : Array Slot} {H : Heap} {locs : List Loc} {S : HP} {x0 : Int} {x3 : Int} (hp : e_Pic D cA B S s H) (hS : va_S (e_A B) s.heap H locs) (hl : e_lo ls 5 [(0, e_rv B (x0)), (3, .int (iI (x3)))]) (hsh : s13_goesStates_b85 S x0 x3 = some res) : W p l e ({ frames := 4, cells := 0, slots := 0, locals := 95 } : Room) s m args below meth c H locs 0 0 (MQ below (e_Qi D cA B res.1 res.2) args s 0 0 (e_A B)) (F0 m 85 ls []) := by
  obtain ⟨hx, hb, hml, hown, hts, hlk, hrt⟩ := id E
  unfold s13_goesStates_b85 at hsh
  refine lv_iload_n hx hb dX13_goesStates_85 rfl (hl.at 1 rfl) ?_
  refine lv_iconst (v := iI (-1)) hx hb dX13_goesStates_86 rfl ?_
  refine e_icmp_eq (tgt := 97) hx hb dX13_goesStates_87 (by decide) (fun c87 => ?_) (fun c87 => ?_)
  · rw [if_pos c87] at hsh
    exact w13_goesStates_b97 E hp hS (hl.sub [] rfl) hsh
  · rw [if_neg c87] at hsh
    refine e_aload_n (B := B) (x := x0) hx hb dX13_goesStates_90 rfl (hl.at 0 rfl) ?_
    obtain ⟨⟨v91, S91⟩, h91, hsh⟩ := Option.bind_eq_some_iff.mp hsh
    have hsh : _ = _ := hsh
    try dsimp only at hsh
    have ok91 := ok13_isPlaying h91
    refine e_callI (nL := 5) (mc := 0) (ms := 0) (T := TX13) (N := 126) (As := []) (rest := []) hx hb hml hown hts hp hS hl.size ok91.1 ok91.2.1 ok91.2.2 rfl (by decide) (c13_isPlaying l D cA B S S91 (x0) v91 h91) rfl rfl kd13_isPlaying (kl13_581) ks13_isPlaying kv13_isPlaying ki13 kh13_isPlaying ⟨Nat.le_of_ble_eq_true rfl, Nat.le_of_ble_eq_true rfl⟩ rfl (by simp [e_rv_cat, e_int_cat]) ⟨Nat.le_refl _, Nat.le_refl _⟩ dX13_goesStates_91 rfl (fun H locs hp hS => ?_)
    refine e_if_eq (tgt := 99) hx hb dX13_goesStates_94 (by decide) (fun c94 => ?_) (fun c94 => ?_)
    · rw [if_pos c94] at hsh
      refine e_aload_n (B := B) (x := x0) hx hb dX13_goesStates_99 rfl (hl.at 0 rfl) ?_
      refine lv_iload_n hx hb dX13_goesStates_100 rfl (hl.at 1 rfl) ?_
      obtain ⟨S101, h101, hsh⟩ := Option.bind_eq_some_iff.mp hsh
      have ok101 := ok13_goesState h101
      refine e_callV (nL := 5) (mc := 0) (ms := 0) (T := TX13) (N := 126) (As := [.int (iI (x3))]) (rest := []) hx hb hml hown hts hp hS hl.size ok101.1 ok101.2.1 ok101.2.2 rfl (by decide) (c13_goesState l D cA B S91 S101 (x0) (x3) h101) rfl rfl kd13_goesState (kl13_584) ks13_goesState kv13_goesState ki13 kh13_goesState ⟨Nat.le_of_ble_eq_true rfl, Nat.le_of_ble_eq_true rfl⟩ rfl (by simp [e_rv_cat, e_int_cat]) ⟨Nat.le_refl _, Nat.le_refl _⟩ dX13_goesStates_101 rfl (fun H locs hp hS => ?_)
      refine lv_iconst (v := iI (1)) hx hb dX13_goesStates_104 rfl ?_
      obtain ⟨hz, hz1, hz2⟩ := zR_some hsh
      rw [← hz1, ← hz2]
      exact e_zret hx hb hrt hlk hp hS hz dX13_goesStates_105
    · rw [if_neg c94] at hsh
      exact w13_goesStates_b97 E hp hS (hl.sub [] rfl) hsh
set_option maxRecDepth 100000 in
set_option maxHeartbeats 4000000 in
theorem w13_goesStates_b78 {p : Program} {l : Launch} {e : Env} {s : State} {m : MethodId} {args : Array Value} {below : List Frame} {meth : Method} {c : Code} {D : va_G} {cA : Nat → ClassId} {B : Nat} {res : Int × HP} {k8 : HP → Int → Int → Int → Int → Int → Option (Int × HP)} (hk8 : ∀ {ls : Array Slot} {H : Heap} {locs : List Loc} {S : HP} {x0 : Int} {x1 : Int} {x2 : Int} {x3 : Int} {x4 : Int} (hp : e_Pic D cA B S s H) (hS : va_S (e_A B) s.heap H locs) (hl : e_lo ls 5 [(0, e_rv B (x0)), (1, .int (iI (x1))), (2, .int (iI (x2))), (3, .int (iI (x3))), (4, .int (iI (x4)))]) (hsh : k8 S x0 x1 x2 x3 x4 = some res), W p l e ({ frames := 4, cells := 0, slots := 0, locals := 95 } : Room) s m args below meth c H locs 0 0 (MQ below (e_Qi D cA B res.1 res.2) args s 0 0 (e_A B)) (F0 m 8 ls [])) (E : e_En p s m args meth c cX13_goesStates RX13 5 (some .boolean)) {ls : Array Slot} {H : Heap} {locs : List Loc} {S : HP} {x0 : Int} {x1 : Int} {x2 : Int} {x4 : Int} {y0 : Int} (hp : e_Pic D cA B S s H) (hS : va_S (e_A B) s.heap H locs) (hl : e_lo ls 5 [(0, e_rv B (x0)), (1, .int (iI (x1))), (2, .int (iI (x2))), (4, .int (iI (x4)))]) (hsh : s13_goesStates_b78 k8 S x0 x1 x2 x4 y0 = some res) : W p l e ({ frames := 4, cells := 0, slots := 0, locals := 95 } : Room) s m args below meth c H locs 0 0 (MQ below (e_Qi D cA B res.1 res.2) args s 0 0 (e_A B)) (F0 m 78 ls [.int (iI (y0))]) := by
  obtain ⟨hx, hb, hml, hown, hts, hlk, hrt⟩ := id E
  unfold s13_goesStates_b78 at hsh
  refine e_istore_n (lv' := [(3, .int (iI (y0))), (0, e_rv B (x0)), (1, .int (iI (x1))), (2, .int (iI (x2))), (4, .int (iI (x4)))]) hx hb dX13_goesStates_78 rfl hl (by decide) rfl (fun ls hl => ?_)
  refine e_iinc (n := 1) (x := x4) (lv' := [(4, .int (iI ((x4 + 1)))), (3, .int (iI (y0))), (0, e_rv B (x0)), (1, .int (iI (x1))), (2, .int (iI (x2)))]) hx hb dX13_goesStates_79 hl (k := 4) rfl (by decide) rfl (fun ls hl => ?_)
  refine lv_goto (tgt := 8) hx hb dX13_goesStates_82 (by decide) ?_
  exact hk8 hp hS (hl.sub [2, 3, 4, 1, 0] rfl) hsh
set_option maxRecDepth 100000 in
set_option maxHeartbeats 4000000 in
theorem w13_goesStates_l8 {p : Program} {l : Launch} {e : Env} {s : State} {m : MethodId} {args : Array Value} {below : List Frame} {meth : Method} {c : Code} {D : va_G} {cA : Nat → ClassId} {B : Nat} {res : Int × HP} (E : e_En p s m args meth c cX13_goesStates RX13 5 (some .boolean)) : ∀ (f : Nat) {ls : Array Slot} {H : Heap} {locs : List Loc} {S : HP} {x0 : Int} {x1 : Int} {x2 : Int} {x3 : Int} {x4 : Int} (hp : e_Pic D cA B S s H) (hS : va_S (e_A B) s.heap H locs) (hl : e_lo ls 5 [(0, e_rv B (x0)), (1, .int (iI (x1))), (2, .int (iI (x2))), (3, .int (iI (x3))), (4, .int (iI (x4)))]) (hsh : s13_goesStates_l8 f S x0 x1 x2 x3 x4 = some res), W p l e ({ frames := 4, cells := 0, slots := 0, locals := 95 } : Room) s m args below meth c H locs 0 0 (MQ below (e_Qi D cA B res.1 res.2) args s 0 0 (e_A B)) (F0 m 8 ls []) := by
  obtain ⟨hx, hb, hml, hown, hts, hlk, hrt⟩ := id E
  intro f
  induction f with
  | zero => intro ls H locs S x0 x1 x2 x3 x4 hp hS hl hsh; cases hsh
  | succ f ih =>
    intro ls H locs S x0 x1 x2 x3 x4 hp hS hl hsh
    have hk8 : ∀ {ls : Array Slot} {H : Heap} {locs : List Loc} {S : HP} {x0 : Int} {x1 : Int} {x2 : Int} {x3 : Int} {x4 : Int} (hp : e_Pic D cA B S s H) (hS : va_S (e_A B) s.heap H locs) (hl : e_lo ls 5 [(0, e_rv B (x0)), (1, .int (iI (x1))), (2, .int (iI (x2))), (3, .int (iI (x3))), (4, .int (iI (x4)))]) (hsh : (s13_goesStates_l8 f) S x0 x1 x2 x3 x4 = some res), W p l e ({ frames := 4, cells := 0, slots := 0, locals := 95 } : Room) s m args below meth c H locs 0 0 (MQ below (e_Qi D cA B res.1 res.2) args s 0 0 (e_A B)) (F0 m 8 ls []) := ih
    generalize hkk : s13_goesStates_l8 f = k8 at hk8
    rw [s13_goesStates_l8] at hsh
    rw [hkk] at hsh
    try dsimp only at hsh
    refine lv_iload hx hb dX13_goesStates_8 (hl.at 4 rfl) ?_
    refine lv_iload_n hx hb dX13_goesStates_10 rfl (hl.at 2 rfl) ?_
    refine e_icmp_ge (tgt := 85) hx hb dX13_goesStates_11 (by decide) (fun c11 => ?_) (fun c11 => ?_)
    · rw [if_pos c11] at hsh
      exact w13_goesStates_b85 E hp hS (hl.sub [0, 3] rfl) hsh
    · rw [if_neg c11] at hsh
      refine lv_iload_n hx hb dX13_goesStates_14 rfl (hl.at 3 rfl) ?_
      refine lv_iconst (v := iI (-1)) hx hb dX13_goesStates_15 rfl ?_
      refine e_icmp_eq (tgt := 85) hx hb dX13_goesStates_16 (by decide) (fun c16 => ?_) (fun c16 => ?_)
      · rw [if_pos c16] at hsh
        exact w13_goesStates_b85 E hp hS (hl.sub [0, 3] rfl) hsh
      · rw [if_neg c16] at hsh
        refine lv_iload_n hx hb dX13_goesStates_19 rfl (hl.at 1 rfl) ?_
        refine lv_bipush (v := iI (117)) hx hb dX13_goesStates_20 (by decide +kernel) ?_
        refine e_icmp_ne (tgt := 34) hx hb dX13_goesStates_22 (by decide) (fun c22 => ?_) (fun c22 => ?_)
        · rw [if_neg c22] at hsh
          refine lv_iload_n hx hb dX13_goesStates_34 rfl (hl.at 1 rfl) ?_
          refine lv_bipush (v := iI (18)) hx hb dX13_goesStates_35 (by decide +kernel) ?_
          refine e_icmp_ne (tgt := 48) hx hb dX13_goesStates_37 (by decide) (fun c37 => ?_) (fun c37 => ?_)
          · rw [if_neg c37] at hsh
            refine lv_iload_n hx hb dX13_goesStates_48 rfl (hl.at 1 rfl) ?_
            refine lv_sipush (v := iI (301)) hx hb dX13_goesStates_49 (by decide +kernel) ?_
            refine e_icmp_ne (tgt := 61) hx hb dX13_goesStates_52 (by decide) (fun c52 => ?_) (fun c52 => ?_)
            · rw [if_neg c52] at hsh
              refine lv_iload_n hx hb dX13_goesStates_61 rfl (hl.at 3 rfl) ?_
              refine lv_iconst (v := iI (1)) hx hb dX13_goesStates_62 rfl ?_
              refine e_iadd hx hb dX13_goesStates_63 ?_
              refine e_aload_n (B := B) (x := x0) hx hb dX13_goesStates_64 rfl (hl.at 0 rfl) ?_
              obtain ⟨v65, h65, hsh⟩ := Option.bind_eq_some_iff.mp hsh
              refine e_getI (k := 26) hx hb hts in_X13 hown hp h65 rfl (by decide) (by decide) rfl (hts _ kf13_60) rfl dX13_goesStates_65 ?_
              refine e_icmp_ge (tgt := 77) hx hb dX13_goesStates_68 (by decide) (fun c68 => ?_) (fun c68 => ?_)
              · rw [if_pos c68] at hsh
                refine lv_iconst (v := iI (-1)) hx hb dX13_goesStates_77 rfl ?_
                exact w13_goesStates_b78 (hk8 := hk8) E hp hS (hl.sub [0, 1, 2, 4] rfl) hsh
              · rw [if_neg c68] at hsh
                refine lv_iload_n hx hb dX13_goesStates_71 rfl (hl.at 3 rfl) ?_
                refine lv_iconst (v := iI (1)) hx hb dX13_goesStates_72 rfl ?_
                refine e_iadd hx hb dX13_goesStates_73 ?_
                refine lv_goto (tgt := 78) hx hb dX13_goesStates_74 (by decide) ?_
                exact w13_goesStates_b78 (hk8 := hk8) E hp hS (hl.sub [0, 1, 2, 4] rfl) hsh
            · rw [if_pos c52] at hsh
              refine lv_iload_n hx hb dX13_goesStates_55 rfl (hl.at 3 rfl) ?_
              refine lv_iconst (v := iI (1)) hx hb dX13_goesStates_56 rfl ?_
              refine e_isub hx hb dX13_goesStates_57 ?_
              refine lv_goto (tgt := 78) hx hb dX13_goesStates_58 (by decide) ?_
              exact w13_goesStates_b78 (hk8 := hk8) E hp hS (hl.sub [0, 1, 2, 4] rfl) hsh
          · rw [if_pos c37] at hsh
            refine e_aload_n (B := B) (x := x0) hx hb dX13_goesStates_40 rfl (hl.at 0 rfl) ?_
            refine lv_iload_n hx hb dX13_goesStates_41 rfl (hl.at 3 rfl) ?_
            obtain ⟨⟨v42, S42⟩, h42, hsh⟩ := Option.bind_eq_some_iff.mp hsh
            have hsh : _ = _ := hsh
            try dsimp only at hsh
            have ok42 := ok13_latestFrom h42
            refine e_callI (nL := 5) (mc := 0) (ms := 0) (T := TX13) (N := 126) (As := [.int (iI (x3))]) (rest := []) hx hb hml hown hts hp hS hl.size ok42.1 ok42.2.1 ok42.2.2 rfl (by decide) (c13_latestFrom l D cA B S S42 (x0) (x3) v42 h42) rfl rfl kd13_latestFrom (kl13_578) ks13_latestFrom kv13_latestFrom ki13 kh13_latestFrom ⟨Nat.le_of_ble_eq_true rfl, Nat.le_of_ble_eq_true rfl⟩ rfl (by simp [e_rv_cat, e_int_cat]) ⟨Nat.le_refl _, Nat.le_refl _⟩ dX13_goesStates_42 rfl (fun H locs hp hS => ?_)
            refine lv_goto (tgt := 78) hx hb dX13_goesStates_45 (by decide) ?_
            exact w13_goesStates_b78 (hk8 := hk8) E hp hS (hl.sub [0, 1, 2, 4] rfl) hsh
        · rw [if_pos c22] at hsh
          refine e_aload_n (B := B) (x := x0) hx hb dX13_goesStates_25 rfl (hl.at 0 rfl) ?_
          obtain ⟨v26, h26, hsh⟩ := Option.bind_eq_some_iff.mp hsh
          refine e_getR (k := 31) hx hb hts in_X13 hown hp h26 rfl (by decide) (by decide) rfl (hts _ kf13_73) rfl dX13_goesStates_26 ?_
          refine lv_iload_n hx hb dX13_goesStates_29 rfl (hl.at 3 rfl) ?_
          obtain ⟨v30, h30, hsh⟩ := Option.bind_eq_some_iff.mp hsh
          refine e_iald hx hb hp h30 dX13_goesStates_30 ?_
          refine lv_goto (tgt := 78) hx hb dX13_goesStates_31 (by decide) ?_
          exact w13_goesStates_b78 (hk8 := hk8) E hp hS (hl.sub [0, 1, 2, 4] rfl) hsh
set_option maxRecDepth 100000 in
set_option maxHeartbeats 4000000 in
theorem c13_goesStates (l : Launch) (D : va_G) (cA : Nat → ClassId) (B : Nat) (S S' : HP) (x0 : Int) (x1 : Int) (x2 : Int) (r : Int) (hsh : s13_goesStates S x0 x1 x2 = some (r, S')) : Met l yX13_goesStates (e_wu yX13_goesStates cX13_goesStates 5 (some .boolean)) ({ frames := 4, cells := 0, slots := 0, locals := 95 } : Room) (va_Pc [e_rv B (x0), .int (iI (x1)), .int (iI (x2))] (fun U => e_PU D cA B S U)) (e_Qi D cA B r S') 0 0 (e_A B) := by
  refine Met.ofW (cc := cX13_goesStates) (maxL := 5) (ret := (some .boolean)) (by decide +kernel) rfl ?_
  intro p e s m args below meth c s₁ Bd hml hv
  obtain ⟨rfl, hp⟩ := hv
  have hp : e_Pic D cA B S s s.heap := hp
  have hx := Bd.exec
  have hb := Bd.bytes
  have hrt := Bd.returns
  have hlk := Bd.notSynchronized
  have hown : s.vm.findClass RX13 = some m.cls := findClass_of_methodNamed Bd.named
  have hts : ∀ w ∈ e_tb, w.before ([e_rv B (x0), .int (iI (x1)), .int (iI (x2))] : List Value).toArray s = true := fun w h => atoms_spec (ws := (e_wu yX13_goesStates cX13_goesStates 5 (some .boolean))) Bd.pre w (List.mem_cons_of_mem _ h)
  have E : e_En p s m ([e_rv B (x0), .int (iI (x1)), .int (iI (x2))] : List Value).toArray meth c cX13_goesStates RX13 5 (some .boolean) := ⟨hx, hb, hml, hown, hts, hlk, hrt⟩
  have hS : va_S (e_A B) s.heap s.heap [] := va_S.rf
  have hl := e_entry (vs := [e_rv B (x0), .int (iI (x1)), .int (iI (x2))]) (n := 5) (Nat.le_of_ble_eq_true rfl) (e_cc (e_rv_cat _ _) (e_cc rfl (e_cc rfl e_cn)))
  rw [lg_entry_eq]
  generalize (lg_sl [e_rv B (x0), .int (iI (x1)), .int (iI (x2))] ++ List.replicate (5 - (lg_sl [e_rv B (x0), .int (iI (x1)), .int (iI (x2))]).length) Slot.unset).toArray = ls at hl ⊢
  generalize ([e_rv B (x0), .int (iI (x1)), .int (iI (x2))] : List Value).toArray = args at hts E ⊢
  have hl : e_lo ls 5 [(0, e_rv B (x0)), (1, .int (iI (x1))), (2, .int (iI (x2)))] := hl
  have hsh := (gd_some hsh).2
  refine e_aload_n (B := B) (x := x0) hx hb dX13_goesStates_0 rfl (hl.at 0 rfl) ?_
  obtain ⟨v1, h1, hsh⟩ := Option.bind_eq_some_iff.mp hsh
  refine e_getI (k := 27) hx hb hts in_X13 hown hp h1 rfl (by decide) (by decide) rfl (hts _ kf13_572) rfl dX13_goesStates_1 ?_
  refine e_istore_n (lv' := [(3, .int (iI (v1))), (0, e_rv B (x0)), (1, .int (iI (x1))), (2, .int (iI (x2)))]) hx hb dX13_goesStates_4 rfl hl (by decide) rfl (fun ls hl => ?_)
  refine lv_iconst (v := iI (0)) hx hb dX13_goesStates_5 rfl ?_
  refine e_istore (lv' := [(4, .int (iI (0))), (3, .int (iI (v1))), (0, e_rv B (x0)), (1, .int (iI (x1))), (2, .int (iI (x2)))]) hx hb dX13_goesStates_6 hl (by decide) rfl (fun ls hl => ?_)
  exact w13_goesStates_l8 E 1000000 hp hS (hl.sub [2, 3, 4, 1, 0] rfl) hsh
theorem ok13_goesOlder {S : HP} {x0 : Int} {x1 : Int} {r : Int × HP} (h : s13_goesOlder S x0 x1 = some r) : 0 ≤ x0 ∧ x0.toNat < e_n S ∧ e_g S x0.toNat = 13 := (gd_some h).1
set_option maxRecDepth 100000 in
set_option maxHeartbeats 4000000 in
theorem w13_goesOlder_b50 {p : Program} {l : Launch} {e : Env} {s : State} {m : MethodId} {args : Array Value} {below : List Frame} {meth : Method} {c : Code} {D : va_G} {cA : Nat → ClassId} {B : Nat} {res : Int × HP} {k23 : HP → Int → Int → Int → Int → Option (Int × HP)} (hk23 : ∀ {ls : Array Slot} {H : Heap} {locs : List Loc} {S : HP} {x0 : Int} {x1 : Int} {x2 : Int} {x3 : Int} (hp : e_Pic D cA B S s H) (hS : va_S (e_A B) s.heap H locs) (hl : e_lo ls 4 [(0, e_rv B (x0)), (1, .int (iI (x1))), (2, .int (iI (x2))), (3, .int (iI (x3)))]) (hsh : k23 S x0 x1 x2 x3 = some res), W p l e ({ frames := 3, cells := 0, slots := 0, locals := 65 } : Room) s m args below meth c H locs 0 0 (MQ below (e_Qi D cA B res.1 res.2) args s 0 0 (e_A B)) (F0 m 23 ls [])) (E : e_En p s m args meth c cX13_goesOlder RX13 4 (some .boolean)) {ls : Array Slot} {H : Heap} {locs : List Loc} {S : HP} {x0 : Int} {x1 : Int} {x3 : Int} {y0 : Int} {y1 : Int} (hp : e_Pic D cA B S s H) (hS : va_S (e_A B) s.heap H locs) (hl : e_lo ls 4 [(0, e_rv B (x0)), (1, .int (iI (x1))), (3, .int (iI (x3)))]) (hsh : s13_goesOlder_b50 k23 S x0 x1 x3 y0 y1 = some res) : W p l e ({ frames := 3, cells := 0, slots := 0, locals := 65 } : Room) s m args below meth c H locs 0 0 (MQ below (e_Qi D cA B res.1 res.2) args s 0 0 (e_A B)) (F0 m 50 ls [.int (iI (y1)), .int (iI (y0))]) := by
  obtain ⟨hx, hb, hml, hown, hts, hlk, hrt⟩ := id E
  unfold s13_goesOlder_b50 at hsh
  refine e_iadd hx hb dX13_goesOlder_50 ?_
  refine e_istore_n (lv' := [(2, .int (iI ((y0 + y1)))), (0, e_rv B (x0)), (1, .int (iI (x1))), (3, .int (iI (x3)))]) hx hb dX13_goesOlder_51 rfl hl (by decide) rfl (fun ls hl => ?_)
  refine e_iinc (n := 1) (x := x3) (lv' := [(3, .int (iI ((x3 + 1)))), (2, .int (iI ((y0 + y1)))), (0, e_rv B (x0)), (1, .int (iI (x1)))]) hx hb dX13_goesOlder_52 hl (k := 3) rfl (by decide) rfl (fun ls hl => ?_)
  refine lv_goto (tgt := 23) hx hb dX13_goesOlder_55 (by decide) ?_
  exact hk23 hp hS (hl.sub [2, 3, 1, 0] rfl) hsh
set_option maxRecDepth 100000 in
set_option maxHeartbeats 4000000 in
theorem w13_goesOlder_l23 {p : Program} {l : Launch} {e : Env} {s : State} {m : MethodId} {args : Array Value} {below : List Frame} {meth : Method} {c : Code} {D : va_G} {cA : Nat → ClassId} {B : Nat} {res : Int × HP} (E : e_En p s m args meth c cX13_goesOlder RX13 4 (some .boolean)) : ∀ (f : Nat) {ls : Array Slot} {H : Heap} {locs : List Loc} {S : HP} {x0 : Int} {x1 : Int} {x2 : Int} {x3 : Int} (hp : e_Pic D cA B S s H) (hS : va_S (e_A B) s.heap H locs) (hl : e_lo ls 4 [(0, e_rv B (x0)), (1, .int (iI (x1))), (2, .int (iI (x2))), (3, .int (iI (x3)))]) (hsh : s13_goesOlder_l23 f S x0 x1 x2 x3 = some res), W p l e ({ frames := 3, cells := 0, slots := 0, locals := 65 } : Room) s m args below meth c H locs 0 0 (MQ below (e_Qi D cA B res.1 res.2) args s 0 0 (e_A B)) (F0 m 23 ls []) := by
  obtain ⟨hx, hb, hml, hown, hts, hlk, hrt⟩ := id E
  intro f
  induction f with
  | zero => intro ls H locs S x0 x1 x2 x3 hp hS hl hsh; cases hsh
  | succ f ih =>
    intro ls H locs S x0 x1 x2 x3 hp hS hl hsh
    have hk23 : ∀ {ls : Array Slot} {H : Heap} {locs : List Loc} {S : HP} {x0 : Int} {x1 : Int} {x2 : Int} {x3 : Int} (hp : e_Pic D cA B S s H) (hS : va_S (e_A B) s.heap H locs) (hl : e_lo ls 4 [(0, e_rv B (x0)), (1, .int (iI (x1))), (2, .int (iI (x2))), (3, .int (iI (x3)))]) (hsh : (s13_goesOlder_l23 f) S x0 x1 x2 x3 = some res), W p l e ({ frames := 3, cells := 0, slots := 0, locals := 65 } : Room) s m args below meth c H locs 0 0 (MQ below (e_Qi D cA B res.1 res.2) args s 0 0 (e_A B)) (F0 m 23 ls []) := ih
    generalize hkk : s13_goesOlder_l23 f = k23 at hk23
    rw [s13_goesOlder_l23] at hsh
    rw [hkk] at hsh
    try dsimp only at hsh
    refine lv_iload_n hx hb dX13_goesOlder_23 rfl (hl.at 3 rfl) ?_
    refine e_aload_n (B := B) (x := x0) hx hb dX13_goesOlder_24 rfl (hl.at 0 rfl) ?_
    obtain ⟨v25, h25, hsh⟩ := Option.bind_eq_some_iff.mp hsh
    refine e_getI (k := 16) hx hb hts in_X13 hown hp h25 rfl (by decide) (by decide) rfl (hts _ kf13_234) rfl dX13_goesOlder_25 ?_
    refine e_icmp_ge (tgt := 58) hx hb dX13_goesOlder_28 (by decide) (fun c28 => ?_) (fun c28 => ?_)
    · rw [if_pos c28] at hsh
      refine lv_iload_n hx hb dX13_goesOlder_58 rfl (hl.at 2 rfl) ?_
      refine lv_bipush (v := iI (9)) hx hb dX13_goesOlder_59 (by decide +kernel) ?_
      obtain ⟨⟨v61, S61⟩, h61, hsh⟩ := Option.bind_eq_some_iff.mp hsh
      have hsh : _ = _ := hsh
      try dsimp only at hsh
      refine e_callS (nL := 4) (mc := 0) (ms := 0) (As := [.int (iI (x2)), .int (iI (9))]) (rest := []) hx hb hml hown hts hp hS hl.size (c13_lesser l D cA B S S61 (x2) (9) v61 h61) rfl rfl kd13_lesser (kl13_257) ks13_lesser ki13 kh13_lesser ⟨Nat.le_of_ble_eq_true rfl, Nat.le_of_ble_eq_true rfl⟩ rfl (by simp [e_rv_cat, e_int_cat]) ⟨Nat.le_refl _, Nat.le_refl _⟩ dX13_goesOlder_61 rfl (fun H locs hp hS => ?_)
      refine lv_iload_n hx hb dX13_goesOlder_64 rfl (hl.at 1 rfl) ?_
      refine e_icmp_ge (tgt := 70) hx hb dX13_goesOlder_65 (by decide) (fun c65 => ?_) (fun c65 => ?_)
      · rw [if_pos c65] at hsh
        refine e_aload_n (B := B) (x := x0) hx hb dX13_goesOlder_70 rfl (hl.at 0 rfl) ?_
        refine e_aload_n (B := B) (x := x0) hx hb dX13_goesOlder_71 rfl (hl.at 0 rfl) ?_
        obtain ⟨v72, h72, hsh⟩ := Option.bind_eq_some_iff.mp hsh
        refine e_getI (k := 5) hx hb hts in_X13 hown hp h72 rfl (by decide) (by decide) rfl (hts _ kf13_213) rfl dX13_goesOlder_72 ?_
        refine e_aload_n (B := B) (x := x0) hx hb dX13_goesOlder_75 rfl (hl.at 0 rfl) ?_
        obtain ⟨v76, h76, hsh⟩ := Option.bind_eq_some_iff.mp hsh
        refine e_getI (k := 6) hx hb hts in_X13 hown hp h76 rfl (by decide) (by decide) rfl (hts _ kf13_216) rfl dX13_goesOlder_76 ?_
        obtain ⟨S79, h79, hsh⟩ := Option.bind_eq_some_iff.mp hsh
        have ok79 := ok13_keepsJump h79
        refine e_callV (nL := 4) (mc := 0) (ms := 0) (T := TX13) (N := 126) (As := [.int (iI (v72)), .int (iI (v76))]) (rest := []) hx hb hml hown hts hp hS hl.size ok79.1 ok79.2.1 ok79.2.2 rfl (by decide) (c13_keepsJump l D cA B S61 S79 (x0) (v72) (v76) h79) rfl rfl kd13_keepsJump (kl13_590) ks13_keepsJump kv13_keepsJump ki13 kh13_keepsJump ⟨Nat.le_of_ble_eq_true rfl, Nat.le_of_ble_eq_true rfl⟩ rfl (by simp [e_rv_cat, e_int_cat]) ⟨Nat.le_refl _, Nat.le_refl _⟩ dX13_goesOlder_79 rfl (fun H locs hp hS => ?_)
        refine e_aload_n (B := B) (x := x0) hx hb dX13_goesOlder_82 rfl (hl.at 0 rfl) ?_
        refine e_aload_n (B := B) (x := x0) hx hb dX13_goesOlder_83 rfl (hl.at 0 rfl) ?_
        obtain ⟨v84, h84, hsh⟩ := Option.bind_eq_some_iff.mp hsh
        refine e_getI (k := 16) hx hb hts in_X13 hown hp h84 rfl (by decide) (by decide) rfl (hts _ kf13_234) rfl dX13_goesOlder_84 ?_
        refine lv_iconst (v := iI (1)) hx hb dX13_goesOlder_87 rfl ?_
        refine e_isub hx hb dX13_goesOlder_88 ?_
        refine lv_iload_n hx hb dX13_goesOlder_89 rfl (hl.at 1 rfl) ?_
        refine e_isub hx hb dX13_goesOlder_90 ?_
        obtain ⟨⟨v91, S91⟩, h91, hsh⟩ := Option.bind_eq_some_iff.mp hsh
        have hsh : _ = _ := hsh
        try dsimp only at hsh
        have ok91 := ok13_goesJump h91
        refine e_callI (nL := 4) (mc := 0) (ms := 0) (T := TX13) (N := 126) (As := [.int (iI (((v84 - 1) - x1)))]) (rest := []) hx hb hml hown hts hp hS hl.size ok91.1 ok91.2.1 ok91.2.2 rfl (by decide) (c13_goesJump l D cA B S79 S91 (x0) (((v84 - 1) - x1)) v91 h91) rfl rfl kd13_goesJump (kl13_587) ks13_goesJump kv13_goesJump ki13 kh13_goesJump ⟨Nat.le_of_ble_eq_true rfl, Nat.le_of_ble_eq_true rfl⟩ rfl (by simp [e_rv_cat, e_int_cat]) ⟨Nat.le_refl _, Nat.le_refl _⟩ dX13_goesOlder_91 rfl (fun H locs hp hS => ?_)
        obtain ⟨hz, hz1, hz2⟩ := zR_some hsh
        rw [← hz1, ← hz2]
        exact e_zret hx hb hrt hlk hp hS hz dX13_goesOlder_94
      · rw [if_neg c65] at hsh
        refine lv_iconst (v := iI (0)) hx hb dX13_goesOlder_68 rfl ?_
        obtain ⟨hz, hz1, hz2⟩ := zR_some hsh
        rw [← hz1, ← hz2]
        exact e_zret hx hb hrt hlk hp hS hz dX13_goesOlder_69
    · rw [if_neg c28] at hsh
      refine lv_iload_n hx hb dX13_goesOlder_31 rfl (hl.at 2 rfl) ?_
      refine e_aload_n (B := B) (x := x0) hx hb dX13_goesOlder_32 rfl (hl.at 0 rfl) ?_
      obtain ⟨v33, h33, hsh⟩ := Option.bind_eq_some_iff.mp hsh
      refine e_getR (k := 17) hx hb hts in_X13 hown hp h33 rfl (by decide) (by decide) rfl (hts _ kf13_39) rfl dX13_goesOlder_33 ?_
      refine lv_iload_n hx hb dX13_goesOlder_36 rfl (hl.at 3 rfl) ?_
      obtain ⟨v37, h37, hsh⟩ := Option.bind_eq_some_iff.mp hsh
      refine e_iald hx hb hp h37 dX13_goesOlder_37 ?_
      refine e_aload_n (B := B) (x := x0) hx hb dX13_goesOlder_38 rfl (hl.at 0 rfl) ?_
      obtain ⟨v39, h39, hsh⟩ := Option.bind_eq_some_iff.mp hsh
      refine e_getI (k := 5) hx hb hts in_X13 hown hp h39 rfl (by decide) (by decide) rfl (hts _ kf13_213) rfl dX13_goesOlder_39 ?_
      refine e_icmp_ne (tgt := 49) hx hb dX13_goesOlder_42 (by decide) (fun c42 => ?_) (fun c42 => ?_)
      · rw [if_neg c42] at hsh
        refine lv_iconst (v := iI (1)) hx hb dX13_goesOlder_49 rfl ?_
        exact w13_goesOlder_b50 (hk23 := hk23) E hp hS (hl.sub [0, 1, 3] rfl) hsh
      · rw [if_pos c42] at hsh
        refine lv_iconst (v := iI (0)) hx hb dX13_goesOlder_45 rfl ?_
        refine lv_goto (tgt := 50) hx hb dX13_goesOlder_46 (by decide) ?_
        exact w13_goesOlder_b50 (hk23 := hk23) E hp hS (hl.sub [0, 1, 3] rfl) hsh
set_option maxRecDepth 100000 in
set_option maxHeartbeats 4000000 in
theorem c13_goesOlder (l : Launch) (D : va_G) (cA : Nat → ClassId) (B : Nat) (S S' : HP) (x0 : Int) (x1 : Int) (r : Int) (hsh : s13_goesOlder S x0 x1 = some (r, S')) : Met l yX13_goesOlder (e_wu yX13_goesOlder cX13_goesOlder 4 (some .boolean)) ({ frames := 3, cells := 0, slots := 0, locals := 65 } : Room) (va_Pc [e_rv B (x0), .int (iI (x1))] (fun U => e_PU D cA B S U)) (e_Qi D cA B r S') 0 0 (e_A B) := by
  refine Met.ofW (cc := cX13_goesOlder) (maxL := 4) (ret := (some .boolean)) (by decide +kernel) rfl ?_
  intro p e s m args below meth c s₁ Bd hml hv
  obtain ⟨rfl, hp⟩ := hv
  have hp : e_Pic D cA B S s s.heap := hp
  have hx := Bd.exec
  have hb := Bd.bytes
  have hrt := Bd.returns
  have hlk := Bd.notSynchronized
  have hown : s.vm.findClass RX13 = some m.cls := findClass_of_methodNamed Bd.named
  have hts : ∀ w ∈ e_tb, w.before ([e_rv B (x0), .int (iI (x1))] : List Value).toArray s = true := fun w h => atoms_spec (ws := (e_wu yX13_goesOlder cX13_goesOlder 4 (some .boolean))) Bd.pre w (List.mem_cons_of_mem _ h)
  have E : e_En p s m ([e_rv B (x0), .int (iI (x1))] : List Value).toArray meth c cX13_goesOlder RX13 4 (some .boolean) := ⟨hx, hb, hml, hown, hts, hlk, hrt⟩
  have hS : va_S (e_A B) s.heap s.heap [] := va_S.rf
  have hl := e_entry (vs := [e_rv B (x0), .int (iI (x1))]) (n := 4) (Nat.le_of_ble_eq_true rfl) (e_cc (e_rv_cat _ _) (e_cc rfl e_cn))
  rw [lg_entry_eq]
  generalize (lg_sl [e_rv B (x0), .int (iI (x1))] ++ List.replicate (4 - (lg_sl [e_rv B (x0), .int (iI (x1))]).length) Slot.unset).toArray = ls at hl ⊢
  generalize ([e_rv B (x0), .int (iI (x1))] : List Value).toArray = args at hts E ⊢
  have hl : e_lo ls 4 [(0, e_rv B (x0)), (1, .int (iI (x1)))] := hl
  have hsh := (gd_some hsh).2
  refine e_aload_n (B := B) (x := x0) hx hb dX13_goesOlder_0 rfl (hl.at 0 rfl) ?_
  obtain ⟨v1, h1, hsh⟩ := Option.bind_eq_some_iff.mp hsh
  refine e_getI (k := 19) hx hb hts in_X13 hown hp h1 rfl (by decide) (by decide) rfl (hts _ kf13_45) rfl dX13_goesOlder_1 ?_
  refine lv_iconst (v := iI (-1)) hx hb dX13_goesOlder_4 rfl ?_
  refine e_icmp_eq (tgt := 19) hx hb dX13_goesOlder_5 (by decide) (fun c5 => ?_) (fun c5 => ?_)
  · rw [if_pos c5] at hsh
    refine lv_iconst (v := iI (0)) hx hb dX13_goesOlder_19 rfl ?_
    refine e_istore_n (lv' := [(2, .int (iI (0))), (0, e_rv B (x0)), (1, .int (iI (x1)))]) hx hb dX13_goesOlder_20 rfl hl (by decide) rfl (fun ls hl => ?_)
    refine lv_iconst (v := iI (0)) hx hb dX13_goesOlder_21 rfl ?_
    refine e_istore_n (lv' := [(3, .int (iI (0))), (2, .int (iI (0))), (0, e_rv B (x0)), (1, .int (iI (x1)))]) hx hb dX13_goesOlder_22 rfl hl (by decide) rfl (fun ls hl => ?_)
    exact w13_goesOlder_l23 E 1000000 hp hS (hl.sub [2, 3, 1, 0] rfl) hsh
  · rw [if_neg c5] at hsh
    refine e_aload_n (B := B) (x := x0) hx hb dX13_goesOlder_8 rfl (hl.at 0 rfl) ?_
    refine e_aload_n (B := B) (x := x0) hx hb dX13_goesOlder_9 rfl (hl.at 0 rfl) ?_
    obtain ⟨v10, h10, hsh⟩ := Option.bind_eq_some_iff.mp hsh
    refine e_getI (k := 19) hx hb hts in_X13 hown hp h10 rfl (by decide) (by decide) rfl (hts _ kf13_45) rfl dX13_goesOlder_10 ?_
    refine lv_iload_n hx hb dX13_goesOlder_13 rfl (hl.at 1 rfl) ?_
    refine e_isub hx hb dX13_goesOlder_14 ?_
    obtain ⟨⟨v15, S15⟩, h15, hsh⟩ := Option.bind_eq_some_iff.mp hsh
    have hsh : _ = _ := hsh
    try dsimp only at hsh
    have ok15 := ok13_goesJump h15
    refine e_callI (nL := 4) (mc := 0) (ms := 0) (T := TX13) (N := 126) (As := [.int (iI ((v10 - x1)))]) (rest := []) hx hb hml hown hts hp hS hl.size ok15.1 ok15.2.1 ok15.2.2 rfl (by decide) (c13_goesJump l D cA B S S15 (x0) ((v10 - x1)) v15 h15) rfl rfl kd13_goesJump (kl13_587) ks13_goesJump kv13_goesJump ki13 kh13_goesJump ⟨Nat.le_of_ble_eq_true rfl, Nat.le_of_ble_eq_true rfl⟩ rfl (by simp [e_rv_cat, e_int_cat]) ⟨Nat.le_refl _, Nat.le_refl _⟩ dX13_goesOlder_15 rfl (fun H locs hp hS => ?_)
    obtain ⟨hz, hz1, hz2⟩ := zR_some hsh
    rw [← hz1, ← hz2]
    exact e_zret hx hb hrt hlk hp hS hz dX13_goesOlder_18
