theorem ok13_thrown {S : HP} {x0 : Int} {r : Int × HP} (h : s13_thrown S x0 = some r) : 0 ≤ x0 ∧ x0.toNat < e_n S ∧ e_g S x0.toNat = 13 := (gd_some h).1
set_option maxRecDepth 100000 in
set_option maxHeartbeats 4000000 in
theorem c13_thrown (l : Launch) (D : va_G) (cA : Nat → ClassId) (B : Nat) (S S' : HP) (x0 : Int) (r : Int) (hsh : s13_thrown S x0 = some (r, S')) : Met l yX13_thrown (e_wu yX13_thrown cX13_thrown 1 (some .int)) ({ frames := 0, cells := 0, slots := 0, locals := 0 } : Room) (va_Pc [e_rv B (x0)] (fun U => e_PU D cA B S U)) (e_Qi D cA B r S') 0 0 (e_A B) := by
  refine Met.ofW (cc := cX13_thrown) (maxL := 1) (ret := (some .int)) (by decide +kernel) rfl ?_
  intro p e s m args below meth c s₁ Bd hml hv
  obtain ⟨rfl, hp⟩ := hv
  have hp : e_Pic D cA B S s s.heap := hp
  have hx := Bd.exec
  have hb := Bd.bytes
  have hrt := Bd.returns
  have hlk := Bd.notSynchronized
  have hown : s.vm.findClass RX13 = some m.cls := findClass_of_methodNamed Bd.named
  have hts : ∀ w ∈ e_tb, w.before ([e_rv B (x0)] : List Value).toArray s = true := fun w h => atoms_spec (ws := (e_wu yX13_thrown cX13_thrown 1 (some .int))) Bd.pre w (List.mem_cons_of_mem _ h)
  have E : e_En p s m ([e_rv B (x0)] : List Value).toArray meth c cX13_thrown RX13 1 (some .int) := ⟨hx, hb, hml, hown, hts, hlk, hrt⟩
  have hS : va_S (e_A B) s.heap s.heap [] := va_S.rf
  have hl := e_entry (vs := [e_rv B (x0)]) (n := 1) (Nat.le_of_ble_eq_true rfl) (e_cc (e_rv_cat _ _) e_cn)
  rw [lg_entry_eq]
  generalize (lg_sl [e_rv B (x0)] ++ List.replicate (1 - (lg_sl [e_rv B (x0)]).length) Slot.unset).toArray = ls at hl ⊢
  generalize ([e_rv B (x0)] : List Value).toArray = args at hts E ⊢
  have hl : e_lo ls 1 [(0, e_rv B (x0))] := hl
  have hsh := (gd_some hsh).2
  refine e_aload_n (B := B) (x := x0) hx hb dX13_thrown_0 rfl (hl.at 0 rfl) ?_
  obtain ⟨v1, h1, hsh⟩ := Option.bind_eq_some_iff.mp hsh
  refine e_getI (k := 125) hx hb hts in_X13 hown hp h1 rfl (by decide) (by decide) rfl (hts _ kf13_195) rfl dX13_thrown_1 ?_
  cases hsh
  exact e_iret hx hb hrt hlk hp hS dX13_thrown_4
theorem ok13_can {S : HP} {x0 : Int} {x1 : Int} {r : Int × HP} (h : s13_can S x0 x1 = some r) : 0 ≤ x0 ∧ x0.toNat < e_n S ∧ e_g S x0.toNat = 13 := (gd_some h).1
set_option maxRecDepth 100000 in
set_option maxHeartbeats 4000000 in
theorem w13_can_b14 {p : Program} {l : Launch} {e : Env} {s : State} {m : MethodId} {args : Array Value} {below : List Frame} {meth : Method} {c : Code} {D : va_G} {cA : Nat → ClassId} {B : Nat} {res : Int × HP} (E : e_En p s m args meth c cX13_can RX13 2 (some .boolean)) {ls : Array Slot} {H : Heap} {locs : List Loc} {S : HP} {y0 : Int} (hp : e_Pic D cA B S s H) (hS : va_S (e_A B) s.heap H locs) (hl : e_lo ls 2 []) (hsh : s13_can_b14 S y0 = some res) : W p l e ({ frames := 0, cells := 0, slots := 0, locals := 0 } : Room) s m args below meth c H locs 0 0 (MQ below (e_Qi D cA B res.1 res.2) args s 0 0 (e_A B)) (F0 m 14 ls [.int (iI (y0))]) := by
  obtain ⟨hx, hb, hml, hown, hts, hlk, hrt⟩ := id E
  unfold s13_can_b14 at hsh
  obtain ⟨hz, hz1, hz2⟩ := zR_some hsh
  rw [← hz1, ← hz2]
  exact e_zret hx hb hrt hlk hp hS hz dX13_can_14
set_option maxRecDepth 100000 in
set_option maxHeartbeats 4000000 in
theorem c13_can (l : Launch) (D : va_G) (cA : Nat → ClassId) (B : Nat) (S S' : HP) (x0 : Int) (x1 : Int) (r : Int) (hsh : s13_can S x0 x1 = some (r, S')) : Met l yX13_can (e_wu yX13_can cX13_can 2 (some .boolean)) ({ frames := 0, cells := 0, slots := 0, locals := 0 } : Room) (va_Pc [e_rv B (x0), .int (iI (x1))] (fun U => e_PU D cA B S U)) (e_Qi D cA B r S') 0 0 (e_A B) := by
  refine Met.ofW (cc := cX13_can) (maxL := 2) (ret := (some .boolean)) (by decide +kernel) rfl ?_
  intro p e s m args below meth c s₁ Bd hml hv
  obtain ⟨rfl, hp⟩ := hv
  have hp : e_Pic D cA B S s s.heap := hp
  have hx := Bd.exec
  have hb := Bd.bytes
  have hrt := Bd.returns
  have hlk := Bd.notSynchronized
  have hown : s.vm.findClass RX13 = some m.cls := findClass_of_methodNamed Bd.named
  have hts : ∀ w ∈ e_tb, w.before ([e_rv B (x0), .int (iI (x1))] : List Value).toArray s = true := fun w h => atoms_spec (ws := (e_wu yX13_can cX13_can 2 (some .boolean))) Bd.pre w (List.mem_cons_of_mem _ h)
  have E : e_En p s m ([e_rv B (x0), .int (iI (x1))] : List Value).toArray meth c cX13_can RX13 2 (some .boolean) := ⟨hx, hb, hml, hown, hts, hlk, hrt⟩
  have hS : va_S (e_A B) s.heap s.heap [] := va_S.rf
  have hl := e_entry (vs := [e_rv B (x0), .int (iI (x1))]) (n := 2) (Nat.le_of_ble_eq_true rfl) (e_cc (e_rv_cat _ _) (e_cc rfl e_cn))
  rw [lg_entry_eq]
  generalize (lg_sl [e_rv B (x0), .int (iI (x1))] ++ List.replicate (2 - (lg_sl [e_rv B (x0), .int (iI (x1))]).length) Slot.unset).toArray = ls at hl ⊢
  generalize ([e_rv B (x0), .int (iI (x1))] : List Value).toArray = args at hts E ⊢
  have hl : e_lo ls 2 [(0, e_rv B (x0)), (1, .int (iI (x1)))] := hl
  have hsh := (gd_some hsh).2
  refine e_aload_n (B := B) (x := x0) hx hb dX13_can_0 rfl (hl.at 0 rfl) ?_
  refine lv_iload_n hx hb dX13_can_1 rfl (hl.at 1 rfl) ?_
  obtain ⟨S2, h2, hsh⟩ := Option.bind_eq_some_iff.mp hsh
  refine e_putI (k := 125) hx hb hts in_X13 tyX13 tyX13_ok nmX13 hown hp hS h2 rfl (by decide) (by decide) rfl (hts _ kf13_195) rfl rfl (by decide +kernel) dX13_can_2 (fun H locs hp hS => ?_)
  refine lv_iload_n hx hb dX13_can_5 rfl (hl.at 1 rfl) ?_
  refine e_if_ne (tgt := 13) hx hb dX13_can_6 (by decide) (fun c6 => ?_) (fun c6 => ?_)
  · rw [if_neg c6] at hsh
    refine lv_iconst (v := iI (0)) hx hb dX13_can_13 rfl ?_
    exact w13_can_b14 E hp hS (hl.sub [] rfl) hsh
  · rw [if_pos c6] at hsh
    refine lv_iconst (v := iI (1)) hx hb dX13_can_9 rfl ?_
    refine lv_goto (tgt := 14) hx hb dX13_can_10 (by decide) ?_
    exact w13_can_b14 E hp hS (hl.sub [] rfl) hsh
set_option maxRecDepth 100000 in
set_option maxHeartbeats 4000000 in
theorem w13_isIn_b15 {p : Program} {l : Launch} {e : Env} {s : State} {m : MethodId} {args : Array Value} {below : List Frame} {meth : Method} {c : Code} {D : va_G} {cA : Nat → ClassId} {B : Nat} {res : Int × HP} (E : e_En p s m args meth c cX13_isIn RX13 3 (some .boolean)) {ls : Array Slot} {H : Heap} {locs : List Loc} {S : HP} {y0 : Int} (hp : e_Pic D cA B S s H) (hS : va_S (e_A B) s.heap H locs) (hl : e_lo ls 3 []) (hsh : s13_isIn_b15 S y0 = some res) : W p l e ({ frames := 0, cells := 0, slots := 0, locals := 0 } : Room) s m args below meth c H locs 0 0 (MQ below (e_Qi D cA B res.1 res.2) args s 0 0 (e_A B)) (F0 m 15 ls [.int (iI (y0))]) := by
  obtain ⟨hx, hb, hml, hown, hts, hlk, hrt⟩ := id E
  unfold s13_isIn_b15 at hsh
  obtain ⟨hz, hz1, hz2⟩ := zR_some hsh
  rw [← hz1, ← hz2]
  exact e_zret hx hb hrt hlk hp hS hz dX13_isIn_15
set_option maxRecDepth 100000 in
set_option maxHeartbeats 4000000 in
theorem w13_isIn_b14 {p : Program} {l : Launch} {e : Env} {s : State} {m : MethodId} {args : Array Value} {below : List Frame} {meth : Method} {c : Code} {D : va_G} {cA : Nat → ClassId} {B : Nat} {res : Int × HP} (E : e_En p s m args meth c cX13_isIn RX13 3 (some .boolean)) {ls : Array Slot} {H : Heap} {locs : List Loc} {S : HP} (hp : e_Pic D cA B S s H) (hS : va_S (e_A B) s.heap H locs) (hl : e_lo ls 3 []) (hsh : s13_isIn_b14 S  = some res) : W p l e ({ frames := 0, cells := 0, slots := 0, locals := 0 } : Room) s m args below meth c H locs 0 0 (MQ below (e_Qi D cA B res.1 res.2) args s 0 0 (e_A B)) (F0 m 14 ls []) := by
  obtain ⟨hx, hb, hml, hown, hts, hlk, hrt⟩ := id E
  unfold s13_isIn_b14 at hsh
  refine lv_iconst (v := iI (0)) hx hb dX13_isIn_14 rfl ?_
  exact w13_isIn_b15 E hp hS (hl.sub [] rfl) hsh
set_option maxRecDepth 100000 in
set_option maxHeartbeats 4000000 in
theorem c13_isIn (l : Launch) (D : va_G) (cA : Nat → ClassId) (B : Nat) (S S' : HP) (x0 : Int) (x1 : Int) (x2 : Int) (r : Int) (hsh : s13_isIn S x0 x1 x2 = some (r, S')) : Met l yX13_isIn (e_wu yX13_isIn cX13_isIn 3 (some .boolean)) ({ frames := 0, cells := 0, slots := 0, locals := 0 } : Room) (va_Pc [.int (iI (x0)), .int (iI (x1)), .int (iI (x2))] (fun U => e_PU D cA B S U)) (e_Qi D cA B r S') 0 0 (e_A B) := by
  refine Met.ofW (cc := cX13_isIn) (maxL := 3) (ret := (some .boolean)) (by decide +kernel) rfl ?_
  intro p e s m args below meth c s₁ Bd hml hv
  obtain ⟨rfl, hp⟩ := hv
  have hp : e_Pic D cA B S s s.heap := hp
  have hx := Bd.exec
  have hb := Bd.bytes
  have hrt := Bd.returns
  have hlk := Bd.notSynchronized
  have hown : s.vm.findClass RX13 = some m.cls := findClass_of_methodNamed Bd.named
  have hts : ∀ w ∈ e_tb, w.before ([.int (iI (x0)), .int (iI (x1)), .int (iI (x2))] : List Value).toArray s = true := fun w h => atoms_spec (ws := (e_wu yX13_isIn cX13_isIn 3 (some .boolean))) Bd.pre w (List.mem_cons_of_mem _ h)
  have E : e_En p s m ([.int (iI (x0)), .int (iI (x1)), .int (iI (x2))] : List Value).toArray meth c cX13_isIn RX13 3 (some .boolean) := ⟨hx, hb, hml, hown, hts, hlk, hrt⟩
  have hS : va_S (e_A B) s.heap s.heap [] := va_S.rf
  have hl := e_entry (vs := [.int (iI (x0)), .int (iI (x1)), .int (iI (x2))]) (n := 3) (Nat.le_of_ble_eq_true rfl) (e_cc rfl (e_cc rfl (e_cc rfl e_cn)))
  rw [lg_entry_eq]
  generalize (lg_sl [.int (iI (x0)), .int (iI (x1)), .int (iI (x2))] ++ List.replicate (3 - (lg_sl [.int (iI (x0)), .int (iI (x1)), .int (iI (x2))]).length) Slot.unset).toArray = ls at hl ⊢
  generalize ([.int (iI (x0)), .int (iI (x1)), .int (iI (x2))] : List Value).toArray = args at hts E ⊢
  have hl : e_lo ls 3 [(0, .int (iI (x0))), (1, .int (iI (x1))), (2, .int (iI (x2)))] := hl
  unfold s13_isIn at hsh
  refine lv_iload_n hx hb dX13_isIn_0 rfl (hl.at 0 rfl) ?_
  refine lv_iload_n hx hb dX13_isIn_1 rfl (hl.at 1 rfl) ?_
  refine e_icmp_lt (tgt := 14) hx hb dX13_isIn_2 (by decide) (fun c2 => ?_) (fun c2 => ?_)
  · rw [if_pos c2] at hsh
    exact w13_isIn_b14 E hp hS (hl.sub [] rfl) hsh
  · rw [if_neg c2] at hsh
    refine lv_iload_n hx hb dX13_isIn_5 rfl (hl.at 0 rfl) ?_
    refine lv_iload_n hx hb dX13_isIn_6 rfl (hl.at 2 rfl) ?_
    refine e_icmp_gt (tgt := 14) hx hb dX13_isIn_7 (by decide) (fun c7 => ?_) (fun c7 => ?_)
    · rw [if_pos c7] at hsh
      exact w13_isIn_b14 E hp hS (hl.sub [] rfl) hsh
    · rw [if_neg c7] at hsh
      refine lv_iconst (v := iI (1)) hx hb dX13_isIn_10 rfl ?_
      refine lv_goto (tgt := 15) hx hb dX13_isIn_11 (by decide) ?_
      exact w13_isIn_b15 E hp hS (hl.sub [] rfl) hsh
set_option maxRecDepth 100000 in
set_option maxHeartbeats 4000000 in
theorem w13_lesser_b10 {p : Program} {l : Launch} {e : Env} {s : State} {m : MethodId} {args : Array Value} {below : List Frame} {meth : Method} {c : Code} {D : va_G} {cA : Nat → ClassId} {B : Nat} {res : Int × HP} (E : e_En p s m args meth c cX13_lesser RX13 2 (some .int)) {ls : Array Slot} {H : Heap} {locs : List Loc} {S : HP} {y0 : Int} (hp : e_Pic D cA B S s H) (hS : va_S (e_A B) s.heap H locs) (hl : e_lo ls 2 []) (hsh : s13_lesser_b10 S y0 = some res) : W p l e ({ frames := 0, cells := 0, slots := 0, locals := 0 } : Room) s m args below meth c H locs 0 0 (MQ below (e_Qi D cA B res.1 res.2) args s 0 0 (e_A B)) (F0 m 10 ls [.int (iI (y0))]) := by
  obtain ⟨hx, hb, hml, hown, hts, hlk, hrt⟩ := id E
  unfold s13_lesser_b10 at hsh
  cases hsh
  exact e_iret hx hb hrt hlk hp hS dX13_lesser_10
set_option maxRecDepth 100000 in
set_option maxHeartbeats 4000000 in
theorem c13_lesser (l : Launch) (D : va_G) (cA : Nat → ClassId) (B : Nat) (S S' : HP) (x0 : Int) (x1 : Int) (r : Int) (hsh : s13_lesser S x0 x1 = some (r, S')) : Met l yX13_lesser (e_wu yX13_lesser cX13_lesser 2 (some .int)) ({ frames := 0, cells := 0, slots := 0, locals := 0 } : Room) (va_Pc [.int (iI (x0)), .int (iI (x1))] (fun U => e_PU D cA B S U)) (e_Qi D cA B r S') 0 0 (e_A B) := by
  refine Met.ofW (cc := cX13_lesser) (maxL := 2) (ret := (some .int)) (by decide +kernel) rfl ?_
  intro p e s m args below meth c s₁ Bd hml hv
  obtain ⟨rfl, hp⟩ := hv
  have hp : e_Pic D cA B S s s.heap := hp
  have hx := Bd.exec
  have hb := Bd.bytes
  have hrt := Bd.returns
  have hlk := Bd.notSynchronized
  have hown : s.vm.findClass RX13 = some m.cls := findClass_of_methodNamed Bd.named
  have hts : ∀ w ∈ e_tb, w.before ([.int (iI (x0)), .int (iI (x1))] : List Value).toArray s = true := fun w h => atoms_spec (ws := (e_wu yX13_lesser cX13_lesser 2 (some .int))) Bd.pre w (List.mem_cons_of_mem _ h)
  have E : e_En p s m ([.int (iI (x0)), .int (iI (x1))] : List Value).toArray meth c cX13_lesser RX13 2 (some .int) := ⟨hx, hb, hml, hown, hts, hlk, hrt⟩
  have hS : va_S (e_A B) s.heap s.heap [] := va_S.rf
  have hl := e_entry (vs := [.int (iI (x0)), .int (iI (x1))]) (n := 2) (Nat.le_of_ble_eq_true rfl) (e_cc rfl (e_cc rfl e_cn))
  rw [lg_entry_eq]
  generalize (lg_sl [.int (iI (x0)), .int (iI (x1))] ++ List.replicate (2 - (lg_sl [.int (iI (x0)), .int (iI (x1))]).length) Slot.unset).toArray = ls at hl ⊢
  generalize ([.int (iI (x0)), .int (iI (x1))] : List Value).toArray = args at hts E ⊢
  have hl : e_lo ls 2 [(0, .int (iI (x0))), (1, .int (iI (x1)))] := hl
  unfold s13_lesser at hsh
  refine lv_iload_n hx hb dX13_lesser_0 rfl (hl.at 0 rfl) ?_
  refine lv_iload_n hx hb dX13_lesser_1 rfl (hl.at 1 rfl) ?_
  refine e_icmp_ge (tgt := 9) hx hb dX13_lesser_2 (by decide) (fun c2 => ?_) (fun c2 => ?_)
  · rw [if_pos c2] at hsh
    refine lv_iload_n hx hb dX13_lesser_9 rfl (hl.at 1 rfl) ?_
    exact w13_lesser_b10 E hp hS (hl.sub [] rfl) hsh
  · rw [if_neg c2] at hsh
    refine lv_iload_n hx hb dX13_lesser_5 rfl (hl.at 0 rfl) ?_
    refine lv_goto (tgt := 10) hx hb dX13_lesser_6 (by decide) ?_
    exact w13_lesser_b10 E hp hS (hl.sub [] rfl) hsh
set_option maxRecDepth 100000 in
set_option maxHeartbeats 4000000 in
theorem w13_greater_b10 {p : Program} {l : Launch} {e : Env} {s : State} {m : MethodId} {args : Array Value} {below : List Frame} {meth : Method} {c : Code} {D : va_G} {cA : Nat → ClassId} {B : Nat} {res : Int × HP} (E : e_En p s m args meth c cX13_greater RX13 2 (some .int)) {ls : Array Slot} {H : Heap} {locs : List Loc} {S : HP} {y0 : Int} (hp : e_Pic D cA B S s H) (hS : va_S (e_A B) s.heap H locs) (hl : e_lo ls 2 []) (hsh : s13_greater_b10 S y0 = some res) : W p l e ({ frames := 0, cells := 0, slots := 0, locals := 0 } : Room) s m args below meth c H locs 0 0 (MQ below (e_Qi D cA B res.1 res.2) args s 0 0 (e_A B)) (F0 m 10 ls [.int (iI (y0))]) := by
  obtain ⟨hx, hb, hml, hown, hts, hlk, hrt⟩ := id E
  unfold s13_greater_b10 at hsh
  cases hsh
  exact e_iret hx hb hrt hlk hp hS dX13_greater_10
set_option maxRecDepth 100000 in
set_option maxHeartbeats 4000000 in
theorem c13_greater (l : Launch) (D : va_G) (cA : Nat → ClassId) (B : Nat) (S S' : HP) (x0 : Int) (x1 : Int) (r : Int) (hsh : s13_greater S x0 x1 = some (r, S')) : Met l yX13_greater (e_wu yX13_greater cX13_greater 2 (some .int)) ({ frames := 0, cells := 0, slots := 0, locals := 0 } : Room) (va_Pc [.int (iI (x0)), .int (iI (x1))] (fun U => e_PU D cA B S U)) (e_Qi D cA B r S') 0 0 (e_A B) := by
  refine Met.ofW (cc := cX13_greater) (maxL := 2) (ret := (some .int)) (by decide +kernel) rfl ?_
  intro p e s m args below meth c s₁ Bd hml hv
  obtain ⟨rfl, hp⟩ := hv
  have hp : e_Pic D cA B S s s.heap := hp
  have hx := Bd.exec
  have hb := Bd.bytes
  have hrt := Bd.returns
  have hlk := Bd.notSynchronized
  have hown : s.vm.findClass RX13 = some m.cls := findClass_of_methodNamed Bd.named
  have hts : ∀ w ∈ e_tb, w.before ([.int (iI (x0)), .int (iI (x1))] : List Value).toArray s = true := fun w h => atoms_spec (ws := (e_wu yX13_greater cX13_greater 2 (some .int))) Bd.pre w (List.mem_cons_of_mem _ h)
  have E : e_En p s m ([.int (iI (x0)), .int (iI (x1))] : List Value).toArray meth c cX13_greater RX13 2 (some .int) := ⟨hx, hb, hml, hown, hts, hlk, hrt⟩
  have hS : va_S (e_A B) s.heap s.heap [] := va_S.rf
  have hl := e_entry (vs := [.int (iI (x0)), .int (iI (x1))]) (n := 2) (Nat.le_of_ble_eq_true rfl) (e_cc rfl (e_cc rfl e_cn))
  rw [lg_entry_eq]
  generalize (lg_sl [.int (iI (x0)), .int (iI (x1))] ++ List.replicate (2 - (lg_sl [.int (iI (x0)), .int (iI (x1))]).length) Slot.unset).toArray = ls at hl ⊢
  generalize ([.int (iI (x0)), .int (iI (x1))] : List Value).toArray = args at hts E ⊢
  have hl : e_lo ls 2 [(0, .int (iI (x0))), (1, .int (iI (x1)))] := hl
  unfold s13_greater at hsh
  refine lv_iload_n hx hb dX13_greater_0 rfl (hl.at 0 rfl) ?_
  refine lv_iload_n hx hb dX13_greater_1 rfl (hl.at 1 rfl) ?_
  refine e_icmp_le (tgt := 9) hx hb dX13_greater_2 (by decide) (fun c2 => ?_) (fun c2 => ?_)
  · rw [if_pos c2] at hsh
    refine lv_iload_n hx hb dX13_greater_9 rfl (hl.at 1 rfl) ?_
    exact w13_greater_b10 E hp hS (hl.sub [] rfl) hsh
  · rw [if_neg c2] at hsh
    refine lv_iload_n hx hb dX13_greater_5 rfl (hl.at 0 rfl) ?_
    refine lv_goto (tgt := 10) hx hb dX13_greater_6 (by decide) ?_
    exact w13_greater_b10 E hp hS (hl.sub [] rfl) hsh
set_option maxRecDepth 100000 in
set_option maxHeartbeats 4000000 in
theorem c13_isSign (l : Launch) (D : va_G) (cA : Nat → ClassId) (B : Nat) (S S' : HP) (x0 : Int) (r : Int) (hsh : s13_isSign S x0 = some (r, S')) : Met l yX13_isSign (e_wu yX13_isSign cX13_isSign 1 (some .boolean)) ({ frames := 1, cells := 0, slots := 0, locals := 22 } : Room) (va_Pc [.int (iI (x0))] (fun U => e_PU D cA B S U)) (e_Qi D cA B r S') 0 0 (e_A B) := by
  refine Met.ofW (cc := cX13_isSign) (maxL := 1) (ret := (some .boolean)) (by decide +kernel) rfl ?_
  intro p e s m args below meth c s₁ Bd hml hv
  obtain ⟨rfl, hp⟩ := hv
  have hp : e_Pic D cA B S s s.heap := hp
  have hx := Bd.exec
  have hb := Bd.bytes
  have hrt := Bd.returns
  have hlk := Bd.notSynchronized
  have hown : s.vm.findClass RX13 = some m.cls := findClass_of_methodNamed Bd.named
  have hts : ∀ w ∈ e_tb, w.before ([.int (iI (x0))] : List Value).toArray s = true := fun w h => atoms_spec (ws := (e_wu yX13_isSign cX13_isSign 1 (some .boolean))) Bd.pre w (List.mem_cons_of_mem _ h)
  have E : e_En p s m ([.int (iI (x0))] : List Value).toArray meth c cX13_isSign RX13 1 (some .boolean) := ⟨hx, hb, hml, hown, hts, hlk, hrt⟩
  have hS : va_S (e_A B) s.heap s.heap [] := va_S.rf
  have hl := e_entry (vs := [.int (iI (x0))]) (n := 1) (Nat.le_of_ble_eq_true rfl) (e_cc rfl e_cn)
  rw [lg_entry_eq]
  generalize (lg_sl [.int (iI (x0))] ++ List.replicate (1 - (lg_sl [.int (iI (x0))]).length) Slot.unset).toArray = ls at hl ⊢
  generalize ([.int (iI (x0))] : List Value).toArray = args at hts E ⊢
  have hl : e_lo ls 1 [(0, .int (iI (x0)))] := hl
  unfold s13_isSign at hsh
  refine lv_iload_n hx hb dX13_isSign_0 rfl (hl.at 0 rfl) ?_
  refine lv_bipush (v := iI (32)) hx hb dX13_isSign_1 (by decide +kernel) ?_
  refine lv_bipush (v := iI (126)) hx hb dX13_isSign_3 (by decide +kernel) ?_
  obtain ⟨⟨v5, S5⟩, h5, hsh⟩ := Option.bind_eq_some_iff.mp hsh
  have hsh : _ = _ := hsh
  try dsimp only at hsh
  refine e_callS (nL := 1) (mc := 0) (ms := 0) (As := [.int (iI (x0)), .int (iI (32)), .int (iI (126))]) (rest := []) hx hb hml hown hts hp hS hl.size (c13_isIn l D cA B S S5 (x0) (32) (126) v5 h5) rfl rfl kd13_isIn (kl13_198) ks13_isIn ki13 kh13_isIn ⟨Nat.le_of_ble_eq_true rfl, Nat.le_of_ble_eq_true rfl⟩ rfl (by simp [e_rv_cat, e_int_cat]) ⟨Nat.le_refl _, Nat.le_refl _⟩ dX13_isSign_5 rfl (fun H locs hp hS => ?_)
  obtain ⟨hz, hz1, hz2⟩ := zR_some hsh
  rw [← hz1, ← hz2]
  exact e_zret hx hb hrt hlk hp hS hz dX13_isSign_8
set_option maxRecDepth 100000 in
set_option maxHeartbeats 4000000 in
theorem w13_isKey_b54 {p : Program} {l : Launch} {e : Env} {s : State} {m : MethodId} {args : Array Value} {below : List Frame} {meth : Method} {c : Code} {D : va_G} {cA : Nat → ClassId} {B : Nat} {res : Int × HP} (E : e_En p s m args meth c cX13_isKey RX13 1 (some .boolean)) {ls : Array Slot} {H : Heap} {locs : List Loc} {S : HP} {y0 : Int} (hp : e_Pic D cA B S s H) (hS : va_S (e_A B) s.heap H locs) (hl : e_lo ls 1 []) (hsh : s13_isKey_b54 S y0 = some res) : W p l e ({ frames := 2, cells := 0, slots := 0, locals := 42 } : Room) s m args below meth c H locs 0 0 (MQ below (e_Qi D cA B res.1 res.2) args s 0 0 (e_A B)) (F0 m 54 ls [.int (iI (y0))]) := by
  obtain ⟨hx, hb, hml, hown, hts, hlk, hrt⟩ := id E
  unfold s13_isKey_b54 at hsh
  obtain ⟨hz, hz1, hz2⟩ := zR_some hsh
  rw [← hz1, ← hz2]
  exact e_zret hx hb hrt hlk hp hS hz dX13_isKey_54
set_option maxRecDepth 100000 in
set_option maxHeartbeats 4000000 in
theorem w13_isKey_b49 {p : Program} {l : Launch} {e : Env} {s : State} {m : MethodId} {args : Array Value} {below : List Frame} {meth : Method} {c : Code} {D : va_G} {cA : Nat → ClassId} {B : Nat} {res : Int × HP} (E : e_En p s m args meth c cX13_isKey RX13 1 (some .boolean)) {ls : Array Slot} {H : Heap} {locs : List Loc} {S : HP} (hp : e_Pic D cA B S s H) (hS : va_S (e_A B) s.heap H locs) (hl : e_lo ls 1 []) (hsh : s13_isKey_b49 S  = some res) : W p l e ({ frames := 2, cells := 0, slots := 0, locals := 42 } : Room) s m args below meth c H locs 0 0 (MQ below (e_Qi D cA B res.1 res.2) args s 0 0 (e_A B)) (F0 m 49 ls []) := by
  obtain ⟨hx, hb, hml, hown, hts, hlk, hrt⟩ := id E
  unfold s13_isKey_b49 at hsh
  refine lv_iconst (v := iI (1)) hx hb dX13_isKey_49 rfl ?_
  refine lv_goto (tgt := 54) hx hb dX13_isKey_50 (by decide) ?_
  exact w13_isKey_b54 E hp hS (hl.sub [] rfl) hsh
set_option maxRecDepth 100000 in
set_option maxHeartbeats 4000000 in
theorem c13_isKey (l : Launch) (D : va_G) (cA : Nat → ClassId) (B : Nat) (S S' : HP) (x0 : Int) (r : Int) (hsh : s13_isKey S x0 = some (r, S')) : Met l yX13_isKey (e_wu yX13_isKey cX13_isKey 1 (some .boolean)) ({ frames := 2, cells := 0, slots := 0, locals := 42 } : Room) (va_Pc [.int (iI (x0))] (fun U => e_PU D cA B S U)) (e_Qi D cA B r S') 0 0 (e_A B) := by
  refine Met.ofW (cc := cX13_isKey) (maxL := 1) (ret := (some .boolean)) (by decide +kernel) rfl ?_
  intro p e s m args below meth c s₁ Bd hml hv
  obtain ⟨rfl, hp⟩ := hv
  have hp : e_Pic D cA B S s s.heap := hp
  have hx := Bd.exec
  have hb := Bd.bytes
  have hrt := Bd.returns
  have hlk := Bd.notSynchronized
  have hown : s.vm.findClass RX13 = some m.cls := findClass_of_methodNamed Bd.named
  have hts : ∀ w ∈ e_tb, w.before ([.int (iI (x0))] : List Value).toArray s = true := fun w h => atoms_spec (ws := (e_wu yX13_isKey cX13_isKey 1 (some .boolean))) Bd.pre w (List.mem_cons_of_mem _ h)
  have E : e_En p s m ([.int (iI (x0))] : List Value).toArray meth c cX13_isKey RX13 1 (some .boolean) := ⟨hx, hb, hml, hown, hts, hlk, hrt⟩
  have hS : va_S (e_A B) s.heap s.heap [] := va_S.rf
  have hl := e_entry (vs := [.int (iI (x0))]) (n := 1) (Nat.le_of_ble_eq_true rfl) (e_cc rfl e_cn)
  rw [lg_entry_eq]
  generalize (lg_sl [.int (iI (x0))] ++ List.replicate (1 - (lg_sl [.int (iI (x0))]).length) Slot.unset).toArray = ls at hl ⊢
  generalize ([.int (iI (x0))] : List Value).toArray = args at hts E ⊢
  have hl : e_lo ls 1 [(0, .int (iI (x0)))] := hl
  unfold s13_isKey at hsh
  refine lv_iload_n hx hb dX13_isKey_0 rfl (hl.at 0 rfl) ?_
  obtain ⟨⟨v1, S1⟩, h1, hsh⟩ := Option.bind_eq_some_iff.mp hsh
  have hsh : _ = _ := hsh
  try dsimp only at hsh
  refine e_callS (nL := 1) (mc := 0) (ms := 0) (As := [.int (iI (x0))]) (rest := []) hx hb hml hown hts hp hS hl.size (c13_isSign l D cA B S S1 (x0) v1 h1) rfl rfl kd13_isSign (kl13_202) ks13_isSign ki13 kh13_isSign ⟨Nat.le_of_ble_eq_true rfl, Nat.le_of_ble_eq_true rfl⟩ rfl (by simp [e_rv_cat, e_int_cat]) ⟨Nat.le_refl _, Nat.le_refl _⟩ dX13_isKey_1 rfl (fun H locs hp hS => ?_)
  refine e_if_ne (tgt := 49) hx hb dX13_isKey_4 (by decide) (fun c4 => ?_) (fun c4 => ?_)
  · rw [if_neg c4] at hsh
    exact w13_isKey_b49 E hp hS (hl.sub [] rfl) hsh
  · rw [if_pos c4] at hsh
    refine lv_iload_n hx hb dX13_isKey_7 rfl (hl.at 0 rfl) ?_
    refine lv_bipush (v := iI (8)) hx hb dX13_isKey_8 (by decide +kernel) ?_
    refine e_icmp_eq (tgt := 49) hx hb dX13_isKey_10 (by decide) (fun c10 => ?_) (fun c10 => ?_)
    · rw [if_pos c10] at hsh
      exact w13_isKey_b49 E hp hS (hl.sub [] rfl) hsh
    · rw [if_neg c10] at hsh
      refine lv_iload_n hx hb dX13_isKey_13 rfl (hl.at 0 rfl) ?_
      refine lv_bipush (v := iI (9)) hx hb dX13_isKey_14 (by decide +kernel) ?_
      refine e_icmp_eq (tgt := 49) hx hb dX13_isKey_16 (by decide) (fun c16 => ?_) (fun c16 => ?_)
      · rw [if_pos c16] at hsh
        exact w13_isKey_b49 E hp hS (hl.sub [] rfl) hsh
      · rw [if_neg c16] at hsh
        refine lv_iload_n hx hb dX13_isKey_19 rfl (hl.at 0 rfl) ?_
        refine lv_bipush (v := iI (13)) hx hb dX13_isKey_20 (by decide +kernel) ?_
        refine e_icmp_eq (tgt := 49) hx hb dX13_isKey_22 (by decide) (fun c22 => ?_) (fun c22 => ?_)
        · rw [if_pos c22] at hsh
          exact w13_isKey_b49 E hp hS (hl.sub [] rfl) hsh
        · rw [if_neg c22] at hsh
          refine lv_iload_n hx hb dX13_isKey_25 rfl (hl.at 0 rfl) ?_
          refine lv_bipush (v := iI (15)) hx hb dX13_isKey_26 (by decide +kernel) ?_
          refine e_icmp_eq (tgt := 49) hx hb dX13_isKey_28 (by decide) (fun c28 => ?_) (fun c28 => ?_)
          · rw [if_pos c28] at hsh
            exact w13_isKey_b49 E hp hS (hl.sub [] rfl) hsh
          · rw [if_neg c28] at hsh
            refine lv_iload_n hx hb dX13_isKey_31 rfl (hl.at 0 rfl) ?_
            refine lv_bipush (v := iI (18)) hx hb dX13_isKey_32 (by decide +kernel) ?_
            refine e_icmp_eq (tgt := 49) hx hb dX13_isKey_34 (by decide) (fun c34 => ?_) (fun c34 => ?_)
            · rw [if_pos c34] at hsh
              exact w13_isKey_b49 E hp hS (hl.sub [] rfl) hsh
            · rw [if_neg c34] at hsh
              refine lv_iload_n hx hb dX13_isKey_37 rfl (hl.at 0 rfl) ?_
              refine lv_bipush (v := iI (22)) hx hb dX13_isKey_38 (by decide +kernel) ?_
              refine e_icmp_eq (tgt := 49) hx hb dX13_isKey_40 (by decide) (fun c40 => ?_) (fun c40 => ?_)
              · rw [if_pos c40] at hsh
                exact w13_isKey_b49 E hp hS (hl.sub [] rfl) hsh
              · rw [if_neg c40] at hsh
                refine lv_iload_n hx hb dX13_isKey_43 rfl (hl.at 0 rfl) ?_
                refine lv_bipush (v := iI (27)) hx hb dX13_isKey_44 (by decide +kernel) ?_
                refine e_icmp_ne (tgt := 53) hx hb dX13_isKey_46 (by decide) (fun c46 => ?_) (fun c46 => ?_)
                · rw [if_neg c46] at hsh
                  refine lv_iconst (v := iI (0)) hx hb dX13_isKey_53 rfl ?_
                  exact w13_isKey_b54 E hp hS (hl.sub [] rfl) hsh
                · rw [if_pos c46] at hsh
                  exact w13_isKey_b49 E hp hS (hl.sub [] rfl) hsh
theorem ok13_at {S : HP} {x0 : Int} {x1 : Int} {x2 : Int} {r : Int × HP} (h : s13_at S x0 x1 x2 = some r) : 0 ≤ x0 ∧ x0.toNat < e_n S ∧ e_g S x0.toNat = 13 := (gd_some h).1
set_option maxRecDepth 100000 in
set_option maxHeartbeats 4000000 in
theorem c13_at (l : Launch) (D : va_G) (cA : Nat → ClassId) (B : Nat) (S S' : HP) (x0 : Int) (x1 : Int) (x2 : Int) (r : Int) (hsh : s13_at S x0 x1 x2 = some (r, S')) : Met l yX13_at (e_wu yX13_at cX13_at 3 (some .int)) ({ frames := 0, cells := 0, slots := 0, locals := 0 } : Room) (va_Pc [e_rv B (x0), .int (iI (x1)), .int (iI (x2))] (fun U => e_PU D cA B S U)) (e_Qi D cA B r S') 0 0 (e_A B) := by
  refine Met.ofW (cc := cX13_at) (maxL := 3) (ret := (some .int)) (by decide +kernel) rfl ?_
  intro p e s m args below meth c s₁ Bd hml hv
  obtain ⟨rfl, hp⟩ := hv
  have hp : e_Pic D cA B S s s.heap := hp
  have hx := Bd.exec
  have hb := Bd.bytes
  have hrt := Bd.returns
  have hlk := Bd.notSynchronized
  have hown : s.vm.findClass RX13 = some m.cls := findClass_of_methodNamed Bd.named
  have hts : ∀ w ∈ e_tb, w.before ([e_rv B (x0), .int (iI (x1)), .int (iI (x2))] : List Value).toArray s = true := fun w h => atoms_spec (ws := (e_wu yX13_at cX13_at 3 (some .int))) Bd.pre w (List.mem_cons_of_mem _ h)
  have E : e_En p s m ([e_rv B (x0), .int (iI (x1)), .int (iI (x2))] : List Value).toArray meth c cX13_at RX13 3 (some .int) := ⟨hx, hb, hml, hown, hts, hlk, hrt⟩
  have hS : va_S (e_A B) s.heap s.heap [] := va_S.rf
  have hl := e_entry (vs := [e_rv B (x0), .int (iI (x1)), .int (iI (x2))]) (n := 3) (Nat.le_of_ble_eq_true rfl) (e_cc (e_rv_cat _ _) (e_cc rfl (e_cc rfl e_cn)))
  rw [lg_entry_eq]
  generalize (lg_sl [e_rv B (x0), .int (iI (x1)), .int (iI (x2))] ++ List.replicate (3 - (lg_sl [e_rv B (x0), .int (iI (x1)), .int (iI (x2))]).length) Slot.unset).toArray = ls at hl ⊢
  generalize ([e_rv B (x0), .int (iI (x1)), .int (iI (x2))] : List Value).toArray = args at hts E ⊢
  have hl : e_lo ls 3 [(0, e_rv B (x0)), (1, .int (iI (x1))), (2, .int (iI (x2)))] := hl
  have hsh := (gd_some hsh).2
  refine e_aload_n (B := B) (x := x0) hx hb dX13_at_0 rfl (hl.at 0 rfl) ?_
  obtain ⟨v1, h1, hsh⟩ := Option.bind_eq_some_iff.mp hsh
  refine e_getR (k := 4) hx hb hts in_X13 hown hp h1 rfl (by decide) (by decide) rfl (hts _ kf13_20) rfl dX13_at_1 ?_
  refine lv_bipush (v := iI (60)) hx hb dX13_at_4 (by decide +kernel) ?_
  refine lv_iload_n hx hb dX13_at_6 rfl (hl.at 1 rfl) ?_
  refine e_imul hx hb dX13_at_7 ?_
  refine lv_iload_n hx hb dX13_at_8 rfl (hl.at 2 rfl) ?_
  refine e_iadd hx hb dX13_at_9 ?_
  obtain ⟨v10, h10, hsh⟩ := Option.bind_eq_some_iff.mp hsh
  refine e_iald hx hb hp h10 dX13_at_10 ?_
  cases hsh
  exact e_iret hx hb hrt hlk hp hS dX13_at_11
theorem ok13_copiesLine {S : HP} {x0 : Int} {x1 : Int} {x2 : Int} {r : HP} (h : s13_copiesLine S x0 x1 x2 = some r) : 0 ≤ x0 ∧ x0.toNat < e_n S ∧ e_g S x0.toNat = 13 := (gd_some h).1
set_option maxRecDepth 100000 in
set_option maxHeartbeats 4000000 in
theorem w13_copiesLine_l14 {p : Program} {l : Launch} {e : Env} {s : State} {m : MethodId} {args : Array Value} {below : List Frame} {meth : Method} {c : Code} {D : va_G} {cA : Nat → ClassId} {B : Nat} {res : HP} (E : e_En p s m args meth c cX13_copiesLine RX13 4 none) : ∀ (f : Nat) {ls : Array Slot} {H : Heap} {locs : List Loc} {S : HP} {x0 : Int} {x1 : Int} {x2 : Int} {x3 : Int} (hp : e_Pic D cA B S s H) (hS : va_S (e_A B) s.heap H locs) (hl : e_lo ls 4 [(0, e_rv B (x0)), (1, .int (iI (x1))), (2, .int (iI (x2))), (3, .int (iI (x3)))]) (hsh : s13_copiesLine_l14 f S x0 x1 x2 x3 = some res), W p l e ({ frames := 0, cells := 0, slots := 0, locals := 0 } : Room) s m args below meth c H locs 0 0 (MQ below (e_Qv D cA B res) args s 0 0 (e_A B)) (F0 m 14 ls []) := by
  obtain ⟨hx, hb, hml, hown, hts, hlk, hrt⟩ := id E
  intro f
  induction f with
  | zero => intro ls H locs S x0 x1 x2 x3 hp hS hl hsh; cases hsh
  | succ f ih =>
    intro ls H locs S x0 x1 x2 x3 hp hS hl hsh
    have hk14 : ∀ {ls : Array Slot} {H : Heap} {locs : List Loc} {S : HP} {x0 : Int} {x1 : Int} {x2 : Int} {x3 : Int} (hp : e_Pic D cA B S s H) (hS : va_S (e_A B) s.heap H locs) (hl : e_lo ls 4 [(0, e_rv B (x0)), (1, .int (iI (x1))), (2, .int (iI (x2))), (3, .int (iI (x3)))]) (hsh : (s13_copiesLine_l14 f) S x0 x1 x2 x3 = some res), W p l e ({ frames := 0, cells := 0, slots := 0, locals := 0 } : Room) s m args below meth c H locs 0 0 (MQ below (e_Qv D cA B res) args s 0 0 (e_A B)) (F0 m 14 ls []) := ih
    generalize hkk : s13_copiesLine_l14 f = k14 at hk14
    rw [s13_copiesLine_l14] at hsh
    rw [hkk] at hsh
    try dsimp only at hsh
    refine lv_iload_n hx hb dX13_copiesLine_14 rfl (hl.at 3 rfl) ?_
    refine e_aload_n (B := B) (x := x0) hx hb dX13_copiesLine_15 rfl (hl.at 0 rfl) ?_
    obtain ⟨v16, h16, hsh⟩ := Option.bind_eq_some_iff.mp hsh
    refine e_getR (k := 3) hx hb hts in_X13 hown hp h16 rfl (by decide) (by decide) rfl (hts _ kf13_17) rfl dX13_copiesLine_16 ?_
    refine lv_iload_n hx hb dX13_copiesLine_19 rfl (hl.at 1 rfl) ?_
    obtain ⟨v20, h20, hsh⟩ := Option.bind_eq_some_iff.mp hsh
    refine e_iald hx hb hp h20 dX13_copiesLine_20 ?_
    refine e_icmp_ge (tgt := 52) hx hb dX13_copiesLine_21 (by decide) (fun c21 => ?_) (fun c21 => ?_)
    · rw [if_pos c21] at hsh
      cases hsh
      exact e_vret hx hb hrt hlk hp hS dX13_copiesLine_52
    · rw [if_neg c21] at hsh
      refine e_aload_n (B := B) (x := x0) hx hb dX13_copiesLine_24 rfl (hl.at 0 rfl) ?_
      obtain ⟨v25, h25, hsh⟩ := Option.bind_eq_some_iff.mp hsh
      refine e_getR (k := 4) hx hb hts in_X13 hown hp h25 rfl (by decide) (by decide) rfl (hts _ kf13_20) rfl dX13_copiesLine_25 ?_
      refine lv_bipush (v := iI (60)) hx hb dX13_copiesLine_28 (by decide +kernel) ?_
      refine lv_iload_n hx hb dX13_copiesLine_30 rfl (hl.at 2 rfl) ?_
      refine e_imul hx hb dX13_copiesLine_31 ?_
      refine lv_iload_n hx hb dX13_copiesLine_32 rfl (hl.at 3 rfl) ?_
      refine e_iadd hx hb dX13_copiesLine_33 ?_
      refine e_aload_n (B := B) (x := x0) hx hb dX13_copiesLine_34 rfl (hl.at 0 rfl) ?_
      obtain ⟨v35, h35, hsh⟩ := Option.bind_eq_some_iff.mp hsh
      refine e_getR (k := 4) hx hb hts in_X13 hown hp h35 rfl (by decide) (by decide) rfl (hts _ kf13_20) rfl dX13_copiesLine_35 ?_
      refine lv_bipush (v := iI (60)) hx hb dX13_copiesLine_38 (by decide +kernel) ?_
      refine lv_iload_n hx hb dX13_copiesLine_40 rfl (hl.at 1 rfl) ?_
      refine e_imul hx hb dX13_copiesLine_41 ?_
      refine lv_iload_n hx hb dX13_copiesLine_42 rfl (hl.at 3 rfl) ?_
      refine e_iadd hx hb dX13_copiesLine_43 ?_
      obtain ⟨v44, h44, hsh⟩ := Option.bind_eq_some_iff.mp hsh
      refine e_iald hx hb hp h44 dX13_copiesLine_44 ?_
      obtain ⟨S45, h45, hsh⟩ := Option.bind_eq_some_iff.mp hsh
      refine e_iast hx hb hp hS h45 dX13_copiesLine_45 (fun H locs hp hS => ?_)
      refine e_iinc (n := 1) (x := x3) (lv' := [(3, .int (iI ((x3 + 1)))), (0, e_rv B (x0)), (1, .int (iI (x1))), (2, .int (iI (x2)))]) hx hb dX13_copiesLine_46 hl (k := 3) rfl (by decide) rfl (fun ls hl => ?_)
      refine lv_goto (tgt := 14) hx hb dX13_copiesLine_49 (by decide) ?_
      exact hk14 hp hS (hl.sub [1, 2, 3, 0] rfl) hsh
set_option maxRecDepth 100000 in
set_option maxHeartbeats 4000000 in
theorem c13_copiesLine (l : Launch) (D : va_G) (cA : Nat → ClassId) (B : Nat) (S S' : HP) (x0 : Int) (x1 : Int) (x2 : Int) (hsh : s13_copiesLine S x0 x1 x2 = some S') : Met l yX13_copiesLine (e_wu yX13_copiesLine cX13_copiesLine 4 none) ({ frames := 0, cells := 0, slots := 0, locals := 0 } : Room) (va_Pc [e_rv B (x0), .int (iI (x1)), .int (iI (x2))] (fun U => e_PU D cA B S U)) (e_Qv D cA B S') 0 0 (e_A B) := by
  refine Met.ofW (cc := cX13_copiesLine) (maxL := 4) (ret := none) (by decide +kernel) rfl ?_
  intro p e s m args below meth c s₁ Bd hml hv
  obtain ⟨rfl, hp⟩ := hv
  have hp : e_Pic D cA B S s s.heap := hp
  have hx := Bd.exec
  have hb := Bd.bytes
  have hrt := Bd.returns
  have hlk := Bd.notSynchronized
  have hown : s.vm.findClass RX13 = some m.cls := findClass_of_methodNamed Bd.named
  have hts : ∀ w ∈ e_tb, w.before ([e_rv B (x0), .int (iI (x1)), .int (iI (x2))] : List Value).toArray s = true := fun w h => atoms_spec (ws := (e_wu yX13_copiesLine cX13_copiesLine 4 none)) Bd.pre w (List.mem_cons_of_mem _ h)
  have E : e_En p s m ([e_rv B (x0), .int (iI (x1)), .int (iI (x2))] : List Value).toArray meth c cX13_copiesLine RX13 4 none := ⟨hx, hb, hml, hown, hts, hlk, hrt⟩
  have hS : va_S (e_A B) s.heap s.heap [] := va_S.rf
  have hl := e_entry (vs := [e_rv B (x0), .int (iI (x1)), .int (iI (x2))]) (n := 4) (Nat.le_of_ble_eq_true rfl) (e_cc (e_rv_cat _ _) (e_cc rfl (e_cc rfl e_cn)))
  rw [lg_entry_eq]
  generalize (lg_sl [e_rv B (x0), .int (iI (x1)), .int (iI (x2))] ++ List.replicate (4 - (lg_sl [e_rv B (x0), .int (iI (x1)), .int (iI (x2))]).length) Slot.unset).toArray = ls at hl ⊢
  generalize ([e_rv B (x0), .int (iI (x1)), .int (iI (x2))] : List Value).toArray = args at hts E ⊢
  have hl : e_lo ls 4 [(0, e_rv B (x0)), (1, .int (iI (x1))), (2, .int (iI (x2)))] := hl
  have hsh := (gd_some hsh).2
  refine e_aload_n (B := B) (x := x0) hx hb dX13_copiesLine_0 rfl (hl.at 0 rfl) ?_
  obtain ⟨v1, h1, hsh⟩ := Option.bind_eq_some_iff.mp hsh
  refine e_getR (k := 3) hx hb hts in_X13 hown hp h1 rfl (by decide) (by decide) rfl (hts _ kf13_17) rfl dX13_copiesLine_1 ?_
  refine lv_iload_n hx hb dX13_copiesLine_4 rfl (hl.at 2 rfl) ?_
  refine e_aload_n (B := B) (x := x0) hx hb dX13_copiesLine_5 rfl (hl.at 0 rfl) ?_
  obtain ⟨v6, h6, hsh⟩ := Option.bind_eq_some_iff.mp hsh
  refine e_getR (k := 3) hx hb hts in_X13 hown hp h6 rfl (by decide) (by decide) rfl (hts _ kf13_17) rfl dX13_copiesLine_6 ?_
  refine lv_iload_n hx hb dX13_copiesLine_9 rfl (hl.at 1 rfl) ?_
  obtain ⟨v10, h10, hsh⟩ := Option.bind_eq_some_iff.mp hsh
  refine e_iald hx hb hp h10 dX13_copiesLine_10 ?_
  obtain ⟨S11, h11, hsh⟩ := Option.bind_eq_some_iff.mp hsh
  refine e_iast hx hb hp hS h11 dX13_copiesLine_11 (fun H locs hp hS => ?_)
  refine lv_iconst (v := iI (0)) hx hb dX13_copiesLine_12 rfl ?_
  refine e_istore_n (lv' := [(3, .int (iI (0))), (0, e_rv B (x0)), (1, .int (iI (x1))), (2, .int (iI (x2)))]) hx hb dX13_copiesLine_13 rfl hl (by decide) rfl (fun ls hl => ?_)
  exact w13_copiesLine_l14 E 1000000 hp hS (hl.sub [1, 2, 3, 0] rfl) hsh
theorem ok13_indent {S : HP} {x0 : Int} {x1 : Int} {r : Int × HP} (h : s13_indent S x0 x1 = some r) : 0 ≤ x0 ∧ x0.toNat < e_n S ∧ e_g S x0.toNat = 13 := (gd_some h).1
set_option maxRecDepth 100000 in
set_option maxHeartbeats 4000000 in
theorem w13_indent_b50 {p : Program} {l : Launch} {e : Env} {s : State} {m : MethodId} {args : Array Value} {below : List Frame} {meth : Method} {c : Code} {D : va_G} {cA : Nat → ClassId} {B : Nat} {res : Int × HP} (E : e_En p s m args meth c cX13_indent RX13 3 (some .int)) {ls : Array Slot} {H : Heap} {locs : List Loc} {S : HP} {y0 : Int} (hp : e_Pic D cA B S s H) (hS : va_S (e_A B) s.heap H locs) (hl : e_lo ls 3 []) (hsh : s13_indent_b50 S y0 = some res) : W p l e ({ frames := 1, cells := 0, slots := 0, locals := 22 } : Room) s m args below meth c H locs 0 0 (MQ below (e_Qi D cA B res.1 res.2) args s 0 0 (e_A B)) (F0 m 50 ls [.int (iI (y0))]) := by
  obtain ⟨hx, hb, hml, hown, hts, hlk, hrt⟩ := id E
  unfold s13_indent_b50 at hsh
  cases hsh
  exact e_iret hx hb hrt hlk hp hS dX13_indent_50
set_option maxRecDepth 100000 in
set_option maxHeartbeats 4000000 in
theorem w13_indent_b29 {p : Program} {l : Launch} {e : Env} {s : State} {m : MethodId} {args : Array Value} {below : List Frame} {meth : Method} {c : Code} {D : va_G} {cA : Nat → ClassId} {B : Nat} {res : Int × HP} (E : e_En p s m args meth c cX13_indent RX13 3 (some .int)) {ls : Array Slot} {H : Heap} {locs : List Loc} {S : HP} {x0 : Int} {x1 : Int} {x2 : Int} (hp : e_Pic D cA B S s H) (hS : va_S (e_A B) s.heap H locs) (hl : e_lo ls 3 [(0, e_rv B (x0)), (1, .int (iI (x1))), (2, .int (iI (x2)))]) (hsh : s13_indent_b29 S x0 x1 x2 = some res) : W p l e ({ frames := 1, cells := 0, slots := 0, locals := 22 } : Room) s m args below meth c H locs 0 0 (MQ below (e_Qi D cA B res.1 res.2) args s 0 0 (e_A B)) (F0 m 29 ls []) := by
  obtain ⟨hx, hb, hml, hown, hts, hlk, hrt⟩ := id E
  unfold s13_indent_b29 at hsh
  refine lv_iload_n hx hb dX13_indent_29 rfl (hl.at 2 rfl) ?_
  refine e_aload_n (B := B) (x := x0) hx hb dX13_indent_30 rfl (hl.at 0 rfl) ?_
  obtain ⟨v31, h31, hsh⟩ := Option.bind_eq_some_iff.mp hsh
  refine e_getR (k := 3) hx hb hts in_X13 hown hp h31 rfl (by decide) (by decide) rfl (hts _ kf13_17) rfl dX13_indent_31 ?_
  refine lv_iload_n hx hb dX13_indent_34 rfl (hl.at 1 rfl) ?_
  obtain ⟨v35, h35, hsh⟩ := Option.bind_eq_some_iff.mp hsh
  refine e_iald hx hb hp h35 dX13_indent_35 ?_
  refine e_icmp_ne (tgt := 49) hx hb dX13_indent_36 (by decide) (fun c36 => ?_) (fun c36 => ?_)
  · rw [if_neg c36] at hsh
    refine lv_iload_n hx hb dX13_indent_49 rfl (hl.at 2 rfl) ?_
    exact w13_indent_b50 E hp hS (hl.sub [] rfl) hsh
  · rw [if_pos c36] at hsh
    refine lv_iconst (v := iI (0)) hx hb dX13_indent_39 rfl ?_
    refine lv_iload_n hx hb dX13_indent_40 rfl (hl.at 2 rfl) ?_
    refine lv_iconst (v := iI (1)) hx hb dX13_indent_41 rfl ?_
    refine e_isub hx hb dX13_indent_42 ?_
    obtain ⟨⟨v43, S43⟩, h43, hsh⟩ := Option.bind_eq_some_iff.mp hsh
    have hsh : _ = _ := hsh
    try dsimp only at hsh
    refine e_callS (nL := 3) (mc := 0) (ms := 0) (As := [.int (iI (0)), .int (iI ((x2 - 1)))]) (rest := []) hx hb hml hown hts hp hS hl.size (c13_greater l D cA B S S43 (0) ((x2 - 1)) v43 h43) rfl rfl kd13_greater (kl13_210) ks13_greater ki13 kh13_greater ⟨Nat.le_of_ble_eq_true rfl, Nat.le_of_ble_eq_true rfl⟩ rfl (by simp [e_rv_cat, e_int_cat]) ⟨Nat.le_refl _, Nat.le_refl _⟩ dX13_indent_43 rfl (fun H locs hp hS => ?_)
    refine lv_goto (tgt := 50) hx hb dX13_indent_46 (by decide) ?_
    exact w13_indent_b50 E hp hS (hl.sub [] rfl) hsh
set_option maxRecDepth 100000 in
set_option maxHeartbeats 4000000 in
theorem w13_indent_l2 {p : Program} {l : Launch} {e : Env} {s : State} {m : MethodId} {args : Array Value} {below : List Frame} {meth : Method} {c : Code} {D : va_G} {cA : Nat → ClassId} {B : Nat} {res : Int × HP} (E : e_En p s m args meth c cX13_indent RX13 3 (some .int)) : ∀ (f : Nat) {ls : Array Slot} {H : Heap} {locs : List Loc} {S : HP} {x0 : Int} {x1 : Int} {x2 : Int} (hp : e_Pic D cA B S s H) (hS : va_S (e_A B) s.heap H locs) (hl : e_lo ls 3 [(0, e_rv B (x0)), (1, .int (iI (x1))), (2, .int (iI (x2)))]) (hsh : s13_indent_l2 f S x0 x1 x2 = some res), W p l e ({ frames := 1, cells := 0, slots := 0, locals := 22 } : Room) s m args below meth c H locs 0 0 (MQ below (e_Qi D cA B res.1 res.2) args s 0 0 (e_A B)) (F0 m 2 ls []) := by
  obtain ⟨hx, hb, hml, hown, hts, hlk, hrt⟩ := id E
  intro f
  induction f with
  | zero => intro ls H locs S x0 x1 x2 hp hS hl hsh; cases hsh
  | succ f ih =>
    intro ls H locs S x0 x1 x2 hp hS hl hsh
    have hk2 : ∀ {ls : Array Slot} {H : Heap} {locs : List Loc} {S : HP} {x0 : Int} {x1 : Int} {x2 : Int} (hp : e_Pic D cA B S s H) (hS : va_S (e_A B) s.heap H locs) (hl : e_lo ls 3 [(0, e_rv B (x0)), (1, .int (iI (x1))), (2, .int (iI (x2)))]) (hsh : (s13_indent_l2 f) S x0 x1 x2 = some res), W p l e ({ frames := 1, cells := 0, slots := 0, locals := 22 } : Room) s m args below meth c H locs 0 0 (MQ below (e_Qi D cA B res.1 res.2) args s 0 0 (e_A B)) (F0 m 2 ls []) := ih
    generalize hkk : s13_indent_l2 f = k2 at hk2
    rw [s13_indent_l2] at hsh
    rw [hkk] at hsh
    try dsimp only at hsh
    refine lv_iload_n hx hb dX13_indent_2 rfl (hl.at 2 rfl) ?_
    refine e_aload_n (B := B) (x := x0) hx hb dX13_indent_3 rfl (hl.at 0 rfl) ?_
    obtain ⟨v4, h4, hsh⟩ := Option.bind_eq_some_iff.mp hsh
    refine e_getR (k := 3) hx hb hts in_X13 hown hp h4 rfl (by decide) (by decide) rfl (hts _ kf13_17) rfl dX13_indent_4 ?_
    refine lv_iload_n hx hb dX13_indent_7 rfl (hl.at 1 rfl) ?_
    obtain ⟨v8, h8, hsh⟩ := Option.bind_eq_some_iff.mp hsh
    refine e_iald hx hb hp h8 dX13_indent_8 ?_
    refine e_icmp_ge (tgt := 29) hx hb dX13_indent_9 (by decide) (fun c9 => ?_) (fun c9 => ?_)
    · rw [if_pos c9] at hsh
      exact w13_indent_b29 E hp hS (hl.sub [0, 1, 2] rfl) hsh
    · rw [if_neg c9] at hsh
      refine e_aload_n (B := B) (x := x0) hx hb dX13_indent_12 rfl (hl.at 0 rfl) ?_
      refine lv_iload_n hx hb dX13_indent_13 rfl (hl.at 1 rfl) ?_
      refine lv_iload_n hx hb dX13_indent_14 rfl (hl.at 2 rfl) ?_
      obtain ⟨⟨v15, S15⟩, h15, hsh⟩ := Option.bind_eq_some_iff.mp hsh
      have hsh : _ = _ := hsh
      try dsimp only at hsh
      have ok15 := ok13_at h15
      refine e_callI (nL := 3) (mc := 0) (ms := 0) (T := TX13) (N := 126) (As := [.int (iI (x1)), .int (iI (x2))]) (rest := []) hx hb hml hown hts hp hS hl.size ok15.1 ok15.2.1 ok15.2.2 rfl (by decide) (c13_at l D cA B S S15 (x0) (x1) (x2) v15 h15) rfl rfl kd13_at (kl13_206) ks13_at kv13_at ki13 kh13_at ⟨Nat.le_of_ble_eq_true rfl, Nat.le_of_ble_eq_true rfl⟩ rfl (by simp [e_rv_cat, e_int_cat]) ⟨Nat.le_refl _, Nat.le_refl _⟩ dX13_indent_15 rfl (fun H locs hp hS => ?_)
      refine lv_bipush (v := iI (32)) hx hb dX13_indent_18 (by decide +kernel) ?_
      refine e_icmp_ne (tgt := 29) hx hb dX13_indent_20 (by decide) (fun c20 => ?_) (fun c20 => ?_)
      · rw [if_neg c20] at hsh
        exact w13_indent_b29 E hp hS (hl.sub [0, 1, 2] rfl) hsh
      · rw [if_pos c20] at hsh
        refine e_iinc (n := 1) (x := x2) (lv' := [(2, .int (iI ((x2 + 1)))), (0, e_rv B (x0)), (1, .int (iI (x1)))]) hx hb dX13_indent_23 hl (k := 2) rfl (by decide) rfl (fun ls hl => ?_)
        refine lv_goto (tgt := 2) hx hb dX13_indent_26 (by decide) ?_
        exact hk2 hp hS (hl.sub [1, 2, 0] rfl) hsh
set_option maxRecDepth 100000 in
set_option maxHeartbeats 4000000 in
theorem c13_indent (l : Launch) (D : va_G) (cA : Nat → ClassId) (B : Nat) (S S' : HP) (x0 : Int) (x1 : Int) (r : Int) (hsh : s13_indent S x0 x1 = some (r, S')) : Met l yX13_indent (e_wu yX13_indent cX13_indent 3 (some .int)) ({ frames := 1, cells := 0, slots := 0, locals := 22 } : Room) (va_Pc [e_rv B (x0), .int (iI (x1))] (fun U => e_PU D cA B S U)) (e_Qi D cA B r S') 0 0 (e_A B) := by
  refine Met.ofW (cc := cX13_indent) (maxL := 3) (ret := (some .int)) (by decide +kernel) rfl ?_
  intro p e s m args below meth c s₁ Bd hml hv
  obtain ⟨rfl, hp⟩ := hv
  have hp : e_Pic D cA B S s s.heap := hp
  have hx := Bd.exec
  have hb := Bd.bytes
  have hrt := Bd.returns
  have hlk := Bd.notSynchronized
  have hown : s.vm.findClass RX13 = some m.cls := findClass_of_methodNamed Bd.named
  have hts : ∀ w ∈ e_tb, w.before ([e_rv B (x0), .int (iI (x1))] : List Value).toArray s = true := fun w h => atoms_spec (ws := (e_wu yX13_indent cX13_indent 3 (some .int))) Bd.pre w (List.mem_cons_of_mem _ h)
  have E : e_En p s m ([e_rv B (x0), .int (iI (x1))] : List Value).toArray meth c cX13_indent RX13 3 (some .int) := ⟨hx, hb, hml, hown, hts, hlk, hrt⟩
  have hS : va_S (e_A B) s.heap s.heap [] := va_S.rf
  have hl := e_entry (vs := [e_rv B (x0), .int (iI (x1))]) (n := 3) (Nat.le_of_ble_eq_true rfl) (e_cc (e_rv_cat _ _) (e_cc rfl e_cn))
  rw [lg_entry_eq]
  generalize (lg_sl [e_rv B (x0), .int (iI (x1))] ++ List.replicate (3 - (lg_sl [e_rv B (x0), .int (iI (x1))]).length) Slot.unset).toArray = ls at hl ⊢
  generalize ([e_rv B (x0), .int (iI (x1))] : List Value).toArray = args at hts E ⊢
  have hl : e_lo ls 3 [(0, e_rv B (x0)), (1, .int (iI (x1)))] := hl
  have hsh := (gd_some hsh).2
  refine lv_iconst (v := iI (0)) hx hb dX13_indent_0 rfl ?_
  refine e_istore_n (lv' := [(2, .int (iI (0))), (0, e_rv B (x0)), (1, .int (iI (x1)))]) hx hb dX13_indent_1 rfl hl (by decide) rfl (fun ls hl => ?_)
  exact w13_indent_l2 E 1000000 hp hS (hl.sub [1, 2, 0] rfl) hsh
theorem ok13_lastOf {S : HP} {x0 : Int} {x1 : Int} {r : Int × HP} (h : s13_lastOf S x0 x1 = some r) : 0 ≤ x0 ∧ x0.toNat < e_n S ∧ e_g S x0.toNat = 13 := (gd_some h).1
set_option maxRecDepth 100000 in
set_option maxHeartbeats 4000000 in
theorem c13_lastOf (l : Launch) (D : va_G) (cA : Nat → ClassId) (B : Nat) (S S' : HP) (x0 : Int) (x1 : Int) (r : Int) (hsh : s13_lastOf S x0 x1 = some (r, S')) : Met l yX13_lastOf (e_wu yX13_lastOf cX13_lastOf 2 (some .int)) ({ frames := 1, cells := 0, slots := 0, locals := 21 } : Room) (va_Pc [e_rv B (x0), .int (iI (x1))] (fun U => e_PU D cA B S U)) (e_Qi D cA B r S') 0 0 (e_A B) := by
  refine Met.ofW (cc := cX13_lastOf) (maxL := 2) (ret := (some .int)) (by decide +kernel) rfl ?_
  intro p e s m args below meth c s₁ Bd hml hv
  obtain ⟨rfl, hp⟩ := hv
  have hp : e_Pic D cA B S s s.heap := hp
  have hx := Bd.exec
  have hb := Bd.bytes
  have hrt := Bd.returns
  have hlk := Bd.notSynchronized
  have hown : s.vm.findClass RX13 = some m.cls := findClass_of_methodNamed Bd.named
  have hts : ∀ w ∈ e_tb, w.before ([e_rv B (x0), .int (iI (x1))] : List Value).toArray s = true := fun w h => atoms_spec (ws := (e_wu yX13_lastOf cX13_lastOf 2 (some .int))) Bd.pre w (List.mem_cons_of_mem _ h)
  have E : e_En p s m ([e_rv B (x0), .int (iI (x1))] : List Value).toArray meth c cX13_lastOf RX13 2 (some .int) := ⟨hx, hb, hml, hown, hts, hlk, hrt⟩
  have hS : va_S (e_A B) s.heap s.heap [] := va_S.rf
  have hl := e_entry (vs := [e_rv B (x0), .int (iI (x1))]) (n := 2) (Nat.le_of_ble_eq_true rfl) (e_cc (e_rv_cat _ _) (e_cc rfl e_cn))
  rw [lg_entry_eq]
  generalize (lg_sl [e_rv B (x0), .int (iI (x1))] ++ List.replicate (2 - (lg_sl [e_rv B (x0), .int (iI (x1))]).length) Slot.unset).toArray = ls at hl ⊢
  generalize ([e_rv B (x0), .int (iI (x1))] : List Value).toArray = args at hts E ⊢
  have hl : e_lo ls 2 [(0, e_rv B (x0)), (1, .int (iI (x1)))] := hl
  have hsh := (gd_some hsh).2
  refine lv_iconst (v := iI (0)) hx hb dX13_lastOf_0 rfl ?_
  refine e_aload_n (B := B) (x := x0) hx hb dX13_lastOf_1 rfl (hl.at 0 rfl) ?_
  obtain ⟨v2, h2, hsh⟩ := Option.bind_eq_some_iff.mp hsh
  refine e_getR (k := 3) hx hb hts in_X13 hown hp h2 rfl (by decide) (by decide) rfl (hts _ kf13_17) rfl dX13_lastOf_2 ?_
  refine lv_iload_n hx hb dX13_lastOf_5 rfl (hl.at 1 rfl) ?_
  obtain ⟨v6, h6, hsh⟩ := Option.bind_eq_some_iff.mp hsh
  refine e_iald hx hb hp h6 dX13_lastOf_6 ?_
  refine lv_iconst (v := iI (1)) hx hb dX13_lastOf_7 rfl ?_
  refine e_isub hx hb dX13_lastOf_8 ?_
  obtain ⟨⟨v9, S9⟩, h9, hsh⟩ := Option.bind_eq_some_iff.mp hsh
  have hsh : _ = _ := hsh
  try dsimp only at hsh
  refine e_callS (nL := 2) (mc := 0) (ms := 0) (As := [.int (iI (0)), .int (iI ((v6 - 1)))]) (rest := []) hx hb hml hown hts hp hS hl.size (c13_greater l D cA B S S9 (0) ((v6 - 1)) v9 h9) rfl rfl kd13_greater (kl13_210) ks13_greater ki13 kh13_greater ⟨Nat.le_of_ble_eq_true rfl, Nat.le_of_ble_eq_true rfl⟩ rfl (by simp [e_rv_cat, e_int_cat]) ⟨Nat.le_refl _, Nat.le_refl _⟩ dX13_lastOf_9 rfl (fun H locs hp hS => ?_)
  cases hsh
  exact e_iret hx hb hrt hlk hp hS dX13_lastOf_12
theorem ok13_goes {S : HP} {x0 : Int} {x1 : Int} {x2 : Int} {r : HP} (h : s13_goes S x0 x1 x2 = some r) : 0 ≤ x0 ∧ x0.toNat < e_n S ∧ e_g S x0.toNat = 13 := (gd_some h).1
set_option maxRecDepth 100000 in
set_option maxHeartbeats 4000000 in
theorem c13_goes (l : Launch) (D : va_G) (cA : Nat → ClassId) (B : Nat) (S S' : HP) (x0 : Int) (x1 : Int) (x2 : Int) (hsh : s13_goes S x0 x1 x2 = some S') : Met l yX13_goes (e_wu yX13_goes cX13_goes 3 none) ({ frames := 0, cells := 0, slots := 0, locals := 0 } : Room) (va_Pc [e_rv B (x0), .int (iI (x1)), .int (iI (x2))] (fun U => e_PU D cA B S U)) (e_Qv D cA B S') 0 0 (e_A B) := by
  refine Met.ofW (cc := cX13_goes) (maxL := 3) (ret := none) (by decide +kernel) rfl ?_
  intro p e s m args below meth c s₁ Bd hml hv
  obtain ⟨rfl, hp⟩ := hv
  have hp : e_Pic D cA B S s s.heap := hp
  have hx := Bd.exec
  have hb := Bd.bytes
  have hrt := Bd.returns
  have hlk := Bd.notSynchronized
  have hown : s.vm.findClass RX13 = some m.cls := findClass_of_methodNamed Bd.named
  have hts : ∀ w ∈ e_tb, w.before ([e_rv B (x0), .int (iI (x1)), .int (iI (x2))] : List Value).toArray s = true := fun w h => atoms_spec (ws := (e_wu yX13_goes cX13_goes 3 none)) Bd.pre w (List.mem_cons_of_mem _ h)
  have E : e_En p s m ([e_rv B (x0), .int (iI (x1)), .int (iI (x2))] : List Value).toArray meth c cX13_goes RX13 3 none := ⟨hx, hb, hml, hown, hts, hlk, hrt⟩
  have hS : va_S (e_A B) s.heap s.heap [] := va_S.rf
  have hl := e_entry (vs := [e_rv B (x0), .int (iI (x1)), .int (iI (x2))]) (n := 3) (Nat.le_of_ble_eq_true rfl) (e_cc (e_rv_cat _ _) (e_cc rfl (e_cc rfl e_cn)))
  rw [lg_entry_eq]
  generalize (lg_sl [e_rv B (x0), .int (iI (x1)), .int (iI (x2))] ++ List.replicate (3 - (lg_sl [e_rv B (x0), .int (iI (x1)), .int (iI (x2))]).length) Slot.unset).toArray = ls at hl ⊢
  generalize ([e_rv B (x0), .int (iI (x1)), .int (iI (x2))] : List Value).toArray = args at hts E ⊢
  have hl : e_lo ls 3 [(0, e_rv B (x0)), (1, .int (iI (x1))), (2, .int (iI (x2)))] := hl
  have hsh := (gd_some hsh).2
  refine e_aload_n (B := B) (x := x0) hx hb dX13_goes_0 rfl (hl.at 0 rfl) ?_
  refine lv_iload_n hx hb dX13_goes_1 rfl (hl.at 1 rfl) ?_
  obtain ⟨S2, h2, hsh⟩ := Option.bind_eq_some_iff.mp hsh
  refine e_putI (k := 5) hx hb hts in_X13 tyX13 tyX13_ok nmX13 hown hp hS h2 rfl (by decide) (by decide) rfl (hts _ kf13_213) rfl rfl (by decide +kernel) dX13_goes_2 (fun H locs hp hS => ?_)
  refine e_aload_n (B := B) (x := x0) hx hb dX13_goes_5 rfl (hl.at 0 rfl) ?_
  refine lv_iload_n hx hb dX13_goes_6 rfl (hl.at 2 rfl) ?_
  obtain ⟨S7, h7, hsh⟩ := Option.bind_eq_some_iff.mp hsh
  refine e_putI (k := 6) hx hb hts in_X13 tyX13 tyX13_ok nmX13 hown hp hS h7 rfl (by decide) (by decide) rfl (hts _ kf13_216) rfl rfl (by decide +kernel) dX13_goes_7 (fun H locs hp hS => ?_)
  refine e_aload_n (B := B) (x := x0) hx hb dX13_goes_10 rfl (hl.at 0 rfl) ?_
  refine lv_iload_n hx hb dX13_goes_11 rfl (hl.at 2 rfl) ?_
  obtain ⟨S12, h12, hsh⟩ := Option.bind_eq_some_iff.mp hsh
  refine e_putI (k := 7) hx hb hts in_X13 tyX13 tyX13_ok nmX13 hown hp hS h12 rfl (by decide) (by decide) rfl (hts _ kf13_219) rfl rfl (by decide +kernel) dX13_goes_12 (fun H locs hp hS => ?_)
  cases hsh
  exact e_vret hx hb hrt hlk hp hS dX13_goes_15
theorem ok13_goesTo {S : HP} {x0 : Int} {x1 : Int} {r : HP} (h : s13_goesTo S x0 x1 = some r) : 0 ≤ x0 ∧ x0.toNat < e_n S ∧ e_g S x0.toNat = 13 := (gd_some h).1
set_option maxRecDepth 100000 in
set_option maxHeartbeats 4000000 in
theorem c13_goesTo (l : Launch) (D : va_G) (cA : Nat → ClassId) (B : Nat) (S S' : HP) (x0 : Int) (x1 : Int) (hsh : s13_goesTo S x0 x1 = some S') : Met l yX13_goesTo (e_wu yX13_goesTo cX13_goesTo 2 none) ({ frames := 2, cells := 0, slots := 0, locals := 44 } : Room) (va_Pc [e_rv B (x0), .int (iI (x1))] (fun U => e_PU D cA B S U)) (e_Qv D cA B S') 0 0 (e_A B) := by
  refine Met.ofW (cc := cX13_goesTo) (maxL := 2) (ret := none) (by decide +kernel) rfl ?_
  intro p e s m args below meth c s₁ Bd hml hv
  obtain ⟨rfl, hp⟩ := hv
  have hp : e_Pic D cA B S s s.heap := hp
  have hx := Bd.exec
  have hb := Bd.bytes
  have hrt := Bd.returns
  have hlk := Bd.notSynchronized
  have hown : s.vm.findClass RX13 = some m.cls := findClass_of_methodNamed Bd.named
  have hts : ∀ w ∈ e_tb, w.before ([e_rv B (x0), .int (iI (x1))] : List Value).toArray s = true := fun w h => atoms_spec (ws := (e_wu yX13_goesTo cX13_goesTo 2 none)) Bd.pre w (List.mem_cons_of_mem _ h)
  have E : e_En p s m ([e_rv B (x0), .int (iI (x1))] : List Value).toArray meth c cX13_goesTo RX13 2 none := ⟨hx, hb, hml, hown, hts, hlk, hrt⟩
  have hS : va_S (e_A B) s.heap s.heap [] := va_S.rf
  have hl := e_entry (vs := [e_rv B (x0), .int (iI (x1))]) (n := 2) (Nat.le_of_ble_eq_true rfl) (e_cc (e_rv_cat _ _) (e_cc rfl e_cn))
  rw [lg_entry_eq]
  generalize (lg_sl [e_rv B (x0), .int (iI (x1))] ++ List.replicate (2 - (lg_sl [e_rv B (x0), .int (iI (x1))]).length) Slot.unset).toArray = ls at hl ⊢
  generalize ([e_rv B (x0), .int (iI (x1))] : List Value).toArray = args at hts E ⊢
  have hl : e_lo ls 2 [(0, e_rv B (x0)), (1, .int (iI (x1)))] := hl
  have hsh := (gd_some hsh).2
  refine e_aload_n (B := B) (x := x0) hx hb dX13_goesTo_0 rfl (hl.at 0 rfl) ?_
  refine lv_iload_n hx hb dX13_goesTo_1 rfl (hl.at 1 rfl) ?_
  refine e_aload_n (B := B) (x := x0) hx hb dX13_goesTo_2 rfl (hl.at 0 rfl) ?_
  refine lv_iload_n hx hb dX13_goesTo_3 rfl (hl.at 1 rfl) ?_
  obtain ⟨⟨v4, S4⟩, h4, hsh⟩ := Option.bind_eq_some_iff.mp hsh
  have hsh : _ = _ := hsh
  try dsimp only at hsh
  have ok4 := ok13_indent h4
  refine e_callI (nL := 2) (mc := 0) (ms := 0) (T := TX13) (N := 126) (As := [.int (iI (x1))]) (rest := [.int (iI (x1)), e_rv B (x0)]) hx hb hml hown hts hp hS hl.size ok4.1 ok4.2.1 ok4.2.2 rfl (by decide) (c13_indent l D cA B S S4 (x0) (x1) v4 h4) rfl rfl kd13_indent (kl13_222) ks13_indent kv13_indent ki13 kh13_indent ⟨Nat.le_of_ble_eq_true rfl, Nat.le_of_ble_eq_true rfl⟩ rfl (by simp [e_rv_cat, e_int_cat]) ⟨Nat.le_refl _, Nat.le_refl _⟩ dX13_goesTo_4 rfl (fun H locs hp hS => ?_)
  obtain ⟨S7, h7, hsh⟩ := Option.bind_eq_some_iff.mp hsh
  have ok7 := ok13_goes h7
  refine e_callV (nL := 2) (mc := 0) (ms := 0) (T := TX13) (N := 126) (As := [.int (iI (x1)), .int (iI (v4))]) (rest := []) hx hb hml hown hts hp hS hl.size ok7.1 ok7.2.1 ok7.2.2 rfl (by decide) (c13_goes l D cA B S4 S7 (x0) (x1) (v4) h7) rfl rfl kd13_goes (kl13_226) ks13_goes kv13_goes ki13 kh13_goes ⟨Nat.le_of_ble_eq_true rfl, Nat.le_of_ble_eq_true rfl⟩ rfl (by simp [e_rv_cat, e_int_cat]) ⟨Nat.le_refl _, Nat.le_refl _⟩ dX13_goesTo_7 rfl (fun H locs hp hS => ?_)
  cases hsh
  exact e_vret hx hb hrt hlk hp hS dX13_goesTo_10
set_option maxRecDepth 100000 in
set_option maxHeartbeats 4000000 in
theorem w13_behind_b12 {p : Program} {l : Launch} {e : Env} {s : State} {m : MethodId} {args : Array Value} {below : List Frame} {meth : Method} {c : Code} {D : va_G} {cA : Nat → ClassId} {B : Nat} {res : Int × HP} (E : e_En p s m args meth c cX13_behind RX13 3 (some .int)) {ls : Array Slot} {H : Heap} {locs : List Loc} {S : HP} {y0 : Int} (hp : e_Pic D cA B S s H) (hS : va_S (e_A B) s.heap H locs) (hl : e_lo ls 3 []) (hsh : s13_behind_b12 S y0 = some res) : W p l e ({ frames := 0, cells := 0, slots := 0, locals := 0 } : Room) s m args below meth c H locs 0 0 (MQ below (e_Qi D cA B res.1 res.2) args s 0 0 (e_A B)) (F0 m 12 ls [.int (iI (y0))]) := by
  obtain ⟨hx, hb, hml, hown, hts, hlk, hrt⟩ := id E
  unfold s13_behind_b12 at hsh
  cases hsh
  exact e_iret hx hb hrt hlk hp hS dX13_behind_12
set_option maxRecDepth 100000 in
set_option maxHeartbeats 4000000 in
theorem c13_behind (l : Launch) (D : va_G) (cA : Nat → ClassId) (B : Nat) (S S' : HP) (x0 : Int) (x1 : Int) (x2 : Int) (r : Int) (hsh : s13_behind S x0 x1 x2 = some (r, S')) : Met l yX13_behind (e_wu yX13_behind cX13_behind 3 (some .int)) ({ frames := 0, cells := 0, slots := 0, locals := 0 } : Room) (va_Pc [.int (iI (x0)), .int (iI (x1)), .int (iI (x2))] (fun U => e_PU D cA B S U)) (e_Qi D cA B r S') 0 0 (e_A B) := by
  refine Met.ofW (cc := cX13_behind) (maxL := 3) (ret := (some .int)) (by decide +kernel) rfl ?_
  intro p e s m args below meth c s₁ Bd hml hv
  obtain ⟨rfl, hp⟩ := hv
  have hp : e_Pic D cA B S s s.heap := hp
  have hx := Bd.exec
  have hb := Bd.bytes
  have hrt := Bd.returns
  have hlk := Bd.notSynchronized
  have hown : s.vm.findClass RX13 = some m.cls := findClass_of_methodNamed Bd.named
  have hts : ∀ w ∈ e_tb, w.before ([.int (iI (x0)), .int (iI (x1)), .int (iI (x2))] : List Value).toArray s = true := fun w h => atoms_spec (ws := (e_wu yX13_behind cX13_behind 3 (some .int))) Bd.pre w (List.mem_cons_of_mem _ h)
  have E : e_En p s m ([.int (iI (x0)), .int (iI (x1)), .int (iI (x2))] : List Value).toArray meth c cX13_behind RX13 3 (some .int) := ⟨hx, hb, hml, hown, hts, hlk, hrt⟩
  have hS : va_S (e_A B) s.heap s.heap [] := va_S.rf
  have hl := e_entry (vs := [.int (iI (x0)), .int (iI (x1)), .int (iI (x2))]) (n := 3) (Nat.le_of_ble_eq_true rfl) (e_cc rfl (e_cc rfl (e_cc rfl e_cn)))
  rw [lg_entry_eq]
  generalize (lg_sl [.int (iI (x0)), .int (iI (x1)), .int (iI (x2))] ++ List.replicate (3 - (lg_sl [.int (iI (x0)), .int (iI (x1)), .int (iI (x2))]).length) Slot.unset).toArray = ls at hl ⊢
  generalize ([.int (iI (x0)), .int (iI (x1)), .int (iI (x2))] : List Value).toArray = args at hts E ⊢
  have hl : e_lo ls 3 [(0, .int (iI (x0))), (1, .int (iI (x1))), (2, .int (iI (x2)))] := hl
  unfold s13_behind at hsh
  refine lv_iload_n hx hb dX13_behind_0 rfl (hl.at 0 rfl) ?_
  refine lv_iload_n hx hb dX13_behind_1 rfl (hl.at 1 rfl) ?_
  refine e_icmp_lt (tgt := 11) hx hb dX13_behind_2 (by decide) (fun c2 => ?_) (fun c2 => ?_)
  · rw [if_pos c2] at hsh
    refine lv_iload_n hx hb dX13_behind_11 rfl (hl.at 0 rfl) ?_
    exact w13_behind_b12 E hp hS (hl.sub [] rfl) hsh
  · rw [if_neg c2] at hsh
    refine lv_iload_n hx hb dX13_behind_5 rfl (hl.at 0 rfl) ?_
    refine lv_iload_n hx hb dX13_behind_6 rfl (hl.at 2 rfl) ?_
    refine e_iadd hx hb dX13_behind_7 ?_
    refine lv_goto (tgt := 12) hx hb dX13_behind_8 (by decide) ?_
    exact w13_behind_b12 E hp hS (hl.sub [] rfl) hsh
set_option maxRecDepth 100000 in
set_option maxHeartbeats 4000000 in
theorem w13_without_b25 {p : Program} {l : Launch} {e : Env} {s : State} {m : MethodId} {args : Array Value} {below : List Frame} {meth : Method} {c : Code} {D : va_G} {cA : Nat → ClassId} {B : Nat} {res : Int × HP} (E : e_En p s m args meth c cX13_without RX13 3 (some .int)) {ls : Array Slot} {H : Heap} {locs : List Loc} {S : HP} {y0 : Int} (hp : e_Pic D cA B S s H) (hS : va_S (e_A B) s.heap H locs) (hl : e_lo ls 3 []) (hsh : s13_without_b25 S y0 = some res) : W p l e ({ frames := 0, cells := 0, slots := 0, locals := 0 } : Room) s m args below meth c H locs 0 0 (MQ below (e_Qi D cA B res.1 res.2) args s 0 0 (e_A B)) (F0 m 25 ls [.int (iI (y0))]) := by
  obtain ⟨hx, hb, hml, hown, hts, hlk, hrt⟩ := id E
  unfold s13_without_b25 at hsh
  cases hsh
  exact e_iret hx hb hrt hlk hp hS dX13_without_25
set_option maxRecDepth 100000 in
set_option maxHeartbeats 4000000 in
theorem c13_without (l : Launch) (D : va_G) (cA : Nat → ClassId) (B : Nat) (S S' : HP) (x0 : Int) (x1 : Int) (x2 : Int) (r : Int) (hsh : s13_without S x0 x1 x2 = some (r, S')) : Met l yX13_without (e_wu yX13_without cX13_without 3 (some .int)) ({ frames := 0, cells := 0, slots := 0, locals := 0 } : Room) (va_Pc [.int (iI (x0)), .int (iI (x1)), .int (iI (x2))] (fun U => e_PU D cA B S U)) (e_Qi D cA B r S') 0 0 (e_A B) := by
  refine Met.ofW (cc := cX13_without) (maxL := 3) (ret := (some .int)) (by decide +kernel) rfl ?_
  intro p e s m args below meth c s₁ Bd hml hv
  obtain ⟨rfl, hp⟩ := hv
  have hp : e_Pic D cA B S s s.heap := hp
  have hx := Bd.exec
  have hb := Bd.bytes
  have hrt := Bd.returns
  have hlk := Bd.notSynchronized
  have hown : s.vm.findClass RX13 = some m.cls := findClass_of_methodNamed Bd.named
  have hts : ∀ w ∈ e_tb, w.before ([.int (iI (x0)), .int (iI (x1)), .int (iI (x2))] : List Value).toArray s = true := fun w h => atoms_spec (ws := (e_wu yX13_without cX13_without 3 (some .int))) Bd.pre w (List.mem_cons_of_mem _ h)
  have E : e_En p s m ([.int (iI (x0)), .int (iI (x1)), .int (iI (x2))] : List Value).toArray meth c cX13_without RX13 3 (some .int) := ⟨hx, hb, hml, hown, hts, hlk, hrt⟩
  have hS : va_S (e_A B) s.heap s.heap [] := va_S.rf
  have hl := e_entry (vs := [.int (iI (x0)), .int (iI (x1)), .int (iI (x2))]) (n := 3) (Nat.le_of_ble_eq_true rfl) (e_cc rfl (e_cc rfl (e_cc rfl e_cn)))
  rw [lg_entry_eq]
  generalize (lg_sl [.int (iI (x0)), .int (iI (x1)), .int (iI (x2))] ++ List.replicate (3 - (lg_sl [.int (iI (x0)), .int (iI (x1)), .int (iI (x2))]).length) Slot.unset).toArray = ls at hl ⊢
  generalize ([.int (iI (x0)), .int (iI (x1)), .int (iI (x2))] : List Value).toArray = args at hts E ⊢
  have hl : e_lo ls 3 [(0, .int (iI (x0))), (1, .int (iI (x1))), (2, .int (iI (x2)))] := hl
  unfold s13_without at hsh
  refine lv_iload_n hx hb dX13_without_0 rfl (hl.at 0 rfl) ?_
  refine lv_iload_n hx hb dX13_without_1 rfl (hl.at 1 rfl) ?_
  refine e_icmp_ge (tgt := 9) hx hb dX13_without_2 (by decide) (fun c2 => ?_) (fun c2 => ?_)
  · rw [if_pos c2] at hsh
    refine lv_iload_n hx hb dX13_without_9 rfl (hl.at 0 rfl) ?_
    refine lv_iload_n hx hb dX13_without_10 rfl (hl.at 2 rfl) ?_
    refine e_icmp_gt (tgt := 18) hx hb dX13_without_11 (by decide) (fun c11 => ?_) (fun c11 => ?_)
    · rw [if_pos c11] at hsh
      refine lv_iload_n hx hb dX13_without_18 rfl (hl.at 0 rfl) ?_
      refine lv_iload_n hx hb dX13_without_19 rfl (hl.at 2 rfl) ?_
      refine lv_iload_n hx hb dX13_without_20 rfl (hl.at 1 rfl) ?_
      refine e_isub hx hb dX13_without_21 ?_
      refine lv_iconst (v := iI (1)) hx hb dX13_without_22 rfl ?_
      refine e_iadd hx hb dX13_without_23 ?_
      refine e_isub hx hb dX13_without_24 ?_
      exact w13_without_b25 E hp hS (hl.sub [] rfl) hsh
    · rw [if_neg c11] at hsh
      refine lv_iconst (v := iI (-1)) hx hb dX13_without_14 rfl ?_
      refine lv_goto (tgt := 25) hx hb dX13_without_15 (by decide) ?_
      exact w13_without_b25 E hp hS (hl.sub [] rfl) hsh
  · rw [if_neg c2] at hsh
    refine lv_iload_n hx hb dX13_without_5 rfl (hl.at 0 rfl) ?_
    refine lv_goto (tgt := 25) hx hb dX13_without_6 (by decide) ?_
    exact w13_without_b25 E hp hS (hl.sub [] rfl) hsh
theorem ok13_dropsJump {S : HP} {x0 : Int} {x1 : Int} {r : HP} (h : s13_dropsJump S x0 x1 = some r) : 0 ≤ x0 ∧ x0.toNat < e_n S ∧ e_g S x0.toNat = 13 := (gd_some h).1
set_option maxRecDepth 100000 in
set_option maxHeartbeats 4000000 in
theorem w13_dropsJump_b90 {p : Program} {l : Launch} {e : Env} {s : State} {m : MethodId} {args : Array Value} {below : List Frame} {meth : Method} {c : Code} {D : va_G} {cA : Nat → ClassId} {B : Nat} {res : HP} (E : e_En p s m args meth c cX13_dropsJump RX13 3 none) {ls : Array Slot} {H : Heap} {locs : List Loc} {S : HP} {y0 : Int} {y1 : Int} (hp : e_Pic D cA B S s H) (hS : va_S (e_A B) s.heap H locs) (hl : e_lo ls 3 []) (hsh : s13_dropsJump_b90 S y0 y1 = some res) : W p l e ({ frames := 0, cells := 0, slots := 0, locals := 0 } : Room) s m args below meth c H locs 0 0 (MQ below (e_Qv D cA B res) args s 0 0 (e_A B)) (F0 m 90 ls [.int (iI (y1)), e_rv B (y0)]) := by
  obtain ⟨hx, hb, hml, hown, hts, hlk, hrt⟩ := id E
  unfold s13_dropsJump_b90 at hsh
  obtain ⟨S90, h90, hsh⟩ := Option.bind_eq_some_iff.mp hsh
  refine e_putI (k := 19) hx hb hts in_X13 tyX13 tyX13_ok nmX13 hown hp hS h90 rfl (by decide) (by decide) rfl (hts _ kf13_45) rfl rfl (by decide +kernel) dX13_dropsJump_90 (fun H locs hp hS => ?_)
  cases hsh
  exact e_vret hx hb hrt hlk hp hS dX13_dropsJump_93
set_option maxRecDepth 100000 in
set_option maxHeartbeats 4000000 in
theorem w13_dropsJump_l2 {p : Program} {l : Launch} {e : Env} {s : State} {m : MethodId} {args : Array Value} {below : List Frame} {meth : Method} {c : Code} {D : va_G} {cA : Nat → ClassId} {B : Nat} {res : HP} (E : e_En p s m args meth c cX13_dropsJump RX13 3 none) : ∀ (f : Nat) {ls : Array Slot} {H : Heap} {locs : List Loc} {S : HP} {x0 : Int} {x1 : Int} {x2 : Int} (hp : e_Pic D cA B S s H) (hS : va_S (e_A B) s.heap H locs) (hl : e_lo ls 3 [(0, e_rv B (x0)), (1, .int (iI (x1))), (2, .int (iI (x2)))]) (hsh : s13_dropsJump_l2 f S x0 x1 x2 = some res), W p l e ({ frames := 0, cells := 0, slots := 0, locals := 0 } : Room) s m args below meth c H locs 0 0 (MQ below (e_Qv D cA B res) args s 0 0 (e_A B)) (F0 m 2 ls []) := by
  obtain ⟨hx, hb, hml, hown, hts, hlk, hrt⟩ := id E
  intro f
  induction f with
  | zero => intro ls H locs S x0 x1 x2 hp hS hl hsh; cases hsh
  | succ f ih =>
    intro ls H locs S x0 x1 x2 hp hS hl hsh
    have hk2 : ∀ {ls : Array Slot} {H : Heap} {locs : List Loc} {S : HP} {x0 : Int} {x1 : Int} {x2 : Int} (hp : e_Pic D cA B S s H) (hS : va_S (e_A B) s.heap H locs) (hl : e_lo ls 3 [(0, e_rv B (x0)), (1, .int (iI (x1))), (2, .int (iI (x2)))]) (hsh : (s13_dropsJump_l2 f) S x0 x1 x2 = some res), W p l e ({ frames := 0, cells := 0, slots := 0, locals := 0 } : Room) s m args below meth c H locs 0 0 (MQ below (e_Qv D cA B res) args s 0 0 (e_A B)) (F0 m 2 ls []) := ih
    generalize hkk : s13_dropsJump_l2 f = k2 at hk2
    rw [s13_dropsJump_l2] at hsh
    rw [hkk] at hsh
    try dsimp only at hsh
    refine lv_iload_n hx hb dX13_dropsJump_2 rfl (hl.at 2 rfl) ?_
    refine lv_iconst (v := iI (1)) hx hb dX13_dropsJump_3 rfl ?_
    refine e_iadd hx hb dX13_dropsJump_4 ?_
    refine e_aload_n (B := B) (x := x0) hx hb dX13_dropsJump_5 rfl (hl.at 0 rfl) ?_
    obtain ⟨v6, h6, hsh⟩ := Option.bind_eq_some_iff.mp hsh
    refine e_getI (k := 16) hx hb hts in_X13 hown hp h6 rfl (by decide) (by decide) rfl (hts _ kf13_234) rfl dX13_dropsJump_6 ?_
    refine e_icmp_ge (tgt := 46) hx hb dX13_dropsJump_9 (by decide) (fun c9 => ?_) (fun c9 => ?_)
    · rw [if_pos c9] at hsh
      refine e_aload_n (B := B) (x := x0) hx hb dX13_dropsJump_46 rfl (hl.at 0 rfl) ?_
      refine lv_dup hx hb dX13_dropsJump_47 (e_rv_cat _ _) ?_
      obtain ⟨v48, h48, hsh⟩ := Option.bind_eq_some_iff.mp hsh
      refine e_getI (k := 16) hx hb hts in_X13 hown hp h48 rfl (by decide) (by decide) rfl (hts _ kf13_234) rfl dX13_dropsJump_48 ?_
      refine lv_iconst (v := iI (1)) hx hb dX13_dropsJump_51 rfl ?_
      refine e_isub hx hb dX13_dropsJump_52 ?_
      obtain ⟨S53, h53, hsh⟩ := Option.bind_eq_some_iff.mp hsh
      refine e_putI (k := 16) hx hb hts in_X13 tyX13 tyX13_ok nmX13 hown hp hS h53 rfl (by decide) (by decide) rfl (hts _ kf13_234) rfl rfl (by decide +kernel) dX13_dropsJump_53 (fun H locs hp hS => ?_)
      refine e_aload_n (B := B) (x := x0) hx hb dX13_dropsJump_56 rfl (hl.at 0 rfl) ?_
      refine e_aload_n (B := B) (x := x0) hx hb dX13_dropsJump_57 rfl (hl.at 0 rfl) ?_
      obtain ⟨v58, h58, hsh⟩ := Option.bind_eq_some_iff.mp hsh
      refine e_getI (k := 19) hx hb hts in_X13 hown hp h58 rfl (by decide) (by decide) rfl (hts _ kf13_45) rfl dX13_dropsJump_58 ?_
      refine lv_iload_n hx hb dX13_dropsJump_61 rfl (hl.at 1 rfl) ?_
      refine e_icmp_ne (tgt := 69) hx hb dX13_dropsJump_62 (by decide) (fun c62 => ?_) (fun c62 => ?_)
      · rw [if_neg c62] at hsh
        refine e_aload_n (B := B) (x := x0) hx hb dX13_dropsJump_69 rfl (hl.at 0 rfl) ?_
        obtain ⟨v70, h70, hsh⟩ := Option.bind_eq_some_iff.mp hsh
        refine e_getI (k := 19) hx hb hts in_X13 hown hp h70 rfl (by decide) (by decide) rfl (hts _ kf13_45) rfl dX13_dropsJump_70 ?_
        refine lv_iload_n hx hb dX13_dropsJump_73 rfl (hl.at 1 rfl) ?_
        refine e_icmp_le (tgt := 86) hx hb dX13_dropsJump_74 (by decide) (fun c74 => ?_) (fun c74 => ?_)
        · rw [if_pos c74] at hsh
          refine e_aload_n (B := B) (x := x0) hx hb dX13_dropsJump_86 rfl (hl.at 0 rfl) ?_
          obtain ⟨v87, h87, hsh⟩ := Option.bind_eq_some_iff.mp hsh
          refine e_getI (k := 19) hx hb hts in_X13 hown hp h87 rfl (by decide) (by decide) rfl (hts _ kf13_45) rfl dX13_dropsJump_87 ?_
          exact w13_dropsJump_b90 E hp hS (hl.sub [] rfl) hsh
        · rw [if_neg c74] at hsh
          refine e_aload_n (B := B) (x := x0) hx hb dX13_dropsJump_77 rfl (hl.at 0 rfl) ?_
          obtain ⟨v78, h78, hsh⟩ := Option.bind_eq_some_iff.mp hsh
          refine e_getI (k := 19) hx hb hts in_X13 hown hp h78 rfl (by decide) (by decide) rfl (hts _ kf13_45) rfl dX13_dropsJump_78 ?_
          refine lv_iconst (v := iI (1)) hx hb dX13_dropsJump_81 rfl ?_
          refine e_isub hx hb dX13_dropsJump_82 ?_
          refine lv_goto (tgt := 90) hx hb dX13_dropsJump_83 (by decide) ?_
          exact w13_dropsJump_b90 E hp hS (hl.sub [] rfl) hsh
      · rw [if_pos c62] at hsh
        refine lv_iconst (v := iI (-1)) hx hb dX13_dropsJump_65 rfl ?_
        refine lv_goto (tgt := 90) hx hb dX13_dropsJump_66 (by decide) ?_
        exact w13_dropsJump_b90 E hp hS (hl.sub [] rfl) hsh
    · rw [if_neg c9] at hsh
      refine e_aload_n (B := B) (x := x0) hx hb dX13_dropsJump_12 rfl (hl.at 0 rfl) ?_
      obtain ⟨v13, h13, hsh⟩ := Option.bind_eq_some_iff.mp hsh
      refine e_getR (k := 17) hx hb hts in_X13 hown hp h13 rfl (by decide) (by decide) rfl (hts _ kf13_39) rfl dX13_dropsJump_13 ?_
      refine lv_iload_n hx hb dX13_dropsJump_16 rfl (hl.at 2 rfl) ?_
      refine e_aload_n (B := B) (x := x0) hx hb dX13_dropsJump_17 rfl (hl.at 0 rfl) ?_
      obtain ⟨v18, h18, hsh⟩ := Option.bind_eq_some_iff.mp hsh
      refine e_getR (k := 17) hx hb hts in_X13 hown hp h18 rfl (by decide) (by decide) rfl (hts _ kf13_39) rfl dX13_dropsJump_18 ?_
      refine lv_iload_n hx hb dX13_dropsJump_21 rfl (hl.at 2 rfl) ?_
      refine lv_iconst (v := iI (1)) hx hb dX13_dropsJump_22 rfl ?_
      refine e_iadd hx hb dX13_dropsJump_23 ?_
      obtain ⟨v24, h24, hsh⟩ := Option.bind_eq_some_iff.mp hsh
      refine e_iald hx hb hp h24 dX13_dropsJump_24 ?_
      obtain ⟨S25, h25, hsh⟩ := Option.bind_eq_some_iff.mp hsh
      refine e_iast hx hb hp hS h25 dX13_dropsJump_25 (fun H locs hp hS => ?_)
      refine e_aload_n (B := B) (x := x0) hx hb dX13_dropsJump_26 rfl (hl.at 0 rfl) ?_
      obtain ⟨v27, h27, hsh⟩ := Option.bind_eq_some_iff.mp hsh
      refine e_getR (k := 18) hx hb hts in_X13 hown hp h27 rfl (by decide) (by decide) rfl (hts _ kf13_42) rfl dX13_dropsJump_27 ?_
      refine lv_iload_n hx hb dX13_dropsJump_30 rfl (hl.at 2 rfl) ?_
      refine e_aload_n (B := B) (x := x0) hx hb dX13_dropsJump_31 rfl (hl.at 0 rfl) ?_
      obtain ⟨v32, h32, hsh⟩ := Option.bind_eq_some_iff.mp hsh
      refine e_getR (k := 18) hx hb hts in_X13 hown hp h32 rfl (by decide) (by decide) rfl (hts _ kf13_42) rfl dX13_dropsJump_32 ?_
      refine lv_iload_n hx hb dX13_dropsJump_35 rfl (hl.at 2 rfl) ?_
      refine lv_iconst (v := iI (1)) hx hb dX13_dropsJump_36 rfl ?_
      refine e_iadd hx hb dX13_dropsJump_37 ?_
      obtain ⟨v38, h38, hsh⟩ := Option.bind_eq_some_iff.mp hsh
      refine e_iald hx hb hp h38 dX13_dropsJump_38 ?_
      obtain ⟨S39, h39, hsh⟩ := Option.bind_eq_some_iff.mp hsh
      refine e_iast hx hb hp hS h39 dX13_dropsJump_39 (fun H locs hp hS => ?_)
      refine e_iinc (n := 1) (x := x2) (lv' := [(2, .int (iI ((x2 + 1)))), (0, e_rv B (x0)), (1, .int (iI (x1)))]) hx hb dX13_dropsJump_40 hl (k := 2) rfl (by decide) rfl (fun ls hl => ?_)
      refine lv_goto (tgt := 2) hx hb dX13_dropsJump_43 (by decide) ?_
      exact hk2 hp hS (hl.sub [1, 2, 0] rfl) hsh
set_option maxRecDepth 100000 in
set_option maxHeartbeats 4000000 in
theorem c13_dropsJump (l : Launch) (D : va_G) (cA : Nat → ClassId) (B : Nat) (S S' : HP) (x0 : Int) (x1 : Int) (hsh : s13_dropsJump S x0 x1 = some S') : Met l yX13_dropsJump (e_wu yX13_dropsJump cX13_dropsJump 3 none) ({ frames := 0, cells := 0, slots := 0, locals := 0 } : Room) (va_Pc [e_rv B (x0), .int (iI (x1))] (fun U => e_PU D cA B S U)) (e_Qv D cA B S') 0 0 (e_A B) := by
  refine Met.ofW (cc := cX13_dropsJump) (maxL := 3) (ret := none) (by decide +kernel) rfl ?_
  intro p e s m args below meth c s₁ Bd hml hv
  obtain ⟨rfl, hp⟩ := hv
  have hp : e_Pic D cA B S s s.heap := hp
  have hx := Bd.exec
  have hb := Bd.bytes
  have hrt := Bd.returns
  have hlk := Bd.notSynchronized
  have hown : s.vm.findClass RX13 = some m.cls := findClass_of_methodNamed Bd.named
  have hts : ∀ w ∈ e_tb, w.before ([e_rv B (x0), .int (iI (x1))] : List Value).toArray s = true := fun w h => atoms_spec (ws := (e_wu yX13_dropsJump cX13_dropsJump 3 none)) Bd.pre w (List.mem_cons_of_mem _ h)
  have E : e_En p s m ([e_rv B (x0), .int (iI (x1))] : List Value).toArray meth c cX13_dropsJump RX13 3 none := ⟨hx, hb, hml, hown, hts, hlk, hrt⟩
  have hS : va_S (e_A B) s.heap s.heap [] := va_S.rf
  have hl := e_entry (vs := [e_rv B (x0), .int (iI (x1))]) (n := 3) (Nat.le_of_ble_eq_true rfl) (e_cc (e_rv_cat _ _) (e_cc rfl e_cn))
  rw [lg_entry_eq]
  generalize (lg_sl [e_rv B (x0), .int (iI (x1))] ++ List.replicate (3 - (lg_sl [e_rv B (x0), .int (iI (x1))]).length) Slot.unset).toArray = ls at hl ⊢
  generalize ([e_rv B (x0), .int (iI (x1))] : List Value).toArray = args at hts E ⊢
  have hl : e_lo ls 3 [(0, e_rv B (x0)), (1, .int (iI (x1)))] := hl
  have hsh := (gd_some hsh).2
  refine lv_iload_n hx hb dX13_dropsJump_0 rfl (hl.at 1 rfl) ?_
  refine e_istore_n (lv' := [(2, .int (iI (x1))), (0, e_rv B (x0)), (1, .int (iI (x1)))]) hx hb dX13_dropsJump_1 rfl hl (by decide) rfl (fun ls hl => ?_)
  exact w13_dropsJump_l2 E 1000000 hp hS (hl.sub [1, 2, 0] rfl) hsh
theorem ok13_addsFolds {S : HP} {x0 : Int} {x1 : Int} {x2 : Int} {x3 : Int} {x4 : Int} {r : HP} (h : s13_addsFolds S x0 x1 x2 x3 x4 = some r) : 0 ≤ x0 ∧ x0.toNat < e_n S ∧ e_g S x0.toNat = 13 := (gd_some h).1
set_option maxRecDepth 100000 in
set_option maxHeartbeats 4000000 in
theorem c13_addsFolds (l : Launch) (D : va_G) (cA : Nat → ClassId) (B : Nat) (S S' : HP) (x0 : Int) (x1 : Int) (x2 : Int) (x3 : Int) (x4 : Int) (hsh : s13_addsFolds S x0 x1 x2 x3 x4 = some S') : Met l yX13_addsFolds (e_wu yX13_addsFolds cX13_addsFolds 5 none) ({ frames := 0, cells := 0, slots := 0, locals := 0 } : Room) (va_Pc [e_rv B (x0), .int (iI (x1)), .int (iI (x2)), .int (iI (x3)), .int (iI (x4))] (fun U => e_PU D cA B S U)) (e_Qv D cA B S') 0 0 (e_A B) := by
  refine Met.ofW (cc := cX13_addsFolds) (maxL := 5) (ret := none) (by decide +kernel) rfl ?_
  intro p e s m args below meth c s₁ Bd hml hv
  obtain ⟨rfl, hp⟩ := hv
  have hp : e_Pic D cA B S s s.heap := hp
  have hx := Bd.exec
  have hb := Bd.bytes
  have hrt := Bd.returns
  have hlk := Bd.notSynchronized
  have hown : s.vm.findClass RX13 = some m.cls := findClass_of_methodNamed Bd.named
  have hts : ∀ w ∈ e_tb, w.before ([e_rv B (x0), .int (iI (x1)), .int (iI (x2)), .int (iI (x3)), .int (iI (x4))] : List Value).toArray s = true := fun w h => atoms_spec (ws := (e_wu yX13_addsFolds cX13_addsFolds 5 none)) Bd.pre w (List.mem_cons_of_mem _ h)
  have E : e_En p s m ([e_rv B (x0), .int (iI (x1)), .int (iI (x2)), .int (iI (x3)), .int (iI (x4))] : List Value).toArray meth c cX13_addsFolds RX13 5 none := ⟨hx, hb, hml, hown, hts, hlk, hrt⟩
  have hS : va_S (e_A B) s.heap s.heap [] := va_S.rf
  have hl := e_entry (vs := [e_rv B (x0), .int (iI (x1)), .int (iI (x2)), .int (iI (x3)), .int (iI (x4))]) (n := 5) (Nat.le_of_ble_eq_true rfl) (e_cc (e_rv_cat _ _) (e_cc rfl (e_cc rfl (e_cc rfl (e_cc rfl e_cn)))))
  rw [lg_entry_eq]
  generalize (lg_sl [e_rv B (x0), .int (iI (x1)), .int (iI (x2)), .int (iI (x3)), .int (iI (x4))] ++ List.replicate (5 - (lg_sl [e_rv B (x0), .int (iI (x1)), .int (iI (x2)), .int (iI (x3)), .int (iI (x4))]).length) Slot.unset).toArray = ls at hl ⊢
  generalize ([e_rv B (x0), .int (iI (x1)), .int (iI (x2)), .int (iI (x3)), .int (iI (x4))] : List Value).toArray = args at hts E ⊢
  have hl : e_lo ls 5 [(0, e_rv B (x0)), (1, .int (iI (x1))), (2, .int (iI (x2))), (3, .int (iI (x3))), (4, .int (iI (x4)))] := hl
  have hsh := (gd_some hsh).2
  refine e_aload_n (B := B) (x := x0) hx hb dX13_addsFolds_0 rfl (hl.at 0 rfl) ?_
  obtain ⟨v1, h1, hsh⟩ := Option.bind_eq_some_iff.mp hsh
  refine e_getR (k := 21) hx hb hts in_X13 hown hp h1 rfl (by decide) (by decide) rfl (hts _ kf13_48) rfl dX13_addsFolds_1 ?_
  refine lv_bipush (v := iI (40)) hx hb dX13_addsFolds_4 (by decide +kernel) ?_
  refine lv_iload_n hx hb dX13_addsFolds_6 rfl (hl.at 1 rfl) ?_
  refine e_imul hx hb dX13_addsFolds_7 ?_
  refine lv_iload_n hx hb dX13_addsFolds_8 rfl (hl.at 2 rfl) ?_
  refine e_iadd hx hb dX13_addsFolds_9 ?_
  refine lv_dup2_11 hx hb dX13_addsFolds_10 rfl (e_rv_cat _ _) ?_
  obtain ⟨v11, h11, hsh⟩ := Option.bind_eq_some_iff.mp hsh
  refine e_iald hx hb hp h11 dX13_addsFolds_11 ?_
  refine lv_iload_n hx hb dX13_addsFolds_12 rfl (hl.at 3 rfl) ?_
  refine e_iadd hx hb dX13_addsFolds_13 ?_
  obtain ⟨S14, h14, hsh⟩ := Option.bind_eq_some_iff.mp hsh
  refine e_iast hx hb hp hS h14 dX13_addsFolds_14 (fun H locs hp hS => ?_)
  refine e_aload_n (B := B) (x := x0) hx hb dX13_addsFolds_15 rfl (hl.at 0 rfl) ?_
  obtain ⟨v16, h16, hsh⟩ := Option.bind_eq_some_iff.mp hsh
  refine e_getR (k := 22) hx hb hts in_X13 hown hp h16 rfl (by decide) (by decide) rfl (hts _ kf13_51) rfl dX13_addsFolds_16 ?_
  refine lv_bipush (v := iI (40)) hx hb dX13_addsFolds_19 (by decide +kernel) ?_
  refine lv_iload_n hx hb dX13_addsFolds_21 rfl (hl.at 1 rfl) ?_
  refine e_imul hx hb dX13_addsFolds_22 ?_
  refine lv_iload_n hx hb dX13_addsFolds_23 rfl (hl.at 2 rfl) ?_
  refine e_iadd hx hb dX13_addsFolds_24 ?_
  refine lv_dup2_11 hx hb dX13_addsFolds_25 rfl (e_rv_cat _ _) ?_
  obtain ⟨v26, h26, hsh⟩ := Option.bind_eq_some_iff.mp hsh
  refine e_iald hx hb hp h26 dX13_addsFolds_26 ?_
  refine lv_iload hx hb dX13_addsFolds_27 (hl.at 4 rfl) ?_
  refine e_iadd hx hb dX13_addsFolds_29 ?_
  obtain ⟨S30, h30, hsh⟩ := Option.bind_eq_some_iff.mp hsh
  refine e_iast hx hb hp hS h30 dX13_addsFolds_30 (fun H locs hp hS => ?_)
  cases hsh
  exact e_vret hx hb hrt hlk hp hS dX13_addsFolds_31
theorem ok13_fitsWithout {S : HP} {x0 : Int} {x1 : Int} {x2 : Int} {x3 : Int} {x4 : Int} {r : Int × HP} (h : s13_fitsWithout S x0 x1 x2 x3 x4 = some r) : 0 ≤ x0 ∧ x0.toNat < e_n S ∧ e_g S x0.toNat = 13 := (gd_some h).1
set_option maxRecDepth 100000 in
set_option maxHeartbeats 4000000 in
theorem w13_fitsWithout_b21 {p : Program} {l : Launch} {e : Env} {s : State} {m : MethodId} {args : Array Value} {below : List Frame} {meth : Method} {c : Code} {D : va_G} {cA : Nat → ClassId} {B : Nat} {res : Int × HP} (E : e_En p s m args meth c cX13_fitsWithout RX13 5 (some .boolean)) {ls : Array Slot} {H : Heap} {locs : List Loc} {S : HP} {y0 : Int} (hp : e_Pic D cA B S s H) (hS : va_S (e_A B) s.heap H locs) (hl : e_lo ls 5 []) (hsh : s13_fitsWithout_b21 S y0 = some res) : W p l e ({ frames := 0, cells := 0, slots := 0, locals := 0 } : Room) s m args below meth c H locs 0 0 (MQ below (e_Qi D cA B res.1 res.2) args s 0 0 (e_A B)) (F0 m 21 ls [.int (iI (y0))]) := by
  obtain ⟨hx, hb, hml, hown, hts, hlk, hrt⟩ := id E
  unfold s13_fitsWithout_b21 at hsh
  obtain ⟨hz, hz1, hz2⟩ := zR_some hsh
  rw [← hz1, ← hz2]
  exact e_zret hx hb hrt hlk hp hS hz dX13_fitsWithout_21
set_option maxRecDepth 100000 in
set_option maxHeartbeats 4000000 in
theorem c13_fitsWithout (l : Launch) (D : va_G) (cA : Nat → ClassId) (B : Nat) (S S' : HP) (x0 : Int) (x1 : Int) (x2 : Int) (x3 : Int) (x4 : Int) (r : Int) (hsh : s13_fitsWithout S x0 x1 x2 x3 x4 = some (r, S')) : Met l yX13_fitsWithout (e_wu yX13_fitsWithout cX13_fitsWithout 5 (some .boolean)) ({ frames := 0, cells := 0, slots := 0, locals := 0 } : Room) (va_Pc [e_rv B (x0), .int (iI (x1)), .int (iI (x2)), .int (iI (x3)), .int (iI (x4))] (fun U => e_PU D cA B S U)) (e_Qi D cA B r S') 0 0 (e_A B) := by
  refine Met.ofW (cc := cX13_fitsWithout) (maxL := 5) (ret := (some .boolean)) (by decide +kernel) rfl ?_
  intro p e s m args below meth c s₁ Bd hml hv
  obtain ⟨rfl, hp⟩ := hv
  have hp : e_Pic D cA B S s s.heap := hp
  have hx := Bd.exec
  have hb := Bd.bytes
  have hrt := Bd.returns
  have hlk := Bd.notSynchronized
  have hown : s.vm.findClass RX13 = some m.cls := findClass_of_methodNamed Bd.named
  have hts : ∀ w ∈ e_tb, w.before ([e_rv B (x0), .int (iI (x1)), .int (iI (x2)), .int (iI (x3)), .int (iI (x4))] : List Value).toArray s = true := fun w h => atoms_spec (ws := (e_wu yX13_fitsWithout cX13_fitsWithout 5 (some .boolean))) Bd.pre w (List.mem_cons_of_mem _ h)
  have E : e_En p s m ([e_rv B (x0), .int (iI (x1)), .int (iI (x2)), .int (iI (x3)), .int (iI (x4))] : List Value).toArray meth c cX13_fitsWithout RX13 5 (some .boolean) := ⟨hx, hb, hml, hown, hts, hlk, hrt⟩
  have hS : va_S (e_A B) s.heap s.heap [] := va_S.rf
  have hl := e_entry (vs := [e_rv B (x0), .int (iI (x1)), .int (iI (x2)), .int (iI (x3)), .int (iI (x4))]) (n := 5) (Nat.le_of_ble_eq_true rfl) (e_cc (e_rv_cat _ _) (e_cc rfl (e_cc rfl (e_cc rfl (e_cc rfl e_cn)))))
  rw [lg_entry_eq]
  generalize (lg_sl [e_rv B (x0), .int (iI (x1)), .int (iI (x2)), .int (iI (x3)), .int (iI (x4))] ++ List.replicate (5 - (lg_sl [e_rv B (x0), .int (iI (x1)), .int (iI (x2)), .int (iI (x3)), .int (iI (x4))]).length) Slot.unset).toArray = ls at hl ⊢
  generalize ([e_rv B (x0), .int (iI (x1)), .int (iI (x2)), .int (iI (x3)), .int (iI (x4))] : List Value).toArray = args at hts E ⊢
  have hl : e_lo ls 5 [(0, e_rv B (x0)), (1, .int (iI (x1))), (2, .int (iI (x2))), (3, .int (iI (x3))), (4, .int (iI (x4)))] := hl
  have hsh := (gd_some hsh).2
  refine lv_iload_n hx hb dX13_fitsWithout_0 rfl (hl.at 2 rfl) ?_
  refine e_aload_n (B := B) (x := x0) hx hb dX13_fitsWithout_1 rfl (hl.at 0 rfl) ?_
  obtain ⟨v2, h2, hsh⟩ := Option.bind_eq_some_iff.mp hsh
  refine e_getR (k := 3) hx hb hts in_X13 hown hp h2 rfl (by decide) (by decide) rfl (hts _ kf13_17) rfl dX13_fitsWithout_2 ?_
  refine lv_iload_n hx hb dX13_fitsWithout_5 rfl (hl.at 3 rfl) ?_
  obtain ⟨v6, h6, hsh⟩ := Option.bind_eq_some_iff.mp hsh
  refine e_iald hx hb hp h6 dX13_fitsWithout_6 ?_
  refine e_iadd hx hb dX13_fitsWithout_7 ?_
  refine lv_iload hx hb dX13_fitsWithout_8 (hl.at 4 rfl) ?_
  refine e_isub hx hb dX13_fitsWithout_10 ?_
  refine lv_bipush (v := iI (60)) hx hb dX13_fitsWithout_11 (by decide +kernel) ?_
  refine e_icmp_gt (tgt := 20) hx hb dX13_fitsWithout_13 (by decide) (fun c13 => ?_) (fun c13 => ?_)
  · rw [if_pos c13] at hsh
    refine lv_iconst (v := iI (0)) hx hb dX13_fitsWithout_20 rfl ?_
    exact w13_fitsWithout_b21 E hp hS (hl.sub [] rfl) hsh
  · rw [if_neg c13] at hsh
    refine lv_iconst (v := iI (1)) hx hb dX13_fitsWithout_16 rfl ?_
    refine lv_goto (tgt := 21) hx hb dX13_fitsWithout_17 (by decide) ?_
    exact w13_fitsWithout_b21 E hp hS (hl.sub [] rfl) hsh
theorem ok13_endsIn {S : HP} {x0 : Int} {x1 : Int} {r : Int × HP} (h : s13_endsIn S x0 x1 = some r) : 0 ≤ x0 ∧ x0.toNat < e_n S ∧ e_g S x0.toNat = 13 := (gd_some h).1
set_option maxRecDepth 100000 in
set_option maxHeartbeats 4000000 in
theorem w13_endsIn_b26 {p : Program} {l : Launch} {e : Env} {s : State} {m : MethodId} {args : Array Value} {below : List Frame} {meth : Method} {c : Code} {D : va_G} {cA : Nat → ClassId} {B : Nat} {res : Int × HP} {k4 : HP → Int → Int → Int → Int → Option (Int × HP)} (hk4 : ∀ {ls : Array Slot} {H : Heap} {locs : List Loc} {S : HP} {x0 : Int} {x1 : Int} {x2 : Int} {x3 : Int} (hp : e_Pic D cA B S s H) (hS : va_S (e_A B) s.heap H locs) (hl : e_lo ls 4 [(0, e_rv B (x0)), (1, .int (iI (x1))), (2, .int (iI (x2))), (3, .int (iI (x3)))]) (hsh : k4 S x0 x1 x2 x3 = some res), W p l e ({ frames := 0, cells := 0, slots := 0, locals := 0 } : Room) s m args below meth c H locs 0 0 (MQ below (e_Qi D cA B res.1 res.2) args s 0 0 (e_A B)) (F0 m 4 ls [])) (E : e_En p s m args meth c cX13_endsIn RX13 4 (some .int)) {ls : Array Slot} {H : Heap} {locs : List Loc} {S : HP} {x0 : Int} {x1 : Int} {x3 : Int} {y0 : Int} {y1 : Int} (hp : e_Pic D cA B S s H) (hS : va_S (e_A B) s.heap H locs) (hl : e_lo ls 4 [(0, e_rv B (x0)), (1, .int (iI (x1))), (3, .int (iI (x3)))]) (hsh : s13_endsIn_b26 k4 S x0 x1 x3 y0 y1 = some res) : W p l e ({ frames := 0, cells := 0, slots := 0, locals := 0 } : Room) s m args below meth c H locs 0 0 (MQ below (e_Qi D cA B res.1 res.2) args s 0 0 (e_A B)) (F0 m 26 ls [.int (iI (y1)), .int (iI (y0))]) := by
  obtain ⟨hx, hb, hml, hown, hts, hlk, hrt⟩ := id E
  unfold s13_endsIn_b26 at hsh
  refine e_iadd hx hb dX13_endsIn_26 ?_
  refine e_istore_n (lv' := [(2, .int (iI ((y0 + y1)))), (0, e_rv B (x0)), (1, .int (iI (x1))), (3, .int (iI (x3)))]) hx hb dX13_endsIn_27 rfl hl (by decide) rfl (fun ls hl => ?_)
  refine e_iinc (n := 1) (x := x3) (lv' := [(3, .int (iI ((x3 + 1)))), (2, .int (iI ((y0 + y1)))), (0, e_rv B (x0)), (1, .int (iI (x1)))]) hx hb dX13_endsIn_28 hl (k := 3) rfl (by decide) rfl (fun ls hl => ?_)
  refine lv_goto (tgt := 4) hx hb dX13_endsIn_31 (by decide) ?_
  exact hk4 hp hS (hl.sub [2, 3, 1, 0] rfl) hsh
set_option maxRecDepth 100000 in
set_option maxHeartbeats 4000000 in
theorem w13_endsIn_l4 {p : Program} {l : Launch} {e : Env} {s : State} {m : MethodId} {args : Array Value} {below : List Frame} {meth : Method} {c : Code} {D : va_G} {cA : Nat → ClassId} {B : Nat} {res : Int × HP} (E : e_En p s m args meth c cX13_endsIn RX13 4 (some .int)) : ∀ (f : Nat) {ls : Array Slot} {H : Heap} {locs : List Loc} {S : HP} {x0 : Int} {x1 : Int} {x2 : Int} {x3 : Int} (hp : e_Pic D cA B S s H) (hS : va_S (e_A B) s.heap H locs) (hl : e_lo ls 4 [(0, e_rv B (x0)), (1, .int (iI (x1))), (2, .int (iI (x2))), (3, .int (iI (x3)))]) (hsh : s13_endsIn_l4 f S x0 x1 x2 x3 = some res), W p l e ({ frames := 0, cells := 0, slots := 0, locals := 0 } : Room) s m args below meth c H locs 0 0 (MQ below (e_Qi D cA B res.1 res.2) args s 0 0 (e_A B)) (F0 m 4 ls []) := by
  obtain ⟨hx, hb, hml, hown, hts, hlk, hrt⟩ := id E
  intro f
  induction f with
  | zero => intro ls H locs S x0 x1 x2 x3 hp hS hl hsh; cases hsh
  | succ f ih =>
    intro ls H locs S x0 x1 x2 x3 hp hS hl hsh
    have hk4 : ∀ {ls : Array Slot} {H : Heap} {locs : List Loc} {S : HP} {x0 : Int} {x1 : Int} {x2 : Int} {x3 : Int} (hp : e_Pic D cA B S s H) (hS : va_S (e_A B) s.heap H locs) (hl : e_lo ls 4 [(0, e_rv B (x0)), (1, .int (iI (x1))), (2, .int (iI (x2))), (3, .int (iI (x3)))]) (hsh : (s13_endsIn_l4 f) S x0 x1 x2 x3 = some res), W p l e ({ frames := 0, cells := 0, slots := 0, locals := 0 } : Room) s m args below meth c H locs 0 0 (MQ below (e_Qi D cA B res.1 res.2) args s 0 0 (e_A B)) (F0 m 4 ls []) := ih
    generalize hkk : s13_endsIn_l4 f = k4 at hk4
    rw [s13_endsIn_l4] at hsh
    rw [hkk] at hsh
    try dsimp only at hsh
    refine lv_iload_n hx hb dX13_endsIn_4 rfl (hl.at 3 rfl) ?_
    refine lv_iload_n hx hb dX13_endsIn_5 rfl (hl.at 1 rfl) ?_
    refine e_icmp_ge (tgt := 34) hx hb dX13_endsIn_6 (by decide) (fun c6 => ?_) (fun c6 => ?_)
    · rw [if_pos c6] at hsh
      refine lv_iload_n hx hb dX13_endsIn_34 rfl (hl.at 2 rfl) ?_
      cases hsh
      exact e_iret hx hb hrt hlk hp hS dX13_endsIn_35
    · rw [if_neg c6] at hsh
      refine lv_iload_n hx hb dX13_endsIn_9 rfl (hl.at 2 rfl) ?_
      refine e_aload_n (B := B) (x := x0) hx hb dX13_endsIn_10 rfl (hl.at 0 rfl) ?_
      obtain ⟨v11, h11, hsh⟩ := Option.bind_eq_some_iff.mp hsh
      refine e_getR (k := 42) hx hb hts in_X13 hown hp h11 rfl (by decide) (by decide) rfl (hts _ kf13_83) rfl dX13_endsIn_11 ?_
      refine lv_iload_n hx hb dX13_endsIn_14 rfl (hl.at 3 rfl) ?_
      obtain ⟨v15, h15, hsh⟩ := Option.bind_eq_some_iff.mp hsh
      refine e_iald hx hb hp h15 dX13_endsIn_15 ?_
      refine lv_bipush (v := iI (10)) hx hb dX13_endsIn_16 (by decide +kernel) ?_
      refine e_icmp_ne (tgt := 25) hx hb dX13_endsIn_18 (by decide) (fun c18 => ?_) (fun c18 => ?_)
      · rw [if_neg c18] at hsh
        refine lv_iconst (v := iI (0)) hx hb dX13_endsIn_25 rfl ?_
        exact w13_endsIn_b26 (hk4 := hk4) E hp hS (hl.sub [0, 1, 3] rfl) hsh
      · rw [if_pos c18] at hsh
        refine lv_iconst (v := iI (1)) hx hb dX13_endsIn_21 rfl ?_
        refine lv_goto (tgt := 26) hx hb dX13_endsIn_22 (by decide) ?_
        exact w13_endsIn_b26 (hk4 := hk4) E hp hS (hl.sub [0, 1, 3] rfl) hsh
set_option maxRecDepth 100000 in
set_option maxHeartbeats 4000000 in
theorem c13_endsIn (l : Launch) (D : va_G) (cA : Nat → ClassId) (B : Nat) (S S' : HP) (x0 : Int) (x1 : Int) (r : Int) (hsh : s13_endsIn S x0 x1 = some (r, S')) : Met l yX13_endsIn (e_wu yX13_endsIn cX13_endsIn 4 (some .int)) ({ frames := 0, cells := 0, slots := 0, locals := 0 } : Room) (va_Pc [e_rv B (x0), .int (iI (x1))] (fun U => e_PU D cA B S U)) (e_Qi D cA B r S') 0 0 (e_A B) := by
  refine Met.ofW (cc := cX13_endsIn) (maxL := 4) (ret := (some .int)) (by decide +kernel) rfl ?_
  intro p e s m args below meth c s₁ Bd hml hv
  obtain ⟨rfl, hp⟩ := hv
  have hp : e_Pic D cA B S s s.heap := hp
  have hx := Bd.exec
  have hb := Bd.bytes
  have hrt := Bd.returns
  have hlk := Bd.notSynchronized
  have hown : s.vm.findClass RX13 = some m.cls := findClass_of_methodNamed Bd.named
  have hts : ∀ w ∈ e_tb, w.before ([e_rv B (x0), .int (iI (x1))] : List Value).toArray s = true := fun w h => atoms_spec (ws := (e_wu yX13_endsIn cX13_endsIn 4 (some .int))) Bd.pre w (List.mem_cons_of_mem _ h)
  have E : e_En p s m ([e_rv B (x0), .int (iI (x1))] : List Value).toArray meth c cX13_endsIn RX13 4 (some .int) := ⟨hx, hb, hml, hown, hts, hlk, hrt⟩
  have hS : va_S (e_A B) s.heap s.heap [] := va_S.rf
  have hl := e_entry (vs := [e_rv B (x0), .int (iI (x1))]) (n := 4) (Nat.le_of_ble_eq_true rfl) (e_cc (e_rv_cat _ _) (e_cc rfl e_cn))
  rw [lg_entry_eq]
  generalize (lg_sl [e_rv B (x0), .int (iI (x1))] ++ List.replicate (4 - (lg_sl [e_rv B (x0), .int (iI (x1))]).length) Slot.unset).toArray = ls at hl ⊢
  generalize ([e_rv B (x0), .int (iI (x1))] : List Value).toArray = args at hts E ⊢
  have hl : e_lo ls 4 [(0, e_rv B (x0)), (1, .int (iI (x1)))] := hl
  have hsh := (gd_some hsh).2
  refine lv_iconst (v := iI (0)) hx hb dX13_endsIn_0 rfl ?_
  refine e_istore_n (lv' := [(2, .int (iI (0))), (0, e_rv B (x0)), (1, .int (iI (x1)))]) hx hb dX13_endsIn_1 rfl hl (by decide) rfl (fun ls hl => ?_)
  refine lv_iconst (v := iI (0)) hx hb dX13_endsIn_2 rfl ?_
  refine e_istore_n (lv' := [(3, .int (iI (0))), (2, .int (iI (0))), (0, e_rv B (x0)), (1, .int (iI (x1)))]) hx hb dX13_endsIn_3 rfl hl (by decide) rfl (fun ls hl => ?_)
  exact w13_endsIn_l4 E 1000000 hp hS (hl.sub [2, 3, 1, 0] rfl) hsh
theorem ok13_fitsSigns {S : HP} {x0 : Int} {x1 : Int} {x2 : Int} {x3 : Int} {r : Int × HP} (h : s13_fitsSigns S x0 x1 x2 x3 = some r) : 0 ≤ x0 ∧ x0.toNat < e_n S ∧ e_g S x0.toNat = 13 := (gd_some h).1
set_option maxRecDepth 100000 in
set_option maxHeartbeats 4000000 in
theorem w13_fitsSigns_b136 {p : Program} {l : Launch} {e : Env} {s : State} {m : MethodId} {args : Array Value} {below : List Frame} {meth : Method} {c : Code} {D : va_G} {cA : Nat → ClassId} {B : Nat} {res : Int × HP} (E : e_En p s m args meth c cX13_fitsSigns RX13 8 (some .boolean)) {ls : Array Slot} {H : Heap} {locs : List Loc} {S : HP} {y0 : Int} (hp : e_Pic D cA B S s H) (hS : va_S (e_A B) s.heap H locs) (hl : e_lo ls 8 []) (hsh : s13_fitsSigns_b136 S y0 = some res) : W p l e ({ frames := 2, cells := 0, slots := 0, locals := 42 } : Room) s m args below meth c H locs 0 0 (MQ below (e_Qi D cA B res.1 res.2) args s 0 0 (e_A B)) (F0 m 136 ls [.int (iI (y0))]) := by
  obtain ⟨hx, hb, hml, hown, hts, hlk, hrt⟩ := id E
  unfold s13_fitsSigns_b136 at hsh
  obtain ⟨hz, hz1, hz2⟩ := zR_some hsh
  rw [← hz1, ← hz2]
  exact e_zret hx hb hrt hlk hp hS hz dX13_fitsSigns_136
set_option maxRecDepth 100000 in
set_option maxHeartbeats 4000000 in
theorem w13_fitsSigns_b135 {p : Program} {l : Launch} {e : Env} {s : State} {m : MethodId} {args : Array Value} {below : List Frame} {meth : Method} {c : Code} {D : va_G} {cA : Nat → ClassId} {B : Nat} {res : Int × HP} (E : e_En p s m args meth c cX13_fitsSigns RX13 8 (some .boolean)) {ls : Array Slot} {H : Heap} {locs : List Loc} {S : HP} (hp : e_Pic D cA B S s H) (hS : va_S (e_A B) s.heap H locs) (hl : e_lo ls 8 []) (hsh : s13_fitsSigns_b135 S  = some res) : W p l e ({ frames := 2, cells := 0, slots := 0, locals := 42 } : Room) s m args below meth c H locs 0 0 (MQ below (e_Qi D cA B res.1 res.2) args s 0 0 (e_A B)) (F0 m 135 ls []) := by
  obtain ⟨hx, hb, hml, hown, hts, hlk, hrt⟩ := id E
  unfold s13_fitsSigns_b135 at hsh
  refine lv_iconst (v := iI (0)) hx hb dX13_fitsSigns_135 rfl ?_
  exact w13_fitsSigns_b136 E hp hS (hl.sub [] rfl) hsh
set_option maxRecDepth 100000 in
set_option maxHeartbeats 4000000 in
theorem w13_fitsSigns_b110 {p : Program} {l : Launch} {e : Env} {s : State} {m : MethodId} {args : Array Value} {below : List Frame} {meth : Method} {c : Code} {D : va_G} {cA : Nat → ClassId} {B : Nat} {res : Int × HP} (E : e_En p s m args meth c cX13_fitsSigns RX13 8 (some .boolean)) {ls : Array Slot} {H : Heap} {locs : List Loc} {S : HP} {x0 : Int} {x1 : Int} {x2 : Int} {x5 : Int} {x6 : Int} (hp : e_Pic D cA B S s H) (hS : va_S (e_A B) s.heap H locs) (hl : e_lo ls 8 [(0, e_rv B (x0)), (1, .int (iI (x1))), (2, .int (iI (x2))), (5, .int (iI (x5))), (6, .int (iI (x6)))]) (hsh : s13_fitsSigns_b110 S x0 x1 x2 x5 x6 = some res) : W p l e ({ frames := 2, cells := 0, slots := 0, locals := 42 } : Room) s m args below meth c H locs 0 0 (MQ below (e_Qi D cA B res.1 res.2) args s 0 0 (e_A B)) (F0 m 110 ls []) := by
  obtain ⟨hx, hb, hml, hown, hts, hlk, hrt⟩ := id E
  unfold s13_fitsSigns_b110 at hsh
  refine lv_iload hx hb dX13_fitsSigns_110 (hl.at 4 rfl) ?_
  refine e_if_eq (tgt := 135) hx hb dX13_fitsSigns_112 (by decide) (fun c112 => ?_) (fun c112 => ?_)
  · rw [if_pos c112] at hsh
    exact w13_fitsSigns_b135 E hp hS (hl.sub [] rfl) hsh
  · rw [if_neg c112] at hsh
    refine lv_iload hx hb dX13_fitsSigns_115 (hl.at 3 rfl) ?_
    refine e_aload_n (B := B) (x := x0) hx hb dX13_fitsSigns_117 rfl (hl.at 0 rfl) ?_
    obtain ⟨v118, h118, hsh⟩ := Option.bind_eq_some_iff.mp hsh
    refine e_getR (k := 3) hx hb hts in_X13 hown hp h118 rfl (by decide) (by decide) rfl (hts _ kf13_17) rfl dX13_fitsSigns_118 ?_
    refine lv_iload_n hx hb dX13_fitsSigns_121 rfl (hl.at 1 rfl) ?_
    obtain ⟨v122, h122, hsh⟩ := Option.bind_eq_some_iff.mp hsh
    refine e_iald hx hb hp h122 dX13_fitsSigns_122 ?_
    refine e_iadd hx hb dX13_fitsSigns_123 ?_
    refine lv_iload_n hx hb dX13_fitsSigns_124 rfl (hl.at 2 rfl) ?_
    refine e_isub hx hb dX13_fitsSigns_125 ?_
    refine lv_bipush (v := iI (60)) hx hb dX13_fitsSigns_126 (by decide +kernel) ?_
    refine e_icmp_gt (tgt := 135) hx hb dX13_fitsSigns_128 (by decide) (fun c128 => ?_) (fun c128 => ?_)
    · rw [if_pos c128] at hsh
      exact w13_fitsSigns_b135 E hp hS (hl.sub [] rfl) hsh
    · rw [if_neg c128] at hsh
      refine lv_iconst (v := iI (1)) hx hb dX13_fitsSigns_131 rfl ?_
      refine lv_goto (tgt := 136) hx hb dX13_fitsSigns_132 (by decide) ?_
      exact w13_fitsSigns_b136 E hp hS (hl.sub [] rfl) hsh
set_option maxRecDepth 100000 in
set_option maxHeartbeats 4000000 in
theorem w13_fitsSigns_b102 {p : Program} {l : Launch} {e : Env} {s : State} {m : MethodId} {args : Array Value} {below : List Frame} {meth : Method} {c : Code} {D : va_G} {cA : Nat → ClassId} {B : Nat} {res : Int × HP} {k32 : HP → Int → Int → Int → Int → Int → Int → Int → Option (Int × HP)} (hk32 : ∀ {ls : Array Slot} {H : Heap} {locs : List Loc} {S : HP} {x0 : Int} {x1 : Int} {x2 : Int} {x3 : Int} {x5 : Int} {x6 : Int} {x7 : Int} (hp : e_Pic D cA B S s H) (hS : va_S (e_A B) s.heap H locs) (hl : e_lo ls 8 [(0, e_rv B (x0)), (1, .int (iI (x1))), (2, .int (iI (x2))), (3, .int (iI (x3))), (5, .int (iI (x5))), (6, .int (iI (x6))), (7, .int (iI (x7)))]) (hsh : k32 S x0 x1 x2 x3 x5 x6 x7 = some res), W p l e ({ frames := 2, cells := 0, slots := 0, locals := 42 } : Room) s m args below meth c H locs 0 0 (MQ below (e_Qi D cA B res.1 res.2) args s 0 0 (e_A B)) (F0 m 32 ls [])) (E : e_En p s m args meth c cX13_fitsSigns RX13 8 (some .boolean)) {ls : Array Slot} {H : Heap} {locs : List Loc} {S : HP} {x0 : Int} {x1 : Int} {x2 : Int} {x3 : Int} {x5 : Int} {x7 : Int} {y0 : Int} (hp : e_Pic D cA B S s H) (hS : va_S (e_A B) s.heap H locs) (hl : e_lo ls 8 [(0, e_rv B (x0)), (1, .int (iI (x1))), (2, .int (iI (x2))), (3, .int (iI (x3))), (5, .int (iI (x5))), (7, .int (iI (x7)))]) (hsh : s13_fitsSigns_b102 k32 S x0 x1 x2 x3 x5 x7 y0 = some res) : W p l e ({ frames := 2, cells := 0, slots := 0, locals := 42 } : Room) s m args below meth c H locs 0 0 (MQ below (e_Qi D cA B res.1 res.2) args s 0 0 (e_A B)) (F0 m 102 ls [.int (iI (y0))]) := by
  obtain ⟨hx, hb, hml, hown, hts, hlk, hrt⟩ := id E
  unfold s13_fitsSigns_b102 at hsh
  refine e_istore (lv' := [(6, .int (iI (y0))), (0, e_rv B (x0)), (1, .int (iI (x1))), (2, .int (iI (x2))), (3, .int (iI (x3))), (5, .int (iI (x5))), (7, .int (iI (x7)))]) hx hb dX13_fitsSigns_102 hl (by decide) rfl (fun ls hl => ?_)
  refine e_iinc (n := 1) (x := x7) (lv' := [(7, .int (iI ((x7 + 1)))), (6, .int (iI (y0))), (0, e_rv B (x0)), (1, .int (iI (x1))), (2, .int (iI (x2))), (3, .int (iI (x3))), (5, .int (iI (x5)))]) hx hb dX13_fitsSigns_104 hl (k := 6) rfl (by decide) rfl (fun ls hl => ?_)
  refine lv_goto (tgt := 32) hx hb dX13_fitsSigns_107 (by decide) ?_
  exact hk32 hp hS (hl.sub [2, 3, 4, 5, 6, 1, 0] rfl) hsh
set_option maxRecDepth 100000 in
set_option maxHeartbeats 4000000 in
theorem w13_fitsSigns_b101 {p : Program} {l : Launch} {e : Env} {s : State} {m : MethodId} {args : Array Value} {below : List Frame} {meth : Method} {c : Code} {D : va_G} {cA : Nat → ClassId} {B : Nat} {res : Int × HP} {k32 : HP → Int → Int → Int → Int → Int → Int → Int → Option (Int × HP)} (hk32 : ∀ {ls : Array Slot} {H : Heap} {locs : List Loc} {S : HP} {x0 : Int} {x1 : Int} {x2 : Int} {x3 : Int} {x5 : Int} {x6 : Int} {x7 : Int} (hp : e_Pic D cA B S s H) (hS : va_S (e_A B) s.heap H locs) (hl : e_lo ls 8 [(0, e_rv B (x0)), (1, .int (iI (x1))), (2, .int (iI (x2))), (3, .int (iI (x3))), (5, .int (iI (x5))), (6, .int (iI (x6))), (7, .int (iI (x7)))]) (hsh : k32 S x0 x1 x2 x3 x5 x6 x7 = some res), W p l e ({ frames := 2, cells := 0, slots := 0, locals := 42 } : Room) s m args below meth c H locs 0 0 (MQ below (e_Qi D cA B res.1 res.2) args s 0 0 (e_A B)) (F0 m 32 ls [])) (E : e_En p s m args meth c cX13_fitsSigns RX13 8 (some .boolean)) {ls : Array Slot} {H : Heap} {locs : List Loc} {S : HP} {x0 : Int} {x1 : Int} {x2 : Int} {x3 : Int} {x5 : Int} {x7 : Int} (hp : e_Pic D cA B S s H) (hS : va_S (e_A B) s.heap H locs) (hl : e_lo ls 8 [(0, e_rv B (x0)), (1, .int (iI (x1))), (2, .int (iI (x2))), (3, .int (iI (x3))), (5, .int (iI (x5))), (7, .int (iI (x7)))]) (hsh : s13_fitsSigns_b101 k32 S x0 x1 x2 x3 x5 x7 = some res) : W p l e ({ frames := 2, cells := 0, slots := 0, locals := 42 } : Room) s m args below meth c H locs 0 0 (MQ below (e_Qi D cA B res.1 res.2) args s 0 0 (e_A B)) (F0 m 101 ls []) := by
  obtain ⟨hx, hb, hml, hown, hts, hlk, hrt⟩ := id E
  unfold s13_fitsSigns_b101 at hsh
  refine lv_iconst (v := iI (0)) hx hb dX13_fitsSigns_101 rfl ?_
  exact w13_fitsSigns_b102 (hk32 := hk32) E hp hS (hl.sub [0, 1, 2, 3, 4, 5] rfl) hsh
set_option maxRecDepth 100000 in
set_option maxHeartbeats 4000000 in
theorem w13_fitsSigns_b97 {p : Program} {l : Launch} {e : Env} {s : State} {m : MethodId} {args : Array Value} {below : List Frame} {meth : Method} {c : Code} {D : va_G} {cA : Nat → ClassId} {B : Nat} {res : Int × HP} {k32 : HP → Int → Int → Int → Int → Int → Int → Int → Option (Int × HP)} (hk32 : ∀ {ls : Array Slot} {H : Heap} {locs : List Loc} {S : HP} {x0 : Int} {x1 : Int} {x2 : Int} {x3 : Int} {x5 : Int} {x6 : Int} {x7 : Int} (hp : e_Pic D cA B S s H) (hS : va_S (e_A B) s.heap H locs) (hl : e_lo ls 8 [(0, e_rv B (x0)), (1, .int (iI (x1))), (2, .int (iI (x2))), (3, .int (iI (x3))), (5, .int (iI (x5))), (6, .int (iI (x6))), (7, .int (iI (x7)))]) (hsh : k32 S x0 x1 x2 x3 x5 x6 x7 = some res), W p l e ({ frames := 2, cells := 0, slots := 0, locals := 42 } : Room) s m args below meth c H locs 0 0 (MQ below (e_Qi D cA B res.1 res.2) args s 0 0 (e_A B)) (F0 m 32 ls [])) (E : e_En p s m args meth c cX13_fitsSigns RX13 8 (some .boolean)) {ls : Array Slot} {H : Heap} {locs : List Loc} {S : HP} {x0 : Int} {x1 : Int} {x2 : Int} {x3 : Int} {x5 : Int} {x7 : Int} (hp : e_Pic D cA B S s H) (hS : va_S (e_A B) s.heap H locs) (hl : e_lo ls 8 [(0, e_rv B (x0)), (1, .int (iI (x1))), (2, .int (iI (x2))), (3, .int (iI (x3))), (5, .int (iI (x5))), (7, .int (iI (x7)))]) (hsh : s13_fitsSigns_b97 k32 S x0 x1 x2 x3 x5 x7 = some res) : W p l e ({ frames := 2, cells := 0, slots := 0, locals := 42 } : Room) s m args below meth c H locs 0 0 (MQ below (e_Qi D cA B res.1 res.2) args s 0 0 (e_A B)) (F0 m 97 ls []) := by
  obtain ⟨hx, hb, hml, hown, hts, hlk, hrt⟩ := id E
  unfold s13_fitsSigns_b97 at hsh
  refine lv_iconst (v := iI (1)) hx hb dX13_fitsSigns_97 rfl ?_
  refine lv_goto (tgt := 102) hx hb dX13_fitsSigns_98 (by decide) ?_
  exact w13_fitsSigns_b102 (hk32 := hk32) E hp hS (hl.sub [0, 1, 2, 3, 4, 5] rfl) hsh
set_option maxRecDepth 100000 in
set_option maxHeartbeats 4000000 in
theorem w13_fitsSigns_b63 {p : Program} {l : Launch} {e : Env} {s : State} {m : MethodId} {args : Array Value} {below : List Frame} {meth : Method} {c : Code} {D : va_G} {cA : Nat → ClassId} {B : Nat} {res : Int × HP} {k32 : HP → Int → Int → Int → Int → Int → Int → Int → Option (Int × HP)} (hk32 : ∀ {ls : Array Slot} {H : Heap} {locs : List Loc} {S : HP} {x0 : Int} {x1 : Int} {x2 : Int} {x3 : Int} {x5 : Int} {x6 : Int} {x7 : Int} (hp : e_Pic D cA B S s H) (hS : va_S (e_A B) s.heap H locs) (hl : e_lo ls 8 [(0, e_rv B (x0)), (1, .int (iI (x1))), (2, .int (iI (x2))), (3, .int (iI (x3))), (5, .int (iI (x5))), (6, .int (iI (x6))), (7, .int (iI (x7)))]) (hsh : k32 S x0 x1 x2 x3 x5 x6 x7 = some res), W p l e ({ frames := 2, cells := 0, slots := 0, locals := 42 } : Room) s m args below meth c H locs 0 0 (MQ below (e_Qi D cA B res.1 res.2) args s 0 0 (e_A B)) (F0 m 32 ls [])) (E : e_En p s m args meth c cX13_fitsSigns RX13 8 (some .boolean)) {ls : Array Slot} {H : Heap} {locs : List Loc} {S : HP} {x0 : Int} {x1 : Int} {x2 : Int} {x3 : Int} {x7 : Int} {y0 : Int} (hp : e_Pic D cA B S s H) (hS : va_S (e_A B) s.heap H locs) (hl : e_lo ls 8 [(0, e_rv B (x0)), (1, .int (iI (x1))), (2, .int (iI (x2))), (3, .int (iI (x3))), (7, .int (iI (x7)))]) (hsh : s13_fitsSigns_b63 k32 S x0 x1 x2 x3 x7 y0 = some res) : W p l e ({ frames := 2, cells := 0, slots := 0, locals := 42 } : Room) s m args below meth c H locs 0 0 (MQ below (e_Qi D cA B res.1 res.2) args s 0 0 (e_A B)) (F0 m 63 ls [.int (iI (y0))]) := by
  obtain ⟨hx, hb, hml, hown, hts, hlk, hrt⟩ := id E
  unfold s13_fitsSigns_b63 at hsh
  refine e_istore (lv' := [(5, .int (iI (y0))), (0, e_rv B (x0)), (1, .int (iI (x1))), (2, .int (iI (x2))), (3, .int (iI (x3))), (7, .int (iI (x7)))]) hx hb dX13_fitsSigns_63 hl (by decide) rfl (fun ls hl => ?_)
  refine lv_iload hx hb dX13_fitsSigns_65 (hl.at 0 rfl) ?_
  refine lv_bipush (v := iI (60)) hx hb dX13_fitsSigns_67 (by decide +kernel) ?_
  refine e_icmp_gt (tgt := 101) hx hb dX13_fitsSigns_69 (by decide) (fun c69 => ?_) (fun c69 => ?_)
  · rw [if_pos c69] at hsh
    exact w13_fitsSigns_b101 (hk32 := hk32) E hp hS (hl.sub [1, 2, 3, 4, 0, 5] rfl) hsh
  · rw [if_neg c69] at hsh
    refine e_aload_n (B := B) (x := x0) hx hb dX13_fitsSigns_72 rfl (hl.at 1 rfl) ?_
    obtain ⟨v73, h73, hsh⟩ := Option.bind_eq_some_iff.mp hsh
    refine e_getR (k := 42) hx hb hts in_X13 hown hp h73 rfl (by decide) (by decide) rfl (hts _ kf13_83) rfl dX13_fitsSigns_73 ?_
    refine lv_iload hx hb dX13_fitsSigns_76 (hl.at 5 rfl) ?_
    obtain ⟨v78, h78, hsh⟩ := Option.bind_eq_some_iff.mp hsh
    refine e_iald hx hb hp h78 dX13_fitsSigns_78 ?_
    refine lv_bipush (v := iI (10)) hx hb dX13_fitsSigns_79 (by decide +kernel) ?_
    refine e_icmp_eq (tgt := 97) hx hb dX13_fitsSigns_81 (by decide) (fun c81 => ?_) (fun c81 => ?_)
    · rw [if_pos c81] at hsh
      exact w13_fitsSigns_b97 (hk32 := hk32) E hp hS (hl.sub [1, 2, 3, 4, 0, 5] rfl) hsh
    · rw [if_neg c81] at hsh
      refine e_aload_n (B := B) (x := x0) hx hb dX13_fitsSigns_84 rfl (hl.at 1 rfl) ?_
      obtain ⟨v85, h85, hsh⟩ := Option.bind_eq_some_iff.mp hsh
      refine e_getR (k := 42) hx hb hts in_X13 hown hp h85 rfl (by decide) (by decide) rfl (hts _ kf13_83) rfl dX13_fitsSigns_85 ?_
      refine lv_iload hx hb dX13_fitsSigns_88 (hl.at 5 rfl) ?_
      obtain ⟨v90, h90, hsh⟩ := Option.bind_eq_some_iff.mp hsh
      refine e_iald hx hb hp h90 dX13_fitsSigns_90 ?_
      obtain ⟨⟨v91, S91⟩, h91, hsh⟩ := Option.bind_eq_some_iff.mp hsh
      have hsh : _ = _ := hsh
      try dsimp only at hsh
      refine e_callS (nL := 8) (mc := 0) (ms := 0) (As := [.int (iI (v90))]) (rest := []) hx hb hml hown hts hp hS hl.size (c13_isSign l D cA B S S91 (v90) v91 h91) rfl rfl kd13_isSign (kl13_202) ks13_isSign ki13 kh13_isSign ⟨Nat.le_of_ble_eq_true rfl, Nat.le_of_ble_eq_true rfl⟩ rfl (by simp [e_rv_cat, e_int_cat]) ⟨Nat.le_refl _, Nat.le_refl _⟩ dX13_fitsSigns_91 rfl (fun H locs hp hS => ?_)
      refine e_if_eq (tgt := 101) hx hb dX13_fitsSigns_94 (by decide) (fun c94 => ?_) (fun c94 => ?_)
      · rw [if_pos c94] at hsh
        exact w13_fitsSigns_b101 (hk32 := hk32) E hp hS (hl.sub [1, 2, 3, 4, 0, 5] rfl) hsh
      · rw [if_neg c94] at hsh
        exact w13_fitsSigns_b97 (hk32 := hk32) E hp hS (hl.sub [1, 2, 3, 4, 0, 5] rfl) hsh
set_option maxRecDepth 100000 in
set_option maxHeartbeats 4000000 in
theorem w13_fitsSigns_l32 {p : Program} {l : Launch} {e : Env} {s : State} {m : MethodId} {args : Array Value} {below : List Frame} {meth : Method} {c : Code} {D : va_G} {cA : Nat → ClassId} {B : Nat} {res : Int × HP} (E : e_En p s m args meth c cX13_fitsSigns RX13 8 (some .boolean)) : ∀ (f : Nat) {ls : Array Slot} {H : Heap} {locs : List Loc} {S : HP} {x0 : Int} {x1 : Int} {x2 : Int} {x3 : Int} {x5 : Int} {x6 : Int} {x7 : Int} (hp : e_Pic D cA B S s H) (hS : va_S (e_A B) s.heap H locs) (hl : e_lo ls 8 [(0, e_rv B (x0)), (1, .int (iI (x1))), (2, .int (iI (x2))), (3, .int (iI (x3))), (5, .int (iI (x5))), (6, .int (iI (x6))), (7, .int (iI (x7)))]) (hsh : s13_fitsSigns_l32 f S x0 x1 x2 x3 x5 x6 x7 = some res), W p l e ({ frames := 2, cells := 0, slots := 0, locals := 42 } : Room) s m args below meth c H locs 0 0 (MQ below (e_Qi D cA B res.1 res.2) args s 0 0 (e_A B)) (F0 m 32 ls []) := by
  obtain ⟨hx, hb, hml, hown, hts, hlk, hrt⟩ := id E
  intro f
  induction f with
  | zero => intro ls H locs S x0 x1 x2 x3 x5 x6 x7 hp hS hl hsh; cases hsh
  | succ f ih =>
    intro ls H locs S x0 x1 x2 x3 x5 x6 x7 hp hS hl hsh
    have hk32 : ∀ {ls : Array Slot} {H : Heap} {locs : List Loc} {S : HP} {x0 : Int} {x1 : Int} {x2 : Int} {x3 : Int} {x5 : Int} {x6 : Int} {x7 : Int} (hp : e_Pic D cA B S s H) (hS : va_S (e_A B) s.heap H locs) (hl : e_lo ls 8 [(0, e_rv B (x0)), (1, .int (iI (x1))), (2, .int (iI (x2))), (3, .int (iI (x3))), (5, .int (iI (x5))), (6, .int (iI (x6))), (7, .int (iI (x7)))]) (hsh : (s13_fitsSigns_l32 f) S x0 x1 x2 x3 x5 x6 x7 = some res), W p l e ({ frames := 2, cells := 0, slots := 0, locals := 42 } : Room) s m args below meth c H locs 0 0 (MQ below (e_Qi D cA B res.1 res.2) args s 0 0 (e_A B)) (F0 m 32 ls []) := ih
    generalize hkk : s13_fitsSigns_l32 f = k32 at hk32
    rw [s13_fitsSigns_l32] at hsh
    rw [hkk] at hsh
    try dsimp only at hsh
    refine lv_iload hx hb dX13_fitsSigns_32 (hl.at 6 rfl) ?_
    refine lv_iload_n hx hb dX13_fitsSigns_34 rfl (hl.at 3 rfl) ?_
    refine e_icmp_ge (tgt := 110) hx hb dX13_fitsSigns_35 (by decide) (fun c35 => ?_) (fun c35 => ?_)
    · rw [if_pos c35] at hsh
      exact w13_fitsSigns_b110 E hp hS (hl.sub [0, 1, 2, 4, 5] rfl) hsh
    · rw [if_neg c35] at hsh
      refine lv_iload hx hb dX13_fitsSigns_38 (hl.at 5 rfl) ?_
      refine e_if_eq (tgt := 110) hx hb dX13_fitsSigns_40 (by decide) (fun c40 => ?_) (fun c40 => ?_)
      · rw [if_pos c40] at hsh
        exact w13_fitsSigns_b110 E hp hS (hl.sub [0, 1, 2, 4, 5] rfl) hsh
      · rw [if_neg c40] at hsh
        refine e_aload_n (B := B) (x := x0) hx hb dX13_fitsSigns_43 rfl (hl.at 0 rfl) ?_
        obtain ⟨v44, h44, hsh⟩ := Option.bind_eq_some_iff.mp hsh
        refine e_getR (k := 42) hx hb hts in_X13 hown hp h44 rfl (by decide) (by decide) rfl (hts _ kf13_83) rfl dX13_fitsSigns_44 ?_
        refine lv_iload hx hb dX13_fitsSigns_47 (hl.at 6 rfl) ?_
        obtain ⟨v49, h49, hsh⟩ := Option.bind_eq_some_iff.mp hsh
        refine e_iald hx hb hp h49 dX13_fitsSigns_49 ?_
        refine lv_bipush (v := iI (10)) hx hb dX13_fitsSigns_50 (by decide +kernel) ?_
        refine e_icmp_ne (tgt := 59) hx hb dX13_fitsSigns_52 (by decide) (fun c52 => ?_) (fun c52 => ?_)
        · rw [if_neg c52] at hsh
          refine lv_iload hx hb dX13_fitsSigns_59 (hl.at 4 rfl) ?_
          refine lv_iconst (v := iI (1)) hx hb dX13_fitsSigns_61 rfl ?_
          refine e_iadd hx hb dX13_fitsSigns_62 ?_
          exact w13_fitsSigns_b63 (hk32 := hk32) E hp hS (hl.sub [0, 1, 2, 3, 6] rfl) hsh
        · rw [if_pos c52] at hsh
          refine lv_iconst (v := iI (0)) hx hb dX13_fitsSigns_55 rfl ?_
          refine lv_goto (tgt := 63) hx hb dX13_fitsSigns_56 (by decide) ?_
          exact w13_fitsSigns_b63 (hk32 := hk32) E hp hS (hl.sub [0, 1, 2, 3, 6] rfl) hsh
set_option maxRecDepth 100000 in
set_option maxHeartbeats 4000000 in
theorem w13_fitsSigns_b27 {p : Program} {l : Launch} {e : Env} {s : State} {m : MethodId} {args : Array Value} {below : List Frame} {meth : Method} {c : Code} {D : va_G} {cA : Nat → ClassId} {B : Nat} {res : Int × HP} (E : e_En p s m args meth c cX13_fitsSigns RX13 8 (some .boolean)) {ls : Array Slot} {H : Heap} {locs : List Loc} {S : HP} {x0 : Int} {x1 : Int} {x2 : Int} {x3 : Int} {x5 : Int} {y0 : Int} (hp : e_Pic D cA B S s H) (hS : va_S (e_A B) s.heap H locs) (hl : e_lo ls 8 [(0, e_rv B (x0)), (1, .int (iI (x1))), (2, .int (iI (x2))), (3, .int (iI (x3))), (5, .int (iI (x5)))]) (hsh : s13_fitsSigns_b27 S x0 x1 x2 x3 x5 y0 = some res) : W p l e ({ frames := 2, cells := 0, slots := 0, locals := 42 } : Room) s m args below meth c H locs 0 0 (MQ below (e_Qi D cA B res.1 res.2) args s 0 0 (e_A B)) (F0 m 27 ls [.int (iI (y0))]) := by
  obtain ⟨hx, hb, hml, hown, hts, hlk, hrt⟩ := id E
  unfold s13_fitsSigns_b27 at hsh
  refine e_istore (lv' := [(6, .int (iI (y0))), (0, e_rv B (x0)), (1, .int (iI (x1))), (2, .int (iI (x2))), (3, .int (iI (x3))), (5, .int (iI (x5)))]) hx hb dX13_fitsSigns_27 hl (by decide) rfl (fun ls hl => ?_)
  refine lv_iconst (v := iI (0)) hx hb dX13_fitsSigns_29 rfl ?_
  refine e_istore (lv' := [(7, .int (iI (0))), (6, .int (iI (y0))), (0, e_rv B (x0)), (1, .int (iI (x1))), (2, .int (iI (x2))), (3, .int (iI (x3))), (5, .int (iI (x5)))]) hx hb dX13_fitsSigns_30 hl (by decide) rfl (fun ls hl => ?_)
  exact w13_fitsSigns_l32 E 1000000 hp hS (hl.sub [2, 3, 4, 5, 6, 1, 0] rfl) hsh
set_option maxRecDepth 100000 in
set_option maxHeartbeats 4000000 in
theorem c13_fitsSigns (l : Launch) (D : va_G) (cA : Nat → ClassId) (B : Nat) (S S' : HP) (x0 : Int) (x1 : Int) (x2 : Int) (x3 : Int) (r : Int) (hsh : s13_fitsSigns S x0 x1 x2 x3 = some (r, S')) : Met l yX13_fitsSigns (e_wu yX13_fitsSigns cX13_fitsSigns 8 (some .boolean)) ({ frames := 2, cells := 0, slots := 0, locals := 42 } : Room) (va_Pc [e_rv B (x0), .int (iI (x1)), .int (iI (x2)), .int (iI (x3))] (fun U => e_PU D cA B S U)) (e_Qi D cA B r S') 0 0 (e_A B) := by
  refine Met.ofW (cc := cX13_fitsSigns) (maxL := 8) (ret := (some .boolean)) (by decide +kernel) rfl ?_
  intro p e s m args below meth c s₁ Bd hml hv
  obtain ⟨rfl, hp⟩ := hv
  have hp : e_Pic D cA B S s s.heap := hp
  have hx := Bd.exec
  have hb := Bd.bytes
  have hrt := Bd.returns
  have hlk := Bd.notSynchronized
  have hown : s.vm.findClass RX13 = some m.cls := findClass_of_methodNamed Bd.named
  have hts : ∀ w ∈ e_tb, w.before ([e_rv B (x0), .int (iI (x1)), .int (iI (x2)), .int (iI (x3))] : List Value).toArray s = true := fun w h => atoms_spec (ws := (e_wu yX13_fitsSigns cX13_fitsSigns 8 (some .boolean))) Bd.pre w (List.mem_cons_of_mem _ h)
  have E : e_En p s m ([e_rv B (x0), .int (iI (x1)), .int (iI (x2)), .int (iI (x3))] : List Value).toArray meth c cX13_fitsSigns RX13 8 (some .boolean) := ⟨hx, hb, hml, hown, hts, hlk, hrt⟩
  have hS : va_S (e_A B) s.heap s.heap [] := va_S.rf
  have hl := e_entry (vs := [e_rv B (x0), .int (iI (x1)), .int (iI (x2)), .int (iI (x3))]) (n := 8) (Nat.le_of_ble_eq_true rfl) (e_cc (e_rv_cat _ _) (e_cc rfl (e_cc rfl (e_cc rfl e_cn))))
  rw [lg_entry_eq]
  generalize (lg_sl [e_rv B (x0), .int (iI (x1)), .int (iI (x2)), .int (iI (x3))] ++ List.replicate (8 - (lg_sl [e_rv B (x0), .int (iI (x1)), .int (iI (x2)), .int (iI (x3))]).length) Slot.unset).toArray = ls at hl ⊢
  generalize ([e_rv B (x0), .int (iI (x1)), .int (iI (x2)), .int (iI (x3))] : List Value).toArray = args at hts E ⊢
  have hl : e_lo ls 8 [(0, e_rv B (x0)), (1, .int (iI (x1))), (2, .int (iI (x2))), (3, .int (iI (x3)))] := hl
  have hsh := (gd_some hsh).2
  refine e_aload_n (B := B) (x := x0) hx hb dX13_fitsSigns_0 rfl (hl.at 0 rfl) ?_
  refine lv_iload_n hx hb dX13_fitsSigns_1 rfl (hl.at 3 rfl) ?_
  obtain ⟨⟨v2, S2⟩, h2, hsh⟩ := Option.bind_eq_some_iff.mp hsh
  have hsh : _ = _ := hsh
  try dsimp only at hsh
  have ok2 := ok13_endsIn h2
  refine e_callI (nL := 8) (mc := 0) (ms := 0) (T := TX13) (N := 126) (As := [.int (iI (x3))]) (rest := []) hx hb hml hown hts hp hS hl.size ok2.1 ok2.2.1 ok2.2.2 rfl (by decide) (c13_endsIn l D cA B S S2 (x0) (x3) v2 h2) rfl rfl kd13_endsIn (kl13_275) ks13_endsIn kv13_endsIn ki13 kh13_endsIn ⟨Nat.le_of_ble_eq_true rfl, Nat.le_of_ble_eq_true rfl⟩ rfl (by simp [e_rv_cat, e_int_cat]) ⟨Nat.le_refl _, Nat.le_refl _⟩ dX13_fitsSigns_2 rfl (fun H locs hp hS => ?_)
  refine e_istore (lv' := [(4, .int (iI (v2))), (0, e_rv B (x0)), (1, .int (iI (x1))), (2, .int (iI (x2))), (3, .int (iI (x3)))]) hx hb dX13_fitsSigns_5 hl (by decide) rfl (fun ls hl => ?_)
  refine lv_iload_n hx hb dX13_fitsSigns_7 rfl (hl.at 3 rfl) ?_
  refine e_istore (lv' := [(5, .int (iI (x2))), (4, .int (iI (v2))), (0, e_rv B (x0)), (1, .int (iI (x1))), (2, .int (iI (x2))), (3, .int (iI (x3)))]) hx hb dX13_fitsSigns_8 hl (by decide) rfl (fun ls hl => ?_)
  refine e_aload_n (B := B) (x := x0) hx hb dX13_fitsSigns_10 rfl (hl.at 2 rfl) ?_
  obtain ⟨v11, h11, hsh⟩ := Option.bind_eq_some_iff.mp hsh
  refine e_getI (k := 2) hx hb hts in_X13 hown hp h11 rfl (by decide) (by decide) rfl (hts _ kf13_13) rfl dX13_fitsSigns_11 ?_
  refine lv_iload hx hb dX13_fitsSigns_14 (hl.at 1 rfl) ?_
  refine e_iadd hx hb dX13_fitsSigns_16 ?_
  refine lv_bipush (v := iI (40)) hx hb dX13_fitsSigns_17 (by decide +kernel) ?_
  refine e_icmp_gt (tgt := 26) hx hb dX13_fitsSigns_19 (by decide) (fun c19 => ?_) (fun c19 => ?_)
  · rw [if_pos c19] at hsh
    refine lv_iconst (v := iI (0)) hx hb dX13_fitsSigns_26 rfl ?_
    exact w13_fitsSigns_b27 E hp hS (hl.sub [2, 3, 4, 5, 0] rfl) hsh
  · rw [if_neg c19] at hsh
    refine lv_iconst (v := iI (1)) hx hb dX13_fitsSigns_22 rfl ?_
    refine lv_goto (tgt := 27) hx hb dX13_fitsSigns_23 (by decide) ?_
    exact w13_fitsSigns_b27 E hp hS (hl.sub [2, 3, 4, 5, 0] rfl) hsh
theorem ok13_closedAt {S : HP} {x0 : Int} {x1 : Int} {r : Int × HP} (h : s13_closedAt S x0 x1 = some r) : 0 ≤ x0 ∧ x0.toNat < e_n S ∧ e_g S x0.toNat = 13 := (gd_some h).1
set_option maxRecDepth 100000 in
set_option maxHeartbeats 4000000 in
theorem w13_closedAt_b75 {p : Program} {l : Launch} {e : Env} {s : State} {m : MethodId} {args : Array Value} {below : List Frame} {meth : Method} {c : Code} {D : va_G} {cA : Nat → ClassId} {B : Nat} {res : Int × HP} (E : e_En p s m args meth c cX13_closedAt RX13 5 (some .int)) {ls : Array Slot} {H : Heap} {locs : List Loc} {S : HP} {x2 : Int} (hp : e_Pic D cA B S s H) (hS : va_S (e_A B) s.heap H locs) (hl : e_lo ls 5 [(2, .int (iI (x2)))]) (hsh : s13_closedAt_b75 S x2 = some res) : W p l e ({ frames := 0, cells := 0, slots := 0, locals := 0 } : Room) s m args below meth c H locs 0 0 (MQ below (e_Qi D cA B res.1 res.2) args s 0 0 (e_A B)) (F0 m 75 ls []) := by
  obtain ⟨hx, hb, hml, hown, hts, hlk, hrt⟩ := id E
  unfold s13_closedAt_b75 at hsh
  refine lv_iload_n hx hb dX13_closedAt_75 rfl (hl.at 0 rfl) ?_
  cases hsh
  exact e_iret hx hb hrt hlk hp hS dX13_closedAt_76
set_option maxRecDepth 100000 in
set_option maxHeartbeats 4000000 in
theorem w13_closedAt_b69 {p : Program} {l : Launch} {e : Env} {s : State} {m : MethodId} {args : Array Value} {below : List Frame} {meth : Method} {c : Code} {D : va_G} {cA : Nat → ClassId} {B : Nat} {res : Int × HP} {k4 : HP → Int → Int → Int → Int → Option (Int × HP)} (hk4 : ∀ {ls : Array Slot} {H : Heap} {locs : List Loc} {S : HP} {x0 : Int} {x1 : Int} {x2 : Int} {x3 : Int} (hp : e_Pic D cA B S s H) (hS : va_S (e_A B) s.heap H locs) (hl : e_lo ls 5 [(0, e_rv B (x0)), (1, .int (iI (x1))), (2, .int (iI (x2))), (3, .int (iI (x3)))]) (hsh : k4 S x0 x1 x2 x3 = some res), W p l e ({ frames := 0, cells := 0, slots := 0, locals := 0 } : Room) s m args below meth c H locs 0 0 (MQ below (e_Qi D cA B res.1 res.2) args s 0 0 (e_A B)) (F0 m 4 ls [])) (E : e_En p s m args meth c cX13_closedAt RX13 5 (some .int)) {ls : Array Slot} {H : Heap} {locs : List Loc} {S : HP} {x0 : Int} {x1 : Int} {x2 : Int} {x3 : Int} (hp : e_Pic D cA B S s H) (hS : va_S (e_A B) s.heap H locs) (hl : e_lo ls 5 [(0, e_rv B (x0)), (1, .int (iI (x1))), (2, .int (iI (x2))), (3, .int (iI (x3)))]) (hsh : s13_closedAt_b69 k4 S x0 x1 x2 x3 = some res) : W p l e ({ frames := 0, cells := 0, slots := 0, locals := 0 } : Room) s m args below meth c H locs 0 0 (MQ below (e_Qi D cA B res.1 res.2) args s 0 0 (e_A B)) (F0 m 69 ls []) := by
  obtain ⟨hx, hb, hml, hown, hts, hlk, hrt⟩ := id E
  unfold s13_closedAt_b69 at hsh
  refine e_iinc (n := 1) (x := x3) (lv' := [(3, .int (iI ((x3 + 1)))), (0, e_rv B (x0)), (1, .int (iI (x1))), (2, .int (iI (x2)))]) hx hb dX13_closedAt_69 hl (k := 3) rfl (by decide) rfl (fun ls hl => ?_)
  refine lv_goto (tgt := 4) hx hb dX13_closedAt_72 (by decide) ?_
  exact hk4 hp hS (hl.sub [1, 2, 3, 0] rfl) hsh
set_option maxRecDepth 100000 in
set_option maxHeartbeats 4000000 in
theorem w13_closedAt_b62 {p : Program} {l : Launch} {e : Env} {s : State} {m : MethodId} {args : Array Value} {below : List Frame} {meth : Method} {c : Code} {D : va_G} {cA : Nat → ClassId} {B : Nat} {res : Int × HP} {k4 : HP → Int → Int → Int → Int → Option (Int × HP)} (hk4 : ∀ {ls : Array Slot} {H : Heap} {locs : List Loc} {S : HP} {x0 : Int} {x1 : Int} {x2 : Int} {x3 : Int} (hp : e_Pic D cA B S s H) (hS : va_S (e_A B) s.heap H locs) (hl : e_lo ls 5 [(0, e_rv B (x0)), (1, .int (iI (x1))), (2, .int (iI (x2))), (3, .int (iI (x3)))]) (hsh : k4 S x0 x1 x2 x3 = some res), W p l e ({ frames := 0, cells := 0, slots := 0, locals := 0 } : Room) s m args below meth c H locs 0 0 (MQ below (e_Qi D cA B res.1 res.2) args s 0 0 (e_A B)) (F0 m 4 ls [])) {k25 : HP → Int → Int → Int → Int → Int → Option (Int × HP)} (hk25 : ∀ {ls : Array Slot} {H : Heap} {locs : List Loc} {S : HP} {x0 : Int} {x1 : Int} {x2 : Int} {x3 : Int} {x4 : Int} (hp : e_Pic D cA B S s H) (hS : va_S (e_A B) s.heap H locs) (hl : e_lo ls 5 [(0, e_rv B (x0)), (1, .int (iI (x1))), (2, .int (iI (x2))), (3, .int (iI (x3))), (4, .int (iI (x4)))]) (hsh : k25 S x0 x1 x2 x3 x4 = some res), W p l e ({ frames := 0, cells := 0, slots := 0, locals := 0 } : Room) s m args below meth c H locs 0 0 (MQ below (e_Qi D cA B res.1 res.2) args s 0 0 (e_A B)) (F0 m 25 ls [])) (E : e_En p s m args meth c cX13_closedAt RX13 5 (some .int)) {ls : Array Slot} {H : Heap} {locs : List Loc} {S : HP} {x0 : Int} {x1 : Int} {x3 : Int} {x4 : Int} {y0 : Int} (hp : e_Pic D cA B S s H) (hS : va_S (e_A B) s.heap H locs) (hl : e_lo ls 5 [(0, e_rv B (x0)), (1, .int (iI (x1))), (3, .int (iI (x3))), (4, .int (iI (x4)))]) (hsh : s13_closedAt_b62 k4 k25 S x0 x1 x3 x4 y0 = some res) : W p l e ({ frames := 0, cells := 0, slots := 0, locals := 0 } : Room) s m args below meth c H locs 0 0 (MQ below (e_Qi D cA B res.1 res.2) args s 0 0 (e_A B)) (F0 m 62 ls [.int (iI (y0))]) := by
  obtain ⟨hx, hb, hml, hown, hts, hlk, hrt⟩ := id E
  unfold s13_closedAt_b62 at hsh
  refine e_istore_n (lv' := [(2, .int (iI (y0))), (0, e_rv B (x0)), (1, .int (iI (x1))), (3, .int (iI (x3))), (4, .int (iI (x4)))]) hx hb dX13_closedAt_62 rfl hl (by decide) rfl (fun ls hl => ?_)
  refine e_iinc (n := (-1)) (x := x4) (lv' := [(4, .int (iI ((x4 + (-1))))), (2, .int (iI (y0))), (0, e_rv B (x0)), (1, .int (iI (x1))), (3, .int (iI (x3)))]) hx hb dX13_closedAt_63 hl (k := 4) rfl (by decide) rfl (fun ls hl => ?_)
  refine lv_goto (tgt := 25) hx hb dX13_closedAt_66 (by decide) ?_
  exact hk25 hp hS (hl.sub [2, 3, 1, 4, 0] rfl) hsh
set_option maxRecDepth 100000 in
set_option maxHeartbeats 4000000 in
theorem w13_closedAt_l25 {p : Program} {l : Launch} {e : Env} {s : State} {m : MethodId} {args : Array Value} {below : List Frame} {meth : Method} {c : Code} {D : va_G} {cA : Nat → ClassId} {B : Nat} {res : Int × HP} {k4 : HP → Int → Int → Int → Int → Option (Int × HP)} (hk4 : ∀ {ls : Array Slot} {H : Heap} {locs : List Loc} {S : HP} {x0 : Int} {x1 : Int} {x2 : Int} {x3 : Int} (hp : e_Pic D cA B S s H) (hS : va_S (e_A B) s.heap H locs) (hl : e_lo ls 5 [(0, e_rv B (x0)), (1, .int (iI (x1))), (2, .int (iI (x2))), (3, .int (iI (x3)))]) (hsh : k4 S x0 x1 x2 x3 = some res), W p l e ({ frames := 0, cells := 0, slots := 0, locals := 0 } : Room) s m args below meth c H locs 0 0 (MQ below (e_Qi D cA B res.1 res.2) args s 0 0 (e_A B)) (F0 m 4 ls [])) (E : e_En p s m args meth c cX13_closedAt RX13 5 (some .int)) : ∀ (f : Nat) {ls : Array Slot} {H : Heap} {locs : List Loc} {S : HP} {x0 : Int} {x1 : Int} {x2 : Int} {x3 : Int} {x4 : Int} (hp : e_Pic D cA B S s H) (hS : va_S (e_A B) s.heap H locs) (hl : e_lo ls 5 [(0, e_rv B (x0)), (1, .int (iI (x1))), (2, .int (iI (x2))), (3, .int (iI (x3))), (4, .int (iI (x4)))]) (hsh : s13_closedAt_l25 k4 f S x0 x1 x2 x3 x4 = some res), W p l e ({ frames := 0, cells := 0, slots := 0, locals := 0 } : Room) s m args below meth c H locs 0 0 (MQ below (e_Qi D cA B res.1 res.2) args s 0 0 (e_A B)) (F0 m 25 ls []) := by
  obtain ⟨hx, hb, hml, hown, hts, hlk, hrt⟩ := id E
  intro f
  induction f with
  | zero => intro ls H locs S x0 x1 x2 x3 x4 hp hS hl hsh; cases hsh
  | succ f ih =>
    intro ls H locs S x0 x1 x2 x3 x4 hp hS hl hsh
    have hk25 : ∀ {ls : Array Slot} {H : Heap} {locs : List Loc} {S : HP} {x0 : Int} {x1 : Int} {x2 : Int} {x3 : Int} {x4 : Int} (hp : e_Pic D cA B S s H) (hS : va_S (e_A B) s.heap H locs) (hl : e_lo ls 5 [(0, e_rv B (x0)), (1, .int (iI (x1))), (2, .int (iI (x2))), (3, .int (iI (x3))), (4, .int (iI (x4)))]) (hsh : (s13_closedAt_l25 k4 f) S x0 x1 x2 x3 x4 = some res), W p l e ({ frames := 0, cells := 0, slots := 0, locals := 0 } : Room) s m args below meth c H locs 0 0 (MQ below (e_Qi D cA B res.1 res.2) args s 0 0 (e_A B)) (F0 m 25 ls []) := ih
    generalize hkk : s13_closedAt_l25 k4 f = k25 at hk25
    rw [s13_closedAt_l25] at hsh
    rw [hkk] at hsh
    try dsimp only at hsh
    refine lv_iload hx hb dX13_closedAt_25 (hl.at 4 rfl) ?_
    refine lv_iload_n hx hb dX13_closedAt_27 rfl (hl.at 1 rfl) ?_
    refine e_icmp_lt (tgt := 69) hx hb dX13_closedAt_28 (by decide) (fun c28 => ?_) (fun c28 => ?_)
    · rw [if_pos c28] at hsh
      exact w13_closedAt_b69 (hk4 := hk4) E hp hS (hl.sub [0, 1, 2, 3] rfl) hsh
    · rw [if_neg c28] at hsh
      refine lv_iload_n hx hb dX13_closedAt_31 rfl (hl.at 2 rfl) ?_
      refine lv_iconst (v := iI (-1)) hx hb dX13_closedAt_32 rfl ?_
      refine e_icmp_ne (tgt := 69) hx hb dX13_closedAt_33 (by decide) (fun c33 => ?_) (fun c33 => ?_)
      · rw [if_neg c33] at hsh
        exact w13_closedAt_b69 (hk4 := hk4) E hp hS (hl.sub [0, 1, 2, 3] rfl) hsh
      · rw [if_pos c33] at hsh
        refine e_aload_n (B := B) (x := x0) hx hb dX13_closedAt_36 rfl (hl.at 0 rfl) ?_
        obtain ⟨v37, h37, hsh⟩ := Option.bind_eq_some_iff.mp hsh
        refine e_getR (k := 22) hx hb hts in_X13 hown hp h37 rfl (by decide) (by decide) rfl (hts _ kf13_51) rfl dX13_closedAt_37 ?_
        refine lv_bipush (v := iI (40)) hx hb dX13_closedAt_40 (by decide +kernel) ?_
        refine lv_iload_n hx hb dX13_closedAt_42 rfl (hl.at 3 rfl) ?_
        refine e_imul hx hb dX13_closedAt_43 ?_
        refine lv_iload hx hb dX13_closedAt_44 (hl.at 4 rfl) ?_
        refine e_iadd hx hb dX13_closedAt_46 ?_
        obtain ⟨v47, h47, hsh⟩ := Option.bind_eq_some_iff.mp hsh
        refine e_iald hx hb hp h47 dX13_closedAt_47 ?_
        refine e_if_le (tgt := 61) hx hb dX13_closedAt_48 (by decide) (fun c48 => ?_) (fun c48 => ?_)
        · rw [if_pos c48] at hsh
          refine lv_iload_n hx hb dX13_closedAt_61 rfl (hl.at 2 rfl) ?_
          exact w13_closedAt_b62 (hk4 := hk4) (hk25 := hk25) E hp hS (hl.sub [0, 1, 3, 4] rfl) hsh
        · rw [if_neg c48] at hsh
          refine lv_bipush (v := iI (40)) hx hb dX13_closedAt_51 (by decide +kernel) ?_
          refine lv_iload_n hx hb dX13_closedAt_53 rfl (hl.at 3 rfl) ?_
          refine e_imul hx hb dX13_closedAt_54 ?_
          refine lv_iload hx hb dX13_closedAt_55 (hl.at 4 rfl) ?_
          refine e_iadd hx hb dX13_closedAt_57 ?_
          refine lv_goto (tgt := 62) hx hb dX13_closedAt_58 (by decide) ?_
          exact w13_closedAt_b62 (hk4 := hk4) (hk25 := hk25) E hp hS (hl.sub [0, 1, 3, 4] rfl) hsh
set_option maxRecDepth 100000 in
set_option maxHeartbeats 4000000 in
theorem w13_closedAt_l4 {p : Program} {l : Launch} {e : Env} {s : State} {m : MethodId} {args : Array Value} {below : List Frame} {meth : Method} {c : Code} {D : va_G} {cA : Nat → ClassId} {B : Nat} {res : Int × HP} (E : e_En p s m args meth c cX13_closedAt RX13 5 (some .int)) : ∀ (f : Nat) {ls : Array Slot} {H : Heap} {locs : List Loc} {S : HP} {x0 : Int} {x1 : Int} {x2 : Int} {x3 : Int} (hp : e_Pic D cA B S s H) (hS : va_S (e_A B) s.heap H locs) (hl : e_lo ls 5 [(0, e_rv B (x0)), (1, .int (iI (x1))), (2, .int (iI (x2))), (3, .int (iI (x3)))]) (hsh : s13_closedAt_l4 f S x0 x1 x2 x3 = some res), W p l e ({ frames := 0, cells := 0, slots := 0, locals := 0 } : Room) s m args below meth c H locs 0 0 (MQ below (e_Qi D cA B res.1 res.2) args s 0 0 (e_A B)) (F0 m 4 ls []) := by
  obtain ⟨hx, hb, hml, hown, hts, hlk, hrt⟩ := id E
  intro f
  induction f with
  | zero => intro ls H locs S x0 x1 x2 x3 hp hS hl hsh; cases hsh
  | succ f ih =>
    intro ls H locs S x0 x1 x2 x3 hp hS hl hsh
    have hk4 : ∀ {ls : Array Slot} {H : Heap} {locs : List Loc} {S : HP} {x0 : Int} {x1 : Int} {x2 : Int} {x3 : Int} (hp : e_Pic D cA B S s H) (hS : va_S (e_A B) s.heap H locs) (hl : e_lo ls 5 [(0, e_rv B (x0)), (1, .int (iI (x1))), (2, .int (iI (x2))), (3, .int (iI (x3)))]) (hsh : (s13_closedAt_l4 f) S x0 x1 x2 x3 = some res), W p l e ({ frames := 0, cells := 0, slots := 0, locals := 0 } : Room) s m args below meth c H locs 0 0 (MQ below (e_Qi D cA B res.1 res.2) args s 0 0 (e_A B)) (F0 m 4 ls []) := ih
    generalize hkk : s13_closedAt_l4 f = k4 at hk4
    rw [s13_closedAt_l4] at hsh
    rw [hkk] at hsh
    try dsimp only at hsh
    refine lv_iload_n hx hb dX13_closedAt_4 rfl (hl.at 3 rfl) ?_
    refine lv_iload_n hx hb dX13_closedAt_5 rfl (hl.at 1 rfl) ?_
    refine e_icmp_gt (tgt := 75) hx hb dX13_closedAt_6 (by decide) (fun c6 => ?_) (fun c6 => ?_)
    · rw [if_pos c6] at hsh
      exact w13_closedAt_b75 E hp hS (hl.sub [2] rfl) hsh
    · rw [if_neg c6] at hsh
      refine lv_iload_n hx hb dX13_closedAt_9 rfl (hl.at 2 rfl) ?_
      refine lv_iconst (v := iI (-1)) hx hb dX13_closedAt_10 rfl ?_
      refine e_icmp_ne (tgt := 75) hx hb dX13_closedAt_11 (by decide) (fun c11 => ?_) (fun c11 => ?_)
      · rw [if_neg c11] at hsh
        exact w13_closedAt_b75 E hp hS (hl.sub [2] rfl) hsh
      · rw [if_pos c11] at hsh
        refine e_aload_n (B := B) (x := x0) hx hb dX13_closedAt_14 rfl (hl.at 0 rfl) ?_
        obtain ⟨v15, h15, hsh⟩ := Option.bind_eq_some_iff.mp hsh
        refine e_getI (k := 20) hx hb hts in_X13 hown hp h15 rfl (by decide) (by decide) rfl (hts _ kf13_237) rfl dX13_closedAt_15 ?_
        refine e_if_le (tgt := 75) hx hb dX13_closedAt_18 (by decide) (fun c18 => ?_) (fun c18 => ?_)
        · rw [if_pos c18] at hsh
          exact w13_closedAt_b75 E hp hS (hl.sub [2] rfl) hsh
        · rw [if_neg c18] at hsh
          refine lv_bipush (v := iI (39)) hx hb dX13_closedAt_21 (by decide +kernel) ?_
          refine e_istore (lv' := [(4, .int (iI (39))), (0, e_rv B (x0)), (1, .int (iI (x1))), (2, .int (iI (x2))), (3, .int (iI (x3)))]) hx hb dX13_closedAt_23 hl (by decide) rfl (fun ls hl => ?_)
          exact w13_closedAt_l25 (hk4 := hk4) E 1000000 hp hS (hl.sub [1, 2, 3, 4, 0] rfl) hsh
set_option maxRecDepth 100000 in
set_option maxHeartbeats 4000000 in
theorem c13_closedAt (l : Launch) (D : va_G) (cA : Nat → ClassId) (B : Nat) (S S' : HP) (x0 : Int) (x1 : Int) (r : Int) (hsh : s13_closedAt S x0 x1 = some (r, S')) : Met l yX13_closedAt (e_wu yX13_closedAt cX13_closedAt 5 (some .int)) ({ frames := 0, cells := 0, slots := 0, locals := 0 } : Room) (va_Pc [e_rv B (x0), .int (iI (x1))] (fun U => e_PU D cA B S U)) (e_Qi D cA B r S') 0 0 (e_A B) := by
  refine Met.ofW (cc := cX13_closedAt) (maxL := 5) (ret := (some .int)) (by decide +kernel) rfl ?_
  intro p e s m args below meth c s₁ Bd hml hv
  obtain ⟨rfl, hp⟩ := hv
  have hp : e_Pic D cA B S s s.heap := hp
  have hx := Bd.exec
  have hb := Bd.bytes
  have hrt := Bd.returns
  have hlk := Bd.notSynchronized
  have hown : s.vm.findClass RX13 = some m.cls := findClass_of_methodNamed Bd.named
  have hts : ∀ w ∈ e_tb, w.before ([e_rv B (x0), .int (iI (x1))] : List Value).toArray s = true := fun w h => atoms_spec (ws := (e_wu yX13_closedAt cX13_closedAt 5 (some .int))) Bd.pre w (List.mem_cons_of_mem _ h)
  have E : e_En p s m ([e_rv B (x0), .int (iI (x1))] : List Value).toArray meth c cX13_closedAt RX13 5 (some .int) := ⟨hx, hb, hml, hown, hts, hlk, hrt⟩
  have hS : va_S (e_A B) s.heap s.heap [] := va_S.rf
  have hl := e_entry (vs := [e_rv B (x0), .int (iI (x1))]) (n := 5) (Nat.le_of_ble_eq_true rfl) (e_cc (e_rv_cat _ _) (e_cc rfl e_cn))
  rw [lg_entry_eq]
  generalize (lg_sl [e_rv B (x0), .int (iI (x1))] ++ List.replicate (5 - (lg_sl [e_rv B (x0), .int (iI (x1))]).length) Slot.unset).toArray = ls at hl ⊢
  generalize ([e_rv B (x0), .int (iI (x1))] : List Value).toArray = args at hts E ⊢
  have hl : e_lo ls 5 [(0, e_rv B (x0)), (1, .int (iI (x1)))] := hl
  have hsh := (gd_some hsh).2
  refine lv_iconst (v := iI (-1)) hx hb dX13_closedAt_0 rfl ?_
  refine e_istore_n (lv' := [(2, .int (iI ((-1)))), (0, e_rv B (x0)), (1, .int (iI (x1)))]) hx hb dX13_closedAt_1 rfl hl (by decide) rfl (fun ls hl => ?_)
  refine lv_iconst (v := iI (0)) hx hb dX13_closedAt_2 rfl ?_
  refine e_istore_n (lv' := [(3, .int (iI (0))), (2, .int (iI ((-1)))), (0, e_rv B (x0)), (1, .int (iI (x1)))]) hx hb dX13_closedAt_3 rfl hl (by decide) rfl (fun ls hl => ?_)
  exact w13_closedAt_l4 E 1000000 hp hS (hl.sub [2, 3, 1, 0] rfl) hsh
theorem ok13_firstSeen {S : HP} {x0 : Int} {x1 : Int} {r : Int × HP} (h : s13_firstSeen S x0 x1 = some r) : 0 ≤ x0 ∧ x0.toNat < e_n S ∧ e_g S x0.toNat = 13 := (gd_some h).1
set_option maxRecDepth 100000 in
set_option maxHeartbeats 4000000 in
theorem w13_firstSeen_b19 {p : Program} {l : Launch} {e : Env} {s : State} {m : MethodId} {args : Array Value} {below : List Frame} {meth : Method} {c : Code} {D : va_G} {cA : Nat → ClassId} {B : Nat} {res : Int × HP} (E : e_En p s m args meth c cX13_firstSeen RX13 3 (some .int)) {ls : Array Slot} {H : Heap} {locs : List Loc} {S : HP} {y0 : Int} (hp : e_Pic D cA B S s H) (hS : va_S (e_A B) s.heap H locs) (hl : e_lo ls 3 []) (hsh : s13_firstSeen_b19 S y0 = some res) : W p l e ({ frames := 1, cells := 0, slots := 0, locals := 24 } : Room) s m args below meth c H locs 0 0 (MQ below (e_Qi D cA B res.1 res.2) args s 0 0 (e_A B)) (F0 m 19 ls [.int (iI (y0))]) := by
  obtain ⟨hx, hb, hml, hown, hts, hlk, hrt⟩ := id E
  unfold s13_firstSeen_b19 at hsh
  cases hsh
  exact e_iret hx hb hrt hlk hp hS dX13_firstSeen_19
set_option maxRecDepth 100000 in
set_option maxHeartbeats 4000000 in
theorem c13_firstSeen (l : Launch) (D : va_G) (cA : Nat → ClassId) (B : Nat) (S S' : HP) (x0 : Int) (x1 : Int) (r : Int) (hsh : s13_firstSeen S x0 x1 = some (r, S')) : Met l yX13_firstSeen (e_wu yX13_firstSeen cX13_firstSeen 3 (some .int)) ({ frames := 1, cells := 0, slots := 0, locals := 24 } : Room) (va_Pc [e_rv B (x0), .int (iI (x1))] (fun U => e_PU D cA B S U)) (e_Qi D cA B r S') 0 0 (e_A B) := by
  refine Met.ofW (cc := cX13_firstSeen) (maxL := 3) (ret := (some .int)) (by decide +kernel) rfl ?_
  intro p e s m args below meth c s₁ Bd hml hv
  obtain ⟨rfl, hp⟩ := hv
  have hp : e_Pic D cA B S s s.heap := hp
  have hx := Bd.exec
  have hb := Bd.bytes
  have hrt := Bd.returns
  have hlk := Bd.notSynchronized
  have hown : s.vm.findClass RX13 = some m.cls := findClass_of_methodNamed Bd.named
  have hts : ∀ w ∈ e_tb, w.before ([e_rv B (x0), .int (iI (x1))] : List Value).toArray s = true := fun w h => atoms_spec (ws := (e_wu yX13_firstSeen cX13_firstSeen 3 (some .int))) Bd.pre w (List.mem_cons_of_mem _ h)
  have E : e_En p s m ([e_rv B (x0), .int (iI (x1))] : List Value).toArray meth c cX13_firstSeen RX13 3 (some .int) := ⟨hx, hb, hml, hown, hts, hlk, hrt⟩
  have hS : va_S (e_A B) s.heap s.heap [] := va_S.rf
  have hl := e_entry (vs := [e_rv B (x0), .int (iI (x1))]) (n := 3) (Nat.le_of_ble_eq_true rfl) (e_cc (e_rv_cat _ _) (e_cc rfl e_cn))
  rw [lg_entry_eq]
  generalize (lg_sl [e_rv B (x0), .int (iI (x1))] ++ List.replicate (3 - (lg_sl [e_rv B (x0), .int (iI (x1))]).length) Slot.unset).toArray = ls at hl ⊢
  generalize ([e_rv B (x0), .int (iI (x1))] : List Value).toArray = args at hts E ⊢
  have hl : e_lo ls 3 [(0, e_rv B (x0)), (1, .int (iI (x1)))] := hl
  have hsh := (gd_some hsh).2
  refine e_aload_n (B := B) (x := x0) hx hb dX13_firstSeen_0 rfl (hl.at 0 rfl) ?_
  refine lv_iload_n hx hb dX13_firstSeen_1 rfl (hl.at 1 rfl) ?_
  obtain ⟨⟨v2, S2⟩, h2, hsh⟩ := Option.bind_eq_some_iff.mp hsh
  have hsh : _ = _ := hsh
  try dsimp only at hsh
  have ok2 := ok13_closedAt h2
  refine e_callI (nL := 3) (mc := 0) (ms := 0) (T := TX13) (N := 126) (As := [.int (iI (x1))]) (rest := []) hx hb hml hown hts hp hS hl.size ok2.1 ok2.2.1 ok2.2.2 rfl (by decide) (c13_closedAt l D cA B S S2 (x0) (x1) v2 h2) rfl rfl kd13_closedAt (kl13_287) ks13_closedAt kv13_closedAt ki13 kh13_closedAt ⟨Nat.le_of_ble_eq_true rfl, Nat.le_of_ble_eq_true rfl⟩ rfl (by simp [e_rv_cat, e_int_cat]) ⟨Nat.le_refl _, Nat.le_refl _⟩ dX13_firstSeen_2 rfl (fun H locs hp hS => ?_)
  refine e_istore_n (lv' := [(2, .int (iI (v2))), (0, e_rv B (x0)), (1, .int (iI (x1)))]) hx hb dX13_firstSeen_5 rfl hl (by decide) rfl (fun ls hl => ?_)
  refine lv_iload_n hx hb dX13_firstSeen_6 rfl (hl.at 0 rfl) ?_
  refine lv_iconst (v := iI (-1)) hx hb dX13_firstSeen_7 rfl ?_
  refine e_icmp_ne (tgt := 15) hx hb dX13_firstSeen_8 (by decide) (fun c8 => ?_) (fun c8 => ?_)
  · rw [if_neg c8] at hsh
    refine lv_iload_n hx hb dX13_firstSeen_15 rfl (hl.at 0 rfl) ?_
    refine lv_bipush (v := iI (40)) hx hb dX13_firstSeen_16 (by decide +kernel) ?_
    obtain ⟨v18, h18, hsh⟩ := Option.bind_eq_some_iff.mp hsh
    refine e_idiv hx hb h18 dX13_firstSeen_18 ?_
    exact w13_firstSeen_b19 E hp hS (hl.sub [] rfl) hsh
  · rw [if_pos c8] at hsh
    refine lv_iload_n hx hb dX13_firstSeen_11 rfl (hl.at 2 rfl) ?_
    refine lv_goto (tgt := 19) hx hb dX13_firstSeen_12 (by decide) ?_
    exact w13_firstSeen_b19 E hp hS (hl.sub [] rfl) hsh
theorem ok13_lastSeen {S : HP} {x0 : Int} {x1 : Int} {r : Int × HP} (h : s13_lastSeen S x0 x1 = some r) : 0 ≤ x0 ∧ x0.toNat < e_n S ∧ e_g S x0.toNat = 13 := (gd_some h).1
set_option maxRecDepth 100000 in
set_option maxHeartbeats 4000000 in
theorem w13_lastSeen_b19 {p : Program} {l : Launch} {e : Env} {s : State} {m : MethodId} {args : Array Value} {below : List Frame} {meth : Method} {c : Code} {D : va_G} {cA : Nat → ClassId} {B : Nat} {res : Int × HP} (E : e_En p s m args meth c cX13_lastSeen RX13 3 (some .int)) {ls : Array Slot} {H : Heap} {locs : List Loc} {S : HP} {y0 : Int} (hp : e_Pic D cA B S s H) (hS : va_S (e_A B) s.heap H locs) (hl : e_lo ls 3 []) (hsh : s13_lastSeen_b19 S y0 = some res) : W p l e ({ frames := 1, cells := 0, slots := 0, locals := 24 } : Room) s m args below meth c H locs 0 0 (MQ below (e_Qi D cA B res.1 res.2) args s 0 0 (e_A B)) (F0 m 19 ls [.int (iI (y0))]) := by
  obtain ⟨hx, hb, hml, hown, hts, hlk, hrt⟩ := id E
  unfold s13_lastSeen_b19 at hsh
  cases hsh
  exact e_iret hx hb hrt hlk hp hS dX13_lastSeen_19
set_option maxRecDepth 100000 in
set_option maxHeartbeats 4000000 in
theorem c13_lastSeen (l : Launch) (D : va_G) (cA : Nat → ClassId) (B : Nat) (S S' : HP) (x0 : Int) (x1 : Int) (r : Int) (hsh : s13_lastSeen S x0 x1 = some (r, S')) : Met l yX13_lastSeen (e_wu yX13_lastSeen cX13_lastSeen 3 (some .int)) ({ frames := 1, cells := 0, slots := 0, locals := 24 } : Room) (va_Pc [e_rv B (x0), .int (iI (x1))] (fun U => e_PU D cA B S U)) (e_Qi D cA B r S') 0 0 (e_A B) := by
  refine Met.ofW (cc := cX13_lastSeen) (maxL := 3) (ret := (some .int)) (by decide +kernel) rfl ?_
  intro p e s m args below meth c s₁ Bd hml hv
  obtain ⟨rfl, hp⟩ := hv
  have hp : e_Pic D cA B S s s.heap := hp
  have hx := Bd.exec
  have hb := Bd.bytes
  have hrt := Bd.returns
  have hlk := Bd.notSynchronized
  have hown : s.vm.findClass RX13 = some m.cls := findClass_of_methodNamed Bd.named
  have hts : ∀ w ∈ e_tb, w.before ([e_rv B (x0), .int (iI (x1))] : List Value).toArray s = true := fun w h => atoms_spec (ws := (e_wu yX13_lastSeen cX13_lastSeen 3 (some .int))) Bd.pre w (List.mem_cons_of_mem _ h)
  have E : e_En p s m ([e_rv B (x0), .int (iI (x1))] : List Value).toArray meth c cX13_lastSeen RX13 3 (some .int) := ⟨hx, hb, hml, hown, hts, hlk, hrt⟩
  have hS : va_S (e_A B) s.heap s.heap [] := va_S.rf
  have hl := e_entry (vs := [e_rv B (x0), .int (iI (x1))]) (n := 3) (Nat.le_of_ble_eq_true rfl) (e_cc (e_rv_cat _ _) (e_cc rfl e_cn))
  rw [lg_entry_eq]
  generalize (lg_sl [e_rv B (x0), .int (iI (x1))] ++ List.replicate (3 - (lg_sl [e_rv B (x0), .int (iI (x1))]).length) Slot.unset).toArray = ls at hl ⊢
  generalize ([e_rv B (x0), .int (iI (x1))] : List Value).toArray = args at hts E ⊢
  have hl : e_lo ls 3 [(0, e_rv B (x0)), (1, .int (iI (x1)))] := hl
  have hsh := (gd_some hsh).2
  refine e_aload_n (B := B) (x := x0) hx hb dX13_lastSeen_0 rfl (hl.at 0 rfl) ?_
  refine lv_iload_n hx hb dX13_lastSeen_1 rfl (hl.at 1 rfl) ?_
  obtain ⟨⟨v2, S2⟩, h2, hsh⟩ := Option.bind_eq_some_iff.mp hsh
  have hsh : _ = _ := hsh
  try dsimp only at hsh
  have ok2 := ok13_closedAt h2
  refine e_callI (nL := 3) (mc := 0) (ms := 0) (T := TX13) (N := 126) (As := [.int (iI (x1))]) (rest := []) hx hb hml hown hts hp hS hl.size ok2.1 ok2.2.1 ok2.2.2 rfl (by decide) (c13_closedAt l D cA B S S2 (x0) (x1) v2 h2) rfl rfl kd13_closedAt (kl13_287) ks13_closedAt kv13_closedAt ki13 kh13_closedAt ⟨Nat.le_of_ble_eq_true rfl, Nat.le_of_ble_eq_true rfl⟩ rfl (by simp [e_rv_cat, e_int_cat]) ⟨Nat.le_refl _, Nat.le_refl _⟩ dX13_lastSeen_2 rfl (fun H locs hp hS => ?_)
  refine e_istore_n (lv' := [(2, .int (iI (v2))), (0, e_rv B (x0)), (1, .int (iI (x1)))]) hx hb dX13_lastSeen_5 rfl hl (by decide) rfl (fun ls hl => ?_)
  refine lv_iload_n hx hb dX13_lastSeen_6 rfl (hl.at 0 rfl) ?_
  refine lv_iconst (v := iI (-1)) hx hb dX13_lastSeen_7 rfl ?_
  refine e_icmp_ne (tgt := 15) hx hb dX13_lastSeen_8 (by decide) (fun c8 => ?_) (fun c8 => ?_)
  · rw [if_neg c8] at hsh
    refine lv_iload_n hx hb dX13_lastSeen_15 rfl (hl.at 0 rfl) ?_
    refine lv_bipush (v := iI (40)) hx hb dX13_lastSeen_16 (by decide +kernel) ?_
    obtain ⟨v18, h18, hsh⟩ := Option.bind_eq_some_iff.mp hsh
    refine e_irem hx hb h18 dX13_lastSeen_18 ?_
    exact w13_lastSeen_b19 E hp hS (hl.sub [] rfl) hsh
  · rw [if_pos c8] at hsh
    refine lv_iload_n hx hb dX13_lastSeen_11 rfl (hl.at 2 rfl) ?_
    refine lv_goto (tgt := 19) hx hb dX13_lastSeen_12 (by decide) ?_
    exact w13_lastSeen_b19 E hp hS (hl.sub [] rfl) hsh
set_option maxRecDepth 100000 in
set_option maxHeartbeats 4000000 in
theorem w13_classOf_b54 {p : Program} {l : Launch} {e : Env} {s : State} {m : MethodId} {args : Array Value} {below : List Frame} {meth : Method} {c : Code} {D : va_G} {cA : Nat → ClassId} {B : Nat} {res : Int × HP} (E : e_En p s m args meth c cX13_classOf RX13 1 (some .int)) {ls : Array Slot} {H : Heap} {locs : List Loc} {S : HP} {y0 : Int} (hp : e_Pic D cA B S s H) (hS : va_S (e_A B) s.heap H locs) (hl : e_lo ls 1 []) (hsh : s13_classOf_b54 S y0 = some res) : W p l e ({ frames := 1, cells := 0, slots := 0, locals := 22 } : Room) s m args below meth c H locs 0 0 (MQ below (e_Qi D cA B res.1 res.2) args s 0 0 (e_A B)) (F0 m 54 ls [.int (iI (y0))]) := by
  obtain ⟨hx, hb, hml, hown, hts, hlk, hrt⟩ := id E
  unfold s13_classOf_b54 at hsh
  cases hsh
  exact e_iret hx hb hrt hlk hp hS dX13_classOf_54
set_option maxRecDepth 100000 in
set_option maxHeartbeats 4000000 in
theorem w13_classOf_b49 {p : Program} {l : Launch} {e : Env} {s : State} {m : MethodId} {args : Array Value} {below : List Frame} {meth : Method} {c : Code} {D : va_G} {cA : Nat → ClassId} {B : Nat} {res : Int × HP} (E : e_En p s m args meth c cX13_classOf RX13 1 (some .int)) {ls : Array Slot} {H : Heap} {locs : List Loc} {S : HP} (hp : e_Pic D cA B S s H) (hS : va_S (e_A B) s.heap H locs) (hl : e_lo ls 1 []) (hsh : s13_classOf_b49 S  = some res) : W p l e ({ frames := 1, cells := 0, slots := 0, locals := 22 } : Room) s m args below meth c H locs 0 0 (MQ below (e_Qi D cA B res.1 res.2) args s 0 0 (e_A B)) (F0 m 49 ls []) := by
  obtain ⟨hx, hb, hml, hown, hts, hlk, hrt⟩ := id E
  unfold s13_classOf_b49 at hsh
  refine lv_iconst (v := iI (1)) hx hb dX13_classOf_49 rfl ?_
  refine lv_goto (tgt := 54) hx hb dX13_classOf_50 (by decide) ?_
  exact w13_classOf_b54 E hp hS (hl.sub [] rfl) hsh
set_option maxRecDepth 100000 in
set_option maxHeartbeats 4000000 in
theorem c13_classOf (l : Launch) (D : va_G) (cA : Nat → ClassId) (B : Nat) (S S' : HP) (x0 : Int) (r : Int) (hsh : s13_classOf S x0 = some (r, S')) : Met l yX13_classOf (e_wu yX13_classOf cX13_classOf 1 (some .int)) ({ frames := 1, cells := 0, slots := 0, locals := 22 } : Room) (va_Pc [.int (iI (x0))] (fun U => e_PU D cA B S U)) (e_Qi D cA B r S') 0 0 (e_A B) := by
  refine Met.ofW (cc := cX13_classOf) (maxL := 1) (ret := (some .int)) (by decide +kernel) rfl ?_
  intro p e s m args below meth c s₁ Bd hml hv
  obtain ⟨rfl, hp⟩ := hv
  have hp : e_Pic D cA B S s s.heap := hp
  have hx := Bd.exec
  have hb := Bd.bytes
  have hrt := Bd.returns
  have hlk := Bd.notSynchronized
  have hown : s.vm.findClass RX13 = some m.cls := findClass_of_methodNamed Bd.named
  have hts : ∀ w ∈ e_tb, w.before ([.int (iI (x0))] : List Value).toArray s = true := fun w h => atoms_spec (ws := (e_wu yX13_classOf cX13_classOf 1 (some .int))) Bd.pre w (List.mem_cons_of_mem _ h)
  have E : e_En p s m ([.int (iI (x0))] : List Value).toArray meth c cX13_classOf RX13 1 (some .int) := ⟨hx, hb, hml, hown, hts, hlk, hrt⟩
  have hS : va_S (e_A B) s.heap s.heap [] := va_S.rf
  have hl := e_entry (vs := [.int (iI (x0))]) (n := 1) (Nat.le_of_ble_eq_true rfl) (e_cc rfl e_cn)
  rw [lg_entry_eq]
  generalize (lg_sl [.int (iI (x0))] ++ List.replicate (1 - (lg_sl [.int (iI (x0))]).length) Slot.unset).toArray = ls at hl ⊢
  generalize ([.int (iI (x0))] : List Value).toArray = args at hts E ⊢
  have hl : e_lo ls 1 [(0, .int (iI (x0)))] := hl
  unfold s13_classOf at hsh
  refine lv_iload_n hx hb dX13_classOf_0 rfl (hl.at 0 rfl) ?_
  refine lv_bipush (v := iI (32)) hx hb dX13_classOf_1 (by decide +kernel) ?_
  refine e_icmp_ne (tgt := 10) hx hb dX13_classOf_3 (by decide) (fun c3 => ?_) (fun c3 => ?_)
  · rw [if_neg c3] at hsh
    refine lv_iload_n hx hb dX13_classOf_10 rfl (hl.at 0 rfl) ?_
    refine lv_bipush (v := iI (97)) hx hb dX13_classOf_11 (by decide +kernel) ?_
    refine lv_bipush (v := iI (122)) hx hb dX13_classOf_13 (by decide +kernel) ?_
    obtain ⟨⟨v15, S15⟩, h15, hsh⟩ := Option.bind_eq_some_iff.mp hsh
    have hsh : _ = _ := hsh
    try dsimp only at hsh
    refine e_callS (nL := 1) (mc := 0) (ms := 0) (As := [.int (iI (x0)), .int (iI (97)), .int (iI (122))]) (rest := []) hx hb hml hown hts hp hS hl.size (c13_isIn l D cA B S S15 (x0) (97) (122) v15 h15) rfl rfl kd13_isIn (kl13_198) ks13_isIn ki13 kh13_isIn ⟨Nat.le_of_ble_eq_true rfl, Nat.le_of_ble_eq_true rfl⟩ rfl (by simp [e_rv_cat, e_int_cat]) ⟨Nat.le_refl _, Nat.le_refl _⟩ dX13_classOf_15 rfl (fun H locs hp hS => ?_)
    refine e_if_ne (tgt := 49) hx hb dX13_classOf_18 (by decide) (fun c18 => ?_) (fun c18 => ?_)
    · rw [if_neg c18] at hsh
      exact w13_classOf_b49 E hp hS (hl.sub [] rfl) hsh
    · rw [if_pos c18] at hsh
      refine lv_iload_n hx hb dX13_classOf_21 rfl (hl.at 0 rfl) ?_
      refine lv_bipush (v := iI (65)) hx hb dX13_classOf_22 (by decide +kernel) ?_
      refine lv_bipush (v := iI (90)) hx hb dX13_classOf_24 (by decide +kernel) ?_
      obtain ⟨⟨v26, S26⟩, h26, hsh⟩ := Option.bind_eq_some_iff.mp hsh
      have hsh : _ = _ := hsh
      try dsimp only at hsh
      refine e_callS (nL := 1) (mc := 0) (ms := 0) (As := [.int (iI (x0)), .int (iI (65)), .int (iI (90))]) (rest := []) hx hb hml hown hts hp hS hl.size (c13_isIn l D cA B S15 S26 (x0) (65) (90) v26 h26) rfl rfl kd13_isIn (kl13_198) ks13_isIn ki13 kh13_isIn ⟨Nat.le_of_ble_eq_true rfl, Nat.le_of_ble_eq_true rfl⟩ rfl (by simp [e_rv_cat, e_int_cat]) ⟨Nat.le_refl _, Nat.le_refl _⟩ dX13_classOf_26 rfl (fun H locs hp hS => ?_)
      refine e_if_ne (tgt := 49) hx hb dX13_classOf_29 (by decide) (fun c29 => ?_) (fun c29 => ?_)
      · rw [if_neg c29] at hsh
        exact w13_classOf_b49 E hp hS (hl.sub [] rfl) hsh
      · rw [if_pos c29] at hsh
        refine lv_iload_n hx hb dX13_classOf_32 rfl (hl.at 0 rfl) ?_
        refine lv_bipush (v := iI (48)) hx hb dX13_classOf_33 (by decide +kernel) ?_
        refine lv_bipush (v := iI (57)) hx hb dX13_classOf_35 (by decide +kernel) ?_
        obtain ⟨⟨v37, S37⟩, h37, hsh⟩ := Option.bind_eq_some_iff.mp hsh
        have hsh : _ = _ := hsh
        try dsimp only at hsh
        refine e_callS (nL := 1) (mc := 0) (ms := 0) (As := [.int (iI (x0)), .int (iI (48)), .int (iI (57))]) (rest := []) hx hb hml hown hts hp hS hl.size (c13_isIn l D cA B S26 S37 (x0) (48) (57) v37 h37) rfl rfl kd13_isIn (kl13_198) ks13_isIn ki13 kh13_isIn ⟨Nat.le_of_ble_eq_true rfl, Nat.le_of_ble_eq_true rfl⟩ rfl (by simp [e_rv_cat, e_int_cat]) ⟨Nat.le_refl _, Nat.le_refl _⟩ dX13_classOf_37 rfl (fun H locs hp hS => ?_)
        refine e_if_ne (tgt := 49) hx hb dX13_classOf_40 (by decide) (fun c40 => ?_) (fun c40 => ?_)
        · rw [if_neg c40] at hsh
          exact w13_classOf_b49 E hp hS (hl.sub [] rfl) hsh
        · rw [if_pos c40] at hsh
          refine lv_iload_n hx hb dX13_classOf_43 rfl (hl.at 0 rfl) ?_
          refine lv_bipush (v := iI (95)) hx hb dX13_classOf_44 (by decide +kernel) ?_
          refine e_icmp_ne (tgt := 53) hx hb dX13_classOf_46 (by decide) (fun c46 => ?_) (fun c46 => ?_)
          · rw [if_neg c46] at hsh
            refine lv_iconst (v := iI (2)) hx hb dX13_classOf_53 rfl ?_
            exact w13_classOf_b54 E hp hS (hl.sub [] rfl) hsh
          · rw [if_pos c46] at hsh
            exact w13_classOf_b49 E hp hS (hl.sub [] rfl) hsh
  · rw [if_pos c3] at hsh
    refine lv_iconst (v := iI (0)) hx hb dX13_classOf_6 rfl ?_
    refine lv_goto (tgt := 54) hx hb dX13_classOf_7 (by decide) ?_
    exact w13_classOf_b54 E hp hS (hl.sub [] rfl) hsh
theorem ok13_classAt {S : HP} {x0 : Int} {x1 : Int} {x2 : Int} {r : Int × HP} (h : s13_classAt S x0 x1 x2 = some r) : 0 ≤ x0 ∧ x0.toNat < e_n S ∧ e_g S x0.toNat = 13 := (gd_some h).1
set_option maxRecDepth 100000 in
set_option maxHeartbeats 4000000 in
theorem w13_classAt_b29 {p : Program} {l : Launch} {e : Env} {s : State} {m : MethodId} {args : Array Value} {below : List Frame} {meth : Method} {c : Code} {D : va_G} {cA : Nat → ClassId} {B : Nat} {res : Int × HP} (E : e_En p s m args meth c cX13_classAt RX13 3 (some .int)) {ls : Array Slot} {H : Heap} {locs : List Loc} {S : HP} {y0 : Int} (hp : e_Pic D cA B S s H) (hS : va_S (e_A B) s.heap H locs) (hl : e_lo ls 3 []) (hsh : s13_classAt_b29 S y0 = some res) : W p l e ({ frames := 2, cells := 0, slots := 0, locals := 42 } : Room) s m args below meth c H locs 0 0 (MQ below (e_Qi D cA B res.1 res.2) args s 0 0 (e_A B)) (F0 m 29 ls [.int (iI (y0))]) := by
  obtain ⟨hx, hb, hml, hown, hts, hlk, hrt⟩ := id E
  unfold s13_classAt_b29 at hsh
  cases hsh
  exact e_iret hx hb hrt hlk hp hS dX13_classAt_29
set_option maxRecDepth 100000 in
set_option maxHeartbeats 4000000 in
theorem c13_classAt (l : Launch) (D : va_G) (cA : Nat → ClassId) (B : Nat) (S S' : HP) (x0 : Int) (x1 : Int) (x2 : Int) (r : Int) (hsh : s13_classAt S x0 x1 x2 = some (r, S')) : Met l yX13_classAt (e_wu yX13_classAt cX13_classAt 3 (some .int)) ({ frames := 2, cells := 0, slots := 0, locals := 42 } : Room) (va_Pc [e_rv B (x0), .int (iI (x1)), .int (iI (x2))] (fun U => e_PU D cA B S U)) (e_Qi D cA B r S') 0 0 (e_A B) := by
  refine Met.ofW (cc := cX13_classAt) (maxL := 3) (ret := (some .int)) (by decide +kernel) rfl ?_
  intro p e s m args below meth c s₁ Bd hml hv
  obtain ⟨rfl, hp⟩ := hv
  have hp : e_Pic D cA B S s s.heap := hp
  have hx := Bd.exec
  have hb := Bd.bytes
  have hrt := Bd.returns
  have hlk := Bd.notSynchronized
  have hown : s.vm.findClass RX13 = some m.cls := findClass_of_methodNamed Bd.named
  have hts : ∀ w ∈ e_tb, w.before ([e_rv B (x0), .int (iI (x1)), .int (iI (x2))] : List Value).toArray s = true := fun w h => atoms_spec (ws := (e_wu yX13_classAt cX13_classAt 3 (some .int))) Bd.pre w (List.mem_cons_of_mem _ h)
  have E : e_En p s m ([e_rv B (x0), .int (iI (x1)), .int (iI (x2))] : List Value).toArray meth c cX13_classAt RX13 3 (some .int) := ⟨hx, hb, hml, hown, hts, hlk, hrt⟩
  have hS : va_S (e_A B) s.heap s.heap [] := va_S.rf
  have hl := e_entry (vs := [e_rv B (x0), .int (iI (x1)), .int (iI (x2))]) (n := 3) (Nat.le_of_ble_eq_true rfl) (e_cc (e_rv_cat _ _) (e_cc rfl (e_cc rfl e_cn)))
  rw [lg_entry_eq]
  generalize (lg_sl [e_rv B (x0), .int (iI (x1)), .int (iI (x2))] ++ List.replicate (3 - (lg_sl [e_rv B (x0), .int (iI (x1)), .int (iI (x2))]).length) Slot.unset).toArray = ls at hl ⊢
  generalize ([e_rv B (x0), .int (iI (x1)), .int (iI (x2))] : List Value).toArray = args at hts E ⊢
  have hl : e_lo ls 3 [(0, e_rv B (x0)), (1, .int (iI (x1))), (2, .int (iI (x2)))] := hl
  have hsh := (gd_some hsh).2
  refine lv_iload_n hx hb dX13_classAt_0 rfl (hl.at 2 rfl) ?_
  refine lv_iconst (v := iI (0)) hx hb dX13_classAt_1 rfl ?_
  refine e_aload_n (B := B) (x := x0) hx hb dX13_classAt_2 rfl (hl.at 0 rfl) ?_
  obtain ⟨v3, h3, hsh⟩ := Option.bind_eq_some_iff.mp hsh
  refine e_getR (k := 3) hx hb hts in_X13 hown hp h3 rfl (by decide) (by decide) rfl (hts _ kf13_17) rfl dX13_classAt_3 ?_
  refine lv_iload_n hx hb dX13_classAt_6 rfl (hl.at 1 rfl) ?_
  obtain ⟨v7, h7, hsh⟩ := Option.bind_eq_some_iff.mp hsh
  refine e_iald hx hb hp h7 dX13_classAt_7 ?_
  refine lv_iconst (v := iI (1)) hx hb dX13_classAt_8 rfl ?_
  refine e_isub hx hb dX13_classAt_9 ?_
  obtain ⟨⟨v10, S10⟩, h10, hsh⟩ := Option.bind_eq_some_iff.mp hsh
  have hsh : _ = _ := hsh
  try dsimp only at hsh
  refine e_callS (nL := 3) (mc := 0) (ms := 0) (As := [.int (iI (x2)), .int (iI (0)), .int (iI ((v7 - 1)))]) (rest := []) hx hb hml hown hts hp hS hl.size (c13_isIn l D cA B S S10 (x2) (0) ((v7 - 1)) v10 h10) rfl rfl kd13_isIn (kl13_198) ks13_isIn ki13 kh13_isIn ⟨Nat.le_of_ble_eq_true rfl, Nat.le_of_ble_eq_true rfl⟩ rfl (by simp [e_rv_cat, e_int_cat]) ⟨Nat.le_refl _, Nat.le_refl _⟩ dX13_classAt_10 rfl (fun H locs hp hS => ?_)
  refine e_if_eq (tgt := 28) hx hb dX13_classAt_13 (by decide) (fun c13 => ?_) (fun c13 => ?_)
  · rw [if_pos c13] at hsh
    refine lv_iconst (v := iI (-1)) hx hb dX13_classAt_28 rfl ?_
    exact w13_classAt_b29 E hp hS (hl.sub [] rfl) hsh
  · rw [if_neg c13] at hsh
    refine e_aload_n (B := B) (x := x0) hx hb dX13_classAt_16 rfl (hl.at 0 rfl) ?_
    refine lv_iload_n hx hb dX13_classAt_17 rfl (hl.at 1 rfl) ?_
    refine lv_iload_n hx hb dX13_classAt_18 rfl (hl.at 2 rfl) ?_
    obtain ⟨⟨v19, S19⟩, h19, hsh⟩ := Option.bind_eq_some_iff.mp hsh
    have hsh : _ = _ := hsh
    try dsimp only at hsh
    have ok19 := ok13_at h19
    refine e_callI (nL := 3) (mc := 0) (ms := 0) (T := TX13) (N := 126) (As := [.int (iI (x1)), .int (iI (x2))]) (rest := []) hx hb hml hown hts hp hS hl.size ok19.1 ok19.2.1 ok19.2.2 rfl (by decide) (c13_at l D cA B S10 S19 (x0) (x1) (x2) v19 h19) rfl rfl kd13_at (kl13_206) ks13_at kv13_at ki13 kh13_at ⟨Nat.le_of_ble_eq_true rfl, Nat.le_of_ble_eq_true rfl⟩ rfl (by simp [e_rv_cat, e_int_cat]) ⟨Nat.le_refl _, Nat.le_refl _⟩ dX13_classAt_19 rfl (fun H locs hp hS => ?_)
    obtain ⟨⟨v22, S22⟩, h22, hsh⟩ := Option.bind_eq_some_iff.mp hsh
    have hsh : _ = _ := hsh
    try dsimp only at hsh
    refine e_callS (nL := 3) (mc := 0) (ms := 0) (As := [.int (iI (v19))]) (rest := []) hx hb hml hown hts hp hS hl.size (c13_classOf l D cA B S19 S22 (v19) v22 h22) rfl rfl kd13_classOf (kl13_290) ks13_classOf ki13 kh13_classOf ⟨Nat.le_of_ble_eq_true rfl, Nat.le_of_ble_eq_true rfl⟩ rfl (by simp [e_rv_cat, e_int_cat]) ⟨Nat.le_refl _, Nat.le_refl _⟩ dX13_classAt_22 rfl (fun H locs hp hS => ?_)
    refine lv_goto (tgt := 29) hx hb dX13_classAt_25 (by decide) ?_
    exact w13_classAt_b29 E hp hS (hl.sub [] rfl) hsh
theorem ok13_isStop {S : HP} {x0 : Int} {x1 : Int} {x2 : Int} {r : Int × HP} (h : s13_isStop S x0 x1 x2 = some r) : 0 ≤ x0 ∧ x0.toNat < e_n S ∧ e_g S x0.toNat = 13 := (gd_some h).1
set_option maxRecDepth 100000 in
set_option maxHeartbeats 4000000 in
theorem w13_isStop_b37 {p : Program} {l : Launch} {e : Env} {s : State} {m : MethodId} {args : Array Value} {below : List Frame} {meth : Method} {c : Code} {D : va_G} {cA : Nat → ClassId} {B : Nat} {res : Int × HP} (E : e_En p s m args meth c cX13_isStop RX13 4 (some .boolean)) {ls : Array Slot} {H : Heap} {locs : List Loc} {S : HP} {y0 : Int} (hp : e_Pic D cA B S s H) (hS : va_S (e_A B) s.heap H locs) (hl : e_lo ls 4 []) (hsh : s13_isStop_b37 S y0 = some res) : W p l e ({ frames := 3, cells := 0, slots := 0, locals := 64 } : Room) s m args below meth c H locs 0 0 (MQ below (e_Qi D cA B res.1 res.2) args s 0 0 (e_A B)) (F0 m 37 ls [.int (iI (y0))]) := by
  obtain ⟨hx, hb, hml, hown, hts, hlk, hrt⟩ := id E
  unfold s13_isStop_b37 at hsh
  obtain ⟨hz, hz1, hz2⟩ := zR_some hsh
  rw [← hz1, ← hz2]
  exact e_zret hx hb hrt hlk hp hS hz dX13_isStop_37
set_option maxRecDepth 100000 in
set_option maxHeartbeats 4000000 in
theorem w13_isStop_b32 {p : Program} {l : Launch} {e : Env} {s : State} {m : MethodId} {args : Array Value} {below : List Frame} {meth : Method} {c : Code} {D : va_G} {cA : Nat → ClassId} {B : Nat} {res : Int × HP} (E : e_En p s m args meth c cX13_isStop RX13 4 (some .boolean)) {ls : Array Slot} {H : Heap} {locs : List Loc} {S : HP} (hp : e_Pic D cA B S s H) (hS : va_S (e_A B) s.heap H locs) (hl : e_lo ls 4 []) (hsh : s13_isStop_b32 S  = some res) : W p l e ({ frames := 3, cells := 0, slots := 0, locals := 64 } : Room) s m args below meth c H locs 0 0 (MQ below (e_Qi D cA B res.1 res.2) args s 0 0 (e_A B)) (F0 m 32 ls []) := by
  obtain ⟨hx, hb, hml, hown, hts, hlk, hrt⟩ := id E
  unfold s13_isStop_b32 at hsh
  refine lv_iconst (v := iI (1)) hx hb dX13_isStop_32 rfl ?_
  refine lv_goto (tgt := 37) hx hb dX13_isStop_33 (by decide) ?_
  exact w13_isStop_b37 E hp hS (hl.sub [] rfl) hsh
set_option maxRecDepth 100000 in
set_option maxHeartbeats 4000000 in
theorem w13_isStop_b36 {p : Program} {l : Launch} {e : Env} {s : State} {m : MethodId} {args : Array Value} {below : List Frame} {meth : Method} {c : Code} {D : va_G} {cA : Nat → ClassId} {B : Nat} {res : Int × HP} (E : e_En p s m args meth c cX13_isStop RX13 4 (some .boolean)) {ls : Array Slot} {H : Heap} {locs : List Loc} {S : HP} (hp : e_Pic D cA B S s H) (hS : va_S (e_A B) s.heap H locs) (hl : e_lo ls 4 []) (hsh : s13_isStop_b36 S  = some res) : W p l e ({ frames := 3, cells := 0, slots := 0, locals := 64 } : Room) s m args below meth c H locs 0 0 (MQ below (e_Qi D cA B res.1 res.2) args s 0 0 (e_A B)) (F0 m 36 ls []) := by
  obtain ⟨hx, hb, hml, hown, hts, hlk, hrt⟩ := id E
  unfold s13_isStop_b36 at hsh
  refine lv_iconst (v := iI (0)) hx hb dX13_isStop_36 rfl ?_
  exact w13_isStop_b37 E hp hS (hl.sub [] rfl) hsh
set_option maxRecDepth 100000 in
set_option maxHeartbeats 4000000 in
theorem c13_isStop (l : Launch) (D : va_G) (cA : Nat → ClassId) (B : Nat) (S S' : HP) (x0 : Int) (x1 : Int) (x2 : Int) (r : Int) (hsh : s13_isStop S x0 x1 x2 = some (r, S')) : Met l yX13_isStop (e_wu yX13_isStop cX13_isStop 4 (some .boolean)) ({ frames := 3, cells := 0, slots := 0, locals := 64 } : Room) (va_Pc [e_rv B (x0), .int (iI (x1)), .int (iI (x2))] (fun U => e_PU D cA B S U)) (e_Qi D cA B r S') 0 0 (e_A B) := by
  refine Met.ofW (cc := cX13_isStop) (maxL := 4) (ret := (some .boolean)) (by decide +kernel) rfl ?_
  intro p e s m args below meth c s₁ Bd hml hv
  obtain ⟨rfl, hp⟩ := hv
  have hp : e_Pic D cA B S s s.heap := hp
  have hx := Bd.exec
  have hb := Bd.bytes
  have hrt := Bd.returns
  have hlk := Bd.notSynchronized
  have hown : s.vm.findClass RX13 = some m.cls := findClass_of_methodNamed Bd.named
  have hts : ∀ w ∈ e_tb, w.before ([e_rv B (x0), .int (iI (x1)), .int (iI (x2))] : List Value).toArray s = true := fun w h => atoms_spec (ws := (e_wu yX13_isStop cX13_isStop 4 (some .boolean))) Bd.pre w (List.mem_cons_of_mem _ h)
  have E : e_En p s m ([e_rv B (x0), .int (iI (x1)), .int (iI (x2))] : List Value).toArray meth c cX13_isStop RX13 4 (some .boolean) := ⟨hx, hb, hml, hown, hts, hlk, hrt⟩
  have hS : va_S (e_A B) s.heap s.heap [] := va_S.rf
  have hl := e_entry (vs := [e_rv B (x0), .int (iI (x1)), .int (iI (x2))]) (n := 4) (Nat.le_of_ble_eq_true rfl) (e_cc (e_rv_cat _ _) (e_cc rfl (e_cc rfl e_cn)))
  rw [lg_entry_eq]
  generalize (lg_sl [e_rv B (x0), .int (iI (x1)), .int (iI (x2))] ++ List.replicate (4 - (lg_sl [e_rv B (x0), .int (iI (x1)), .int (iI (x2))]).length) Slot.unset).toArray = ls at hl ⊢
  generalize ([e_rv B (x0), .int (iI (x1)), .int (iI (x2))] : List Value).toArray = args at hts E ⊢
  have hl : e_lo ls 4 [(0, e_rv B (x0)), (1, .int (iI (x1))), (2, .int (iI (x2)))] := hl
  have hsh := (gd_some hsh).2
  refine e_aload_n (B := B) (x := x0) hx hb dX13_isStop_0 rfl (hl.at 0 rfl) ?_
  refine lv_iload_n hx hb dX13_isStop_1 rfl (hl.at 1 rfl) ?_
  refine lv_iload_n hx hb dX13_isStop_2 rfl (hl.at 2 rfl) ?_
  obtain ⟨⟨v3, S3⟩, h3, hsh⟩ := Option.bind_eq_some_iff.mp hsh
  have hsh : _ = _ := hsh
  try dsimp only at hsh
  have ok3 := ok13_classAt h3
  refine e_callI (nL := 4) (mc := 0) (ms := 0) (T := TX13) (N := 126) (As := [.int (iI (x1)), .int (iI (x2))]) (rest := []) hx hb hml hown hts hp hS hl.size ok3.1 ok3.2.1 ok3.2.2 rfl (by decide) (c13_classAt l D cA B S S3 (x0) (x1) (x2) v3 h3) rfl rfl kd13_classAt (kl13_293) ks13_classAt kv13_classAt ki13 kh13_classAt ⟨Nat.le_of_ble_eq_true rfl, Nat.le_of_ble_eq_true rfl⟩ rfl (by simp [e_rv_cat, e_int_cat]) ⟨Nat.le_refl _, Nat.le_refl _⟩ dX13_isStop_3 rfl (fun H locs hp hS => ?_)
  refine e_istore_n (lv' := [(3, .int (iI (v3))), (0, e_rv B (x0)), (1, .int (iI (x1))), (2, .int (iI (x2)))]) hx hb dX13_isStop_6 rfl hl (by decide) rfl (fun ls hl => ?_)
  refine e_aload_n (B := B) (x := x0) hx hb dX13_isStop_7 rfl (hl.at 1 rfl) ?_
  obtain ⟨v8, h8, hsh⟩ := Option.bind_eq_some_iff.mp hsh
  refine e_getR (k := 3) hx hb hts in_X13 hown hp h8 rfl (by decide) (by decide) rfl (hts _ kf13_17) rfl dX13_isStop_8 ?_
  refine lv_iload_n hx hb dX13_isStop_11 rfl (hl.at 2 rfl) ?_
  obtain ⟨v12, h12, hsh⟩ := Option.bind_eq_some_iff.mp hsh
  refine e_iald hx hb hp h12 dX13_isStop_12 ?_
  refine e_if_eq (tgt := 32) hx hb dX13_isStop_13 (by decide) (fun c13 => ?_) (fun c13 => ?_)
  · rw [if_pos c13] at hsh
    exact w13_isStop_b32 E hp hS (hl.sub [] rfl) hsh
  · rw [if_neg c13] at hsh
    refine lv_iload_n hx hb dX13_isStop_16 rfl (hl.at 0 rfl) ?_
    refine e_if_le (tgt := 36) hx hb dX13_isStop_17 (by decide) (fun c17 => ?_) (fun c17 => ?_)
    · rw [if_pos c17] at hsh
      exact w13_isStop_b36 E hp hS (hl.sub [] rfl) hsh
    · rw [if_neg c17] at hsh
      refine e_aload_n (B := B) (x := x0) hx hb dX13_isStop_20 rfl (hl.at 1 rfl) ?_
      refine lv_iload_n hx hb dX13_isStop_21 rfl (hl.at 2 rfl) ?_
      refine lv_iload_n hx hb dX13_isStop_22 rfl (hl.at 3 rfl) ?_
      refine lv_iconst (v := iI (1)) hx hb dX13_isStop_23 rfl ?_
      refine e_isub hx hb dX13_isStop_24 ?_
      obtain ⟨⟨v25, S25⟩, h25, hsh⟩ := Option.bind_eq_some_iff.mp hsh
      have hsh : _ = _ := hsh
      try dsimp only at hsh
      have ok25 := ok13_classAt h25
      refine e_callI (nL := 4) (mc := 0) (ms := 0) (T := TX13) (N := 126) (As := [.int (iI (x1)), .int (iI ((x2 - 1)))]) (rest := []) hx hb hml hown hts hp hS hl.size ok25.1 ok25.2.1 ok25.2.2 rfl (by decide) (c13_classAt l D cA B S3 S25 (x0) (x1) ((x2 - 1)) v25 h25) rfl rfl kd13_classAt (kl13_293) ks13_classAt kv13_classAt ki13 kh13_classAt ⟨Nat.le_of_ble_eq_true rfl, Nat.le_of_ble_eq_true rfl⟩ rfl (by simp [e_rv_cat, e_int_cat]) ⟨Nat.le_refl _, Nat.le_refl _⟩ dX13_isStop_25 rfl (fun H locs hp hS => ?_)
      refine lv_iload_n hx hb dX13_isStop_28 rfl (hl.at 0 rfl) ?_
      refine e_icmp_eq (tgt := 36) hx hb dX13_isStop_29 (by decide) (fun c29 => ?_) (fun c29 => ?_)
      · rw [if_pos c29] at hsh
        exact w13_isStop_b36 E hp hS (hl.sub [] rfl) hsh
      · rw [if_neg c29] at hsh
        exact w13_isStop_b32 E hp hS (hl.sub [] rfl) hsh
theorem ok13_isWordEnd {S : HP} {x0 : Int} {x1 : Int} {x2 : Int} {r : Int × HP} (h : s13_isWordEnd S x0 x1 x2 = some r) : 0 ≤ x0 ∧ x0.toNat < e_n S ∧ e_g S x0.toNat = 13 := (gd_some h).1
set_option maxRecDepth 100000 in
set_option maxHeartbeats 4000000 in
theorem w13_isWordEnd_b28 {p : Program} {l : Launch} {e : Env} {s : State} {m : MethodId} {args : Array Value} {below : List Frame} {meth : Method} {c : Code} {D : va_G} {cA : Nat → ClassId} {B : Nat} {res : Int × HP} (E : e_En p s m args meth c cX13_isWordEnd RX13 4 (some .boolean)) {ls : Array Slot} {H : Heap} {locs : List Loc} {S : HP} {y0 : Int} (hp : e_Pic D cA B S s H) (hS : va_S (e_A B) s.heap H locs) (hl : e_lo ls 4 []) (hsh : s13_isWordEnd_b28 S y0 = some res) : W p l e ({ frames := 3, cells := 0, slots := 0, locals := 64 } : Room) s m args below meth c H locs 0 0 (MQ below (e_Qi D cA B res.1 res.2) args s 0 0 (e_A B)) (F0 m 28 ls [.int (iI (y0))]) := by
  obtain ⟨hx, hb, hml, hown, hts, hlk, hrt⟩ := id E
  unfold s13_isWordEnd_b28 at hsh
  obtain ⟨hz, hz1, hz2⟩ := zR_some hsh
  rw [← hz1, ← hz2]
  exact e_zret hx hb hrt hlk hp hS hz dX13_isWordEnd_28
set_option maxRecDepth 100000 in
set_option maxHeartbeats 4000000 in
theorem w13_isWordEnd_b27 {p : Program} {l : Launch} {e : Env} {s : State} {m : MethodId} {args : Array Value} {below : List Frame} {meth : Method} {c : Code} {D : va_G} {cA : Nat → ClassId} {B : Nat} {res : Int × HP} (E : e_En p s m args meth c cX13_isWordEnd RX13 4 (some .boolean)) {ls : Array Slot} {H : Heap} {locs : List Loc} {S : HP} (hp : e_Pic D cA B S s H) (hS : va_S (e_A B) s.heap H locs) (hl : e_lo ls 4 []) (hsh : s13_isWordEnd_b27 S  = some res) : W p l e ({ frames := 3, cells := 0, slots := 0, locals := 64 } : Room) s m args below meth c H locs 0 0 (MQ below (e_Qi D cA B res.1 res.2) args s 0 0 (e_A B)) (F0 m 27 ls []) := by
  obtain ⟨hx, hb, hml, hown, hts, hlk, hrt⟩ := id E
  unfold s13_isWordEnd_b27 at hsh
  refine lv_iconst (v := iI (0)) hx hb dX13_isWordEnd_27 rfl ?_
  exact w13_isWordEnd_b28 E hp hS (hl.sub [] rfl) hsh
set_option maxRecDepth 100000 in
set_option maxHeartbeats 4000000 in
theorem c13_isWordEnd (l : Launch) (D : va_G) (cA : Nat → ClassId) (B : Nat) (S S' : HP) (x0 : Int) (x1 : Int) (x2 : Int) (r : Int) (hsh : s13_isWordEnd S x0 x1 x2 = some (r, S')) : Met l yX13_isWordEnd (e_wu yX13_isWordEnd cX13_isWordEnd 4 (some .boolean)) ({ frames := 3, cells := 0, slots := 0, locals := 64 } : Room) (va_Pc [e_rv B (x0), .int (iI (x1)), .int (iI (x2))] (fun U => e_PU D cA B S U)) (e_Qi D cA B r S') 0 0 (e_A B) := by
  refine Met.ofW (cc := cX13_isWordEnd) (maxL := 4) (ret := (some .boolean)) (by decide +kernel) rfl ?_
  intro p e s m args below meth c s₁ Bd hml hv
  obtain ⟨rfl, hp⟩ := hv
  have hp : e_Pic D cA B S s s.heap := hp
  have hx := Bd.exec
  have hb := Bd.bytes
  have hrt := Bd.returns
  have hlk := Bd.notSynchronized
  have hown : s.vm.findClass RX13 = some m.cls := findClass_of_methodNamed Bd.named
  have hts : ∀ w ∈ e_tb, w.before ([e_rv B (x0), .int (iI (x1)), .int (iI (x2))] : List Value).toArray s = true := fun w h => atoms_spec (ws := (e_wu yX13_isWordEnd cX13_isWordEnd 4 (some .boolean))) Bd.pre w (List.mem_cons_of_mem _ h)
  have E : e_En p s m ([e_rv B (x0), .int (iI (x1)), .int (iI (x2))] : List Value).toArray meth c cX13_isWordEnd RX13 4 (some .boolean) := ⟨hx, hb, hml, hown, hts, hlk, hrt⟩
  have hS : va_S (e_A B) s.heap s.heap [] := va_S.rf
  have hl := e_entry (vs := [e_rv B (x0), .int (iI (x1)), .int (iI (x2))]) (n := 4) (Nat.le_of_ble_eq_true rfl) (e_cc (e_rv_cat _ _) (e_cc rfl (e_cc rfl e_cn)))
  rw [lg_entry_eq]
  generalize (lg_sl [e_rv B (x0), .int (iI (x1)), .int (iI (x2))] ++ List.replicate (4 - (lg_sl [e_rv B (x0), .int (iI (x1)), .int (iI (x2))]).length) Slot.unset).toArray = ls at hl ⊢
  generalize ([e_rv B (x0), .int (iI (x1)), .int (iI (x2))] : List Value).toArray = args at hts E ⊢
  have hl : e_lo ls 4 [(0, e_rv B (x0)), (1, .int (iI (x1))), (2, .int (iI (x2)))] := hl
  have hsh := (gd_some hsh).2
  refine e_aload_n (B := B) (x := x0) hx hb dX13_isWordEnd_0 rfl (hl.at 0 rfl) ?_
  refine lv_iload_n hx hb dX13_isWordEnd_1 rfl (hl.at 1 rfl) ?_
  refine lv_iload_n hx hb dX13_isWordEnd_2 rfl (hl.at 2 rfl) ?_
  obtain ⟨⟨v3, S3⟩, h3, hsh⟩ := Option.bind_eq_some_iff.mp hsh
  have hsh : _ = _ := hsh
  try dsimp only at hsh
  have ok3 := ok13_classAt h3
  refine e_callI (nL := 4) (mc := 0) (ms := 0) (T := TX13) (N := 126) (As := [.int (iI (x1)), .int (iI (x2))]) (rest := []) hx hb hml hown hts hp hS hl.size ok3.1 ok3.2.1 ok3.2.2 rfl (by decide) (c13_classAt l D cA B S S3 (x0) (x1) (x2) v3 h3) rfl rfl kd13_classAt (kl13_293) ks13_classAt kv13_classAt ki13 kh13_classAt ⟨Nat.le_of_ble_eq_true rfl, Nat.le_of_ble_eq_true rfl⟩ rfl (by simp [e_rv_cat, e_int_cat]) ⟨Nat.le_refl _, Nat.le_refl _⟩ dX13_isWordEnd_3 rfl (fun H locs hp hS => ?_)
  refine e_istore_n (lv' := [(3, .int (iI (v3))), (0, e_rv B (x0)), (1, .int (iI (x1))), (2, .int (iI (x2)))]) hx hb dX13_isWordEnd_6 rfl hl (by decide) rfl (fun ls hl => ?_)
  refine lv_iload_n hx hb dX13_isWordEnd_7 rfl (hl.at 0 rfl) ?_
  refine e_if_le (tgt := 27) hx hb dX13_isWordEnd_8 (by decide) (fun c8 => ?_) (fun c8 => ?_)
  · rw [if_pos c8] at hsh
    exact w13_isWordEnd_b27 E hp hS (hl.sub [] rfl) hsh
  · rw [if_neg c8] at hsh
    refine e_aload_n (B := B) (x := x0) hx hb dX13_isWordEnd_11 rfl (hl.at 1 rfl) ?_
    refine lv_iload_n hx hb dX13_isWordEnd_12 rfl (hl.at 2 rfl) ?_
    refine lv_iload_n hx hb dX13_isWordEnd_13 rfl (hl.at 3 rfl) ?_
    refine lv_iconst (v := iI (1)) hx hb dX13_isWordEnd_14 rfl ?_
    refine e_iadd hx hb dX13_isWordEnd_15 ?_
    obtain ⟨⟨v16, S16⟩, h16, hsh⟩ := Option.bind_eq_some_iff.mp hsh
    have hsh : _ = _ := hsh
    try dsimp only at hsh
    have ok16 := ok13_classAt h16
    refine e_callI (nL := 4) (mc := 0) (ms := 0) (T := TX13) (N := 126) (As := [.int (iI (x1)), .int (iI ((x2 + 1)))]) (rest := []) hx hb hml hown hts hp hS hl.size ok16.1 ok16.2.1 ok16.2.2 rfl (by decide) (c13_classAt l D cA B S3 S16 (x0) (x1) ((x2 + 1)) v16 h16) rfl rfl kd13_classAt (kl13_293) ks13_classAt kv13_classAt ki13 kh13_classAt ⟨Nat.le_of_ble_eq_true rfl, Nat.le_of_ble_eq_true rfl⟩ rfl (by simp [e_rv_cat, e_int_cat]) ⟨Nat.le_refl _, Nat.le_refl _⟩ dX13_isWordEnd_16 rfl (fun H locs hp hS => ?_)
    refine lv_iload_n hx hb dX13_isWordEnd_19 rfl (hl.at 0 rfl) ?_
    refine e_icmp_eq (tgt := 27) hx hb dX13_isWordEnd_20 (by decide) (fun c20 => ?_) (fun c20 => ?_)
    · rw [if_pos c20] at hsh
      exact w13_isWordEnd_b27 E hp hS (hl.sub [] rfl) hsh
    · rw [if_neg c20] at hsh
      refine lv_iconst (v := iI (1)) hx hb dX13_isWordEnd_23 rfl ?_
      refine lv_goto (tgt := 28) hx hb dX13_isWordEnd_24 (by decide) ?_
      exact w13_isWordEnd_b28 E hp hS (hl.sub [] rfl) hsh
theorem ok13_reaches {S : HP} {x0 : Int} {x1 : Int} {x2 : Int} {r : HP} (h : s13_reaches S x0 x1 x2 = some r) : 0 ≤ x0 ∧ x0.toNat < e_n S ∧ e_g S x0.toNat = 13 := (gd_some h).1
set_option maxRecDepth 100000 in
set_option maxHeartbeats 4000000 in
theorem c13_reaches (l : Launch) (D : va_G) (cA : Nat → ClassId) (B : Nat) (S S' : HP) (x0 : Int) (x1 : Int) (x2 : Int) (hsh : s13_reaches S x0 x1 x2 = some S') : Met l yX13_reaches (e_wu yX13_reaches cX13_reaches 3 none) ({ frames := 0, cells := 0, slots := 0, locals := 0 } : Room) (va_Pc [e_rv B (x0), .int (iI (x1)), .int (iI (x2))] (fun U => e_PU D cA B S U)) (e_Qv D cA B S') 0 0 (e_A B) := by
  refine Met.ofW (cc := cX13_reaches) (maxL := 3) (ret := none) (by decide +kernel) rfl ?_
  intro p e s m args below meth c s₁ Bd hml hv
  obtain ⟨rfl, hp⟩ := hv
  have hp : e_Pic D cA B S s s.heap := hp
  have hx := Bd.exec
  have hb := Bd.bytes
  have hrt := Bd.returns
  have hlk := Bd.notSynchronized
  have hown : s.vm.findClass RX13 = some m.cls := findClass_of_methodNamed Bd.named
  have hts : ∀ w ∈ e_tb, w.before ([e_rv B (x0), .int (iI (x1)), .int (iI (x2))] : List Value).toArray s = true := fun w h => atoms_spec (ws := (e_wu yX13_reaches cX13_reaches 3 none)) Bd.pre w (List.mem_cons_of_mem _ h)
  have E : e_En p s m ([e_rv B (x0), .int (iI (x1)), .int (iI (x2))] : List Value).toArray meth c cX13_reaches RX13 3 none := ⟨hx, hb, hml, hown, hts, hlk, hrt⟩
  have hS : va_S (e_A B) s.heap s.heap [] := va_S.rf
  have hl := e_entry (vs := [e_rv B (x0), .int (iI (x1)), .int (iI (x2))]) (n := 3) (Nat.le_of_ble_eq_true rfl) (e_cc (e_rv_cat _ _) (e_cc rfl (e_cc rfl e_cn)))
  rw [lg_entry_eq]
  generalize (lg_sl [e_rv B (x0), .int (iI (x1)), .int (iI (x2))] ++ List.replicate (3 - (lg_sl [e_rv B (x0), .int (iI (x1)), .int (iI (x2))]).length) Slot.unset).toArray = ls at hl ⊢
  generalize ([e_rv B (x0), .int (iI (x1)), .int (iI (x2))] : List Value).toArray = args at hts E ⊢
  have hl : e_lo ls 3 [(0, e_rv B (x0)), (1, .int (iI (x1))), (2, .int (iI (x2)))] := hl
  have hsh := (gd_some hsh).2
  refine e_aload_n (B := B) (x := x0) hx hb dX13_reaches_0 rfl (hl.at 0 rfl) ?_
  refine lv_iload_n hx hb dX13_reaches_1 rfl (hl.at 1 rfl) ?_
  obtain ⟨S2, h2, hsh⟩ := Option.bind_eq_some_iff.mp hsh
  refine e_putI (k := 46) hx hb hts in_X13 tyX13 tyX13_ok nmX13 hown hp hS h2 rfl (by decide) (by decide) rfl (hts _ kf13_296) rfl rfl (by decide +kernel) dX13_reaches_2 (fun H locs hp hS => ?_)
  refine e_aload_n (B := B) (x := x0) hx hb dX13_reaches_5 rfl (hl.at 0 rfl) ?_
  refine lv_iload_n hx hb dX13_reaches_6 rfl (hl.at 2 rfl) ?_
  obtain ⟨S7, h7, hsh⟩ := Option.bind_eq_some_iff.mp hsh
  refine e_putI (k := 47) hx hb hts in_X13 tyX13 tyX13_ok nmX13 hown hp hS h7 rfl (by decide) (by decide) rfl (hts _ kf13_299) rfl rfl (by decide +kernel) dX13_reaches_7 (fun H locs hp hS => ?_)
  cases hsh
  exact e_vret hx hb hrt hlk hp hS dX13_reaches_10
theorem ok13_nextStop {S : HP} {x0 : Int} {r : Int × HP} (h : s13_nextStop S x0 = some r) : 0 ≤ x0 ∧ x0.toNat < e_n S ∧ e_g S x0.toNat = 13 := (gd_some h).1
set_option maxRecDepth 100000 in
set_option maxHeartbeats 4000000 in
theorem w13_nextStop_b34 {p : Program} {l : Launch} {e : Env} {s : State} {m : MethodId} {args : Array Value} {below : List Frame} {meth : Method} {c : Code} {D : va_G} {cA : Nat → ClassId} {B : Nat} {res : Int × HP} {k12 : HP → Int → Int → Int → Option (Int × HP)} (hk12 : ∀ {ls : Array Slot} {H : Heap} {locs : List Loc} {S : HP} {x0 : Int} {x1 : Int} {x2 : Int} (hp : e_Pic D cA B S s H) (hS : va_S (e_A B) s.heap H locs) (hl : e_lo ls 3 [(0, e_rv B (x0)), (1, .int (iI (x1))), (2, .int (iI (x2)))]) (hsh : k12 S x0 x1 x2 = some res), W p l e ({ frames := 4, cells := 0, slots := 0, locals := 87 } : Room) s m args below meth c H locs 0 0 (MQ below (e_Qi D cA B res.1 res.2) args s 0 0 (e_A B)) (F0 m 12 ls [])) {k20 : HP → Int → Int → Int → Option (Int × HP)} (hk20 : ∀ {ls : Array Slot} {H : Heap} {locs : List Loc} {S : HP} {x0 : Int} {x1 : Int} {x2 : Int} (hp : e_Pic D cA B S s H) (hS : va_S (e_A B) s.heap H locs) (hl : e_lo ls 3 [(0, e_rv B (x0)), (1, .int (iI (x1))), (2, .int (iI (x2)))]) (hsh : k20 S x0 x1 x2 = some res), W p l e ({ frames := 4, cells := 0, slots := 0, locals := 87 } : Room) s m args below meth c H locs 0 0 (MQ below (e_Qi D cA B res.1 res.2) args s 0 0 (e_A B)) (F0 m 20 ls [])) (E : e_En p s m args meth c cX13_nextStop RX13 3 (some .boolean)) {ls : Array Slot} {H : Heap} {locs : List Loc} {S : HP} {x0 : Int} {x1 : Int} {x2 : Int} (hp : e_Pic D cA B S s H) (hS : va_S (e_A B) s.heap H locs) (hl : e_lo ls 3 [(0, e_rv B (x0)), (1, .int (iI (x1))), (2, .int (iI (x2)))]) (hsh : s13_nextStop_b34 k12 k20 S x0 x1 x2 = some res) : W p l e ({ frames := 4, cells := 0, slots := 0, locals := 87 } : Room) s m args below meth c H locs 0 0 (MQ below (e_Qi D cA B res.1 res.2) args s 0 0 (e_A B)) (F0 m 34 ls []) := by
  obtain ⟨hx, hb, hml, hown, hts, hlk, hrt⟩ := id E
  unfold s13_nextStop_b34 at hsh
  refine e_aload_n (B := B) (x := x0) hx hb dX13_nextStop_34 rfl (hl.at 0 rfl) ?_
  refine lv_iload_n hx hb dX13_nextStop_35 rfl (hl.at 1 rfl) ?_
  refine lv_iload_n hx hb dX13_nextStop_36 rfl (hl.at 2 rfl) ?_
  obtain ⟨⟨v37, S37⟩, h37, hsh⟩ := Option.bind_eq_some_iff.mp hsh
  have hsh : _ = _ := hsh
  try dsimp only at hsh
  have ok37 := ok13_isStop h37
  refine e_callI (nL := 3) (mc := 0) (ms := 0) (T := TX13) (N := 126) (As := [.int (iI (x1)), .int (iI (x2))]) (rest := []) hx hb hml hown hts hp hS hl.size ok37.1 ok37.2.1 ok37.2.2 rfl (by decide) (c13_isStop l D cA B S S37 (x0) (x1) (x2) v37 h37) rfl rfl kd13_isStop (kl13_302) ks13_isStop kv13_isStop ki13 kh13_isStop ⟨Nat.le_of_ble_eq_true rfl, Nat.le_of_ble_eq_true rfl⟩ rfl (by simp [e_rv_cat, e_int_cat]) ⟨Nat.le_refl _, Nat.le_refl _⟩ dX13_nextStop_37 rfl (fun H locs hp hS => ?_)
  refine e_if_eq (tgt := 51) hx hb dX13_nextStop_40 (by decide) (fun c40 => ?_) (fun c40 => ?_)
  · rw [if_pos c40] at hsh
    refine e_iinc (n := 1) (x := x2) (lv' := [(2, .int (iI ((x2 + 1)))), (0, e_rv B (x0)), (1, .int (iI (x1)))]) hx hb dX13_nextStop_51 hl (k := 2) rfl (by decide) rfl (fun ls hl => ?_)
    refine lv_goto (tgt := 20) hx hb dX13_nextStop_54 (by decide) ?_
    exact hk20 hp hS (hl.sub [1, 2, 0] rfl) hsh
  · rw [if_neg c40] at hsh
    refine e_aload_n (B := B) (x := x0) hx hb dX13_nextStop_43 rfl (hl.at 0 rfl) ?_
    refine lv_iload_n hx hb dX13_nextStop_44 rfl (hl.at 1 rfl) ?_
    refine lv_iload_n hx hb dX13_nextStop_45 rfl (hl.at 2 rfl) ?_
    obtain ⟨S46, h46, hsh⟩ := Option.bind_eq_some_iff.mp hsh
    have ok46 := ok13_reaches h46
    refine e_callV (nL := 3) (mc := 0) (ms := 0) (T := TX13) (N := 126) (As := [.int (iI (x1)), .int (iI (x2))]) (rest := []) hx hb hml hown hts hp hS hl.size ok46.1 ok46.2.1 ok46.2.2 rfl (by decide) (c13_reaches l D cA B S37 S46 (x0) (x1) (x2) h46) rfl rfl kd13_reaches (kl13_306) ks13_reaches kv13_reaches ki13 kh13_reaches ⟨Nat.le_of_ble_eq_true rfl, Nat.le_of_ble_eq_true rfl⟩ rfl (by simp [e_rv_cat, e_int_cat]) ⟨Nat.le_refl _, Nat.le_refl _⟩ dX13_nextStop_46 rfl (fun H locs hp hS => ?_)
    refine lv_iconst (v := iI (1)) hx hb dX13_nextStop_49 rfl ?_
    obtain ⟨hz, hz1, hz2⟩ := zR_some hsh
    rw [← hz1, ← hz2]
    exact e_zret hx hb hrt hlk hp hS hz dX13_nextStop_50
set_option maxRecDepth 100000 in
set_option maxHeartbeats 4000000 in
theorem w13_nextStop_l20 {p : Program} {l : Launch} {e : Env} {s : State} {m : MethodId} {args : Array Value} {below : List Frame} {meth : Method} {c : Code} {D : va_G} {cA : Nat → ClassId} {B : Nat} {res : Int × HP} {k12 : HP → Int → Int → Int → Option (Int × HP)} (hk12 : ∀ {ls : Array Slot} {H : Heap} {locs : List Loc} {S : HP} {x0 : Int} {x1 : Int} {x2 : Int} (hp : e_Pic D cA B S s H) (hS : va_S (e_A B) s.heap H locs) (hl : e_lo ls 3 [(0, e_rv B (x0)), (1, .int (iI (x1))), (2, .int (iI (x2)))]) (hsh : k12 S x0 x1 x2 = some res), W p l e ({ frames := 4, cells := 0, slots := 0, locals := 87 } : Room) s m args below meth c H locs 0 0 (MQ below (e_Qi D cA B res.1 res.2) args s 0 0 (e_A B)) (F0 m 12 ls [])) (E : e_En p s m args meth c cX13_nextStop RX13 3 (some .boolean)) : ∀ (f : Nat) {ls : Array Slot} {H : Heap} {locs : List Loc} {S : HP} {x0 : Int} {x1 : Int} {x2 : Int} (hp : e_Pic D cA B S s H) (hS : va_S (e_A B) s.heap H locs) (hl : e_lo ls 3 [(0, e_rv B (x0)), (1, .int (iI (x1))), (2, .int (iI (x2)))]) (hsh : s13_nextStop_l20 k12 f S x0 x1 x2 = some res), W p l e ({ frames := 4, cells := 0, slots := 0, locals := 87 } : Room) s m args below meth c H locs 0 0 (MQ below (e_Qi D cA B res.1 res.2) args s 0 0 (e_A B)) (F0 m 20 ls []) := by
  obtain ⟨hx, hb, hml, hown, hts, hlk, hrt⟩ := id E
  intro f
  induction f with
  | zero => intro ls H locs S x0 x1 x2 hp hS hl hsh; cases hsh
  | succ f ih =>
    intro ls H locs S x0 x1 x2 hp hS hl hsh
    have hk20 : ∀ {ls : Array Slot} {H : Heap} {locs : List Loc} {S : HP} {x0 : Int} {x1 : Int} {x2 : Int} (hp : e_Pic D cA B S s H) (hS : va_S (e_A B) s.heap H locs) (hl : e_lo ls 3 [(0, e_rv B (x0)), (1, .int (iI (x1))), (2, .int (iI (x2)))]) (hsh : (s13_nextStop_l20 k12 f) S x0 x1 x2 = some res), W p l e ({ frames := 4, cells := 0, slots := 0, locals := 87 } : Room) s m args below meth c H locs 0 0 (MQ below (e_Qi D cA B res.1 res.2) args s 0 0 (e_A B)) (F0 m 20 ls []) := ih
    generalize hkk : s13_nextStop_l20 k12 f = k20 at hk20
    rw [s13_nextStop_l20] at hsh
    rw [hkk] at hsh
    try dsimp only at hsh
    refine lv_iload_n hx hb dX13_nextStop_20 rfl (hl.at 2 rfl) ?_
    refine e_aload_n (B := B) (x := x0) hx hb dX13_nextStop_21 rfl (hl.at 0 rfl) ?_
    obtain ⟨v22, h22, hsh⟩ := Option.bind_eq_some_iff.mp hsh
    refine e_getR (k := 3) hx hb hts in_X13 hown hp h22 rfl (by decide) (by decide) rfl (hts _ kf13_17) rfl dX13_nextStop_22 ?_
    refine lv_iload_n hx hb dX13_nextStop_25 rfl (hl.at 1 rfl) ?_
    obtain ⟨v26, h26, hsh⟩ := Option.bind_eq_some_iff.mp hsh
    refine e_iald hx hb hp h26 dX13_nextStop_26 ?_
    refine e_icmp_lt (tgt := 34) hx hb dX13_nextStop_27 (by decide) (fun c27 => ?_) (fun c27 => ?_)
    · rw [if_pos c27] at hsh
      exact w13_nextStop_b34 (hk12 := hk12) (hk20 := hk20) E hp hS (hl.sub [0, 1, 2] rfl) hsh
    · rw [if_neg c27] at hsh
      refine lv_iload_n hx hb dX13_nextStop_30 rfl (hl.at 2 rfl) ?_
      refine e_if_ne (tgt := 57) hx hb dX13_nextStop_31 (by decide) (fun c31 => ?_) (fun c31 => ?_)
      · rw [if_neg c31] at hsh
        refine e_iinc (n := 1) (x := x1) (lv' := [(1, .int (iI ((x1 + 1)))), (0, e_rv B (x0)), (2, .int (iI (x2)))]) hx hb dX13_nextStop_57 hl (k := 1) rfl (by decide) rfl (fun ls hl => ?_)
        refine lv_iconst (v := iI (0)) hx hb dX13_nextStop_60 rfl ?_
        refine e_istore_n (lv' := [(2, .int (iI (0))), (1, .int (iI ((x1 + 1)))), (0, e_rv B (x0))]) hx hb dX13_nextStop_61 rfl hl (by decide) rfl (fun ls hl => ?_)
        refine lv_goto (tgt := 12) hx hb dX13_nextStop_62 (by decide) ?_
        exact hk12 hp hS (hl.sub [2, 1, 0] rfl) hsh
      · rw [if_pos c31] at hsh
        exact w13_nextStop_b34 (hk12 := hk12) (hk20 := hk20) E hp hS (hl.sub [0, 1, 2] rfl) hsh
set_option maxRecDepth 100000 in
set_option maxHeartbeats 4000000 in
theorem w13_nextStop_l12 {p : Program} {l : Launch} {e : Env} {s : State} {m : MethodId} {args : Array Value} {below : List Frame} {meth : Method} {c : Code} {D : va_G} {cA : Nat → ClassId} {B : Nat} {res : Int × HP} (E : e_En p s m args meth c cX13_nextStop RX13 3 (some .boolean)) : ∀ (f : Nat) {ls : Array Slot} {H : Heap} {locs : List Loc} {S : HP} {x0 : Int} {x1 : Int} {x2 : Int} (hp : e_Pic D cA B S s H) (hS : va_S (e_A B) s.heap H locs) (hl : e_lo ls 3 [(0, e_rv B (x0)), (1, .int (iI (x1))), (2, .int (iI (x2)))]) (hsh : s13_nextStop_l12 f S x0 x1 x2 = some res), W p l e ({ frames := 4, cells := 0, slots := 0, locals := 87 } : Room) s m args below meth c H locs 0 0 (MQ below (e_Qi D cA B res.1 res.2) args s 0 0 (e_A B)) (F0 m 12 ls []) := by
  obtain ⟨hx, hb, hml, hown, hts, hlk, hrt⟩ := id E
  intro f
  induction f with
  | zero => intro ls H locs S x0 x1 x2 hp hS hl hsh; cases hsh
  | succ f ih =>
    intro ls H locs S x0 x1 x2 hp hS hl hsh
    have hk12 : ∀ {ls : Array Slot} {H : Heap} {locs : List Loc} {S : HP} {x0 : Int} {x1 : Int} {x2 : Int} (hp : e_Pic D cA B S s H) (hS : va_S (e_A B) s.heap H locs) (hl : e_lo ls 3 [(0, e_rv B (x0)), (1, .int (iI (x1))), (2, .int (iI (x2)))]) (hsh : (s13_nextStop_l12 f) S x0 x1 x2 = some res), W p l e ({ frames := 4, cells := 0, slots := 0, locals := 87 } : Room) s m args below meth c H locs 0 0 (MQ below (e_Qi D cA B res.1 res.2) args s 0 0 (e_A B)) (F0 m 12 ls []) := ih
    generalize hkk : s13_nextStop_l12 f = k12 at hk12
    rw [s13_nextStop_l12] at hsh
    rw [hkk] at hsh
    try dsimp only at hsh
    refine lv_iload_n hx hb dX13_nextStop_12 rfl (hl.at 1 rfl) ?_
    refine e_aload_n (B := B) (x := x0) hx hb dX13_nextStop_13 rfl (hl.at 0 rfl) ?_
    obtain ⟨v14, h14, hsh⟩ := Option.bind_eq_some_iff.mp hsh
    refine e_getI (k := 2) hx hb hts in_X13 hown hp h14 rfl (by decide) (by decide) rfl (hts _ kf13_13) rfl dX13_nextStop_14 ?_
    refine e_icmp_ge (tgt := 65) hx hb dX13_nextStop_17 (by decide) (fun c17 => ?_) (fun c17 => ?_)
    · rw [if_pos c17] at hsh
      refine lv_iconst (v := iI (0)) hx hb dX13_nextStop_65 rfl ?_
      obtain ⟨hz, hz1, hz2⟩ := zR_some hsh
      rw [← hz1, ← hz2]
      exact e_zret hx hb hrt hlk hp hS hz dX13_nextStop_66
    · rw [if_neg c17] at hsh
      exact w13_nextStop_l20 (hk12 := hk12) E 1000000 hp hS (hl.sub [0, 1, 2] rfl) hsh
set_option maxRecDepth 100000 in
set_option maxHeartbeats 4000000 in
theorem c13_nextStop (l : Launch) (D : va_G) (cA : Nat → ClassId) (B : Nat) (S S' : HP) (x0 : Int) (r : Int) (hsh : s13_nextStop S x0 = some (r, S')) : Met l yX13_nextStop (e_wu yX13_nextStop cX13_nextStop 3 (some .boolean)) ({ frames := 4, cells := 0, slots := 0, locals := 87 } : Room) (va_Pc [e_rv B (x0)] (fun U => e_PU D cA B S U)) (e_Qi D cA B r S') 0 0 (e_A B) := by
  refine Met.ofW (cc := cX13_nextStop) (maxL := 3) (ret := (some .boolean)) (by decide +kernel) rfl ?_
  intro p e s m args below meth c s₁ Bd hml hv
  obtain ⟨rfl, hp⟩ := hv
  have hp : e_Pic D cA B S s s.heap := hp
  have hx := Bd.exec
  have hb := Bd.bytes
  have hrt := Bd.returns
  have hlk := Bd.notSynchronized
  have hown : s.vm.findClass RX13 = some m.cls := findClass_of_methodNamed Bd.named
  have hts : ∀ w ∈ e_tb, w.before ([e_rv B (x0)] : List Value).toArray s = true := fun w h => atoms_spec (ws := (e_wu yX13_nextStop cX13_nextStop 3 (some .boolean))) Bd.pre w (List.mem_cons_of_mem _ h)
  have E : e_En p s m ([e_rv B (x0)] : List Value).toArray meth c cX13_nextStop RX13 3 (some .boolean) := ⟨hx, hb, hml, hown, hts, hlk, hrt⟩
  have hS : va_S (e_A B) s.heap s.heap [] := va_S.rf
  have hl := e_entry (vs := [e_rv B (x0)]) (n := 3) (Nat.le_of_ble_eq_true rfl) (e_cc (e_rv_cat _ _) e_cn)
  rw [lg_entry_eq]
  generalize (lg_sl [e_rv B (x0)] ++ List.replicate (3 - (lg_sl [e_rv B (x0)]).length) Slot.unset).toArray = ls at hl ⊢
  generalize ([e_rv B (x0)] : List Value).toArray = args at hts E ⊢
  have hl : e_lo ls 3 [(0, e_rv B (x0))] := hl
  have hsh := (gd_some hsh).2
  refine e_aload_n (B := B) (x := x0) hx hb dX13_nextStop_0 rfl (hl.at 0 rfl) ?_
  obtain ⟨v1, h1, hsh⟩ := Option.bind_eq_some_iff.mp hsh
  refine e_getI (k := 46) hx hb hts in_X13 hown hp h1 rfl (by decide) (by decide) rfl (hts _ kf13_296) rfl dX13_nextStop_1 ?_
  refine e_istore_n (lv' := [(1, .int (iI (v1))), (0, e_rv B (x0))]) hx hb dX13_nextStop_4 rfl hl (by decide) rfl (fun ls hl => ?_)
  refine e_aload_n (B := B) (x := x0) hx hb dX13_nextStop_5 rfl (hl.at 1 rfl) ?_
  obtain ⟨v6, h6, hsh⟩ := Option.bind_eq_some_iff.mp hsh
  refine e_getI (k := 47) hx hb hts in_X13 hown hp h6 rfl (by decide) (by decide) rfl (hts _ kf13_299) rfl dX13_nextStop_6 ?_
  refine lv_iconst (v := iI (1)) hx hb dX13_nextStop_9 rfl ?_
  refine e_iadd hx hb dX13_nextStop_10 ?_
  refine e_istore_n (lv' := [(2, .int (iI ((v6 + 1)))), (1, .int (iI (v1))), (0, e_rv B (x0))]) hx hb dX13_nextStop_11 rfl hl (by decide) rfl (fun ls hl => ?_)
  exact w13_nextStop_l12 E 1000000 hp hS (hl.sub [2, 1, 0] rfl) hsh
theorem ok13_stopAhead {S : HP} {x0 : Int} {r : Int × HP} (h : s13_stopAhead S x0 = some r) : 0 ≤ x0 ∧ x0.toNat < e_n S ∧ e_g S x0.toNat = 13 := (gd_some h).1
set_option maxRecDepth 100000 in
set_option maxHeartbeats 4000000 in
theorem w13_stopAhead_b59 {p : Program} {l : Launch} {e : Env} {s : State} {m : MethodId} {args : Array Value} {below : List Frame} {meth : Method} {c : Code} {D : va_G} {cA : Nat → ClassId} {B : Nat} {res : Int × HP} {k12 : HP → Int → Int → Int → Option (Int × HP)} (hk12 : ∀ {ls : Array Slot} {H : Heap} {locs : List Loc} {S : HP} {x0 : Int} {x1 : Int} {x2 : Int} (hp : e_Pic D cA B S s H) (hS : va_S (e_A B) s.heap H locs) (hl : e_lo ls 3 [(0, e_rv B (x0)), (1, .int (iI (x1))), (2, .int (iI (x2)))]) (hsh : k12 S x0 x1 x2 = some res), W p l e ({ frames := 4, cells := 0, slots := 0, locals := 87 } : Room) s m args below meth c H locs 0 0 (MQ below (e_Qi D cA B res.1 res.2) args s 0 0 (e_A B)) (F0 m 12 ls [])) (E : e_En p s m args meth c cX13_stopAhead RX13 3 (some .boolean)) {ls : Array Slot} {H : Heap} {locs : List Loc} {S : HP} {x0 : Int} {x1 : Int} {y0 : Int} (hp : e_Pic D cA B S s H) (hS : va_S (e_A B) s.heap H locs) (hl : e_lo ls 3 [(0, e_rv B (x0)), (1, .int (iI (x1)))]) (hsh : s13_stopAhead_b59 k12 S x0 x1 y0 = some res) : W p l e ({ frames := 4, cells := 0, slots := 0, locals := 87 } : Room) s m args below meth c H locs 0 0 (MQ below (e_Qi D cA B res.1 res.2) args s 0 0 (e_A B)) (F0 m 59 ls [.int (iI (y0))]) := by
  obtain ⟨hx, hb, hml, hown, hts, hlk, hrt⟩ := id E
  unfold s13_stopAhead_b59 at hsh
  refine e_istore_n (lv' := [(2, .int (iI (y0))), (0, e_rv B (x0)), (1, .int (iI (x1)))]) hx hb dX13_stopAhead_59 rfl hl (by decide) rfl (fun ls hl => ?_)
  refine lv_goto (tgt := 12) hx hb dX13_stopAhead_60 (by decide) ?_
  exact hk12 hp hS (hl.sub [1, 2, 0] rfl) hsh
set_option maxRecDepth 100000 in
set_option maxHeartbeats 4000000 in
theorem w13_stopAhead_l16 {p : Program} {l : Launch} {e : Env} {s : State} {m : MethodId} {args : Array Value} {below : List Frame} {meth : Method} {c : Code} {D : va_G} {cA : Nat → ClassId} {B : Nat} {res : Int × HP} {k12 : HP → Int → Int → Int → Option (Int × HP)} (hk12 : ∀ {ls : Array Slot} {H : Heap} {locs : List Loc} {S : HP} {x0 : Int} {x1 : Int} {x2 : Int} (hp : e_Pic D cA B S s H) (hS : va_S (e_A B) s.heap H locs) (hl : e_lo ls 3 [(0, e_rv B (x0)), (1, .int (iI (x1))), (2, .int (iI (x2)))]) (hsh : k12 S x0 x1 x2 = some res), W p l e ({ frames := 4, cells := 0, slots := 0, locals := 87 } : Room) s m args below meth c H locs 0 0 (MQ below (e_Qi D cA B res.1 res.2) args s 0 0 (e_A B)) (F0 m 12 ls [])) (E : e_En p s m args meth c cX13_stopAhead RX13 3 (some .boolean)) : ∀ (f : Nat) {ls : Array Slot} {H : Heap} {locs : List Loc} {S : HP} {x0 : Int} {x1 : Int} {x2 : Int} (hp : e_Pic D cA B S s H) (hS : va_S (e_A B) s.heap H locs) (hl : e_lo ls 3 [(0, e_rv B (x0)), (1, .int (iI (x1))), (2, .int (iI (x2)))]) (hsh : s13_stopAhead_l16 k12 f S x0 x1 x2 = some res), W p l e ({ frames := 4, cells := 0, slots := 0, locals := 87 } : Room) s m args below meth c H locs 0 0 (MQ below (e_Qi D cA B res.1 res.2) args s 0 0 (e_A B)) (F0 m 16 ls []) := by
  obtain ⟨hx, hb, hml, hown, hts, hlk, hrt⟩ := id E
  intro f
  induction f with
  | zero => intro ls H locs S x0 x1 x2 hp hS hl hsh; cases hsh
  | succ f ih =>
    intro ls H locs S x0 x1 x2 hp hS hl hsh
    have hk16 : ∀ {ls : Array Slot} {H : Heap} {locs : List Loc} {S : HP} {x0 : Int} {x1 : Int} {x2 : Int} (hp : e_Pic D cA B S s H) (hS : va_S (e_A B) s.heap H locs) (hl : e_lo ls 3 [(0, e_rv B (x0)), (1, .int (iI (x1))), (2, .int (iI (x2)))]) (hsh : (s13_stopAhead_l16 k12 f) S x0 x1 x2 = some res), W p l e ({ frames := 4, cells := 0, slots := 0, locals := 87 } : Room) s m args below meth c H locs 0 0 (MQ below (e_Qi D cA B res.1 res.2) args s 0 0 (e_A B)) (F0 m 16 ls []) := ih
    generalize hkk : s13_stopAhead_l16 k12 f = k16 at hk16
    rw [s13_stopAhead_l16] at hsh
    rw [hkk] at hsh
    try dsimp only at hsh
    refine lv_iload_n hx hb dX13_stopAhead_16 rfl (hl.at 2 rfl) ?_
    refine e_if_lt (tgt := 43) hx hb dX13_stopAhead_17 (by decide) (fun c17 => ?_) (fun c17 => ?_)
    · rw [if_pos c17] at hsh
      refine e_iinc (n := (-1)) (x := x1) (lv' := [(1, .int (iI ((x1 + (-1))))), (0, e_rv B (x0)), (2, .int (iI (x2)))]) hx hb dX13_stopAhead_43 hl (k := 1) rfl (by decide) rfl (fun ls hl => ?_)
      refine lv_iload_n hx hb dX13_stopAhead_46 rfl (hl.at 0 rfl) ?_
      refine e_if_ge (tgt := 54) hx hb dX13_stopAhead_47 (by decide) (fun c47 => ?_) (fun c47 => ?_)
      · rw [if_pos c47] at hsh
        refine e_aload_n (B := B) (x := x0) hx hb dX13_stopAhead_54 rfl (hl.at 1 rfl) ?_
        refine lv_iload_n hx hb dX13_stopAhead_55 rfl (hl.at 0 rfl) ?_
        obtain ⟨⟨v56, S56⟩, h56, hsh⟩ := Option.bind_eq_some_iff.mp hsh
        have hsh : _ = _ := hsh
        try dsimp only at hsh
        have ok56 := ok13_lastOf h56
        refine e_callI (nL := 3) (mc := 0) (ms := 0) (T := TX13) (N := 126) (As := [.int (iI ((x1 + (-1))))]) (rest := []) hx hb hml hown hts hp hS hl.size ok56.1 ok56.2.1 ok56.2.2 rfl (by decide) (c13_lastOf l D cA B S S56 (x0) ((x1 + (-1))) v56 h56) rfl rfl kd13_lastOf (kl13_309) ks13_lastOf kv13_lastOf ki13 kh13_lastOf ⟨Nat.le_of_ble_eq_true rfl, Nat.le_of_ble_eq_true rfl⟩ rfl (by simp [e_rv_cat, e_int_cat]) ⟨Nat.le_refl _, Nat.le_refl _⟩ dX13_stopAhead_56 rfl (fun H locs hp hS => ?_)
        exact w13_stopAhead_b59 (hk12 := hk12) E hp hS (hl.sub [1, 0] rfl) hsh
      · rw [if_neg c47] at hsh
        refine lv_iconst (v := iI (-1)) hx hb dX13_stopAhead_50 rfl ?_
        refine lv_goto (tgt := 59) hx hb dX13_stopAhead_51 (by decide) ?_
        exact w13_stopAhead_b59 (hk12 := hk12) E hp hS (hl.sub [1, 0] rfl) hsh
    · rw [if_neg c17] at hsh
      refine e_aload_n (B := B) (x := x0) hx hb dX13_stopAhead_20 rfl (hl.at 0 rfl) ?_
      refine lv_iload_n hx hb dX13_stopAhead_21 rfl (hl.at 1 rfl) ?_
      refine lv_iload_n hx hb dX13_stopAhead_22 rfl (hl.at 2 rfl) ?_
      obtain ⟨⟨v23, S23⟩, h23, hsh⟩ := Option.bind_eq_some_iff.mp hsh
      have hsh : _ = _ := hsh
      try dsimp only at hsh
      have ok23 := ok13_isStop h23
      refine e_callI (nL := 3) (mc := 0) (ms := 0) (T := TX13) (N := 126) (As := [.int (iI (x1)), .int (iI (x2))]) (rest := []) hx hb hml hown hts hp hS hl.size ok23.1 ok23.2.1 ok23.2.2 rfl (by decide) (c13_isStop l D cA B S S23 (x0) (x1) (x2) v23 h23) rfl rfl kd13_isStop (kl13_302) ks13_isStop kv13_isStop ki13 kh13_isStop ⟨Nat.le_of_ble_eq_true rfl, Nat.le_of_ble_eq_true rfl⟩ rfl (by simp [e_rv_cat, e_int_cat]) ⟨Nat.le_refl _, Nat.le_refl _⟩ dX13_stopAhead_23 rfl (fun H locs hp hS => ?_)
      refine e_if_eq (tgt := 37) hx hb dX13_stopAhead_26 (by decide) (fun c26 => ?_) (fun c26 => ?_)
      · rw [if_pos c26] at hsh
        refine e_iinc (n := (-1)) (x := x2) (lv' := [(2, .int (iI ((x2 + (-1))))), (0, e_rv B (x0)), (1, .int (iI (x1)))]) hx hb dX13_stopAhead_37 hl (k := 2) rfl (by decide) rfl (fun ls hl => ?_)
        refine lv_goto (tgt := 16) hx hb dX13_stopAhead_40 (by decide) ?_
        exact hk16 hp hS (hl.sub [1, 2, 0] rfl) hsh
      · rw [if_neg c26] at hsh
        refine e_aload_n (B := B) (x := x0) hx hb dX13_stopAhead_29 rfl (hl.at 0 rfl) ?_
        refine lv_iload_n hx hb dX13_stopAhead_30 rfl (hl.at 1 rfl) ?_
        refine lv_iload_n hx hb dX13_stopAhead_31 rfl (hl.at 2 rfl) ?_
        obtain ⟨S32, h32, hsh⟩ := Option.bind_eq_some_iff.mp hsh
        have ok32 := ok13_reaches h32
        refine e_callV (nL := 3) (mc := 0) (ms := 0) (T := TX13) (N := 126) (As := [.int (iI (x1)), .int (iI (x2))]) (rest := []) hx hb hml hown hts hp hS hl.size ok32.1 ok32.2.1 ok32.2.2 rfl (by decide) (c13_reaches l D cA B S23 S32 (x0) (x1) (x2) h32) rfl rfl kd13_reaches (kl13_306) ks13_reaches kv13_reaches ki13 kh13_reaches ⟨Nat.le_of_ble_eq_true rfl, Nat.le_of_ble_eq_true rfl⟩ rfl (by simp [e_rv_cat, e_int_cat]) ⟨Nat.le_refl _, Nat.le_refl _⟩ dX13_stopAhead_32 rfl (fun H locs hp hS => ?_)
        refine lv_iconst (v := iI (1)) hx hb dX13_stopAhead_35 rfl ?_
        obtain ⟨hz, hz1, hz2⟩ := zR_some hsh
        rw [← hz1, ← hz2]
        exact e_zret hx hb hrt hlk hp hS hz dX13_stopAhead_36
set_option maxRecDepth 100000 in
set_option maxHeartbeats 4000000 in
theorem w13_stopAhead_l12 {p : Program} {l : Launch} {e : Env} {s : State} {m : MethodId} {args : Array Value} {below : List Frame} {meth : Method} {c : Code} {D : va_G} {cA : Nat → ClassId} {B : Nat} {res : Int × HP} (E : e_En p s m args meth c cX13_stopAhead RX13 3 (some .boolean)) : ∀ (f : Nat) {ls : Array Slot} {H : Heap} {locs : List Loc} {S : HP} {x0 : Int} {x1 : Int} {x2 : Int} (hp : e_Pic D cA B S s H) (hS : va_S (e_A B) s.heap H locs) (hl : e_lo ls 3 [(0, e_rv B (x0)), (1, .int (iI (x1))), (2, .int (iI (x2)))]) (hsh : s13_stopAhead_l12 f S x0 x1 x2 = some res), W p l e ({ frames := 4, cells := 0, slots := 0, locals := 87 } : Room) s m args below meth c H locs 0 0 (MQ below (e_Qi D cA B res.1 res.2) args s 0 0 (e_A B)) (F0 m 12 ls []) := by
  obtain ⟨hx, hb, hml, hown, hts, hlk, hrt⟩ := id E
  intro f
  induction f with
  | zero => intro ls H locs S x0 x1 x2 hp hS hl hsh; cases hsh
  | succ f ih =>
    intro ls H locs S x0 x1 x2 hp hS hl hsh
    have hk12 : ∀ {ls : Array Slot} {H : Heap} {locs : List Loc} {S : HP} {x0 : Int} {x1 : Int} {x2 : Int} (hp : e_Pic D cA B S s H) (hS : va_S (e_A B) s.heap H locs) (hl : e_lo ls 3 [(0, e_rv B (x0)), (1, .int (iI (x1))), (2, .int (iI (x2)))]) (hsh : (s13_stopAhead_l12 f) S x0 x1 x2 = some res), W p l e ({ frames := 4, cells := 0, slots := 0, locals := 87 } : Room) s m args below meth c H locs 0 0 (MQ below (e_Qi D cA B res.1 res.2) args s 0 0 (e_A B)) (F0 m 12 ls []) := ih
    generalize hkk : s13_stopAhead_l12 f = k12 at hk12
    rw [s13_stopAhead_l12] at hsh
    rw [hkk] at hsh
    try dsimp only at hsh
    refine lv_iload_n hx hb dX13_stopAhead_12 rfl (hl.at 1 rfl) ?_
    refine e_if_lt (tgt := 63) hx hb dX13_stopAhead_13 (by decide) (fun c13 => ?_) (fun c13 => ?_)
    · rw [if_pos c13] at hsh
      refine lv_iconst (v := iI (0)) hx hb dX13_stopAhead_63 rfl ?_
      obtain ⟨hz, hz1, hz2⟩ := zR_some hsh
      rw [← hz1, ← hz2]
      exact e_zret hx hb hrt hlk hp hS hz dX13_stopAhead_64
    · rw [if_neg c13] at hsh
      exact w13_stopAhead_l16 (hk12 := hk12) E 1000000 hp hS (hl.sub [0, 1, 2] rfl) hsh
set_option maxRecDepth 100000 in
set_option maxHeartbeats 4000000 in
theorem c13_stopAhead (l : Launch) (D : va_G) (cA : Nat → ClassId) (B : Nat) (S S' : HP) (x0 : Int) (r : Int) (hsh : s13_stopAhead S x0 = some (r, S')) : Met l yX13_stopAhead (e_wu yX13_stopAhead cX13_stopAhead 3 (some .boolean)) ({ frames := 4, cells := 0, slots := 0, locals := 87 } : Room) (va_Pc [e_rv B (x0)] (fun U => e_PU D cA B S U)) (e_Qi D cA B r S') 0 0 (e_A B) := by
  refine Met.ofW (cc := cX13_stopAhead) (maxL := 3) (ret := (some .boolean)) (by decide +kernel) rfl ?_
  intro p e s m args below meth c s₁ Bd hml hv
  obtain ⟨rfl, hp⟩ := hv
  have hp : e_Pic D cA B S s s.heap := hp
  have hx := Bd.exec
  have hb := Bd.bytes
  have hrt := Bd.returns
  have hlk := Bd.notSynchronized
  have hown : s.vm.findClass RX13 = some m.cls := findClass_of_methodNamed Bd.named
  have hts : ∀ w ∈ e_tb, w.before ([e_rv B (x0)] : List Value).toArray s = true := fun w h => atoms_spec (ws := (e_wu yX13_stopAhead cX13_stopAhead 3 (some .boolean))) Bd.pre w (List.mem_cons_of_mem _ h)
  have E : e_En p s m ([e_rv B (x0)] : List Value).toArray meth c cX13_stopAhead RX13 3 (some .boolean) := ⟨hx, hb, hml, hown, hts, hlk, hrt⟩
  have hS : va_S (e_A B) s.heap s.heap [] := va_S.rf
  have hl := e_entry (vs := [e_rv B (x0)]) (n := 3) (Nat.le_of_ble_eq_true rfl) (e_cc (e_rv_cat _ _) e_cn)
  rw [lg_entry_eq]
  generalize (lg_sl [e_rv B (x0)] ++ List.replicate (3 - (lg_sl [e_rv B (x0)]).length) Slot.unset).toArray = ls at hl ⊢
  generalize ([e_rv B (x0)] : List Value).toArray = args at hts E ⊢
  have hl : e_lo ls 3 [(0, e_rv B (x0))] := hl
  have hsh := (gd_some hsh).2
  refine e_aload_n (B := B) (x := x0) hx hb dX13_stopAhead_0 rfl (hl.at 0 rfl) ?_
  obtain ⟨v1, h1, hsh⟩ := Option.bind_eq_some_iff.mp hsh
  refine e_getI (k := 46) hx hb hts in_X13 hown hp h1 rfl (by decide) (by decide) rfl (hts _ kf13_296) rfl dX13_stopAhead_1 ?_
  refine e_istore_n (lv' := [(1, .int (iI (v1))), (0, e_rv B (x0))]) hx hb dX13_stopAhead_4 rfl hl (by decide) rfl (fun ls hl => ?_)
  refine e_aload_n (B := B) (x := x0) hx hb dX13_stopAhead_5 rfl (hl.at 1 rfl) ?_
  obtain ⟨v6, h6, hsh⟩ := Option.bind_eq_some_iff.mp hsh
  refine e_getI (k := 47) hx hb hts in_X13 hown hp h6 rfl (by decide) (by decide) rfl (hts _ kf13_299) rfl dX13_stopAhead_6 ?_
  refine lv_iconst (v := iI (1)) hx hb dX13_stopAhead_9 rfl ?_
  refine e_isub hx hb dX13_stopAhead_10 ?_
  refine e_istore_n (lv' := [(2, .int (iI ((v6 - 1)))), (1, .int (iI (v1))), (0, e_rv B (x0))]) hx hb dX13_stopAhead_11 rfl hl (by decide) rfl (fun ls hl => ?_)
  exact w13_stopAhead_l12 E 1000000 hp hS (hl.sub [2, 1, 0] rfl) hsh
theorem ok13_nextEnd {S : HP} {x0 : Int} {r : Int × HP} (h : s13_nextEnd S x0 = some r) : 0 ≤ x0 ∧ x0.toNat < e_n S ∧ e_g S x0.toNat = 13 := (gd_some h).1
set_option maxRecDepth 100000 in
set_option maxHeartbeats 4000000 in
theorem w13_nextEnd_l22 {p : Program} {l : Launch} {e : Env} {s : State} {m : MethodId} {args : Array Value} {below : List Frame} {meth : Method} {c : Code} {D : va_G} {cA : Nat → ClassId} {B : Nat} {res : Int × HP} {k12 : HP → Int → Int → Int → Option (Int × HP)} (hk12 : ∀ {ls : Array Slot} {H : Heap} {locs : List Loc} {S : HP} {x0 : Int} {x1 : Int} {x2 : Int} (hp : e_Pic D cA B S s H) (hS : va_S (e_A B) s.heap H locs) (hl : e_lo ls 4 [(0, e_rv B (x0)), (1, .int (iI (x1))), (2, .int (iI (x2)))]) (hsh : k12 S x0 x1 x2 = some res), W p l e ({ frames := 4, cells := 0, slots := 0, locals := 87 } : Room) s m args below meth c H locs 0 0 (MQ below (e_Qi D cA B res.1 res.2) args s 0 0 (e_A B)) (F0 m 12 ls [])) (E : e_En p s m args meth c cX13_nextEnd RX13 4 (some .boolean)) : ∀ (f : Nat) {ls : Array Slot} {H : Heap} {locs : List Loc} {S : HP} {x0 : Int} {x1 : Int} {x3 : Int} (hp : e_Pic D cA B S s H) (hS : va_S (e_A B) s.heap H locs) (hl : e_lo ls 4 [(0, e_rv B (x0)), (1, .int (iI (x1))), (3, .int (iI (x3)))]) (hsh : s13_nextEnd_l22 k12 f S x0 x1 x3 = some res), W p l e ({ frames := 4, cells := 0, slots := 0, locals := 87 } : Room) s m args below meth c H locs 0 0 (MQ below (e_Qi D cA B res.1 res.2) args s 0 0 (e_A B)) (F0 m 22 ls []) := by
  obtain ⟨hx, hb, hml, hown, hts, hlk, hrt⟩ := id E
  intro f
  induction f with
  | zero => intro ls H locs S x0 x1 x3 hp hS hl hsh; cases hsh
  | succ f ih =>
    intro ls H locs S x0 x1 x3 hp hS hl hsh
    have hk22 : ∀ {ls : Array Slot} {H : Heap} {locs : List Loc} {S : HP} {x0 : Int} {x1 : Int} {x3 : Int} (hp : e_Pic D cA B S s H) (hS : va_S (e_A B) s.heap H locs) (hl : e_lo ls 4 [(0, e_rv B (x0)), (1, .int (iI (x1))), (3, .int (iI (x3)))]) (hsh : (s13_nextEnd_l22 k12 f) S x0 x1 x3 = some res), W p l e ({ frames := 4, cells := 0, slots := 0, locals := 87 } : Room) s m args below meth c H locs 0 0 (MQ below (e_Qi D cA B res.1 res.2) args s 0 0 (e_A B)) (F0 m 22 ls []) := ih
    generalize hkk : s13_nextEnd_l22 k12 f = k22 at hk22
    rw [s13_nextEnd_l22] at hsh
    rw [hkk] at hsh
    try dsimp only at hsh
    refine lv_iload_n hx hb dX13_nextEnd_22 rfl (hl.at 2 rfl) ?_
    refine e_aload_n (B := B) (x := x0) hx hb dX13_nextEnd_23 rfl (hl.at 0 rfl) ?_
    obtain ⟨v24, h24, hsh⟩ := Option.bind_eq_some_iff.mp hsh
    refine e_getR (k := 3) hx hb hts in_X13 hown hp h24 rfl (by decide) (by decide) rfl (hts _ kf13_17) rfl dX13_nextEnd_24 ?_
    refine lv_iload_n hx hb dX13_nextEnd_27 rfl (hl.at 1 rfl) ?_
    obtain ⟨v28, h28, hsh⟩ := Option.bind_eq_some_iff.mp hsh
    refine e_iald hx hb hp h28 dX13_nextEnd_28 ?_
    refine e_icmp_ge (tgt := 55) hx hb dX13_nextEnd_29 (by decide) (fun c29 => ?_) (fun c29 => ?_)
    · rw [if_pos c29] at hsh
      refine e_iinc (n := 1) (x := x1) (lv' := [(1, .int (iI ((x1 + 1)))), (0, e_rv B (x0)), (3, .int (iI (x3)))]) hx hb dX13_nextEnd_55 hl (k := 1) rfl (by decide) rfl (fun ls hl => ?_)
      refine lv_iconst (v := iI (0)) hx hb dX13_nextEnd_58 rfl ?_
      refine e_istore_n (lv' := [(2, .int (iI (0))), (1, .int (iI ((x1 + 1)))), (0, e_rv B (x0)), (3, .int (iI (x3)))]) hx hb dX13_nextEnd_59 rfl hl (by decide) rfl (fun ls hl => ?_)
      refine lv_goto (tgt := 12) hx hb dX13_nextEnd_60 (by decide) ?_
      exact hk12 hp hS (hl.sub [2, 1, 0] rfl) hsh
    · rw [if_neg c29] at hsh
      refine e_aload_n (B := B) (x := x0) hx hb dX13_nextEnd_32 rfl (hl.at 0 rfl) ?_
      refine lv_iload_n hx hb dX13_nextEnd_33 rfl (hl.at 1 rfl) ?_
      refine lv_iload_n hx hb dX13_nextEnd_34 rfl (hl.at 2 rfl) ?_
      obtain ⟨⟨v35, S35⟩, h35, hsh⟩ := Option.bind_eq_some_iff.mp hsh
      have hsh : _ = _ := hsh
      try dsimp only at hsh
      have ok35 := ok13_isWordEnd h35
      refine e_callI (nL := 4) (mc := 0) (ms := 0) (T := TX13) (N := 126) (As := [.int (iI (x1)), .int (iI (x3))]) (rest := []) hx hb hml hown hts hp hS hl.size ok35.1 ok35.2.1 ok35.2.2 rfl (by decide) (c13_isWordEnd l D cA B S S35 (x0) (x1) (x3) v35 h35) rfl rfl kd13_isWordEnd (kl13_312) ks13_isWordEnd kv13_isWordEnd ki13 kh13_isWordEnd ⟨Nat.le_of_ble_eq_true rfl, Nat.le_of_ble_eq_true rfl⟩ rfl (by simp [e_rv_cat, e_int_cat]) ⟨Nat.le_refl _, Nat.le_refl _⟩ dX13_nextEnd_35 rfl (fun H locs hp hS => ?_)
      refine e_if_eq (tgt := 49) hx hb dX13_nextEnd_38 (by decide) (fun c38 => ?_) (fun c38 => ?_)
      · rw [if_pos c38] at hsh
        refine e_iinc (n := 1) (x := x3) (lv' := [(3, .int (iI ((x3 + 1)))), (0, e_rv B (x0)), (1, .int (iI (x1)))]) hx hb dX13_nextEnd_49 hl (k := 2) rfl (by decide) rfl (fun ls hl => ?_)
        refine lv_goto (tgt := 22) hx hb dX13_nextEnd_52 (by decide) ?_
        exact hk22 hp hS (hl.sub [1, 2, 0] rfl) hsh
      · rw [if_neg c38] at hsh
        refine e_aload_n (B := B) (x := x0) hx hb dX13_nextEnd_41 rfl (hl.at 0 rfl) ?_
        refine lv_iload_n hx hb dX13_nextEnd_42 rfl (hl.at 1 rfl) ?_
        refine lv_iload_n hx hb dX13_nextEnd_43 rfl (hl.at 2 rfl) ?_
        obtain ⟨S44, h44, hsh⟩ := Option.bind_eq_some_iff.mp hsh
        have ok44 := ok13_reaches h44
        refine e_callV (nL := 4) (mc := 0) (ms := 0) (T := TX13) (N := 126) (As := [.int (iI (x1)), .int (iI (x3))]) (rest := []) hx hb hml hown hts hp hS hl.size ok44.1 ok44.2.1 ok44.2.2 rfl (by decide) (c13_reaches l D cA B S35 S44 (x0) (x1) (x3) h44) rfl rfl kd13_reaches (kl13_306) ks13_reaches kv13_reaches ki13 kh13_reaches ⟨Nat.le_of_ble_eq_true rfl, Nat.le_of_ble_eq_true rfl⟩ rfl (by simp [e_rv_cat, e_int_cat]) ⟨Nat.le_refl _, Nat.le_refl _⟩ dX13_nextEnd_44 rfl (fun H locs hp hS => ?_)
        refine lv_iconst (v := iI (1)) hx hb dX13_nextEnd_47 rfl ?_
        obtain ⟨hz, hz1, hz2⟩ := zR_some hsh
        rw [← hz1, ← hz2]
        exact e_zret hx hb hrt hlk hp hS hz dX13_nextEnd_48
set_option maxRecDepth 100000 in
set_option maxHeartbeats 4000000 in
theorem w13_nextEnd_l12 {p : Program} {l : Launch} {e : Env} {s : State} {m : MethodId} {args : Array Value} {below : List Frame} {meth : Method} {c : Code} {D : va_G} {cA : Nat → ClassId} {B : Nat} {res : Int × HP} (E : e_En p s m args meth c cX13_nextEnd RX13 4 (some .boolean)) : ∀ (f : Nat) {ls : Array Slot} {H : Heap} {locs : List Loc} {S : HP} {x0 : Int} {x1 : Int} {x2 : Int} (hp : e_Pic D cA B S s H) (hS : va_S (e_A B) s.heap H locs) (hl : e_lo ls 4 [(0, e_rv B (x0)), (1, .int (iI (x1))), (2, .int (iI (x2)))]) (hsh : s13_nextEnd_l12 f S x0 x1 x2 = some res), W p l e ({ frames := 4, cells := 0, slots := 0, locals := 87 } : Room) s m args below meth c H locs 0 0 (MQ below (e_Qi D cA B res.1 res.2) args s 0 0 (e_A B)) (F0 m 12 ls []) := by
  obtain ⟨hx, hb, hml, hown, hts, hlk, hrt⟩ := id E
  intro f
  induction f with
  | zero => intro ls H locs S x0 x1 x2 hp hS hl hsh; cases hsh
  | succ f ih =>
    intro ls H locs S x0 x1 x2 hp hS hl hsh
    have hk12 : ∀ {ls : Array Slot} {H : Heap} {locs : List Loc} {S : HP} {x0 : Int} {x1 : Int} {x2 : Int} (hp : e_Pic D cA B S s H) (hS : va_S (e_A B) s.heap H locs) (hl : e_lo ls 4 [(0, e_rv B (x0)), (1, .int (iI (x1))), (2, .int (iI (x2)))]) (hsh : (s13_nextEnd_l12 f) S x0 x1 x2 = some res), W p l e ({ frames := 4, cells := 0, slots := 0, locals := 87 } : Room) s m args below meth c H locs 0 0 (MQ below (e_Qi D cA B res.1 res.2) args s 0 0 (e_A B)) (F0 m 12 ls []) := ih
    generalize hkk : s13_nextEnd_l12 f = k12 at hk12
    rw [s13_nextEnd_l12] at hsh
    rw [hkk] at hsh
    try dsimp only at hsh
    refine lv_iload_n hx hb dX13_nextEnd_12 rfl (hl.at 1 rfl) ?_
    refine e_aload_n (B := B) (x := x0) hx hb dX13_nextEnd_13 rfl (hl.at 0 rfl) ?_
    obtain ⟨v14, h14, hsh⟩ := Option.bind_eq_some_iff.mp hsh
    refine e_getI (k := 2) hx hb hts in_X13 hown hp h14 rfl (by decide) (by decide) rfl (hts _ kf13_13) rfl dX13_nextEnd_14 ?_
    refine e_icmp_ge (tgt := 63) hx hb dX13_nextEnd_17 (by decide) (fun c17 => ?_) (fun c17 => ?_)
    · rw [if_pos c17] at hsh
      refine lv_iconst (v := iI (0)) hx hb dX13_nextEnd_63 rfl ?_
      obtain ⟨hz, hz1, hz2⟩ := zR_some hsh
      rw [← hz1, ← hz2]
      exact e_zret hx hb hrt hlk hp hS hz dX13_nextEnd_64
    · rw [if_neg c17] at hsh
      refine lv_iload_n hx hb dX13_nextEnd_20 rfl (hl.at 2 rfl) ?_
      refine e_istore_n (lv' := [(3, .int (iI (x2))), (0, e_rv B (x0)), (1, .int (iI (x1))), (2, .int (iI (x2)))]) hx hb dX13_nextEnd_21 rfl hl (by decide) rfl (fun ls hl => ?_)
      exact w13_nextEnd_l22 (hk12 := hk12) E 1000000 hp hS (hl.sub [1, 2, 0] rfl) hsh
set_option maxRecDepth 100000 in
set_option maxHeartbeats 4000000 in
theorem c13_nextEnd (l : Launch) (D : va_G) (cA : Nat → ClassId) (B : Nat) (S S' : HP) (x0 : Int) (r : Int) (hsh : s13_nextEnd S x0 = some (r, S')) : Met l yX13_nextEnd (e_wu yX13_nextEnd cX13_nextEnd 4 (some .boolean)) ({ frames := 4, cells := 0, slots := 0, locals := 87 } : Room) (va_Pc [e_rv B (x0)] (fun U => e_PU D cA B S U)) (e_Qi D cA B r S') 0 0 (e_A B) := by
  refine Met.ofW (cc := cX13_nextEnd) (maxL := 4) (ret := (some .boolean)) (by decide +kernel) rfl ?_
  intro p e s m args below meth c s₁ Bd hml hv
  obtain ⟨rfl, hp⟩ := hv
  have hp : e_Pic D cA B S s s.heap := hp
  have hx := Bd.exec
  have hb := Bd.bytes
  have hrt := Bd.returns
  have hlk := Bd.notSynchronized
  have hown : s.vm.findClass RX13 = some m.cls := findClass_of_methodNamed Bd.named
  have hts : ∀ w ∈ e_tb, w.before ([e_rv B (x0)] : List Value).toArray s = true := fun w h => atoms_spec (ws := (e_wu yX13_nextEnd cX13_nextEnd 4 (some .boolean))) Bd.pre w (List.mem_cons_of_mem _ h)
  have E : e_En p s m ([e_rv B (x0)] : List Value).toArray meth c cX13_nextEnd RX13 4 (some .boolean) := ⟨hx, hb, hml, hown, hts, hlk, hrt⟩
  have hS : va_S (e_A B) s.heap s.heap [] := va_S.rf
  have hl := e_entry (vs := [e_rv B (x0)]) (n := 4) (Nat.le_of_ble_eq_true rfl) (e_cc (e_rv_cat _ _) e_cn)
  rw [lg_entry_eq]
  generalize (lg_sl [e_rv B (x0)] ++ List.replicate (4 - (lg_sl [e_rv B (x0)]).length) Slot.unset).toArray = ls at hl ⊢
  generalize ([e_rv B (x0)] : List Value).toArray = args at hts E ⊢
  have hl : e_lo ls 4 [(0, e_rv B (x0))] := hl
  have hsh := (gd_some hsh).2
  refine e_aload_n (B := B) (x := x0) hx hb dX13_nextEnd_0 rfl (hl.at 0 rfl) ?_
  obtain ⟨v1, h1, hsh⟩ := Option.bind_eq_some_iff.mp hsh
  refine e_getI (k := 46) hx hb hts in_X13 hown hp h1 rfl (by decide) (by decide) rfl (hts _ kf13_296) rfl dX13_nextEnd_1 ?_
  refine e_istore_n (lv' := [(1, .int (iI (v1))), (0, e_rv B (x0))]) hx hb dX13_nextEnd_4 rfl hl (by decide) rfl (fun ls hl => ?_)
  refine e_aload_n (B := B) (x := x0) hx hb dX13_nextEnd_5 rfl (hl.at 1 rfl) ?_
  obtain ⟨v6, h6, hsh⟩ := Option.bind_eq_some_iff.mp hsh
  refine e_getI (k := 47) hx hb hts in_X13 hown hp h6 rfl (by decide) (by decide) rfl (hts _ kf13_299) rfl dX13_nextEnd_6 ?_
  refine lv_iconst (v := iI (1)) hx hb dX13_nextEnd_9 rfl ?_
  refine e_iadd hx hb dX13_nextEnd_10 ?_
  refine e_istore_n (lv' := [(2, .int (iI ((v6 + 1)))), (1, .int (iI (v1))), (0, e_rv B (x0))]) hx hb dX13_nextEnd_11 rfl hl (by decide) rfl (fun ls hl => ?_)
  exact w13_nextEnd_l12 E 1000000 hp hS (hl.sub [2, 1, 0] rfl) hsh
theorem ok13_goesWords {S : HP} {x0 : Int} {x1 : Int} {x2 : Int} {r : Int × HP} (h : s13_goesWords S x0 x1 x2 = some r) : 0 ≤ x0 ∧ x0.toNat < e_n S ∧ e_g S x0.toNat = 13 := (gd_some h).1
set_option maxRecDepth 100000 in
set_option maxHeartbeats 4000000 in
theorem w13_goesWords_b182 {p : Program} {l : Launch} {e : Env} {s : State} {m : MethodId} {args : Array Value} {below : List Frame} {meth : Method} {c : Code} {D : va_G} {cA : Nat → ClassId} {B : Nat} {res : Int × HP} (E : e_En p s m args meth c cX13_goesWords RX13 9 (some .boolean)) {ls : Array Slot} {H : Heap} {locs : List Loc} {S : HP} {y0 : Int} (hp : e_Pic D cA B S s H) (hS : va_S (e_A B) s.heap H locs) (hl : e_lo ls 9 []) (hsh : s13_goesWords_b182 S y0 = some res) : W p l e ({ frames := 5, cells := 0, slots := 0, locals := 109 } : Room) s m args below meth c H locs 0 0 (MQ below (e_Qi D cA B res.1 res.2) args s 0 0 (e_A B)) (F0 m 182 ls [.int (iI (y0))]) := by
  obtain ⟨hx, hb, hml, hown, hts, hlk, hrt⟩ := id E
  unfold s13_goesWords_b182 at hsh
  obtain ⟨hz, hz1, hz2⟩ := zR_some hsh
  rw [← hz1, ← hz2]
  exact e_zret hx hb hrt hlk hp hS hz dX13_goesWords_182
set_option maxRecDepth 100000 in
set_option maxHeartbeats 4000000 in
theorem w13_goesWords_b177 {p : Program} {l : Launch} {e : Env} {s : State} {m : MethodId} {args : Array Value} {below : List Frame} {meth : Method} {c : Code} {D : va_G} {cA : Nat → ClassId} {B : Nat} {res : Int × HP} (E : e_En p s m args meth c cX13_goesWords RX13 9 (some .boolean)) {ls : Array Slot} {H : Heap} {locs : List Loc} {S : HP} (hp : e_Pic D cA B S s H) (hS : va_S (e_A B) s.heap H locs) (hl : e_lo ls 9 []) (hsh : s13_goesWords_b177 S  = some res) : W p l e ({ frames := 5, cells := 0, slots := 0, locals := 109 } : Room) s m args below meth c H locs 0 0 (MQ below (e_Qi D cA B res.1 res.2) args s 0 0 (e_A B)) (F0 m 177 ls []) := by
  obtain ⟨hx, hb, hml, hown, hts, hlk, hrt⟩ := id E
  unfold s13_goesWords_b177 at hsh
  refine lv_iconst (v := iI (1)) hx hb dX13_goesWords_177 rfl ?_
  refine lv_goto (tgt := 182) hx hb dX13_goesWords_178 (by decide) ?_
  exact w13_goesWords_b182 E hp hS (hl.sub [] rfl) hsh
set_option maxRecDepth 100000 in
set_option maxHeartbeats 4000000 in
theorem w13_goesWords_b169 {p : Program} {l : Launch} {e : Env} {s : State} {m : MethodId} {args : Array Value} {below : List Frame} {meth : Method} {c : Code} {D : va_G} {cA : Nat → ClassId} {B : Nat} {res : Int × HP} (E : e_En p s m args meth c cX13_goesWords RX13 9 (some .boolean)) {ls : Array Slot} {H : Heap} {locs : List Loc} {S : HP} {x2 : Int} {x3 : Int} (hp : e_Pic D cA B S s H) (hS : va_S (e_A B) s.heap H locs) (hl : e_lo ls 9 [(2, .int (iI (x2))), (3, .int (iI (x3)))]) (hsh : s13_goesWords_b169 S x2 x3 = some res) : W p l e ({ frames := 5, cells := 0, slots := 0, locals := 109 } : Room) s m args below meth c H locs 0 0 (MQ below (e_Qi D cA B res.1 res.2) args s 0 0 (e_A B)) (F0 m 169 ls []) := by
  obtain ⟨hx, hb, hml, hown, hts, hlk, hrt⟩ := id E
  unfold s13_goesWords_b169 at hsh
  refine lv_iload_n hx hb dX13_goesWords_169 rfl (hl.at 0 rfl) ?_
  refine e_if_ne (tgt := 177) hx hb dX13_goesWords_170 (by decide) (fun c170 => ?_) (fun c170 => ?_)
  · rw [if_neg c170] at hsh
    exact w13_goesWords_b177 E hp hS (hl.sub [] rfl) hsh
  · rw [if_pos c170] at hsh
    refine lv_iload_n hx hb dX13_goesWords_173 rfl (hl.at 1 rfl) ?_
    refine e_if_le (tgt := 181) hx hb dX13_goesWords_174 (by decide) (fun c174 => ?_) (fun c174 => ?_)
    · rw [if_pos c174] at hsh
      refine lv_iconst (v := iI (0)) hx hb dX13_goesWords_181 rfl ?_
      exact w13_goesWords_b182 E hp hS (hl.sub [] rfl) hsh
    · rw [if_neg c174] at hsh
      exact w13_goesWords_b177 E hp hS (hl.sub [] rfl) hsh
set_option maxRecDepth 100000 in
set_option maxHeartbeats 4000000 in
theorem w13_goesWords_b146 {p : Program} {l : Launch} {e : Env} {s : State} {m : MethodId} {args : Array Value} {below : List Frame} {meth : Method} {c : Code} {D : va_G} {cA : Nat → ClassId} {B : Nat} {res : Int × HP} (E : e_En p s m args meth c cX13_goesWords RX13 9 (some .boolean)) {ls : Array Slot} {H : Heap} {locs : List Loc} {S : HP} {x0 : Int} {x2 : Int} {x3 : Int} {x5 : Int} (hp : e_Pic D cA B S s H) (hS : va_S (e_A B) s.heap H locs) (hl : e_lo ls 9 [(0, e_rv B (x0)), (2, .int (iI (x2))), (3, .int (iI (x3))), (5, .int (iI (x5)))]) (hsh : s13_goesWords_b146 S x0 x2 x3 x5 = some res) : W p l e ({ frames := 5, cells := 0, slots := 0, locals := 109 } : Room) s m args below meth c H locs 0 0 (MQ below (e_Qi D cA B res.1 res.2) args s 0 0 (e_A B)) (F0 m 146 ls []) := by
  obtain ⟨hx, hb, hml, hown, hts, hlk, hrt⟩ := id E
  unfold s13_goesWords_b146 at hsh
  refine lv_iload_n hx hb dX13_goesWords_146 rfl (hl.at 1 rfl) ?_
  refine e_if_eq (tgt := 169) hx hb dX13_goesWords_147 (by decide) (fun c147 => ?_) (fun c147 => ?_)
  · rw [if_pos c147] at hsh
    exact w13_goesWords_b169 E hp hS (hl.sub [1, 2] rfl) hsh
  · rw [if_neg c147] at hsh
    refine lv_iload hx hb dX13_goesWords_150 (hl.at 3 rfl) ?_
    refine lv_iconst (v := iI (-1)) hx hb dX13_goesWords_152 rfl ?_
    refine e_icmp_eq (tgt := 169) hx hb dX13_goesWords_153 (by decide) (fun c153 => ?_) (fun c153 => ?_)
    · rw [if_pos c153] at hsh
      exact w13_goesWords_b169 E hp hS (hl.sub [1, 2] rfl) hsh
    · rw [if_neg c153] at hsh
      refine e_aload_n (B := B) (x := x0) hx hb dX13_goesWords_156 rfl (hl.at 0 rfl) ?_
      refine lv_iload hx hb dX13_goesWords_157 (hl.at 3 rfl) ?_
      refine e_aload_n (B := B) (x := x0) hx hb dX13_goesWords_159 rfl (hl.at 0 rfl) ?_
      obtain ⟨v160, h160, hsh⟩ := Option.bind_eq_some_iff.mp hsh
      refine e_getR (k := 3) hx hb hts in_X13 hown hp h160 rfl (by decide) (by decide) rfl (hts _ kf13_17) rfl dX13_goesWords_160 ?_
      refine lv_iload hx hb dX13_goesWords_163 (hl.at 3 rfl) ?_
      obtain ⟨v165, h165, hsh⟩ := Option.bind_eq_some_iff.mp hsh
      refine e_iald hx hb hp h165 dX13_goesWords_165 ?_
      obtain ⟨S166, h166, hsh⟩ := Option.bind_eq_some_iff.mp hsh
      have ok166 := ok13_reaches h166
      refine e_callV (nL := 9) (mc := 0) (ms := 0) (T := TX13) (N := 126) (As := [.int (iI (x5)), .int (iI (v165))]) (rest := []) hx hb hml hown hts hp hS hl.size ok166.1 ok166.2.1 ok166.2.2 rfl (by decide) (c13_reaches l D cA B S S166 (x0) (x5) (v165) h166) rfl rfl kd13_reaches (kl13_306) ks13_reaches kv13_reaches ki13 kh13_reaches ⟨Nat.le_of_ble_eq_true rfl, Nat.le_of_ble_eq_true rfl⟩ rfl (by simp [e_rv_cat, e_int_cat]) ⟨Nat.le_refl _, Nat.le_refl _⟩ dX13_goesWords_166 rfl (fun H locs hp hS => ?_)
      exact w13_goesWords_b169 E hp hS (hl.sub [1, 2] rfl) hsh
set_option maxRecDepth 100000 in
set_option maxHeartbeats 4000000 in
theorem w13_goesWords_b141 {p : Program} {l : Launch} {e : Env} {s : State} {m : MethodId} {args : Array Value} {below : List Frame} {meth : Method} {c : Code} {D : va_G} {cA : Nat → ClassId} {B : Nat} {res : Int × HP} {k8 : HP → Int → Int → Int → Int → Int → Int → Option (Int × HP)} (hk8 : ∀ {ls : Array Slot} {H : Heap} {locs : List Loc} {S : HP} {x0 : Int} {x1 : Int} {x2 : Int} {x3 : Int} {x4 : Int} {x5 : Int} (hp : e_Pic D cA B S s H) (hS : va_S (e_A B) s.heap H locs) (hl : e_lo ls 9 [(0, e_rv B (x0)), (1, .int (iI (x1))), (2, .int (iI (x2))), (3, .int (iI (x3))), (4, .int (iI (x4))), (5, .int (iI (x5)))]) (hsh : k8 S x0 x1 x2 x3 x4 x5 = some res), W p l e ({ frames := 5, cells := 0, slots := 0, locals := 109 } : Room) s m args below meth c H locs 0 0 (MQ below (e_Qi D cA B res.1 res.2) args s 0 0 (e_A B)) (F0 m 8 ls [])) (E : e_En p s m args meth c cX13_goesWords RX13 9 (some .boolean)) {ls : Array Slot} {H : Heap} {locs : List Loc} {S : HP} {x0 : Int} {x1 : Int} {x2 : Int} {x4 : Int} {x5 : Int} {y0 : Int} {y1 : Int} (hp : e_Pic D cA B S s H) (hS : va_S (e_A B) s.heap H locs) (hl : e_lo ls 9 [(0, e_rv B (x0)), (1, .int (iI (x1))), (2, .int (iI (x2))), (4, .int (iI (x4))), (5, .int (iI (x5)))]) (hsh : s13_goesWords_b141 k8 S x0 x1 x2 x4 x5 y0 y1 = some res) : W p l e ({ frames := 5, cells := 0, slots := 0, locals := 109 } : Room) s m args below meth c H locs 0 0 (MQ below (e_Qi D cA B res.1 res.2) args s 0 0 (e_A B)) (F0 m 141 ls [.int (iI (y1)), .int (iI (y0))]) := by
  obtain ⟨hx, hb, hml, hown, hts, hlk, hrt⟩ := id E
  unfold s13_goesWords_b141 at hsh
  refine e_iadd hx hb dX13_goesWords_141 ?_
  refine e_istore_n (lv' := [(3, .int (iI ((y0 + y1)))), (0, e_rv B (x0)), (1, .int (iI (x1))), (2, .int (iI (x2))), (4, .int (iI (x4))), (5, .int (iI (x5)))]) hx hb dX13_goesWords_142 rfl hl (by decide) rfl (fun ls hl => ?_)
  refine lv_goto (tgt := 8) hx hb dX13_goesWords_143 (by decide) ?_
  exact hk8 hp hS (hl.sub [1, 2, 3, 0, 4, 5] rfl) hsh
set_option maxRecDepth 100000 in
set_option maxHeartbeats 4000000 in
theorem w13_goesWords_b130 {p : Program} {l : Launch} {e : Env} {s : State} {m : MethodId} {args : Array Value} {below : List Frame} {meth : Method} {c : Code} {D : va_G} {cA : Nat → ClassId} {B : Nat} {res : Int × HP} {k8 : HP → Int → Int → Int → Int → Int → Int → Option (Int × HP)} (hk8 : ∀ {ls : Array Slot} {H : Heap} {locs : List Loc} {S : HP} {x0 : Int} {x1 : Int} {x2 : Int} {x3 : Int} {x4 : Int} {x5 : Int} (hp : e_Pic D cA B S s H) (hS : va_S (e_A B) s.heap H locs) (hl : e_lo ls 9 [(0, e_rv B (x0)), (1, .int (iI (x1))), (2, .int (iI (x2))), (3, .int (iI (x3))), (4, .int (iI (x4))), (5, .int (iI (x5)))]) (hsh : k8 S x0 x1 x2 x3 x4 x5 = some res), W p l e ({ frames := 5, cells := 0, slots := 0, locals := 109 } : Room) s m args below meth c H locs 0 0 (MQ below (e_Qi D cA B res.1 res.2) args s 0 0 (e_A B)) (F0 m 8 ls [])) (E : e_En p s m args meth c cX13_goesWords RX13 9 (some .boolean)) {ls : Array Slot} {H : Heap} {locs : List Loc} {S : HP} {x0 : Int} {x1 : Int} {x2 : Int} {x3 : Int} {x4 : Int} {x5 : Int} (hp : e_Pic D cA B S s H) (hS : va_S (e_A B) s.heap H locs) (hl : e_lo ls 9 [(0, e_rv B (x0)), (1, .int (iI (x1))), (2, .int (iI (x2))), (3, .int (iI (x3))), (4, .int (iI (x4))), (5, .int (iI (x5)))]) (hsh : s13_goesWords_b130 k8 S x0 x1 x2 x3 x4 x5 = some res) : W p l e ({ frames := 5, cells := 0, slots := 0, locals := 109 } : Room) s m args below meth c H locs 0 0 (MQ below (e_Qi D cA B res.1 res.2) args s 0 0 (e_A B)) (F0 m 130 ls []) := by
  obtain ⟨hx, hb, hml, hown, hts, hlk, hrt⟩ := id E
  unfold s13_goesWords_b130 at hsh
  refine lv_iload_n hx hb dX13_goesWords_130 rfl (hl.at 3 rfl) ?_
  refine lv_iload hx hb dX13_goesWords_131 (hl.at 4 rfl) ?_
  refine e_if_eq (tgt := 140) hx hb dX13_goesWords_133 (by decide) (fun c133 => ?_) (fun c133 => ?_)
  · rw [if_pos c133] at hsh
    refine lv_iconst (v := iI (0)) hx hb dX13_goesWords_140 rfl ?_
    exact w13_goesWords_b141 (hk8 := hk8) E hp hS (hl.sub [0, 1, 2, 4, 5] rfl) hsh
  · rw [if_neg c133] at hsh
    refine lv_iconst (v := iI (1)) hx hb dX13_goesWords_136 rfl ?_
    refine lv_goto (tgt := 141) hx hb dX13_goesWords_137 (by decide) ?_
    exact w13_goesWords_b141 (hk8 := hk8) E hp hS (hl.sub [0, 1, 2, 4, 5] rfl) hsh
set_option maxRecDepth 100000 in
set_option maxHeartbeats 4000000 in
theorem w13_goesWords_b128 {p : Program} {l : Launch} {e : Env} {s : State} {m : MethodId} {args : Array Value} {below : List Frame} {meth : Method} {c : Code} {D : va_G} {cA : Nat → ClassId} {B : Nat} {res : Int × HP} {k8 : HP → Int → Int → Int → Int → Int → Int → Option (Int × HP)} (hk8 : ∀ {ls : Array Slot} {H : Heap} {locs : List Loc} {S : HP} {x0 : Int} {x1 : Int} {x2 : Int} {x3 : Int} {x4 : Int} {x5 : Int} (hp : e_Pic D cA B S s H) (hS : va_S (e_A B) s.heap H locs) (hl : e_lo ls 9 [(0, e_rv B (x0)), (1, .int (iI (x1))), (2, .int (iI (x2))), (3, .int (iI (x3))), (4, .int (iI (x4))), (5, .int (iI (x5)))]) (hsh : k8 S x0 x1 x2 x3 x4 x5 = some res), W p l e ({ frames := 5, cells := 0, slots := 0, locals := 109 } : Room) s m args below meth c H locs 0 0 (MQ below (e_Qi D cA B res.1 res.2) args s 0 0 (e_A B)) (F0 m 8 ls [])) (E : e_En p s m args meth c cX13_goesWords RX13 9 (some .boolean)) {ls : Array Slot} {H : Heap} {locs : List Loc} {S : HP} {x0 : Int} {x1 : Int} {x2 : Int} {x3 : Int} {x5 : Int} {y0 : Int} (hp : e_Pic D cA B S s H) (hS : va_S (e_A B) s.heap H locs) (hl : e_lo ls 9 [(0, e_rv B (x0)), (1, .int (iI (x1))), (2, .int (iI (x2))), (3, .int (iI (x3))), (5, .int (iI (x5)))]) (hsh : s13_goesWords_b128 k8 S x0 x1 x2 x3 x5 y0 = some res) : W p l e ({ frames := 5, cells := 0, slots := 0, locals := 109 } : Room) s m args below meth c H locs 0 0 (MQ below (e_Qi D cA B res.1 res.2) args s 0 0 (e_A B)) (F0 m 128 ls [.int (iI (y0))]) := by
  obtain ⟨hx, hb, hml, hown, hts, hlk, hrt⟩ := id E
  unfold s13_goesWords_b128 at hsh
  refine e_istore (lv' := [(4, .int (iI (y0))), (0, e_rv B (x0)), (1, .int (iI (x1))), (2, .int (iI (x2))), (3, .int (iI (x3))), (5, .int (iI (x5)))]) hx hb dX13_goesWords_128 hl (by decide) rfl (fun ls hl => ?_)
  exact w13_goesWords_b130 (hk8 := hk8) E hp hS (hl.sub [1, 2, 3, 4, 0, 5] rfl) hsh
set_option maxRecDepth 100000 in
set_option maxHeartbeats 4000000 in
theorem w13_goesWords_b123 {p : Program} {l : Launch} {e : Env} {s : State} {m : MethodId} {args : Array Value} {below : List Frame} {meth : Method} {c : Code} {D : va_G} {cA : Nat → ClassId} {B : Nat} {res : Int × HP} {k8 : HP → Int → Int → Int → Int → Int → Int → Option (Int × HP)} (hk8 : ∀ {ls : Array Slot} {H : Heap} {locs : List Loc} {S : HP} {x0 : Int} {x1 : Int} {x2 : Int} {x3 : Int} {x4 : Int} {x5 : Int} (hp : e_Pic D cA B S s H) (hS : va_S (e_A B) s.heap H locs) (hl : e_lo ls 9 [(0, e_rv B (x0)), (1, .int (iI (x1))), (2, .int (iI (x2))), (3, .int (iI (x3))), (4, .int (iI (x4))), (5, .int (iI (x5)))]) (hsh : k8 S x0 x1 x2 x3 x4 x5 = some res), W p l e ({ frames := 5, cells := 0, slots := 0, locals := 109 } : Room) s m args below meth c H locs 0 0 (MQ below (e_Qi D cA B res.1 res.2) args s 0 0 (e_A B)) (F0 m 8 ls [])) (E : e_En p s m args meth c cX13_goesWords RX13 9 (some .boolean)) {ls : Array Slot} {H : Heap} {locs : List Loc} {S : HP} {x0 : Int} {x1 : Int} {x2 : Int} {x3 : Int} {x5 : Int} (hp : e_Pic D cA B S s H) (hS : va_S (e_A B) s.heap H locs) (hl : e_lo ls 9 [(0, e_rv B (x0)), (1, .int (iI (x1))), (2, .int (iI (x2))), (3, .int (iI (x3))), (5, .int (iI (x5)))]) (hsh : s13_goesWords_b123 k8 S x0 x1 x2 x3 x5 = some res) : W p l e ({ frames := 5, cells := 0, slots := 0, locals := 109 } : Room) s m args below meth c H locs 0 0 (MQ below (e_Qi D cA B res.1 res.2) args s 0 0 (e_A B)) (F0 m 123 ls []) := by
  obtain ⟨hx, hb, hml, hown, hts, hlk, hrt⟩ := id E
  unfold s13_goesWords_b123 at hsh
  refine lv_iconst (v := iI (1)) hx hb dX13_goesWords_123 rfl ?_
  refine lv_goto (tgt := 128) hx hb dX13_goesWords_124 (by decide) ?_
  exact w13_goesWords_b128 (hk8 := hk8) E hp hS (hl.sub [0, 1, 2, 3, 4] rfl) hsh
set_option maxRecDepth 100000 in
set_option maxHeartbeats 4000000 in
theorem w13_goesWords_b102 {p : Program} {l : Launch} {e : Env} {s : State} {m : MethodId} {args : Array Value} {below : List Frame} {meth : Method} {c : Code} {D : va_G} {cA : Nat → ClassId} {B : Nat} {res : Int × HP} {k8 : HP → Int → Int → Int → Int → Int → Int → Option (Int × HP)} (hk8 : ∀ {ls : Array Slot} {H : Heap} {locs : List Loc} {S : HP} {x0 : Int} {x1 : Int} {x2 : Int} {x3 : Int} {x4 : Int} {x5 : Int} (hp : e_Pic D cA B S s H) (hS : va_S (e_A B) s.heap H locs) (hl : e_lo ls 9 [(0, e_rv B (x0)), (1, .int (iI (x1))), (2, .int (iI (x2))), (3, .int (iI (x3))), (4, .int (iI (x4))), (5, .int (iI (x5)))]) (hsh : k8 S x0 x1 x2 x3 x4 x5 = some res), W p l e ({ frames := 5, cells := 0, slots := 0, locals := 109 } : Room) s m args below meth c H locs 0 0 (MQ below (e_Qi D cA B res.1 res.2) args s 0 0 (e_A B)) (F0 m 8 ls [])) (E : e_En p s m args meth c cX13_goesWords RX13 9 (some .boolean)) {ls : Array Slot} {H : Heap} {locs : List Loc} {S : HP} {x0 : Int} {x1 : Int} {x2 : Int} {x3 : Int} {x5 : Int} {x6 : Int} {x7 : Int} {y0 : Int} {y1 : Int} {y2 : Int} (hp : e_Pic D cA B S s H) (hS : va_S (e_A B) s.heap H locs) (hl : e_lo ls 9 [(0, e_rv B (x0)), (1, .int (iI (x1))), (2, .int (iI (x2))), (3, .int (iI (x3))), (5, .int (iI (x5))), (6, .int (iI (x6))), (7, .int (iI (x7)))]) (hsh : s13_goesWords_b102 k8 S x0 x1 x2 x3 x5 x6 x7 y0 y1 y2 = some res) : W p l e ({ frames := 5, cells := 0, slots := 0, locals := 109 } : Room) s m args below meth c H locs 0 0 (MQ below (e_Qi D cA B res.1 res.2) args s 0 0 (e_A B)) (F0 m 102 ls [.int (iI (y2)), .int (iI (y1)), e_rv B (y0)]) := by
  obtain ⟨hx, hb, hml, hown, hts, hlk, hrt⟩ := id E
  unfold s13_goesWords_b102 at hsh
  obtain ⟨S102, h102, hsh⟩ := Option.bind_eq_some_iff.mp hsh
  have ok102 := ok13_reaches h102
  refine e_callV (nL := 9) (mc := 0) (ms := 0) (T := TX13) (N := 126) (As := [.int (iI (y1)), .int (iI (y2))]) (rest := []) hx hb hml hown hts hp hS hl.size ok102.1 ok102.2.1 ok102.2.2 rfl (by decide) (c13_reaches l D cA B S S102 (y0) (y1) (y2) h102) rfl rfl kd13_reaches (kl13_306) ks13_reaches kv13_reaches ki13 kh13_reaches ⟨Nat.le_of_ble_eq_true rfl, Nat.le_of_ble_eq_true rfl⟩ rfl (by simp [e_rv_cat, e_int_cat]) ⟨Nat.le_refl _, Nat.le_refl _⟩ dX13_goesWords_102 rfl (fun H locs hp hS => ?_)
  refine e_aload_n (B := B) (x := x0) hx hb dX13_goesWords_105 rfl (hl.at 0 rfl) ?_
  obtain ⟨v106, h106, hsh⟩ := Option.bind_eq_some_iff.mp hsh
  refine e_getI (k := 46) hx hb hts in_X13 hown hp h106 rfl (by decide) (by decide) rfl (hts _ kf13_296) rfl dX13_goesWords_106 ?_
  refine lv_iload hx hb dX13_goesWords_109 (hl.at 5 rfl) ?_
  refine e_icmp_ne (tgt := 123) hx hb dX13_goesWords_111 (by decide) (fun c111 => ?_) (fun c111 => ?_)
  · rw [if_neg c111] at hsh
    exact w13_goesWords_b123 (hk8 := hk8) E hp hS (hl.sub [0, 1, 2, 3, 4] rfl) hsh
  · rw [if_pos c111] at hsh
    refine e_aload_n (B := B) (x := x0) hx hb dX13_goesWords_114 rfl (hl.at 0 rfl) ?_
    obtain ⟨v115, h115, hsh⟩ := Option.bind_eq_some_iff.mp hsh
    refine e_getI (k := 47) hx hb hts in_X13 hown hp h115 rfl (by decide) (by decide) rfl (hts _ kf13_299) rfl dX13_goesWords_115 ?_
    refine lv_iload hx hb dX13_goesWords_118 (hl.at 6 rfl) ?_
    refine e_icmp_eq (tgt := 127) hx hb dX13_goesWords_120 (by decide) (fun c120 => ?_) (fun c120 => ?_)
    · rw [if_pos c120] at hsh
      refine lv_iconst (v := iI (0)) hx hb dX13_goesWords_127 rfl ?_
      exact w13_goesWords_b128 (hk8 := hk8) E hp hS (hl.sub [0, 1, 2, 3, 4] rfl) hsh
    · rw [if_neg c120] at hsh
      exact w13_goesWords_b123 (hk8 := hk8) E hp hS (hl.sub [0, 1, 2, 3, 4] rfl) hsh
set_option maxRecDepth 100000 in
set_option maxHeartbeats 4000000 in
theorem w13_goesWords_b60 {p : Program} {l : Launch} {e : Env} {s : State} {m : MethodId} {args : Array Value} {below : List Frame} {meth : Method} {c : Code} {D : va_G} {cA : Nat → ClassId} {B : Nat} {res : Int × HP} {k8 : HP → Int → Int → Int → Int → Int → Int → Option (Int × HP)} (hk8 : ∀ {ls : Array Slot} {H : Heap} {locs : List Loc} {S : HP} {x0 : Int} {x1 : Int} {x2 : Int} {x3 : Int} {x4 : Int} {x5 : Int} (hp : e_Pic D cA B S s H) (hS : va_S (e_A B) s.heap H locs) (hl : e_lo ls 9 [(0, e_rv B (x0)), (1, .int (iI (x1))), (2, .int (iI (x2))), (3, .int (iI (x3))), (4, .int (iI (x4))), (5, .int (iI (x5)))]) (hsh : k8 S x0 x1 x2 x3 x4 x5 = some res), W p l e ({ frames := 5, cells := 0, slots := 0, locals := 109 } : Room) s m args below meth c H locs 0 0 (MQ below (e_Qi D cA B res.1 res.2) args s 0 0 (e_A B)) (F0 m 8 ls [])) (E : e_En p s m args meth c cX13_goesWords RX13 9 (some .boolean)) {ls : Array Slot} {H : Heap} {locs : List Loc} {S : HP} {x0 : Int} {x1 : Int} {x2 : Int} {x3 : Int} {x4 : Int} {x6 : Int} {x7 : Int} {x8 : Int} {y0 : Int} (hp : e_Pic D cA B S s H) (hS : va_S (e_A B) s.heap H locs) (hl : e_lo ls 9 [(0, e_rv B (x0)), (1, .int (iI (x1))), (2, .int (iI (x2))), (3, .int (iI (x3))), (4, .int (iI (x4))), (6, .int (iI (x6))), (7, .int (iI (x7))), (8, .int (iI (x8)))]) (hsh : s13_goesWords_b60 k8 S x0 x1 x2 x3 x4 x6 x7 x8 y0 = some res) : W p l e ({ frames := 5, cells := 0, slots := 0, locals := 109 } : Room) s m args below meth c H locs 0 0 (MQ below (e_Qi D cA B res.1 res.2) args s 0 0 (e_A B)) (F0 m 60 ls [.int (iI (y0))]) := by
  obtain ⟨hx, hb, hml, hown, hts, hlk, hrt⟩ := id E
  unfold s13_goesWords_b60 at hsh
  refine e_istore (lv' := [(5, .int (iI (y0))), (0, e_rv B (x0)), (1, .int (iI (x1))), (2, .int (iI (x2))), (3, .int (iI (x3))), (4, .int (iI (x4))), (6, .int (iI (x6))), (7, .int (iI (x7))), (8, .int (iI (x8)))]) hx hb dX13_goesWords_60 hl (by decide) rfl (fun ls hl => ?_)
  refine lv_iload hx hb dX13_goesWords_62 (hl.at 8 rfl) ?_
  refine e_if_ne (tgt := 130) hx hb dX13_goesWords_64 (by decide) (fun c64 => ?_) (fun c64 => ?_)
  · rw [if_neg c64] at hsh
    exact w13_goesWords_b130 (hk8 := hk8) E hp hS (hl.sub [1, 2, 3, 4, 5, 0] rfl) hsh
  · rw [if_pos c64] at hsh
    refine e_aload_n (B := B) (x := x0) hx hb dX13_goesWords_67 rfl (hl.at 1 rfl) ?_
    refine e_aload_n (B := B) (x := x0) hx hb dX13_goesWords_68 rfl (hl.at 1 rfl) ?_
    obtain ⟨v69, h69, hsh⟩ := Option.bind_eq_some_iff.mp hsh
    refine e_getI (k := 2) hx hb hts in_X13 hown hp h69 rfl (by decide) (by decide) rfl (hts _ kf13_13) rfl dX13_goesWords_69 ?_
    refine lv_iconst (v := iI (1)) hx hb dX13_goesWords_72 rfl ?_
    refine e_isub hx hb dX13_goesWords_73 ?_
    refine lv_iload_n hx hb dX13_goesWords_74 rfl (hl.at 3 rfl) ?_
    refine e_if_eq (tgt := 92) hx hb dX13_goesWords_75 (by decide) (fun c75 => ?_) (fun c75 => ?_)
    · rw [if_pos c75] at hsh
      refine e_aload_n (B := B) (x := x0) hx hb dX13_goesWords_92 rfl (hl.at 1 rfl) ?_
      refine e_aload_n (B := B) (x := x0) hx hb dX13_goesWords_93 rfl (hl.at 1 rfl) ?_
      obtain ⟨v94, h94, hsh⟩ := Option.bind_eq_some_iff.mp hsh
      refine e_getI (k := 2) hx hb hts in_X13 hown hp h94 rfl (by decide) (by decide) rfl (hts _ kf13_13) rfl dX13_goesWords_94 ?_
      refine lv_iconst (v := iI (1)) hx hb dX13_goesWords_97 rfl ?_
      refine e_isub hx hb dX13_goesWords_98 ?_
      obtain ⟨⟨v99, S99⟩, h99, hsh⟩ := Option.bind_eq_some_iff.mp hsh
      have hsh : _ = _ := hsh
      try dsimp only at hsh
      have ok99 := ok13_lastOf h99
      refine e_callI (nL := 9) (mc := 0) (ms := 0) (T := TX13) (N := 126) (As := [.int (iI ((v94 - 1)))]) (rest := [.int (iI ((v69 - 1))), e_rv B (x0)]) hx hb hml hown hts hp hS hl.size ok99.1 ok99.2.1 ok99.2.2 rfl (by decide) (c13_lastOf l D cA B S S99 (x0) ((v94 - 1)) v99 h99) rfl rfl kd13_lastOf (kl13_309) ks13_lastOf kv13_lastOf ki13 kh13_lastOf ⟨Nat.le_of_ble_eq_true rfl, Nat.le_of_ble_eq_true rfl⟩ rfl (by simp [e_rv_cat, e_int_cat]) ⟨Nat.le_refl _, Nat.le_refl _⟩ dX13_goesWords_99 rfl (fun H locs hp hS => ?_)
      exact w13_goesWords_b102 (hk8 := hk8) E hp hS (hl.sub [1, 2, 3, 4, 0, 6, 7] rfl) hsh
    · rw [if_neg c75] at hsh
      refine e_aload_n (B := B) (x := x0) hx hb dX13_goesWords_78 rfl (hl.at 1 rfl) ?_
      obtain ⟨v79, h79, hsh⟩ := Option.bind_eq_some_iff.mp hsh
      refine e_getR (k := 3) hx hb hts in_X13 hown hp h79 rfl (by decide) (by decide) rfl (hts _ kf13_17) rfl dX13_goesWords_79 ?_
      refine e_aload_n (B := B) (x := x0) hx hb dX13_goesWords_82 rfl (hl.at 1 rfl) ?_
      obtain ⟨v83, h83, hsh⟩ := Option.bind_eq_some_iff.mp hsh
      refine e_getI (k := 2) hx hb hts in_X13 hown hp h83 rfl (by decide) (by decide) rfl (hts _ kf13_13) rfl dX13_goesWords_83 ?_
      refine lv_iconst (v := iI (1)) hx hb dX13_goesWords_86 rfl ?_
      refine e_isub hx hb dX13_goesWords_87 ?_
      obtain ⟨v88, h88, hsh⟩ := Option.bind_eq_some_iff.mp hsh
      refine e_iald hx hb hp h88 dX13_goesWords_88 ?_
      refine lv_goto (tgt := 102) hx hb dX13_goesWords_89 (by decide) ?_
      exact w13_goesWords_b102 (hk8 := hk8) E hp hS (hl.sub [1, 2, 3, 4, 0, 6, 7] rfl) hsh
set_option maxRecDepth 100000 in
set_option maxHeartbeats 4000000 in
theorem w13_goesWords_b59 {p : Program} {l : Launch} {e : Env} {s : State} {m : MethodId} {args : Array Value} {below : List Frame} {meth : Method} {c : Code} {D : va_G} {cA : Nat → ClassId} {B : Nat} {res : Int × HP} {k8 : HP → Int → Int → Int → Int → Int → Int → Option (Int × HP)} (hk8 : ∀ {ls : Array Slot} {H : Heap} {locs : List Loc} {S : HP} {x0 : Int} {x1 : Int} {x2 : Int} {x3 : Int} {x4 : Int} {x5 : Int} (hp : e_Pic D cA B S s H) (hS : va_S (e_A B) s.heap H locs) (hl : e_lo ls 9 [(0, e_rv B (x0)), (1, .int (iI (x1))), (2, .int (iI (x2))), (3, .int (iI (x3))), (4, .int (iI (x4))), (5, .int (iI (x5)))]) (hsh : k8 S x0 x1 x2 x3 x4 x5 = some res), W p l e ({ frames := 5, cells := 0, slots := 0, locals := 109 } : Room) s m args below meth c H locs 0 0 (MQ below (e_Qi D cA B res.1 res.2) args s 0 0 (e_A B)) (F0 m 8 ls [])) (E : e_En p s m args meth c cX13_goesWords RX13 9 (some .boolean)) {ls : Array Slot} {H : Heap} {locs : List Loc} {S : HP} {x0 : Int} {x1 : Int} {x2 : Int} {x3 : Int} {x4 : Int} {x6 : Int} {x7 : Int} {x8 : Int} (hp : e_Pic D cA B S s H) (hS : va_S (e_A B) s.heap H locs) (hl : e_lo ls 9 [(0, e_rv B (x0)), (1, .int (iI (x1))), (2, .int (iI (x2))), (3, .int (iI (x3))), (4, .int (iI (x4))), (6, .int (iI (x6))), (7, .int (iI (x7))), (8, .int (iI (x8)))]) (hsh : s13_goesWords_b59 k8 S x0 x1 x2 x3 x4 x6 x7 x8 = some res) : W p l e ({ frames := 5, cells := 0, slots := 0, locals := 109 } : Room) s m args below meth c H locs 0 0 (MQ below (e_Qi D cA B res.1 res.2) args s 0 0 (e_A B)) (F0 m 59 ls []) := by
  obtain ⟨hx, hb, hml, hown, hts, hlk, hrt⟩ := id E
  unfold s13_goesWords_b59 at hsh
  refine lv_iconst (v := iI (-1)) hx hb dX13_goesWords_59 rfl ?_
  exact w13_goesWords_b60 (hk8 := hk8) E hp hS (hl.sub [0, 1, 2, 3, 4, 5, 6, 7] rfl) hsh
set_option maxRecDepth 100000 in
set_option maxHeartbeats 4000000 in
theorem w13_goesWords_l8 {p : Program} {l : Launch} {e : Env} {s : State} {m : MethodId} {args : Array Value} {below : List Frame} {meth : Method} {c : Code} {D : va_G} {cA : Nat → ClassId} {B : Nat} {res : Int × HP} (E : e_En p s m args meth c cX13_goesWords RX13 9 (some .boolean)) : ∀ (f : Nat) {ls : Array Slot} {H : Heap} {locs : List Loc} {S : HP} {x0 : Int} {x1 : Int} {x2 : Int} {x3 : Int} {x4 : Int} {x5 : Int} (hp : e_Pic D cA B S s H) (hS : va_S (e_A B) s.heap H locs) (hl : e_lo ls 9 [(0, e_rv B (x0)), (1, .int (iI (x1))), (2, .int (iI (x2))), (3, .int (iI (x3))), (4, .int (iI (x4))), (5, .int (iI (x5)))]) (hsh : s13_goesWords_l8 f S x0 x1 x2 x3 x4 x5 = some res), W p l e ({ frames := 5, cells := 0, slots := 0, locals := 109 } : Room) s m args below meth c H locs 0 0 (MQ below (e_Qi D cA B res.1 res.2) args s 0 0 (e_A B)) (F0 m 8 ls []) := by
  obtain ⟨hx, hb, hml, hown, hts, hlk, hrt⟩ := id E
  intro f
  induction f with
  | zero => intro ls H locs S x0 x1 x2 x3 x4 x5 hp hS hl hsh; cases hsh
  | succ f ih =>
    intro ls H locs S x0 x1 x2 x3 x4 x5 hp hS hl hsh
    have hk8 : ∀ {ls : Array Slot} {H : Heap} {locs : List Loc} {S : HP} {x0 : Int} {x1 : Int} {x2 : Int} {x3 : Int} {x4 : Int} {x5 : Int} (hp : e_Pic D cA B S s H) (hS : va_S (e_A B) s.heap H locs) (hl : e_lo ls 9 [(0, e_rv B (x0)), (1, .int (iI (x1))), (2, .int (iI (x2))), (3, .int (iI (x3))), (4, .int (iI (x4))), (5, .int (iI (x5)))]) (hsh : (s13_goesWords_l8 f) S x0 x1 x2 x3 x4 x5 = some res), W p l e ({ frames := 5, cells := 0, slots := 0, locals := 109 } : Room) s m args below meth c H locs 0 0 (MQ below (e_Qi D cA B res.1 res.2) args s 0 0 (e_A B)) (F0 m 8 ls []) := ih
    generalize hkk : s13_goesWords_l8 f = k8 at hk8
    rw [s13_goesWords_l8] at hsh
    rw [hkk] at hsh
    try dsimp only at hsh
    refine lv_iload_n hx hb dX13_goesWords_8 rfl (hl.at 3 rfl) ?_
    refine lv_iload_n hx hb dX13_goesWords_9 rfl (hl.at 1 rfl) ?_
    refine e_icmp_ge (tgt := 146) hx hb dX13_goesWords_10 (by decide) (fun c10 => ?_) (fun c10 => ?_)
    · rw [if_pos c10] at hsh
      exact w13_goesWords_b146 E hp hS (hl.sub [0, 2, 3, 5] rfl) hsh
    · rw [if_neg c10] at hsh
      refine lv_iload hx hb dX13_goesWords_13 (hl.at 4 rfl) ?_
      refine e_if_eq (tgt := 146) hx hb dX13_goesWords_15 (by decide) (fun c15 => ?_) (fun c15 => ?_)
      · rw [if_pos c15] at hsh
        exact w13_goesWords_b146 E hp hS (hl.sub [0, 2, 3, 5] rfl) hsh
      · rw [if_neg c15] at hsh
        refine e_aload_n (B := B) (x := x0) hx hb dX13_goesWords_18 rfl (hl.at 0 rfl) ?_
        obtain ⟨v19, h19, hsh⟩ := Option.bind_eq_some_iff.mp hsh
        refine e_getI (k := 46) hx hb hts in_X13 hown hp h19 rfl (by decide) (by decide) rfl (hts _ kf13_296) rfl dX13_goesWords_19 ?_
        refine e_istore (lv' := [(6, .int (iI (v19))), (0, e_rv B (x0)), (1, .int (iI (x1))), (2, .int (iI (x2))), (3, .int (iI (x3))), (4, .int (iI (x4))), (5, .int (iI (x5)))]) hx hb dX13_goesWords_22 hl (by decide) rfl (fun ls hl => ?_)
        refine e_aload_n (B := B) (x := x0) hx hb dX13_goesWords_24 rfl (hl.at 1 rfl) ?_
        obtain ⟨v25, h25, hsh⟩ := Option.bind_eq_some_iff.mp hsh
        refine e_getI (k := 47) hx hb hts in_X13 hown hp h25 rfl (by decide) (by decide) rfl (hts _ kf13_299) rfl dX13_goesWords_25 ?_
        refine e_istore (lv' := [(7, .int (iI (v25))), (6, .int (iI (v19))), (0, e_rv B (x0)), (1, .int (iI (x1))), (2, .int (iI (x2))), (3, .int (iI (x3))), (4, .int (iI (x4))), (5, .int (iI (x5)))]) hx hb dX13_goesWords_28 hl (by decide) rfl (fun ls hl => ?_)
        refine e_aload_n (B := B) (x := x0) hx hb dX13_goesWords_30 rfl (hl.at 2 rfl) ?_
        obtain ⟨⟨v31, S31⟩, h31, hsh⟩ := Option.bind_eq_some_iff.mp hsh
        have hsh : _ = _ := hsh
        try dsimp only at hsh
        have ok31 := ok13_nextStop h31
        refine e_callI (nL := 9) (mc := 0) (ms := 0) (T := TX13) (N := 126) (As := []) (rest := []) hx hb hml hown hts hp hS hl.size ok31.1 ok31.2.1 ok31.2.2 rfl (by decide) (c13_nextStop l D cA B S S31 (x0) v31 h31) rfl rfl kd13_nextStop (kl13_315) ks13_nextStop kv13_nextStop ki13 kh13_nextStop ⟨Nat.le_of_ble_eq_true rfl, Nat.le_of_ble_eq_true rfl⟩ rfl (by simp [e_rv_cat, e_int_cat]) ⟨Nat.le_refl _, Nat.le_refl _⟩ dX13_goesWords_31 rfl (fun H locs hp hS => ?_)
        refine e_istore (lv' := [(8, .int (iI (v31))), (7, .int (iI (v25))), (6, .int (iI (v19))), (0, e_rv B (x0)), (1, .int (iI (x1))), (2, .int (iI (x2))), (3, .int (iI (x3))), (4, .int (iI (x4))), (5, .int (iI (x5)))]) hx hb dX13_goesWords_34 hl (by decide) rfl (fun ls hl => ?_)
        refine lv_iload hx hb dX13_goesWords_36 (hl.at 0 rfl) ?_
        refine e_if_eq (tgt := 59) hx hb dX13_goesWords_38 (by decide) (fun c38 => ?_) (fun c38 => ?_)
        · rw [if_pos c38] at hsh
          exact w13_goesWords_b59 (hk8 := hk8) E hp hS (hl.sub [3, 4, 5, 6, 7, 2, 1, 0] rfl) hsh
        · rw [if_neg c38] at hsh
          refine e_aload_n (B := B) (x := x0) hx hb dX13_goesWords_41 rfl (hl.at 3 rfl) ?_
          obtain ⟨v42, h42, hsh⟩ := Option.bind_eq_some_iff.mp hsh
          refine e_getI (k := 46) hx hb hts in_X13 hown hp h42 rfl (by decide) (by decide) rfl (hts _ kf13_296) rfl dX13_goesWords_42 ?_
          refine lv_iload hx hb dX13_goesWords_45 (hl.at 2 rfl) ?_
          refine e_icmp_eq (tgt := 59) hx hb dX13_goesWords_47 (by decide) (fun c47 => ?_) (fun c47 => ?_)
          · rw [if_pos c47] at hsh
            exact w13_goesWords_b59 (hk8 := hk8) E hp hS (hl.sub [3, 4, 5, 6, 7, 2, 1, 0] rfl) hsh
          · rw [if_neg c47] at hsh
            refine e_aload_n (B := B) (x := x0) hx hb dX13_goesWords_50 rfl (hl.at 3 rfl) ?_
            obtain ⟨v51, h51, hsh⟩ := Option.bind_eq_some_iff.mp hsh
            refine e_getI (k := 46) hx hb hts in_X13 hown hp h51 rfl (by decide) (by decide) rfl (hts _ kf13_296) rfl dX13_goesWords_51 ?_
            refine lv_iconst (v := iI (1)) hx hb dX13_goesWords_54 rfl ?_
            refine e_isub hx hb dX13_goesWords_55 ?_
            refine lv_goto (tgt := 60) hx hb dX13_goesWords_56 (by decide) ?_
            exact w13_goesWords_b60 (hk8 := hk8) E hp hS (hl.sub [3, 4, 5, 6, 7, 2, 1, 0] rfl) hsh
set_option maxRecDepth 100000 in
set_option maxHeartbeats 4000000 in
theorem c13_goesWords (l : Launch) (D : va_G) (cA : Nat → ClassId) (B : Nat) (S S' : HP) (x0 : Int) (x1 : Int) (x2 : Int) (r : Int) (hsh : s13_goesWords S x0 x1 x2 = some (r, S')) : Met l yX13_goesWords (e_wu yX13_goesWords cX13_goesWords 9 (some .boolean)) ({ frames := 5, cells := 0, slots := 0, locals := 109 } : Room) (va_Pc [e_rv B (x0), .int (iI (x1)), .int (iI (x2))] (fun U => e_PU D cA B S U)) (e_Qi D cA B r S') 0 0 (e_A B) := by
  refine Met.ofW (cc := cX13_goesWords) (maxL := 9) (ret := (some .boolean)) (by decide +kernel) rfl ?_
  intro p e s m args below meth c s₁ Bd hml hv
  obtain ⟨rfl, hp⟩ := hv
  have hp : e_Pic D cA B S s s.heap := hp
  have hx := Bd.exec
  have hb := Bd.bytes
  have hrt := Bd.returns
  have hlk := Bd.notSynchronized
  have hown : s.vm.findClass RX13 = some m.cls := findClass_of_methodNamed Bd.named
  have hts : ∀ w ∈ e_tb, w.before ([e_rv B (x0), .int (iI (x1)), .int (iI (x2))] : List Value).toArray s = true := fun w h => atoms_spec (ws := (e_wu yX13_goesWords cX13_goesWords 9 (some .boolean))) Bd.pre w (List.mem_cons_of_mem _ h)
  have E : e_En p s m ([e_rv B (x0), .int (iI (x1)), .int (iI (x2))] : List Value).toArray meth c cX13_goesWords RX13 9 (some .boolean) := ⟨hx, hb, hml, hown, hts, hlk, hrt⟩
  have hS : va_S (e_A B) s.heap s.heap [] := va_S.rf
  have hl := e_entry (vs := [e_rv B (x0), .int (iI (x1)), .int (iI (x2))]) (n := 9) (Nat.le_of_ble_eq_true rfl) (e_cc (e_rv_cat _ _) (e_cc rfl (e_cc rfl e_cn)))
  rw [lg_entry_eq]
  generalize (lg_sl [e_rv B (x0), .int (iI (x1)), .int (iI (x2))] ++ List.replicate (9 - (lg_sl [e_rv B (x0), .int (iI (x1)), .int (iI (x2))]).length) Slot.unset).toArray = ls at hl ⊢
  generalize ([e_rv B (x0), .int (iI (x1)), .int (iI (x2))] : List Value).toArray = args at hts E ⊢
  have hl : e_lo ls 9 [(0, e_rv B (x0)), (1, .int (iI (x1))), (2, .int (iI (x2)))] := hl
  have hsh := (gd_some hsh).2
  refine lv_iconst (v := iI (0)) hx hb dX13_goesWords_0 rfl ?_
  refine e_istore_n (lv' := [(3, .int (iI (0))), (0, e_rv B (x0)), (1, .int (iI (x1))), (2, .int (iI (x2)))]) hx hb dX13_goesWords_1 rfl hl (by decide) rfl (fun ls hl => ?_)
  refine lv_iconst (v := iI (1)) hx hb dX13_goesWords_2 rfl ?_
  refine e_istore (lv' := [(4, .int (iI (1))), (3, .int (iI (0))), (0, e_rv B (x0)), (1, .int (iI (x1))), (2, .int (iI (x2)))]) hx hb dX13_goesWords_3 hl (by decide) rfl (fun ls hl => ?_)
  refine lv_iconst (v := iI (-1)) hx hb dX13_goesWords_5 rfl ?_
  refine e_istore (lv' := [(5, .int (iI ((-1)))), (4, .int (iI (1))), (3, .int (iI (0))), (0, e_rv B (x0)), (1, .int (iI (x1))), (2, .int (iI (x2)))]) hx hb dX13_goesWords_6 hl (by decide) rfl (fun ls hl => ?_)
  exact w13_goesWords_l8 E 1000000 hp hS (hl.sub [3, 4, 5, 2, 1, 0] rfl) hsh
theorem ok13_goesWordsBack {S : HP} {x0 : Int} {x1 : Int} {r : Int × HP} (h : s13_goesWordsBack S x0 x1 = some r) : 0 ≤ x0 ∧ x0.toNat < e_n S ∧ e_g S x0.toNat = 13 := (gd_some h).1
set_option maxRecDepth 100000 in
set_option maxHeartbeats 4000000 in
theorem w13_goesWordsBack_b74 {p : Program} {l : Launch} {e : Env} {s : State} {m : MethodId} {args : Array Value} {below : List Frame} {meth : Method} {c : Code} {D : va_G} {cA : Nat → ClassId} {B : Nat} {res : Int × HP} (E : e_En p s m args meth c cX13_goesWordsBack RX13 4 (some .boolean)) {ls : Array Slot} {H : Heap} {locs : List Loc} {S : HP} {y0 : Int} (hp : e_Pic D cA B S s H) (hS : va_S (e_A B) s.heap H locs) (hl : e_lo ls 4 []) (hsh : s13_goesWordsBack_b74 S y0 = some res) : W p l e ({ frames := 5, cells := 0, slots := 0, locals := 109 } : Room) s m args below meth c H locs 0 0 (MQ below (e_Qi D cA B res.1 res.2) args s 0 0 (e_A B)) (F0 m 74 ls [.int (iI (y0))]) := by
  obtain ⟨hx, hb, hml, hown, hts, hlk, hrt⟩ := id E
  unfold s13_goesWordsBack_b74 at hsh
  obtain ⟨hz, hz1, hz2⟩ := zR_some hsh
  rw [← hz1, ← hz2]
  exact e_zret hx hb hrt hlk hp hS hz dX13_goesWordsBack_74
set_option maxRecDepth 100000 in
set_option maxHeartbeats 4000000 in
theorem w13_goesWordsBack_b65 {p : Program} {l : Launch} {e : Env} {s : State} {m : MethodId} {args : Array Value} {below : List Frame} {meth : Method} {c : Code} {D : va_G} {cA : Nat → ClassId} {B : Nat} {res : Int × HP} (E : e_En p s m args meth c cX13_goesWordsBack RX13 4 (some .boolean)) {ls : Array Slot} {H : Heap} {locs : List Loc} {S : HP} {x2 : Int} (hp : e_Pic D cA B S s H) (hS : va_S (e_A B) s.heap H locs) (hl : e_lo ls 4 [(2, .int (iI (x2)))]) (hsh : s13_goesWordsBack_b65 S x2 = some res) : W p l e ({ frames := 5, cells := 0, slots := 0, locals := 109 } : Room) s m args below meth c H locs 0 0 (MQ below (e_Qi D cA B res.1 res.2) args s 0 0 (e_A B)) (F0 m 65 ls []) := by
  obtain ⟨hx, hb, hml, hown, hts, hlk, hrt⟩ := id E
  unfold s13_goesWordsBack_b65 at hsh
  refine lv_iload_n hx hb dX13_goesWordsBack_65 rfl (hl.at 0 rfl) ?_
  refine e_if_le (tgt := 73) hx hb dX13_goesWordsBack_66 (by decide) (fun c66 => ?_) (fun c66 => ?_)
  · rw [if_pos c66] at hsh
    refine lv_iconst (v := iI (0)) hx hb dX13_goesWordsBack_73 rfl ?_
    exact w13_goesWordsBack_b74 E hp hS (hl.sub [] rfl) hsh
  · rw [if_neg c66] at hsh
    refine lv_iconst (v := iI (1)) hx hb dX13_goesWordsBack_69 rfl ?_
    refine lv_goto (tgt := 74) hx hb dX13_goesWordsBack_70 (by decide) ?_
    exact w13_goesWordsBack_b74 E hp hS (hl.sub [] rfl) hsh
set_option maxRecDepth 100000 in
set_option maxHeartbeats 4000000 in
theorem w13_goesWordsBack_b60 {p : Program} {l : Launch} {e : Env} {s : State} {m : MethodId} {args : Array Value} {below : List Frame} {meth : Method} {c : Code} {D : va_G} {cA : Nat → ClassId} {B : Nat} {res : Int × HP} {k4 : HP → Int → Int → Int → Int → Option (Int × HP)} (hk4 : ∀ {ls : Array Slot} {H : Heap} {locs : List Loc} {S : HP} {x0 : Int} {x1 : Int} {x2 : Int} {x3 : Int} (hp : e_Pic D cA B S s H) (hS : va_S (e_A B) s.heap H locs) (hl : e_lo ls 4 [(0, e_rv B (x0)), (1, .int (iI (x1))), (2, .int (iI (x2))), (3, .int (iI (x3)))]) (hsh : k4 S x0 x1 x2 x3 = some res), W p l e ({ frames := 5, cells := 0, slots := 0, locals := 109 } : Room) s m args below meth c H locs 0 0 (MQ below (e_Qi D cA B res.1 res.2) args s 0 0 (e_A B)) (F0 m 4 ls [])) (E : e_En p s m args meth c cX13_goesWordsBack RX13 4 (some .boolean)) {ls : Array Slot} {H : Heap} {locs : List Loc} {S : HP} {x0 : Int} {x1 : Int} {x3 : Int} {y0 : Int} {y1 : Int} (hp : e_Pic D cA B S s H) (hS : va_S (e_A B) s.heap H locs) (hl : e_lo ls 4 [(0, e_rv B (x0)), (1, .int (iI (x1))), (3, .int (iI (x3)))]) (hsh : s13_goesWordsBack_b60 k4 S x0 x1 x3 y0 y1 = some res) : W p l e ({ frames := 5, cells := 0, slots := 0, locals := 109 } : Room) s m args below meth c H locs 0 0 (MQ below (e_Qi D cA B res.1 res.2) args s 0 0 (e_A B)) (F0 m 60 ls [.int (iI (y1)), .int (iI (y0))]) := by
  obtain ⟨hx, hb, hml, hown, hts, hlk, hrt⟩ := id E
  unfold s13_goesWordsBack_b60 at hsh
  refine e_iadd hx hb dX13_goesWordsBack_60 ?_
  refine e_istore_n (lv' := [(2, .int (iI ((y0 + y1)))), (0, e_rv B (x0)), (1, .int (iI (x1))), (3, .int (iI (x3)))]) hx hb dX13_goesWordsBack_61 rfl hl (by decide) rfl (fun ls hl => ?_)
  refine lv_goto (tgt := 4) hx hb dX13_goesWordsBack_62 (by decide) ?_
  exact hk4 hp hS (hl.sub [1, 2, 0, 3] rfl) hsh
set_option maxRecDepth 100000 in
set_option maxHeartbeats 4000000 in
theorem w13_goesWordsBack_b50 {p : Program} {l : Launch} {e : Env} {s : State} {m : MethodId} {args : Array Value} {below : List Frame} {meth : Method} {c : Code} {D : va_G} {cA : Nat → ClassId} {B : Nat} {res : Int × HP} {k4 : HP → Int → Int → Int → Int → Option (Int × HP)} (hk4 : ∀ {ls : Array Slot} {H : Heap} {locs : List Loc} {S : HP} {x0 : Int} {x1 : Int} {x2 : Int} {x3 : Int} (hp : e_Pic D cA B S s H) (hS : va_S (e_A B) s.heap H locs) (hl : e_lo ls 4 [(0, e_rv B (x0)), (1, .int (iI (x1))), (2, .int (iI (x2))), (3, .int (iI (x3)))]) (hsh : k4 S x0 x1 x2 x3 = some res), W p l e ({ frames := 5, cells := 0, slots := 0, locals := 109 } : Room) s m args below meth c H locs 0 0 (MQ below (e_Qi D cA B res.1 res.2) args s 0 0 (e_A B)) (F0 m 4 ls [])) (E : e_En p s m args meth c cX13_goesWordsBack RX13 4 (some .boolean)) {ls : Array Slot} {H : Heap} {locs : List Loc} {S : HP} {x0 : Int} {x1 : Int} {x2 : Int} {x3 : Int} (hp : e_Pic D cA B S s H) (hS : va_S (e_A B) s.heap H locs) (hl : e_lo ls 4 [(0, e_rv B (x0)), (1, .int (iI (x1))), (2, .int (iI (x2))), (3, .int (iI (x3)))]) (hsh : s13_goesWordsBack_b50 k4 S x0 x1 x2 x3 = some res) : W p l e ({ frames := 5, cells := 0, slots := 0, locals := 109 } : Room) s m args below meth c H locs 0 0 (MQ below (e_Qi D cA B res.1 res.2) args s 0 0 (e_A B)) (F0 m 50 ls []) := by
  obtain ⟨hx, hb, hml, hown, hts, hlk, hrt⟩ := id E
  unfold s13_goesWordsBack_b50 at hsh
  refine lv_iload_n hx hb dX13_goesWordsBack_50 rfl (hl.at 2 rfl) ?_
  refine lv_iload_n hx hb dX13_goesWordsBack_51 rfl (hl.at 3 rfl) ?_
  refine e_if_eq (tgt := 59) hx hb dX13_goesWordsBack_52 (by decide) (fun c52 => ?_) (fun c52 => ?_)
  · rw [if_pos c52] at hsh
    refine lv_iconst (v := iI (0)) hx hb dX13_goesWordsBack_59 rfl ?_
    exact w13_goesWordsBack_b60 (hk4 := hk4) E hp hS (hl.sub [0, 1, 3] rfl) hsh
  · rw [if_neg c52] at hsh
    refine lv_iconst (v := iI (1)) hx hb dX13_goesWordsBack_55 rfl ?_
    refine lv_goto (tgt := 60) hx hb dX13_goesWordsBack_56 (by decide) ?_
    exact w13_goesWordsBack_b60 (hk4 := hk4) E hp hS (hl.sub [0, 1, 3] rfl) hsh
set_option maxRecDepth 100000 in
set_option maxHeartbeats 4000000 in
theorem w13_goesWordsBack_b32 {p : Program} {l : Launch} {e : Env} {s : State} {m : MethodId} {args : Array Value} {below : List Frame} {meth : Method} {c : Code} {D : va_G} {cA : Nat → ClassId} {B : Nat} {res : Int × HP} {k4 : HP → Int → Int → Int → Int → Option (Int × HP)} (hk4 : ∀ {ls : Array Slot} {H : Heap} {locs : List Loc} {S : HP} {x0 : Int} {x1 : Int} {x2 : Int} {x3 : Int} (hp : e_Pic D cA B S s H) (hS : va_S (e_A B) s.heap H locs) (hl : e_lo ls 4 [(0, e_rv B (x0)), (1, .int (iI (x1))), (2, .int (iI (x2))), (3, .int (iI (x3)))]) (hsh : k4 S x0 x1 x2 x3 = some res), W p l e ({ frames := 5, cells := 0, slots := 0, locals := 109 } : Room) s m args below meth c H locs 0 0 (MQ below (e_Qi D cA B res.1 res.2) args s 0 0 (e_A B)) (F0 m 4 ls [])) (E : e_En p s m args meth c cX13_goesWordsBack RX13 4 (some .boolean)) {ls : Array Slot} {H : Heap} {locs : List Loc} {S : HP} {x0 : Int} {x1 : Int} {x2 : Int} {y0 : Int} (hp : e_Pic D cA B S s H) (hS : va_S (e_A B) s.heap H locs) (hl : e_lo ls 4 [(0, e_rv B (x0)), (1, .int (iI (x1))), (2, .int (iI (x2)))]) (hsh : s13_goesWordsBack_b32 k4 S x0 x1 x2 y0 = some res) : W p l e ({ frames := 5, cells := 0, slots := 0, locals := 109 } : Room) s m args below meth c H locs 0 0 (MQ below (e_Qi D cA B res.1 res.2) args s 0 0 (e_A B)) (F0 m 32 ls [.int (iI (y0))]) := by
  obtain ⟨hx, hb, hml, hown, hts, hlk, hrt⟩ := id E
  unfold s13_goesWordsBack_b32 at hsh
  refine e_istore_n (lv' := [(3, .int (iI (y0))), (0, e_rv B (x0)), (1, .int (iI (x1))), (2, .int (iI (x2)))]) hx hb dX13_goesWordsBack_32 rfl hl (by decide) rfl (fun ls hl => ?_)
  refine lv_iload_n hx hb dX13_goesWordsBack_33 rfl (hl.at 0 rfl) ?_
  refine e_if_eq (tgt := 50) hx hb dX13_goesWordsBack_34 (by decide) (fun c34 => ?_) (fun c34 => ?_)
  · rw [if_pos c34] at hsh
    exact w13_goesWordsBack_b50 (hk4 := hk4) E hp hS (hl.sub [1, 2, 3, 0] rfl) hsh
  · rw [if_neg c34] at hsh
    refine e_aload_n (B := B) (x := x0) hx hb dX13_goesWordsBack_37 rfl (hl.at 1 rfl) ?_
    obtain ⟨⟨v38, S38⟩, h38, hsh⟩ := Option.bind_eq_some_iff.mp hsh
    have hsh : _ = _ := hsh
    try dsimp only at hsh
    have ok38 := ok13_stopAhead h38
    refine e_callI (nL := 4) (mc := 0) (ms := 0) (T := TX13) (N := 126) (As := []) (rest := []) hx hb hml hown hts hp hS hl.size ok38.1 ok38.2.1 ok38.2.2 rfl (by decide) (c13_stopAhead l D cA B S S38 (x0) v38 h38) rfl rfl kd13_stopAhead (kl13_318) ks13_stopAhead kv13_stopAhead ki13 kh13_stopAhead ⟨Nat.le_of_ble_eq_true rfl, Nat.le_of_ble_eq_true rfl⟩ rfl (by simp [e_rv_cat, e_int_cat]) ⟨Nat.le_refl _, Nat.le_refl _⟩ dX13_goesWordsBack_38 rfl (fun H locs hp hS => ?_)
    refine e_if_ne (tgt := 50) hx hb dX13_goesWordsBack_41 (by decide) (fun c41 => ?_) (fun c41 => ?_)
    · rw [if_neg c41] at hsh
      exact w13_goesWordsBack_b50 (hk4 := hk4) E hp hS (hl.sub [1, 2, 3, 0] rfl) hsh
    · rw [if_pos c41] at hsh
      refine e_aload_n (B := B) (x := x0) hx hb dX13_goesWordsBack_44 rfl (hl.at 1 rfl) ?_
      refine lv_iconst (v := iI (0)) hx hb dX13_goesWordsBack_45 rfl ?_
      refine lv_iconst (v := iI (0)) hx hb dX13_goesWordsBack_46 rfl ?_
      obtain ⟨S47, h47, hsh⟩ := Option.bind_eq_some_iff.mp hsh
      have ok47 := ok13_reaches h47
      refine e_callV (nL := 4) (mc := 0) (ms := 0) (T := TX13) (N := 126) (As := [.int (iI (0)), .int (iI (0))]) (rest := []) hx hb hml hown hts hp hS hl.size ok47.1 ok47.2.1 ok47.2.2 rfl (by decide) (c13_reaches l D cA B S38 S47 (x0) (0) (0) h47) rfl rfl kd13_reaches (kl13_306) ks13_reaches kv13_reaches ki13 kh13_reaches ⟨Nat.le_of_ble_eq_true rfl, Nat.le_of_ble_eq_true rfl⟩ rfl (by simp [e_rv_cat, e_int_cat]) ⟨Nat.le_refl _, Nat.le_refl _⟩ dX13_goesWordsBack_47 rfl (fun H locs hp hS => ?_)
      exact w13_goesWordsBack_b50 (hk4 := hk4) E hp hS (hl.sub [1, 2, 3, 0] rfl) hsh
set_option maxRecDepth 100000 in
set_option maxHeartbeats 4000000 in
theorem w13_goesWordsBack_b27 {p : Program} {l : Launch} {e : Env} {s : State} {m : MethodId} {args : Array Value} {below : List Frame} {meth : Method} {c : Code} {D : va_G} {cA : Nat → ClassId} {B : Nat} {res : Int × HP} {k4 : HP → Int → Int → Int → Int → Option (Int × HP)} (hk4 : ∀ {ls : Array Slot} {H : Heap} {locs : List Loc} {S : HP} {x0 : Int} {x1 : Int} {x2 : Int} {x3 : Int} (hp : e_Pic D cA B S s H) (hS : va_S (e_A B) s.heap H locs) (hl : e_lo ls 4 [(0, e_rv B (x0)), (1, .int (iI (x1))), (2, .int (iI (x2))), (3, .int (iI (x3)))]) (hsh : k4 S x0 x1 x2 x3 = some res), W p l e ({ frames := 5, cells := 0, slots := 0, locals := 109 } : Room) s m args below meth c H locs 0 0 (MQ below (e_Qi D cA B res.1 res.2) args s 0 0 (e_A B)) (F0 m 4 ls [])) (E : e_En p s m args meth c cX13_goesWordsBack RX13 4 (some .boolean)) {ls : Array Slot} {H : Heap} {locs : List Loc} {S : HP} {x0 : Int} {x1 : Int} {x2 : Int} (hp : e_Pic D cA B S s H) (hS : va_S (e_A B) s.heap H locs) (hl : e_lo ls 4 [(0, e_rv B (x0)), (1, .int (iI (x1))), (2, .int (iI (x2)))]) (hsh : s13_goesWordsBack_b27 k4 S x0 x1 x2 = some res) : W p l e ({ frames := 5, cells := 0, slots := 0, locals := 109 } : Room) s m args below meth c H locs 0 0 (MQ below (e_Qi D cA B res.1 res.2) args s 0 0 (e_A B)) (F0 m 27 ls []) := by
  obtain ⟨hx, hb, hml, hown, hts, hlk, hrt⟩ := id E
  unfold s13_goesWordsBack_b27 at hsh
  refine lv_iconst (v := iI (1)) hx hb dX13_goesWordsBack_27 rfl ?_
  refine lv_goto (tgt := 32) hx hb dX13_goesWordsBack_28 (by decide) ?_
  exact w13_goesWordsBack_b32 (hk4 := hk4) E hp hS (hl.sub [0, 1, 2] rfl) hsh
set_option maxRecDepth 100000 in
set_option maxHeartbeats 4000000 in
theorem w13_goesWordsBack_l4 {p : Program} {l : Launch} {e : Env} {s : State} {m : MethodId} {args : Array Value} {below : List Frame} {meth : Method} {c : Code} {D : va_G} {cA : Nat → ClassId} {B : Nat} {res : Int × HP} (E : e_En p s m args meth c cX13_goesWordsBack RX13 4 (some .boolean)) : ∀ (f : Nat) {ls : Array Slot} {H : Heap} {locs : List Loc} {S : HP} {x0 : Int} {x1 : Int} {x2 : Int} {x3 : Int} (hp : e_Pic D cA B S s H) (hS : va_S (e_A B) s.heap H locs) (hl : e_lo ls 4 [(0, e_rv B (x0)), (1, .int (iI (x1))), (2, .int (iI (x2))), (3, .int (iI (x3)))]) (hsh : s13_goesWordsBack_l4 f S x0 x1 x2 x3 = some res), W p l e ({ frames := 5, cells := 0, slots := 0, locals := 109 } : Room) s m args below meth c H locs 0 0 (MQ below (e_Qi D cA B res.1 res.2) args s 0 0 (e_A B)) (F0 m 4 ls []) := by
  obtain ⟨hx, hb, hml, hown, hts, hlk, hrt⟩ := id E
  intro f
  induction f with
  | zero => intro ls H locs S x0 x1 x2 x3 hp hS hl hsh; cases hsh
  | succ f ih =>
    intro ls H locs S x0 x1 x2 x3 hp hS hl hsh
    have hk4 : ∀ {ls : Array Slot} {H : Heap} {locs : List Loc} {S : HP} {x0 : Int} {x1 : Int} {x2 : Int} {x3 : Int} (hp : e_Pic D cA B S s H) (hS : va_S (e_A B) s.heap H locs) (hl : e_lo ls 4 [(0, e_rv B (x0)), (1, .int (iI (x1))), (2, .int (iI (x2))), (3, .int (iI (x3)))]) (hsh : (s13_goesWordsBack_l4 f) S x0 x1 x2 x3 = some res), W p l e ({ frames := 5, cells := 0, slots := 0, locals := 109 } : Room) s m args below meth c H locs 0 0 (MQ below (e_Qi D cA B res.1 res.2) args s 0 0 (e_A B)) (F0 m 4 ls []) := ih
    generalize hkk : s13_goesWordsBack_l4 f = k4 at hk4
    rw [s13_goesWordsBack_l4] at hsh
    rw [hkk] at hsh
    try dsimp only at hsh
    refine lv_iload_n hx hb dX13_goesWordsBack_4 rfl (hl.at 2 rfl) ?_
    refine lv_iload_n hx hb dX13_goesWordsBack_5 rfl (hl.at 1 rfl) ?_
    refine e_icmp_ge (tgt := 65) hx hb dX13_goesWordsBack_6 (by decide) (fun c6 => ?_) (fun c6 => ?_)
    · rw [if_pos c6] at hsh
      exact w13_goesWordsBack_b65 E hp hS (hl.sub [2] rfl) hsh
    · rw [if_neg c6] at hsh
      refine lv_iload_n hx hb dX13_goesWordsBack_9 rfl (hl.at 3 rfl) ?_
      refine e_if_eq (tgt := 65) hx hb dX13_goesWordsBack_10 (by decide) (fun c10 => ?_) (fun c10 => ?_)
      · rw [if_pos c10] at hsh
        exact w13_goesWordsBack_b65 E hp hS (hl.sub [2] rfl) hsh
      · rw [if_neg c10] at hsh
        refine e_aload_n (B := B) (x := x0) hx hb dX13_goesWordsBack_13 rfl (hl.at 0 rfl) ?_
        obtain ⟨v14, h14, hsh⟩ := Option.bind_eq_some_iff.mp hsh
        refine e_getI (k := 46) hx hb hts in_X13 hown hp h14 rfl (by decide) (by decide) rfl (hts _ kf13_296) rfl dX13_goesWordsBack_14 ?_
        refine e_if_gt (tgt := 27) hx hb dX13_goesWordsBack_17 (by decide) (fun c17 => ?_) (fun c17 => ?_)
        · rw [if_pos c17] at hsh
          exact w13_goesWordsBack_b27 (hk4 := hk4) E hp hS (hl.sub [0, 1, 2] rfl) hsh
        · rw [if_neg c17] at hsh
          refine e_aload_n (B := B) (x := x0) hx hb dX13_goesWordsBack_20 rfl (hl.at 0 rfl) ?_
          obtain ⟨v21, h21, hsh⟩ := Option.bind_eq_some_iff.mp hsh
          refine e_getI (k := 47) hx hb hts in_X13 hown hp h21 rfl (by decide) (by decide) rfl (hts _ kf13_299) rfl dX13_goesWordsBack_21 ?_
          refine e_if_le (tgt := 31) hx hb dX13_goesWordsBack_24 (by decide) (fun c24 => ?_) (fun c24 => ?_)
          · rw [if_pos c24] at hsh
            refine lv_iconst (v := iI (0)) hx hb dX13_goesWordsBack_31 rfl ?_
            exact w13_goesWordsBack_b32 (hk4 := hk4) E hp hS (hl.sub [0, 1, 2] rfl) hsh
          · rw [if_neg c24] at hsh
            exact w13_goesWordsBack_b27 (hk4 := hk4) E hp hS (hl.sub [0, 1, 2] rfl) hsh
set_option maxRecDepth 100000 in
set_option maxHeartbeats 4000000 in
theorem c13_goesWordsBack (l : Launch) (D : va_G) (cA : Nat → ClassId) (B : Nat) (S S' : HP) (x0 : Int) (x1 : Int) (r : Int) (hsh : s13_goesWordsBack S x0 x1 = some (r, S')) : Met l yX13_goesWordsBack (e_wu yX13_goesWordsBack cX13_goesWordsBack 4 (some .boolean)) ({ frames := 5, cells := 0, slots := 0, locals := 109 } : Room) (va_Pc [e_rv B (x0), .int (iI (x1))] (fun U => e_PU D cA B S U)) (e_Qi D cA B r S') 0 0 (e_A B) := by
  refine Met.ofW (cc := cX13_goesWordsBack) (maxL := 4) (ret := (some .boolean)) (by decide +kernel) rfl ?_
  intro p e s m args below meth c s₁ Bd hml hv
  obtain ⟨rfl, hp⟩ := hv
  have hp : e_Pic D cA B S s s.heap := hp
  have hx := Bd.exec
  have hb := Bd.bytes
  have hrt := Bd.returns
  have hlk := Bd.notSynchronized
  have hown : s.vm.findClass RX13 = some m.cls := findClass_of_methodNamed Bd.named
  have hts : ∀ w ∈ e_tb, w.before ([e_rv B (x0), .int (iI (x1))] : List Value).toArray s = true := fun w h => atoms_spec (ws := (e_wu yX13_goesWordsBack cX13_goesWordsBack 4 (some .boolean))) Bd.pre w (List.mem_cons_of_mem _ h)
  have E : e_En p s m ([e_rv B (x0), .int (iI (x1))] : List Value).toArray meth c cX13_goesWordsBack RX13 4 (some .boolean) := ⟨hx, hb, hml, hown, hts, hlk, hrt⟩
  have hS : va_S (e_A B) s.heap s.heap [] := va_S.rf
  have hl := e_entry (vs := [e_rv B (x0), .int (iI (x1))]) (n := 4) (Nat.le_of_ble_eq_true rfl) (e_cc (e_rv_cat _ _) (e_cc rfl e_cn))
  rw [lg_entry_eq]
  generalize (lg_sl [e_rv B (x0), .int (iI (x1))] ++ List.replicate (4 - (lg_sl [e_rv B (x0), .int (iI (x1))]).length) Slot.unset).toArray = ls at hl ⊢
  generalize ([e_rv B (x0), .int (iI (x1))] : List Value).toArray = args at hts E ⊢
  have hl : e_lo ls 4 [(0, e_rv B (x0)), (1, .int (iI (x1)))] := hl
  have hsh := (gd_some hsh).2
  refine lv_iconst (v := iI (0)) hx hb dX13_goesWordsBack_0 rfl ?_
  refine e_istore_n (lv' := [(2, .int (iI (0))), (0, e_rv B (x0)), (1, .int (iI (x1)))]) hx hb dX13_goesWordsBack_1 rfl hl (by decide) rfl (fun ls hl => ?_)
  refine lv_iconst (v := iI (1)) hx hb dX13_goesWordsBack_2 rfl ?_
  refine e_istore_n (lv' := [(3, .int (iI (1))), (2, .int (iI (0))), (0, e_rv B (x0)), (1, .int (iI (x1)))]) hx hb dX13_goesWordsBack_3 rfl hl (by decide) rfl (fun ls hl => ?_)
  exact w13_goesWordsBack_l4 E 1000000 hp hS (hl.sub [2, 3, 1, 0] rfl) hsh
theorem ok13_goesEnds {S : HP} {x0 : Int} {x1 : Int} {r : Int × HP} (h : s13_goesEnds S x0 x1 = some r) : 0 ≤ x0 ∧ x0.toNat < e_n S ∧ e_g S x0.toNat = 13 := (gd_some h).1
set_option maxRecDepth 100000 in
set_option maxHeartbeats 4000000 in
theorem w13_goesEnds_b24 {p : Program} {l : Launch} {e : Env} {s : State} {m : MethodId} {args : Array Value} {below : List Frame} {meth : Method} {c : Code} {D : va_G} {cA : Nat → ClassId} {B : Nat} {res : Int × HP} (E : e_En p s m args meth c cX13_goesEnds RX13 4 (some .boolean)) {ls : Array Slot} {H : Heap} {locs : List Loc} {S : HP} {x2 : Int} (hp : e_Pic D cA B S s H) (hS : va_S (e_A B) s.heap H locs) (hl : e_lo ls 4 [(2, .int (iI (x2)))]) (hsh : s13_goesEnds_b24 S x2 = some res) : W p l e ({ frames := 5, cells := 0, slots := 0, locals := 110 } : Room) s m args below meth c H locs 0 0 (MQ below (e_Qi D cA B res.1 res.2) args s 0 0 (e_A B)) (F0 m 24 ls []) := by
  obtain ⟨hx, hb, hml, hown, hts, hlk, hrt⟩ := id E
  unfold s13_goesEnds_b24 at hsh
  refine lv_iload_n hx hb dX13_goesEnds_24 rfl (hl.at 0 rfl) ?_
  obtain ⟨hz, hz1, hz2⟩ := zR_some hsh
  rw [← hz1, ← hz2]
  exact e_zret hx hb hrt hlk hp hS hz dX13_goesEnds_25
set_option maxRecDepth 100000 in
set_option maxHeartbeats 4000000 in
theorem w13_goesEnds_l4 {p : Program} {l : Launch} {e : Env} {s : State} {m : MethodId} {args : Array Value} {below : List Frame} {meth : Method} {c : Code} {D : va_G} {cA : Nat → ClassId} {B : Nat} {res : Int × HP} (E : e_En p s m args meth c cX13_goesEnds RX13 4 (some .boolean)) : ∀ (f : Nat) {ls : Array Slot} {H : Heap} {locs : List Loc} {S : HP} {x0 : Int} {x1 : Int} {x2 : Int} {x3 : Int} (hp : e_Pic D cA B S s H) (hS : va_S (e_A B) s.heap H locs) (hl : e_lo ls 4 [(0, e_rv B (x0)), (1, .int (iI (x1))), (2, .int (iI (x2))), (3, .int (iI (x3)))]) (hsh : s13_goesEnds_l4 f S x0 x1 x2 x3 = some res), W p l e ({ frames := 5, cells := 0, slots := 0, locals := 110 } : Room) s m args below meth c H locs 0 0 (MQ below (e_Qi D cA B res.1 res.2) args s 0 0 (e_A B)) (F0 m 4 ls []) := by
  obtain ⟨hx, hb, hml, hown, hts, hlk, hrt⟩ := id E
  intro f
  induction f with
  | zero => intro ls H locs S x0 x1 x2 x3 hp hS hl hsh; cases hsh
  | succ f ih =>
    intro ls H locs S x0 x1 x2 x3 hp hS hl hsh
    have hk4 : ∀ {ls : Array Slot} {H : Heap} {locs : List Loc} {S : HP} {x0 : Int} {x1 : Int} {x2 : Int} {x3 : Int} (hp : e_Pic D cA B S s H) (hS : va_S (e_A B) s.heap H locs) (hl : e_lo ls 4 [(0, e_rv B (x0)), (1, .int (iI (x1))), (2, .int (iI (x2))), (3, .int (iI (x3)))]) (hsh : (s13_goesEnds_l4 f) S x0 x1 x2 x3 = some res), W p l e ({ frames := 5, cells := 0, slots := 0, locals := 110 } : Room) s m args below meth c H locs 0 0 (MQ below (e_Qi D cA B res.1 res.2) args s 0 0 (e_A B)) (F0 m 4 ls []) := ih
    generalize hkk : s13_goesEnds_l4 f = k4 at hk4
    rw [s13_goesEnds_l4] at hsh
    rw [hkk] at hsh
    try dsimp only at hsh
    refine lv_iload_n hx hb dX13_goesEnds_4 rfl (hl.at 3 rfl) ?_
    refine lv_iload_n hx hb dX13_goesEnds_5 rfl (hl.at 1 rfl) ?_
    refine e_icmp_ge (tgt := 24) hx hb dX13_goesEnds_6 (by decide) (fun c6 => ?_) (fun c6 => ?_)
    · rw [if_pos c6] at hsh
      exact w13_goesEnds_b24 E hp hS (hl.sub [2] rfl) hsh
    · rw [if_neg c6] at hsh
      refine lv_iload_n hx hb dX13_goesEnds_9 rfl (hl.at 2 rfl) ?_
      refine e_if_eq (tgt := 24) hx hb dX13_goesEnds_10 (by decide) (fun c10 => ?_) (fun c10 => ?_)
      · rw [if_pos c10] at hsh
        exact w13_goesEnds_b24 E hp hS (hl.sub [2] rfl) hsh
      · rw [if_neg c10] at hsh
        refine e_aload_n (B := B) (x := x0) hx hb dX13_goesEnds_13 rfl (hl.at 0 rfl) ?_
        obtain ⟨⟨v14, S14⟩, h14, hsh⟩ := Option.bind_eq_some_iff.mp hsh
        have hsh : _ = _ := hsh
        try dsimp only at hsh
        have ok14 := ok13_nextEnd h14
        refine e_callI (nL := 4) (mc := 0) (ms := 0) (T := TX13) (N := 126) (As := []) (rest := []) hx hb hml hown hts hp hS hl.size ok14.1 ok14.2.1 ok14.2.2 rfl (by decide) (c13_nextEnd l D cA B S S14 (x0) v14 h14) rfl rfl kd13_nextEnd (kl13_321) ks13_nextEnd kv13_nextEnd ki13 kh13_nextEnd ⟨Nat.le_of_ble_eq_true rfl, Nat.le_of_ble_eq_true rfl⟩ rfl (by simp [e_rv_cat, e_int_cat]) ⟨Nat.le_refl _, Nat.le_refl _⟩ dX13_goesEnds_14 rfl (fun H locs hp hS => ?_)
        refine e_istore_n (lv' := [(2, .int (iI (v14))), (0, e_rv B (x0)), (1, .int (iI (x1))), (3, .int (iI (x3)))]) hx hb dX13_goesEnds_17 rfl hl (by decide) rfl (fun ls hl => ?_)
        refine e_iinc (n := 1) (x := x3) (lv' := [(3, .int (iI ((x3 + 1)))), (2, .int (iI (v14))), (0, e_rv B (x0)), (1, .int (iI (x1)))]) hx hb dX13_goesEnds_18 hl (k := 3) rfl (by decide) rfl (fun ls hl => ?_)
        refine lv_goto (tgt := 4) hx hb dX13_goesEnds_21 (by decide) ?_
        exact hk4 hp hS (hl.sub [2, 3, 1, 0] rfl) hsh
set_option maxRecDepth 100000 in
set_option maxHeartbeats 4000000 in
theorem c13_goesEnds (l : Launch) (D : va_G) (cA : Nat → ClassId) (B : Nat) (S S' : HP) (x0 : Int) (x1 : Int) (r : Int) (hsh : s13_goesEnds S x0 x1 = some (r, S')) : Met l yX13_goesEnds (e_wu yX13_goesEnds cX13_goesEnds 4 (some .boolean)) ({ frames := 5, cells := 0, slots := 0, locals := 110 } : Room) (va_Pc [e_rv B (x0), .int (iI (x1))] (fun U => e_PU D cA B S U)) (e_Qi D cA B r S') 0 0 (e_A B) := by
  refine Met.ofW (cc := cX13_goesEnds) (maxL := 4) (ret := (some .boolean)) (by decide +kernel) rfl ?_
  intro p e s m args below meth c s₁ Bd hml hv
  obtain ⟨rfl, hp⟩ := hv
  have hp : e_Pic D cA B S s s.heap := hp
  have hx := Bd.exec
  have hb := Bd.bytes
  have hrt := Bd.returns
  have hlk := Bd.notSynchronized
  have hown : s.vm.findClass RX13 = some m.cls := findClass_of_methodNamed Bd.named
  have hts : ∀ w ∈ e_tb, w.before ([e_rv B (x0), .int (iI (x1))] : List Value).toArray s = true := fun w h => atoms_spec (ws := (e_wu yX13_goesEnds cX13_goesEnds 4 (some .boolean))) Bd.pre w (List.mem_cons_of_mem _ h)
  have E : e_En p s m ([e_rv B (x0), .int (iI (x1))] : List Value).toArray meth c cX13_goesEnds RX13 4 (some .boolean) := ⟨hx, hb, hml, hown, hts, hlk, hrt⟩
  have hS : va_S (e_A B) s.heap s.heap [] := va_S.rf
  have hl := e_entry (vs := [e_rv B (x0), .int (iI (x1))]) (n := 4) (Nat.le_of_ble_eq_true rfl) (e_cc (e_rv_cat _ _) (e_cc rfl e_cn))
  rw [lg_entry_eq]
  generalize (lg_sl [e_rv B (x0), .int (iI (x1))] ++ List.replicate (4 - (lg_sl [e_rv B (x0), .int (iI (x1))]).length) Slot.unset).toArray = ls at hl ⊢
  generalize ([e_rv B (x0), .int (iI (x1))] : List Value).toArray = args at hts E ⊢
  have hl : e_lo ls 4 [(0, e_rv B (x0)), (1, .int (iI (x1)))] := hl
  have hsh := (gd_some hsh).2
  refine lv_iconst (v := iI (1)) hx hb dX13_goesEnds_0 rfl ?_
  refine e_istore_n (lv' := [(2, .int (iI (1))), (0, e_rv B (x0)), (1, .int (iI (x1)))]) hx hb dX13_goesEnds_1 rfl hl (by decide) rfl (fun ls hl => ?_)
  refine lv_iconst (v := iI (0)) hx hb dX13_goesEnds_2 rfl ?_
  refine e_istore_n (lv' := [(3, .int (iI (0))), (2, .int (iI (1))), (0, e_rv B (x0)), (1, .int (iI (x1)))]) hx hb dX13_goesEnds_3 rfl hl (by decide) rfl (fun ls hl => ?_)
  exact w13_goesEnds_l4 E 1000000 hp hS (hl.sub [2, 3, 1, 0] rfl) hsh
theorem ok13_goesParts {S : HP} {x0 : Int} {x1 : Int} {x2 : Int} {r : Int × HP} (h : s13_goesParts S x0 x1 x2 = some r) : 0 ≤ x0 ∧ x0.toNat < e_n S ∧ e_g S x0.toNat = 13 := (gd_some h).1
set_option maxRecDepth 100000 in
set_option maxHeartbeats 4000000 in
theorem w13_goesParts_b192 {p : Program} {l : Launch} {e : Env} {s : State} {m : MethodId} {args : Array Value} {below : List Frame} {meth : Method} {c : Code} {D : va_G} {cA : Nat → ClassId} {B : Nat} {res : Int × HP} (E : e_En p s m args meth c cX13_goesParts RX13 8 (some .boolean)) {ls : Array Slot} {H : Heap} {locs : List Loc} {S : HP} {y0 : Int} (hp : e_Pic D cA B S s H) (hS : va_S (e_A B) s.heap H locs) (hl : e_lo ls 8 []) (hsh : s13_goesParts_b192 S y0 = some res) : W p l e ({ frames := 2, cells := 0, slots := 0, locals := 42 } : Room) s m args below meth c H locs 0 0 (MQ below (e_Qi D cA B res.1 res.2) args s 0 0 (e_A B)) (F0 m 192 ls [.int (iI (y0))]) := by
  obtain ⟨hx, hb, hml, hown, hts, hlk, hrt⟩ := id E
  unfold s13_goesParts_b192 at hsh
  obtain ⟨hz, hz1, hz2⟩ := zR_some hsh
  rw [← hz1, ← hz2]
  exact e_zret hx hb hrt hlk hp hS hz dX13_goesParts_192
set_option maxRecDepth 100000 in
set_option maxHeartbeats 4000000 in
theorem w13_goesParts_b183 {p : Program} {l : Launch} {e : Env} {s : State} {m : MethodId} {args : Array Value} {below : List Frame} {meth : Method} {c : Code} {D : va_G} {cA : Nat → ClassId} {B : Nat} {res : Int × HP} (E : e_En p s m args meth c cX13_goesParts RX13 8 (some .boolean)) {ls : Array Slot} {H : Heap} {locs : List Loc} {S : HP} {x3 : Int} (hp : e_Pic D cA B S s H) (hS : va_S (e_A B) s.heap H locs) (hl : e_lo ls 8 [(3, .int (iI (x3)))]) (hsh : s13_goesParts_b183 S x3 = some res) : W p l e ({ frames := 2, cells := 0, slots := 0, locals := 42 } : Room) s m args below meth c H locs 0 0 (MQ below (e_Qi D cA B res.1 res.2) args s 0 0 (e_A B)) (F0 m 183 ls []) := by
  obtain ⟨hx, hb, hml, hown, hts, hlk, hrt⟩ := id E
  unfold s13_goesParts_b183 at hsh
  refine lv_iload_n hx hb dX13_goesParts_183 rfl (hl.at 0 rfl) ?_
  refine e_if_le (tgt := 191) hx hb dX13_goesParts_184 (by decide) (fun c184 => ?_) (fun c184 => ?_)
  · rw [if_pos c184] at hsh
    refine lv_iconst (v := iI (0)) hx hb dX13_goesParts_191 rfl ?_
    exact w13_goesParts_b192 E hp hS (hl.sub [] rfl) hsh
  · rw [if_neg c184] at hsh
    refine lv_iconst (v := iI (1)) hx hb dX13_goesParts_187 rfl ?_
    refine lv_goto (tgt := 192) hx hb dX13_goesParts_188 (by decide) ?_
    exact w13_goesParts_b192 E hp hS (hl.sub [] rfl) hsh
set_option maxRecDepth 100000 in
set_option maxHeartbeats 4000000 in
theorem w13_goesParts_b178 {p : Program} {l : Launch} {e : Env} {s : State} {m : MethodId} {args : Array Value} {below : List Frame} {meth : Method} {c : Code} {D : va_G} {cA : Nat → ClassId} {B : Nat} {res : Int × HP} {k5 : HP → Int → Int → Int → Int → Int → Option (Int × HP)} (hk5 : ∀ {ls : Array Slot} {H : Heap} {locs : List Loc} {S : HP} {x0 : Int} {x1 : Int} {x2 : Int} {x3 : Int} {x4 : Int} (hp : e_Pic D cA B S s H) (hS : va_S (e_A B) s.heap H locs) (hl : e_lo ls 8 [(0, e_rv B (x0)), (1, .int (iI (x1))), (2, .int (iI (x2))), (3, .int (iI (x3))), (4, .int (iI (x4)))]) (hsh : k5 S x0 x1 x2 x3 x4 = some res), W p l e ({ frames := 2, cells := 0, slots := 0, locals := 42 } : Room) s m args below meth c H locs 0 0 (MQ below (e_Qi D cA B res.1 res.2) args s 0 0 (e_A B)) (F0 m 5 ls [])) (E : e_En p s m args meth c cX13_goesParts RX13 8 (some .boolean)) {ls : Array Slot} {H : Heap} {locs : List Loc} {S : HP} {x0 : Int} {x1 : Int} {x2 : Int} {x4 : Int} {y0 : Int} {y1 : Int} (hp : e_Pic D cA B S s H) (hS : va_S (e_A B) s.heap H locs) (hl : e_lo ls 8 [(0, e_rv B (x0)), (1, .int (iI (x1))), (2, .int (iI (x2))), (4, .int (iI (x4)))]) (hsh : s13_goesParts_b178 k5 S x0 x1 x2 x4 y0 y1 = some res) : W p l e ({ frames := 2, cells := 0, slots := 0, locals := 42 } : Room) s m args below meth c H locs 0 0 (MQ below (e_Qi D cA B res.1 res.2) args s 0 0 (e_A B)) (F0 m 178 ls [.int (iI (y1)), .int (iI (y0))]) := by
  obtain ⟨hx, hb, hml, hown, hts, hlk, hrt⟩ := id E
  unfold s13_goesParts_b178 at hsh
  refine e_iadd hx hb dX13_goesParts_178 ?_
  refine e_istore_n (lv' := [(3, .int (iI ((y0 + y1)))), (0, e_rv B (x0)), (1, .int (iI (x1))), (2, .int (iI (x2))), (4, .int (iI (x4)))]) hx hb dX13_goesParts_179 rfl hl (by decide) rfl (fun ls hl => ?_)
  refine lv_goto (tgt := 5) hx hb dX13_goesParts_180 (by decide) ?_
  exact hk5 hp hS (hl.sub [1, 2, 3, 0, 4] rfl) hsh
set_option maxRecDepth 100000 in
set_option maxHeartbeats 4000000 in
theorem w13_goesParts_b167 {p : Program} {l : Launch} {e : Env} {s : State} {m : MethodId} {args : Array Value} {below : List Frame} {meth : Method} {c : Code} {D : va_G} {cA : Nat → ClassId} {B : Nat} {res : Int × HP} {k5 : HP → Int → Int → Int → Int → Int → Option (Int × HP)} (hk5 : ∀ {ls : Array Slot} {H : Heap} {locs : List Loc} {S : HP} {x0 : Int} {x1 : Int} {x2 : Int} {x3 : Int} {x4 : Int} (hp : e_Pic D cA B S s H) (hS : va_S (e_A B) s.heap H locs) (hl : e_lo ls 8 [(0, e_rv B (x0)), (1, .int (iI (x1))), (2, .int (iI (x2))), (3, .int (iI (x3))), (4, .int (iI (x4)))]) (hsh : k5 S x0 x1 x2 x3 x4 = some res), W p l e ({ frames := 2, cells := 0, slots := 0, locals := 42 } : Room) s m args below meth c H locs 0 0 (MQ below (e_Qi D cA B res.1 res.2) args s 0 0 (e_A B)) (F0 m 5 ls [])) (E : e_En p s m args meth c cX13_goesParts RX13 8 (some .boolean)) {ls : Array Slot} {H : Heap} {locs : List Loc} {S : HP} {x0 : Int} {x1 : Int} {x2 : Int} {x3 : Int} {x4 : Int} (hp : e_Pic D cA B S s H) (hS : va_S (e_A B) s.heap H locs) (hl : e_lo ls 8 [(0, e_rv B (x0)), (1, .int (iI (x1))), (2, .int (iI (x2))), (3, .int (iI (x3))), (4, .int (iI (x4)))]) (hsh : s13_goesParts_b167 k5 S x0 x1 x2 x3 x4 = some res) : W p l e ({ frames := 2, cells := 0, slots := 0, locals := 42 } : Room) s m args below meth c H locs 0 0 (MQ below (e_Qi D cA B res.1 res.2) args s 0 0 (e_A B)) (F0 m 167 ls []) := by
  obtain ⟨hx, hb, hml, hown, hts, hlk, hrt⟩ := id E
  unfold s13_goesParts_b167 at hsh
  refine lv_iload_n hx hb dX13_goesParts_167 rfl (hl.at 3 rfl) ?_
  refine lv_iload hx hb dX13_goesParts_168 (hl.at 4 rfl) ?_
  refine e_if_eq (tgt := 177) hx hb dX13_goesParts_170 (by decide) (fun c170 => ?_) (fun c170 => ?_)
  · rw [if_pos c170] at hsh
    refine lv_iconst (v := iI (0)) hx hb dX13_goesParts_177 rfl ?_
    exact w13_goesParts_b178 (hk5 := hk5) E hp hS (hl.sub [0, 1, 2, 4] rfl) hsh
  · rw [if_neg c170] at hsh
    refine lv_iconst (v := iI (1)) hx hb dX13_goesParts_173 rfl ?_
    refine lv_goto (tgt := 178) hx hb dX13_goesParts_174 (by decide) ?_
    exact w13_goesParts_b178 (hk5 := hk5) E hp hS (hl.sub [0, 1, 2, 4] rfl) hsh
set_option maxRecDepth 100000 in
set_option maxHeartbeats 4000000 in
theorem w13_goesParts_b165 {p : Program} {l : Launch} {e : Env} {s : State} {m : MethodId} {args : Array Value} {below : List Frame} {meth : Method} {c : Code} {D : va_G} {cA : Nat → ClassId} {B : Nat} {res : Int × HP} {k5 : HP → Int → Int → Int → Int → Int → Option (Int × HP)} (hk5 : ∀ {ls : Array Slot} {H : Heap} {locs : List Loc} {S : HP} {x0 : Int} {x1 : Int} {x2 : Int} {x3 : Int} {x4 : Int} (hp : e_Pic D cA B S s H) (hS : va_S (e_A B) s.heap H locs) (hl : e_lo ls 8 [(0, e_rv B (x0)), (1, .int (iI (x1))), (2, .int (iI (x2))), (3, .int (iI (x3))), (4, .int (iI (x4)))]) (hsh : k5 S x0 x1 x2 x3 x4 = some res), W p l e ({ frames := 2, cells := 0, slots := 0, locals := 42 } : Room) s m args below meth c H locs 0 0 (MQ below (e_Qi D cA B res.1 res.2) args s 0 0 (e_A B)) (F0 m 5 ls [])) (E : e_En p s m args meth c cX13_goesParts RX13 8 (some .boolean)) {ls : Array Slot} {H : Heap} {locs : List Loc} {S : HP} {x0 : Int} {x1 : Int} {x2 : Int} {x3 : Int} {y0 : Int} (hp : e_Pic D cA B S s H) (hS : va_S (e_A B) s.heap H locs) (hl : e_lo ls 8 [(0, e_rv B (x0)), (1, .int (iI (x1))), (2, .int (iI (x2))), (3, .int (iI (x3)))]) (hsh : s13_goesParts_b165 k5 S x0 x1 x2 x3 y0 = some res) : W p l e ({ frames := 2, cells := 0, slots := 0, locals := 42 } : Room) s m args below meth c H locs 0 0 (MQ below (e_Qi D cA B res.1 res.2) args s 0 0 (e_A B)) (F0 m 165 ls [.int (iI (y0))]) := by
  obtain ⟨hx, hb, hml, hown, hts, hlk, hrt⟩ := id E
  unfold s13_goesParts_b165 at hsh
  refine e_istore (lv' := [(4, .int (iI (y0))), (0, e_rv B (x0)), (1, .int (iI (x1))), (2, .int (iI (x2))), (3, .int (iI (x3)))]) hx hb dX13_goesParts_165 hl (by decide) rfl (fun ls hl => ?_)
  exact w13_goesParts_b167 (hk5 := hk5) E hp hS (hl.sub [1, 2, 3, 4, 0] rfl) hsh
set_option maxRecDepth 100000 in
set_option maxHeartbeats 4000000 in
theorem w13_goesParts_b160 {p : Program} {l : Launch} {e : Env} {s : State} {m : MethodId} {args : Array Value} {below : List Frame} {meth : Method} {c : Code} {D : va_G} {cA : Nat → ClassId} {B : Nat} {res : Int × HP} {k5 : HP → Int → Int → Int → Int → Int → Option (Int × HP)} (hk5 : ∀ {ls : Array Slot} {H : Heap} {locs : List Loc} {S : HP} {x0 : Int} {x1 : Int} {x2 : Int} {x3 : Int} {x4 : Int} (hp : e_Pic D cA B S s H) (hS : va_S (e_A B) s.heap H locs) (hl : e_lo ls 8 [(0, e_rv B (x0)), (1, .int (iI (x1))), (2, .int (iI (x2))), (3, .int (iI (x3))), (4, .int (iI (x4)))]) (hsh : k5 S x0 x1 x2 x3 x4 = some res), W p l e ({ frames := 2, cells := 0, slots := 0, locals := 42 } : Room) s m args below meth c H locs 0 0 (MQ below (e_Qi D cA B res.1 res.2) args s 0 0 (e_A B)) (F0 m 5 ls [])) (E : e_En p s m args meth c cX13_goesParts RX13 8 (some .boolean)) {ls : Array Slot} {H : Heap} {locs : List Loc} {S : HP} {x0 : Int} {x1 : Int} {x2 : Int} {x3 : Int} (hp : e_Pic D cA B S s H) (hS : va_S (e_A B) s.heap H locs) (hl : e_lo ls 8 [(0, e_rv B (x0)), (1, .int (iI (x1))), (2, .int (iI (x2))), (3, .int (iI (x3)))]) (hsh : s13_goesParts_b160 k5 S x0 x1 x2 x3 = some res) : W p l e ({ frames := 2, cells := 0, slots := 0, locals := 42 } : Room) s m args below meth c H locs 0 0 (MQ below (e_Qi D cA B res.1 res.2) args s 0 0 (e_A B)) (F0 m 160 ls []) := by
  obtain ⟨hx, hb, hml, hown, hts, hlk, hrt⟩ := id E
  unfold s13_goesParts_b160 at hsh
  refine lv_iconst (v := iI (1)) hx hb dX13_goesParts_160 rfl ?_
  refine lv_goto (tgt := 165) hx hb dX13_goesParts_161 (by decide) ?_
  exact w13_goesParts_b165 (hk5 := hk5) E hp hS (hl.sub [0, 1, 2, 3] rfl) hsh
set_option maxRecDepth 100000 in
set_option maxHeartbeats 4000000 in
theorem w13_goesParts_b139 {p : Program} {l : Launch} {e : Env} {s : State} {m : MethodId} {args : Array Value} {below : List Frame} {meth : Method} {c : Code} {D : va_G} {cA : Nat → ClassId} {B : Nat} {res : Int × HP} {k5 : HP → Int → Int → Int → Int → Int → Option (Int × HP)} (hk5 : ∀ {ls : Array Slot} {H : Heap} {locs : List Loc} {S : HP} {x0 : Int} {x1 : Int} {x2 : Int} {x3 : Int} {x4 : Int} (hp : e_Pic D cA B S s H) (hS : va_S (e_A B) s.heap H locs) (hl : e_lo ls 8 [(0, e_rv B (x0)), (1, .int (iI (x1))), (2, .int (iI (x2))), (3, .int (iI (x3))), (4, .int (iI (x4)))]) (hsh : k5 S x0 x1 x2 x3 x4 = some res), W p l e ({ frames := 2, cells := 0, slots := 0, locals := 42 } : Room) s m args below meth c H locs 0 0 (MQ below (e_Qi D cA B res.1 res.2) args s 0 0 (e_A B)) (F0 m 5 ls [])) (E : e_En p s m args meth c cX13_goesParts RX13 8 (some .boolean)) {ls : Array Slot} {H : Heap} {locs : List Loc} {S : HP} {x0 : Int} {x1 : Int} {x2 : Int} {x3 : Int} {x6 : Int} {x7 : Int} {y0 : Int} {y1 : Int} {y2 : Int} (hp : e_Pic D cA B S s H) (hS : va_S (e_A B) s.heap H locs) (hl : e_lo ls 8 [(0, e_rv B (x0)), (1, .int (iI (x1))), (2, .int (iI (x2))), (3, .int (iI (x3))), (6, .int (iI (x6))), (7, .int (iI (x7)))]) (hsh : s13_goesParts_b139 k5 S x0 x1 x2 x3 x6 x7 y0 y1 y2 = some res) : W p l e ({ frames := 2, cells := 0, slots := 0, locals := 42 } : Room) s m args below meth c H locs 0 0 (MQ below (e_Qi D cA B res.1 res.2) args s 0 0 (e_A B)) (F0 m 139 ls [.int (iI (y2)), .int (iI (y1)), e_rv B (y0)]) := by
  obtain ⟨hx, hb, hml, hown, hts, hlk, hrt⟩ := id E
  unfold s13_goesParts_b139 at hsh
  obtain ⟨S139, h139, hsh⟩ := Option.bind_eq_some_iff.mp hsh
  have ok139 := ok13_reaches h139
  refine e_callV (nL := 8) (mc := 0) (ms := 0) (T := TX13) (N := 126) (As := [.int (iI (y1)), .int (iI (y2))]) (rest := []) hx hb hml hown hts hp hS hl.size ok139.1 ok139.2.1 ok139.2.2 rfl (by decide) (c13_reaches l D cA B S S139 (y0) (y1) (y2) h139) rfl rfl kd13_reaches (kl13_306) ks13_reaches kv13_reaches ki13 kh13_reaches ⟨Nat.le_of_ble_eq_true rfl, Nat.le_of_ble_eq_true rfl⟩ rfl (by simp [e_rv_cat, e_int_cat]) ⟨Nat.le_refl _, Nat.le_refl _⟩ dX13_goesParts_139 rfl (fun H locs hp hS => ?_)
  refine e_aload_n (B := B) (x := x0) hx hb dX13_goesParts_142 rfl (hl.at 0 rfl) ?_
  obtain ⟨v143, h143, hsh⟩ := Option.bind_eq_some_iff.mp hsh
  refine e_getI (k := 46) hx hb hts in_X13 hown hp h143 rfl (by decide) (by decide) rfl (hts _ kf13_296) rfl dX13_goesParts_143 ?_
  refine lv_iload hx hb dX13_goesParts_146 (hl.at 4 rfl) ?_
  refine e_icmp_ne (tgt := 160) hx hb dX13_goesParts_148 (by decide) (fun c148 => ?_) (fun c148 => ?_)
  · rw [if_neg c148] at hsh
    exact w13_goesParts_b160 (hk5 := hk5) E hp hS (hl.sub [0, 1, 2, 3] rfl) hsh
  · rw [if_pos c148] at hsh
    refine e_aload_n (B := B) (x := x0) hx hb dX13_goesParts_151 rfl (hl.at 0 rfl) ?_
    obtain ⟨v152, h152, hsh⟩ := Option.bind_eq_some_iff.mp hsh
    refine e_getI (k := 47) hx hb hts in_X13 hown hp h152 rfl (by decide) (by decide) rfl (hts _ kf13_299) rfl dX13_goesParts_152 ?_
    refine lv_iload hx hb dX13_goesParts_155 (hl.at 5 rfl) ?_
    refine e_icmp_eq (tgt := 164) hx hb dX13_goesParts_157 (by decide) (fun c157 => ?_) (fun c157 => ?_)
    · rw [if_pos c157] at hsh
      refine lv_iconst (v := iI (0)) hx hb dX13_goesParts_164 rfl ?_
      exact w13_goesParts_b165 (hk5 := hk5) E hp hS (hl.sub [0, 1, 2, 3] rfl) hsh
    · rw [if_neg c157] at hsh
      exact w13_goesParts_b160 (hk5 := hk5) E hp hS (hl.sub [0, 1, 2, 3] rfl) hsh
set_option maxRecDepth 100000 in
set_option maxHeartbeats 4000000 in
theorem w13_goesParts_b121 {p : Program} {l : Launch} {e : Env} {s : State} {m : MethodId} {args : Array Value} {below : List Frame} {meth : Method} {c : Code} {D : va_G} {cA : Nat → ClassId} {B : Nat} {res : Int × HP} {k5 : HP → Int → Int → Int → Int → Int → Option (Int × HP)} (hk5 : ∀ {ls : Array Slot} {H : Heap} {locs : List Loc} {S : HP} {x0 : Int} {x1 : Int} {x2 : Int} {x3 : Int} {x4 : Int} (hp : e_Pic D cA B S s H) (hS : va_S (e_A B) s.heap H locs) (hl : e_lo ls 8 [(0, e_rv B (x0)), (1, .int (iI (x1))), (2, .int (iI (x2))), (3, .int (iI (x3))), (4, .int (iI (x4)))]) (hsh : k5 S x0 x1 x2 x3 x4 = some res), W p l e ({ frames := 2, cells := 0, slots := 0, locals := 42 } : Room) s m args below meth c H locs 0 0 (MQ below (e_Qi D cA B res.1 res.2) args s 0 0 (e_A B)) (F0 m 5 ls [])) (E : e_En p s m args meth c cX13_goesParts RX13 8 (some .boolean)) {ls : Array Slot} {H : Heap} {locs : List Loc} {S : HP} {x0 : Int} {x1 : Int} {x2 : Int} {x3 : Int} {x6 : Int} {x7 : Int} {y0 : Int} {y1 : Int} (hp : e_Pic D cA B S s H) (hS : va_S (e_A B) s.heap H locs) (hl : e_lo ls 8 [(0, e_rv B (x0)), (1, .int (iI (x1))), (2, .int (iI (x2))), (3, .int (iI (x3))), (6, .int (iI (x6))), (7, .int (iI (x7)))]) (hsh : s13_goesParts_b121 k5 S x0 x1 x2 x3 x6 x7 y0 y1 = some res) : W p l e ({ frames := 2, cells := 0, slots := 0, locals := 42 } : Room) s m args below meth c H locs 0 0 (MQ below (e_Qi D cA B res.1 res.2) args s 0 0 (e_A B)) (F0 m 121 ls [.int (iI (y1)), e_rv B (y0)]) := by
  obtain ⟨hx, hb, hml, hown, hts, hlk, hrt⟩ := id E
  unfold s13_goesParts_b121 at hsh
  refine lv_iload_n hx hb dX13_goesParts_121 rfl (hl.at 2 rfl) ?_
  refine e_if_le (tgt := 138) hx hb dX13_goesParts_122 (by decide) (fun c122 => ?_) (fun c122 => ?_)
  · rw [if_pos c122] at hsh
    refine lv_iconst (v := iI (0)) hx hb dX13_goesParts_138 rfl ?_
    exact w13_goesParts_b139 (hk5 := hk5) E hp hS (hl.sub [0, 1, 2, 3, 4, 5] rfl) hsh
  · rw [if_neg c122] at hsh
    refine e_aload_n (B := B) (x := x0) hx hb dX13_goesParts_125 rfl (hl.at 0 rfl) ?_
    refine e_aload_n (B := B) (x := x0) hx hb dX13_goesParts_126 rfl (hl.at 0 rfl) ?_
    obtain ⟨v127, h127, hsh⟩ := Option.bind_eq_some_iff.mp hsh
    refine e_getI (k := 2) hx hb hts in_X13 hown hp h127 rfl (by decide) (by decide) rfl (hts _ kf13_13) rfl dX13_goesParts_127 ?_
    refine lv_iconst (v := iI (1)) hx hb dX13_goesParts_130 rfl ?_
    refine e_isub hx hb dX13_goesParts_131 ?_
    obtain ⟨⟨v132, S132⟩, h132, hsh⟩ := Option.bind_eq_some_iff.mp hsh
    have hsh : _ = _ := hsh
    try dsimp only at hsh
    have ok132 := ok13_lastOf h132
    refine e_callI (nL := 8) (mc := 0) (ms := 0) (T := TX13) (N := 126) (As := [.int (iI ((v127 - 1)))]) (rest := [.int (iI (y1)), e_rv B (y0)]) hx hb hml hown hts hp hS hl.size ok132.1 ok132.2.1 ok132.2.2 rfl (by decide) (c13_lastOf l D cA B S S132 (x0) ((v127 - 1)) v132 h132) rfl rfl kd13_lastOf (kl13_309) ks13_lastOf kv13_lastOf ki13 kh13_lastOf ⟨Nat.le_of_ble_eq_true rfl, Nat.le_of_ble_eq_true rfl⟩ rfl (by simp [e_rv_cat, e_int_cat]) ⟨Nat.le_refl _, Nat.le_refl _⟩ dX13_goesParts_132 rfl (fun H locs hp hS => ?_)
    refine lv_goto (tgt := 139) hx hb dX13_goesParts_135 (by decide) ?_
    exact w13_goesParts_b139 (hk5 := hk5) E hp hS (hl.sub [0, 1, 2, 3, 4, 5] rfl) hsh
set_option maxRecDepth 100000 in
set_option maxHeartbeats 4000000 in
theorem w13_goesParts_b69 {p : Program} {l : Launch} {e : Env} {s : State} {m : MethodId} {args : Array Value} {below : List Frame} {meth : Method} {c : Code} {D : va_G} {cA : Nat → ClassId} {B : Nat} {res : Int × HP} {k5 : HP → Int → Int → Int → Int → Int → Option (Int × HP)} (hk5 : ∀ {ls : Array Slot} {H : Heap} {locs : List Loc} {S : HP} {x0 : Int} {x1 : Int} {x2 : Int} {x3 : Int} {x4 : Int} (hp : e_Pic D cA B S s H) (hS : va_S (e_A B) s.heap H locs) (hl : e_lo ls 8 [(0, e_rv B (x0)), (1, .int (iI (x1))), (2, .int (iI (x2))), (3, .int (iI (x3))), (4, .int (iI (x4)))]) (hsh : k5 S x0 x1 x2 x3 x4 = some res), W p l e ({ frames := 2, cells := 0, slots := 0, locals := 42 } : Room) s m args below meth c H locs 0 0 (MQ below (e_Qi D cA B res.1 res.2) args s 0 0 (e_A B)) (F0 m 5 ls [])) (E : e_En p s m args meth c cX13_goesParts RX13 8 (some .boolean)) {ls : Array Slot} {H : Heap} {locs : List Loc} {S : HP} {x0 : Int} {x1 : Int} {x2 : Int} {x3 : Int} {x4 : Int} {x5 : Int} (hp : e_Pic D cA B S s H) (hS : va_S (e_A B) s.heap H locs) (hl : e_lo ls 8 [(0, e_rv B (x0)), (1, .int (iI (x1))), (2, .int (iI (x2))), (3, .int (iI (x3))), (4, .int (iI (x4))), (5, .int (iI (x5)))]) (hsh : s13_goesParts_b69 k5 S x0 x1 x2 x3 x4 x5 = some res) : W p l e ({ frames := 2, cells := 0, slots := 0, locals := 42 } : Room) s m args below meth c H locs 0 0 (MQ below (e_Qi D cA B res.1 res.2) args s 0 0 (e_A B)) (F0 m 69 ls []) := by
  obtain ⟨hx, hb, hml, hown, hts, hlk, hrt⟩ := id E
  unfold s13_goesParts_b69 at hsh
  refine e_aload_n (B := B) (x := x0) hx hb dX13_goesParts_69 rfl (hl.at 0 rfl) ?_
  obtain ⟨v70, h70, hsh⟩ := Option.bind_eq_some_iff.mp hsh
  refine e_getI (k := 46) hx hb hts in_X13 hown hp h70 rfl (by decide) (by decide) rfl (hts _ kf13_296) rfl dX13_goesParts_70 ?_
  refine e_istore (lv' := [(6, .int (iI (v70))), (0, e_rv B (x0)), (1, .int (iI (x1))), (2, .int (iI (x2))), (3, .int (iI (x3))), (4, .int (iI (x4))), (5, .int (iI (x5)))]) hx hb dX13_goesParts_73 hl (by decide) rfl (fun ls hl => ?_)
  refine e_aload_n (B := B) (x := x0) hx hb dX13_goesParts_75 rfl (hl.at 1 rfl) ?_
  obtain ⟨v76, h76, hsh⟩ := Option.bind_eq_some_iff.mp hsh
  refine e_getI (k := 47) hx hb hts in_X13 hown hp h76 rfl (by decide) (by decide) rfl (hts _ kf13_299) rfl dX13_goesParts_76 ?_
  refine e_istore (lv' := [(7, .int (iI (v76))), (6, .int (iI (v70))), (0, e_rv B (x0)), (1, .int (iI (x1))), (2, .int (iI (x2))), (3, .int (iI (x3))), (4, .int (iI (x4))), (5, .int (iI (x5)))]) hx hb dX13_goesParts_79 hl (by decide) rfl (fun ls hl => ?_)
  refine lv_iload hx hb dX13_goesParts_81 (hl.at 7 rfl) ?_
  refine lv_iconst (v := iI (0)) hx hb dX13_goesParts_83 rfl ?_
  refine e_aload_n (B := B) (x := x0) hx hb dX13_goesParts_84 rfl (hl.at 2 rfl) ?_
  obtain ⟨v85, h85, hsh⟩ := Option.bind_eq_some_iff.mp hsh
  refine e_getI (k := 2) hx hb hts in_X13 hown hp h85 rfl (by decide) (by decide) rfl (hts _ kf13_13) rfl dX13_goesParts_85 ?_
  refine lv_iconst (v := iI (1)) hx hb dX13_goesParts_88 rfl ?_
  refine e_isub hx hb dX13_goesParts_89 ?_
  obtain ⟨⟨v90, S90⟩, h90, hsh⟩ := Option.bind_eq_some_iff.mp hsh
  have hsh : _ = _ := hsh
  try dsimp only at hsh
  refine e_callS (nL := 8) (mc := 0) (ms := 0) (As := [.int (iI (x5)), .int (iI (0)), .int (iI ((v85 - 1)))]) (rest := []) hx hb hml hown hts hp hS hl.size (c13_isIn l D cA B S S90 (x5) (0) ((v85 - 1)) v90 h90) rfl rfl kd13_isIn (kl13_198) ks13_isIn ki13 kh13_isIn ⟨Nat.le_of_ble_eq_true rfl, Nat.le_of_ble_eq_true rfl⟩ rfl (by simp [e_rv_cat, e_int_cat]) ⟨Nat.le_refl _, Nat.le_refl _⟩ dX13_goesParts_90 rfl (fun H locs hp hS => ?_)
  refine e_if_eq (tgt := 106) hx hb dX13_goesParts_93 (by decide) (fun c93 => ?_) (fun c93 => ?_)
  · rw [if_pos c93] at hsh
    refine e_aload_n (B := B) (x := x0) hx hb dX13_goesParts_106 rfl (hl.at 2 rfl) ?_
    refine lv_iload_n hx hb dX13_goesParts_107 rfl (hl.at 4 rfl) ?_
    refine e_if_le (tgt := 120) hx hb dX13_goesParts_108 (by decide) (fun c108 => ?_) (fun c108 => ?_)
    · rw [if_pos c108] at hsh
      refine lv_iconst (v := iI (0)) hx hb dX13_goesParts_120 rfl ?_
      exact w13_goesParts_b121 (hk5 := hk5) E hp hS (hl.sub [2, 3, 4, 5, 1, 0] rfl) hsh
    · rw [if_neg c108] at hsh
      refine e_aload_n (B := B) (x := x0) hx hb dX13_goesParts_111 rfl (hl.at 2 rfl) ?_
      obtain ⟨v112, h112, hsh⟩ := Option.bind_eq_some_iff.mp hsh
      refine e_getI (k := 2) hx hb hts in_X13 hown hp h112 rfl (by decide) (by decide) rfl (hts _ kf13_13) rfl dX13_goesParts_112 ?_
      refine lv_iconst (v := iI (1)) hx hb dX13_goesParts_115 rfl ?_
      refine e_isub hx hb dX13_goesParts_116 ?_
      refine lv_goto (tgt := 121) hx hb dX13_goesParts_117 (by decide) ?_
      exact w13_goesParts_b121 (hk5 := hk5) E hp hS (hl.sub [2, 3, 4, 5, 1, 0] rfl) hsh
  · rw [if_neg c93] at hsh
    refine e_aload_n (B := B) (x := x0) hx hb dX13_goesParts_96 rfl (hl.at 2 rfl) ?_
    refine lv_iload hx hb dX13_goesParts_97 (hl.at 7 rfl) ?_
    refine lv_iconst (v := iI (0)) hx hb dX13_goesParts_99 rfl ?_
    obtain ⟨S100, h100, hsh⟩ := Option.bind_eq_some_iff.mp hsh
    have ok100 := ok13_reaches h100
    refine e_callV (nL := 8) (mc := 0) (ms := 0) (T := TX13) (N := 126) (As := [.int (iI (x5)), .int (iI (0))]) (rest := []) hx hb hml hown hts hp hS hl.size ok100.1 ok100.2.1 ok100.2.2 rfl (by decide) (c13_reaches l D cA B S90 S100 (x0) (x5) (0) h100) rfl rfl kd13_reaches (kl13_306) ks13_reaches kv13_reaches ki13 kh13_reaches ⟨Nat.le_of_ble_eq_true rfl, Nat.le_of_ble_eq_true rfl⟩ rfl (by simp [e_rv_cat, e_int_cat]) ⟨Nat.le_refl _, Nat.le_refl _⟩ dX13_goesParts_100 rfl (fun H locs hp hS => ?_)
    refine lv_goto (tgt := 167) hx hb dX13_goesParts_103 (by decide) ?_
    exact w13_goesParts_b167 (hk5 := hk5) E hp hS (hl.sub [2, 3, 4, 5, 6] rfl) hsh
set_option maxRecDepth 100000 in
set_option maxHeartbeats 4000000 in
theorem w13_goesParts_b60 {p : Program} {l : Launch} {e : Env} {s : State} {m : MethodId} {args : Array Value} {below : List Frame} {meth : Method} {c : Code} {D : va_G} {cA : Nat → ClassId} {B : Nat} {res : Int × HP} {k5 : HP → Int → Int → Int → Int → Int → Option (Int × HP)} (hk5 : ∀ {ls : Array Slot} {H : Heap} {locs : List Loc} {S : HP} {x0 : Int} {x1 : Int} {x2 : Int} {x3 : Int} {x4 : Int} (hp : e_Pic D cA B S s H) (hS : va_S (e_A B) s.heap H locs) (hl : e_lo ls 8 [(0, e_rv B (x0)), (1, .int (iI (x1))), (2, .int (iI (x2))), (3, .int (iI (x3))), (4, .int (iI (x4)))]) (hsh : k5 S x0 x1 x2 x3 x4 = some res), W p l e ({ frames := 2, cells := 0, slots := 0, locals := 42 } : Room) s m args below meth c H locs 0 0 (MQ below (e_Qi D cA B res.1 res.2) args s 0 0 (e_A B)) (F0 m 5 ls [])) {k23 : HP → Int → Int → Int → Int → Int → Int → Option (Int × HP)} (hk23 : ∀ {ls : Array Slot} {H : Heap} {locs : List Loc} {S : HP} {x0 : Int} {x1 : Int} {x2 : Int} {x3 : Int} {x4 : Int} {x5 : Int} (hp : e_Pic D cA B S s H) (hS : va_S (e_A B) s.heap H locs) (hl : e_lo ls 8 [(0, e_rv B (x0)), (1, .int (iI (x1))), (2, .int (iI (x2))), (3, .int (iI (x3))), (4, .int (iI (x4))), (5, .int (iI (x5)))]) (hsh : k23 S x0 x1 x2 x3 x4 x5 = some res), W p l e ({ frames := 2, cells := 0, slots := 0, locals := 42 } : Room) s m args below meth c H locs 0 0 (MQ below (e_Qi D cA B res.1 res.2) args s 0 0 (e_A B)) (F0 m 23 ls [])) (E : e_En p s m args meth c cX13_goesParts RX13 8 (some .boolean)) {ls : Array Slot} {H : Heap} {locs : List Loc} {S : HP} {x0 : Int} {x1 : Int} {x2 : Int} {x3 : Int} {x4 : Int} {x5 : Int} (hp : e_Pic D cA B S s H) (hS : va_S (e_A B) s.heap H locs) (hl : e_lo ls 8 [(0, e_rv B (x0)), (1, .int (iI (x1))), (2, .int (iI (x2))), (3, .int (iI (x3))), (4, .int (iI (x4))), (5, .int (iI (x5)))]) (hsh : s13_goesParts_b60 k5 k23 S x0 x1 x2 x3 x4 x5 = some res) : W p l e ({ frames := 2, cells := 0, slots := 0, locals := 42 } : Room) s m args below meth c H locs 0 0 (MQ below (e_Qi D cA B res.1 res.2) args s 0 0 (e_A B)) (F0 m 60 ls []) := by
  obtain ⟨hx, hb, hml, hown, hts, hlk, hrt⟩ := id E
  unfold s13_goesParts_b60 at hsh
  refine lv_iload hx hb dX13_goesParts_60 (hl.at 5 rfl) ?_
  refine lv_iload_n hx hb dX13_goesParts_62 rfl (hl.at 2 rfl) ?_
  refine e_iadd hx hb dX13_goesParts_63 ?_
  refine e_istore (lv' := [(5, .int (iI ((x5 + x2)))), (0, e_rv B (x0)), (1, .int (iI (x1))), (2, .int (iI (x2))), (3, .int (iI (x3))), (4, .int (iI (x4)))]) hx hb dX13_goesParts_64 hl (by decide) rfl (fun ls hl => ?_)
  refine lv_goto (tgt := 23) hx hb dX13_goesParts_66 (by decide) ?_
  exact hk23 hp hS (hl.sub [1, 2, 3, 4, 5, 0] rfl) hsh
set_option maxRecDepth 100000 in
set_option maxHeartbeats 4000000 in
theorem w13_goesParts_l23 {p : Program} {l : Launch} {e : Env} {s : State} {m : MethodId} {args : Array Value} {below : List Frame} {meth : Method} {c : Code} {D : va_G} {cA : Nat → ClassId} {B : Nat} {res : Int × HP} {k5 : HP → Int → Int → Int → Int → Int → Option (Int × HP)} (hk5 : ∀ {ls : Array Slot} {H : Heap} {locs : List Loc} {S : HP} {x0 : Int} {x1 : Int} {x2 : Int} {x3 : Int} {x4 : Int} (hp : e_Pic D cA B S s H) (hS : va_S (e_A B) s.heap H locs) (hl : e_lo ls 8 [(0, e_rv B (x0)), (1, .int (iI (x1))), (2, .int (iI (x2))), (3, .int (iI (x3))), (4, .int (iI (x4)))]) (hsh : k5 S x0 x1 x2 x3 x4 = some res), W p l e ({ frames := 2, cells := 0, slots := 0, locals := 42 } : Room) s m args below meth c H locs 0 0 (MQ below (e_Qi D cA B res.1 res.2) args s 0 0 (e_A B)) (F0 m 5 ls [])) (E : e_En p s m args meth c cX13_goesParts RX13 8 (some .boolean)) : ∀ (f : Nat) {ls : Array Slot} {H : Heap} {locs : List Loc} {S : HP} {x0 : Int} {x1 : Int} {x2 : Int} {x3 : Int} {x4 : Int} {x5 : Int} (hp : e_Pic D cA B S s H) (hS : va_S (e_A B) s.heap H locs) (hl : e_lo ls 8 [(0, e_rv B (x0)), (1, .int (iI (x1))), (2, .int (iI (x2))), (3, .int (iI (x3))), (4, .int (iI (x4))), (5, .int (iI (x5)))]) (hsh : s13_goesParts_l23 k5 f S x0 x1 x2 x3 x4 x5 = some res), W p l e ({ frames := 2, cells := 0, slots := 0, locals := 42 } : Room) s m args below meth c H locs 0 0 (MQ below (e_Qi D cA B res.1 res.2) args s 0 0 (e_A B)) (F0 m 23 ls []) := by
  obtain ⟨hx, hb, hml, hown, hts, hlk, hrt⟩ := id E
  intro f
  induction f with
  | zero => intro ls H locs S x0 x1 x2 x3 x4 x5 hp hS hl hsh; cases hsh
  | succ f ih =>
    intro ls H locs S x0 x1 x2 x3 x4 x5 hp hS hl hsh
    have hk23 : ∀ {ls : Array Slot} {H : Heap} {locs : List Loc} {S : HP} {x0 : Int} {x1 : Int} {x2 : Int} {x3 : Int} {x4 : Int} {x5 : Int} (hp : e_Pic D cA B S s H) (hS : va_S (e_A B) s.heap H locs) (hl : e_lo ls 8 [(0, e_rv B (x0)), (1, .int (iI (x1))), (2, .int (iI (x2))), (3, .int (iI (x3))), (4, .int (iI (x4))), (5, .int (iI (x5)))]) (hsh : (s13_goesParts_l23 k5 f) S x0 x1 x2 x3 x4 x5 = some res), W p l e ({ frames := 2, cells := 0, slots := 0, locals := 42 } : Room) s m args below meth c H locs 0 0 (MQ below (e_Qi D cA B res.1 res.2) args s 0 0 (e_A B)) (F0 m 23 ls []) := ih
    generalize hkk : s13_goesParts_l23 k5 f = k23 at hk23
    rw [s13_goesParts_l23] at hsh
    rw [hkk] at hsh
    try dsimp only at hsh
    refine lv_iload hx hb dX13_goesParts_23 (hl.at 5 rfl) ?_
    refine lv_iconst (v := iI (0)) hx hb dX13_goesParts_25 rfl ?_
    refine e_aload_n (B := B) (x := x0) hx hb dX13_goesParts_26 rfl (hl.at 0 rfl) ?_
    obtain ⟨v27, h27, hsh⟩ := Option.bind_eq_some_iff.mp hsh
    refine e_getI (k := 2) hx hb hts in_X13 hown hp h27 rfl (by decide) (by decide) rfl (hts _ kf13_13) rfl dX13_goesParts_27 ?_
    refine lv_iconst (v := iI (1)) hx hb dX13_goesParts_30 rfl ?_
    refine e_isub hx hb dX13_goesParts_31 ?_
    obtain ⟨⟨v32, S32⟩, h32, hsh⟩ := Option.bind_eq_some_iff.mp hsh
    have hsh : _ = _ := hsh
    try dsimp only at hsh
    refine e_callS (nL := 8) (mc := 0) (ms := 0) (As := [.int (iI (x5)), .int (iI (0)), .int (iI ((v27 - 1)))]) (rest := []) hx hb hml hown hts hp hS hl.size (c13_isIn l D cA B S S32 (x5) (0) ((v27 - 1)) v32 h32) rfl rfl kd13_isIn (kl13_198) ks13_isIn ki13 kh13_isIn ⟨Nat.le_of_ble_eq_true rfl, Nat.le_of_ble_eq_true rfl⟩ rfl (by simp [e_rv_cat, e_int_cat]) ⟨Nat.le_refl _, Nat.le_refl _⟩ dX13_goesParts_32 rfl (fun H locs hp hS => ?_)
    refine e_if_eq (tgt := 69) hx hb dX13_goesParts_35 (by decide) (fun c35 => ?_) (fun c35 => ?_)
    · rw [if_pos c35] at hsh
      exact w13_goesParts_b69 (hk5 := hk5) E hp hS (hl.sub [0, 1, 2, 3, 4, 5] rfl) hsh
    · rw [if_neg c35] at hsh
      refine e_aload_n (B := B) (x := x0) hx hb dX13_goesParts_38 rfl (hl.at 0 rfl) ?_
      obtain ⟨v39, h39, hsh⟩ := Option.bind_eq_some_iff.mp hsh
      refine e_getR (k := 3) hx hb hts in_X13 hown hp h39 rfl (by decide) (by decide) rfl (hts _ kf13_17) rfl dX13_goesParts_39 ?_
      refine lv_iload hx hb dX13_goesParts_42 (hl.at 5 rfl) ?_
      obtain ⟨v44, h44, hsh⟩ := Option.bind_eq_some_iff.mp hsh
      refine e_iald hx hb hp h44 dX13_goesParts_44 ?_
      refine e_if_gt (tgt := 60) hx hb dX13_goesParts_45 (by decide) (fun c45 => ?_) (fun c45 => ?_)
      · rw [if_pos c45] at hsh
        exact w13_goesParts_b60 (hk5 := hk5) (hk23 := hk23) E hp hS (hl.sub [0, 1, 2, 3, 4, 5] rfl) hsh
      · rw [if_neg c45] at hsh
        refine e_aload_n (B := B) (x := x0) hx hb dX13_goesParts_48 rfl (hl.at 0 rfl) ?_
        obtain ⟨v49, h49, hsh⟩ := Option.bind_eq_some_iff.mp hsh
        refine e_getR (k := 3) hx hb hts in_X13 hown hp h49 rfl (by decide) (by decide) rfl (hts _ kf13_17) rfl dX13_goesParts_49 ?_
        refine lv_iload hx hb dX13_goesParts_52 (hl.at 5 rfl) ?_
        refine lv_iload_n hx hb dX13_goesParts_54 rfl (hl.at 2 rfl) ?_
        refine e_isub hx hb dX13_goesParts_55 ?_
        obtain ⟨v56, h56, hsh⟩ := Option.bind_eq_some_iff.mp hsh
        refine e_iald hx hb hp h56 dX13_goesParts_56 ?_
        refine e_if_ne (tgt := 69) hx hb dX13_goesParts_57 (by decide) (fun c57 => ?_) (fun c57 => ?_)
        · rw [if_neg c57] at hsh
          exact w13_goesParts_b69 (hk5 := hk5) E hp hS (hl.sub [0, 1, 2, 3, 4, 5] rfl) hsh
        · rw [if_pos c57] at hsh
          exact w13_goesParts_b60 (hk5 := hk5) (hk23 := hk23) E hp hS (hl.sub [0, 1, 2, 3, 4, 5] rfl) hsh
set_option maxRecDepth 100000 in
set_option maxHeartbeats 4000000 in
theorem w13_goesParts_l5 {p : Program} {l : Launch} {e : Env} {s : State} {m : MethodId} {args : Array Value} {below : List Frame} {meth : Method} {c : Code} {D : va_G} {cA : Nat → ClassId} {B : Nat} {res : Int × HP} (E : e_En p s m args meth c cX13_goesParts RX13 8 (some .boolean)) : ∀ (f : Nat) {ls : Array Slot} {H : Heap} {locs : List Loc} {S : HP} {x0 : Int} {x1 : Int} {x2 : Int} {x3 : Int} {x4 : Int} (hp : e_Pic D cA B S s H) (hS : va_S (e_A B) s.heap H locs) (hl : e_lo ls 8 [(0, e_rv B (x0)), (1, .int (iI (x1))), (2, .int (iI (x2))), (3, .int (iI (x3))), (4, .int (iI (x4)))]) (hsh : s13_goesParts_l5 f S x0 x1 x2 x3 x4 = some res), W p l e ({ frames := 2, cells := 0, slots := 0, locals := 42 } : Room) s m args below meth c H locs 0 0 (MQ below (e_Qi D cA B res.1 res.2) args s 0 0 (e_A B)) (F0 m 5 ls []) := by
  obtain ⟨hx, hb, hml, hown, hts, hlk, hrt⟩ := id E
  intro f
  induction f with
  | zero => intro ls H locs S x0 x1 x2 x3 x4 hp hS hl hsh; cases hsh
  | succ f ih =>
    intro ls H locs S x0 x1 x2 x3 x4 hp hS hl hsh
    have hk5 : ∀ {ls : Array Slot} {H : Heap} {locs : List Loc} {S : HP} {x0 : Int} {x1 : Int} {x2 : Int} {x3 : Int} {x4 : Int} (hp : e_Pic D cA B S s H) (hS : va_S (e_A B) s.heap H locs) (hl : e_lo ls 8 [(0, e_rv B (x0)), (1, .int (iI (x1))), (2, .int (iI (x2))), (3, .int (iI (x3))), (4, .int (iI (x4)))]) (hsh : (s13_goesParts_l5 f) S x0 x1 x2 x3 x4 = some res), W p l e ({ frames := 2, cells := 0, slots := 0, locals := 42 } : Room) s m args below meth c H locs 0 0 (MQ below (e_Qi D cA B res.1 res.2) args s 0 0 (e_A B)) (F0 m 5 ls []) := ih
    generalize hkk : s13_goesParts_l5 f = k5 at hk5
    rw [s13_goesParts_l5] at hsh
    rw [hkk] at hsh
    try dsimp only at hsh
    refine lv_iload_n hx hb dX13_goesParts_5 rfl (hl.at 3 rfl) ?_
    refine lv_iload_n hx hb dX13_goesParts_6 rfl (hl.at 1 rfl) ?_
    refine e_icmp_ge (tgt := 183) hx hb dX13_goesParts_7 (by decide) (fun c7 => ?_) (fun c7 => ?_)
    · rw [if_pos c7] at hsh
      exact w13_goesParts_b183 E hp hS (hl.sub [3] rfl) hsh
    · rw [if_neg c7] at hsh
      refine lv_iload hx hb dX13_goesParts_10 (hl.at 4 rfl) ?_
      refine e_if_eq (tgt := 183) hx hb dX13_goesParts_12 (by decide) (fun c12 => ?_) (fun c12 => ?_)
      · rw [if_pos c12] at hsh
        exact w13_goesParts_b183 E hp hS (hl.sub [3] rfl) hsh
      · rw [if_neg c12] at hsh
        refine e_aload_n (B := B) (x := x0) hx hb dX13_goesParts_15 rfl (hl.at 0 rfl) ?_
        obtain ⟨v16, h16, hsh⟩ := Option.bind_eq_some_iff.mp hsh
        refine e_getI (k := 46) hx hb hts in_X13 hown hp h16 rfl (by decide) (by decide) rfl (hts _ kf13_296) rfl dX13_goesParts_16 ?_
        refine lv_iload_n hx hb dX13_goesParts_19 rfl (hl.at 2 rfl) ?_
        refine e_iadd hx hb dX13_goesParts_20 ?_
        refine e_istore (lv' := [(5, .int (iI ((v16 + x2)))), (0, e_rv B (x0)), (1, .int (iI (x1))), (2, .int (iI (x2))), (3, .int (iI (x3))), (4, .int (iI (x4)))]) hx hb dX13_goesParts_21 hl (by decide) rfl (fun ls hl => ?_)
        exact w13_goesParts_l23 (hk5 := hk5) E 1000000 hp hS (hl.sub [1, 2, 3, 4, 5, 0] rfl) hsh
set_option maxRecDepth 100000 in
set_option maxHeartbeats 4000000 in
theorem c13_goesParts (l : Launch) (D : va_G) (cA : Nat → ClassId) (B : Nat) (S S' : HP) (x0 : Int) (x1 : Int) (x2 : Int) (r : Int) (hsh : s13_goesParts S x0 x1 x2 = some (r, S')) : Met l yX13_goesParts (e_wu yX13_goesParts cX13_goesParts 8 (some .boolean)) ({ frames := 2, cells := 0, slots := 0, locals := 42 } : Room) (va_Pc [e_rv B (x0), .int (iI (x1)), .int (iI (x2))] (fun U => e_PU D cA B S U)) (e_Qi D cA B r S') 0 0 (e_A B) := by
  refine Met.ofW (cc := cX13_goesParts) (maxL := 8) (ret := (some .boolean)) (by decide +kernel) rfl ?_
  intro p e s m args below meth c s₁ Bd hml hv
  obtain ⟨rfl, hp⟩ := hv
  have hp : e_Pic D cA B S s s.heap := hp
  have hx := Bd.exec
  have hb := Bd.bytes
  have hrt := Bd.returns
  have hlk := Bd.notSynchronized
  have hown : s.vm.findClass RX13 = some m.cls := findClass_of_methodNamed Bd.named
  have hts : ∀ w ∈ e_tb, w.before ([e_rv B (x0), .int (iI (x1)), .int (iI (x2))] : List Value).toArray s = true := fun w h => atoms_spec (ws := (e_wu yX13_goesParts cX13_goesParts 8 (some .boolean))) Bd.pre w (List.mem_cons_of_mem _ h)
  have E : e_En p s m ([e_rv B (x0), .int (iI (x1)), .int (iI (x2))] : List Value).toArray meth c cX13_goesParts RX13 8 (some .boolean) := ⟨hx, hb, hml, hown, hts, hlk, hrt⟩
  have hS : va_S (e_A B) s.heap s.heap [] := va_S.rf
  have hl := e_entry (vs := [e_rv B (x0), .int (iI (x1)), .int (iI (x2))]) (n := 8) (Nat.le_of_ble_eq_true rfl) (e_cc (e_rv_cat _ _) (e_cc rfl (e_cc rfl e_cn)))
  rw [lg_entry_eq]
  generalize (lg_sl [e_rv B (x0), .int (iI (x1)), .int (iI (x2))] ++ List.replicate (8 - (lg_sl [e_rv B (x0), .int (iI (x1)), .int (iI (x2))]).length) Slot.unset).toArray = ls at hl ⊢
  generalize ([e_rv B (x0), .int (iI (x1)), .int (iI (x2))] : List Value).toArray = args at hts E ⊢
  have hl : e_lo ls 8 [(0, e_rv B (x0)), (1, .int (iI (x1))), (2, .int (iI (x2)))] := hl
  have hsh := (gd_some hsh).2
  refine lv_iconst (v := iI (0)) hx hb dX13_goesParts_0 rfl ?_
  refine e_istore_n (lv' := [(3, .int (iI (0))), (0, e_rv B (x0)), (1, .int (iI (x1))), (2, .int (iI (x2)))]) hx hb dX13_goesParts_1 rfl hl (by decide) rfl (fun ls hl => ?_)
  refine lv_iconst (v := iI (1)) hx hb dX13_goesParts_2 rfl ?_
  refine e_istore (lv' := [(4, .int (iI (1))), (3, .int (iI (0))), (0, e_rv B (x0)), (1, .int (iI (x1))), (2, .int (iI (x2)))]) hx hb dX13_goesParts_3 hl (by decide) rfl (fun ls hl => ?_)
  exact w13_goesParts_l5 E 1000000 hp hS (hl.sub [2, 3, 4, 1, 0] rfl) hsh
theorem ok13_goesSign {S : HP} {x0 : Int} {x1 : Int} {x2 : Int} {x3 : Int} {r : Int × HP} (h : s13_goesSign S x0 x1 x2 x3 = some r) : 0 ≤ x0 ∧ x0.toNat < e_n S ∧ e_g S x0.toNat = 13 := (gd_some h).1
set_option maxRecDepth 100000 in
set_option maxHeartbeats 4000000 in
theorem w13_goesSign_b118 {p : Program} {l : Launch} {e : Env} {s : State} {m : MethodId} {args : Array Value} {below : List Frame} {meth : Method} {c : Code} {D : va_G} {cA : Nat → ClassId} {B : Nat} {res : Int × HP} (E : e_En p s m args meth c cX13_goesSign RX13 7 (some .boolean)) {ls : Array Slot} {H : Heap} {locs : List Loc} {S : HP} {y0 : Int} {y1 : Int} (hp : e_Pic D cA B S s H) (hS : va_S (e_A B) s.heap H locs) (hl : e_lo ls 7 []) (hsh : s13_goesSign_b118 S y0 y1 = some res) : W p l e ({ frames := 1, cells := 0, slots := 0, locals := 22 } : Room) s m args below meth c H locs 0 0 (MQ below (e_Qi D cA B res.1 res.2) args s 0 0 (e_A B)) (F0 m 118 ls [.int (iI (y1)), e_rv B (y0)]) := by
  obtain ⟨hx, hb, hml, hown, hts, hlk, hrt⟩ := id E
  unfold s13_goesSign_b118 at hsh
  obtain ⟨S118, h118, hsh⟩ := Option.bind_eq_some_iff.mp hsh
  refine e_putI (k := 47) hx hb hts in_X13 tyX13 tyX13_ok nmX13 hown hp hS h118 rfl (by decide) (by decide) rfl (hts _ kf13_299) rfl rfl (by decide +kernel) dX13_goesSign_118 (fun H locs hp hS => ?_)
  refine lv_iconst (v := iI (1)) hx hb dX13_goesSign_121 rfl ?_
  obtain ⟨hz, hz1, hz2⟩ := zR_some hsh
  rw [← hz1, ← hz2]
  exact e_zret hx hb hrt hlk hp hS hz dX13_goesSign_122
set_option maxRecDepth 100000 in
set_option maxHeartbeats 4000000 in
theorem w13_goesSign_b83 {p : Program} {l : Launch} {e : Env} {s : State} {m : MethodId} {args : Array Value} {below : List Frame} {meth : Method} {c : Code} {D : va_G} {cA : Nat → ClassId} {B : Nat} {res : Int × HP} {k28 : HP → Int → Int → Int → Int → Int → Int → Option (Int × HP)} (hk28 : ∀ {ls : Array Slot} {H : Heap} {locs : List Loc} {S : HP} {x0 : Int} {x1 : Int} {x2 : Int} {x4 : Int} {x5 : Int} {x6 : Int} (hp : e_Pic D cA B S s H) (hS : va_S (e_A B) s.heap H locs) (hl : e_lo ls 7 [(0, e_rv B (x0)), (1, .int (iI (x1))), (2, .int (iI (x2))), (4, .int (iI (x4))), (5, .int (iI (x5))), (6, .int (iI (x6)))]) (hsh : k28 S x0 x1 x2 x4 x5 x6 = some res), W p l e ({ frames := 1, cells := 0, slots := 0, locals := 22 } : Room) s m args below meth c H locs 0 0 (MQ below (e_Qi D cA B res.1 res.2) args s 0 0 (e_A B)) (F0 m 28 ls [])) (E : e_En p s m args meth c cX13_goesSign RX13 7 (some .boolean)) {ls : Array Slot} {H : Heap} {locs : List Loc} {S : HP} {x0 : Int} {x1 : Int} {x2 : Int} {x4 : Int} {x6 : Int} {y0 : Int} {y1 : Int} (hp : e_Pic D cA B S s H) (hS : va_S (e_A B) s.heap H locs) (hl : e_lo ls 7 [(0, e_rv B (x0)), (1, .int (iI (x1))), (2, .int (iI (x2))), (4, .int (iI (x4))), (6, .int (iI (x6)))]) (hsh : s13_goesSign_b83 k28 S x0 x1 x2 x4 x6 y0 y1 = some res) : W p l e ({ frames := 1, cells := 0, slots := 0, locals := 22 } : Room) s m args below meth c H locs 0 0 (MQ below (e_Qi D cA B res.1 res.2) args s 0 0 (e_A B)) (F0 m 83 ls [.int (iI (y1)), .int (iI (y0))]) := by
  obtain ⟨hx, hb, hml, hown, hts, hlk, hrt⟩ := id E
  unfold s13_goesSign_b83 at hsh
  refine e_isub hx hb dX13_goesSign_83 ?_
  refine e_istore (lv' := [(5, .int (iI ((y0 - y1)))), (0, e_rv B (x0)), (1, .int (iI (x1))), (2, .int (iI (x2))), (4, .int (iI (x4))), (6, .int (iI (x6)))]) hx hb dX13_goesSign_84 hl (by decide) rfl (fun ls hl => ?_)
  refine lv_goto (tgt := 28) hx hb dX13_goesSign_86 (by decide) ?_
  exact hk28 hp hS (hl.sub [1, 2, 3, 4, 0, 5] rfl) hsh
set_option maxRecDepth 100000 in
set_option maxHeartbeats 4000000 in
theorem w13_goesSign_l28 {p : Program} {l : Launch} {e : Env} {s : State} {m : MethodId} {args : Array Value} {below : List Frame} {meth : Method} {c : Code} {D : va_G} {cA : Nat → ClassId} {B : Nat} {res : Int × HP} (E : e_En p s m args meth c cX13_goesSign RX13 7 (some .boolean)) : ∀ (f : Nat) {ls : Array Slot} {H : Heap} {locs : List Loc} {S : HP} {x0 : Int} {x1 : Int} {x2 : Int} {x4 : Int} {x5 : Int} {x6 : Int} (hp : e_Pic D cA B S s H) (hS : va_S (e_A B) s.heap H locs) (hl : e_lo ls 7 [(0, e_rv B (x0)), (1, .int (iI (x1))), (2, .int (iI (x2))), (4, .int (iI (x4))), (5, .int (iI (x5))), (6, .int (iI (x6)))]) (hsh : s13_goesSign_l28 f S x0 x1 x2 x4 x5 x6 = some res), W p l e ({ frames := 1, cells := 0, slots := 0, locals := 22 } : Room) s m args below meth c H locs 0 0 (MQ below (e_Qi D cA B res.1 res.2) args s 0 0 (e_A B)) (F0 m 28 ls []) := by
  obtain ⟨hx, hb, hml, hown, hts, hlk, hrt⟩ := id E
  intro f
  induction f with
  | zero => intro ls H locs S x0 x1 x2 x4 x5 x6 hp hS hl hsh; cases hsh
  | succ f ih =>
    intro ls H locs S x0 x1 x2 x4 x5 x6 hp hS hl hsh
    have hk28 : ∀ {ls : Array Slot} {H : Heap} {locs : List Loc} {S : HP} {x0 : Int} {x1 : Int} {x2 : Int} {x4 : Int} {x5 : Int} {x6 : Int} (hp : e_Pic D cA B S s H) (hS : va_S (e_A B) s.heap H locs) (hl : e_lo ls 7 [(0, e_rv B (x0)), (1, .int (iI (x1))), (2, .int (iI (x2))), (4, .int (iI (x4))), (5, .int (iI (x5))), (6, .int (iI (x6)))]) (hsh : (s13_goesSign_l28 f) S x0 x1 x2 x4 x5 x6 = some res), W p l e ({ frames := 1, cells := 0, slots := 0, locals := 22 } : Room) s m args below meth c H locs 0 0 (MQ below (e_Qi D cA B res.1 res.2) args s 0 0 (e_A B)) (F0 m 28 ls []) := ih
    generalize hkk : s13_goesSign_l28 f = k28 at hk28
    rw [s13_goesSign_l28] at hsh
    rw [hkk] at hsh
    try dsimp only at hsh
    refine lv_iload hx hb dX13_goesSign_28 (hl.at 4 rfl) ?_
    refine e_if_le (tgt := 89) hx hb dX13_goesSign_30 (by decide) (fun c30 => ?_) (fun c30 => ?_)
    · rw [if_pos c30] at hsh
      refine e_aload_n (B := B) (x := x0) hx hb dX13_goesSign_89 rfl (hl.at 0 rfl) ?_
      refine lv_iload_n hx hb dX13_goesSign_90 rfl (hl.at 1 rfl) ?_
      refine lv_bipush (v := iI (116)) hx hb dX13_goesSign_91 (by decide +kernel) ?_
      refine e_icmp_ne (tgt := 103) hx hb dX13_goesSign_93 (by decide) (fun c93 => ?_) (fun c93 => ?_)
      · rw [if_neg c93] at hsh
        refine lv_iload_n hx hb dX13_goesSign_103 rfl (hl.at 1 rfl) ?_
        refine lv_bipush (v := iI (84)) hx hb dX13_goesSign_104 (by decide +kernel) ?_
        refine e_icmp_ne (tgt := 116) hx hb dX13_goesSign_106 (by decide) (fun c106 => ?_) (fun c106 => ?_)
        · rw [if_neg c106] at hsh
          refine lv_iload hx hb dX13_goesSign_116 (hl.at 5 rfl) ?_
          exact w13_goesSign_b118 E hp hS (hl.sub [] rfl) hsh
        · rw [if_pos c106] at hsh
          refine lv_iload hx hb dX13_goesSign_109 (hl.at 5 rfl) ?_
          refine lv_iconst (v := iI (1)) hx hb dX13_goesSign_111 rfl ?_
          refine e_iadd hx hb dX13_goesSign_112 ?_
          refine lv_goto (tgt := 118) hx hb dX13_goesSign_113 (by decide) ?_
          exact w13_goesSign_b118 E hp hS (hl.sub [] rfl) hsh
      · rw [if_pos c93] at hsh
        refine lv_iload hx hb dX13_goesSign_96 (hl.at 5 rfl) ?_
        refine lv_iconst (v := iI (1)) hx hb dX13_goesSign_98 rfl ?_
        refine e_isub hx hb dX13_goesSign_99 ?_
        refine lv_goto (tgt := 118) hx hb dX13_goesSign_100 (by decide) ?_
        exact w13_goesSign_b118 E hp hS (hl.sub [] rfl) hsh
    · rw [if_neg c30] at hsh
      refine lv_iload hx hb dX13_goesSign_33 (hl.at 5 rfl) ?_
      refine lv_iload hx hb dX13_goesSign_35 (hl.at 3 rfl) ?_
      refine e_iadd hx hb dX13_goesSign_37 ?_
      refine e_istore (lv' := [(6, .int (iI ((x6 + x4)))), (0, e_rv B (x0)), (1, .int (iI (x1))), (2, .int (iI (x2))), (4, .int (iI (x4))), (5, .int (iI (x5)))]) hx hb dX13_goesSign_38 hl (by decide) rfl (fun ls hl => ?_)
      refine lv_iload hx hb dX13_goesSign_40 (hl.at 0 rfl) ?_
      refine lv_iconst (v := iI (0)) hx hb dX13_goesSign_42 rfl ?_
      refine e_aload_n (B := B) (x := x0) hx hb dX13_goesSign_43 rfl (hl.at 1 rfl) ?_
      obtain ⟨v44, h44, hsh⟩ := Option.bind_eq_some_iff.mp hsh
      refine e_getR (k := 3) hx hb hts in_X13 hown hp h44 rfl (by decide) (by decide) rfl (hts _ kf13_17) rfl dX13_goesSign_44 ?_
      refine e_aload_n (B := B) (x := x0) hx hb dX13_goesSign_47 rfl (hl.at 1 rfl) ?_
      obtain ⟨v48, h48, hsh⟩ := Option.bind_eq_some_iff.mp hsh
      refine e_getI (k := 46) hx hb hts in_X13 hown hp h48 rfl (by decide) (by decide) rfl (hts _ kf13_296) rfl dX13_goesSign_48 ?_
      obtain ⟨v51, h51, hsh⟩ := Option.bind_eq_some_iff.mp hsh
      refine e_iald hx hb hp h51 dX13_goesSign_51 ?_
      refine lv_iconst (v := iI (1)) hx hb dX13_goesSign_52 rfl ?_
      refine e_isub hx hb dX13_goesSign_53 ?_
      obtain ⟨⟨v54, S54⟩, h54, hsh⟩ := Option.bind_eq_some_iff.mp hsh
      have hsh : _ = _ := hsh
      try dsimp only at hsh
      refine e_callS (nL := 7) (mc := 0) (ms := 0) (As := [.int (iI ((x6 + x4))), .int (iI (0)), .int (iI ((v51 - 1)))]) (rest := []) hx hb hml hown hts hp hS hl.size (c13_isIn l D cA B S S54 ((x6 + x4)) (0) ((v51 - 1)) v54 h54) rfl rfl kd13_isIn (kl13_198) ks13_isIn ki13 kh13_isIn ⟨Nat.le_of_ble_eq_true rfl, Nat.le_of_ble_eq_true rfl⟩ rfl (by simp [e_rv_cat, e_int_cat]) ⟨Nat.le_refl _, Nat.le_refl _⟩ dX13_goesSign_54 rfl (fun H locs hp hS => ?_)
      refine e_if_ne (tgt := 62) hx hb dX13_goesSign_57 (by decide) (fun c57 => ?_) (fun c57 => ?_)
      · rw [if_neg c57] at hsh
        refine lv_iload hx hb dX13_goesSign_62 (hl.at 5 rfl) ?_
        refine e_aload_n (B := B) (x := x0) hx hb dX13_goesSign_64 rfl (hl.at 1 rfl) ?_
        refine e_aload_n (B := B) (x := x0) hx hb dX13_goesSign_65 rfl (hl.at 1 rfl) ?_
        obtain ⟨v66, h66, hsh⟩ := Option.bind_eq_some_iff.mp hsh
        refine e_getI (k := 46) hx hb hts in_X13 hown hp h66 rfl (by decide) (by decide) rfl (hts _ kf13_296) rfl dX13_goesSign_66 ?_
        refine lv_iload hx hb dX13_goesSign_69 (hl.at 0 rfl) ?_
        obtain ⟨⟨v71, S71⟩, h71, hsh⟩ := Option.bind_eq_some_iff.mp hsh
        have hsh : _ = _ := hsh
        try dsimp only at hsh
        have ok71 := ok13_at h71
        refine e_callI (nL := 7) (mc := 0) (ms := 0) (T := TX13) (N := 126) (As := [.int (iI (v66)), .int (iI ((x6 + x4)))]) (rest := [.int (iI (x5))]) hx hb hml hown hts hp hS hl.size ok71.1 ok71.2.1 ok71.2.2 rfl (by decide) (c13_at l D cA B S54 S71 (x0) (v66) ((x6 + x4)) v71 h71) rfl rfl kd13_at (kl13_206) ks13_at kv13_at ki13 kh13_at ⟨Nat.le_of_ble_eq_true rfl, Nat.le_of_ble_eq_true rfl⟩ rfl (by simp [e_rv_cat, e_int_cat]) ⟨Nat.le_refl _, Nat.le_refl _⟩ dX13_goesSign_71 rfl (fun H locs hp hS => ?_)
        refine lv_iload_n hx hb dX13_goesSign_74 rfl (hl.at 3 rfl) ?_
        refine e_icmp_ne (tgt := 82) hx hb dX13_goesSign_75 (by decide) (fun c75 => ?_) (fun c75 => ?_)
        · rw [if_neg c75] at hsh
          refine lv_iconst (v := iI (0)) hx hb dX13_goesSign_82 rfl ?_
          exact w13_goesSign_b83 (hk28 := hk28) E hp hS (hl.sub [1, 2, 3, 4, 0] rfl) hsh
        · rw [if_pos c75] at hsh
          refine lv_iconst (v := iI (1)) hx hb dX13_goesSign_78 rfl ?_
          refine lv_goto (tgt := 83) hx hb dX13_goesSign_79 (by decide) ?_
          exact w13_goesSign_b83 (hk28 := hk28) E hp hS (hl.sub [1, 2, 3, 4, 0] rfl) hsh
      · rw [if_pos c57] at hsh
        refine lv_iconst (v := iI (0)) hx hb dX13_goesSign_60 rfl ?_
        obtain ⟨hz, hz1, hz2⟩ := zR_some hsh
        rw [← hz1, ← hz2]
        exact e_zret hx hb hrt hlk hp hS hz dX13_goesSign_61
set_option maxRecDepth 100000 in
set_option maxHeartbeats 4000000 in
theorem w13_goesSign_b17 {p : Program} {l : Launch} {e : Env} {s : State} {m : MethodId} {args : Array Value} {below : List Frame} {meth : Method} {c : Code} {D : va_G} {cA : Nat → ClassId} {B : Nat} {res : Int × HP} (E : e_En p s m args meth c cX13_goesSign RX13 7 (some .boolean)) {ls : Array Slot} {H : Heap} {locs : List Loc} {S : HP} {x0 : Int} {x1 : Int} {x2 : Int} {x3 : Int} {y0 : Int} (hp : e_Pic D cA B S s H) (hS : va_S (e_A B) s.heap H locs) (hl : e_lo ls 7 [(0, e_rv B (x0)), (1, .int (iI (x1))), (2, .int (iI (x2))), (3, .int (iI (x3)))]) (hsh : s13_goesSign_b17 S x0 x1 x2 x3 y0 = some res) : W p l e ({ frames := 1, cells := 0, slots := 0, locals := 22 } : Room) s m args below meth c H locs 0 0 (MQ below (e_Qi D cA B res.1 res.2) args s 0 0 (e_A B)) (F0 m 17 ls [.int (iI (y0))]) := by
  obtain ⟨hx, hb, hml, hown, hts, hlk, hrt⟩ := id E
  unfold s13_goesSign_b17 at hsh
  refine e_istore (lv' := [(4, .int (iI (y0))), (0, e_rv B (x0)), (1, .int (iI (x1))), (2, .int (iI (x2))), (3, .int (iI (x3)))]) hx hb dX13_goesSign_17 hl (by decide) rfl (fun ls hl => ?_)
  refine lv_iload_n hx hb dX13_goesSign_19 rfl (hl.at 4 rfl) ?_
  refine e_istore (lv' := [(5, .int (iI (x3))), (4, .int (iI (y0))), (0, e_rv B (x0)), (1, .int (iI (x1))), (2, .int (iI (x2))), (3, .int (iI (x3)))]) hx hb dX13_goesSign_20 hl (by decide) rfl (fun ls hl => ?_)
  refine e_aload_n (B := B) (x := x0) hx hb dX13_goesSign_22 rfl (hl.at 2 rfl) ?_
  obtain ⟨v23, h23, hsh⟩ := Option.bind_eq_some_iff.mp hsh
  refine e_getI (k := 47) hx hb hts in_X13 hown hp h23 rfl (by decide) (by decide) rfl (hts _ kf13_299) rfl dX13_goesSign_23 ?_
  refine e_istore (lv' := [(6, .int (iI (v23))), (5, .int (iI (x3))), (4, .int (iI (y0))), (0, e_rv B (x0)), (1, .int (iI (x1))), (2, .int (iI (x2))), (3, .int (iI (x3)))]) hx hb dX13_goesSign_26 hl (by decide) rfl (fun ls hl => ?_)
  exact w13_goesSign_l28 E 1000000 hp hS (hl.sub [3, 4, 5, 2, 1, 0] rfl) hsh
set_option maxRecDepth 100000 in
set_option maxHeartbeats 4000000 in
theorem w13_goesSign_b12 {p : Program} {l : Launch} {e : Env} {s : State} {m : MethodId} {args : Array Value} {below : List Frame} {meth : Method} {c : Code} {D : va_G} {cA : Nat → ClassId} {B : Nat} {res : Int × HP} (E : e_En p s m args meth c cX13_goesSign RX13 7 (some .boolean)) {ls : Array Slot} {H : Heap} {locs : List Loc} {S : HP} {x0 : Int} {x1 : Int} {x2 : Int} {x3 : Int} (hp : e_Pic D cA B S s H) (hS : va_S (e_A B) s.heap H locs) (hl : e_lo ls 7 [(0, e_rv B (x0)), (1, .int (iI (x1))), (2, .int (iI (x2))), (3, .int (iI (x3)))]) (hsh : s13_goesSign_b12 S x0 x1 x2 x3 = some res) : W p l e ({ frames := 1, cells := 0, slots := 0, locals := 22 } : Room) s m args below meth c H locs 0 0 (MQ below (e_Qi D cA B res.1 res.2) args s 0 0 (e_A B)) (F0 m 12 ls []) := by
  obtain ⟨hx, hb, hml, hown, hts, hlk, hrt⟩ := id E
  unfold s13_goesSign_b12 at hsh
  refine lv_iconst (v := iI (1)) hx hb dX13_goesSign_12 rfl ?_
  refine lv_goto (tgt := 17) hx hb dX13_goesSign_13 (by decide) ?_
  exact w13_goesSign_b17 E hp hS (hl.sub [0, 1, 2, 3] rfl) hsh
set_option maxRecDepth 100000 in
set_option maxHeartbeats 4000000 in
theorem c13_goesSign (l : Launch) (D : va_G) (cA : Nat → ClassId) (B : Nat) (S S' : HP) (x0 : Int) (x1 : Int) (x2 : Int) (x3 : Int) (r : Int) (hsh : s13_goesSign S x0 x1 x2 x3 = some (r, S')) : Met l yX13_goesSign (e_wu yX13_goesSign cX13_goesSign 7 (some .boolean)) ({ frames := 1, cells := 0, slots := 0, locals := 22 } : Room) (va_Pc [e_rv B (x0), .int (iI (x1)), .int (iI (x2)), .int (iI (x3))] (fun U => e_PU D cA B S U)) (e_Qi D cA B r S') 0 0 (e_A B) := by
  refine Met.ofW (cc := cX13_goesSign) (maxL := 7) (ret := (some .boolean)) (by decide +kernel) rfl ?_
  intro p e s m args below meth c s₁ Bd hml hv
  obtain ⟨rfl, hp⟩ := hv
  have hp : e_Pic D cA B S s s.heap := hp
  have hx := Bd.exec
  have hb := Bd.bytes
  have hrt := Bd.returns
  have hlk := Bd.notSynchronized
  have hown : s.vm.findClass RX13 = some m.cls := findClass_of_methodNamed Bd.named
  have hts : ∀ w ∈ e_tb, w.before ([e_rv B (x0), .int (iI (x1)), .int (iI (x2)), .int (iI (x3))] : List Value).toArray s = true := fun w h => atoms_spec (ws := (e_wu yX13_goesSign cX13_goesSign 7 (some .boolean))) Bd.pre w (List.mem_cons_of_mem _ h)
  have E : e_En p s m ([e_rv B (x0), .int (iI (x1)), .int (iI (x2)), .int (iI (x3))] : List Value).toArray meth c cX13_goesSign RX13 7 (some .boolean) := ⟨hx, hb, hml, hown, hts, hlk, hrt⟩
  have hS : va_S (e_A B) s.heap s.heap [] := va_S.rf
  have hl := e_entry (vs := [e_rv B (x0), .int (iI (x1)), .int (iI (x2)), .int (iI (x3))]) (n := 7) (Nat.le_of_ble_eq_true rfl) (e_cc (e_rv_cat _ _) (e_cc rfl (e_cc rfl (e_cc rfl e_cn))))
  rw [lg_entry_eq]
  generalize (lg_sl [e_rv B (x0), .int (iI (x1)), .int (iI (x2)), .int (iI (x3))] ++ List.replicate (7 - (lg_sl [e_rv B (x0), .int (iI (x1)), .int (iI (x2)), .int (iI (x3))]).length) Slot.unset).toArray = ls at hl ⊢
  generalize ([e_rv B (x0), .int (iI (x1)), .int (iI (x2)), .int (iI (x3))] : List Value).toArray = args at hts E ⊢
  have hl : e_lo ls 7 [(0, e_rv B (x0)), (1, .int (iI (x1))), (2, .int (iI (x2))), (3, .int (iI (x3)))] := hl
  have hsh := (gd_some hsh).2
  refine lv_iload_n hx hb dX13_goesSign_0 rfl (hl.at 1 rfl) ?_
  refine lv_bipush (v := iI (102)) hx hb dX13_goesSign_1 (by decide +kernel) ?_
  refine e_icmp_eq (tgt := 12) hx hb dX13_goesSign_3 (by decide) (fun c3 => ?_) (fun c3 => ?_)
  · rw [if_pos c3] at hsh
    exact w13_goesSign_b12 E hp hS (hl.sub [0, 1, 2, 3] rfl) hsh
  · rw [if_neg c3] at hsh
    refine lv_iload_n hx hb dX13_goesSign_6 rfl (hl.at 1 rfl) ?_
    refine lv_bipush (v := iI (116)) hx hb dX13_goesSign_7 (by decide +kernel) ?_
    refine e_icmp_ne (tgt := 16) hx hb dX13_goesSign_9 (by decide) (fun c9 => ?_) (fun c9 => ?_)
    · rw [if_neg c9] at hsh
      refine lv_iconst (v := iI (-1)) hx hb dX13_goesSign_16 rfl ?_
      exact w13_goesSign_b17 E hp hS (hl.sub [0, 1, 2, 3] rfl) hsh
    · rw [if_pos c9] at hsh
      exact w13_goesSign_b12 E hp hS (hl.sub [0, 1, 2, 3] rfl) hsh
set_option maxRecDepth 100000 in
set_option maxHeartbeats 4000000 in
theorem w13_turned_b35 {p : Program} {l : Launch} {e : Env} {s : State} {m : MethodId} {args : Array Value} {below : List Frame} {meth : Method} {c : Code} {D : va_G} {cA : Nat → ClassId} {B : Nat} {res : Int × HP} (E : e_En p s m args meth c cX13_turned RX13 1 (some .int)) {ls : Array Slot} {H : Heap} {locs : List Loc} {S : HP} {y0 : Int} (hp : e_Pic D cA B S s H) (hS : va_S (e_A B) s.heap H locs) (hl : e_lo ls 1 []) (hsh : s13_turned_b35 S y0 = some res) : W p l e ({ frames := 0, cells := 0, slots := 0, locals := 0 } : Room) s m args below meth c H locs 0 0 (MQ below (e_Qi D cA B res.1 res.2) args s 0 0 (e_A B)) (F0 m 35 ls [.int (iI (y0))]) := by
  obtain ⟨hx, hb, hml, hown, hts, hlk, hrt⟩ := id E
  unfold s13_turned_b35 at hsh
  cases hsh
  exact e_iret hx hb hrt hlk hp hS dX13_turned_35
set_option maxRecDepth 100000 in
set_option maxHeartbeats 4000000 in
theorem c13_turned (l : Launch) (D : va_G) (cA : Nat → ClassId) (B : Nat) (S S' : HP) (x0 : Int) (r : Int) (hsh : s13_turned S x0 = some (r, S')) : Met l yX13_turned (e_wu yX13_turned cX13_turned 1 (some .int)) ({ frames := 0, cells := 0, slots := 0, locals := 0 } : Room) (va_Pc [.int (iI (x0))] (fun U => e_PU D cA B S U)) (e_Qi D cA B r S') 0 0 (e_A B) := by
  refine Met.ofW (cc := cX13_turned) (maxL := 1) (ret := (some .int)) (by decide +kernel) rfl ?_
  intro p e s m args below meth c s₁ Bd hml hv
  obtain ⟨rfl, hp⟩ := hv
  have hp : e_Pic D cA B S s s.heap := hp
  have hx := Bd.exec
  have hb := Bd.bytes
  have hrt := Bd.returns
  have hlk := Bd.notSynchronized
  have hown : s.vm.findClass RX13 = some m.cls := findClass_of_methodNamed Bd.named
  have hts : ∀ w ∈ e_tb, w.before ([.int (iI (x0))] : List Value).toArray s = true := fun w h => atoms_spec (ws := (e_wu yX13_turned cX13_turned 1 (some .int))) Bd.pre w (List.mem_cons_of_mem _ h)
  have E : e_En p s m ([.int (iI (x0))] : List Value).toArray meth c cX13_turned RX13 1 (some .int) := ⟨hx, hb, hml, hown, hts, hlk, hrt⟩
  have hS : va_S (e_A B) s.heap s.heap [] := va_S.rf
  have hl := e_entry (vs := [.int (iI (x0))]) (n := 1) (Nat.le_of_ble_eq_true rfl) (e_cc rfl e_cn)
  rw [lg_entry_eq]
  generalize (lg_sl [.int (iI (x0))] ++ List.replicate (1 - (lg_sl [.int (iI (x0))]).length) Slot.unset).toArray = ls at hl ⊢
  generalize ([.int (iI (x0))] : List Value).toArray = args at hts E ⊢
  have hl : e_lo ls 1 [(0, .int (iI (x0)))] := hl
  unfold s13_turned at hsh
  refine lv_iload_n hx hb dX13_turned_0 rfl (hl.at 0 rfl) ?_
  refine lv_bipush (v := iI (102)) hx hb dX13_turned_1 (by decide +kernel) ?_
  refine e_icmp_ne (tgt := 11) hx hb dX13_turned_3 (by decide) (fun c3 => ?_) (fun c3 => ?_)
  · rw [if_neg c3] at hsh
    refine lv_iload_n hx hb dX13_turned_11 rfl (hl.at 0 rfl) ?_
    refine lv_bipush (v := iI (70)) hx hb dX13_turned_12 (by decide +kernel) ?_
    refine e_icmp_ne (tgt := 22) hx hb dX13_turned_14 (by decide) (fun c14 => ?_) (fun c14 => ?_)
    · rw [if_neg c14] at hsh
      refine lv_iload_n hx hb dX13_turned_22 rfl (hl.at 0 rfl) ?_
      refine lv_bipush (v := iI (116)) hx hb dX13_turned_23 (by decide +kernel) ?_
      refine e_icmp_ne (tgt := 33) hx hb dX13_turned_25 (by decide) (fun c25 => ?_) (fun c25 => ?_)
      · rw [if_neg c25] at hsh
        refine lv_bipush (v := iI (116)) hx hb dX13_turned_33 (by decide +kernel) ?_
        exact w13_turned_b35 E hp hS (hl.sub [] rfl) hsh
      · rw [if_pos c25] at hsh
        refine lv_bipush (v := iI (84)) hx hb dX13_turned_28 (by decide +kernel) ?_
        refine lv_goto (tgt := 35) hx hb dX13_turned_30 (by decide) ?_
        exact w13_turned_b35 E hp hS (hl.sub [] rfl) hsh
    · rw [if_pos c14] at hsh
      refine lv_bipush (v := iI (102)) hx hb dX13_turned_17 (by decide +kernel) ?_
      refine lv_goto (tgt := 35) hx hb dX13_turned_19 (by decide) ?_
      exact w13_turned_b35 E hp hS (hl.sub [] rfl) hsh
  · rw [if_pos c3] at hsh
    refine lv_bipush (v := iI (70)) hx hb dX13_turned_6 (by decide +kernel) ?_
    refine lv_goto (tgt := 35) hx hb dX13_turned_8 (by decide) ?_
    exact w13_turned_b35 E hp hS (hl.sub [] rfl) hsh
theorem ok13_stands {S : HP} {x0 : Int} {x1 : Int} {x2 : Int} {r : Int × HP} (h : s13_stands S x0 x1 x2 = some r) : 0 ≤ x0 ∧ x0.toNat < e_n S ∧ e_g S x0.toNat = 13 := (gd_some h).1
set_option maxRecDepth 100000 in
set_option maxHeartbeats 4000000 in
theorem w13_stands_b75 {p : Program} {l : Launch} {e : Env} {s : State} {m : MethodId} {args : Array Value} {below : List Frame} {meth : Method} {c : Code} {D : va_G} {cA : Nat → ClassId} {B : Nat} {res : Int × HP} (E : e_En p s m args meth c cX13_stands RX13 5 (some .boolean)) {ls : Array Slot} {H : Heap} {locs : List Loc} {S : HP} {x3 : Int} (hp : e_Pic D cA B S s H) (hS : va_S (e_A B) s.heap H locs) (hl : e_lo ls 5 [(3, .int (iI (x3)))]) (hsh : s13_stands_b75 S x3 = some res) : W p l e ({ frames := 1, cells := 0, slots := 0, locals := 22 } : Room) s m args below meth c H locs 0 0 (MQ below (e_Qi D cA B res.1 res.2) args s 0 0 (e_A B)) (F0 m 75 ls []) := by
  obtain ⟨hx, hb, hml, hown, hts, hlk, hrt⟩ := id E
  unfold s13_stands_b75 at hsh
  refine lv_iload_n hx hb dX13_stands_75 rfl (hl.at 0 rfl) ?_
  obtain ⟨hz, hz1, hz2⟩ := zR_some hsh
  rw [← hz1, ← hz2]
  exact e_zret hx hb hrt hlk hp hS hz dX13_stands_76
set_option maxRecDepth 100000 in
set_option maxHeartbeats 4000000 in
theorem w13_stands_b68 {p : Program} {l : Launch} {e : Env} {s : State} {m : MethodId} {args : Array Value} {below : List Frame} {meth : Method} {c : Code} {D : va_G} {cA : Nat → ClassId} {B : Nat} {res : Int × HP} {k31 : HP → Int → Int → Int → Int → Int → Option (Int × HP)} (hk31 : ∀ {ls : Array Slot} {H : Heap} {locs : List Loc} {S : HP} {x0 : Int} {x1 : Int} {x2 : Int} {x3 : Int} {x4 : Int} (hp : e_Pic D cA B S s H) (hS : va_S (e_A B) s.heap H locs) (hl : e_lo ls 5 [(0, e_rv B (x0)), (1, .int (iI (x1))), (2, .int (iI (x2))), (3, .int (iI (x3))), (4, .int (iI (x4)))]) (hsh : k31 S x0 x1 x2 x3 x4 = some res), W p l e ({ frames := 1, cells := 0, slots := 0, locals := 22 } : Room) s m args below meth c H locs 0 0 (MQ below (e_Qi D cA B res.1 res.2) args s 0 0 (e_A B)) (F0 m 31 ls [])) (E : e_En p s m args meth c cX13_stands RX13 5 (some .boolean)) {ls : Array Slot} {H : Heap} {locs : List Loc} {S : HP} {x0 : Int} {x1 : Int} {x2 : Int} {x4 : Int} {y0 : Int} (hp : e_Pic D cA B S s H) (hS : va_S (e_A B) s.heap H locs) (hl : e_lo ls 5 [(0, e_rv B (x0)), (1, .int (iI (x1))), (2, .int (iI (x2))), (4, .int (iI (x4)))]) (hsh : s13_stands_b68 k31 S x0 x1 x2 x4 y0 = some res) : W p l e ({ frames := 1, cells := 0, slots := 0, locals := 22 } : Room) s m args below meth c H locs 0 0 (MQ below (e_Qi D cA B res.1 res.2) args s 0 0 (e_A B)) (F0 m 68 ls [.int (iI (y0))]) := by
  obtain ⟨hx, hb, hml, hown, hts, hlk, hrt⟩ := id E
  unfold s13_stands_b68 at hsh
  refine e_istore_n (lv' := [(3, .int (iI (y0))), (0, e_rv B (x0)), (1, .int (iI (x1))), (2, .int (iI (x2))), (4, .int (iI (x4)))]) hx hb dX13_stands_68 rfl hl (by decide) rfl (fun ls hl => ?_)
  refine e_iinc (n := 1) (x := x4) (lv' := [(4, .int (iI ((x4 + 1)))), (3, .int (iI (y0))), (0, e_rv B (x0)), (1, .int (iI (x1))), (2, .int (iI (x2)))]) hx hb dX13_stands_69 hl (k := 4) rfl (by decide) rfl (fun ls hl => ?_)
  refine lv_goto (tgt := 31) hx hb dX13_stands_72 (by decide) ?_
  exact hk31 hp hS (hl.sub [2, 3, 4, 1, 0] rfl) hsh
set_option maxRecDepth 100000 in
set_option maxHeartbeats 4000000 in
theorem w13_stands_l31 {p : Program} {l : Launch} {e : Env} {s : State} {m : MethodId} {args : Array Value} {below : List Frame} {meth : Method} {c : Code} {D : va_G} {cA : Nat → ClassId} {B : Nat} {res : Int × HP} (E : e_En p s m args meth c cX13_stands RX13 5 (some .boolean)) : ∀ (f : Nat) {ls : Array Slot} {H : Heap} {locs : List Loc} {S : HP} {x0 : Int} {x1 : Int} {x2 : Int} {x3 : Int} {x4 : Int} (hp : e_Pic D cA B S s H) (hS : va_S (e_A B) s.heap H locs) (hl : e_lo ls 5 [(0, e_rv B (x0)), (1, .int (iI (x1))), (2, .int (iI (x2))), (3, .int (iI (x3))), (4, .int (iI (x4)))]) (hsh : s13_stands_l31 f S x0 x1 x2 x3 x4 = some res), W p l e ({ frames := 1, cells := 0, slots := 0, locals := 22 } : Room) s m args below meth c H locs 0 0 (MQ below (e_Qi D cA B res.1 res.2) args s 0 0 (e_A B)) (F0 m 31 ls []) := by
  obtain ⟨hx, hb, hml, hown, hts, hlk, hrt⟩ := id E
  intro f
  induction f with
  | zero => intro ls H locs S x0 x1 x2 x3 x4 hp hS hl hsh; cases hsh
  | succ f ih =>
    intro ls H locs S x0 x1 x2 x3 x4 hp hS hl hsh
    have hk31 : ∀ {ls : Array Slot} {H : Heap} {locs : List Loc} {S : HP} {x0 : Int} {x1 : Int} {x2 : Int} {x3 : Int} {x4 : Int} (hp : e_Pic D cA B S s H) (hS : va_S (e_A B) s.heap H locs) (hl : e_lo ls 5 [(0, e_rv B (x0)), (1, .int (iI (x1))), (2, .int (iI (x2))), (3, .int (iI (x3))), (4, .int (iI (x4)))]) (hsh : (s13_stands_l31 f) S x0 x1 x2 x3 x4 = some res), W p l e ({ frames := 1, cells := 0, slots := 0, locals := 22 } : Room) s m args below meth c H locs 0 0 (MQ below (e_Qi D cA B res.1 res.2) args s 0 0 (e_A B)) (F0 m 31 ls []) := ih
    generalize hkk : s13_stands_l31 f = k31 at hk31
    rw [s13_stands_l31] at hsh
    rw [hkk] at hsh
    try dsimp only at hsh
    refine lv_iload hx hb dX13_stands_31 (hl.at 4 rfl) ?_
    refine e_aload_n (B := B) (x := x0) hx hb dX13_stands_33 rfl (hl.at 0 rfl) ?_
    obtain ⟨v34, h34, hsh⟩ := Option.bind_eq_some_iff.mp hsh
    refine e_getI (k := 51) hx hb hts in_X13 hown hp h34 rfl (by decide) (by decide) rfl (hts _ kf13_324) rfl dX13_stands_34 ?_
    refine e_icmp_ge (tgt := 75) hx hb dX13_stands_37 (by decide) (fun c37 => ?_) (fun c37 => ?_)
    · rw [if_pos c37] at hsh
      exact w13_stands_b75 E hp hS (hl.sub [3] rfl) hsh
    · rw [if_neg c37] at hsh
      refine lv_iload_n hx hb dX13_stands_40 rfl (hl.at 3 rfl) ?_
      refine e_if_eq (tgt := 75) hx hb dX13_stands_41 (by decide) (fun c41 => ?_) (fun c41 => ?_)
      · rw [if_pos c41] at hsh
        exact w13_stands_b75 E hp hS (hl.sub [3] rfl) hsh
      · rw [if_neg c41] at hsh
        refine e_aload_n (B := B) (x := x0) hx hb dX13_stands_44 rfl (hl.at 0 rfl) ?_
        refine lv_iload_n hx hb dX13_stands_45 rfl (hl.at 1 rfl) ?_
        refine lv_iload_n hx hb dX13_stands_46 rfl (hl.at 2 rfl) ?_
        refine lv_iload hx hb dX13_stands_47 (hl.at 4 rfl) ?_
        refine e_iadd hx hb dX13_stands_49 ?_
        obtain ⟨⟨v50, S50⟩, h50, hsh⟩ := Option.bind_eq_some_iff.mp hsh
        have hsh : _ = _ := hsh
        try dsimp only at hsh
        have ok50 := ok13_at h50
        refine e_callI (nL := 5) (mc := 0) (ms := 0) (T := TX13) (N := 126) (As := [.int (iI (x1)), .int (iI ((x2 + x4)))]) (rest := []) hx hb hml hown hts hp hS hl.size ok50.1 ok50.2.1 ok50.2.2 rfl (by decide) (c13_at l D cA B S S50 (x0) (x1) ((x2 + x4)) v50 h50) rfl rfl kd13_at (kl13_206) ks13_at kv13_at ki13 kh13_at ⟨Nat.le_of_ble_eq_true rfl, Nat.le_of_ble_eq_true rfl⟩ rfl (by simp [e_rv_cat, e_int_cat]) ⟨Nat.le_refl _, Nat.le_refl _⟩ dX13_stands_50 rfl (fun H locs hp hS => ?_)
        refine e_aload_n (B := B) (x := x0) hx hb dX13_stands_53 rfl (hl.at 0 rfl) ?_
        obtain ⟨v54, h54, hsh⟩ := Option.bind_eq_some_iff.mp hsh
        refine e_getR (k := 52) hx hb hts in_X13 hown hp h54 rfl (by decide) (by decide) rfl (hts _ kf13_89) rfl dX13_stands_54 ?_
        refine lv_iload hx hb dX13_stands_57 (hl.at 4 rfl) ?_
        obtain ⟨v59, h59, hsh⟩ := Option.bind_eq_some_iff.mp hsh
        refine e_iald hx hb hp h59 dX13_stands_59 ?_
        refine e_icmp_ne (tgt := 67) hx hb dX13_stands_60 (by decide) (fun c60 => ?_) (fun c60 => ?_)
        · rw [if_neg c60] at hsh
          refine lv_iconst (v := iI (0)) hx hb dX13_stands_67 rfl ?_
          exact w13_stands_b68 (hk31 := hk31) E hp hS (hl.sub [0, 1, 2, 4] rfl) hsh
        · rw [if_pos c60] at hsh
          refine lv_iconst (v := iI (1)) hx hb dX13_stands_63 rfl ?_
          refine lv_goto (tgt := 68) hx hb dX13_stands_64 (by decide) ?_
          exact w13_stands_b68 (hk31 := hk31) E hp hS (hl.sub [0, 1, 2, 4] rfl) hsh
set_option maxRecDepth 100000 in
set_option maxHeartbeats 4000000 in
theorem w13_stands_b27 {p : Program} {l : Launch} {e : Env} {s : State} {m : MethodId} {args : Array Value} {below : List Frame} {meth : Method} {c : Code} {D : va_G} {cA : Nat → ClassId} {B : Nat} {res : Int × HP} (E : e_En p s m args meth c cX13_stands RX13 5 (some .boolean)) {ls : Array Slot} {H : Heap} {locs : List Loc} {S : HP} {x0 : Int} {x1 : Int} {x2 : Int} {y0 : Int} (hp : e_Pic D cA B S s H) (hS : va_S (e_A B) s.heap H locs) (hl : e_lo ls 5 [(0, e_rv B (x0)), (1, .int (iI (x1))), (2, .int (iI (x2)))]) (hsh : s13_stands_b27 S x0 x1 x2 y0 = some res) : W p l e ({ frames := 1, cells := 0, slots := 0, locals := 22 } : Room) s m args below meth c H locs 0 0 (MQ below (e_Qi D cA B res.1 res.2) args s 0 0 (e_A B)) (F0 m 27 ls [.int (iI (y0))]) := by
  obtain ⟨hx, hb, hml, hown, hts, hlk, hrt⟩ := id E
  unfold s13_stands_b27 at hsh
  refine e_istore_n (lv' := [(3, .int (iI (y0))), (0, e_rv B (x0)), (1, .int (iI (x1))), (2, .int (iI (x2)))]) hx hb dX13_stands_27 rfl hl (by decide) rfl (fun ls hl => ?_)
  refine lv_iconst (v := iI (0)) hx hb dX13_stands_28 rfl ?_
  refine e_istore (lv' := [(4, .int (iI (0))), (3, .int (iI (y0))), (0, e_rv B (x0)), (1, .int (iI (x1))), (2, .int (iI (x2)))]) hx hb dX13_stands_29 hl (by decide) rfl (fun ls hl => ?_)
  exact w13_stands_l31 E 1000000 hp hS (hl.sub [2, 3, 4, 1, 0] rfl) hsh
set_option maxRecDepth 100000 in
set_option maxHeartbeats 4000000 in
theorem w13_stands_b26 {p : Program} {l : Launch} {e : Env} {s : State} {m : MethodId} {args : Array Value} {below : List Frame} {meth : Method} {c : Code} {D : va_G} {cA : Nat → ClassId} {B : Nat} {res : Int × HP} (E : e_En p s m args meth c cX13_stands RX13 5 (some .boolean)) {ls : Array Slot} {H : Heap} {locs : List Loc} {S : HP} {x0 : Int} {x1 : Int} {x2 : Int} (hp : e_Pic D cA B S s H) (hS : va_S (e_A B) s.heap H locs) (hl : e_lo ls 5 [(0, e_rv B (x0)), (1, .int (iI (x1))), (2, .int (iI (x2)))]) (hsh : s13_stands_b26 S x0 x1 x2 = some res) : W p l e ({ frames := 1, cells := 0, slots := 0, locals := 22 } : Room) s m args below meth c H locs 0 0 (MQ below (e_Qi D cA B res.1 res.2) args s 0 0 (e_A B)) (F0 m 26 ls []) := by
  obtain ⟨hx, hb, hml, hown, hts, hlk, hrt⟩ := id E
  unfold s13_stands_b26 at hsh
  refine lv_iconst (v := iI (0)) hx hb dX13_stands_26 rfl ?_
  exact w13_stands_b27 E hp hS (hl.sub [0, 1, 2] rfl) hsh
set_option maxRecDepth 100000 in
set_option maxHeartbeats 4000000 in
theorem c13_stands (l : Launch) (D : va_G) (cA : Nat → ClassId) (B : Nat) (S S' : HP) (x0 : Int) (x1 : Int) (x2 : Int) (r : Int) (hsh : s13_stands S x0 x1 x2 = some (r, S')) : Met l yX13_stands (e_wu yX13_stands cX13_stands 5 (some .boolean)) ({ frames := 1, cells := 0, slots := 0, locals := 22 } : Room) (va_Pc [e_rv B (x0), .int (iI (x1)), .int (iI (x2))] (fun U => e_PU D cA B S U)) (e_Qi D cA B r S') 0 0 (e_A B) := by
  refine Met.ofW (cc := cX13_stands) (maxL := 5) (ret := (some .boolean)) (by decide +kernel) rfl ?_
  intro p e s m args below meth c s₁ Bd hml hv
  obtain ⟨rfl, hp⟩ := hv
  have hp : e_Pic D cA B S s s.heap := hp
  have hx := Bd.exec
  have hb := Bd.bytes
  have hrt := Bd.returns
  have hlk := Bd.notSynchronized
  have hown : s.vm.findClass RX13 = some m.cls := findClass_of_methodNamed Bd.named
  have hts : ∀ w ∈ e_tb, w.before ([e_rv B (x0), .int (iI (x1)), .int (iI (x2))] : List Value).toArray s = true := fun w h => atoms_spec (ws := (e_wu yX13_stands cX13_stands 5 (some .boolean))) Bd.pre w (List.mem_cons_of_mem _ h)
  have E : e_En p s m ([e_rv B (x0), .int (iI (x1)), .int (iI (x2))] : List Value).toArray meth c cX13_stands RX13 5 (some .boolean) := ⟨hx, hb, hml, hown, hts, hlk, hrt⟩
  have hS : va_S (e_A B) s.heap s.heap [] := va_S.rf
  have hl := e_entry (vs := [e_rv B (x0), .int (iI (x1)), .int (iI (x2))]) (n := 5) (Nat.le_of_ble_eq_true rfl) (e_cc (e_rv_cat _ _) (e_cc rfl (e_cc rfl e_cn)))
  rw [lg_entry_eq]
  generalize (lg_sl [e_rv B (x0), .int (iI (x1)), .int (iI (x2))] ++ List.replicate (5 - (lg_sl [e_rv B (x0), .int (iI (x1)), .int (iI (x2))]).length) Slot.unset).toArray = ls at hl ⊢
  generalize ([e_rv B (x0), .int (iI (x1)), .int (iI (x2))] : List Value).toArray = args at hts E ⊢
  have hl : e_lo ls 5 [(0, e_rv B (x0)), (1, .int (iI (x1))), (2, .int (iI (x2)))] := hl
  have hsh := (gd_some hsh).2
  refine e_aload_n (B := B) (x := x0) hx hb dX13_stands_0 rfl (hl.at 0 rfl) ?_
  obtain ⟨v1, h1, hsh⟩ := Option.bind_eq_some_iff.mp hsh
  refine e_getI (k := 51) hx hb hts in_X13 hown hp h1 rfl (by decide) (by decide) rfl (hts _ kf13_324) rfl dX13_stands_1 ?_
  refine e_if_le (tgt := 26) hx hb dX13_stands_4 (by decide) (fun c4 => ?_) (fun c4 => ?_)
  · rw [if_pos c4] at hsh
    exact w13_stands_b26 E hp hS (hl.sub [0, 1, 2] rfl) hsh
  · rw [if_neg c4] at hsh
    refine lv_iload_n hx hb dX13_stands_7 rfl (hl.at 2 rfl) ?_
    refine e_aload_n (B := B) (x := x0) hx hb dX13_stands_8 rfl (hl.at 0 rfl) ?_
    obtain ⟨v9, h9, hsh⟩ := Option.bind_eq_some_iff.mp hsh
    refine e_getI (k := 51) hx hb hts in_X13 hown hp h9 rfl (by decide) (by decide) rfl (hts _ kf13_324) rfl dX13_stands_9 ?_
    refine e_iadd hx hb dX13_stands_12 ?_
    refine e_aload_n (B := B) (x := x0) hx hb dX13_stands_13 rfl (hl.at 0 rfl) ?_
    obtain ⟨v14, h14, hsh⟩ := Option.bind_eq_some_iff.mp hsh
    refine e_getR (k := 3) hx hb hts in_X13 hown hp h14 rfl (by decide) (by decide) rfl (hts _ kf13_17) rfl dX13_stands_14 ?_
    refine lv_iload_n hx hb dX13_stands_17 rfl (hl.at 1 rfl) ?_
    obtain ⟨v18, h18, hsh⟩ := Option.bind_eq_some_iff.mp hsh
    refine e_iald hx hb hp h18 dX13_stands_18 ?_
    refine e_icmp_gt (tgt := 26) hx hb dX13_stands_19 (by decide) (fun c19 => ?_) (fun c19 => ?_)
    · rw [if_pos c19] at hsh
      exact w13_stands_b26 E hp hS (hl.sub [0, 1, 2] rfl) hsh
    · rw [if_neg c19] at hsh
      refine lv_iconst (v := iI (1)) hx hb dX13_stands_22 rfl ?_
      refine lv_goto (tgt := 27) hx hb dX13_stands_23 (by decide) ?_
      exact w13_stands_b27 E hp hS (hl.sub [0, 1, 2] rfl) hsh
theorem ok13_goesSought {S : HP} {x0 : Int} {x1 : Int} {r : Int × HP} (h : s13_goesSought S x0 x1 = some r) : 0 ≤ x0 ∧ x0.toNat < e_n S ∧ e_g S x0.toNat = 13 := (gd_some h).1
set_option maxRecDepth 100000 in
set_option maxHeartbeats 4000000 in
theorem w13_goesSought_b148 {p : Program} {l : Launch} {e : Env} {s : State} {m : MethodId} {args : Array Value} {below : List Frame} {meth : Method} {c : Code} {D : va_G} {cA : Nat → ClassId} {B : Nat} {res : Int × HP} {k13 : HP → Int → Int → Int → Int → Int → Option (Int × HP)} (hk13 : ∀ {ls : Array Slot} {H : Heap} {locs : List Loc} {S : HP} {x0 : Int} {x1 : Int} {x2 : Int} {x3 : Int} {x4 : Int} (hp : e_Pic D cA B S s H) (hS : va_S (e_A B) s.heap H locs) (hl : e_lo ls 5 [(0, e_rv B (x0)), (1, .int (iI (x1))), (2, .int (iI (x2))), (3, .int (iI (x3))), (4, .int (iI (x4)))]) (hsh : k13 S x0 x1 x2 x3 x4 = some res), W p l e ({ frames := 2, cells := 0, slots := 0, locals := 46 } : Room) s m args below meth c H locs 0 0 (MQ below (e_Qi D cA B res.1 res.2) args s 0 0 (e_A B)) (F0 m 13 ls [])) (E : e_En p s m args meth c cX13_goesSought RX13 5 (some .boolean)) {ls : Array Slot} {H : Heap} {locs : List Loc} {S : HP} {x0 : Int} {x1 : Int} {x2 : Int} {x3 : Int} {x4 : Int} (hp : e_Pic D cA B S s H) (hS : va_S (e_A B) s.heap H locs) (hl : e_lo ls 5 [(0, e_rv B (x0)), (1, .int (iI (x1))), (2, .int (iI (x2))), (3, .int (iI (x3))), (4, .int (iI (x4)))]) (hsh : s13_goesSought_b148 k13 S x0 x1 x2 x3 x4 = some res) : W p l e ({ frames := 2, cells := 0, slots := 0, locals := 46 } : Room) s m args below meth c H locs 0 0 (MQ below (e_Qi D cA B res.1 res.2) args s 0 0 (e_A B)) (F0 m 148 ls []) := by
  obtain ⟨hx, hb, hml, hown, hts, hlk, hrt⟩ := id E
  unfold s13_goesSought_b148 at hsh
  refine e_iinc (n := 1) (x := x4) (lv' := [(4, .int (iI ((x4 + 1)))), (0, e_rv B (x0)), (1, .int (iI (x1))), (2, .int (iI (x2))), (3, .int (iI (x3)))]) hx hb dX13_goesSought_148 hl (k := 4) rfl (by decide) rfl (fun ls hl => ?_)
  refine lv_goto (tgt := 13) hx hb dX13_goesSought_151 (by decide) ?_
  exact hk13 hp hS (hl.sub [1, 2, 3, 4, 0] rfl) hsh
set_option maxRecDepth 100000 in
set_option maxHeartbeats 4000000 in
theorem w13_goesSought_b113 {p : Program} {l : Launch} {e : Env} {s : State} {m : MethodId} {args : Array Value} {below : List Frame} {meth : Method} {c : Code} {D : va_G} {cA : Nat → ClassId} {B : Nat} {res : Int × HP} {k13 : HP → Int → Int → Int → Int → Int → Option (Int × HP)} (hk13 : ∀ {ls : Array Slot} {H : Heap} {locs : List Loc} {S : HP} {x0 : Int} {x1 : Int} {x2 : Int} {x3 : Int} {x4 : Int} (hp : e_Pic D cA B S s H) (hS : va_S (e_A B) s.heap H locs) (hl : e_lo ls 5 [(0, e_rv B (x0)), (1, .int (iI (x1))), (2, .int (iI (x2))), (3, .int (iI (x3))), (4, .int (iI (x4)))]) (hsh : k13 S x0 x1 x2 x3 x4 = some res), W p l e ({ frames := 2, cells := 0, slots := 0, locals := 46 } : Room) s m args below meth c H locs 0 0 (MQ below (e_Qi D cA B res.1 res.2) args s 0 0 (e_A B)) (F0 m 13 ls [])) (E : e_En p s m args meth c cX13_goesSought RX13 5 (some .boolean)) {ls : Array Slot} {H : Heap} {locs : List Loc} {S : HP} {x0 : Int} {x1 : Int} {x2 : Int} {x3 : Int} {x4 : Int} (hp : e_Pic D cA B S s H) (hS : va_S (e_A B) s.heap H locs) (hl : e_lo ls 5 [(0, e_rv B (x0)), (1, .int (iI (x1))), (2, .int (iI (x2))), (3, .int (iI (x3))), (4, .int (iI (x4)))]) (hsh : s13_goesSought_b113 k13 S x0 x1 x2 x3 x4 = some res) : W p l e ({ frames := 2, cells := 0, slots := 0, locals := 46 } : Room) s m args below meth c H locs 0 0 (MQ below (e_Qi D cA B res.1 res.2) args s 0 0 (e_A B)) (F0 m 113 ls []) := by
  obtain ⟨hx, hb, hml, hown, hts, hlk, hrt⟩ := id E
  unfold s13_goesSought_b113 at hsh
  refine e_aload_n (B := B) (x := x0) hx hb dX13_goesSought_113 rfl (hl.at 0 rfl) ?_
  refine lv_iload_n hx hb dX13_goesSought_114 rfl (hl.at 2 rfl) ?_
  refine lv_iload_n hx hb dX13_goesSought_115 rfl (hl.at 3 rfl) ?_
  obtain ⟨⟨v116, S116⟩, h116, hsh⟩ := Option.bind_eq_some_iff.mp hsh
  have hsh : _ = _ := hsh
  try dsimp only at hsh
  have ok116 := ok13_stands h116
  refine e_callI (nL := 5) (mc := 0) (ms := 0) (T := TX13) (N := 126) (As := [.int (iI (x2)), .int (iI (x3))]) (rest := []) hx hb hml hown hts hp hS hl.size ok116.1 ok116.2.1 ok116.2.2 rfl (by decide) (c13_stands l D cA B S S116 (x0) (x2) (x3) v116 h116) rfl rfl kd13_stands (kl13_327) ks13_stands kv13_stands ki13 kh13_stands ⟨Nat.le_of_ble_eq_true rfl, Nat.le_of_ble_eq_true rfl⟩ rfl (by simp [e_rv_cat, e_int_cat]) ⟨Nat.le_refl _, Nat.le_refl _⟩ dX13_goesSought_116 rfl (fun H locs hp hS => ?_)
  refine e_if_eq (tgt := 130) hx hb dX13_goesSought_119 (by decide) (fun c119 => ?_) (fun c119 => ?_)
  · rw [if_pos c119] at hsh
    refine lv_iload_n hx hb dX13_goesSought_130 rfl (hl.at 2 rfl) ?_
    refine e_aload_n (B := B) (x := x0) hx hb dX13_goesSought_131 rfl (hl.at 0 rfl) ?_
    obtain ⟨v132, h132, hsh⟩ := Option.bind_eq_some_iff.mp hsh
    refine e_getI (k := 46) hx hb hts in_X13 hown hp h132 rfl (by decide) (by decide) rfl (hts _ kf13_296) rfl dX13_goesSought_132 ?_
    refine e_icmp_ne (tgt := 148) hx hb dX13_goesSought_135 (by decide) (fun c135 => ?_) (fun c135 => ?_)
    · rw [if_neg c135] at hsh
      exact w13_goesSought_b148 (hk13 := hk13) E hp hS (hl.sub [0, 1, 2, 3, 4] rfl) hsh
    · rw [if_pos c135] at hsh
      refine lv_iload_n hx hb dX13_goesSought_138 rfl (hl.at 3 rfl) ?_
      refine e_aload_n (B := B) (x := x0) hx hb dX13_goesSought_139 rfl (hl.at 0 rfl) ?_
      obtain ⟨v140, h140, hsh⟩ := Option.bind_eq_some_iff.mp hsh
      refine e_getI (k := 47) hx hb hts in_X13 hown hp h140 rfl (by decide) (by decide) rfl (hts _ kf13_299) rfl dX13_goesSought_140 ?_
      refine e_icmp_ne (tgt := 148) hx hb dX13_goesSought_143 (by decide) (fun c143 => ?_) (fun c143 => ?_)
      · rw [if_neg c143] at hsh
        exact w13_goesSought_b148 (hk13 := hk13) E hp hS (hl.sub [0, 1, 2, 3, 4] rfl) hsh
      · rw [if_pos c143] at hsh
        refine lv_iconst (v := iI (0)) hx hb dX13_goesSought_146 rfl ?_
        obtain ⟨hz, hz1, hz2⟩ := zR_some hsh
        rw [← hz1, ← hz2]
        exact e_zret hx hb hrt hlk hp hS hz dX13_goesSought_147
  · rw [if_neg c119] at hsh
    refine e_aload_n (B := B) (x := x0) hx hb dX13_goesSought_122 rfl (hl.at 0 rfl) ?_
    refine lv_iload_n hx hb dX13_goesSought_123 rfl (hl.at 2 rfl) ?_
    refine lv_iload_n hx hb dX13_goesSought_124 rfl (hl.at 3 rfl) ?_
    obtain ⟨S125, h125, hsh⟩ := Option.bind_eq_some_iff.mp hsh
    have ok125 := ok13_reaches h125
    refine e_callV (nL := 5) (mc := 0) (ms := 0) (T := TX13) (N := 126) (As := [.int (iI (x2)), .int (iI (x3))]) (rest := []) hx hb hml hown hts hp hS hl.size ok125.1 ok125.2.1 ok125.2.2 rfl (by decide) (c13_reaches l D cA B S116 S125 (x0) (x2) (x3) h125) rfl rfl kd13_reaches (kl13_306) ks13_reaches kv13_reaches ki13 kh13_reaches ⟨Nat.le_of_ble_eq_true rfl, Nat.le_of_ble_eq_true rfl⟩ rfl (by simp [e_rv_cat, e_int_cat]) ⟨Nat.le_refl _, Nat.le_refl _⟩ dX13_goesSought_125 rfl (fun H locs hp hS => ?_)
    refine lv_iconst (v := iI (1)) hx hb dX13_goesSought_128 rfl ?_
    obtain ⟨hz, hz1, hz2⟩ := zR_some hsh
    rw [← hz1, ← hz2]
    exact e_zret hx hb hrt hlk hp hS hz dX13_goesSought_129
set_option maxRecDepth 100000 in
set_option maxHeartbeats 4000000 in
theorem w13_goesSought_b112 {p : Program} {l : Launch} {e : Env} {s : State} {m : MethodId} {args : Array Value} {below : List Frame} {meth : Method} {c : Code} {D : va_G} {cA : Nat → ClassId} {B : Nat} {res : Int × HP} {k13 : HP → Int → Int → Int → Int → Int → Option (Int × HP)} (hk13 : ∀ {ls : Array Slot} {H : Heap} {locs : List Loc} {S : HP} {x0 : Int} {x1 : Int} {x2 : Int} {x3 : Int} {x4 : Int} (hp : e_Pic D cA B S s H) (hS : va_S (e_A B) s.heap H locs) (hl : e_lo ls 5 [(0, e_rv B (x0)), (1, .int (iI (x1))), (2, .int (iI (x2))), (3, .int (iI (x3))), (4, .int (iI (x4)))]) (hsh : k13 S x0 x1 x2 x3 x4 = some res), W p l e ({ frames := 2, cells := 0, slots := 0, locals := 46 } : Room) s m args below meth c H locs 0 0 (MQ below (e_Qi D cA B res.1 res.2) args s 0 0 (e_A B)) (F0 m 13 ls [])) (E : e_En p s m args meth c cX13_goesSought RX13 5 (some .boolean)) {ls : Array Slot} {H : Heap} {locs : List Loc} {S : HP} {x0 : Int} {x1 : Int} {x2 : Int} {x4 : Int} {y0 : Int} (hp : e_Pic D cA B S s H) (hS : va_S (e_A B) s.heap H locs) (hl : e_lo ls 5 [(0, e_rv B (x0)), (1, .int (iI (x1))), (2, .int (iI (x2))), (4, .int (iI (x4)))]) (hsh : s13_goesSought_b112 k13 S x0 x1 x2 x4 y0 = some res) : W p l e ({ frames := 2, cells := 0, slots := 0, locals := 46 } : Room) s m args below meth c H locs 0 0 (MQ below (e_Qi D cA B res.1 res.2) args s 0 0 (e_A B)) (F0 m 112 ls [.int (iI (y0))]) := by
  obtain ⟨hx, hb, hml, hown, hts, hlk, hrt⟩ := id E
  unfold s13_goesSought_b112 at hsh
  refine e_istore_n (lv' := [(3, .int (iI (y0))), (0, e_rv B (x0)), (1, .int (iI (x1))), (2, .int (iI (x2))), (4, .int (iI (x4)))]) hx hb dX13_goesSought_112 rfl hl (by decide) rfl (fun ls hl => ?_)
  exact w13_goesSought_b113 (hk13 := hk13) E hp hS (hl.sub [1, 2, 3, 0, 4] rfl) hsh
set_option maxRecDepth 100000 in
set_option maxHeartbeats 4000000 in
theorem w13_goesSought_b98 {p : Program} {l : Launch} {e : Env} {s : State} {m : MethodId} {args : Array Value} {below : List Frame} {meth : Method} {c : Code} {D : va_G} {cA : Nat → ClassId} {B : Nat} {res : Int × HP} {k13 : HP → Int → Int → Int → Int → Int → Option (Int × HP)} (hk13 : ∀ {ls : Array Slot} {H : Heap} {locs : List Loc} {S : HP} {x0 : Int} {x1 : Int} {x2 : Int} {x3 : Int} {x4 : Int} (hp : e_Pic D cA B S s H) (hS : va_S (e_A B) s.heap H locs) (hl : e_lo ls 5 [(0, e_rv B (x0)), (1, .int (iI (x1))), (2, .int (iI (x2))), (3, .int (iI (x3))), (4, .int (iI (x4)))]) (hsh : k13 S x0 x1 x2 x3 x4 = some res), W p l e ({ frames := 2, cells := 0, slots := 0, locals := 46 } : Room) s m args below meth c H locs 0 0 (MQ below (e_Qi D cA B res.1 res.2) args s 0 0 (e_A B)) (F0 m 13 ls [])) (E : e_En p s m args meth c cX13_goesSought RX13 5 (some .boolean)) {ls : Array Slot} {H : Heap} {locs : List Loc} {S : HP} {x0 : Int} {x1 : Int} {x4 : Int} {y0 : Int} (hp : e_Pic D cA B S s H) (hS : va_S (e_A B) s.heap H locs) (hl : e_lo ls 5 [(0, e_rv B (x0)), (1, .int (iI (x1))), (4, .int (iI (x4)))]) (hsh : s13_goesSought_b98 k13 S x0 x1 x4 y0 = some res) : W p l e ({ frames := 2, cells := 0, slots := 0, locals := 46 } : Room) s m args below meth c H locs 0 0 (MQ below (e_Qi D cA B res.1 res.2) args s 0 0 (e_A B)) (F0 m 98 ls [.int (iI (y0))]) := by
  obtain ⟨hx, hb, hml, hown, hts, hlk, hrt⟩ := id E
  unfold s13_goesSought_b98 at hsh
  refine e_istore_n (lv' := [(2, .int (iI (y0))), (0, e_rv B (x0)), (1, .int (iI (x1))), (4, .int (iI (x4)))]) hx hb dX13_goesSought_98 rfl hl (by decide) rfl (fun ls hl => ?_)
  refine lv_iload_n hx hb dX13_goesSought_99 rfl (hl.at 2 rfl) ?_
  refine e_if_le (tgt := 107) hx hb dX13_goesSought_100 (by decide) (fun c100 => ?_) (fun c100 => ?_)
  · rw [if_pos c100] at hsh
    refine e_aload_n (B := B) (x := x0) hx hb dX13_goesSought_107 rfl (hl.at 1 rfl) ?_
    refine lv_iload_n hx hb dX13_goesSought_108 rfl (hl.at 0 rfl) ?_
    obtain ⟨⟨v109, S109⟩, h109, hsh⟩ := Option.bind_eq_some_iff.mp hsh
    have hsh : _ = _ := hsh
    try dsimp only at hsh
    have ok109 := ok13_lastOf h109
    refine e_callI (nL := 5) (mc := 0) (ms := 0) (T := TX13) (N := 126) (As := [.int (iI (y0))]) (rest := []) hx hb hml hown hts hp hS hl.size ok109.1 ok109.2.1 ok109.2.2 rfl (by decide) (c13_lastOf l D cA B S S109 (x0) (y0) v109 h109) rfl rfl kd13_lastOf (kl13_309) ks13_lastOf kv13_lastOf ki13 kh13_lastOf ⟨Nat.le_of_ble_eq_true rfl, Nat.le_of_ble_eq_true rfl⟩ rfl (by simp [e_rv_cat, e_int_cat]) ⟨Nat.le_refl _, Nat.le_refl _⟩ dX13_goesSought_109 rfl (fun H locs hp hS => ?_)
    exact w13_goesSought_b112 (hk13 := hk13) E hp hS (hl.sub [1, 2, 0, 3] rfl) hsh
  · rw [if_neg c100] at hsh
    refine lv_iconst (v := iI (0)) hx hb dX13_goesSought_103 rfl ?_
    refine lv_goto (tgt := 112) hx hb dX13_goesSought_104 (by decide) ?_
    exact w13_goesSought_b112 (hk13 := hk13) E hp hS (hl.sub [1, 2, 0, 3] rfl) hsh
set_option maxRecDepth 100000 in
set_option maxHeartbeats 4000000 in
theorem w13_goesSought_b72 {p : Program} {l : Launch} {e : Env} {s : State} {m : MethodId} {args : Array Value} {below : List Frame} {meth : Method} {c : Code} {D : va_G} {cA : Nat → ClassId} {B : Nat} {res : Int × HP} {k13 : HP → Int → Int → Int → Int → Int → Option (Int × HP)} (hk13 : ∀ {ls : Array Slot} {H : Heap} {locs : List Loc} {S : HP} {x0 : Int} {x1 : Int} {x2 : Int} {x3 : Int} {x4 : Int} (hp : e_Pic D cA B S s H) (hS : va_S (e_A B) s.heap H locs) (hl : e_lo ls 5 [(0, e_rv B (x0)), (1, .int (iI (x1))), (2, .int (iI (x2))), (3, .int (iI (x3))), (4, .int (iI (x4)))]) (hsh : k13 S x0 x1 x2 x3 x4 = some res), W p l e ({ frames := 2, cells := 0, slots := 0, locals := 46 } : Room) s m args below meth c H locs 0 0 (MQ below (e_Qi D cA B res.1 res.2) args s 0 0 (e_A B)) (F0 m 13 ls [])) (E : e_En p s m args meth c cX13_goesSought RX13 5 (some .boolean)) {ls : Array Slot} {H : Heap} {locs : List Loc} {S : HP} {x0 : Int} {x1 : Int} {x2 : Int} {x4 : Int} (hp : e_Pic D cA B S s H) (hS : va_S (e_A B) s.heap H locs) (hl : e_lo ls 5 [(0, e_rv B (x0)), (1, .int (iI (x1))), (2, .int (iI (x2))), (4, .int (iI (x4)))]) (hsh : s13_goesSought_b72 k13 S x0 x1 x2 x4 = some res) : W p l e ({ frames := 2, cells := 0, slots := 0, locals := 46 } : Room) s m args below meth c H locs 0 0 (MQ below (e_Qi D cA B res.1 res.2) args s 0 0 (e_A B)) (F0 m 72 ls []) := by
  obtain ⟨hx, hb, hml, hown, hts, hlk, hrt⟩ := id E
  unfold s13_goesSought_b72 at hsh
  refine lv_iload_n hx hb dX13_goesSought_72 rfl (hl.at 2 rfl) ?_
  refine e_aload_n (B := B) (x := x0) hx hb dX13_goesSought_73 rfl (hl.at 0 rfl) ?_
  obtain ⟨v74, h74, hsh⟩ := Option.bind_eq_some_iff.mp hsh
  refine e_getI (k := 2) hx hb hts in_X13 hown hp h74 rfl (by decide) (by decide) rfl (hts _ kf13_13) rfl dX13_goesSought_74 ?_
  refine e_icmp_ne (tgt := 84) hx hb dX13_goesSought_77 (by decide) (fun c77 => ?_) (fun c77 => ?_)
  · rw [if_neg c77] at hsh
    refine lv_iload_n hx hb dX13_goesSought_84 rfl (hl.at 2 rfl) ?_
    refine e_if_ge (tgt := 97) hx hb dX13_goesSought_85 (by decide) (fun c85 => ?_) (fun c85 => ?_)
    · rw [if_pos c85] at hsh
      refine lv_iload_n hx hb dX13_goesSought_97 rfl (hl.at 2 rfl) ?_
      exact w13_goesSought_b98 (hk13 := hk13) E hp hS (hl.sub [0, 1, 3] rfl) hsh
    · rw [if_neg c85] at hsh
      refine e_aload_n (B := B) (x := x0) hx hb dX13_goesSought_88 rfl (hl.at 0 rfl) ?_
      obtain ⟨v89, h89, hsh⟩ := Option.bind_eq_some_iff.mp hsh
      refine e_getI (k := 2) hx hb hts in_X13 hown hp h89 rfl (by decide) (by decide) rfl (hts _ kf13_13) rfl dX13_goesSought_89 ?_
      refine lv_iconst (v := iI (1)) hx hb dX13_goesSought_92 rfl ?_
      refine e_isub hx hb dX13_goesSought_93 ?_
      refine lv_goto (tgt := 98) hx hb dX13_goesSought_94 (by decide) ?_
      exact w13_goesSought_b98 (hk13 := hk13) E hp hS (hl.sub [0, 1, 3] rfl) hsh
  · rw [if_pos c77] at hsh
    refine lv_iconst (v := iI (0)) hx hb dX13_goesSought_80 rfl ?_
    refine lv_goto (tgt := 98) hx hb dX13_goesSought_81 (by decide) ?_
    exact w13_goesSought_b98 (hk13 := hk13) E hp hS (hl.sub [0, 1, 3] rfl) hsh
set_option maxRecDepth 100000 in
set_option maxHeartbeats 4000000 in
theorem w13_goesSought_l13 {p : Program} {l : Launch} {e : Env} {s : State} {m : MethodId} {args : Array Value} {below : List Frame} {meth : Method} {c : Code} {D : va_G} {cA : Nat → ClassId} {B : Nat} {res : Int × HP} (E : e_En p s m args meth c cX13_goesSought RX13 5 (some .boolean)) : ∀ (f : Nat) {ls : Array Slot} {H : Heap} {locs : List Loc} {S : HP} {x0 : Int} {x1 : Int} {x2 : Int} {x3 : Int} {x4 : Int} (hp : e_Pic D cA B S s H) (hS : va_S (e_A B) s.heap H locs) (hl : e_lo ls 5 [(0, e_rv B (x0)), (1, .int (iI (x1))), (2, .int (iI (x2))), (3, .int (iI (x3))), (4, .int (iI (x4)))]) (hsh : s13_goesSought_l13 f S x0 x1 x2 x3 x4 = some res), W p l e ({ frames := 2, cells := 0, slots := 0, locals := 46 } : Room) s m args below meth c H locs 0 0 (MQ below (e_Qi D cA B res.1 res.2) args s 0 0 (e_A B)) (F0 m 13 ls []) := by
  obtain ⟨hx, hb, hml, hown, hts, hlk, hrt⟩ := id E
  intro f
  induction f with
  | zero => intro ls H locs S x0 x1 x2 x3 x4 hp hS hl hsh; cases hsh
  | succ f ih =>
    intro ls H locs S x0 x1 x2 x3 x4 hp hS hl hsh
    have hk13 : ∀ {ls : Array Slot} {H : Heap} {locs : List Loc} {S : HP} {x0 : Int} {x1 : Int} {x2 : Int} {x3 : Int} {x4 : Int} (hp : e_Pic D cA B S s H) (hS : va_S (e_A B) s.heap H locs) (hl : e_lo ls 5 [(0, e_rv B (x0)), (1, .int (iI (x1))), (2, .int (iI (x2))), (3, .int (iI (x3))), (4, .int (iI (x4)))]) (hsh : (s13_goesSought_l13 f) S x0 x1 x2 x3 x4 = some res), W p l e ({ frames := 2, cells := 0, slots := 0, locals := 46 } : Room) s m args below meth c H locs 0 0 (MQ below (e_Qi D cA B res.1 res.2) args s 0 0 (e_A B)) (F0 m 13 ls []) := ih
    generalize hkk : s13_goesSought_l13 f = k13 at hk13
    rw [s13_goesSought_l13] at hsh
    rw [hkk] at hsh
    try dsimp only at hsh
    refine lv_iload hx hb dX13_goesSought_13 (hl.at 4 rfl) ?_
    refine lv_sipush (v := iI (2440)) hx hb dX13_goesSought_15 (by decide +kernel) ?_
    refine e_icmp_gt (tgt := 154) hx hb dX13_goesSought_18 (by decide) (fun c18 => ?_) (fun c18 => ?_)
    · rw [if_pos c18] at hsh
      refine lv_iconst (v := iI (0)) hx hb dX13_goesSought_154 rfl ?_
      obtain ⟨hz, hz1, hz2⟩ := zR_some hsh
      rw [← hz1, ← hz2]
      exact e_zret hx hb hrt hlk hp hS hz dX13_goesSought_155
    · rw [if_neg c18] at hsh
      refine lv_iload_n hx hb dX13_goesSought_21 rfl (hl.at 3 rfl) ?_
      refine lv_iload_n hx hb dX13_goesSought_22 rfl (hl.at 1 rfl) ?_
      refine e_iadd hx hb dX13_goesSought_23 ?_
      refine e_istore_n (lv' := [(3, .int (iI ((x3 + x1)))), (0, e_rv B (x0)), (1, .int (iI (x1))), (2, .int (iI (x2))), (4, .int (iI (x4)))]) hx hb dX13_goesSought_24 rfl hl (by decide) rfl (fun ls hl => ?_)
      refine lv_iload_n hx hb dX13_goesSought_25 rfl (hl.at 0 rfl) ?_
      refine lv_iconst (v := iI (0)) hx hb dX13_goesSought_26 rfl ?_
      refine lv_iconst (v := iI (0)) hx hb dX13_goesSought_27 rfl ?_
      refine e_aload_n (B := B) (x := x0) hx hb dX13_goesSought_28 rfl (hl.at 1 rfl) ?_
      obtain ⟨v29, h29, hsh⟩ := Option.bind_eq_some_iff.mp hsh
      refine e_getR (k := 3) hx hb hts in_X13 hown hp h29 rfl (by decide) (by decide) rfl (hts _ kf13_17) rfl dX13_goesSought_29 ?_
      refine lv_iload_n hx hb dX13_goesSought_32 rfl (hl.at 3 rfl) ?_
      obtain ⟨v33, h33, hsh⟩ := Option.bind_eq_some_iff.mp hsh
      refine e_iald hx hb hp h33 dX13_goesSought_33 ?_
      refine lv_iconst (v := iI (1)) hx hb dX13_goesSought_34 rfl ?_
      refine e_isub hx hb dX13_goesSought_35 ?_
      obtain ⟨⟨v36, S36⟩, h36, hsh⟩ := Option.bind_eq_some_iff.mp hsh
      have hsh : _ = _ := hsh
      try dsimp only at hsh
      refine e_callS (nL := 5) (mc := 0) (ms := 0) (As := [.int (iI (0)), .int (iI ((v33 - 1)))]) (rest := [.int (iI (0)), .int (iI ((x3 + x1)))]) hx hb hml hown hts hp hS hl.size (c13_greater l D cA B S S36 (0) ((v33 - 1)) v36 h36) rfl rfl kd13_greater (kl13_210) ks13_greater ki13 kh13_greater ⟨Nat.le_of_ble_eq_true rfl, Nat.le_of_ble_eq_true rfl⟩ rfl (by simp [e_rv_cat, e_int_cat]) ⟨Nat.le_refl _, Nat.le_refl _⟩ dX13_goesSought_36 rfl (fun H locs hp hS => ?_)
      obtain ⟨⟨v39, S39⟩, h39, hsh⟩ := Option.bind_eq_some_iff.mp hsh
      have hsh : _ = _ := hsh
      try dsimp only at hsh
      refine e_callS (nL := 5) (mc := 0) (ms := 0) (As := [.int (iI ((x3 + x1))), .int (iI (0)), .int (iI (v36))]) (rest := []) hx hb hml hown hts hp hS hl.size (c13_isIn l D cA B S36 S39 ((x3 + x1)) (0) (v36) v39 h39) rfl rfl kd13_isIn (kl13_198) ks13_isIn ki13 kh13_isIn ⟨Nat.le_of_ble_eq_true rfl, Nat.le_of_ble_eq_true rfl⟩ rfl (by simp [e_rv_cat, e_int_cat]) ⟨Nat.le_refl _, Nat.le_refl _⟩ dX13_goesSought_39 rfl (fun H locs hp hS => ?_)
      refine e_if_ne (tgt := 113) hx hb dX13_goesSought_42 (by decide) (fun c42 => ?_) (fun c42 => ?_)
      · rw [if_neg c42] at hsh
        exact w13_goesSought_b113 (hk13 := hk13) E hp hS (hl.sub [1, 2, 3, 0, 4] rfl) hsh
      · rw [if_pos c42] at hsh
        refine lv_iload_n hx hb dX13_goesSought_45 rfl (hl.at 3 rfl) ?_
        refine lv_iload_n hx hb dX13_goesSought_46 rfl (hl.at 2 rfl) ?_
        refine e_iadd hx hb dX13_goesSought_47 ?_
        refine e_istore_n (lv' := [(2, .int (iI ((x2 + x1)))), (3, .int (iI ((x3 + x1)))), (0, e_rv B (x0)), (1, .int (iI (x1))), (4, .int (iI (x4)))]) hx hb dX13_goesSought_48 rfl hl (by decide) rfl (fun ls hl => ?_)
        refine lv_iload_n hx hb dX13_goesSought_49 rfl (hl.at 0 rfl) ?_
        refine lv_iconst (v := iI (0)) hx hb dX13_goesSought_50 rfl ?_
        refine e_aload_n (B := B) (x := x0) hx hb dX13_goesSought_51 rfl (hl.at 2 rfl) ?_
        obtain ⟨v52, h52, hsh⟩ := Option.bind_eq_some_iff.mp hsh
        refine e_getI (k := 2) hx hb hts in_X13 hown hp h52 rfl (by decide) (by decide) rfl (hts _ kf13_13) rfl dX13_goesSought_52 ?_
        refine lv_iconst (v := iI (1)) hx hb dX13_goesSought_55 rfl ?_
        refine e_isub hx hb dX13_goesSought_56 ?_
        obtain ⟨⟨v57, S57⟩, h57, hsh⟩ := Option.bind_eq_some_iff.mp hsh
        have hsh : _ = _ := hsh
        try dsimp only at hsh
        refine e_callS (nL := 5) (mc := 0) (ms := 0) (As := [.int (iI ((x2 + x1))), .int (iI (0)), .int (iI ((v52 - 1)))]) (rest := []) hx hb hml hown hts hp hS hl.size (c13_isIn l D cA B S39 S57 ((x2 + x1)) (0) ((v52 - 1)) v57 h57) rfl rfl kd13_isIn (kl13_198) ks13_isIn ki13 kh13_isIn ⟨Nat.le_of_ble_eq_true rfl, Nat.le_of_ble_eq_true rfl⟩ rfl (by simp [e_rv_cat, e_int_cat]) ⟨Nat.le_refl _, Nat.le_refl _⟩ dX13_goesSought_57 rfl (fun H locs hp hS => ?_)
        refine e_if_ne (tgt := 72) hx hb dX13_goesSought_60 (by decide) (fun c60 => ?_) (fun c60 => ?_)
        · rw [if_neg c60] at hsh
          exact w13_goesSought_b72 (hk13 := hk13) E hp hS (hl.sub [2, 3, 0, 4] rfl) hsh
        · rw [if_pos c60] at hsh
          refine e_aload_n (B := B) (x := x0) hx hb dX13_goesSought_63 rfl (hl.at 2 rfl) ?_
          obtain ⟨v64, h64, hsh⟩ := Option.bind_eq_some_iff.mp hsh
          refine e_getI (k := 32) hx hb hts in_X13 hown hp h64 rfl (by decide) (by decide) rfl (hts _ kf13_76) rfl dX13_goesSought_64 ?_
          refine e_if_ne (tgt := 72) hx hb dX13_goesSought_67 (by decide) (fun c67 => ?_) (fun c67 => ?_)
          · rw [if_neg c67] at hsh
            exact w13_goesSought_b72 (hk13 := hk13) E hp hS (hl.sub [2, 3, 0, 4] rfl) hsh
          · rw [if_pos c67] at hsh
            refine lv_iconst (v := iI (0)) hx hb dX13_goesSought_70 rfl ?_
            obtain ⟨hz, hz1, hz2⟩ := zR_some hsh
            rw [← hz1, ← hz2]
            exact e_zret hx hb hrt hlk hp hS hz dX13_goesSought_71
set_option maxRecDepth 100000 in
set_option maxHeartbeats 4000000 in
theorem c13_goesSought (l : Launch) (D : va_G) (cA : Nat → ClassId) (B : Nat) (S S' : HP) (x0 : Int) (x1 : Int) (r : Int) (hsh : s13_goesSought S x0 x1 = some (r, S')) : Met l yX13_goesSought (e_wu yX13_goesSought cX13_goesSought 5 (some .boolean)) ({ frames := 2, cells := 0, slots := 0, locals := 46 } : Room) (va_Pc [e_rv B (x0), .int (iI (x1))] (fun U => e_PU D cA B S U)) (e_Qi D cA B r S') 0 0 (e_A B) := by
  refine Met.ofW (cc := cX13_goesSought) (maxL := 5) (ret := (some .boolean)) (by decide +kernel) rfl ?_
  intro p e s m args below meth c s₁ Bd hml hv
  obtain ⟨rfl, hp⟩ := hv
  have hp : e_Pic D cA B S s s.heap := hp
  have hx := Bd.exec
  have hb := Bd.bytes
  have hrt := Bd.returns
  have hlk := Bd.notSynchronized
  have hown : s.vm.findClass RX13 = some m.cls := findClass_of_methodNamed Bd.named
  have hts : ∀ w ∈ e_tb, w.before ([e_rv B (x0), .int (iI (x1))] : List Value).toArray s = true := fun w h => atoms_spec (ws := (e_wu yX13_goesSought cX13_goesSought 5 (some .boolean))) Bd.pre w (List.mem_cons_of_mem _ h)
  have E : e_En p s m ([e_rv B (x0), .int (iI (x1))] : List Value).toArray meth c cX13_goesSought RX13 5 (some .boolean) := ⟨hx, hb, hml, hown, hts, hlk, hrt⟩
  have hS : va_S (e_A B) s.heap s.heap [] := va_S.rf
  have hl := e_entry (vs := [e_rv B (x0), .int (iI (x1))]) (n := 5) (Nat.le_of_ble_eq_true rfl) (e_cc (e_rv_cat _ _) (e_cc rfl e_cn))
  rw [lg_entry_eq]
  generalize (lg_sl [e_rv B (x0), .int (iI (x1))] ++ List.replicate (5 - (lg_sl [e_rv B (x0), .int (iI (x1))]).length) Slot.unset).toArray = ls at hl ⊢
  generalize ([e_rv B (x0), .int (iI (x1))] : List Value).toArray = args at hts E ⊢
  have hl : e_lo ls 5 [(0, e_rv B (x0)), (1, .int (iI (x1)))] := hl
  have hsh := (gd_some hsh).2
  refine e_aload_n (B := B) (x := x0) hx hb dX13_goesSought_0 rfl (hl.at 0 rfl) ?_
  obtain ⟨v1, h1, hsh⟩ := Option.bind_eq_some_iff.mp hsh
  refine e_getI (k := 46) hx hb hts in_X13 hown hp h1 rfl (by decide) (by decide) rfl (hts _ kf13_296) rfl dX13_goesSought_1 ?_
  refine e_istore_n (lv' := [(2, .int (iI (v1))), (0, e_rv B (x0)), (1, .int (iI (x1)))]) hx hb dX13_goesSought_4 rfl hl (by decide) rfl (fun ls hl => ?_)
  refine e_aload_n (B := B) (x := x0) hx hb dX13_goesSought_5 rfl (hl.at 1 rfl) ?_
  obtain ⟨v6, h6, hsh⟩ := Option.bind_eq_some_iff.mp hsh
  refine e_getI (k := 47) hx hb hts in_X13 hown hp h6 rfl (by decide) (by decide) rfl (hts _ kf13_299) rfl dX13_goesSought_6 ?_
  refine e_istore_n (lv' := [(3, .int (iI (v6))), (2, .int (iI (v1))), (0, e_rv B (x0)), (1, .int (iI (x1)))]) hx hb dX13_goesSought_9 rfl hl (by decide) rfl (fun ls hl => ?_)
  refine lv_iconst (v := iI (0)) hx hb dX13_goesSought_10 rfl ?_
  refine e_istore (lv' := [(4, .int (iI (0))), (3, .int (iI (v6))), (2, .int (iI (v1))), (0, e_rv B (x0)), (1, .int (iI (x1)))]) hx hb dX13_goesSought_11 hl (by decide) rfl (fun ls hl => ?_)
  exact w13_goesSought_l13 E 1000000 hp hS (hl.sub [3, 4, 2, 1, 0] rfl) hsh
theorem ok13_goesSoughts {S : HP} {x0 : Int} {x1 : Int} {x2 : Int} {r : Int × HP} (h : s13_goesSoughts S x0 x1 x2 = some r) : 0 ≤ x0 ∧ x0.toNat < e_n S ∧ e_g S x0.toNat = 13 := (gd_some h).1
set_option maxRecDepth 100000 in
set_option maxHeartbeats 4000000 in
theorem w13_goesSoughts_b27 {p : Program} {l : Launch} {e : Env} {s : State} {m : MethodId} {args : Array Value} {below : List Frame} {meth : Method} {c : Code} {D : va_G} {cA : Nat → ClassId} {B : Nat} {res : Int × HP} (E : e_En p s m args meth c cX13_goesSoughts RX13 5 (some .boolean)) {ls : Array Slot} {H : Heap} {locs : List Loc} {S : HP} {x3 : Int} (hp : e_Pic D cA B S s H) (hS : va_S (e_A B) s.heap H locs) (hl : e_lo ls 5 [(3, .int (iI (x3)))]) (hsh : s13_goesSoughts_b27 S x3 = some res) : W p l e ({ frames := 3, cells := 0, slots := 0, locals := 70 } : Room) s m args below meth c H locs 0 0 (MQ below (e_Qi D cA B res.1 res.2) args s 0 0 (e_A B)) (F0 m 27 ls []) := by
  obtain ⟨hx, hb, hml, hown, hts, hlk, hrt⟩ := id E
  unfold s13_goesSoughts_b27 at hsh
  refine lv_iload_n hx hb dX13_goesSoughts_27 rfl (hl.at 0 rfl) ?_
  obtain ⟨hz, hz1, hz2⟩ := zR_some hsh
  rw [← hz1, ← hz2]
  exact e_zret hx hb hrt hlk hp hS hz dX13_goesSoughts_28
set_option maxRecDepth 100000 in
set_option maxHeartbeats 4000000 in
theorem w13_goesSoughts_l5 {p : Program} {l : Launch} {e : Env} {s : State} {m : MethodId} {args : Array Value} {below : List Frame} {meth : Method} {c : Code} {D : va_G} {cA : Nat → ClassId} {B : Nat} {res : Int × HP} (E : e_En p s m args meth c cX13_goesSoughts RX13 5 (some .boolean)) : ∀ (f : Nat) {ls : Array Slot} {H : Heap} {locs : List Loc} {S : HP} {x0 : Int} {x1 : Int} {x2 : Int} {x3 : Int} {x4 : Int} (hp : e_Pic D cA B S s H) (hS : va_S (e_A B) s.heap H locs) (hl : e_lo ls 5 [(0, e_rv B (x0)), (1, .int (iI (x1))), (2, .int (iI (x2))), (3, .int (iI (x3))), (4, .int (iI (x4)))]) (hsh : s13_goesSoughts_l5 f S x0 x1 x2 x3 x4 = some res), W p l e ({ frames := 3, cells := 0, slots := 0, locals := 70 } : Room) s m args below meth c H locs 0 0 (MQ below (e_Qi D cA B res.1 res.2) args s 0 0 (e_A B)) (F0 m 5 ls []) := by
  obtain ⟨hx, hb, hml, hown, hts, hlk, hrt⟩ := id E
  intro f
  induction f with
  | zero => intro ls H locs S x0 x1 x2 x3 x4 hp hS hl hsh; cases hsh
  | succ f ih =>
    intro ls H locs S x0 x1 x2 x3 x4 hp hS hl hsh
    have hk5 : ∀ {ls : Array Slot} {H : Heap} {locs : List Loc} {S : HP} {x0 : Int} {x1 : Int} {x2 : Int} {x3 : Int} {x4 : Int} (hp : e_Pic D cA B S s H) (hS : va_S (e_A B) s.heap H locs) (hl : e_lo ls 5 [(0, e_rv B (x0)), (1, .int (iI (x1))), (2, .int (iI (x2))), (3, .int (iI (x3))), (4, .int (iI (x4)))]) (hsh : (s13_goesSoughts_l5 f) S x0 x1 x2 x3 x4 = some res), W p l e ({ frames := 3, cells := 0, slots := 0, locals := 70 } : Room) s m args below meth c H locs 0 0 (MQ below (e_Qi D cA B res.1 res.2) args s 0 0 (e_A B)) (F0 m 5 ls []) := ih
    generalize hkk : s13_goesSoughts_l5 f = k5 at hk5
    rw [s13_goesSoughts_l5] at hsh
    rw [hkk] at hsh
    try dsimp only at hsh
    refine lv_iload hx hb dX13_goesSoughts_5 (hl.at 4 rfl) ?_
    refine lv_iload_n hx hb dX13_goesSoughts_7 rfl (hl.at 2 rfl) ?_
    refine e_icmp_ge (tgt := 27) hx hb dX13_goesSoughts_8 (by decide) (fun c8 => ?_) (fun c8 => ?_)
    · rw [if_pos c8] at hsh
      exact w13_goesSoughts_b27 E hp hS (hl.sub [3] rfl) hsh
    · rw [if_neg c8] at hsh
      refine lv_iload_n hx hb dX13_goesSoughts_11 rfl (hl.at 3 rfl) ?_
      refine e_if_eq (tgt := 27) hx hb dX13_goesSoughts_12 (by decide) (fun c12 => ?_) (fun c12 => ?_)
      · rw [if_pos c12] at hsh
        exact w13_goesSoughts_b27 E hp hS (hl.sub [3] rfl) hsh
      · rw [if_neg c12] at hsh
        refine e_aload_n (B := B) (x := x0) hx hb dX13_goesSoughts_15 rfl (hl.at 0 rfl) ?_
        refine lv_iload_n hx hb dX13_goesSoughts_16 rfl (hl.at 1 rfl) ?_
        obtain ⟨⟨v17, S17⟩, h17, hsh⟩ := Option.bind_eq_some_iff.mp hsh
        have hsh : _ = _ := hsh
        try dsimp only at hsh
        have ok17 := ok13_goesSought h17
        refine e_callI (nL := 5) (mc := 0) (ms := 0) (T := TX13) (N := 126) (As := [.int (iI (x1))]) (rest := []) hx hb hml hown hts hp hS hl.size ok17.1 ok17.2.1 ok17.2.2 rfl (by decide) (c13_goesSought l D cA B S S17 (x0) (x1) v17 h17) rfl rfl kd13_goesSought (kl13_330) ks13_goesSought kv13_goesSought ki13 kh13_goesSought ⟨Nat.le_of_ble_eq_true rfl, Nat.le_of_ble_eq_true rfl⟩ rfl (by simp [e_rv_cat, e_int_cat]) ⟨Nat.le_refl _, Nat.le_refl _⟩ dX13_goesSoughts_17 rfl (fun H locs hp hS => ?_)
        refine e_istore_n (lv' := [(3, .int (iI (v17))), (0, e_rv B (x0)), (1, .int (iI (x1))), (2, .int (iI (x2))), (4, .int (iI (x4)))]) hx hb dX13_goesSoughts_20 rfl hl (by decide) rfl (fun ls hl => ?_)
        refine e_iinc (n := 1) (x := x4) (lv' := [(4, .int (iI ((x4 + 1)))), (3, .int (iI (v17))), (0, e_rv B (x0)), (1, .int (iI (x1))), (2, .int (iI (x2)))]) hx hb dX13_goesSoughts_21 hl (k := 4) rfl (by decide) rfl (fun ls hl => ?_)
        refine lv_goto (tgt := 5) hx hb dX13_goesSoughts_24 (by decide) ?_
        exact hk5 hp hS (hl.sub [2, 3, 4, 1, 0] rfl) hsh
set_option maxRecDepth 100000 in
set_option maxHeartbeats 4000000 in
theorem c13_goesSoughts (l : Launch) (D : va_G) (cA : Nat → ClassId) (B : Nat) (S S' : HP) (x0 : Int) (x1 : Int) (x2 : Int) (r : Int) (hsh : s13_goesSoughts S x0 x1 x2 = some (r, S')) : Met l yX13_goesSoughts (e_wu yX13_goesSoughts cX13_goesSoughts 5 (some .boolean)) ({ frames := 3, cells := 0, slots := 0, locals := 70 } : Room) (va_Pc [e_rv B (x0), .int (iI (x1)), .int (iI (x2))] (fun U => e_PU D cA B S U)) (e_Qi D cA B r S') 0 0 (e_A B) := by
  refine Met.ofW (cc := cX13_goesSoughts) (maxL := 5) (ret := (some .boolean)) (by decide +kernel) rfl ?_
  intro p e s m args below meth c s₁ Bd hml hv
  obtain ⟨rfl, hp⟩ := hv
  have hp : e_Pic D cA B S s s.heap := hp
  have hx := Bd.exec
  have hb := Bd.bytes
  have hrt := Bd.returns
  have hlk := Bd.notSynchronized
  have hown : s.vm.findClass RX13 = some m.cls := findClass_of_methodNamed Bd.named
  have hts : ∀ w ∈ e_tb, w.before ([e_rv B (x0), .int (iI (x1)), .int (iI (x2))] : List Value).toArray s = true := fun w h => atoms_spec (ws := (e_wu yX13_goesSoughts cX13_goesSoughts 5 (some .boolean))) Bd.pre w (List.mem_cons_of_mem _ h)
  have E : e_En p s m ([e_rv B (x0), .int (iI (x1)), .int (iI (x2))] : List Value).toArray meth c cX13_goesSoughts RX13 5 (some .boolean) := ⟨hx, hb, hml, hown, hts, hlk, hrt⟩
  have hS : va_S (e_A B) s.heap s.heap [] := va_S.rf
  have hl := e_entry (vs := [e_rv B (x0), .int (iI (x1)), .int (iI (x2))]) (n := 5) (Nat.le_of_ble_eq_true rfl) (e_cc (e_rv_cat _ _) (e_cc rfl (e_cc rfl e_cn)))
  rw [lg_entry_eq]
  generalize (lg_sl [e_rv B (x0), .int (iI (x1)), .int (iI (x2))] ++ List.replicate (5 - (lg_sl [e_rv B (x0), .int (iI (x1)), .int (iI (x2))]).length) Slot.unset).toArray = ls at hl ⊢
  generalize ([e_rv B (x0), .int (iI (x1)), .int (iI (x2))] : List Value).toArray = args at hts E ⊢
  have hl : e_lo ls 5 [(0, e_rv B (x0)), (1, .int (iI (x1))), (2, .int (iI (x2)))] := hl
  have hsh := (gd_some hsh).2
  refine lv_iconst (v := iI (1)) hx hb dX13_goesSoughts_0 rfl ?_
  refine e_istore_n (lv' := [(3, .int (iI (1))), (0, e_rv B (x0)), (1, .int (iI (x1))), (2, .int (iI (x2)))]) hx hb dX13_goesSoughts_1 rfl hl (by decide) rfl (fun ls hl => ?_)
  refine lv_iconst (v := iI (0)) hx hb dX13_goesSoughts_2 rfl ?_
  refine e_istore (lv' := [(4, .int (iI (0))), (3, .int (iI (1))), (0, e_rv B (x0)), (1, .int (iI (x1))), (2, .int (iI (x2)))]) hx hb dX13_goesSoughts_3 hl (by decide) rfl (fun ls hl => ?_)
  exact w13_goesSoughts_l5 E 1000000 hp hS (hl.sub [2, 3, 4, 1, 0] rfl) hsh
set_option maxRecDepth 100000 in
set_option maxHeartbeats 4000000 in
theorem c13_other (l : Launch) (D : va_G) (cA : Nat → ClassId) (B : Nat) (S S' : HP) (x0 : Int) (r : Int) (hsh : s13_other S x0 = some (r, S')) : Met l yX13_other (e_wu yX13_other cX13_other 1 (some .int)) ({ frames := 0, cells := 0, slots := 0, locals := 0 } : Room) (va_Pc [.int (iI (x0))] (fun U => e_PU D cA B S U)) (e_Qi D cA B r S') 0 0 (e_A B) := by
  refine Met.ofW (cc := cX13_other) (maxL := 1) (ret := (some .int)) (by decide +kernel) rfl ?_
  intro p e s m args below meth c s₁ Bd hml hv
  obtain ⟨rfl, hp⟩ := hv
  have hp : e_Pic D cA B S s s.heap := hp
  have hx := Bd.exec
  have hb := Bd.bytes
  have hrt := Bd.returns
  have hlk := Bd.notSynchronized
  have hown : s.vm.findClass RX13 = some m.cls := findClass_of_methodNamed Bd.named
  have hts : ∀ w ∈ e_tb, w.before ([.int (iI (x0))] : List Value).toArray s = true := fun w h => atoms_spec (ws := (e_wu yX13_other cX13_other 1 (some .int))) Bd.pre w (List.mem_cons_of_mem _ h)
  have E : e_En p s m ([.int (iI (x0))] : List Value).toArray meth c cX13_other RX13 1 (some .int) := ⟨hx, hb, hml, hown, hts, hlk, hrt⟩
  have hS : va_S (e_A B) s.heap s.heap [] := va_S.rf
  have hl := e_entry (vs := [.int (iI (x0))]) (n := 1) (Nat.le_of_ble_eq_true rfl) (e_cc rfl e_cn)
  rw [lg_entry_eq]
  generalize (lg_sl [.int (iI (x0))] ++ List.replicate (1 - (lg_sl [.int (iI (x0))]).length) Slot.unset).toArray = ls at hl ⊢
  generalize ([.int (iI (x0))] : List Value).toArray = args at hts E ⊢
  have hl : e_lo ls 1 [(0, .int (iI (x0)))] := hl
  unfold s13_other at hsh
  refine lv_iload_n hx hb dX13_other_0 rfl (hl.at 0 rfl) ?_
  by_cases c1_0 : iW (x0) = 40
  · rw [if_pos c1_0] at hsh
    refine lv_lookup (off := 59) (tgt := 60) hx hb dX13_other_1 (by decide +kernel) (e_off_h c1_0.symm) (by decide) ?_
    refine lv_bipush (v := iI (41)) hx hb dX13_other_60 (by decide +kernel) ?_
    cases hsh
    exact e_iret hx hb hrt hlk hp hS dX13_other_62
  · rw [if_neg c1_0] at hsh
    by_cases c1_1 : iW (x0) = 41
    · rw [if_pos c1_1] at hsh
      refine lv_lookup (off := 62) (tgt := 63) hx hb dX13_other_1 (by decide +kernel) (e_off_s (fun q => c1_0 q.symm) (e_off_h c1_1.symm)) (by decide) ?_
      refine lv_bipush (v := iI (40)) hx hb dX13_other_63 (by decide +kernel) ?_
      cases hsh
      exact e_iret hx hb hrt hlk hp hS dX13_other_65
    · rw [if_neg c1_1] at hsh
      by_cases c1_2 : iW (x0) = 91
      · rw [if_pos c1_2] at hsh
        refine lv_lookup (off := 65) (tgt := 66) hx hb dX13_other_1 (by decide +kernel) (e_off_s (fun q => c1_0 q.symm) (e_off_s (fun q => c1_1 q.symm) (e_off_h c1_2.symm))) (by decide) ?_
        refine lv_bipush (v := iI (93)) hx hb dX13_other_66 (by decide +kernel) ?_
        cases hsh
        exact e_iret hx hb hrt hlk hp hS dX13_other_68
      · rw [if_neg c1_2] at hsh
        by_cases c1_3 : iW (x0) = 93
        · rw [if_pos c1_3] at hsh
          refine lv_lookup (off := 68) (tgt := 69) hx hb dX13_other_1 (by decide +kernel) (e_off_s (fun q => c1_0 q.symm) (e_off_s (fun q => c1_1 q.symm) (e_off_s (fun q => c1_2 q.symm) (e_off_h c1_3.symm)))) (by decide) ?_
          refine lv_bipush (v := iI (91)) hx hb dX13_other_69 (by decide +kernel) ?_
          cases hsh
          exact e_iret hx hb hrt hlk hp hS dX13_other_71
        · rw [if_neg c1_3] at hsh
          by_cases c1_4 : iW (x0) = 123
          · rw [if_pos c1_4] at hsh
            refine lv_lookup (off := 71) (tgt := 72) hx hb dX13_other_1 (by decide +kernel) (e_off_s (fun q => c1_0 q.symm) (e_off_s (fun q => c1_1 q.symm) (e_off_s (fun q => c1_2 q.symm) (e_off_s (fun q => c1_3 q.symm) (e_off_h c1_4.symm))))) (by decide) ?_
            refine lv_bipush (v := iI (125)) hx hb dX13_other_72 (by decide +kernel) ?_
            cases hsh
            exact e_iret hx hb hrt hlk hp hS dX13_other_74
          · rw [if_neg c1_4] at hsh
            by_cases c1_5 : iW (x0) = 125
            · rw [if_pos c1_5] at hsh
              refine lv_lookup (off := 74) (tgt := 75) hx hb dX13_other_1 (by decide +kernel) (e_off_s (fun q => c1_0 q.symm) (e_off_s (fun q => c1_1 q.symm) (e_off_s (fun q => c1_2 q.symm) (e_off_s (fun q => c1_3 q.symm) (e_off_s (fun q => c1_4 q.symm) (e_off_h c1_5.symm)))))) (by decide) ?_
              refine lv_bipush (v := iI (123)) hx hb dX13_other_75 (by decide +kernel) ?_
              cases hsh
              exact e_iret hx hb hrt hlk hp hS dX13_other_77
            · rw [if_neg c1_5] at hsh
              refine lv_lookup (off := 77) (tgt := 78) hx hb dX13_other_1 (by decide +kernel) (e_off_s (fun q => c1_0 q.symm) (e_off_s (fun q => c1_1 q.symm) (e_off_s (fun q => c1_2 q.symm) (e_off_s (fun q => c1_3 q.symm) (e_off_s (fun q => c1_4 q.symm) (e_off_s (fun q => c1_5 q.symm) rfl)))))) (by decide) ?_
              refine lv_iconst (v := iI (-1)) hx hb dX13_other_78 rfl ?_
              cases hsh
              exact e_iret hx hb hrt hlk hp hS dX13_other_79
set_option maxRecDepth 100000 in
set_option maxHeartbeats 4000000 in
theorem w13_opens_b23 {p : Program} {l : Launch} {e : Env} {s : State} {m : MethodId} {args : Array Value} {below : List Frame} {meth : Method} {c : Code} {D : va_G} {cA : Nat → ClassId} {B : Nat} {res : Int × HP} (E : e_En p s m args meth c cX13_opens RX13 1 (some .boolean)) {ls : Array Slot} {H : Heap} {locs : List Loc} {S : HP} {y0 : Int} (hp : e_Pic D cA B S s H) (hS : va_S (e_A B) s.heap H locs) (hl : e_lo ls 1 []) (hsh : s13_opens_b23 S y0 = some res) : W p l e ({ frames := 0, cells := 0, slots := 0, locals := 0 } : Room) s m args below meth c H locs 0 0 (MQ below (e_Qi D cA B res.1 res.2) args s 0 0 (e_A B)) (F0 m 23 ls [.int (iI (y0))]) := by
  obtain ⟨hx, hb, hml, hown, hts, hlk, hrt⟩ := id E
  unfold s13_opens_b23 at hsh
  obtain ⟨hz, hz1, hz2⟩ := zR_some hsh
  rw [← hz1, ← hz2]
  exact e_zret hx hb hrt hlk hp hS hz dX13_opens_23
set_option maxRecDepth 100000 in
set_option maxHeartbeats 4000000 in
theorem w13_opens_b18 {p : Program} {l : Launch} {e : Env} {s : State} {m : MethodId} {args : Array Value} {below : List Frame} {meth : Method} {c : Code} {D : va_G} {cA : Nat → ClassId} {B : Nat} {res : Int × HP} (E : e_En p s m args meth c cX13_opens RX13 1 (some .boolean)) {ls : Array Slot} {H : Heap} {locs : List Loc} {S : HP} (hp : e_Pic D cA B S s H) (hS : va_S (e_A B) s.heap H locs) (hl : e_lo ls 1 []) (hsh : s13_opens_b18 S  = some res) : W p l e ({ frames := 0, cells := 0, slots := 0, locals := 0 } : Room) s m args below meth c H locs 0 0 (MQ below (e_Qi D cA B res.1 res.2) args s 0 0 (e_A B)) (F0 m 18 ls []) := by
  obtain ⟨hx, hb, hml, hown, hts, hlk, hrt⟩ := id E
  unfold s13_opens_b18 at hsh
  refine lv_iconst (v := iI (1)) hx hb dX13_opens_18 rfl ?_
  refine lv_goto (tgt := 23) hx hb dX13_opens_19 (by decide) ?_
  exact w13_opens_b23 E hp hS (hl.sub [] rfl) hsh
set_option maxRecDepth 100000 in
set_option maxHeartbeats 4000000 in
theorem c13_opens (l : Launch) (D : va_G) (cA : Nat → ClassId) (B : Nat) (S S' : HP) (x0 : Int) (r : Int) (hsh : s13_opens S x0 = some (r, S')) : Met l yX13_opens (e_wu yX13_opens cX13_opens 1 (some .boolean)) ({ frames := 0, cells := 0, slots := 0, locals := 0 } : Room) (va_Pc [.int (iI (x0))] (fun U => e_PU D cA B S U)) (e_Qi D cA B r S') 0 0 (e_A B) := by
  refine Met.ofW (cc := cX13_opens) (maxL := 1) (ret := (some .boolean)) (by decide +kernel) rfl ?_
  intro p e s m args below meth c s₁ Bd hml hv
  obtain ⟨rfl, hp⟩ := hv
  have hp : e_Pic D cA B S s s.heap := hp
  have hx := Bd.exec
  have hb := Bd.bytes
  have hrt := Bd.returns
  have hlk := Bd.notSynchronized
  have hown : s.vm.findClass RX13 = some m.cls := findClass_of_methodNamed Bd.named
  have hts : ∀ w ∈ e_tb, w.before ([.int (iI (x0))] : List Value).toArray s = true := fun w h => atoms_spec (ws := (e_wu yX13_opens cX13_opens 1 (some .boolean))) Bd.pre w (List.mem_cons_of_mem _ h)
  have E : e_En p s m ([.int (iI (x0))] : List Value).toArray meth c cX13_opens RX13 1 (some .boolean) := ⟨hx, hb, hml, hown, hts, hlk, hrt⟩
  have hS : va_S (e_A B) s.heap s.heap [] := va_S.rf
  have hl := e_entry (vs := [.int (iI (x0))]) (n := 1) (Nat.le_of_ble_eq_true rfl) (e_cc rfl e_cn)
  rw [lg_entry_eq]
  generalize (lg_sl [.int (iI (x0))] ++ List.replicate (1 - (lg_sl [.int (iI (x0))]).length) Slot.unset).toArray = ls at hl ⊢
  generalize ([.int (iI (x0))] : List Value).toArray = args at hts E ⊢
  have hl : e_lo ls 1 [(0, .int (iI (x0)))] := hl
  unfold s13_opens at hsh
  refine lv_iload_n hx hb dX13_opens_0 rfl (hl.at 0 rfl) ?_
  refine lv_bipush (v := iI (40)) hx hb dX13_opens_1 (by decide +kernel) ?_
  refine e_icmp_eq (tgt := 18) hx hb dX13_opens_3 (by decide) (fun c3 => ?_) (fun c3 => ?_)
  · rw [if_pos c3] at hsh
    exact w13_opens_b18 E hp hS (hl.sub [] rfl) hsh
  · rw [if_neg c3] at hsh
    refine lv_iload_n hx hb dX13_opens_6 rfl (hl.at 0 rfl) ?_
    refine lv_bipush (v := iI (91)) hx hb dX13_opens_7 (by decide +kernel) ?_
    refine e_icmp_eq (tgt := 18) hx hb dX13_opens_9 (by decide) (fun c9 => ?_) (fun c9 => ?_)
    · rw [if_pos c9] at hsh
      exact w13_opens_b18 E hp hS (hl.sub [] rfl) hsh
    · rw [if_neg c9] at hsh
      refine lv_iload_n hx hb dX13_opens_12 rfl (hl.at 0 rfl) ?_
      refine lv_bipush (v := iI (123)) hx hb dX13_opens_13 (by decide +kernel) ?_
      refine e_icmp_ne (tgt := 22) hx hb dX13_opens_15 (by decide) (fun c15 => ?_) (fun c15 => ?_)
      · rw [if_neg c15] at hsh
        refine lv_iconst (v := iI (0)) hx hb dX13_opens_22 rfl ?_
        exact w13_opens_b23 E hp hS (hl.sub [] rfl) hsh
      · rw [if_pos c15] at hsh
        exact w13_opens_b18 E hp hS (hl.sub [] rfl) hsh
theorem ok13_goesMatch {S : HP} {x0 : Int} {x1 : Int} {x2 : Int} {x3 : Int} {x4 : Int} {r : Int × HP} (h : s13_goesMatch S x0 x1 x2 x3 x4 = some r) : 0 ≤ x0 ∧ x0.toNat < e_n S ∧ e_g S x0.toNat = 13 := (gd_some h).1
set_option maxRecDepth 100000 in
set_option maxHeartbeats 4000000 in
theorem w13_goesMatch_b159 {p : Program} {l : Launch} {e : Env} {s : State} {m : MethodId} {args : Array Value} {below : List Frame} {meth : Method} {c : Code} {D : va_G} {cA : Nat → ClassId} {B : Nat} {res : Int × HP} {k16 : HP → Int → Int → Int → Int → Int → Int → Int → Option (Int × HP)} (hk16 : ∀ {ls : Array Slot} {H : Heap} {locs : List Loc} {S : HP} {x0 : Int} {x1 : Int} {x2 : Int} {x3 : Int} {x5 : Int} {x6 : Int} {x7 : Int} (hp : e_Pic D cA B S s H) (hS : va_S (e_A B) s.heap H locs) (hl : e_lo ls 8 [(0, e_rv B (x0)), (1, .int (iI (x1))), (2, .int (iI (x2))), (3, .int (iI (x3))), (5, .int (iI (x5))), (6, .int (iI (x6))), (7, .int (iI (x7)))]) (hsh : k16 S x0 x1 x2 x3 x5 x6 x7 = some res), W p l e ({ frames := 1, cells := 0, slots := 0, locals := 22 } : Room) s m args below meth c H locs 0 0 (MQ below (e_Qi D cA B res.1 res.2) args s 0 0 (e_A B)) (F0 m 16 ls [])) (E : e_En p s m args meth c cX13_goesMatch RX13 8 (some .boolean)) {ls : Array Slot} {H : Heap} {locs : List Loc} {S : HP} {x0 : Int} {x1 : Int} {x2 : Int} {x3 : Int} {x5 : Int} {x6 : Int} {y0 : Int} {y1 : Int} (hp : e_Pic D cA B S s H) (hS : va_S (e_A B) s.heap H locs) (hl : e_lo ls 8 [(0, e_rv B (x0)), (1, .int (iI (x1))), (2, .int (iI (x2))), (3, .int (iI (x3))), (5, .int (iI (x5))), (6, .int (iI (x6)))]) (hsh : s13_goesMatch_b159 k16 S x0 x1 x2 x3 x5 x6 y0 y1 = some res) : W p l e ({ frames := 1, cells := 0, slots := 0, locals := 22 } : Room) s m args below meth c H locs 0 0 (MQ below (e_Qi D cA B res.1 res.2) args s 0 0 (e_A B)) (F0 m 159 ls [.int (iI (y1)), .int (iI (y0))]) := by
  obtain ⟨hx, hb, hml, hown, hts, hlk, hrt⟩ := id E
  unfold s13_goesMatch_b159 at hsh
  refine e_iadd hx hb dX13_goesMatch_159 ?_
  refine e_istore (lv' := [(7, .int (iI ((y0 + y1)))), (0, e_rv B (x0)), (1, .int (iI (x1))), (2, .int (iI (x2))), (3, .int (iI (x3))), (5, .int (iI (x5))), (6, .int (iI (x6)))]) hx hb dX13_goesMatch_160 hl (by decide) rfl (fun ls hl => ?_)
  refine lv_goto (tgt := 16) hx hb dX13_goesMatch_162 (by decide) ?_
  exact hk16 hp hS (hl.sub [1, 2, 3, 4, 5, 6, 0] rfl) hsh
set_option maxRecDepth 100000 in
set_option maxHeartbeats 4000000 in
theorem w13_goesMatch_b107 {p : Program} {l : Launch} {e : Env} {s : State} {m : MethodId} {args : Array Value} {below : List Frame} {meth : Method} {c : Code} {D : va_G} {cA : Nat → ClassId} {B : Nat} {res : Int × HP} {k16 : HP → Int → Int → Int → Int → Int → Int → Int → Option (Int × HP)} (hk16 : ∀ {ls : Array Slot} {H : Heap} {locs : List Loc} {S : HP} {x0 : Int} {x1 : Int} {x2 : Int} {x3 : Int} {x5 : Int} {x6 : Int} {x7 : Int} (hp : e_Pic D cA B S s H) (hS : va_S (e_A B) s.heap H locs) (hl : e_lo ls 8 [(0, e_rv B (x0)), (1, .int (iI (x1))), (2, .int (iI (x2))), (3, .int (iI (x3))), (5, .int (iI (x5))), (6, .int (iI (x6))), (7, .int (iI (x7)))]) (hsh : k16 S x0 x1 x2 x3 x5 x6 x7 = some res), W p l e ({ frames := 1, cells := 0, slots := 0, locals := 22 } : Room) s m args below meth c H locs 0 0 (MQ below (e_Qi D cA B res.1 res.2) args s 0 0 (e_A B)) (F0 m 16 ls [])) (E : e_En p s m args meth c cX13_goesMatch RX13 8 (some .boolean)) {ls : Array Slot} {H : Heap} {locs : List Loc} {S : HP} {x0 : Int} {x1 : Int} {x2 : Int} {x3 : Int} {x5 : Int} {x6 : Int} {x7 : Int} (hp : e_Pic D cA B S s H) (hS : va_S (e_A B) s.heap H locs) (hl : e_lo ls 8 [(0, e_rv B (x0)), (1, .int (iI (x1))), (2, .int (iI (x2))), (3, .int (iI (x3))), (5, .int (iI (x5))), (6, .int (iI (x6))), (7, .int (iI (x7)))]) (hsh : s13_goesMatch_b107 k16 S x0 x1 x2 x3 x5 x6 x7 = some res) : W p l e ({ frames := 1, cells := 0, slots := 0, locals := 22 } : Room) s m args below meth c H locs 0 0 (MQ below (e_Qi D cA B res.1 res.2) args s 0 0 (e_A B)) (F0 m 107 ls []) := by
  obtain ⟨hx, hb, hml, hown, hts, hlk, hrt⟩ := id E
  unfold s13_goesMatch_b107 at hsh
  refine lv_iload hx hb dX13_goesMatch_107 (hl.at 4 rfl) ?_
  refine lv_iconst (v := iI (0)) hx hb dX13_goesMatch_109 rfl ?_
  refine e_aload_n (B := B) (x := x0) hx hb dX13_goesMatch_110 rfl (hl.at 0 rfl) ?_
  obtain ⟨v111, h111, hsh⟩ := Option.bind_eq_some_iff.mp hsh
  refine e_getI (k := 2) hx hb hts in_X13 hown hp h111 rfl (by decide) (by decide) rfl (hts _ kf13_13) rfl dX13_goesMatch_111 ?_
  refine lv_iconst (v := iI (1)) hx hb dX13_goesMatch_114 rfl ?_
  refine e_isub hx hb dX13_goesMatch_115 ?_
  obtain ⟨⟨v116, S116⟩, h116, hsh⟩ := Option.bind_eq_some_iff.mp hsh
  have hsh : _ = _ := hsh
  try dsimp only at hsh
  refine e_callS (nL := 8) (mc := 0) (ms := 0) (As := [.int (iI (x5)), .int (iI (0)), .int (iI ((v111 - 1)))]) (rest := []) hx hb hml hown hts hp hS hl.size (c13_isIn l D cA B S S116 (x5) (0) ((v111 - 1)) v116 h116) rfl rfl kd13_isIn (kl13_198) ks13_isIn ki13 kh13_isIn ⟨Nat.le_of_ble_eq_true rfl, Nat.le_of_ble_eq_true rfl⟩ rfl (by simp [e_rv_cat, e_int_cat]) ⟨Nat.le_refl _, Nat.le_refl _⟩ dX13_goesMatch_116 rfl (fun H locs hp hS => ?_)
  refine e_if_ne (tgt := 124) hx hb dX13_goesMatch_119 (by decide) (fun c119 => ?_) (fun c119 => ?_)
  · rw [if_neg c119] at hsh
    refine lv_iload hx hb dX13_goesMatch_124 (hl.at 6 rfl) ?_
    refine e_aload_n (B := B) (x := x0) hx hb dX13_goesMatch_126 rfl (hl.at 0 rfl) ?_
    refine lv_iload hx hb dX13_goesMatch_127 (hl.at 4 rfl) ?_
    refine lv_iload hx hb dX13_goesMatch_129 (hl.at 5 rfl) ?_
    obtain ⟨⟨v131, S131⟩, h131, hsh⟩ := Option.bind_eq_some_iff.mp hsh
    have hsh : _ = _ := hsh
    try dsimp only at hsh
    have ok131 := ok13_at h131
    refine e_callI (nL := 8) (mc := 0) (ms := 0) (T := TX13) (N := 126) (As := [.int (iI (x5)), .int (iI (x6))]) (rest := [.int (iI (x7))]) hx hb hml hown hts hp hS hl.size ok131.1 ok131.2.1 ok131.2.2 rfl (by decide) (c13_at l D cA B S116 S131 (x0) (x5) (x6) v131 h131) rfl rfl kd13_at (kl13_206) ks13_at kv13_at ki13 kh13_at ⟨Nat.le_of_ble_eq_true rfl, Nat.le_of_ble_eq_true rfl⟩ rfl (by simp [e_rv_cat, e_int_cat]) ⟨Nat.le_refl _, Nat.le_refl _⟩ dX13_goesMatch_131 rfl (fun H locs hp hS => ?_)
    refine lv_iload_n hx hb dX13_goesMatch_134 rfl (hl.at 1 rfl) ?_
    refine e_icmp_ne (tgt := 142) hx hb dX13_goesMatch_135 (by decide) (fun c135 => ?_) (fun c135 => ?_)
    · rw [if_neg c135] at hsh
      refine e_aload_n (B := B) (x := x0) hx hb dX13_goesMatch_142 rfl (hl.at 0 rfl) ?_
      refine lv_iload hx hb dX13_goesMatch_143 (hl.at 4 rfl) ?_
      refine lv_iload hx hb dX13_goesMatch_145 (hl.at 5 rfl) ?_
      obtain ⟨⟨v147, S147⟩, h147, hsh⟩ := Option.bind_eq_some_iff.mp hsh
      have hsh : _ = _ := hsh
      try dsimp only at hsh
      have ok147 := ok13_at h147
      refine e_callI (nL := 8) (mc := 0) (ms := 0) (T := TX13) (N := 126) (As := [.int (iI (x5)), .int (iI (x6))]) (rest := [.int (iI (x7))]) hx hb hml hown hts hp hS hl.size ok147.1 ok147.2.1 ok147.2.2 rfl (by decide) (c13_at l D cA B S131 S147 (x0) (x5) (x6) v147 h147) rfl rfl kd13_at (kl13_206) ks13_at kv13_at ki13 kh13_at ⟨Nat.le_of_ble_eq_true rfl, Nat.le_of_ble_eq_true rfl⟩ rfl (by simp [e_rv_cat, e_int_cat]) ⟨Nat.le_refl _, Nat.le_refl _⟩ dX13_goesMatch_147 rfl (fun H locs hp hS => ?_)
      refine lv_iload_n hx hb dX13_goesMatch_150 rfl (hl.at 2 rfl) ?_
      refine e_icmp_ne (tgt := 158) hx hb dX13_goesMatch_151 (by decide) (fun c151 => ?_) (fun c151 => ?_)
      · rw [if_neg c151] at hsh
        refine lv_iconst (v := iI (0)) hx hb dX13_goesMatch_158 rfl ?_
        exact w13_goesMatch_b159 (hk16 := hk16) E hp hS (hl.sub [0, 1, 2, 3, 4, 5] rfl) hsh
      · rw [if_pos c151] at hsh
        refine lv_iconst (v := iI (-1)) hx hb dX13_goesMatch_154 rfl ?_
        refine lv_goto (tgt := 159) hx hb dX13_goesMatch_155 (by decide) ?_
        exact w13_goesMatch_b159 (hk16 := hk16) E hp hS (hl.sub [0, 1, 2, 3, 4, 5] rfl) hsh
    · rw [if_pos c135] at hsh
      refine lv_iconst (v := iI (1)) hx hb dX13_goesMatch_138 rfl ?_
      refine lv_goto (tgt := 159) hx hb dX13_goesMatch_139 (by decide) ?_
      exact w13_goesMatch_b159 (hk16 := hk16) E hp hS (hl.sub [0, 1, 2, 3, 4, 5] rfl) hsh
  · rw [if_pos c119] at hsh
    refine lv_iconst (v := iI (0)) hx hb dX13_goesMatch_122 rfl ?_
    obtain ⟨hz, hz1, hz2⟩ := zR_some hsh
    rw [← hz1, ← hz2]
    exact e_zret hx hb hrt hlk hp hS hz dX13_goesMatch_123
set_option maxRecDepth 100000 in
set_option maxHeartbeats 4000000 in
theorem w13_goesMatch_b102 {p : Program} {l : Launch} {e : Env} {s : State} {m : MethodId} {args : Array Value} {below : List Frame} {meth : Method} {c : Code} {D : va_G} {cA : Nat → ClassId} {B : Nat} {res : Int × HP} {k16 : HP → Int → Int → Int → Int → Int → Int → Int → Option (Int × HP)} (hk16 : ∀ {ls : Array Slot} {H : Heap} {locs : List Loc} {S : HP} {x0 : Int} {x1 : Int} {x2 : Int} {x3 : Int} {x5 : Int} {x6 : Int} {x7 : Int} (hp : e_Pic D cA B S s H) (hS : va_S (e_A B) s.heap H locs) (hl : e_lo ls 8 [(0, e_rv B (x0)), (1, .int (iI (x1))), (2, .int (iI (x2))), (3, .int (iI (x3))), (5, .int (iI (x5))), (6, .int (iI (x6))), (7, .int (iI (x7)))]) (hsh : k16 S x0 x1 x2 x3 x5 x6 x7 = some res), W p l e ({ frames := 1, cells := 0, slots := 0, locals := 22 } : Room) s m args below meth c H locs 0 0 (MQ below (e_Qi D cA B res.1 res.2) args s 0 0 (e_A B)) (F0 m 16 ls [])) {k27 : HP → Int → Int → Int → Int → Int → Int → Int → Option (Int × HP)} (hk27 : ∀ {ls : Array Slot} {H : Heap} {locs : List Loc} {S : HP} {x0 : Int} {x1 : Int} {x2 : Int} {x3 : Int} {x5 : Int} {x6 : Int} {x7 : Int} (hp : e_Pic D cA B S s H) (hS : va_S (e_A B) s.heap H locs) (hl : e_lo ls 8 [(0, e_rv B (x0)), (1, .int (iI (x1))), (2, .int (iI (x2))), (3, .int (iI (x3))), (5, .int (iI (x5))), (6, .int (iI (x6))), (7, .int (iI (x7)))]) (hsh : k27 S x0 x1 x2 x3 x5 x6 x7 = some res), W p l e ({ frames := 1, cells := 0, slots := 0, locals := 22 } : Room) s m args below meth c H locs 0 0 (MQ below (e_Qi D cA B res.1 res.2) args s 0 0 (e_A B)) (F0 m 27 ls [])) (E : e_En p s m args meth c cX13_goesMatch RX13 8 (some .boolean)) {ls : Array Slot} {H : Heap} {locs : List Loc} {S : HP} {x0 : Int} {x1 : Int} {x2 : Int} {x3 : Int} {x5 : Int} {x7 : Int} {y0 : Int} (hp : e_Pic D cA B S s H) (hS : va_S (e_A B) s.heap H locs) (hl : e_lo ls 8 [(0, e_rv B (x0)), (1, .int (iI (x1))), (2, .int (iI (x2))), (3, .int (iI (x3))), (5, .int (iI (x5))), (7, .int (iI (x7)))]) (hsh : s13_goesMatch_b102 k16 k27 S x0 x1 x2 x3 x5 x7 y0 = some res) : W p l e ({ frames := 1, cells := 0, slots := 0, locals := 22 } : Room) s m args below meth c H locs 0 0 (MQ below (e_Qi D cA B res.1 res.2) args s 0 0 (e_A B)) (F0 m 102 ls [.int (iI (y0))]) := by
  obtain ⟨hx, hb, hml, hown, hts, hlk, hrt⟩ := id E
  unfold s13_goesMatch_b102 at hsh
  refine e_istore (lv' := [(6, .int (iI (y0))), (0, e_rv B (x0)), (1, .int (iI (x1))), (2, .int (iI (x2))), (3, .int (iI (x3))), (5, .int (iI (x5))), (7, .int (iI (x7)))]) hx hb dX13_goesMatch_102 hl (by decide) rfl (fun ls hl => ?_)
  refine lv_goto (tgt := 27) hx hb dX13_goesMatch_104 (by decide) ?_
  exact hk27 hp hS (hl.sub [1, 2, 3, 4, 5, 0, 6] rfl) hsh
set_option maxRecDepth 100000 in
set_option maxHeartbeats 4000000 in
theorem w13_goesMatch_l27 {p : Program} {l : Launch} {e : Env} {s : State} {m : MethodId} {args : Array Value} {below : List Frame} {meth : Method} {c : Code} {D : va_G} {cA : Nat → ClassId} {B : Nat} {res : Int × HP} {k16 : HP → Int → Int → Int → Int → Int → Int → Int → Option (Int × HP)} (hk16 : ∀ {ls : Array Slot} {H : Heap} {locs : List Loc} {S : HP} {x0 : Int} {x1 : Int} {x2 : Int} {x3 : Int} {x5 : Int} {x6 : Int} {x7 : Int} (hp : e_Pic D cA B S s H) (hS : va_S (e_A B) s.heap H locs) (hl : e_lo ls 8 [(0, e_rv B (x0)), (1, .int (iI (x1))), (2, .int (iI (x2))), (3, .int (iI (x3))), (5, .int (iI (x5))), (6, .int (iI (x6))), (7, .int (iI (x7)))]) (hsh : k16 S x0 x1 x2 x3 x5 x6 x7 = some res), W p l e ({ frames := 1, cells := 0, slots := 0, locals := 22 } : Room) s m args below meth c H locs 0 0 (MQ below (e_Qi D cA B res.1 res.2) args s 0 0 (e_A B)) (F0 m 16 ls [])) (E : e_En p s m args meth c cX13_goesMatch RX13 8 (some .boolean)) : ∀ (f : Nat) {ls : Array Slot} {H : Heap} {locs : List Loc} {S : HP} {x0 : Int} {x1 : Int} {x2 : Int} {x3 : Int} {x5 : Int} {x6 : Int} {x7 : Int} (hp : e_Pic D cA B S s H) (hS : va_S (e_A B) s.heap H locs) (hl : e_lo ls 8 [(0, e_rv B (x0)), (1, .int (iI (x1))), (2, .int (iI (x2))), (3, .int (iI (x3))), (5, .int (iI (x5))), (6, .int (iI (x6))), (7, .int (iI (x7)))]) (hsh : s13_goesMatch_l27 k16 f S x0 x1 x2 x3 x5 x6 x7 = some res), W p l e ({ frames := 1, cells := 0, slots := 0, locals := 22 } : Room) s m args below meth c H locs 0 0 (MQ below (e_Qi D cA B res.1 res.2) args s 0 0 (e_A B)) (F0 m 27 ls []) := by
  obtain ⟨hx, hb, hml, hown, hts, hlk, hrt⟩ := id E
  intro f
  induction f with
  | zero => intro ls H locs S x0 x1 x2 x3 x5 x6 x7 hp hS hl hsh; cases hsh
  | succ f ih =>
    intro ls H locs S x0 x1 x2 x3 x5 x6 x7 hp hS hl hsh
    have hk27 : ∀ {ls : Array Slot} {H : Heap} {locs : List Loc} {S : HP} {x0 : Int} {x1 : Int} {x2 : Int} {x3 : Int} {x5 : Int} {x6 : Int} {x7 : Int} (hp : e_Pic D cA B S s H) (hS : va_S (e_A B) s.heap H locs) (hl : e_lo ls 8 [(0, e_rv B (x0)), (1, .int (iI (x1))), (2, .int (iI (x2))), (3, .int (iI (x3))), (5, .int (iI (x5))), (6, .int (iI (x6))), (7, .int (iI (x7)))]) (hsh : (s13_goesMatch_l27 k16 f) S x0 x1 x2 x3 x5 x6 x7 = some res), W p l e ({ frames := 1, cells := 0, slots := 0, locals := 22 } : Room) s m args below meth c H locs 0 0 (MQ below (e_Qi D cA B res.1 res.2) args s 0 0 (e_A B)) (F0 m 27 ls []) := ih
    generalize hkk : s13_goesMatch_l27 k16 f = k27 at hk27
    rw [s13_goesMatch_l27] at hsh
    rw [hkk] at hsh
    try dsimp only at hsh
    refine lv_iload hx hb dX13_goesMatch_27 (hl.at 4 rfl) ?_
    refine lv_iconst (v := iI (0)) hx hb dX13_goesMatch_29 rfl ?_
    refine e_aload_n (B := B) (x := x0) hx hb dX13_goesMatch_30 rfl (hl.at 0 rfl) ?_
    obtain ⟨v31, h31, hsh⟩ := Option.bind_eq_some_iff.mp hsh
    refine e_getI (k := 2) hx hb hts in_X13 hown hp h31 rfl (by decide) (by decide) rfl (hts _ kf13_13) rfl dX13_goesMatch_31 ?_
    refine lv_iconst (v := iI (1)) hx hb dX13_goesMatch_34 rfl ?_
    refine e_isub hx hb dX13_goesMatch_35 ?_
    obtain ⟨⟨v36, S36⟩, h36, hsh⟩ := Option.bind_eq_some_iff.mp hsh
    have hsh : _ = _ := hsh
    try dsimp only at hsh
    refine e_callS (nL := 8) (mc := 0) (ms := 0) (As := [.int (iI (x5)), .int (iI (0)), .int (iI ((v31 - 1)))]) (rest := []) hx hb hml hown hts hp hS hl.size (c13_isIn l D cA B S S36 (x5) (0) ((v31 - 1)) v36 h36) rfl rfl kd13_isIn (kl13_198) ks13_isIn ki13 kh13_isIn ⟨Nat.le_of_ble_eq_true rfl, Nat.le_of_ble_eq_true rfl⟩ rfl (by simp [e_rv_cat, e_int_cat]) ⟨Nat.le_refl _, Nat.le_refl _⟩ dX13_goesMatch_36 rfl (fun H locs hp hS => ?_)
    refine e_if_eq (tgt := 107) hx hb dX13_goesMatch_39 (by decide) (fun c39 => ?_) (fun c39 => ?_)
    · rw [if_pos c39] at hsh
      exact w13_goesMatch_b107 (hk16 := hk16) E hp hS (hl.sub [0, 1, 2, 3, 4, 5, 6] rfl) hsh
    · rw [if_neg c39] at hsh
      refine lv_iload hx hb dX13_goesMatch_42 (hl.at 5 rfl) ?_
      refine lv_iconst (v := iI (0)) hx hb dX13_goesMatch_44 rfl ?_
      refine e_aload_n (B := B) (x := x0) hx hb dX13_goesMatch_45 rfl (hl.at 0 rfl) ?_
      obtain ⟨v46, h46, hsh⟩ := Option.bind_eq_some_iff.mp hsh
      refine e_getR (k := 3) hx hb hts in_X13 hown hp h46 rfl (by decide) (by decide) rfl (hts _ kf13_17) rfl dX13_goesMatch_46 ?_
      refine lv_iload hx hb dX13_goesMatch_49 (hl.at 4 rfl) ?_
      obtain ⟨v51, h51, hsh⟩ := Option.bind_eq_some_iff.mp hsh
      refine e_iald hx hb hp h51 dX13_goesMatch_51 ?_
      refine lv_iconst (v := iI (1)) hx hb dX13_goesMatch_52 rfl ?_
      refine e_isub hx hb dX13_goesMatch_53 ?_
      obtain ⟨⟨v54, S54⟩, h54, hsh⟩ := Option.bind_eq_some_iff.mp hsh
      have hsh : _ = _ := hsh
      try dsimp only at hsh
      refine e_callS (nL := 8) (mc := 0) (ms := 0) (As := [.int (iI (x6)), .int (iI (0)), .int (iI ((v51 - 1)))]) (rest := []) hx hb hml hown hts hp hS hl.size (c13_isIn l D cA B S36 S54 (x6) (0) ((v51 - 1)) v54 h54) rfl rfl kd13_isIn (kl13_198) ks13_isIn ki13 kh13_isIn ⟨Nat.le_of_ble_eq_true rfl, Nat.le_of_ble_eq_true rfl⟩ rfl (by simp [e_rv_cat, e_int_cat]) ⟨Nat.le_refl _, Nat.le_refl _⟩ dX13_goesMatch_54 rfl (fun H locs hp hS => ?_)
      refine e_if_ne (tgt := 107) hx hb dX13_goesMatch_57 (by decide) (fun c57 => ?_) (fun c57 => ?_)
      · rw [if_neg c57] at hsh
        exact w13_goesMatch_b107 (hk16 := hk16) E hp hS (hl.sub [0, 1, 2, 3, 4, 5, 6] rfl) hsh
      · rw [if_pos c57] at hsh
        refine lv_iload hx hb dX13_goesMatch_60 (hl.at 4 rfl) ?_
        refine lv_iload_n hx hb dX13_goesMatch_62 rfl (hl.at 3 rfl) ?_
        refine e_iadd hx hb dX13_goesMatch_63 ?_
        refine e_istore (lv' := [(5, .int (iI ((x5 + x3)))), (0, e_rv B (x0)), (1, .int (iI (x1))), (2, .int (iI (x2))), (3, .int (iI (x3))), (6, .int (iI (x6))), (7, .int (iI (x7)))]) hx hb dX13_goesMatch_64 hl (by decide) rfl (fun ls hl => ?_)
        refine lv_iload hx hb dX13_goesMatch_66 (hl.at 0 rfl) ?_
        refine lv_iconst (v := iI (0)) hx hb dX13_goesMatch_68 rfl ?_
        refine e_aload_n (B := B) (x := x0) hx hb dX13_goesMatch_69 rfl (hl.at 1 rfl) ?_
        obtain ⟨v70, h70, hsh⟩ := Option.bind_eq_some_iff.mp hsh
        refine e_getI (k := 2) hx hb hts in_X13 hown hp h70 rfl (by decide) (by decide) rfl (hts _ kf13_13) rfl dX13_goesMatch_70 ?_
        refine lv_iconst (v := iI (1)) hx hb dX13_goesMatch_73 rfl ?_
        refine e_isub hx hb dX13_goesMatch_74 ?_
        obtain ⟨⟨v75, S75⟩, h75, hsh⟩ := Option.bind_eq_some_iff.mp hsh
        have hsh : _ = _ := hsh
        try dsimp only at hsh
        refine e_callS (nL := 8) (mc := 0) (ms := 0) (As := [.int (iI ((x5 + x3))), .int (iI (0)), .int (iI ((v70 - 1)))]) (rest := []) hx hb hml hown hts hp hS hl.size (c13_isIn l D cA B S54 S75 ((x5 + x3)) (0) ((v70 - 1)) v75 h75) rfl rfl kd13_isIn (kl13_198) ks13_isIn ki13 kh13_isIn ⟨Nat.le_of_ble_eq_true rfl, Nat.le_of_ble_eq_true rfl⟩ rfl (by simp [e_rv_cat, e_int_cat]) ⟨Nat.le_refl _, Nat.le_refl _⟩ dX13_goesMatch_75 rfl (fun H locs hp hS => ?_)
        refine e_if_eq (tgt := 101) hx hb dX13_goesMatch_78 (by decide) (fun c78 => ?_) (fun c78 => ?_)
        · rw [if_pos c78] at hsh
          refine lv_iconst (v := iI (0)) hx hb dX13_goesMatch_101 rfl ?_
          exact w13_goesMatch_b102 (hk16 := hk16) (hk27 := hk27) E hp hS (hl.sub [1, 2, 3, 4, 0, 6] rfl) hsh
        · rw [if_neg c78] at hsh
          refine lv_iload_n hx hb dX13_goesMatch_81 rfl (hl.at 4 rfl) ?_
          refine e_if_le (tgt := 89) hx hb dX13_goesMatch_82 (by decide) (fun c82 => ?_) (fun c82 => ?_)
          · rw [if_pos c82] at hsh
            refine e_aload_n (B := B) (x := x0) hx hb dX13_goesMatch_89 rfl (hl.at 1 rfl) ?_
            obtain ⟨v90, h90, hsh⟩ := Option.bind_eq_some_iff.mp hsh
            refine e_getR (k := 3) hx hb hts in_X13 hown hp h90 rfl (by decide) (by decide) rfl (hts _ kf13_17) rfl dX13_goesMatch_90 ?_
            refine lv_iload hx hb dX13_goesMatch_93 (hl.at 0 rfl) ?_
            obtain ⟨v95, h95, hsh⟩ := Option.bind_eq_some_iff.mp hsh
            refine e_iald hx hb hp h95 dX13_goesMatch_95 ?_
            refine lv_iconst (v := iI (1)) hx hb dX13_goesMatch_96 rfl ?_
            refine e_isub hx hb dX13_goesMatch_97 ?_
            refine lv_goto (tgt := 102) hx hb dX13_goesMatch_98 (by decide) ?_
            exact w13_goesMatch_b102 (hk16 := hk16) (hk27 := hk27) E hp hS (hl.sub [1, 2, 3, 4, 0, 6] rfl) hsh
          · rw [if_neg c82] at hsh
            refine lv_iconst (v := iI (0)) hx hb dX13_goesMatch_85 rfl ?_
            refine lv_goto (tgt := 102) hx hb dX13_goesMatch_86 (by decide) ?_
            exact w13_goesMatch_b102 (hk16 := hk16) (hk27 := hk27) E hp hS (hl.sub [1, 2, 3, 4, 0, 6] rfl) hsh
set_option maxRecDepth 100000 in
set_option maxHeartbeats 4000000 in
theorem w13_goesMatch_l16 {p : Program} {l : Launch} {e : Env} {s : State} {m : MethodId} {args : Array Value} {below : List Frame} {meth : Method} {c : Code} {D : va_G} {cA : Nat → ClassId} {B : Nat} {res : Int × HP} (E : e_En p s m args meth c cX13_goesMatch RX13 8 (some .boolean)) : ∀ (f : Nat) {ls : Array Slot} {H : Heap} {locs : List Loc} {S : HP} {x0 : Int} {x1 : Int} {x2 : Int} {x3 : Int} {x5 : Int} {x6 : Int} {x7 : Int} (hp : e_Pic D cA B S s H) (hS : va_S (e_A B) s.heap H locs) (hl : e_lo ls 8 [(0, e_rv B (x0)), (1, .int (iI (x1))), (2, .int (iI (x2))), (3, .int (iI (x3))), (5, .int (iI (x5))), (6, .int (iI (x6))), (7, .int (iI (x7)))]) (hsh : s13_goesMatch_l16 f S x0 x1 x2 x3 x5 x6 x7 = some res), W p l e ({ frames := 1, cells := 0, slots := 0, locals := 22 } : Room) s m args below meth c H locs 0 0 (MQ below (e_Qi D cA B res.1 res.2) args s 0 0 (e_A B)) (F0 m 16 ls []) := by
  obtain ⟨hx, hb, hml, hown, hts, hlk, hrt⟩ := id E
  intro f
  induction f with
  | zero => intro ls H locs S x0 x1 x2 x3 x5 x6 x7 hp hS hl hsh; cases hsh
  | succ f ih =>
    intro ls H locs S x0 x1 x2 x3 x5 x6 x7 hp hS hl hsh
    have hk16 : ∀ {ls : Array Slot} {H : Heap} {locs : List Loc} {S : HP} {x0 : Int} {x1 : Int} {x2 : Int} {x3 : Int} {x5 : Int} {x6 : Int} {x7 : Int} (hp : e_Pic D cA B S s H) (hS : va_S (e_A B) s.heap H locs) (hl : e_lo ls 8 [(0, e_rv B (x0)), (1, .int (iI (x1))), (2, .int (iI (x2))), (3, .int (iI (x3))), (5, .int (iI (x5))), (6, .int (iI (x6))), (7, .int (iI (x7)))]) (hsh : (s13_goesMatch_l16 f) S x0 x1 x2 x3 x5 x6 x7 = some res), W p l e ({ frames := 1, cells := 0, slots := 0, locals := 22 } : Room) s m args below meth c H locs 0 0 (MQ below (e_Qi D cA B res.1 res.2) args s 0 0 (e_A B)) (F0 m 16 ls []) := ih
    generalize hkk : s13_goesMatch_l16 f = k16 at hk16
    rw [s13_goesMatch_l16] at hsh
    rw [hkk] at hsh
    try dsimp only at hsh
    refine lv_iload hx hb dX13_goesMatch_16 (hl.at 6 rfl) ?_
    refine e_if_le (tgt := 165) hx hb dX13_goesMatch_18 (by decide) (fun c18 => ?_) (fun c18 => ?_)
    · rw [if_pos c18] at hsh
      refine e_aload_n (B := B) (x := x0) hx hb dX13_goesMatch_165 rfl (hl.at 0 rfl) ?_
      refine lv_iload hx hb dX13_goesMatch_166 (hl.at 4 rfl) ?_
      refine lv_iload hx hb dX13_goesMatch_168 (hl.at 5 rfl) ?_
      obtain ⟨S170, h170, hsh⟩ := Option.bind_eq_some_iff.mp hsh
      have ok170 := ok13_reaches h170
      refine e_callV (nL := 8) (mc := 0) (ms := 0) (T := TX13) (N := 126) (As := [.int (iI (x5)), .int (iI (x6))]) (rest := []) hx hb hml hown hts hp hS hl.size ok170.1 ok170.2.1 ok170.2.2 rfl (by decide) (c13_reaches l D cA B S S170 (x0) (x5) (x6) h170) rfl rfl kd13_reaches (kl13_306) ks13_reaches kv13_reaches ki13 kh13_reaches ⟨Nat.le_of_ble_eq_true rfl, Nat.le_of_ble_eq_true rfl⟩ rfl (by simp [e_rv_cat, e_int_cat]) ⟨Nat.le_refl _, Nat.le_refl _⟩ dX13_goesMatch_170 rfl (fun H locs hp hS => ?_)
      refine lv_iconst (v := iI (1)) hx hb dX13_goesMatch_173 rfl ?_
      obtain ⟨hz, hz1, hz2⟩ := zR_some hsh
      rw [← hz1, ← hz2]
      exact e_zret hx hb hrt hlk hp hS hz dX13_goesMatch_174
    · rw [if_neg c18] at hsh
      refine lv_iload hx hb dX13_goesMatch_21 (hl.at 5 rfl) ?_
      refine lv_iload_n hx hb dX13_goesMatch_23 rfl (hl.at 3 rfl) ?_
      refine e_iadd hx hb dX13_goesMatch_24 ?_
      refine e_istore (lv' := [(6, .int (iI ((x6 + x3)))), (0, e_rv B (x0)), (1, .int (iI (x1))), (2, .int (iI (x2))), (3, .int (iI (x3))), (5, .int (iI (x5))), (7, .int (iI (x7)))]) hx hb dX13_goesMatch_25 hl (by decide) rfl (fun ls hl => ?_)
      exact w13_goesMatch_l27 (hk16 := hk16) E 1000000 hp hS (hl.sub [1, 2, 3, 4, 5, 0, 6] rfl) hsh
set_option maxRecDepth 100000 in
set_option maxHeartbeats 4000000 in
theorem c13_goesMatch (l : Launch) (D : va_G) (cA : Nat → ClassId) (B : Nat) (S S' : HP) (x0 : Int) (x1 : Int) (x2 : Int) (x3 : Int) (x4 : Int) (r : Int) (hsh : s13_goesMatch S x0 x1 x2 x3 x4 = some (r, S')) : Met l yX13_goesMatch (e_wu yX13_goesMatch cX13_goesMatch 8 (some .boolean)) ({ frames := 1, cells := 0, slots := 0, locals := 22 } : Room) (va_Pc [e_rv B (x0), .int (iI (x1)), .int (iI (x2)), .int (iI (x3)), .int (iI (x4))] (fun U => e_PU D cA B S U)) (e_Qi D cA B r S') 0 0 (e_A B) := by
  refine Met.ofW (cc := cX13_goesMatch) (maxL := 8) (ret := (some .boolean)) (by decide +kernel) rfl ?_
  intro p e s m args below meth c s₁ Bd hml hv
  obtain ⟨rfl, hp⟩ := hv
  have hp : e_Pic D cA B S s s.heap := hp
  have hx := Bd.exec
  have hb := Bd.bytes
  have hrt := Bd.returns
  have hlk := Bd.notSynchronized
  have hown : s.vm.findClass RX13 = some m.cls := findClass_of_methodNamed Bd.named
  have hts : ∀ w ∈ e_tb, w.before ([e_rv B (x0), .int (iI (x1)), .int (iI (x2)), .int (iI (x3)), .int (iI (x4))] : List Value).toArray s = true := fun w h => atoms_spec (ws := (e_wu yX13_goesMatch cX13_goesMatch 8 (some .boolean))) Bd.pre w (List.mem_cons_of_mem _ h)
  have E : e_En p s m ([e_rv B (x0), .int (iI (x1)), .int (iI (x2)), .int (iI (x3)), .int (iI (x4))] : List Value).toArray meth c cX13_goesMatch RX13 8 (some .boolean) := ⟨hx, hb, hml, hown, hts, hlk, hrt⟩
  have hS : va_S (e_A B) s.heap s.heap [] := va_S.rf
  have hl := e_entry (vs := [e_rv B (x0), .int (iI (x1)), .int (iI (x2)), .int (iI (x3)), .int (iI (x4))]) (n := 8) (Nat.le_of_ble_eq_true rfl) (e_cc (e_rv_cat _ _) (e_cc rfl (e_cc rfl (e_cc rfl (e_cc rfl e_cn)))))
  rw [lg_entry_eq]
  generalize (lg_sl [e_rv B (x0), .int (iI (x1)), .int (iI (x2)), .int (iI (x3)), .int (iI (x4))] ++ List.replicate (8 - (lg_sl [e_rv B (x0), .int (iI (x1)), .int (iI (x2)), .int (iI (x3)), .int (iI (x4))]).length) Slot.unset).toArray = ls at hl ⊢
  generalize ([e_rv B (x0), .int (iI (x1)), .int (iI (x2)), .int (iI (x3)), .int (iI (x4))] : List Value).toArray = args at hts E ⊢
  have hl : e_lo ls 8 [(0, e_rv B (x0)), (1, .int (iI (x1))), (2, .int (iI (x2))), (3, .int (iI (x3))), (4, .int (iI (x4)))] := hl
  have hsh := (gd_some hsh).2
  refine e_aload_n (B := B) (x := x0) hx hb dX13_goesMatch_0 rfl (hl.at 0 rfl) ?_
  obtain ⟨v1, h1, hsh⟩ := Option.bind_eq_some_iff.mp hsh
  refine e_getI (k := 46) hx hb hts in_X13 hown hp h1 rfl (by decide) (by decide) rfl (hts _ kf13_296) rfl dX13_goesMatch_1 ?_
  refine e_istore (lv' := [(5, .int (iI (v1))), (0, e_rv B (x0)), (1, .int (iI (x1))), (2, .int (iI (x2))), (3, .int (iI (x3))), (4, .int (iI (x4)))]) hx hb dX13_goesMatch_4 hl (by decide) rfl (fun ls hl => ?_)
  refine e_aload_n (B := B) (x := x0) hx hb dX13_goesMatch_6 rfl (hl.at 1 rfl) ?_
  obtain ⟨v7, h7, hsh⟩ := Option.bind_eq_some_iff.mp hsh
  refine e_getI (k := 47) hx hb hts in_X13 hown hp h7 rfl (by decide) (by decide) rfl (hts _ kf13_299) rfl dX13_goesMatch_7 ?_
  refine e_istore (lv' := [(6, .int (iI (v7))), (5, .int (iI (v1))), (0, e_rv B (x0)), (1, .int (iI (x1))), (2, .int (iI (x2))), (3, .int (iI (x3))), (4, .int (iI (x4)))]) hx hb dX13_goesMatch_10 hl (by decide) rfl (fun ls hl => ?_)
  refine lv_iload hx hb dX13_goesMatch_12 (hl.at 6 rfl) ?_
  refine e_istore (lv' := [(7, .int (iI (x4))), (6, .int (iI (v7))), (5, .int (iI (v1))), (0, e_rv B (x0)), (1, .int (iI (x1))), (2, .int (iI (x2))), (3, .int (iI (x3))), (4, .int (iI (x4)))]) hx hb dX13_goesMatch_14 hl (by decide) rfl (fun ls hl => ?_)
  exact w13_goesMatch_l16 E 1000000 hp hS (hl.sub [3, 4, 5, 6, 2, 1, 0] rfl) hsh
theorem ok13_goesBracket {S : HP} {x0 : Int} {r : Int × HP} (h : s13_goesBracket S x0 = some r) : 0 ≤ x0 ∧ x0.toNat < e_n S ∧ e_g S x0.toNat = 13 := (gd_some h).1
set_option maxRecDepth 100000 in
set_option maxHeartbeats 4000000 in
theorem w13_goesBracket_b88 {p : Program} {l : Launch} {e : Env} {s : State} {m : MethodId} {args : Array Value} {below : List Frame} {meth : Method} {c : Code} {D : va_G} {cA : Nat → ClassId} {B : Nat} {res : Int × HP} (E : e_En p s m args meth c cX13_goesBracket RX13 3 (some .boolean)) {ls : Array Slot} {H : Heap} {locs : List Loc} {S : HP} {y0 : Int} {y1 : Int} {y2 : Int} {y3 : Int} (hp : e_Pic D cA B S s H) (hS : va_S (e_A B) s.heap H locs) (hl : e_lo ls 3 []) (hsh : s13_goesBracket_b88 S y0 y1 y2 y3 = some res) : W p l e ({ frames := 2, cells := 0, slots := 0, locals := 49 } : Room) s m args below meth c H locs 0 0 (MQ below (e_Qi D cA B res.1 res.2) args s 0 0 (e_A B)) (F0 m 88 ls [.int (iI (y3)), .int (iI (y2)), .int (iI (y1)), e_rv B (y0)]) := by
  obtain ⟨hx, hb, hml, hown, hts, hlk, hrt⟩ := id E
  unfold s13_goesBracket_b88 at hsh
  refine lv_iconst (v := iI (1)) hx hb dX13_goesBracket_88 rfl ?_
  obtain ⟨⟨v89, S89⟩, h89, hsh⟩ := Option.bind_eq_some_iff.mp hsh
  have hsh : _ = _ := hsh
  try dsimp only at hsh
  have ok89 := ok13_goesMatch h89
  refine e_callI (nL := 3) (mc := 0) (ms := 0) (T := TX13) (N := 126) (As := [.int (iI (y1)), .int (iI (y2)), .int (iI (y3)), .int (iI (1))]) (rest := []) hx hb hml hown hts hp hS hl.size ok89.1 ok89.2.1 ok89.2.2 rfl (by decide) (c13_goesMatch l D cA B S S89 (y0) (y1) (y2) (y3) (1) v89 h89) rfl rfl kd13_goesMatch (kl13_339) ks13_goesMatch kv13_goesMatch ki13 kh13_goesMatch ⟨Nat.le_of_ble_eq_true rfl, Nat.le_of_ble_eq_true rfl⟩ rfl (by simp [e_rv_cat, e_int_cat]) ⟨Nat.le_refl _, Nat.le_refl _⟩ dX13_goesBracket_89 rfl (fun H locs hp hS => ?_)
  obtain ⟨hz, hz1, hz2⟩ := zR_some hsh
  rw [← hz1, ← hz2]
  exact e_zret hx hb hrt hlk hp hS hz dX13_goesBracket_92
set_option maxRecDepth 100000 in
set_option maxHeartbeats 4000000 in
theorem w13_goesBracket_b40 {p : Program} {l : Launch} {e : Env} {s : State} {m : MethodId} {args : Array Value} {below : List Frame} {meth : Method} {c : Code} {D : va_G} {cA : Nat → ClassId} {B : Nat} {res : Int × HP} (E : e_En p s m args meth c cX13_goesBracket RX13 3 (some .boolean)) {ls : Array Slot} {H : Heap} {locs : List Loc} {S : HP} {x0 : Int} {x1 : Int} (hp : e_Pic D cA B S s H) (hS : va_S (e_A B) s.heap H locs) (hl : e_lo ls 3 [(0, e_rv B (x0)), (1, .int (iI (x1)))]) (hsh : s13_goesBracket_b40 S x0 x1 = some res) : W p l e ({ frames := 2, cells := 0, slots := 0, locals := 49 } : Room) s m args below meth c H locs 0 0 (MQ below (e_Qi D cA B res.1 res.2) args s 0 0 (e_A B)) (F0 m 40 ls []) := by
  obtain ⟨hx, hb, hml, hown, hts, hlk, hrt⟩ := id E
  unfold s13_goesBracket_b40 at hsh
  refine lv_iload_n hx hb dX13_goesBracket_40 rfl (hl.at 1 rfl) ?_
  refine e_aload_n (B := B) (x := x0) hx hb dX13_goesBracket_41 rfl (hl.at 0 rfl) ?_
  obtain ⟨v42, h42, hsh⟩ := Option.bind_eq_some_iff.mp hsh
  refine e_getR (k := 3) hx hb hts in_X13 hown hp h42 rfl (by decide) (by decide) rfl (hts _ kf13_17) rfl dX13_goesBracket_42 ?_
  refine e_aload_n (B := B) (x := x0) hx hb dX13_goesBracket_45 rfl (hl.at 0 rfl) ?_
  obtain ⟨v46, h46, hsh⟩ := Option.bind_eq_some_iff.mp hsh
  refine e_getI (k := 46) hx hb hts in_X13 hown hp h46 rfl (by decide) (by decide) rfl (hts _ kf13_296) rfl dX13_goesBracket_46 ?_
  obtain ⟨v49, h49, hsh⟩ := Option.bind_eq_some_iff.mp hsh
  refine e_iald hx hb hp h49 dX13_goesBracket_49 ?_
  refine e_icmp_lt (tgt := 55) hx hb dX13_goesBracket_50 (by decide) (fun c50 => ?_) (fun c50 => ?_)
  · rw [if_pos c50] at hsh
    refine e_aload_n (B := B) (x := x0) hx hb dX13_goesBracket_55 rfl (hl.at 0 rfl) ?_
    refine e_aload_n (B := B) (x := x0) hx hb dX13_goesBracket_56 rfl (hl.at 0 rfl) ?_
    obtain ⟨v57, h57, hsh⟩ := Option.bind_eq_some_iff.mp hsh
    refine e_getI (k := 46) hx hb hts in_X13 hown hp h57 rfl (by decide) (by decide) rfl (hts _ kf13_296) rfl dX13_goesBracket_57 ?_
    refine lv_iload_n hx hb dX13_goesBracket_60 rfl (hl.at 1 rfl) ?_
    obtain ⟨⟨v61, S61⟩, h61, hsh⟩ := Option.bind_eq_some_iff.mp hsh
    have hsh : _ = _ := hsh
    try dsimp only at hsh
    have ok61 := ok13_at h61
    refine e_callI (nL := 3) (mc := 0) (ms := 0) (T := TX13) (N := 126) (As := [.int (iI (v57)), .int (iI (x1))]) (rest := []) hx hb hml hown hts hp hS hl.size ok61.1 ok61.2.1 ok61.2.2 rfl (by decide) (c13_at l D cA B S S61 (x0) (v57) (x1) v61 h61) rfl rfl kd13_at (kl13_206) ks13_at kv13_at ki13 kh13_at ⟨Nat.le_of_ble_eq_true rfl, Nat.le_of_ble_eq_true rfl⟩ rfl (by simp [e_rv_cat, e_int_cat]) ⟨Nat.le_refl _, Nat.le_refl _⟩ dX13_goesBracket_61 rfl (fun H locs hp hS => ?_)
    refine e_istore_n (lv' := [(2, .int (iI (v61))), (0, e_rv B (x0)), (1, .int (iI (x1)))]) hx hb dX13_goesBracket_64 rfl hl (by decide) rfl (fun ls hl => ?_)
    refine e_aload_n (B := B) (x := x0) hx hb dX13_goesBracket_65 rfl (hl.at 1 rfl) ?_
    refine lv_iload_n hx hb dX13_goesBracket_66 rfl (hl.at 2 rfl) ?_
    obtain ⟨S67, h67, hsh⟩ := Option.bind_eq_some_iff.mp hsh
    refine e_putI (k := 47) hx hb hts in_X13 tyX13 tyX13_ok nmX13 hown hp hS h67 rfl (by decide) (by decide) rfl (hts _ kf13_299) rfl rfl (by decide +kernel) dX13_goesBracket_67 (fun H locs hp hS => ?_)
    refine e_aload_n (B := B) (x := x0) hx hb dX13_goesBracket_70 rfl (hl.at 1 rfl) ?_
    refine lv_iload_n hx hb dX13_goesBracket_71 rfl (hl.at 0 rfl) ?_
    refine lv_iload_n hx hb dX13_goesBracket_72 rfl (hl.at 0 rfl) ?_
    obtain ⟨⟨v73, S73⟩, h73, hsh⟩ := Option.bind_eq_some_iff.mp hsh
    have hsh : _ = _ := hsh
    try dsimp only at hsh
    refine e_callS (nL := 3) (mc := 0) (ms := 0) (As := [.int (iI (v61))]) (rest := [.int (iI (v61)), e_rv B (x0)]) hx hb hml hown hts hp hS hl.size (c13_other l D cA B S67 S73 (v61) v73 h73) rfl rfl kd13_other (kl13_333) ks13_other ki13 kh13_other ⟨Nat.le_of_ble_eq_true rfl, Nat.le_of_ble_eq_true rfl⟩ rfl (by simp [e_rv_cat, e_int_cat]) ⟨Nat.le_refl _, Nat.le_refl _⟩ dX13_goesBracket_73 rfl (fun H locs hp hS => ?_)
    refine lv_iload_n hx hb dX13_goesBracket_76 rfl (hl.at 0 rfl) ?_
    obtain ⟨⟨v77, S77⟩, h77, hsh⟩ := Option.bind_eq_some_iff.mp hsh
    have hsh : _ = _ := hsh
    try dsimp only at hsh
    refine e_callS (nL := 3) (mc := 0) (ms := 0) (As := [.int (iI (v61))]) (rest := [.int (iI (v73)), .int (iI (v61)), e_rv B (x0)]) hx hb hml hown hts hp hS hl.size (c13_opens l D cA B S73 S77 (v61) v77 h77) rfl rfl kd13_opens (kl13_336) ks13_opens ki13 kh13_opens ⟨Nat.le_of_ble_eq_true rfl, Nat.le_of_ble_eq_true rfl⟩ rfl (by simp [e_rv_cat, e_int_cat]) ⟨Nat.le_refl _, Nat.le_refl _⟩ dX13_goesBracket_77 rfl (fun H locs hp hS => ?_)
    refine e_if_eq (tgt := 87) hx hb dX13_goesBracket_80 (by decide) (fun c80 => ?_) (fun c80 => ?_)
    · rw [if_pos c80] at hsh
      refine lv_iconst (v := iI (-1)) hx hb dX13_goesBracket_87 rfl ?_
      exact w13_goesBracket_b88 E hp hS (hl.sub [] rfl) hsh
    · rw [if_neg c80] at hsh
      refine lv_iconst (v := iI (1)) hx hb dX13_goesBracket_83 rfl ?_
      refine lv_goto (tgt := 88) hx hb dX13_goesBracket_84 (by decide) ?_
      exact w13_goesBracket_b88 E hp hS (hl.sub [] rfl) hsh
  · rw [if_neg c50] at hsh
    refine lv_iconst (v := iI (0)) hx hb dX13_goesBracket_53 rfl ?_
    obtain ⟨hz, hz1, hz2⟩ := zR_some hsh
    rw [← hz1, ← hz2]
    exact e_zret hx hb hrt hlk hp hS hz dX13_goesBracket_54
set_option maxRecDepth 100000 in
set_option maxHeartbeats 4000000 in
theorem w13_goesBracket_l5 {p : Program} {l : Launch} {e : Env} {s : State} {m : MethodId} {args : Array Value} {below : List Frame} {meth : Method} {c : Code} {D : va_G} {cA : Nat → ClassId} {B : Nat} {res : Int × HP} (E : e_En p s m args meth c cX13_goesBracket RX13 3 (some .boolean)) : ∀ (f : Nat) {ls : Array Slot} {H : Heap} {locs : List Loc} {S : HP} {x0 : Int} {x1 : Int} (hp : e_Pic D cA B S s H) (hS : va_S (e_A B) s.heap H locs) (hl : e_lo ls 3 [(0, e_rv B (x0)), (1, .int (iI (x1)))]) (hsh : s13_goesBracket_l5 f S x0 x1 = some res), W p l e ({ frames := 2, cells := 0, slots := 0, locals := 49 } : Room) s m args below meth c H locs 0 0 (MQ below (e_Qi D cA B res.1 res.2) args s 0 0 (e_A B)) (F0 m 5 ls []) := by
  obtain ⟨hx, hb, hml, hown, hts, hlk, hrt⟩ := id E
  intro f
  induction f with
  | zero => intro ls H locs S x0 x1 hp hS hl hsh; cases hsh
  | succ f ih =>
    intro ls H locs S x0 x1 hp hS hl hsh
    have hk5 : ∀ {ls : Array Slot} {H : Heap} {locs : List Loc} {S : HP} {x0 : Int} {x1 : Int} (hp : e_Pic D cA B S s H) (hS : va_S (e_A B) s.heap H locs) (hl : e_lo ls 3 [(0, e_rv B (x0)), (1, .int (iI (x1)))]) (hsh : (s13_goesBracket_l5 f) S x0 x1 = some res), W p l e ({ frames := 2, cells := 0, slots := 0, locals := 49 } : Room) s m args below meth c H locs 0 0 (MQ below (e_Qi D cA B res.1 res.2) args s 0 0 (e_A B)) (F0 m 5 ls []) := ih
    generalize hkk : s13_goesBracket_l5 f = k5 at hk5
    rw [s13_goesBracket_l5] at hsh
    rw [hkk] at hsh
    try dsimp only at hsh
    refine lv_iload_n hx hb dX13_goesBracket_5 rfl (hl.at 1 rfl) ?_
    refine e_aload_n (B := B) (x := x0) hx hb dX13_goesBracket_6 rfl (hl.at 0 rfl) ?_
    obtain ⟨v7, h7, hsh⟩ := Option.bind_eq_some_iff.mp hsh
    refine e_getR (k := 3) hx hb hts in_X13 hown hp h7 rfl (by decide) (by decide) rfl (hts _ kf13_17) rfl dX13_goesBracket_7 ?_
    refine e_aload_n (B := B) (x := x0) hx hb dX13_goesBracket_10 rfl (hl.at 0 rfl) ?_
    obtain ⟨v11, h11, hsh⟩ := Option.bind_eq_some_iff.mp hsh
    refine e_getI (k := 46) hx hb hts in_X13 hown hp h11 rfl (by decide) (by decide) rfl (hts _ kf13_296) rfl dX13_goesBracket_11 ?_
    obtain ⟨v14, h14, hsh⟩ := Option.bind_eq_some_iff.mp hsh
    refine e_iald hx hb hp h14 dX13_goesBracket_14 ?_
    refine e_icmp_ge (tgt := 40) hx hb dX13_goesBracket_15 (by decide) (fun c15 => ?_) (fun c15 => ?_)
    · rw [if_pos c15] at hsh
      exact w13_goesBracket_b40 E hp hS (hl.sub [0, 1] rfl) hsh
    · rw [if_neg c15] at hsh
      refine e_aload_n (B := B) (x := x0) hx hb dX13_goesBracket_18 rfl (hl.at 0 rfl) ?_
      refine e_aload_n (B := B) (x := x0) hx hb dX13_goesBracket_19 rfl (hl.at 0 rfl) ?_
      obtain ⟨v20, h20, hsh⟩ := Option.bind_eq_some_iff.mp hsh
      refine e_getI (k := 46) hx hb hts in_X13 hown hp h20 rfl (by decide) (by decide) rfl (hts _ kf13_296) rfl dX13_goesBracket_20 ?_
      refine lv_iload_n hx hb dX13_goesBracket_23 rfl (hl.at 1 rfl) ?_
      obtain ⟨⟨v24, S24⟩, h24, hsh⟩ := Option.bind_eq_some_iff.mp hsh
      have hsh : _ = _ := hsh
      try dsimp only at hsh
      have ok24 := ok13_at h24
      refine e_callI (nL := 3) (mc := 0) (ms := 0) (T := TX13) (N := 126) (As := [.int (iI (v20)), .int (iI (x1))]) (rest := []) hx hb hml hown hts hp hS hl.size ok24.1 ok24.2.1 ok24.2.2 rfl (by decide) (c13_at l D cA B S S24 (x0) (v20) (x1) v24 h24) rfl rfl kd13_at (kl13_206) ks13_at kv13_at ki13 kh13_at ⟨Nat.le_of_ble_eq_true rfl, Nat.le_of_ble_eq_true rfl⟩ rfl (by simp [e_rv_cat, e_int_cat]) ⟨Nat.le_refl _, Nat.le_refl _⟩ dX13_goesBracket_24 rfl (fun H locs hp hS => ?_)
      obtain ⟨⟨v27, S27⟩, h27, hsh⟩ := Option.bind_eq_some_iff.mp hsh
      have hsh : _ = _ := hsh
      try dsimp only at hsh
      refine e_callS (nL := 3) (mc := 0) (ms := 0) (As := [.int (iI (v24))]) (rest := []) hx hb hml hown hts hp hS hl.size (c13_other l D cA B S24 S27 (v24) v27 h27) rfl rfl kd13_other (kl13_333) ks13_other ki13 kh13_other ⟨Nat.le_of_ble_eq_true rfl, Nat.le_of_ble_eq_true rfl⟩ rfl (by simp [e_rv_cat, e_int_cat]) ⟨Nat.le_refl _, Nat.le_refl _⟩ dX13_goesBracket_27 rfl (fun H locs hp hS => ?_)
      refine lv_iconst (v := iI (-1)) hx hb dX13_goesBracket_30 rfl ?_
      refine e_icmp_ne (tgt := 40) hx hb dX13_goesBracket_31 (by decide) (fun c31 => ?_) (fun c31 => ?_)
      · rw [if_neg c31] at hsh
        exact w13_goesBracket_b40 E hp hS (hl.sub [0, 1] rfl) hsh
      · rw [if_pos c31] at hsh
        refine e_iinc (n := 1) (x := x1) (lv' := [(1, .int (iI ((x1 + 1)))), (0, e_rv B (x0))]) hx hb dX13_goesBracket_34 hl (k := 1) rfl (by decide) rfl (fun ls hl => ?_)
        refine lv_goto (tgt := 5) hx hb dX13_goesBracket_37 (by decide) ?_
        exact hk5 hp hS (hl.sub [1, 0] rfl) hsh
set_option maxRecDepth 100000 in
set_option maxHeartbeats 4000000 in
theorem c13_goesBracket (l : Launch) (D : va_G) (cA : Nat → ClassId) (B : Nat) (S S' : HP) (x0 : Int) (r : Int) (hsh : s13_goesBracket S x0 = some (r, S')) : Met l yX13_goesBracket (e_wu yX13_goesBracket cX13_goesBracket 3 (some .boolean)) ({ frames := 2, cells := 0, slots := 0, locals := 49 } : Room) (va_Pc [e_rv B (x0)] (fun U => e_PU D cA B S U)) (e_Qi D cA B r S') 0 0 (e_A B) := by
  refine Met.ofW (cc := cX13_goesBracket) (maxL := 3) (ret := (some .boolean)) (by decide +kernel) rfl ?_
  intro p e s m args below meth c s₁ Bd hml hv
  obtain ⟨rfl, hp⟩ := hv
  have hp : e_Pic D cA B S s s.heap := hp
  have hx := Bd.exec
  have hb := Bd.bytes
  have hrt := Bd.returns
  have hlk := Bd.notSynchronized
  have hown : s.vm.findClass RX13 = some m.cls := findClass_of_methodNamed Bd.named
  have hts : ∀ w ∈ e_tb, w.before ([e_rv B (x0)] : List Value).toArray s = true := fun w h => atoms_spec (ws := (e_wu yX13_goesBracket cX13_goesBracket 3 (some .boolean))) Bd.pre w (List.mem_cons_of_mem _ h)
  have E : e_En p s m ([e_rv B (x0)] : List Value).toArray meth c cX13_goesBracket RX13 3 (some .boolean) := ⟨hx, hb, hml, hown, hts, hlk, hrt⟩
  have hS : va_S (e_A B) s.heap s.heap [] := va_S.rf
  have hl := e_entry (vs := [e_rv B (x0)]) (n := 3) (Nat.le_of_ble_eq_true rfl) (e_cc (e_rv_cat _ _) e_cn)
  rw [lg_entry_eq]
  generalize (lg_sl [e_rv B (x0)] ++ List.replicate (3 - (lg_sl [e_rv B (x0)]).length) Slot.unset).toArray = ls at hl ⊢
  generalize ([e_rv B (x0)] : List Value).toArray = args at hts E ⊢
  have hl : e_lo ls 3 [(0, e_rv B (x0))] := hl
  have hsh := (gd_some hsh).2
  refine e_aload_n (B := B) (x := x0) hx hb dX13_goesBracket_0 rfl (hl.at 0 rfl) ?_
  obtain ⟨v1, h1, hsh⟩ := Option.bind_eq_some_iff.mp hsh
  refine e_getI (k := 47) hx hb hts in_X13 hown hp h1 rfl (by decide) (by decide) rfl (hts _ kf13_299) rfl dX13_goesBracket_1 ?_
  refine e_istore_n (lv' := [(1, .int (iI (v1))), (0, e_rv B (x0))]) hx hb dX13_goesBracket_4 rfl hl (by decide) rfl (fun ls hl => ?_)
  exact w13_goesBracket_l5 E 1000000 hp hS (hl.sub [1, 0] rfl) hsh
theorem ok13_goesSeen {S : HP} {x0 : Int} {x1 : Int} {x2 : Int} {r : Int × HP} (h : s13_goesSeen S x0 x1 x2 = some r) : 0 ≤ x0 ∧ x0.toNat < e_n S ∧ e_g S x0.toNat = 13 := (gd_some h).1
set_option maxRecDepth 100000 in
set_option maxHeartbeats 4000000 in
theorem w13_goesSeen_b35 {p : Program} {l : Launch} {e : Env} {s : State} {m : MethodId} {args : Array Value} {below : List Frame} {meth : Method} {c : Code} {D : va_G} {cA : Nat → ClassId} {B : Nat} {res : Int × HP} {k8 : HP → Int → Int → Int → Int → Int → Option (Int × HP)} (hk8 : ∀ {ls : Array Slot} {H : Heap} {locs : List Loc} {S : HP} {x0 : Int} {x1 : Int} {x2 : Int} {x3 : Int} {x4 : Int} (hp : e_Pic D cA B S s H) (hS : va_S (e_A B) s.heap H locs) (hl : e_lo ls 5 [(0, e_rv B (x0)), (1, .int (iI (x1))), (2, .int (iI (x2))), (3, .int (iI (x3))), (4, .int (iI (x4)))]) (hsh : k8 S x0 x1 x2 x3 x4 = some res), W p l e ({ frames := 2, cells := 0, slots := 0, locals := 46 } : Room) s m args below meth c H locs 0 0 (MQ below (e_Qi D cA B res.1 res.2) args s 0 0 (e_A B)) (F0 m 8 ls [])) (E : e_En p s m args meth c cX13_goesSeen RX13 5 (some .boolean)) {ls : Array Slot} {H : Heap} {locs : List Loc} {S : HP} {x0 : Int} {x1 : Int} {x2 : Int} {x4 : Int} {y0 : Int} (hp : e_Pic D cA B S s H) (hS : va_S (e_A B) s.heap H locs) (hl : e_lo ls 5 [(0, e_rv B (x0)), (1, .int (iI (x1))), (2, .int (iI (x2))), (4, .int (iI (x4)))]) (hsh : s13_goesSeen_b35 k8 S x0 x1 x2 x4 y0 = some res) : W p l e ({ frames := 2, cells := 0, slots := 0, locals := 46 } : Room) s m args below meth c H locs 0 0 (MQ below (e_Qi D cA B res.1 res.2) args s 0 0 (e_A B)) (F0 m 35 ls [.int (iI (y0))]) := by
  obtain ⟨hx, hb, hml, hown, hts, hlk, hrt⟩ := id E
  unfold s13_goesSeen_b35 at hsh
  refine e_istore_n (lv' := [(3, .int (iI (y0))), (0, e_rv B (x0)), (1, .int (iI (x1))), (2, .int (iI (x2))), (4, .int (iI (x4)))]) hx hb dX13_goesSeen_35 rfl hl (by decide) rfl (fun ls hl => ?_)
  refine lv_iload_n hx hb dX13_goesSeen_36 rfl (hl.at 0 rfl) ?_
  refine lv_iconst (v := iI (0)) hx hb dX13_goesSeen_37 rfl ?_
  refine e_aload_n (B := B) (x := x0) hx hb dX13_goesSeen_38 rfl (hl.at 1 rfl) ?_
  obtain ⟨v39, h39, hsh⟩ := Option.bind_eq_some_iff.mp hsh
  refine e_getI (k := 2) hx hb hts in_X13 hown hp h39 rfl (by decide) (by decide) rfl (hts _ kf13_13) rfl dX13_goesSeen_39 ?_
  refine lv_iconst (v := iI (1)) hx hb dX13_goesSeen_42 rfl ?_
  refine e_isub hx hb dX13_goesSeen_43 ?_
  obtain ⟨⟨v44, S44⟩, h44, hsh⟩ := Option.bind_eq_some_iff.mp hsh
  have hsh : _ = _ := hsh
  try dsimp only at hsh
  refine e_callS (nL := 5) (mc := 0) (ms := 0) (As := [.int (iI (y0)), .int (iI (0)), .int (iI ((v39 - 1)))]) (rest := []) hx hb hml hown hts hp hS hl.size (c13_isIn l D cA B S S44 (y0) (0) ((v39 - 1)) v44 h44) rfl rfl kd13_isIn (kl13_198) ks13_isIn ki13 kh13_isIn ⟨Nat.le_of_ble_eq_true rfl, Nat.le_of_ble_eq_true rfl⟩ rfl (by simp [e_rv_cat, e_int_cat]) ⟨Nat.le_refl _, Nat.le_refl _⟩ dX13_goesSeen_44 rfl (fun H locs hp hS => ?_)
  refine e_if_ne (tgt := 52) hx hb dX13_goesSeen_47 (by decide) (fun c47 => ?_) (fun c47 => ?_)
  · rw [if_neg c47] at hsh
    refine e_aload_n (B := B) (x := x0) hx hb dX13_goesSeen_52 rfl (hl.at 1 rfl) ?_
    refine lv_iload_n hx hb dX13_goesSeen_53 rfl (hl.at 0 rfl) ?_
    obtain ⟨⟨v54, S54⟩, h54, hsh⟩ := Option.bind_eq_some_iff.mp hsh
    have hsh : _ = _ := hsh
    try dsimp only at hsh
    have ok54 := ok13_firstSeen h54
    refine e_callI (nL := 5) (mc := 0) (ms := 0) (T := TX13) (N := 126) (As := [.int (iI (y0))]) (rest := []) hx hb hml hown hts hp hS hl.size ok54.1 ok54.2.1 ok54.2.2 rfl (by decide) (c13_firstSeen l D cA B S44 S54 (x0) (y0) v54 h54) rfl rfl kd13_firstSeen (kl13_346) ks13_firstSeen kv13_firstSeen ki13 kh13_firstSeen ⟨Nat.le_of_ble_eq_true rfl, Nat.le_of_ble_eq_true rfl⟩ rfl (by simp [e_rv_cat, e_int_cat]) ⟨Nat.le_refl _, Nat.le_refl _⟩ dX13_goesSeen_54 rfl (fun H locs hp hS => ?_)
    refine e_istore_n (lv' := [(3, .int (iI (v54))), (0, e_rv B (x0)), (1, .int (iI (x1))), (2, .int (iI (x2))), (4, .int (iI (x4)))]) hx hb dX13_goesSeen_57 rfl hl (by decide) rfl (fun ls hl => ?_)
    refine e_iinc (n := 1) (x := x4) (lv' := [(4, .int (iI ((x4 + 1)))), (3, .int (iI (v54))), (0, e_rv B (x0)), (1, .int (iI (x1))), (2, .int (iI (x2)))]) hx hb dX13_goesSeen_58 hl (k := 4) rfl (by decide) rfl (fun ls hl => ?_)
    refine lv_goto (tgt := 8) hx hb dX13_goesSeen_61 (by decide) ?_
    exact hk8 hp hS (hl.sub [2, 3, 4, 1, 0] rfl) hsh
  · rw [if_pos c47] at hsh
    refine lv_iconst (v := iI (0)) hx hb dX13_goesSeen_50 rfl ?_
    obtain ⟨hz, hz1, hz2⟩ := zR_some hsh
    rw [← hz1, ← hz2]
    exact e_zret hx hb hrt hlk hp hS hz dX13_goesSeen_51
set_option maxRecDepth 100000 in
set_option maxHeartbeats 4000000 in
theorem w13_goesSeen_l8 {p : Program} {l : Launch} {e : Env} {s : State} {m : MethodId} {args : Array Value} {below : List Frame} {meth : Method} {c : Code} {D : va_G} {cA : Nat → ClassId} {B : Nat} {res : Int × HP} (E : e_En p s m args meth c cX13_goesSeen RX13 5 (some .boolean)) : ∀ (f : Nat) {ls : Array Slot} {H : Heap} {locs : List Loc} {S : HP} {x0 : Int} {x1 : Int} {x2 : Int} {x3 : Int} {x4 : Int} (hp : e_Pic D cA B S s H) (hS : va_S (e_A B) s.heap H locs) (hl : e_lo ls 5 [(0, e_rv B (x0)), (1, .int (iI (x1))), (2, .int (iI (x2))), (3, .int (iI (x3))), (4, .int (iI (x4)))]) (hsh : s13_goesSeen_l8 f S x0 x1 x2 x3 x4 = some res), W p l e ({ frames := 2, cells := 0, slots := 0, locals := 46 } : Room) s m args below meth c H locs 0 0 (MQ below (e_Qi D cA B res.1 res.2) args s 0 0 (e_A B)) (F0 m 8 ls []) := by
  obtain ⟨hx, hb, hml, hown, hts, hlk, hrt⟩ := id E
  intro f
  induction f with
  | zero => intro ls H locs S x0 x1 x2 x3 x4 hp hS hl hsh; cases hsh
  | succ f ih =>
    intro ls H locs S x0 x1 x2 x3 x4 hp hS hl hsh
    have hk8 : ∀ {ls : Array Slot} {H : Heap} {locs : List Loc} {S : HP} {x0 : Int} {x1 : Int} {x2 : Int} {x3 : Int} {x4 : Int} (hp : e_Pic D cA B S s H) (hS : va_S (e_A B) s.heap H locs) (hl : e_lo ls 5 [(0, e_rv B (x0)), (1, .int (iI (x1))), (2, .int (iI (x2))), (3, .int (iI (x3))), (4, .int (iI (x4)))]) (hsh : (s13_goesSeen_l8 f) S x0 x1 x2 x3 x4 = some res), W p l e ({ frames := 2, cells := 0, slots := 0, locals := 46 } : Room) s m args below meth c H locs 0 0 (MQ below (e_Qi D cA B res.1 res.2) args s 0 0 (e_A B)) (F0 m 8 ls []) := ih
    generalize hkk : s13_goesSeen_l8 f = k8 at hk8
    rw [s13_goesSeen_l8] at hsh
    rw [hkk] at hsh
    try dsimp only at hsh
    refine lv_iload hx hb dX13_goesSeen_8 (hl.at 4 rfl) ?_
    refine lv_iload_n hx hb dX13_goesSeen_10 rfl (hl.at 1 rfl) ?_
    refine e_icmp_ge (tgt := 64) hx hb dX13_goesSeen_11 (by decide) (fun c11 => ?_) (fun c11 => ?_)
    · rw [if_pos c11] at hsh
      refine e_aload_n (B := B) (x := x0) hx hb dX13_goesSeen_64 rfl (hl.at 0 rfl) ?_
      refine lv_iload_n hx hb dX13_goesSeen_65 rfl (hl.at 3 rfl) ?_
      refine e_aload_n (B := B) (x := x0) hx hb dX13_goesSeen_66 rfl (hl.at 0 rfl) ?_
      obtain ⟨v67, h67, hsh⟩ := Option.bind_eq_some_iff.mp hsh
      refine e_getI (k := 7) hx hb hts in_X13 hown hp h67 rfl (by decide) (by decide) rfl (hts _ kf13_219) rfl dX13_goesSeen_67 ?_
      refine e_aload_n (B := B) (x := x0) hx hb dX13_goesSeen_70 rfl (hl.at 0 rfl) ?_
      refine lv_iload_n hx hb dX13_goesSeen_71 rfl (hl.at 3 rfl) ?_
      obtain ⟨⟨v72, S72⟩, h72, hsh⟩ := Option.bind_eq_some_iff.mp hsh
      have hsh : _ = _ := hsh
      try dsimp only at hsh
      have ok72 := ok13_lastOf h72
      refine e_callI (nL := 5) (mc := 0) (ms := 0) (T := TX13) (N := 126) (As := [.int (iI (x3))]) (rest := [.int (iI (v67)), .int (iI (x3)), e_rv B (x0)]) hx hb hml hown hts hp hS hl.size ok72.1 ok72.2.1 ok72.2.2 rfl (by decide) (c13_lastOf l D cA B S S72 (x0) (x3) v72 h72) rfl rfl kd13_lastOf (kl13_309) ks13_lastOf kv13_lastOf ki13 kh13_lastOf ⟨Nat.le_of_ble_eq_true rfl, Nat.le_of_ble_eq_true rfl⟩ rfl (by simp [e_rv_cat, e_int_cat]) ⟨Nat.le_refl _, Nat.le_refl _⟩ dX13_goesSeen_72 rfl (fun H locs hp hS => ?_)
      obtain ⟨⟨v75, S75⟩, h75, hsh⟩ := Option.bind_eq_some_iff.mp hsh
      have hsh : _ = _ := hsh
      try dsimp only at hsh
      refine e_callS (nL := 5) (mc := 0) (ms := 0) (As := [.int (iI (v67)), .int (iI (v72))]) (rest := [.int (iI (x3)), e_rv B (x0)]) hx hb hml hown hts hp hS hl.size (c13_lesser l D cA B S72 S75 (v67) (v72) v75 h75) rfl rfl kd13_lesser (kl13_257) ks13_lesser ki13 kh13_lesser ⟨Nat.le_of_ble_eq_true rfl, Nat.le_of_ble_eq_true rfl⟩ rfl (by simp [e_rv_cat, e_int_cat]) ⟨Nat.le_refl _, Nat.le_refl _⟩ dX13_goesSeen_75 rfl (fun H locs hp hS => ?_)
      obtain ⟨S78, h78, hsh⟩ := Option.bind_eq_some_iff.mp hsh
      have ok78 := ok13_reaches h78
      refine e_callV (nL := 5) (mc := 0) (ms := 0) (T := TX13) (N := 126) (As := [.int (iI (x3)), .int (iI (v75))]) (rest := []) hx hb hml hown hts hp hS hl.size ok78.1 ok78.2.1 ok78.2.2 rfl (by decide) (c13_reaches l D cA B S75 S78 (x0) (x3) (v75) h78) rfl rfl kd13_reaches (kl13_306) ks13_reaches kv13_reaches ki13 kh13_reaches ⟨Nat.le_of_ble_eq_true rfl, Nat.le_of_ble_eq_true rfl⟩ rfl (by simp [e_rv_cat, e_int_cat]) ⟨Nat.le_refl _, Nat.le_refl _⟩ dX13_goesSeen_78 rfl (fun H locs hp hS => ?_)
      refine lv_iconst (v := iI (1)) hx hb dX13_goesSeen_81 rfl ?_
      obtain ⟨hz, hz1, hz2⟩ := zR_some hsh
      rw [← hz1, ← hz2]
      exact e_zret hx hb hrt hlk hp hS hz dX13_goesSeen_82
    · rw [if_neg c11] at hsh
      refine lv_iload_n hx hb dX13_goesSeen_14 rfl (hl.at 2 rfl) ?_
      refine e_if_le (tgt := 28) hx hb dX13_goesSeen_15 (by decide) (fun c15 => ?_) (fun c15 => ?_)
      · rw [if_pos c15] at hsh
        refine e_aload_n (B := B) (x := x0) hx hb dX13_goesSeen_28 rfl (hl.at 0 rfl) ?_
        refine lv_iload_n hx hb dX13_goesSeen_29 rfl (hl.at 3 rfl) ?_
        obtain ⟨⟨v30, S30⟩, h30, hsh⟩ := Option.bind_eq_some_iff.mp hsh
        have hsh : _ = _ := hsh
        try dsimp only at hsh
        have ok30 := ok13_firstSeen h30
        refine e_callI (nL := 5) (mc := 0) (ms := 0) (T := TX13) (N := 126) (As := [.int (iI (x3))]) (rest := []) hx hb hml hown hts hp hS hl.size ok30.1 ok30.2.1 ok30.2.2 rfl (by decide) (c13_firstSeen l D cA B S S30 (x0) (x3) v30 h30) rfl rfl kd13_firstSeen (kl13_346) ks13_firstSeen kv13_firstSeen ki13 kh13_firstSeen ⟨Nat.le_of_ble_eq_true rfl, Nat.le_of_ble_eq_true rfl⟩ rfl (by simp [e_rv_cat, e_int_cat]) ⟨Nat.le_refl _, Nat.le_refl _⟩ dX13_goesSeen_30 rfl (fun H locs hp hS => ?_)
        refine lv_iconst (v := iI (1)) hx hb dX13_goesSeen_33 rfl ?_
        refine e_isub hx hb dX13_goesSeen_34 ?_
        exact w13_goesSeen_b35 (hk8 := hk8) E hp hS (hl.sub [0, 1, 2, 4] rfl) hsh
      · rw [if_neg c15] at hsh
        refine e_aload_n (B := B) (x := x0) hx hb dX13_goesSeen_18 rfl (hl.at 0 rfl) ?_
        refine lv_iload_n hx hb dX13_goesSeen_19 rfl (hl.at 3 rfl) ?_
        obtain ⟨⟨v20, S20⟩, h20, hsh⟩ := Option.bind_eq_some_iff.mp hsh
        have hsh : _ = _ := hsh
        try dsimp only at hsh
        have ok20 := ok13_lastSeen h20
        refine e_callI (nL := 5) (mc := 0) (ms := 0) (T := TX13) (N := 126) (As := [.int (iI (x3))]) (rest := []) hx hb hml hown hts hp hS hl.size ok20.1 ok20.2.1 ok20.2.2 rfl (by decide) (c13_lastSeen l D cA B S S20 (x0) (x3) v20 h20) rfl rfl kd13_lastSeen (kl13_343) ks13_lastSeen kv13_lastSeen ki13 kh13_lastSeen ⟨Nat.le_of_ble_eq_true rfl, Nat.le_of_ble_eq_true rfl⟩ rfl (by simp [e_rv_cat, e_int_cat]) ⟨Nat.le_refl _, Nat.le_refl _⟩ dX13_goesSeen_20 rfl (fun H locs hp hS => ?_)
        refine lv_iconst (v := iI (1)) hx hb dX13_goesSeen_23 rfl ?_
        refine e_iadd hx hb dX13_goesSeen_24 ?_
        refine lv_goto (tgt := 35) hx hb dX13_goesSeen_25 (by decide) ?_
        exact w13_goesSeen_b35 (hk8 := hk8) E hp hS (hl.sub [0, 1, 2, 4] rfl) hsh
set_option maxRecDepth 100000 in
set_option maxHeartbeats 4000000 in
theorem c13_goesSeen (l : Launch) (D : va_G) (cA : Nat → ClassId) (B : Nat) (S S' : HP) (x0 : Int) (x1 : Int) (x2 : Int) (r : Int) (hsh : s13_goesSeen S x0 x1 x2 = some (r, S')) : Met l yX13_goesSeen (e_wu yX13_goesSeen cX13_goesSeen 5 (some .boolean)) ({ frames := 2, cells := 0, slots := 0, locals := 46 } : Room) (va_Pc [e_rv B (x0), .int (iI (x1)), .int (iI (x2))] (fun U => e_PU D cA B S U)) (e_Qi D cA B r S') 0 0 (e_A B) := by
  refine Met.ofW (cc := cX13_goesSeen) (maxL := 5) (ret := (some .boolean)) (by decide +kernel) rfl ?_
  intro p e s m args below meth c s₁ Bd hml hv
  obtain ⟨rfl, hp⟩ := hv
  have hp : e_Pic D cA B S s s.heap := hp
  have hx := Bd.exec
  have hb := Bd.bytes
  have hrt := Bd.returns
  have hlk := Bd.notSynchronized
  have hown : s.vm.findClass RX13 = some m.cls := findClass_of_methodNamed Bd.named
  have hts : ∀ w ∈ e_tb, w.before ([e_rv B (x0), .int (iI (x1)), .int (iI (x2))] : List Value).toArray s = true := fun w h => atoms_spec (ws := (e_wu yX13_goesSeen cX13_goesSeen 5 (some .boolean))) Bd.pre w (List.mem_cons_of_mem _ h)
  have E : e_En p s m ([e_rv B (x0), .int (iI (x1)), .int (iI (x2))] : List Value).toArray meth c cX13_goesSeen RX13 5 (some .boolean) := ⟨hx, hb, hml, hown, hts, hlk, hrt⟩
  have hS : va_S (e_A B) s.heap s.heap [] := va_S.rf
  have hl := e_entry (vs := [e_rv B (x0), .int (iI (x1)), .int (iI (x2))]) (n := 5) (Nat.le_of_ble_eq_true rfl) (e_cc (e_rv_cat _ _) (e_cc rfl (e_cc rfl e_cn)))
  rw [lg_entry_eq]
  generalize (lg_sl [e_rv B (x0), .int (iI (x1)), .int (iI (x2))] ++ List.replicate (5 - (lg_sl [e_rv B (x0), .int (iI (x1)), .int (iI (x2))]).length) Slot.unset).toArray = ls at hl ⊢
  generalize ([e_rv B (x0), .int (iI (x1)), .int (iI (x2))] : List Value).toArray = args at hts E ⊢
  have hl : e_lo ls 5 [(0, e_rv B (x0)), (1, .int (iI (x1))), (2, .int (iI (x2)))] := hl
  have hsh := (gd_some hsh).2
  refine e_aload_n (B := B) (x := x0) hx hb dX13_goesSeen_0 rfl (hl.at 0 rfl) ?_
  obtain ⟨v1, h1, hsh⟩ := Option.bind_eq_some_iff.mp hsh
  refine e_getI (k := 5) hx hb hts in_X13 hown hp h1 rfl (by decide) (by decide) rfl (hts _ kf13_213) rfl dX13_goesSeen_1 ?_
  refine e_istore_n (lv' := [(3, .int (iI (v1))), (0, e_rv B (x0)), (1, .int (iI (x1))), (2, .int (iI (x2)))]) hx hb dX13_goesSeen_4 rfl hl (by decide) rfl (fun ls hl => ?_)
  refine lv_iconst (v := iI (0)) hx hb dX13_goesSeen_5 rfl ?_
  refine e_istore (lv' := [(4, .int (iI (0))), (3, .int (iI (v1))), (0, e_rv B (x0)), (1, .int (iI (x1))), (2, .int (iI (x2)))]) hx hb dX13_goesSeen_6 hl (by decide) rfl (fun ls hl => ?_)
  exact w13_goesSeen_l8 E 1000000 hp hS (hl.sub [2, 3, 4, 1, 0] rfl) hsh
theorem ok13_goesLine {S : HP} {x0 : Int} {x1 : Int} {r : Int × HP} (h : s13_goesLine S x0 x1 = some r) : 0 ≤ x0 ∧ x0.toNat < e_n S ∧ e_g S x0.toNat = 13 := (gd_some h).1
set_option maxRecDepth 100000 in
set_option maxHeartbeats 4000000 in
theorem c13_goesLine (l : Launch) (D : va_G) (cA : Nat → ClassId) (B : Nat) (S S' : HP) (x0 : Int) (x1 : Int) (r : Int) (hsh : s13_goesLine S x0 x1 = some (r, S')) : Met l yX13_goesLine (e_wu yX13_goesLine cX13_goesLine 2 (some .boolean)) ({ frames := 2, cells := 0, slots := 0, locals := 44 } : Room) (va_Pc [e_rv B (x0), .int (iI (x1))] (fun U => e_PU D cA B S U)) (e_Qi D cA B r S') 0 0 (e_A B) := by
  refine Met.ofW (cc := cX13_goesLine) (maxL := 2) (ret := (some .boolean)) (by decide +kernel) rfl ?_
  intro p e s m args below meth c s₁ Bd hml hv
  obtain ⟨rfl, hp⟩ := hv
  have hp : e_Pic D cA B S s s.heap := hp
  have hx := Bd.exec
  have hb := Bd.bytes
  have hrt := Bd.returns
  have hlk := Bd.notSynchronized
  have hown : s.vm.findClass RX13 = some m.cls := findClass_of_methodNamed Bd.named
  have hts : ∀ w ∈ e_tb, w.before ([e_rv B (x0), .int (iI (x1))] : List Value).toArray s = true := fun w h => atoms_spec (ws := (e_wu yX13_goesLine cX13_goesLine 2 (some .boolean))) Bd.pre w (List.mem_cons_of_mem _ h)
  have E : e_En p s m ([e_rv B (x0), .int (iI (x1))] : List Value).toArray meth c cX13_goesLine RX13 2 (some .boolean) := ⟨hx, hb, hml, hown, hts, hlk, hrt⟩
  have hS : va_S (e_A B) s.heap s.heap [] := va_S.rf
  have hl := e_entry (vs := [e_rv B (x0), .int (iI (x1))]) (n := 2) (Nat.le_of_ble_eq_true rfl) (e_cc (e_rv_cat _ _) (e_cc rfl e_cn))
  rw [lg_entry_eq]
  generalize (lg_sl [e_rv B (x0), .int (iI (x1))] ++ List.replicate (2 - (lg_sl [e_rv B (x0), .int (iI (x1))]).length) Slot.unset).toArray = ls at hl ⊢
  generalize ([e_rv B (x0), .int (iI (x1))] : List Value).toArray = args at hts E ⊢
  have hl : e_lo ls 2 [(0, e_rv B (x0)), (1, .int (iI (x1)))] := hl
  have hsh := (gd_some hsh).2
  refine e_aload_n (B := B) (x := x0) hx hb dX13_goesLine_0 rfl (hl.at 0 rfl) ?_
  refine lv_iload_n hx hb dX13_goesLine_1 rfl (hl.at 1 rfl) ?_
  refine e_aload_n (B := B) (x := x0) hx hb dX13_goesLine_2 rfl (hl.at 0 rfl) ?_
  refine lv_iload_n hx hb dX13_goesLine_3 rfl (hl.at 1 rfl) ?_
  obtain ⟨⟨v4, S4⟩, h4, hsh⟩ := Option.bind_eq_some_iff.mp hsh
  have hsh : _ = _ := hsh
  try dsimp only at hsh
  have ok4 := ok13_indent h4
  refine e_callI (nL := 2) (mc := 0) (ms := 0) (T := TX13) (N := 126) (As := [.int (iI (x1))]) (rest := [.int (iI (x1)), e_rv B (x0)]) hx hb hml hown hts hp hS hl.size ok4.1 ok4.2.1 ok4.2.2 rfl (by decide) (c13_indent l D cA B S S4 (x0) (x1) v4 h4) rfl rfl kd13_indent (kl13_222) ks13_indent kv13_indent ki13 kh13_indent ⟨Nat.le_of_ble_eq_true rfl, Nat.le_of_ble_eq_true rfl⟩ rfl (by simp [e_rv_cat, e_int_cat]) ⟨Nat.le_refl _, Nat.le_refl _⟩ dX13_goesLine_4 rfl (fun H locs hp hS => ?_)
  obtain ⟨S7, h7, hsh⟩ := Option.bind_eq_some_iff.mp hsh
  have ok7 := ok13_reaches h7
  refine e_callV (nL := 2) (mc := 0) (ms := 0) (T := TX13) (N := 126) (As := [.int (iI (x1)), .int (iI (v4))]) (rest := []) hx hb hml hown hts hp hS hl.size ok7.1 ok7.2.1 ok7.2.2 rfl (by decide) (c13_reaches l D cA B S4 S7 (x0) (x1) (v4) h7) rfl rfl kd13_reaches (kl13_306) ks13_reaches kv13_reaches ki13 kh13_reaches ⟨Nat.le_of_ble_eq_true rfl, Nat.le_of_ble_eq_true rfl⟩ rfl (by simp [e_rv_cat, e_int_cat]) ⟨Nat.le_refl _, Nat.le_refl _⟩ dX13_goesLine_7 rfl (fun H locs hp hS => ?_)
  refine lv_iconst (v := iI (1)) hx hb dX13_goesLine_10 rfl ?_
  obtain ⟨hz, hz1, hz2⟩ := zR_some hsh
  rw [← hz1, ← hz2]
  exact e_zret hx hb hrt hlk hp hS hz dX13_goesLine_11
theorem ok13_goesMark {S : HP} {x0 : Int} {x1 : Int} {x2 : Int} {r : Int × HP} (h : s13_goesMark S x0 x1 x2 = some r) : 0 ≤ x0 ∧ x0.toNat < e_n S ∧ e_g S x0.toNat = 13 := (gd_some h).1
set_option maxRecDepth 100000 in
set_option maxHeartbeats 4000000 in
theorem w13_goesMark_b48 {p : Program} {l : Launch} {e : Env} {s : State} {m : MethodId} {args : Array Value} {below : List Frame} {meth : Method} {c : Code} {D : va_G} {cA : Nat → ClassId} {B : Nat} {res : Int × HP} (E : e_En p s m args meth c cX13_goesMark RX13 4 (some .boolean)) {ls : Array Slot} {H : Heap} {locs : List Loc} {S : HP} {y0 : Int} {y1 : Int} {y2 : Int} (hp : e_Pic D cA B S s H) (hS : va_S (e_A B) s.heap H locs) (hl : e_lo ls 4 []) (hsh : s13_goesMark_b48 S y0 y1 y2 = some res) : W p l e ({ frames := 2, cells := 0, slots := 0, locals := 44 } : Room) s m args below meth c H locs 0 0 (MQ below (e_Qi D cA B res.1 res.2) args s 0 0 (e_A B)) (F0 m 48 ls [.int (iI (y2)), .int (iI (y1)), e_rv B (y0)]) := by
  obtain ⟨hx, hb, hml, hown, hts, hlk, hrt⟩ := id E
  unfold s13_goesMark_b48 at hsh
  obtain ⟨S48, h48, hsh⟩ := Option.bind_eq_some_iff.mp hsh
  have ok48 := ok13_reaches h48
  refine e_callV (nL := 4) (mc := 0) (ms := 0) (T := TX13) (N := 126) (As := [.int (iI (y1)), .int (iI (y2))]) (rest := []) hx hb hml hown hts hp hS hl.size ok48.1 ok48.2.1 ok48.2.2 rfl (by decide) (c13_reaches l D cA B S S48 (y0) (y1) (y2) h48) rfl rfl kd13_reaches (kl13_306) ks13_reaches kv13_reaches ki13 kh13_reaches ⟨Nat.le_of_ble_eq_true rfl, Nat.le_of_ble_eq_true rfl⟩ rfl (by simp [e_rv_cat, e_int_cat]) ⟨Nat.le_refl _, Nat.le_refl _⟩ dX13_goesMark_48 rfl (fun H locs hp hS => ?_)
  refine lv_iconst (v := iI (1)) hx hb dX13_goesMark_51 rfl ?_
  obtain ⟨hz, hz1, hz2⟩ := zR_some hsh
  rw [← hz1, ← hz2]
  exact e_zret hx hb hrt hlk hp hS hz dX13_goesMark_52
set_option maxRecDepth 100000 in
set_option maxHeartbeats 4000000 in
theorem c13_goesMark (l : Launch) (D : va_G) (cA : Nat → ClassId) (B : Nat) (S S' : HP) (x0 : Int) (x1 : Int) (x2 : Int) (r : Int) (hsh : s13_goesMark S x0 x1 x2 = some (r, S')) : Met l yX13_goesMark (e_wu yX13_goesMark cX13_goesMark 4 (some .boolean)) ({ frames := 2, cells := 0, slots := 0, locals := 44 } : Room) (va_Pc [e_rv B (x0), .int (iI (x1)), .int (iI (x2))] (fun U => e_PU D cA B S U)) (e_Qi D cA B r S') 0 0 (e_A B) := by
  refine Met.ofW (cc := cX13_goesMark) (maxL := 4) (ret := (some .boolean)) (by decide +kernel) rfl ?_
  intro p e s m args below meth c s₁ Bd hml hv
  obtain ⟨rfl, hp⟩ := hv
  have hp : e_Pic D cA B S s s.heap := hp
  have hx := Bd.exec
  have hb := Bd.bytes
  have hrt := Bd.returns
  have hlk := Bd.notSynchronized
  have hown : s.vm.findClass RX13 = some m.cls := findClass_of_methodNamed Bd.named
  have hts : ∀ w ∈ e_tb, w.before ([e_rv B (x0), .int (iI (x1)), .int (iI (x2))] : List Value).toArray s = true := fun w h => atoms_spec (ws := (e_wu yX13_goesMark cX13_goesMark 4 (some .boolean))) Bd.pre w (List.mem_cons_of_mem _ h)
  have E : e_En p s m ([e_rv B (x0), .int (iI (x1)), .int (iI (x2))] : List Value).toArray meth c cX13_goesMark RX13 4 (some .boolean) := ⟨hx, hb, hml, hown, hts, hlk, hrt⟩
  have hS : va_S (e_A B) s.heap s.heap [] := va_S.rf
  have hl := e_entry (vs := [e_rv B (x0), .int (iI (x1)), .int (iI (x2))]) (n := 4) (Nat.le_of_ble_eq_true rfl) (e_cc (e_rv_cat _ _) (e_cc rfl (e_cc rfl e_cn)))
  rw [lg_entry_eq]
  generalize (lg_sl [e_rv B (x0), .int (iI (x1)), .int (iI (x2))] ++ List.replicate (4 - (lg_sl [e_rv B (x0), .int (iI (x1)), .int (iI (x2))]).length) Slot.unset).toArray = ls at hl ⊢
  generalize ([e_rv B (x0), .int (iI (x1)), .int (iI (x2))] : List Value).toArray = args at hts E ⊢
  have hl : e_lo ls 4 [(0, e_rv B (x0)), (1, .int (iI (x1))), (2, .int (iI (x2)))] := hl
  have hsh := (gd_some hsh).2
  refine e_aload_n (B := B) (x := x0) hx hb dX13_goesMark_0 rfl (hl.at 0 rfl) ?_
  obtain ⟨v1, h1, hsh⟩ := Option.bind_eq_some_iff.mp hsh
  refine e_getR (k := 14) hx hb hts in_X13 hown hp h1 rfl (by decide) (by decide) rfl (hts _ kf13_33) rfl dX13_goesMark_1 ?_
  refine lv_iload_n hx hb dX13_goesMark_4 rfl (hl.at 1 rfl) ?_
  refine lv_bipush (v := iI (97)) hx hb dX13_goesMark_5 (by decide +kernel) ?_
  refine e_isub hx hb dX13_goesMark_7 ?_
  obtain ⟨v8, h8, hsh⟩ := Option.bind_eq_some_iff.mp hsh
  refine e_iald hx hb hp h8 dX13_goesMark_8 ?_
  refine e_istore_n (lv' := [(3, .int (iI (v8))), (0, e_rv B (x0)), (1, .int (iI (x1))), (2, .int (iI (x2)))]) hx hb dX13_goesMark_9 rfl hl (by decide) rfl (fun ls hl => ?_)
  refine lv_iload_n hx hb dX13_goesMark_10 rfl (hl.at 0 rfl) ?_
  refine lv_iconst (v := iI (-1)) hx hb dX13_goesMark_11 rfl ?_
  refine e_icmp_ne (tgt := 17) hx hb dX13_goesMark_12 (by decide) (fun c12 => ?_) (fun c12 => ?_)
  · rw [if_neg c12] at hsh
    refine e_aload_n (B := B) (x := x0) hx hb dX13_goesMark_17 rfl (hl.at 1 rfl) ?_
    refine lv_iload_n hx hb dX13_goesMark_18 rfl (hl.at 0 rfl) ?_
    refine lv_iload_n hx hb dX13_goesMark_19 rfl (hl.at 3 rfl) ?_
    refine e_if_eq (tgt := 43) hx hb dX13_goesMark_20 (by decide) (fun c20 => ?_) (fun c20 => ?_)
    · rw [if_pos c20] at hsh
      refine e_aload_n (B := B) (x := x0) hx hb dX13_goesMark_43 rfl (hl.at 1 rfl) ?_
      refine lv_iload_n hx hb dX13_goesMark_44 rfl (hl.at 0 rfl) ?_
      obtain ⟨⟨v45, S45⟩, h45, hsh⟩ := Option.bind_eq_some_iff.mp hsh
      have hsh : _ = _ := hsh
      try dsimp only at hsh
      have ok45 := ok13_indent h45
      refine e_callI (nL := 4) (mc := 0) (ms := 0) (T := TX13) (N := 126) (As := [.int (iI (v8))]) (rest := [.int (iI (v8)), e_rv B (x0)]) hx hb hml hown hts hp hS hl.size ok45.1 ok45.2.1 ok45.2.2 rfl (by decide) (c13_indent l D cA B S S45 (x0) (v8) v45 h45) rfl rfl kd13_indent (kl13_222) ks13_indent kv13_indent ki13 kh13_indent ⟨Nat.le_of_ble_eq_true rfl, Nat.le_of_ble_eq_true rfl⟩ rfl (by simp [e_rv_cat, e_int_cat]) ⟨Nat.le_refl _, Nat.le_refl _⟩ dX13_goesMark_45 rfl (fun H locs hp hS => ?_)
      exact w13_goesMark_b48 E hp hS (hl.sub [] rfl) hsh
    · rw [if_neg c20] at hsh
      refine e_aload_n (B := B) (x := x0) hx hb dX13_goesMark_23 rfl (hl.at 1 rfl) ?_
      obtain ⟨v24, h24, hsh⟩ := Option.bind_eq_some_iff.mp hsh
      refine e_getR (k := 15) hx hb hts in_X13 hown hp h24 rfl (by decide) (by decide) rfl (hts _ kf13_36) rfl dX13_goesMark_24 ?_
      refine lv_iload_n hx hb dX13_goesMark_27 rfl (hl.at 2 rfl) ?_
      refine lv_bipush (v := iI (97)) hx hb dX13_goesMark_28 (by decide +kernel) ?_
      refine e_isub hx hb dX13_goesMark_30 ?_
      obtain ⟨v31, h31, hsh⟩ := Option.bind_eq_some_iff.mp hsh
      refine e_iald hx hb hp h31 dX13_goesMark_31 ?_
      refine e_aload_n (B := B) (x := x0) hx hb dX13_goesMark_32 rfl (hl.at 1 rfl) ?_
      refine lv_iload_n hx hb dX13_goesMark_33 rfl (hl.at 0 rfl) ?_
      obtain ⟨⟨v34, S34⟩, h34, hsh⟩ := Option.bind_eq_some_iff.mp hsh
      have hsh : _ = _ := hsh
      try dsimp only at hsh
      have ok34 := ok13_lastOf h34
      refine e_callI (nL := 4) (mc := 0) (ms := 0) (T := TX13) (N := 126) (As := [.int (iI (v8))]) (rest := [.int (iI (v31)), .int (iI (v8)), e_rv B (x0)]) hx hb hml hown hts hp hS hl.size ok34.1 ok34.2.1 ok34.2.2 rfl (by decide) (c13_lastOf l D cA B S S34 (x0) (v8) v34 h34) rfl rfl kd13_lastOf (kl13_309) ks13_lastOf kv13_lastOf ki13 kh13_lastOf ⟨Nat.le_of_ble_eq_true rfl, Nat.le_of_ble_eq_true rfl⟩ rfl (by simp [e_rv_cat, e_int_cat]) ⟨Nat.le_refl _, Nat.le_refl _⟩ dX13_goesMark_34 rfl (fun H locs hp hS => ?_)
      obtain ⟨⟨v37, S37⟩, h37, hsh⟩ := Option.bind_eq_some_iff.mp hsh
      have hsh : _ = _ := hsh
      try dsimp only at hsh
      refine e_callS (nL := 4) (mc := 0) (ms := 0) (As := [.int (iI (v31)), .int (iI (v34))]) (rest := [.int (iI (v8)), e_rv B (x0)]) hx hb hml hown hts hp hS hl.size (c13_lesser l D cA B S34 S37 (v31) (v34) v37 h37) rfl rfl kd13_lesser (kl13_257) ks13_lesser ki13 kh13_lesser ⟨Nat.le_of_ble_eq_true rfl, Nat.le_of_ble_eq_true rfl⟩ rfl (by simp [e_rv_cat, e_int_cat]) ⟨Nat.le_refl _, Nat.le_refl _⟩ dX13_goesMark_37 rfl (fun H locs hp hS => ?_)
      refine lv_goto (tgt := 48) hx hb dX13_goesMark_40 (by decide) ?_
      exact w13_goesMark_b48 E hp hS (hl.sub [] rfl) hsh
  · rw [if_pos c12] at hsh
    refine lv_iconst (v := iI (0)) hx hb dX13_goesMark_15 rfl ?_
    obtain ⟨hz, hz1, hz2⟩ := zR_some hsh
    rw [← hz1, ← hz2]
    exact e_zret hx hb hrt hlk hp hS hz dX13_goesMark_16
theorem ok13_goesFound {S : HP} {x0 : Int} {x1 : Int} {x2 : Int} {x3 : Int} {r : Int × HP} (h : s13_goesFound S x0 x1 x2 x3 = some r) : 0 ≤ x0 ∧ x0.toNat < e_n S ∧ e_g S x0.toNat = 13 := (gd_some h).1
set_option maxRecDepth 100000 in
set_option maxHeartbeats 4000000 in
theorem w13_goesFound_b40 {p : Program} {l : Launch} {e : Env} {s : State} {m : MethodId} {args : Array Value} {below : List Frame} {meth : Method} {c : Code} {D : va_G} {cA : Nat → ClassId} {B : Nat} {res : Int × HP} (E : e_En p s m args meth c cX13_goesFound RX13 4 (some .boolean)) {ls : Array Slot} {H : Heap} {locs : List Loc} {S : HP} {y0 : Int} (hp : e_Pic D cA B S s H) (hS : va_S (e_A B) s.heap H locs) (hl : e_lo ls 4 []) (hsh : s13_goesFound_b40 S y0 = some res) : W p l e ({ frames := 2, cells := 0, slots := 0, locals := 48 } : Room) s m args below meth c H locs 0 0 (MQ below (e_Qi D cA B res.1 res.2) args s 0 0 (e_A B)) (F0 m 40 ls [.int (iI (y0))]) := by
  obtain ⟨hx, hb, hml, hown, hts, hlk, hrt⟩ := id E
  unfold s13_goesFound_b40 at hsh
  obtain ⟨hz, hz1, hz2⟩ := zR_some hsh
  rw [← hz1, ← hz2]
  exact e_zret hx hb hrt hlk hp hS hz dX13_goesFound_40
set_option maxRecDepth 100000 in
set_option maxHeartbeats 4000000 in
theorem w13_goesFound_b39 {p : Program} {l : Launch} {e : Env} {s : State} {m : MethodId} {args : Array Value} {below : List Frame} {meth : Method} {c : Code} {D : va_G} {cA : Nat → ClassId} {B : Nat} {res : Int × HP} (E : e_En p s m args meth c cX13_goesFound RX13 4 (some .boolean)) {ls : Array Slot} {H : Heap} {locs : List Loc} {S : HP} (hp : e_Pic D cA B S s H) (hS : va_S (e_A B) s.heap H locs) (hl : e_lo ls 4 []) (hsh : s13_goesFound_b39 S  = some res) : W p l e ({ frames := 2, cells := 0, slots := 0, locals := 48 } : Room) s m args below meth c H locs 0 0 (MQ below (e_Qi D cA B res.1 res.2) args s 0 0 (e_A B)) (F0 m 39 ls []) := by
  obtain ⟨hx, hb, hml, hown, hts, hlk, hrt⟩ := id E
  unfold s13_goesFound_b39 at hsh
  refine lv_iconst (v := iI (0)) hx hb dX13_goesFound_39 rfl ?_
  exact w13_goesFound_b40 E hp hS (hl.sub [] rfl) hsh
set_option maxRecDepth 100000 in
set_option maxHeartbeats 4000000 in
theorem w13_goesFound_b18 {p : Program} {l : Launch} {e : Env} {s : State} {m : MethodId} {args : Array Value} {below : List Frame} {meth : Method} {c : Code} {D : va_G} {cA : Nat → ClassId} {B : Nat} {res : Int × HP} (E : e_En p s m args meth c cX13_goesFound RX13 4 (some .boolean)) {ls : Array Slot} {H : Heap} {locs : List Loc} {S : HP} {x0 : Int} {x1 : Int} {x2 : Int} {x3 : Int} {y0 : Int} {y1 : Int} (hp : e_Pic D cA B S s H) (hS : va_S (e_A B) s.heap H locs) (hl : e_lo ls 4 [(0, e_rv B (x0)), (1, .int (iI (x1))), (2, .int (iI (x2))), (3, .int (iI (x3)))]) (hsh : s13_goesFound_b18 S x0 x1 x2 x3 y0 y1 = some res) : W p l e ({ frames := 2, cells := 0, slots := 0, locals := 48 } : Room) s m args below meth c H locs 0 0 (MQ below (e_Qi D cA B res.1 res.2) args s 0 0 (e_A B)) (F0 m 18 ls [.int (iI (y1)), e_rv B (y0)]) := by
  obtain ⟨hx, hb, hml, hown, hts, hlk, hrt⟩ := id E
  unfold s13_goesFound_b18 at hsh
  obtain ⟨S18, h18, hsh⟩ := Option.bind_eq_some_iff.mp hsh
  refine e_putI (k := 48) hx hb hts in_X13 tyX13 tyX13_ok nmX13 hown hp hS h18 rfl (by decide) (by decide) rfl (hts _ kf13_349) rfl rfl (by decide +kernel) dX13_goesFound_18 (fun H locs hp hS => ?_)
  refine lv_iload_n hx hb dX13_goesFound_21 rfl (hl.at 1 rfl) ?_
  refine e_if_eq (tgt := 39) hx hb dX13_goesFound_22 (by decide) (fun c22 => ?_) (fun c22 => ?_)
  · rw [if_pos c22] at hsh
    exact w13_goesFound_b39 E hp hS (hl.sub [] rfl) hsh
  · rw [if_neg c22] at hsh
    refine e_aload_n (B := B) (x := x0) hx hb dX13_goesFound_25 rfl (hl.at 0 rfl) ?_
    refine lv_iload_n hx hb dX13_goesFound_26 rfl (hl.at 1 rfl) ?_
    refine lv_iload_n hx hb dX13_goesFound_27 rfl (hl.at 2 rfl) ?_
    refine lv_iload_n hx hb dX13_goesFound_28 rfl (hl.at 3 rfl) ?_
    obtain ⟨⟨v29, S29⟩, h29, hsh⟩ := Option.bind_eq_some_iff.mp hsh
    have hsh : _ = _ := hsh
    try dsimp only at hsh
    have ok29 := ok13_goesSign h29
    refine e_callI (nL := 4) (mc := 0) (ms := 0) (T := TX13) (N := 126) (As := [.int (iI (x1)), .int (iI (x2)), .int (iI (x3))]) (rest := []) hx hb hml hown hts hp hS hl.size ok29.1 ok29.2.1 ok29.2.2 rfl (by decide) (c13_goesSign l D cA B S18 S29 (x0) (x1) (x2) (x3) v29 h29) rfl rfl kd13_goesSign (kl13_352) ks13_goesSign kv13_goesSign ki13 kh13_goesSign ⟨Nat.le_of_ble_eq_true rfl, Nat.le_of_ble_eq_true rfl⟩ rfl (by simp [e_rv_cat, e_int_cat]) ⟨Nat.le_refl _, Nat.le_refl _⟩ dX13_goesFound_29 rfl (fun H locs hp hS => ?_)
    refine e_if_eq (tgt := 39) hx hb dX13_goesFound_32 (by decide) (fun c32 => ?_) (fun c32 => ?_)
    · rw [if_pos c32] at hsh
      exact w13_goesFound_b39 E hp hS (hl.sub [] rfl) hsh
    · rw [if_neg c32] at hsh
      refine lv_iconst (v := iI (1)) hx hb dX13_goesFound_35 rfl ?_
      refine lv_goto (tgt := 40) hx hb dX13_goesFound_36 (by decide) ?_
      exact w13_goesFound_b40 E hp hS (hl.sub [] rfl) hsh
set_option maxRecDepth 100000 in
set_option maxHeartbeats 4000000 in
theorem w13_goesFound_b13 {p : Program} {l : Launch} {e : Env} {s : State} {m : MethodId} {args : Array Value} {below : List Frame} {meth : Method} {c : Code} {D : va_G} {cA : Nat → ClassId} {B : Nat} {res : Int × HP} (E : e_En p s m args meth c cX13_goesFound RX13 4 (some .boolean)) {ls : Array Slot} {H : Heap} {locs : List Loc} {S : HP} {x0 : Int} {x1 : Int} {x2 : Int} {x3 : Int} {y0 : Int} (hp : e_Pic D cA B S s H) (hS : va_S (e_A B) s.heap H locs) (hl : e_lo ls 4 [(0, e_rv B (x0)), (1, .int (iI (x1))), (2, .int (iI (x2))), (3, .int (iI (x3)))]) (hsh : s13_goesFound_b13 S x0 x1 x2 x3 y0 = some res) : W p l e ({ frames := 2, cells := 0, slots := 0, locals := 48 } : Room) s m args below meth c H locs 0 0 (MQ below (e_Qi D cA B res.1 res.2) args s 0 0 (e_A B)) (F0 m 13 ls [e_rv B (y0)]) := by
  obtain ⟨hx, hb, hml, hown, hts, hlk, hrt⟩ := id E
  unfold s13_goesFound_b13 at hsh
  refine lv_iconst (v := iI (1)) hx hb dX13_goesFound_13 rfl ?_
  refine lv_goto (tgt := 18) hx hb dX13_goesFound_14 (by decide) ?_
  exact w13_goesFound_b18 E hp hS (hl.sub [0, 1, 2, 3] rfl) hsh
set_option maxRecDepth 100000 in
set_option maxHeartbeats 4000000 in
theorem c13_goesFound (l : Launch) (D : va_G) (cA : Nat → ClassId) (B : Nat) (S S' : HP) (x0 : Int) (x1 : Int) (x2 : Int) (x3 : Int) (r : Int) (hsh : s13_goesFound S x0 x1 x2 x3 = some (r, S')) : Met l yX13_goesFound (e_wu yX13_goesFound cX13_goesFound 4 (some .boolean)) ({ frames := 2, cells := 0, slots := 0, locals := 48 } : Room) (va_Pc [e_rv B (x0), .int (iI (x1)), .int (iI (x2)), .int (iI (x3))] (fun U => e_PU D cA B S U)) (e_Qi D cA B r S') 0 0 (e_A B) := by
  refine Met.ofW (cc := cX13_goesFound) (maxL := 4) (ret := (some .boolean)) (by decide +kernel) rfl ?_
  intro p e s m args below meth c s₁ Bd hml hv
  obtain ⟨rfl, hp⟩ := hv
  have hp : e_Pic D cA B S s s.heap := hp
  have hx := Bd.exec
  have hb := Bd.bytes
  have hrt := Bd.returns
  have hlk := Bd.notSynchronized
  have hown : s.vm.findClass RX13 = some m.cls := findClass_of_methodNamed Bd.named
  have hts : ∀ w ∈ e_tb, w.before ([e_rv B (x0), .int (iI (x1)), .int (iI (x2)), .int (iI (x3))] : List Value).toArray s = true := fun w h => atoms_spec (ws := (e_wu yX13_goesFound cX13_goesFound 4 (some .boolean))) Bd.pre w (List.mem_cons_of_mem _ h)
  have E : e_En p s m ([e_rv B (x0), .int (iI (x1)), .int (iI (x2)), .int (iI (x3))] : List Value).toArray meth c cX13_goesFound RX13 4 (some .boolean) := ⟨hx, hb, hml, hown, hts, hlk, hrt⟩
  have hS : va_S (e_A B) s.heap s.heap [] := va_S.rf
  have hl := e_entry (vs := [e_rv B (x0), .int (iI (x1)), .int (iI (x2)), .int (iI (x3))]) (n := 4) (Nat.le_of_ble_eq_true rfl) (e_cc (e_rv_cat _ _) (e_cc rfl (e_cc rfl (e_cc rfl e_cn))))
  rw [lg_entry_eq]
  generalize (lg_sl [e_rv B (x0), .int (iI (x1)), .int (iI (x2)), .int (iI (x3))] ++ List.replicate (4 - (lg_sl [e_rv B (x0), .int (iI (x1)), .int (iI (x2)), .int (iI (x3))]).length) Slot.unset).toArray = ls at hl ⊢
  generalize ([e_rv B (x0), .int (iI (x1)), .int (iI (x2)), .int (iI (x3))] : List Value).toArray = args at hts E ⊢
  have hl : e_lo ls 4 [(0, e_rv B (x0)), (1, .int (iI (x1))), (2, .int (iI (x2))), (3, .int (iI (x3)))] := hl
  have hsh := (gd_some hsh).2
  refine e_aload_n (B := B) (x := x0) hx hb dX13_goesFound_0 rfl (hl.at 0 rfl) ?_
  refine lv_iload_n hx hb dX13_goesFound_1 rfl (hl.at 1 rfl) ?_
  refine lv_bipush (v := iI (102)) hx hb dX13_goesFound_2 (by decide +kernel) ?_
  refine e_icmp_eq (tgt := 13) hx hb dX13_goesFound_4 (by decide) (fun c4 => ?_) (fun c4 => ?_)
  · rw [if_pos c4] at hsh
    exact w13_goesFound_b13 E hp hS (hl.sub [0, 1, 2, 3] rfl) hsh
  · rw [if_neg c4] at hsh
    refine lv_iload_n hx hb dX13_goesFound_7 rfl (hl.at 1 rfl) ?_
    refine lv_bipush (v := iI (116)) hx hb dX13_goesFound_8 (by decide +kernel) ?_
    refine e_icmp_ne (tgt := 17) hx hb dX13_goesFound_10 (by decide) (fun c10 => ?_) (fun c10 => ?_)
    · rw [if_neg c10] at hsh
      refine lv_iconst (v := iI (0)) hx hb dX13_goesFound_17 rfl ?_
      exact w13_goesFound_b18 E hp hS (hl.sub [0, 1, 2, 3] rfl) hsh
    · rw [if_pos c10] at hsh
      exact w13_goesFound_b13 E hp hS (hl.sub [0, 1, 2, 3] rfl) hsh
